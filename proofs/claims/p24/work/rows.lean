section
-- ===== PART A: goes FIRST, ahead of the names: the tables' words, and 'selects' of the private methods out of them =====
/-- a private method of a class that the tables say can be made, by its rows of tables_1 -/
def lw_okq (q : MethodName × Nat) : Prop := (q.1.cls ≠ "java/lang/invoke/MethodHandle" ∧ q.1.cls ≠ "java/lang/invoke/VarHandle") ∧ Cond.instantiable q.1.cls q.2 ∈ tables_1 ∧ Cond.privateMethod q.1 ∈ tables_1 ∧ Cond.instanceMethod q.1 ∈ tables_1
theorem lw_p0 : lw_okq (⟨"BookDroplets$History", "placeBehindLast", "()I"⟩, 3) := ⟨⟨by decide +kernel, by decide +kernel⟩, List.mem_of_getElem? (i := 101) (by decide +kernel), List.mem_of_getElem? (i := 218) (by decide +kernel), List.mem_of_getElem? (i := 219) (by decide +kernel)⟩
theorem lw_p1 : lw_okq (⟨"BookDroplets", "changeSetting", "(II)I"⟩, 7) := ⟨⟨by decide +kernel, by decide +kernel⟩, List.mem_of_getElem? (i := 12) (by decide +kernel), List.mem_of_getElem? (i := 237) (by decide +kernel), List.mem_of_getElem? (i := 238) (by decide +kernel)⟩
theorem lw_p2 : lw_okq (⟨"BookDroplets", "addChapter", "(I)I"⟩, 7) := ⟨⟨by decide +kernel, by decide +kernel⟩, List.mem_of_getElem? (i := 12) (by decide +kernel), List.mem_of_getElem? (i := 252) (by decide +kernel), List.mem_of_getElem? (i := 253) (by decide +kernel)⟩
theorem lw_p3 : lw_okq (⟨"BookDroplets", "addCup", "()I"⟩, 7) := ⟨⟨by decide +kernel, by decide +kernel⟩, List.mem_of_getElem? (i := 12) (by decide +kernel), List.mem_of_getElem? (i := 261) (by decide +kernel), List.mem_of_getElem? (i := 262) (by decide +kernel)⟩
theorem lw_p4 : lw_okq (⟨"BookDroplets", "pourDroplets", "(III)I"⟩, 7) := ⟨⟨by decide +kernel, by decide +kernel⟩, List.mem_of_getElem? (i := 12) (by decide +kernel), List.mem_of_getElem? (i := 269) (by decide +kernel), List.mem_of_getElem? (i := 270) (by decide +kernel)⟩
theorem lw_p5 : lw_okq (⟨"BookDroplets", "errorOfDroplets", "(II)I"⟩, 7) := ⟨⟨by decide +kernel, by decide +kernel⟩, List.mem_of_getElem? (i := 12) (by decide +kernel), List.mem_of_getElem? (i := 277) (by decide +kernel), List.mem_of_getElem? (i := 278) (by decide +kernel)⟩
theorem lw_p6 : lw_okq (⟨"BookDroplets$Droplet", "addFrom", "(LBookDroplets$State;I)V"⟩, 4) := ⟨⟨by decide +kernel, by decide +kernel⟩, List.mem_of_getElem? (i := 145) (by decide +kernel), List.mem_of_getElem? (i := 301) (by decide +kernel), List.mem_of_getElem? (i := 302) (by decide +kernel)⟩
theorem lw_p7 : lw_okq (⟨"BookDroplets$Cup", "learn", "(II)V"⟩, 8) := ⟨⟨by decide +kernel, by decide +kernel⟩, List.mem_of_getElem? (i := 27) (by decide +kernel), List.mem_of_getElem? (i := 320) (by decide +kernel), List.mem_of_getElem? (i := 321) (by decide +kernel)⟩
theorem lw_p8 : lw_okq (⟨"BookDroplets$Cup", "peel", "()V"⟩, 8) := ⟨⟨by decide +kernel, by decide +kernel⟩, List.mem_of_getElem? (i := 27) (by decide +kernel), List.mem_of_getElem? (i := 324) (by decide +kernel), List.mem_of_getElem? (i := 325) (by decide +kernel)⟩
theorem lw_p9 : lw_okq (⟨"BookDroplets$Cup", "firstPeelable", "()I"⟩, 8) := ⟨⟨by decide +kernel, by decide +kernel⟩, List.mem_of_getElem? (i := 27) (by decide +kernel), List.mem_of_getElem? (i := 328) (by decide +kernel), List.mem_of_getElem? (i := 329) (by decide +kernel)⟩
theorem lw_p10 : lw_okq (⟨"BookDroplets$Cup", "removeKept", "(I)V"⟩, 8) := ⟨⟨by decide +kernel, by decide +kernel⟩, List.mem_of_getElem? (i := 27) (by decide +kernel), List.mem_of_getElem? (i := 333) (by decide +kernel), List.mem_of_getElem? (i := 334) (by decide +kernel)⟩
theorem lw_p11 : lw_okq (⟨"BookDroplets$Cup", "keepIfRoom", "(II)Z"⟩, 8) := ⟨⟨by decide +kernel, by decide +kernel⟩, List.mem_of_getElem? (i := 27) (by decide +kernel), List.mem_of_getElem? (i := 337) (by decide +kernel), List.mem_of_getElem? (i := 338) (by decide +kernel)⟩
theorem lw_p12 : lw_okq (⟨"BookDroplets", "isFull", "(LBookDroplets$Cup;)Z"⟩, 7) := ⟨⟨by decide +kernel, by decide +kernel⟩, List.mem_of_getElem? (i := 12) (by decide +kernel), List.mem_of_getElem? (i := 349) (by decide +kernel), List.mem_of_getElem? (i := 350) (by decide +kernel)⟩
theorem lw_p13 : lw_okq (⟨"BookDroplets", "fullCups", "()I"⟩, 7) := ⟨⟨by decide +kernel, by decide +kernel⟩, List.mem_of_getElem? (i := 12) (by decide +kernel), List.mem_of_getElem? (i := 380) (by decide +kernel), List.mem_of_getElem? (i := 381) (by decide +kernel)⟩
theorem lw_p14 : lw_okq (⟨"BookDroplets", "emptyCup", "(I)I"⟩, 7) := ⟨⟨by decide +kernel, by decide +kernel⟩, List.mem_of_getElem? (i := 12) (by decide +kernel), List.mem_of_getElem? (i := 420) (by decide +kernel), List.mem_of_getElem? (i := 421) (by decide +kernel)⟩
theorem lw_p15 : lw_okq (⟨"BookDroplets", "solveCup", "(I)I"⟩, 7) := ⟨⟨by decide +kernel, by decide +kernel⟩, List.mem_of_getElem? (i := 12) (by decide +kernel), List.mem_of_getElem? (i := 432) (by decide +kernel), List.mem_of_getElem? (i := 433) (by decide +kernel)⟩
def lw_privs_1 : List (MethodName × Nat) := [(⟨"BookDroplets$History", "placeBehindLast", "()I"⟩, 3), (⟨"BookDroplets", "changeSetting", "(II)I"⟩, 7), (⟨"BookDroplets", "addChapter", "(I)I"⟩, 7), (⟨"BookDroplets", "addCup", "()I"⟩, 7), (⟨"BookDroplets", "pourDroplets", "(III)I"⟩, 7), (⟨"BookDroplets", "errorOfDroplets", "(II)I"⟩, 7), (⟨"BookDroplets$Droplet", "addFrom", "(LBookDroplets$State;I)V"⟩, 4), (⟨"BookDroplets$Cup", "learn", "(II)V"⟩, 8), (⟨"BookDroplets$Cup", "peel", "()V"⟩, 8), (⟨"BookDroplets$Cup", "firstPeelable", "()I"⟩, 8), (⟨"BookDroplets$Cup", "removeKept", "(I)V"⟩, 8), (⟨"BookDroplets$Cup", "keepIfRoom", "(II)Z"⟩, 8), (⟨"BookDroplets", "isFull", "(LBookDroplets$Cup;)Z"⟩, 7), (⟨"BookDroplets", "fullCups", "()I"⟩, 7), (⟨"BookDroplets", "emptyCup", "(I)I"⟩, 7), (⟨"BookDroplets", "solveCup", "(I)I"⟩, 7)]
theorem lw_r1 : ∀ q ∈ lw_privs_1, lw_okq q := List.forall_mem_cons.mpr ⟨lw_p0, List.forall_mem_cons.mpr ⟨lw_p1, List.forall_mem_cons.mpr ⟨lw_p2, List.forall_mem_cons.mpr ⟨lw_p3, List.forall_mem_cons.mpr ⟨lw_p4, List.forall_mem_cons.mpr ⟨lw_p5, List.forall_mem_cons.mpr ⟨lw_p6, List.forall_mem_cons.mpr ⟨lw_p7, List.forall_mem_cons.mpr ⟨lw_p8, List.forall_mem_cons.mpr ⟨lw_p9, List.forall_mem_cons.mpr ⟨lw_p10, List.forall_mem_cons.mpr ⟨lw_p11, List.forall_mem_cons.mpr ⟨lw_p12, List.forall_mem_cons.mpr ⟨lw_p13, List.forall_mem_cons.mpr ⟨lw_p14, List.forall_mem_cons.mpr ⟨lw_p15, fun _ h => absurd h List.not_mem_nil⟩⟩⟩⟩⟩⟩⟩⟩⟩⟩⟩⟩⟩⟩⟩⟩
def lw_privs : List (MethodName × Nat) := lw_privs_1
def lw_tbl : List Cond := k2_sels lw_privs ++ tables_1
theorem lw_privs_ok : ∀ q ∈ lw_privs, lw_okq q := lw_r1

def RX0 : String := "BookDroplets$Cup"
def TX0 : u_T := fun k => match k with
  | 0 => ("BookDroplets$Cup", "known", "I", false)
  | 1 => ("BookDroplets$Cup", "keptCount", "I", false)
  | 2 => ("BookDroplets$Cup", "poured", "I", false)
  | 3 => ("BookDroplets$Cup", "lost", "I", false)
  | 4 => ("BookDroplets$Cup", "useless", "I", false)
  | 5 => ("BookDroplets$Cup", "learnt", "[I", true)
  | 6 => ("BookDroplets$Cup", "sets", "[I", true)
  | _ => ("BookDroplets$Cup", "numbers", "[I", true)
def tyX0 : Nat → FieldType := fun k => match k with
  | 0 => .int
  | 1 => .int
  | 2 => .int
  | 3 => .int
  | 4 => .int
  | 5 => .array .int
  | 6 => .array .int
  | _ => .array .int
abbrev wsX00 : List Cond := u_ws RX0 TX0 8
theorem nmX0 : ∀ a, a < 8 → ∀ b, b < 8 → a ≠ b → (TX0 a).2.1 ≠ (TX0 b).2.1 := by decide +kernel
theorem tyX0_ok : ∀ k, k < 8 → parseFieldDescriptor (TX0 k).2.2.1 = some (tyX0 k) := by decide +kernel
abbrev cX0_init : ByteArray := prog_2_method_1_code
def yX0_init : MethodName := ⟨RX0, "<init>", "()V"⟩
abbrev cX0_clear : ByteArray := prog_2_method_2_code
def yX0_clear : MethodName := ⟨RX0, "clear", "()V"⟩
abbrev cX0_copyFrom : ByteArray := prog_2_method_3_code
def yX0_copyFrom : MethodName := ⟨RX0, "copyFrom", "(LBookDroplets$Cup;)V"⟩
abbrev cX0_knownCount : ByteArray := prog_2_method_4_code
def yX0_knownCount : MethodName := ⟨RX0, "knownCount", "()I"⟩
abbrev cX0_receive : ByteArray := prog_2_method_5_code
def yX0_receive : MethodName := ⟨RX0, "receive", "(LBookDroplets$Droplet;)I"⟩
abbrev cX0_learnSingles : ByteArray := prog_2_method_6_code
def yX0_learnSingles : MethodName := ⟨RX0, "learnSingles", "(LBookDroplets$Rows;)I"⟩
abbrev cX0_keepIfRoom : ByteArray := prog_2_method_7_code
def yX0_keepIfRoom : MethodName := ⟨RX0, "keepIfRoom", "(II)Z"⟩
abbrev cX0_learn : ByteArray := prog_2_method_8_code
def yX0_learn : MethodName := ⟨RX0, "learn", "(II)V"⟩
abbrev cX0_peel : ByteArray := prog_2_method_9_code
def yX0_peel : MethodName := ⟨RX0, "peel", "()V"⟩
abbrev cX0_firstPeelable : ByteArray := prog_2_method_10_code
def yX0_firstPeelable : MethodName := ⟨RX0, "firstPeelable", "()I"⟩
abbrev cX0_removeKept : ByteArray := prog_2_method_11_code
def yX0_removeKept : MethodName := ⟨RX0, "removeKept", "(I)V"⟩
def RX1 : String := "BookDroplets$Droplet"
def TX1 : u_T := fun k => match k with
  | 0 => ("BookDroplets$Droplet", "lost", "Z", false)
  | 1 => ("BookDroplets$Droplet", "degree", "I", false)
  | 2 => ("BookDroplets$Droplet", "set", "I", false)
  | _ => ("BookDroplets$Droplet", "number", "I", false)
def tyX1 : Nat → FieldType := fun k => match k with
  | 0 => .boolean
  | 1 => .int
  | 2 => .int
  | _ => .int
abbrev wsX10 : List Cond := u_ws RX1 TX1 4
theorem nmX1 : ∀ a, a < 4 → ∀ b, b < 4 → a ≠ b → (TX1 a).2.1 ≠ (TX1 b).2.1 := by decide +kernel
theorem tyX1_ok : ∀ k, k < 4 → parseFieldDescriptor (TX1 k).2.2.1 = some (tyX1 k) := by decide +kernel
abbrev cX1_init : ByteArray := prog_3_method_1_code
def yX1_init : MethodName := ⟨RX1, "<init>", "()V"⟩
abbrev cX1_makeFrom : ByteArray := prog_3_method_2_code
def yX1_makeFrom : MethodName := ⟨RX1, "makeFrom", "(LBookDroplets$State;I)V"⟩
abbrev cX1_addFrom : ByteArray := prog_3_method_3_code
def yX1_addFrom : MethodName := ⟨RX1, "addFrom", "(LBookDroplets$State;I)V"⟩
abbrev cX1_nextDraw : ByteArray := prog_3_method_4_code
def yX1_nextDraw : MethodName := ⟨RX1, "nextDraw", "(I)I"⟩
abbrev cX1_degreeBy : ByteArray := prog_3_method_5_code
def yX1_degreeBy : MethodName := ⟨RX1, "degreeBy", "(III)I"⟩
abbrev cX1_commonDegree : ByteArray := prog_3_method_6_code
def yX1_commonDegree : MethodName := ⟨RX1, "commonDegree", "(I)I"⟩
def RX2 : String := "BookDroplets$History"
def TX2 : u_T := fun k => match k with
  | 0 => ("BookDroplets$History", "states", "[LBookDroplets$State;", true)
  | 1 => ("BookDroplets$History", "first", "I", false)
  | _ => ("BookDroplets$History", "count", "I", false)
def tyX2 : Nat → FieldType := fun k => match k with
  | 0 => .array (.object "BookDroplets$State")
  | 1 => .int
  | _ => .int
abbrev wsX20 : List Cond := u_ws RX2 TX2 3
theorem nmX2 : ∀ a, a < 3 → ∀ b, b < 3 → a ≠ b → (TX2 a).2.1 ≠ (TX2 b).2.1 := by decide +kernel
theorem tyX2_ok : ∀ k, k < 3 → parseFieldDescriptor (TX2 k).2.2.1 = some (tyX2 k) := by decide +kernel
abbrev cX2_init : ByteArray := prog_4_method_1_code
def yX2_init : MethodName := ⟨RX2, "<init>", "()V"⟩
abbrev cX2_note : ByteArray := prog_4_method_2_code
def yX2_note : MethodName := ⟨RX2, "note", "(LBookDroplets$State;)V"⟩
abbrev cX2_keepUnlessError : ByteArray := prog_4_method_3_code
def yX2_keepUnlessError : MethodName := ⟨RX2, "keepUnlessError", "(I)I"⟩
abbrev cX2_placeBehindLast : ByteArray := prog_4_method_5_code
def yX2_placeBehindLast : MethodName := ⟨RX2, "placeBehindLast", "()I"⟩
def RX3 : String := "BookDroplets$Pad"
def TX3 : u_T := fun k => match k with
  | 0 => ("BookDroplets$Pad", "signs", "[C", true)
  | 1 => ("BookDroplets$Pad", "length", "I", false)
  | 2 => ("BookDroplets$Pad", "place", "I", false)
  | 3 => ("BookDroplets$Pad", "kind", "C", false)
  | 4 => ("BookDroplets$Pad", "cup", "I", false)
  | 5 => ("BookDroplets$Pad", "number", "I", false)
  | _ => ("BookDroplets$Pad", "many", "I", false)
def tyX3 : Nat → FieldType := fun k => match k with
  | 0 => .array .char
  | 1 => .int
  | 2 => .int
  | 3 => .char
  | 4 => .int
  | 5 => .int
  | _ => .int
abbrev wsX30 : List Cond := u_ws RX3 TX3 7
theorem nmX3 : ∀ a, a < 7 → ∀ b, b < 7 → a ≠ b → (TX3 a).2.1 ≠ (TX3 b).2.1 := by decide +kernel
theorem tyX3_ok : ∀ k, k < 7 → parseFieldDescriptor (TX3 k).2.2.1 = some (tyX3 k) := by decide +kernel
abbrev cX3_init : ByteArray := prog_5_method_1_code
def yX3_init : MethodName := ⟨RX3, "<init>", "()V"⟩
def RX4 : String := "BookDroplets$Rows"
def TX4 : u_T := fun k => match k with
  | 0 => ("BookDroplets$Rows", "sets", "[I", true)
  | _ => ("BookDroplets$Rows", "numbers", "[I", true)
def tyX4 : Nat → FieldType := fun k => match k with
  | 0 => .array .int
  | _ => .array .int
abbrev wsX40 : List Cond := u_ws RX4 TX4 2
theorem nmX4 : ∀ a, a < 2 → ∀ b, b < 2 → a ≠ b → (TX4 a).2.1 ≠ (TX4 b).2.1 := by decide +kernel
theorem tyX4_ok : ∀ k, k < 2 → parseFieldDescriptor (TX4 k).2.2.1 = some (tyX4 k) := by decide +kernel
abbrev cX4_init : ByteArray := prog_6_method_1_code
def yX4_init : MethodName := ⟨RX4, "<init>", "()V"⟩
abbrev cX4_reduce : ByteArray := prog_6_method_2_code
def yX4_reduce : MethodName := ⟨RX4, "reduce", "(LBookDroplets$Cup;)V"⟩
abbrev cX4_isSingle : ByteArray := prog_6_method_3_code
def yX4_isSingle : MethodName := ⟨RX4, "isSingle", "(I)Z"⟩
abbrev cX4_singleCount : ByteArray := prog_6_method_4_code
def yX4_singleCount : MethodName := ⟨RX4, "singleCount", "()I"⟩
def RX5 : String := "BookDroplets$State"
def TX5 : u_T := fun k => match k with
  | 0 => ("BookDroplets$State", "way", "I", false)
  | 1 => ("BookDroplets$State", "loss", "I", false)
  | 2 => ("BookDroplets$State", "chapterCount", "I", false)
  | 3 => ("BookDroplets$State", "cupCount", "I", false)
  | 4 => ("BookDroplets$State", "poured", "I", false)
  | 5 => ("BookDroplets$State", "chapters", "[I", true)
  | _ => ("BookDroplets$State", "cups", "[LBookDroplets$Cup;", true)
def tyX5 : Nat → FieldType := fun k => match k with
  | 0 => .int
  | 1 => .int
  | 2 => .int
  | 3 => .int
  | 4 => .int
  | 5 => .array .int
  | _ => .array (.object "BookDroplets$Cup")
abbrev wsX50 : List Cond := u_ws RX5 TX5 7
theorem nmX5 : ∀ a, a < 7 → ∀ b, b < 7 → a ≠ b → (TX5 a).2.1 ≠ (TX5 b).2.1 := by decide +kernel
theorem tyX5_ok : ∀ k, k < 7 → parseFieldDescriptor (TX5 k).2.2.1 = some (tyX5 k) := by decide +kernel
abbrev cX5_init : ByteArray := prog_7_method_1_code
def yX5_init : MethodName := ⟨RX5, "<init>", "()V"⟩
abbrev cX5_cupAt : ByteArray := prog_7_method_2_code
def yX5_cupAt : MethodName := ⟨RX5, "cupAt", "(I)LBookDroplets$Cup;"⟩
abbrev cX5_allChapters : ByteArray := prog_7_method_3_code
def yX5_allChapters : MethodName := ⟨RX5, "allChapters", "()I"⟩
abbrev cX5_copyFrom : ByteArray := prog_7_method_4_code
def yX5_copyFrom : MethodName := ⟨RX5, "copyFrom", "(LBookDroplets$State;)V"⟩
def RX6 : String := "BookDroplets"
def TX6 : u_T := fun k => match k with
  | 0 => ("BookDroplets", "now", "LBookDroplets$State;", true)
  | 1 => ("BookDroplets", "history", "LBookDroplets$History;", true)
  | 2 => ("BookDroplets", "slots", "[LBookDroplets$State;", true)
  | 3 => ("BookDroplets", "pad", "LBookDroplets$Pad;", true)
  | 4 => ("BookDroplets", "fallen", "LBookDroplets$Droplet;", true)
  | 5 => ("BookDroplets", "trial", "LBookDroplets$Cup;", true)
  | _ => ("BookDroplets", "rows", "LBookDroplets$Rows;", true)
def tyX6 : Nat → FieldType := fun k => match k with
  | 0 => .object "BookDroplets$State"
  | 1 => .object "BookDroplets$History"
  | 2 => .array (.object "BookDroplets$State")
  | 3 => .object "BookDroplets$Pad"
  | 4 => .object "BookDroplets$Droplet"
  | 5 => .object "BookDroplets$Cup"
  | _ => .object "BookDroplets$Rows"
abbrev wsX60 : List Cond := u_ws RX6 TX6 7
theorem nmX6 : ∀ a, a < 7 → ∀ b, b < 7 → a ≠ b → (TX6 a).2.1 ≠ (TX6 b).2.1 := by decide +kernel
theorem tyX6_ok : ∀ k, k < 7 → parseFieldDescriptor (TX6 k).2.2.1 = some (tyX6 k) := by decide +kernel
abbrev cX6_init : ByteArray := prog_1_method_1_code
def yX6_init : MethodName := ⟨RX6, "<init>", "()V"⟩
abbrev cX6_set : ByteArray := prog_1_method_2_code
def yX6_set : MethodName := ⟨RX6, "set", "(II)I"⟩
abbrev cX6_chapter : ByteArray := prog_1_method_3_code
def yX6_chapter : MethodName := ⟨RX6, "chapter", "(I)I"⟩
abbrev cX6_cup : ByteArray := prog_1_method_4_code
def yX6_cup : MethodName := ⟨RX6, "cup", "()I"⟩
abbrev cX6_empty : ByteArray := prog_1_method_5_code
def yX6_empty : MethodName := ⟨RX6, "empty", "(I)I"⟩
abbrev cX6_pour : ByteArray := prog_1_method_6_code
def yX6_pour : MethodName := ⟨RX6, "pour", "(III)I"⟩
abbrev cX6_solve : ByteArray := prog_1_method_7_code
def yX6_solve : MethodName := ⟨RX6, "solve", "(I)I"⟩
abbrev cX6_droplet : ByteArray := prog_1_method_8_code
def yX6_droplet : MethodName := ⟨RX6, "droplet", "(II)I"⟩
abbrev cX6_ofCup : ByteArray := prog_1_method_9_code
def yX6_ofCup : MethodName := ⟨RX6, "ofCup", "(II)I"⟩
abbrev cX6_known : ByteArray := prog_1_method_10_code
def yX6_known : MethodName := ⟨RX6, "known", "(II)I"⟩
abbrev cX6_kept : ByteArray := prog_1_method_11_code
def yX6_kept : MethodName := ⟨RX6, "kept", "(III)I"⟩
abbrev cX6_count : ByteArray := prog_1_method_12_code
def yX6_count : MethodName := ⟨RX6, "count", "(I)I"⟩
abbrev cX6_would : ByteArray := prog_1_method_13_code
def yX6_would : MethodName := ⟨RX6, "would", "(II)I"⟩
abbrev cX6_degrees : ByteArray := prog_1_method_15_code
def yX6_degrees : MethodName := ⟨RX6, "degrees", "(III)I"⟩
abbrev cX6_changeSetting : ByteArray := prog_1_method_23_code
def yX6_changeSetting : MethodName := ⟨RX6, "changeSetting", "(II)I"⟩
abbrev cX6_addChapter : ByteArray := prog_1_method_24_code
def yX6_addChapter : MethodName := ⟨RX6, "addChapter", "(I)I"⟩
abbrev cX6_addCup : ByteArray := prog_1_method_25_code
def yX6_addCup : MethodName := ⟨RX6, "addCup", "()I"⟩
abbrev cX6_emptyCup : ByteArray := prog_1_method_26_code
def yX6_emptyCup : MethodName := ⟨RX6, "emptyCup", "(I)I"⟩
abbrev cX6_pourDroplets : ByteArray := prog_1_method_27_code
def yX6_pourDroplets : MethodName := ⟨RX6, "pourDroplets", "(III)I"⟩
abbrev cX6_solveCup : ByteArray := prog_1_method_28_code
def yX6_solveCup : MethodName := ⟨RX6, "solveCup", "(I)I"⟩
abbrev cX6_errorOfDroplets : ByteArray := prog_1_method_31_code
def yX6_errorOfDroplets : MethodName := ⟨RX6, "errorOfDroplets", "(II)I"⟩
abbrev cX6_isFull : ByteArray := prog_1_method_32_code
def yX6_isFull : MethodName := ⟨RX6, "isFull", "(LBookDroplets$Cup;)Z"⟩
abbrev cX6_fullCups : ByteArray := prog_1_method_33_code
def yX6_fullCups : MethodName := ⟨RX6, "fullCups", "()I"⟩
abbrev cX6_isWithin : ByteArray := prog_1_method_34_code
def yX6_isWithin : MethodName := ⟨RX6, "isWithin", "(III)Z"⟩
abbrev cX6_wrappedSeed : ByteArray := prog_1_method_35_code
def yX6_wrappedSeed : MethodName := ⟨RX6, "wrappedSeed", "(I)I"⟩
def RX7 : String := "BookDropletsModel"
def TX7 : u_T := fun k => match k with
  | _ => ("", "", "", false)
def tyX7 : Nat → FieldType := fun k => match k with
  | _ => .int
abbrev wsX70 : List Cond := u_ws RX7 TX7 0
theorem nmX7 : ∀ a, a < 0 → ∀ b, b < 0 → a ≠ b → (TX7 a).2.1 ≠ (TX7 b).2.1 := by decide +kernel
theorem tyX7_ok : ∀ k, k < 0 → parseFieldDescriptor (TX7 k).2.2.1 = some (tyX7 k) := by decide +kernel
def RJ6 : String := "java/lang/Integer"
abbrev cJ6_bitCount_0f7a4 : ByteArray := prog_10_method_49_code
def yJ6_bitCount_0f7a4 : MethodName := ⟨RJ6, "bitCount", "(I)I"⟩
def RJ9 : String := "java/lang/Math"
abbrev cJ9_floorMod_7cf53 : ByteArray := prog_11_method_50_code
def yJ9_floorMod_7cf53 : MethodName := ⟨RJ9, "floorMod", "(II)I"⟩
abbrev cJ9_min_7cf53 : ByteArray := prog_11_method_69_code
def yJ9_min_7cf53 : MethodName := ⟨RJ9, "min", "(II)I"⟩
def RJ10 : String := "java/lang/System"
def RL : String := "BookDropletsLaw"
abbrev cL_cell : ByteArray := method_2_code
def yL_cell : MethodName := ⟨RL, "cell", "([II)I"⟩
abbrev cL_low : ByteArray := method_3_code
def yL_low : MethodName := ⟨RL, "low", "(II)I"⟩
abbrev cL_size : ByteArray := method_4_code
def yL_size : MethodName := ⟨RL, "size", "(I)I"⟩
abbrev cL_draw : ByteArray := method_5_code
def yL_draw : MethodName := ⟨RL, "draw", "(I)I"⟩
abbrev cL_droplet : ByteArray := method_6_code
def yL_droplet : MethodName := ⟨RL, "droplet", "(LBookDroplets;[II)Z"⟩
abbrev cL_cup : ByteArray := method_7_code
def yL_cup : MethodName := ⟨RL, "cup", "(LBookDroplets;[II)Z"⟩
abbrev cL_peeled : ByteArray := method_8_code
def yL_peeled : MethodName := ⟨RL, "peeled", "([III)I"⟩
abbrev cL_poured : ByteArray := method_9_code
def yL_poured : MethodName := ⟨RL, "poured", "(LBookDroplets;II)Z"⟩
abbrev cL_act : ByteArray := method_10_code
def yL_act : MethodName := ⟨RL, "act", "(LBookDroplets;III)Z"⟩
abbrev cL_law : ByteArray := code
def yL_law : MethodName := ⟨RL, "law", "([I)Z"⟩
abbrev vwCl : List vw_C := [(RX0, TX0, 8), (RX1, TX1, 4), (RX2, TX2, 3), (RX3, TX3, 7), (RX4, TX4, 2), (RX5, TX5, 7), (RX6, TX6, 7)]
end
section
theorem dX0_init_0 : decode cX0_init 0 = .ok (.aload_n 0, 1) := by decide +kernel
theorem dX0_init_1 : decode cX0_init 1 = .ok (.invokespecial 3, 3) := by decide +kernel
theorem dX0_init_4 : decode cX0_init 4 = .ok (.aload_n 0, 1) := by decide +kernel
theorem dX0_init_5 : decode cX0_init 5 = .ok (.bipush 16, 2) := by decide +kernel
theorem dX0_init_7 : decode cX0_init 7 = .ok (.newarray .int, 2) := by decide +kernel
theorem dX0_init_9 : decode cX0_init 9 = .ok (.putfield 9, 3) := by decide +kernel
theorem dX0_init_12 : decode cX0_init 12 = .ok (.aload_n 0, 1) := by decide +kernel
theorem dX0_init_13 : decode cX0_init 13 = .ok (.bipush 24, 2) := by decide +kernel
theorem dX0_init_15 : decode cX0_init 15 = .ok (.newarray .int, 2) := by decide +kernel
theorem dX0_init_17 : decode cX0_init 17 = .ok (.putfield 15, 3) := by decide +kernel
theorem dX0_init_20 : decode cX0_init 20 = .ok (.aload_n 0, 1) := by decide +kernel
theorem dX0_init_21 : decode cX0_init 21 = .ok (.bipush 24, 2) := by decide +kernel
theorem dX0_init_23 : decode cX0_init 23 = .ok (.newarray .int, 2) := by decide +kernel
theorem dX0_init_25 : decode cX0_init 25 = .ok (.putfield 18, 3) := by decide +kernel
theorem dX0_init_28 : decode cX0_init 28 = .ok (.return_, 1) := by decide +kernel
theorem dX0_clear_0 : decode cX0_clear 0 = .ok (.aload_n 0, 1) := by decide +kernel
theorem dX0_clear_1 : decode cX0_clear 1 = .ok (.iconst 0, 1) := by decide +kernel
theorem dX0_clear_2 : decode cX0_clear 2 = .ok (.putfield 21, 3) := by decide +kernel
theorem dX0_clear_5 : decode cX0_clear 5 = .ok (.aload_n 0, 1) := by decide +kernel
theorem dX0_clear_6 : decode cX0_clear 6 = .ok (.iconst 0, 1) := by decide +kernel
theorem dX0_clear_7 : decode cX0_clear 7 = .ok (.putfield 25, 3) := by decide +kernel
theorem dX0_clear_10 : decode cX0_clear 10 = .ok (.aload_n 0, 1) := by decide +kernel
theorem dX0_clear_11 : decode cX0_clear 11 = .ok (.iconst 0, 1) := by decide +kernel
theorem dX0_clear_12 : decode cX0_clear 12 = .ok (.putfield 28, 3) := by decide +kernel
theorem dX0_clear_15 : decode cX0_clear 15 = .ok (.aload_n 0, 1) := by decide +kernel
theorem dX0_clear_16 : decode cX0_clear 16 = .ok (.iconst 0, 1) := by decide +kernel
theorem dX0_clear_17 : decode cX0_clear 17 = .ok (.putfield 31, 3) := by decide +kernel
theorem dX0_clear_20 : decode cX0_clear 20 = .ok (.aload_n 0, 1) := by decide +kernel
theorem dX0_clear_21 : decode cX0_clear 21 = .ok (.iconst 0, 1) := by decide +kernel
theorem dX0_clear_22 : decode cX0_clear 22 = .ok (.putfield 34, 3) := by decide +kernel
theorem dX0_clear_25 : decode cX0_clear 25 = .ok (.iconst 0, 1) := by decide +kernel
theorem dX0_clear_26 : decode cX0_clear 26 = .ok (.istore_n 1, 1) := by decide +kernel
theorem dX0_clear_27 : decode cX0_clear 27 = .ok (.iload_n 1, 1) := by decide +kernel
theorem dX0_clear_28 : decode cX0_clear 28 = .ok (.bipush 16, 2) := by decide +kernel
theorem dX0_clear_30 : decode cX0_clear 30 = .ok (.if_icmp .ge 16, 3) := by decide +kernel
theorem dX0_clear_33 : decode cX0_clear 33 = .ok (.aload_n 0, 1) := by decide +kernel
theorem dX0_clear_34 : decode cX0_clear 34 = .ok (.getfield 9, 3) := by decide +kernel
theorem dX0_clear_37 : decode cX0_clear 37 = .ok (.iload_n 1, 1) := by decide +kernel
theorem dX0_clear_38 : decode cX0_clear 38 = .ok (.iconst 0, 1) := by decide +kernel
theorem dX0_clear_39 : decode cX0_clear 39 = .ok (.iastore, 1) := by decide +kernel
theorem dX0_clear_40 : decode cX0_clear 40 = .ok (.iinc 1 1, 3) := by decide +kernel
theorem dX0_clear_43 : decode cX0_clear 43 = .ok (.goto (-16), 3) := by decide +kernel
theorem dX0_clear_46 : decode cX0_clear 46 = .ok (.iconst 0, 1) := by decide +kernel
theorem dX0_clear_47 : decode cX0_clear 47 = .ok (.istore_n 1, 1) := by decide +kernel
theorem dX0_clear_48 : decode cX0_clear 48 = .ok (.iload_n 1, 1) := by decide +kernel
theorem dX0_clear_49 : decode cX0_clear 49 = .ok (.bipush 24, 2) := by decide +kernel
theorem dX0_clear_51 : decode cX0_clear 51 = .ok (.if_icmp .ge 23, 3) := by decide +kernel
theorem dX0_clear_54 : decode cX0_clear 54 = .ok (.aload_n 0, 1) := by decide +kernel
theorem dX0_clear_55 : decode cX0_clear 55 = .ok (.getfield 15, 3) := by decide +kernel
theorem dX0_clear_58 : decode cX0_clear 58 = .ok (.iload_n 1, 1) := by decide +kernel
theorem dX0_clear_59 : decode cX0_clear 59 = .ok (.iconst 0, 1) := by decide +kernel
theorem dX0_clear_60 : decode cX0_clear 60 = .ok (.iastore, 1) := by decide +kernel
theorem dX0_clear_61 : decode cX0_clear 61 = .ok (.aload_n 0, 1) := by decide +kernel
theorem dX0_clear_62 : decode cX0_clear 62 = .ok (.getfield 18, 3) := by decide +kernel
theorem dX0_clear_65 : decode cX0_clear 65 = .ok (.iload_n 1, 1) := by decide +kernel
theorem dX0_clear_66 : decode cX0_clear 66 = .ok (.iconst 0, 1) := by decide +kernel
theorem dX0_clear_67 : decode cX0_clear 67 = .ok (.iastore, 1) := by decide +kernel
theorem dX0_clear_68 : decode cX0_clear 68 = .ok (.iinc 1 1, 3) := by decide +kernel
theorem dX0_clear_71 : decode cX0_clear 71 = .ok (.goto (-23), 3) := by decide +kernel
theorem dX0_clear_74 : decode cX0_clear 74 = .ok (.return_, 1) := by decide +kernel
theorem dX0_copyFrom_0 : decode cX0_copyFrom 0 = .ok (.aload_n 0, 1) := by decide +kernel
theorem dX0_copyFrom_1 : decode cX0_copyFrom 1 = .ok (.aload_n 1, 1) := by decide +kernel
theorem dX0_copyFrom_2 : decode cX0_copyFrom 2 = .ok (.getfield 21, 3) := by decide +kernel
theorem dX0_copyFrom_5 : decode cX0_copyFrom 5 = .ok (.putfield 21, 3) := by decide +kernel
theorem dX0_copyFrom_8 : decode cX0_copyFrom 8 = .ok (.aload_n 0, 1) := by decide +kernel
theorem dX0_copyFrom_9 : decode cX0_copyFrom 9 = .ok (.aload_n 1, 1) := by decide +kernel
theorem dX0_copyFrom_10 : decode cX0_copyFrom 10 = .ok (.getfield 25, 3) := by decide +kernel
theorem dX0_copyFrom_13 : decode cX0_copyFrom 13 = .ok (.putfield 25, 3) := by decide +kernel
theorem dX0_copyFrom_16 : decode cX0_copyFrom 16 = .ok (.aload_n 0, 1) := by decide +kernel
theorem dX0_copyFrom_17 : decode cX0_copyFrom 17 = .ok (.aload_n 1, 1) := by decide +kernel
theorem dX0_copyFrom_18 : decode cX0_copyFrom 18 = .ok (.getfield 28, 3) := by decide +kernel
theorem dX0_copyFrom_21 : decode cX0_copyFrom 21 = .ok (.putfield 28, 3) := by decide +kernel
theorem dX0_copyFrom_24 : decode cX0_copyFrom 24 = .ok (.aload_n 0, 1) := by decide +kernel
theorem dX0_copyFrom_25 : decode cX0_copyFrom 25 = .ok (.aload_n 1, 1) := by decide +kernel
theorem dX0_copyFrom_26 : decode cX0_copyFrom 26 = .ok (.getfield 31, 3) := by decide +kernel
theorem dX0_copyFrom_29 : decode cX0_copyFrom 29 = .ok (.putfield 31, 3) := by decide +kernel
theorem dX0_copyFrom_32 : decode cX0_copyFrom 32 = .ok (.aload_n 0, 1) := by decide +kernel
theorem dX0_copyFrom_33 : decode cX0_copyFrom 33 = .ok (.aload_n 1, 1) := by decide +kernel
theorem dX0_copyFrom_34 : decode cX0_copyFrom 34 = .ok (.getfield 34, 3) := by decide +kernel
theorem dX0_copyFrom_37 : decode cX0_copyFrom 37 = .ok (.putfield 34, 3) := by decide +kernel
theorem dX0_copyFrom_40 : decode cX0_copyFrom 40 = .ok (.aload_n 1, 1) := by decide +kernel
theorem dX0_copyFrom_41 : decode cX0_copyFrom 41 = .ok (.getfield 9, 3) := by decide +kernel
theorem dX0_copyFrom_44 : decode cX0_copyFrom 44 = .ok (.iconst 0, 1) := by decide +kernel
theorem dX0_copyFrom_45 : decode cX0_copyFrom 45 = .ok (.aload_n 0, 1) := by decide +kernel
theorem dX0_copyFrom_46 : decode cX0_copyFrom 46 = .ok (.getfield 9, 3) := by decide +kernel
theorem dX0_copyFrom_49 : decode cX0_copyFrom 49 = .ok (.iconst 0, 1) := by decide +kernel
theorem dX0_copyFrom_50 : decode cX0_copyFrom 50 = .ok (.bipush 16, 2) := by decide +kernel
theorem dX0_copyFrom_52 : decode cX0_copyFrom 52 = .ok (.invokestatic 37, 3) := by decide +kernel
theorem dX0_copyFrom_55 : decode cX0_copyFrom 55 = .ok (.aload_n 1, 1) := by decide +kernel
theorem dX0_copyFrom_56 : decode cX0_copyFrom 56 = .ok (.getfield 15, 3) := by decide +kernel
theorem dX0_copyFrom_59 : decode cX0_copyFrom 59 = .ok (.iconst 0, 1) := by decide +kernel
theorem dX0_copyFrom_60 : decode cX0_copyFrom 60 = .ok (.aload_n 0, 1) := by decide +kernel
theorem dX0_copyFrom_61 : decode cX0_copyFrom 61 = .ok (.getfield 15, 3) := by decide +kernel
theorem dX0_copyFrom_64 : decode cX0_copyFrom 64 = .ok (.iconst 0, 1) := by decide +kernel
theorem dX0_copyFrom_65 : decode cX0_copyFrom 65 = .ok (.bipush 24, 2) := by decide +kernel
theorem dX0_copyFrom_67 : decode cX0_copyFrom 67 = .ok (.invokestatic 37, 3) := by decide +kernel
theorem dX0_copyFrom_70 : decode cX0_copyFrom 70 = .ok (.aload_n 1, 1) := by decide +kernel
theorem dX0_copyFrom_71 : decode cX0_copyFrom 71 = .ok (.getfield 18, 3) := by decide +kernel
theorem dX0_copyFrom_74 : decode cX0_copyFrom 74 = .ok (.iconst 0, 1) := by decide +kernel
theorem dX0_copyFrom_75 : decode cX0_copyFrom 75 = .ok (.aload_n 0, 1) := by decide +kernel
theorem dX0_copyFrom_76 : decode cX0_copyFrom 76 = .ok (.getfield 18, 3) := by decide +kernel
theorem dX0_copyFrom_79 : decode cX0_copyFrom 79 = .ok (.iconst 0, 1) := by decide +kernel
theorem dX0_copyFrom_80 : decode cX0_copyFrom 80 = .ok (.bipush 24, 2) := by decide +kernel
theorem dX0_copyFrom_82 : decode cX0_copyFrom 82 = .ok (.invokestatic 37, 3) := by decide +kernel
theorem dX0_copyFrom_85 : decode cX0_copyFrom 85 = .ok (.return_, 1) := by decide +kernel
theorem dX0_knownCount_0 : decode cX0_knownCount 0 = .ok (.aload_n 0, 1) := by decide +kernel
theorem dX0_knownCount_1 : decode cX0_knownCount 1 = .ok (.getfield 21, 3) := by decide +kernel
theorem dX0_knownCount_4 : decode cX0_knownCount 4 = .ok (.invokestatic 43, 3) := by decide +kernel
theorem dX0_knownCount_7 : decode cX0_knownCount 7 = .ok (.ireturn, 1) := by decide +kernel
theorem dX0_receive_0 : decode cX0_receive 0 = .ok (.aload_n 0, 1) := by decide +kernel
theorem dX0_receive_1 : decode cX0_receive 1 = .ok (.dup, 1) := by decide +kernel
theorem dX0_receive_2 : decode cX0_receive 2 = .ok (.getfield 28, 3) := by decide +kernel
theorem dX0_receive_5 : decode cX0_receive 5 = .ok (.iconst 1, 1) := by decide +kernel
theorem dX0_receive_6 : decode cX0_receive 6 = .ok (.iadd, 1) := by decide +kernel
theorem dX0_receive_7 : decode cX0_receive 7 = .ok (.putfield 28, 3) := by decide +kernel
theorem dX0_receive_10 : decode cX0_receive 10 = .ok (.aload_n 1, 1) := by decide +kernel
theorem dX0_receive_11 : decode cX0_receive 11 = .ok (.getfield 49, 3) := by decide +kernel
theorem dX0_receive_14 : decode cX0_receive 14 = .ok (.ifCond .eq 15, 3) := by decide +kernel
theorem dX0_receive_17 : decode cX0_receive 17 = .ok (.aload_n 0, 1) := by decide +kernel
theorem dX0_receive_18 : decode cX0_receive 18 = .ok (.dup, 1) := by decide +kernel
theorem dX0_receive_19 : decode cX0_receive 19 = .ok (.getfield 31, 3) := by decide +kernel
theorem dX0_receive_22 : decode cX0_receive 22 = .ok (.iconst 1, 1) := by decide +kernel
theorem dX0_receive_23 : decode cX0_receive 23 = .ok (.iadd, 1) := by decide +kernel
theorem dX0_receive_24 : decode cX0_receive 24 = .ok (.putfield 31, 3) := by decide +kernel
theorem dX0_receive_27 : decode cX0_receive 27 = .ok (.iconst 0, 1) := by decide +kernel
theorem dX0_receive_28 : decode cX0_receive 28 = .ok (.ireturn, 1) := by decide +kernel
theorem dX0_receive_29 : decode cX0_receive 29 = .ok (.aload_n 0, 1) := by decide +kernel
theorem dX0_receive_30 : decode cX0_receive 30 = .ok (.invokevirtual 54, 3) := by decide +kernel
theorem dX0_receive_33 : decode cX0_receive 33 = .ok (.istore_n 2, 1) := by decide +kernel
theorem dX0_receive_34 : decode cX0_receive 34 = .ok (.aload_n 1, 1) := by decide +kernel
theorem dX0_receive_35 : decode cX0_receive 35 = .ok (.getfield 58, 3) := by decide +kernel
theorem dX0_receive_38 : decode cX0_receive 38 = .ok (.aload_n 0, 1) := by decide +kernel
theorem dX0_receive_39 : decode cX0_receive 39 = .ok (.getfield 21, 3) := by decide +kernel
theorem dX0_receive_42 : decode cX0_receive 42 = .ok (.iconst (-1), 1) := by decide +kernel
theorem dX0_receive_43 : decode cX0_receive 43 = .ok (.ixor, 1) := by decide +kernel
theorem dX0_receive_44 : decode cX0_receive 44 = .ok (.iand, 1) := by decide +kernel
theorem dX0_receive_45 : decode cX0_receive 45 = .ok (.istore_n 3, 1) := by decide +kernel
theorem dX0_receive_46 : decode cX0_receive 46 = .ok (.aload_n 1, 1) := by decide +kernel
theorem dX0_receive_47 : decode cX0_receive 47 = .ok (.getfield 61, 3) := by decide +kernel
theorem dX0_receive_50 : decode cX0_receive 50 = .ok (.istore 4, 2) := by decide +kernel
theorem dX0_receive_52 : decode cX0_receive 52 = .ok (.iconst 0, 1) := by decide +kernel
theorem dX0_receive_53 : decode cX0_receive 53 = .ok (.istore 5, 2) := by decide +kernel
theorem dX0_receive_55 : decode cX0_receive 55 = .ok (.iload 5, 2) := by decide +kernel
theorem dX0_receive_57 : decode cX0_receive 57 = .ok (.bipush 16, 2) := by decide +kernel
theorem dX0_receive_59 : decode cX0_receive 59 = .ok (.if_icmp .ge 38, 3) := by decide +kernel
theorem dX0_receive_62 : decode cX0_receive 62 = .ok (.aload_n 1, 1) := by decide +kernel
theorem dX0_receive_63 : decode cX0_receive 63 = .ok (.getfield 58, 3) := by decide +kernel
theorem dX0_receive_66 : decode cX0_receive 66 = .ok (.aload_n 0, 1) := by decide +kernel
theorem dX0_receive_67 : decode cX0_receive 67 = .ok (.getfield 21, 3) := by decide +kernel
theorem dX0_receive_70 : decode cX0_receive 70 = .ok (.iand, 1) := by decide +kernel
theorem dX0_receive_71 : decode cX0_receive 71 = .ok (.iconst 1, 1) := by decide +kernel
theorem dX0_receive_72 : decode cX0_receive 72 = .ok (.iload 5, 2) := by decide +kernel
theorem dX0_receive_74 : decode cX0_receive 74 = .ok (.ishl, 1) := by decide +kernel
theorem dX0_receive_75 : decode cX0_receive 75 = .ok (.iand, 1) := by decide +kernel
theorem dX0_receive_76 : decode cX0_receive 76 = .ok (.ifCond .eq 15, 3) := by decide +kernel
theorem dX0_receive_79 : decode cX0_receive 79 = .ok (.iload 4, 2) := by decide +kernel
theorem dX0_receive_81 : decode cX0_receive 81 = .ok (.aload_n 0, 1) := by decide +kernel
theorem dX0_receive_82 : decode cX0_receive 82 = .ok (.getfield 9, 3) := by decide +kernel
theorem dX0_receive_85 : decode cX0_receive 85 = .ok (.iload 5, 2) := by decide +kernel
theorem dX0_receive_87 : decode cX0_receive 87 = .ok (.iaload, 1) := by decide +kernel
theorem dX0_receive_88 : decode cX0_receive 88 = .ok (.ixor, 1) := by decide +kernel
theorem dX0_receive_89 : decode cX0_receive 89 = .ok (.istore 4, 2) := by decide +kernel
theorem dX0_receive_91 : decode cX0_receive 91 = .ok (.iinc 5 1, 3) := by decide +kernel
theorem dX0_receive_94 : decode cX0_receive 94 = .ok (.goto (-39), 3) := by decide +kernel
theorem dX0_receive_97 : decode cX0_receive 97 = .ok (.iload_n 3, 1) := by decide +kernel
theorem dX0_receive_98 : decode cX0_receive 98 = .ok (.invokestatic 43, 3) := by decide +kernel
theorem dX0_receive_101 : decode cX0_receive 101 = .ok (.istore 5, 2) := by decide +kernel
theorem dX0_receive_103 : decode cX0_receive 103 = .ok (.iload 5, 2) := by decide +kernel
theorem dX0_receive_105 : decode cX0_receive 105 = .ok (.iconst 1, 1) := by decide +kernel
theorem dX0_receive_106 : decode cX0_receive 106 = .ok (.if_icmp .ne 17, 3) := by decide +kernel
theorem dX0_receive_109 : decode cX0_receive 109 = .ok (.aload_n 0, 1) := by decide +kernel
theorem dX0_receive_110 : decode cX0_receive 110 = .ok (.iload_n 3, 1) := by decide +kernel
theorem dX0_receive_111 : decode cX0_receive 111 = .ok (.iload 4, 2) := by decide +kernel
theorem dX0_receive_113 : decode cX0_receive 113 = .ok (.invokevirtual 64, 3) := by decide +kernel
theorem dX0_receive_116 : decode cX0_receive 116 = .ok (.aload_n 0, 1) := by decide +kernel
theorem dX0_receive_117 : decode cX0_receive 117 = .ok (.invokevirtual 68, 3) := by decide +kernel
theorem dX0_receive_120 : decode cX0_receive 120 = .ok (.goto 28, 3) := by decide +kernel
theorem dX0_receive_123 : decode cX0_receive 123 = .ok (.iload 5, 2) := by decide +kernel
theorem dX0_receive_125 : decode cX0_receive 125 = .ok (.ifCond .eq 13, 3) := by decide +kernel
theorem dX0_receive_128 : decode cX0_receive 128 = .ok (.aload_n 0, 1) := by decide +kernel
theorem dX0_receive_129 : decode cX0_receive 129 = .ok (.iload_n 3, 1) := by decide +kernel
theorem dX0_receive_130 : decode cX0_receive 130 = .ok (.iload 4, 2) := by decide +kernel
theorem dX0_receive_132 : decode cX0_receive 132 = .ok (.invokevirtual 71, 3) := by decide +kernel
theorem dX0_receive_135 : decode cX0_receive 135 = .ok (.ifCond .ne 13, 3) := by decide +kernel
theorem dX0_receive_138 : decode cX0_receive 138 = .ok (.aload_n 0, 1) := by decide +kernel
theorem dX0_receive_139 : decode cX0_receive 139 = .ok (.dup, 1) := by decide +kernel
theorem dX0_receive_140 : decode cX0_receive 140 = .ok (.getfield 34, 3) := by decide +kernel
theorem dX0_receive_143 : decode cX0_receive 143 = .ok (.iconst 1, 1) := by decide +kernel
theorem dX0_receive_144 : decode cX0_receive 144 = .ok (.iadd, 1) := by decide +kernel
theorem dX0_receive_145 : decode cX0_receive 145 = .ok (.putfield 34, 3) := by decide +kernel
theorem dX0_receive_148 : decode cX0_receive 148 = .ok (.aload_n 0, 1) := by decide +kernel
theorem dX0_receive_149 : decode cX0_receive 149 = .ok (.invokevirtual 54, 3) := by decide +kernel
theorem dX0_receive_152 : decode cX0_receive 152 = .ok (.iload_n 2, 1) := by decide +kernel
theorem dX0_receive_153 : decode cX0_receive 153 = .ok (.isub, 1) := by decide +kernel
theorem dX0_receive_154 : decode cX0_receive 154 = .ok (.ireturn, 1) := by decide +kernel
theorem dX0_learnSingles_0 : decode cX0_learnSingles 0 = .ok (.aload_n 0, 1) := by decide +kernel
theorem dX0_learnSingles_1 : decode cX0_learnSingles 1 = .ok (.invokevirtual 54, 3) := by decide +kernel
theorem dX0_learnSingles_4 : decode cX0_learnSingles 4 = .ok (.istore_n 2, 1) := by decide +kernel
theorem dX0_learnSingles_5 : decode cX0_learnSingles 5 = .ok (.iconst 0, 1) := by decide +kernel
theorem dX0_learnSingles_6 : decode cX0_learnSingles 6 = .ok (.istore_n 3, 1) := by decide +kernel
theorem dX0_learnSingles_7 : decode cX0_learnSingles 7 = .ok (.iload_n 3, 1) := by decide +kernel
theorem dX0_learnSingles_8 : decode cX0_learnSingles 8 = .ok (.bipush 24, 2) := by decide +kernel
theorem dX0_learnSingles_10 : decode cX0_learnSingles 10 = .ok (.if_icmp .ge 33, 3) := by decide +kernel
theorem dX0_learnSingles_13 : decode cX0_learnSingles 13 = .ok (.aload_n 1, 1) := by decide +kernel
theorem dX0_learnSingles_14 : decode cX0_learnSingles 14 = .ok (.iload_n 3, 1) := by decide +kernel
theorem dX0_learnSingles_15 : decode cX0_learnSingles 15 = .ok (.invokevirtual 75, 3) := by decide +kernel
theorem dX0_learnSingles_18 : decode cX0_learnSingles 18 = .ok (.ifCond .eq 19, 3) := by decide +kernel
theorem dX0_learnSingles_21 : decode cX0_learnSingles 21 = .ok (.aload_n 0, 1) := by decide +kernel
theorem dX0_learnSingles_22 : decode cX0_learnSingles 22 = .ok (.aload_n 1, 1) := by decide +kernel
theorem dX0_learnSingles_23 : decode cX0_learnSingles 23 = .ok (.getfield 81, 3) := by decide +kernel
theorem dX0_learnSingles_26 : decode cX0_learnSingles 26 = .ok (.iload_n 3, 1) := by decide +kernel
theorem dX0_learnSingles_27 : decode cX0_learnSingles 27 = .ok (.iaload, 1) := by decide +kernel
theorem dX0_learnSingles_28 : decode cX0_learnSingles 28 = .ok (.aload_n 1, 1) := by decide +kernel
theorem dX0_learnSingles_29 : decode cX0_learnSingles 29 = .ok (.getfield 82, 3) := by decide +kernel
theorem dX0_learnSingles_32 : decode cX0_learnSingles 32 = .ok (.iload_n 3, 1) := by decide +kernel
theorem dX0_learnSingles_33 : decode cX0_learnSingles 33 = .ok (.iaload, 1) := by decide +kernel
theorem dX0_learnSingles_34 : decode cX0_learnSingles 34 = .ok (.invokevirtual 64, 3) := by decide +kernel
theorem dX0_learnSingles_37 : decode cX0_learnSingles 37 = .ok (.iinc 3 1, 3) := by decide +kernel
theorem dX0_learnSingles_40 : decode cX0_learnSingles 40 = .ok (.goto (-33), 3) := by decide +kernel
theorem dX0_learnSingles_43 : decode cX0_learnSingles 43 = .ok (.aload_n 0, 1) := by decide +kernel
theorem dX0_learnSingles_44 : decode cX0_learnSingles 44 = .ok (.invokevirtual 68, 3) := by decide +kernel
theorem dX0_learnSingles_47 : decode cX0_learnSingles 47 = .ok (.aload_n 0, 1) := by decide +kernel
theorem dX0_learnSingles_48 : decode cX0_learnSingles 48 = .ok (.invokevirtual 54, 3) := by decide +kernel
theorem dX0_learnSingles_51 : decode cX0_learnSingles 51 = .ok (.iload_n 2, 1) := by decide +kernel
theorem dX0_learnSingles_52 : decode cX0_learnSingles 52 = .ok (.isub, 1) := by decide +kernel
theorem dX0_learnSingles_53 : decode cX0_learnSingles 53 = .ok (.ireturn, 1) := by decide +kernel
theorem dX0_keepIfRoom_0 : decode cX0_keepIfRoom 0 = .ok (.aload_n 0, 1) := by decide +kernel
theorem dX0_keepIfRoom_1 : decode cX0_keepIfRoom 1 = .ok (.getfield 25, 3) := by decide +kernel
theorem dX0_keepIfRoom_4 : decode cX0_keepIfRoom 4 = .ok (.istore_n 3, 1) := by decide +kernel
theorem dX0_keepIfRoom_5 : decode cX0_keepIfRoom 5 = .ok (.iload_n 3, 1) := by decide +kernel
theorem dX0_keepIfRoom_6 : decode cX0_keepIfRoom 6 = .ok (.iconst 0, 1) := by decide +kernel
theorem dX0_keepIfRoom_7 : decode cX0_keepIfRoom 7 = .ok (.bipush 23, 2) := by decide +kernel
theorem dX0_keepIfRoom_9 : decode cX0_keepIfRoom 9 = .ok (.invokestatic 83, 3) := by decide +kernel
theorem dX0_keepIfRoom_12 : decode cX0_keepIfRoom 12 = .ok (.ifCond .ne 5, 3) := by decide +kernel
theorem dX0_keepIfRoom_15 : decode cX0_keepIfRoom 15 = .ok (.iconst 0, 1) := by decide +kernel
theorem dX0_keepIfRoom_16 : decode cX0_keepIfRoom 16 = .ok (.ireturn, 1) := by decide +kernel
theorem dX0_keepIfRoom_17 : decode cX0_keepIfRoom 17 = .ok (.aload_n 0, 1) := by decide +kernel
theorem dX0_keepIfRoom_18 : decode cX0_keepIfRoom 18 = .ok (.getfield 15, 3) := by decide +kernel
theorem dX0_keepIfRoom_21 : decode cX0_keepIfRoom 21 = .ok (.iload_n 3, 1) := by decide +kernel
theorem dX0_keepIfRoom_22 : decode cX0_keepIfRoom 22 = .ok (.iload_n 1, 1) := by decide +kernel
theorem dX0_keepIfRoom_23 : decode cX0_keepIfRoom 23 = .ok (.iastore, 1) := by decide +kernel
theorem dX0_keepIfRoom_24 : decode cX0_keepIfRoom 24 = .ok (.aload_n 0, 1) := by decide +kernel
theorem dX0_keepIfRoom_25 : decode cX0_keepIfRoom 25 = .ok (.getfield 18, 3) := by decide +kernel
theorem dX0_keepIfRoom_28 : decode cX0_keepIfRoom 28 = .ok (.iload_n 3, 1) := by decide +kernel
theorem dX0_keepIfRoom_29 : decode cX0_keepIfRoom 29 = .ok (.iload_n 2, 1) := by decide +kernel
theorem dX0_keepIfRoom_30 : decode cX0_keepIfRoom 30 = .ok (.iastore, 1) := by decide +kernel
theorem dX0_keepIfRoom_31 : decode cX0_keepIfRoom 31 = .ok (.aload_n 0, 1) := by decide +kernel
theorem dX0_keepIfRoom_32 : decode cX0_keepIfRoom 32 = .ok (.dup, 1) := by decide +kernel
theorem dX0_keepIfRoom_33 : decode cX0_keepIfRoom 33 = .ok (.getfield 25, 3) := by decide +kernel
theorem dX0_keepIfRoom_36 : decode cX0_keepIfRoom 36 = .ok (.iconst 1, 1) := by decide +kernel
theorem dX0_keepIfRoom_37 : decode cX0_keepIfRoom 37 = .ok (.iadd, 1) := by decide +kernel
theorem dX0_keepIfRoom_38 : decode cX0_keepIfRoom 38 = .ok (.putfield 25, 3) := by decide +kernel
theorem dX0_keepIfRoom_41 : decode cX0_keepIfRoom 41 = .ok (.iconst 1, 1) := by decide +kernel
theorem dX0_keepIfRoom_42 : decode cX0_keepIfRoom 42 = .ok (.ireturn, 1) := by decide +kernel
theorem dX0_learn_0 : decode cX0_learn 0 = .ok (.aload_n 0, 1) := by decide +kernel
theorem dX0_learn_1 : decode cX0_learn 1 = .ok (.dup, 1) := by decide +kernel
theorem dX0_learn_2 : decode cX0_learn 2 = .ok (.getfield 21, 3) := by decide +kernel
theorem dX0_learn_5 : decode cX0_learn 5 = .ok (.iload_n 1, 1) := by decide +kernel
theorem dX0_learn_6 : decode cX0_learn 6 = .ok (.ior, 1) := by decide +kernel
theorem dX0_learn_7 : decode cX0_learn 7 = .ok (.putfield 21, 3) := by decide +kernel
theorem dX0_learn_10 : decode cX0_learn 10 = .ok (.iconst 0, 1) := by decide +kernel
theorem dX0_learn_11 : decode cX0_learn 11 = .ok (.istore_n 3, 1) := by decide +kernel
theorem dX0_learn_12 : decode cX0_learn 12 = .ok (.iload_n 3, 1) := by decide +kernel
theorem dX0_learn_13 : decode cX0_learn 13 = .ok (.bipush 16, 2) := by decide +kernel
theorem dX0_learn_15 : decode cX0_learn 15 = .ok (.if_icmp .ge 23, 3) := by decide +kernel
theorem dX0_learn_18 : decode cX0_learn 18 = .ok (.iload_n 1, 1) := by decide +kernel
theorem dX0_learn_19 : decode cX0_learn 19 = .ok (.iconst 1, 1) := by decide +kernel
theorem dX0_learn_20 : decode cX0_learn 20 = .ok (.iload_n 3, 1) := by decide +kernel
theorem dX0_learn_21 : decode cX0_learn 21 = .ok (.ishl, 1) := by decide +kernel
theorem dX0_learn_22 : decode cX0_learn 22 = .ok (.if_icmp .ne 10, 3) := by decide +kernel
theorem dX0_learn_25 : decode cX0_learn 25 = .ok (.aload_n 0, 1) := by decide +kernel
theorem dX0_learn_26 : decode cX0_learn 26 = .ok (.getfield 9, 3) := by decide +kernel
theorem dX0_learn_29 : decode cX0_learn 29 = .ok (.iload_n 3, 1) := by decide +kernel
theorem dX0_learn_30 : decode cX0_learn 30 = .ok (.iload_n 2, 1) := by decide +kernel
theorem dX0_learn_31 : decode cX0_learn 31 = .ok (.iastore, 1) := by decide +kernel
theorem dX0_learn_32 : decode cX0_learn 32 = .ok (.iinc 3 1, 3) := by decide +kernel
theorem dX0_learn_35 : decode cX0_learn 35 = .ok (.goto (-23), 3) := by decide +kernel
theorem dX0_learn_38 : decode cX0_learn 38 = .ok (.iconst 0, 1) := by decide +kernel
theorem dX0_learn_39 : decode cX0_learn 39 = .ok (.istore_n 3, 1) := by decide +kernel
theorem dX0_learn_40 : decode cX0_learn 40 = .ok (.iload_n 3, 1) := by decide +kernel
theorem dX0_learn_41 : decode cX0_learn 41 = .ok (.bipush 24, 2) := by decide +kernel
theorem dX0_learn_43 : decode cX0_learn 43 = .ok (.if_icmp .ge 40, 3) := by decide +kernel
theorem dX0_learn_46 : decode cX0_learn 46 = .ok (.aload_n 0, 1) := by decide +kernel
theorem dX0_learn_47 : decode cX0_learn 47 = .ok (.getfield 15, 3) := by decide +kernel
theorem dX0_learn_50 : decode cX0_learn 50 = .ok (.iload_n 3, 1) := by decide +kernel
theorem dX0_learn_51 : decode cX0_learn 51 = .ok (.iaload, 1) := by decide +kernel
theorem dX0_learn_52 : decode cX0_learn 52 = .ok (.iload_n 1, 1) := by decide +kernel
theorem dX0_learn_53 : decode cX0_learn 53 = .ok (.iand, 1) := by decide +kernel
theorem dX0_learn_54 : decode cX0_learn 54 = .ok (.ifCond .eq 23, 3) := by decide +kernel
theorem dX0_learn_57 : decode cX0_learn 57 = .ok (.aload_n 0, 1) := by decide +kernel
theorem dX0_learn_58 : decode cX0_learn 58 = .ok (.getfield 15, 3) := by decide +kernel
theorem dX0_learn_61 : decode cX0_learn 61 = .ok (.iload_n 3, 1) := by decide +kernel
theorem dX0_learn_62 : decode cX0_learn 62 = .ok (.dup2, 1) := by decide +kernel
theorem dX0_learn_63 : decode cX0_learn 63 = .ok (.iaload, 1) := by decide +kernel
theorem dX0_learn_64 : decode cX0_learn 64 = .ok (.iload_n 1, 1) := by decide +kernel
theorem dX0_learn_65 : decode cX0_learn 65 = .ok (.ixor, 1) := by decide +kernel
theorem dX0_learn_66 : decode cX0_learn 66 = .ok (.iastore, 1) := by decide +kernel
theorem dX0_learn_67 : decode cX0_learn 67 = .ok (.aload_n 0, 1) := by decide +kernel
theorem dX0_learn_68 : decode cX0_learn 68 = .ok (.getfield 18, 3) := by decide +kernel
theorem dX0_learn_71 : decode cX0_learn 71 = .ok (.iload_n 3, 1) := by decide +kernel
theorem dX0_learn_72 : decode cX0_learn 72 = .ok (.dup2, 1) := by decide +kernel
theorem dX0_learn_73 : decode cX0_learn 73 = .ok (.iaload, 1) := by decide +kernel
theorem dX0_learn_74 : decode cX0_learn 74 = .ok (.iload_n 2, 1) := by decide +kernel
theorem dX0_learn_75 : decode cX0_learn 75 = .ok (.ixor, 1) := by decide +kernel
theorem dX0_learn_76 : decode cX0_learn 76 = .ok (.iastore, 1) := by decide +kernel
theorem dX0_learn_77 : decode cX0_learn 77 = .ok (.iinc 3 1, 3) := by decide +kernel
theorem dX0_learn_80 : decode cX0_learn 80 = .ok (.goto (-40), 3) := by decide +kernel
theorem dX0_learn_83 : decode cX0_learn 83 = .ok (.return_, 1) := by decide +kernel
theorem dX0_peel_0 : decode cX0_peel 0 = .ok (.iconst 0, 1) := by decide +kernel
theorem dX0_peel_1 : decode cX0_peel 1 = .ok (.istore_n 1, 1) := by decide +kernel
theorem dX0_peel_2 : decode cX0_peel 2 = .ok (.iload_n 1, 1) := by decide +kernel
theorem dX0_peel_3 : decode cX0_peel 3 = .ok (.bipush 24, 2) := by decide +kernel
theorem dX0_peel_5 : decode cX0_peel 5 = .ok (.if_icmp .ge 56, 3) := by decide +kernel
theorem dX0_peel_8 : decode cX0_peel 8 = .ok (.aload_n 0, 1) := by decide +kernel
theorem dX0_peel_9 : decode cX0_peel 9 = .ok (.invokevirtual 87, 3) := by decide +kernel
theorem dX0_peel_12 : decode cX0_peel 12 = .ok (.istore_n 2, 1) := by decide +kernel
theorem dX0_peel_13 : decode cX0_peel 13 = .ok (.iload_n 2, 1) := by decide +kernel
theorem dX0_peel_14 : decode cX0_peel 14 = .ok (.iconst 0, 1) := by decide +kernel
theorem dX0_peel_15 : decode cX0_peel 15 = .ok (.bipush 23, 2) := by decide +kernel
theorem dX0_peel_17 : decode cX0_peel 17 = .ok (.invokestatic 83, 3) := by decide +kernel
theorem dX0_peel_20 : decode cX0_peel 20 = .ok (.ifCond .ne 4, 3) := by decide +kernel
theorem dX0_peel_23 : decode cX0_peel 23 = .ok (.return_, 1) := by decide +kernel
theorem dX0_peel_24 : decode cX0_peel 24 = .ok (.aload_n 0, 1) := by decide +kernel
theorem dX0_peel_25 : decode cX0_peel 25 = .ok (.getfield 15, 3) := by decide +kernel
theorem dX0_peel_28 : decode cX0_peel 28 = .ok (.iload_n 2, 1) := by decide +kernel
theorem dX0_peel_29 : decode cX0_peel 29 = .ok (.iaload, 1) := by decide +kernel
theorem dX0_peel_30 : decode cX0_peel 30 = .ok (.istore_n 3, 1) := by decide +kernel
theorem dX0_peel_31 : decode cX0_peel 31 = .ok (.aload_n 0, 1) := by decide +kernel
theorem dX0_peel_32 : decode cX0_peel 32 = .ok (.getfield 18, 3) := by decide +kernel
theorem dX0_peel_35 : decode cX0_peel 35 = .ok (.iload_n 2, 1) := by decide +kernel
theorem dX0_peel_36 : decode cX0_peel 36 = .ok (.iaload, 1) := by decide +kernel
theorem dX0_peel_37 : decode cX0_peel 37 = .ok (.istore 4, 2) := by decide +kernel
theorem dX0_peel_39 : decode cX0_peel 39 = .ok (.aload_n 0, 1) := by decide +kernel
theorem dX0_peel_40 : decode cX0_peel 40 = .ok (.iload_n 2, 1) := by decide +kernel
theorem dX0_peel_41 : decode cX0_peel 41 = .ok (.invokevirtual 90, 3) := by decide +kernel
theorem dX0_peel_44 : decode cX0_peel 44 = .ok (.iload_n 3, 1) := by decide +kernel
theorem dX0_peel_45 : decode cX0_peel 45 = .ok (.ifCond .eq 10, 3) := by decide +kernel
theorem dX0_peel_48 : decode cX0_peel 48 = .ok (.aload_n 0, 1) := by decide +kernel
theorem dX0_peel_49 : decode cX0_peel 49 = .ok (.iload_n 3, 1) := by decide +kernel
theorem dX0_peel_50 : decode cX0_peel 50 = .ok (.iload 4, 2) := by decide +kernel
theorem dX0_peel_52 : decode cX0_peel 52 = .ok (.invokevirtual 64, 3) := by decide +kernel
theorem dX0_peel_55 : decode cX0_peel 55 = .ok (.iinc 1 1, 3) := by decide +kernel
theorem dX0_peel_58 : decode cX0_peel 58 = .ok (.goto (-56), 3) := by decide +kernel
theorem dX0_peel_61 : decode cX0_peel 61 = .ok (.return_, 1) := by decide +kernel
theorem dX0_firstPeelable_0 : decode cX0_firstPeelable 0 = .ok (.iconst 0, 1) := by decide +kernel
theorem dX0_firstPeelable_1 : decode cX0_firstPeelable 1 = .ok (.istore_n 1, 1) := by decide +kernel
theorem dX0_firstPeelable_2 : decode cX0_firstPeelable 2 = .ok (.iload_n 1, 1) := by decide +kernel
theorem dX0_firstPeelable_3 : decode cX0_firstPeelable 3 = .ok (.bipush 24, 2) := by decide +kernel
theorem dX0_firstPeelable_5 : decode cX0_firstPeelable 5 = .ok (.if_icmp .ge 32, 3) := by decide +kernel
theorem dX0_firstPeelable_8 : decode cX0_firstPeelable 8 = .ok (.iload_n 1, 1) := by decide +kernel
theorem dX0_firstPeelable_9 : decode cX0_firstPeelable 9 = .ok (.aload_n 0, 1) := by decide +kernel
theorem dX0_firstPeelable_10 : decode cX0_firstPeelable 10 = .ok (.getfield 25, 3) := by decide +kernel
theorem dX0_firstPeelable_13 : decode cX0_firstPeelable 13 = .ok (.if_icmp .ge 18, 3) := by decide +kernel
theorem dX0_firstPeelable_16 : decode cX0_firstPeelable 16 = .ok (.aload_n 0, 1) := by decide +kernel
theorem dX0_firstPeelable_17 : decode cX0_firstPeelable 17 = .ok (.getfield 15, 3) := by decide +kernel
theorem dX0_firstPeelable_20 : decode cX0_firstPeelable 20 = .ok (.iload_n 1, 1) := by decide +kernel
theorem dX0_firstPeelable_21 : decode cX0_firstPeelable 21 = .ok (.iaload, 1) := by decide +kernel
theorem dX0_firstPeelable_22 : decode cX0_firstPeelable 22 = .ok (.invokestatic 43, 3) := by decide +kernel
theorem dX0_firstPeelable_25 : decode cX0_firstPeelable 25 = .ok (.iconst 2, 1) := by decide +kernel
theorem dX0_firstPeelable_26 : decode cX0_firstPeelable 26 = .ok (.if_icmp .ge 5, 3) := by decide +kernel
theorem dX0_firstPeelable_29 : decode cX0_firstPeelable 29 = .ok (.iload_n 1, 1) := by decide +kernel
theorem dX0_firstPeelable_30 : decode cX0_firstPeelable 30 = .ok (.ireturn, 1) := by decide +kernel
theorem dX0_firstPeelable_31 : decode cX0_firstPeelable 31 = .ok (.iinc 1 1, 3) := by decide +kernel
theorem dX0_firstPeelable_34 : decode cX0_firstPeelable 34 = .ok (.goto (-32), 3) := by decide +kernel
theorem dX0_firstPeelable_37 : decode cX0_firstPeelable 37 = .ok (.bipush (-6), 2) := by decide +kernel
theorem dX0_firstPeelable_39 : decode cX0_firstPeelable 39 = .ok (.ireturn, 1) := by decide +kernel
theorem dX0_removeKept_0 : decode cX0_removeKept 0 = .ok (.iconst 0, 1) := by decide +kernel
theorem dX0_removeKept_1 : decode cX0_removeKept 1 = .ok (.istore_n 2, 1) := by decide +kernel
theorem dX0_removeKept_2 : decode cX0_removeKept 2 = .ok (.iload_n 2, 1) := by decide +kernel
theorem dX0_removeKept_3 : decode cX0_removeKept 3 = .ok (.iconst 1, 1) := by decide +kernel
theorem dX0_removeKept_4 : decode cX0_removeKept 4 = .ok (.iadd, 1) := by decide +kernel
theorem dX0_removeKept_5 : decode cX0_removeKept 5 = .ok (.bipush 24, 2) := by decide +kernel
theorem dX0_removeKept_7 : decode cX0_removeKept 7 = .ok (.if_icmp .ge 42, 3) := by decide +kernel
theorem dX0_removeKept_10 : decode cX0_removeKept 10 = .ok (.iload_n 2, 1) := by decide +kernel
theorem dX0_removeKept_11 : decode cX0_removeKept 11 = .ok (.iload_n 1, 1) := by decide +kernel
theorem dX0_removeKept_12 : decode cX0_removeKept 12 = .ok (.if_icmp .lt 31, 3) := by decide +kernel
theorem dX0_removeKept_15 : decode cX0_removeKept 15 = .ok (.aload_n 0, 1) := by decide +kernel
theorem dX0_removeKept_16 : decode cX0_removeKept 16 = .ok (.getfield 15, 3) := by decide +kernel
theorem dX0_removeKept_19 : decode cX0_removeKept 19 = .ok (.iload_n 2, 1) := by decide +kernel
theorem dX0_removeKept_20 : decode cX0_removeKept 20 = .ok (.aload_n 0, 1) := by decide +kernel
theorem dX0_removeKept_21 : decode cX0_removeKept 21 = .ok (.getfield 15, 3) := by decide +kernel
theorem dX0_removeKept_24 : decode cX0_removeKept 24 = .ok (.iload_n 2, 1) := by decide +kernel
theorem dX0_removeKept_25 : decode cX0_removeKept 25 = .ok (.iconst 1, 1) := by decide +kernel
theorem dX0_removeKept_26 : decode cX0_removeKept 26 = .ok (.iadd, 1) := by decide +kernel
theorem dX0_removeKept_27 : decode cX0_removeKept 27 = .ok (.iaload, 1) := by decide +kernel
theorem dX0_removeKept_28 : decode cX0_removeKept 28 = .ok (.iastore, 1) := by decide +kernel
theorem dX0_removeKept_29 : decode cX0_removeKept 29 = .ok (.aload_n 0, 1) := by decide +kernel
theorem dX0_removeKept_30 : decode cX0_removeKept 30 = .ok (.getfield 18, 3) := by decide +kernel
theorem dX0_removeKept_33 : decode cX0_removeKept 33 = .ok (.iload_n 2, 1) := by decide +kernel
theorem dX0_removeKept_34 : decode cX0_removeKept 34 = .ok (.aload_n 0, 1) := by decide +kernel
theorem dX0_removeKept_35 : decode cX0_removeKept 35 = .ok (.getfield 18, 3) := by decide +kernel
theorem dX0_removeKept_38 : decode cX0_removeKept 38 = .ok (.iload_n 2, 1) := by decide +kernel
theorem dX0_removeKept_39 : decode cX0_removeKept 39 = .ok (.iconst 1, 1) := by decide +kernel
theorem dX0_removeKept_40 : decode cX0_removeKept 40 = .ok (.iadd, 1) := by decide +kernel
theorem dX0_removeKept_41 : decode cX0_removeKept 41 = .ok (.iaload, 1) := by decide +kernel
theorem dX0_removeKept_42 : decode cX0_removeKept 42 = .ok (.iastore, 1) := by decide +kernel
theorem dX0_removeKept_43 : decode cX0_removeKept 43 = .ok (.iinc 2 1, 3) := by decide +kernel
theorem dX0_removeKept_46 : decode cX0_removeKept 46 = .ok (.goto (-44), 3) := by decide +kernel
theorem dX0_removeKept_49 : decode cX0_removeKept 49 = .ok (.aload_n 0, 1) := by decide +kernel
theorem dX0_removeKept_50 : decode cX0_removeKept 50 = .ok (.getfield 15, 3) := by decide +kernel
theorem dX0_removeKept_53 : decode cX0_removeKept 53 = .ok (.bipush 23, 2) := by decide +kernel
theorem dX0_removeKept_55 : decode cX0_removeKept 55 = .ok (.iconst 0, 1) := by decide +kernel
theorem dX0_removeKept_56 : decode cX0_removeKept 56 = .ok (.iastore, 1) := by decide +kernel
theorem dX0_removeKept_57 : decode cX0_removeKept 57 = .ok (.aload_n 0, 1) := by decide +kernel
theorem dX0_removeKept_58 : decode cX0_removeKept 58 = .ok (.getfield 18, 3) := by decide +kernel
theorem dX0_removeKept_61 : decode cX0_removeKept 61 = .ok (.bipush 23, 2) := by decide +kernel
theorem dX0_removeKept_63 : decode cX0_removeKept 63 = .ok (.iconst 0, 1) := by decide +kernel
theorem dX0_removeKept_64 : decode cX0_removeKept 64 = .ok (.iastore, 1) := by decide +kernel
theorem dX0_removeKept_65 : decode cX0_removeKept 65 = .ok (.aload_n 0, 1) := by decide +kernel
theorem dX0_removeKept_66 : decode cX0_removeKept 66 = .ok (.dup, 1) := by decide +kernel
theorem dX0_removeKept_67 : decode cX0_removeKept 67 = .ok (.getfield 25, 3) := by decide +kernel
theorem dX0_removeKept_70 : decode cX0_removeKept 70 = .ok (.iconst 1, 1) := by decide +kernel
theorem dX0_removeKept_71 : decode cX0_removeKept 71 = .ok (.isub, 1) := by decide +kernel
theorem dX0_removeKept_72 : decode cX0_removeKept 72 = .ok (.putfield 25, 3) := by decide +kernel
theorem dX0_removeKept_75 : decode cX0_removeKept 75 = .ok (.return_, 1) := by decide +kernel
theorem dX1_init_0 : decode cX1_init 0 = .ok (.aload_n 0, 1) := by decide +kernel
theorem dX1_init_1 : decode cX1_init 1 = .ok (.invokespecial 3, 3) := by decide +kernel
theorem dX1_init_4 : decode cX1_init 4 = .ok (.return_, 1) := by decide +kernel
theorem dX1_makeFrom_0 : decode cX1_makeFrom 0 = .ok (.aload_n 0, 1) := by decide +kernel
theorem dX1_makeFrom_1 : decode cX1_makeFrom 1 = .ok (.iconst 0, 1) := by decide +kernel
theorem dX1_makeFrom_2 : decode cX1_makeFrom 2 = .ok (.putfield 9, 3) := by decide +kernel
theorem dX1_makeFrom_5 : decode cX1_makeFrom 5 = .ok (.aload_n 0, 1) := by decide +kernel
theorem dX1_makeFrom_6 : decode cX1_makeFrom 6 = .ok (.iconst 0, 1) := by decide +kernel
theorem dX1_makeFrom_7 : decode cX1_makeFrom 7 = .ok (.putfield 15, 3) := by decide +kernel
theorem dX1_makeFrom_10 : decode cX1_makeFrom 10 = .ok (.aload_n 0, 1) := by decide +kernel
theorem dX1_makeFrom_11 : decode cX1_makeFrom 11 = .ok (.iconst 0, 1) := by decide +kernel
theorem dX1_makeFrom_12 : decode cX1_makeFrom 12 = .ok (.putfield 19, 3) := by decide +kernel
theorem dX1_makeFrom_15 : decode cX1_makeFrom 15 = .ok (.aload_n 0, 1) := by decide +kernel
theorem dX1_makeFrom_16 : decode cX1_makeFrom 16 = .ok (.iconst 0, 1) := by decide +kernel
theorem dX1_makeFrom_17 : decode cX1_makeFrom 17 = .ok (.putfield 22, 3) := by decide +kernel
theorem dX1_makeFrom_20 : decode cX1_makeFrom 20 = .ok (.aload_n 1, 1) := by decide +kernel
theorem dX1_makeFrom_21 : decode cX1_makeFrom 21 = .ok (.getfield 25, 3) := by decide +kernel
theorem dX1_makeFrom_24 : decode cX1_makeFrom 24 = .ok (.istore_n 3, 1) := by decide +kernel
theorem dX1_makeFrom_25 : decode cX1_makeFrom 25 = .ok (.iload_n 3, 1) := by decide +kernel
theorem dX1_makeFrom_26 : decode cX1_makeFrom 26 = .ok (.ifCond .gt 4, 3) := by decide +kernel
theorem dX1_makeFrom_29 : decode cX1_makeFrom 29 = .ok (.return_, 1) := by decide +kernel
theorem dX1_makeFrom_30 : decode cX1_makeFrom 30 = .ok (.iload_n 2, 1) := by decide +kernel
theorem dX1_makeFrom_31 : decode cX1_makeFrom 31 = .ok (.invokestatic 30, 3) := by decide +kernel
theorem dX1_makeFrom_34 : decode cX1_makeFrom 34 = .ok (.istore 4, 2) := by decide +kernel
theorem dX1_makeFrom_36 : decode cX1_makeFrom 36 = .ok (.aload_n 0, 1) := by decide +kernel
theorem dX1_makeFrom_37 : decode cX1_makeFrom 37 = .ok (.iload 4, 2) := by decide +kernel
theorem dX1_makeFrom_39 : decode cX1_makeFrom 39 = .ok (.bipush 100, 2) := by decide +kernel
theorem dX1_makeFrom_41 : decode cX1_makeFrom 41 = .ok (.irem, 1) := by decide +kernel
theorem dX1_makeFrom_42 : decode cX1_makeFrom 42 = .ok (.aload_n 1, 1) := by decide +kernel
theorem dX1_makeFrom_43 : decode cX1_makeFrom 43 = .ok (.getfield 34, 3) := by decide +kernel
theorem dX1_makeFrom_46 : decode cX1_makeFrom 46 = .ok (.if_icmp .ge 7, 3) := by decide +kernel
theorem dX1_makeFrom_49 : decode cX1_makeFrom 49 = .ok (.iconst 1, 1) := by decide +kernel
theorem dX1_makeFrom_50 : decode cX1_makeFrom 50 = .ok (.goto 4, 3) := by decide +kernel
theorem dX1_makeFrom_53 : decode cX1_makeFrom 53 = .ok (.iconst 0, 1) := by decide +kernel
theorem dX1_makeFrom_54 : decode cX1_makeFrom 54 = .ok (.putfield 9, 3) := by decide +kernel
theorem dX1_makeFrom_57 : decode cX1_makeFrom 57 = .ok (.iload 4, 2) := by decide +kernel
theorem dX1_makeFrom_59 : decode cX1_makeFrom 59 = .ok (.invokestatic 30, 3) := by decide +kernel
theorem dX1_makeFrom_62 : decode cX1_makeFrom 62 = .ok (.istore 4, 2) := by decide +kernel
theorem dX1_makeFrom_64 : decode cX1_makeFrom 64 = .ok (.aload_n 0, 1) := by decide +kernel
theorem dX1_makeFrom_65 : decode cX1_makeFrom 65 = .ok (.aload_n 1, 1) := by decide +kernel
theorem dX1_makeFrom_66 : decode cX1_makeFrom 66 = .ok (.getfield 37, 3) := by decide +kernel
theorem dX1_makeFrom_69 : decode cX1_makeFrom 69 = .ok (.iload 4, 2) := by decide +kernel
theorem dX1_makeFrom_71 : decode cX1_makeFrom 71 = .ok (.iload_n 3, 1) := by decide +kernel
theorem dX1_makeFrom_72 : decode cX1_makeFrom 72 = .ok (.invokestatic 40, 3) := by decide +kernel
theorem dX1_makeFrom_75 : decode cX1_makeFrom 75 = .ok (.putfield 15, 3) := by decide +kernel
theorem dX1_makeFrom_78 : decode cX1_makeFrom 78 = .ok (.iconst 0, 1) := by decide +kernel
theorem dX1_makeFrom_79 : decode cX1_makeFrom 79 = .ok (.istore 5, 2) := by decide +kernel
theorem dX1_makeFrom_81 : decode cX1_makeFrom 81 = .ok (.iload 5, 2) := by decide +kernel
theorem dX1_makeFrom_83 : decode cX1_makeFrom 83 = .ok (.aload_n 0, 1) := by decide +kernel
theorem dX1_makeFrom_84 : decode cX1_makeFrom 84 = .ok (.getfield 15, 3) := by decide +kernel
theorem dX1_makeFrom_87 : decode cX1_makeFrom 87 = .ok (.if_icmp .ge 25, 3) := by decide +kernel
theorem dX1_makeFrom_90 : decode cX1_makeFrom 90 = .ok (.iload 4, 2) := by decide +kernel
theorem dX1_makeFrom_92 : decode cX1_makeFrom 92 = .ok (.invokestatic 30, 3) := by decide +kernel
theorem dX1_makeFrom_95 : decode cX1_makeFrom 95 = .ok (.istore 4, 2) := by decide +kernel
theorem dX1_makeFrom_97 : decode cX1_makeFrom 97 = .ok (.aload_n 0, 1) := by decide +kernel
theorem dX1_makeFrom_98 : decode cX1_makeFrom 98 = .ok (.aload_n 1, 1) := by decide +kernel
theorem dX1_makeFrom_99 : decode cX1_makeFrom 99 = .ok (.iload 4, 2) := by decide +kernel
theorem dX1_makeFrom_101 : decode cX1_makeFrom 101 = .ok (.iload_n 3, 1) := by decide +kernel
theorem dX1_makeFrom_102 : decode cX1_makeFrom 102 = .ok (.irem, 1) := by decide +kernel
theorem dX1_makeFrom_103 : decode cX1_makeFrom 103 = .ok (.invokevirtual 44, 3) := by decide +kernel
theorem dX1_makeFrom_106 : decode cX1_makeFrom 106 = .ok (.iinc 5 1, 3) := by decide +kernel
theorem dX1_makeFrom_109 : decode cX1_makeFrom 109 = .ok (.goto (-28), 3) := by decide +kernel
theorem dX1_makeFrom_112 : decode cX1_makeFrom 112 = .ok (.return_, 1) := by decide +kernel
theorem dX1_addFrom_0 : decode cX1_addFrom 0 = .ok (.iload_n 2, 1) := by decide +kernel
theorem dX1_addFrom_1 : decode cX1_addFrom 1 = .ok (.istore_n 3, 1) := by decide +kernel
theorem dX1_addFrom_2 : decode cX1_addFrom 2 = .ok (.iconst 0, 1) := by decide +kernel
theorem dX1_addFrom_3 : decode cX1_addFrom 3 = .ok (.istore 4, 2) := by decide +kernel
theorem dX1_addFrom_5 : decode cX1_addFrom 5 = .ok (.iload 4, 2) := by decide +kernel
theorem dX1_addFrom_7 : decode cX1_addFrom 7 = .ok (.bipush 16, 2) := by decide +kernel
theorem dX1_addFrom_9 : decode cX1_addFrom 9 = .ok (.if_icmp .ge 38, 3) := by decide +kernel
theorem dX1_addFrom_12 : decode cX1_addFrom 12 = .ok (.aload_n 0, 1) := by decide +kernel
theorem dX1_addFrom_13 : decode cX1_addFrom 13 = .ok (.getfield 19, 3) := by decide +kernel
theorem dX1_addFrom_16 : decode cX1_addFrom 16 = .ok (.iconst 1, 1) := by decide +kernel
theorem dX1_addFrom_17 : decode cX1_addFrom 17 = .ok (.iload_n 3, 1) := by decide +kernel
theorem dX1_addFrom_18 : decode cX1_addFrom 18 = .ok (.ishl, 1) := by decide +kernel
theorem dX1_addFrom_19 : decode cX1_addFrom 19 = .ok (.iand, 1) := by decide +kernel
theorem dX1_addFrom_20 : decode cX1_addFrom 20 = .ok (.ifCond .eq 27, 3) := by decide +kernel
theorem dX1_addFrom_23 : decode cX1_addFrom 23 = .ok (.iload_n 3, 1) := by decide +kernel
theorem dX1_addFrom_24 : decode cX1_addFrom 24 = .ok (.iconst 1, 1) := by decide +kernel
theorem dX1_addFrom_25 : decode cX1_addFrom 25 = .ok (.iadd, 1) := by decide +kernel
theorem dX1_addFrom_26 : decode cX1_addFrom 26 = .ok (.aload_n 1, 1) := by decide +kernel
theorem dX1_addFrom_27 : decode cX1_addFrom 27 = .ok (.getfield 25, 3) := by decide +kernel
theorem dX1_addFrom_30 : decode cX1_addFrom 30 = .ok (.if_icmp .ge 9, 3) := by decide +kernel
theorem dX1_addFrom_33 : decode cX1_addFrom 33 = .ok (.iload_n 3, 1) := by decide +kernel
theorem dX1_addFrom_34 : decode cX1_addFrom 34 = .ok (.iconst 1, 1) := by decide +kernel
theorem dX1_addFrom_35 : decode cX1_addFrom 35 = .ok (.iadd, 1) := by decide +kernel
theorem dX1_addFrom_36 : decode cX1_addFrom 36 = .ok (.goto 4, 3) := by decide +kernel
theorem dX1_addFrom_39 : decode cX1_addFrom 39 = .ok (.iconst 0, 1) := by decide +kernel
theorem dX1_addFrom_40 : decode cX1_addFrom 40 = .ok (.istore_n 3, 1) := by decide +kernel
theorem dX1_addFrom_41 : decode cX1_addFrom 41 = .ok (.iinc 4 1, 3) := by decide +kernel
theorem dX1_addFrom_44 : decode cX1_addFrom 44 = .ok (.goto (-39), 3) := by decide +kernel
theorem dX1_addFrom_47 : decode cX1_addFrom 47 = .ok (.iload_n 3, 1) := by decide +kernel
theorem dX1_addFrom_48 : decode cX1_addFrom 48 = .ok (.iconst 0, 1) := by decide +kernel
theorem dX1_addFrom_49 : decode cX1_addFrom 49 = .ok (.bipush 15, 2) := by decide +kernel
theorem dX1_addFrom_51 : decode cX1_addFrom 51 = .ok (.invokestatic 48, 3) := by decide +kernel
theorem dX1_addFrom_54 : decode cX1_addFrom 54 = .ok (.ifCond .eq 30, 3) := by decide +kernel
theorem dX1_addFrom_57 : decode cX1_addFrom 57 = .ok (.aload_n 0, 1) := by decide +kernel
theorem dX1_addFrom_58 : decode cX1_addFrom 58 = .ok (.dup, 1) := by decide +kernel
theorem dX1_addFrom_59 : decode cX1_addFrom 59 = .ok (.getfield 19, 3) := by decide +kernel
theorem dX1_addFrom_62 : decode cX1_addFrom 62 = .ok (.iconst 1, 1) := by decide +kernel
theorem dX1_addFrom_63 : decode cX1_addFrom 63 = .ok (.iload_n 3, 1) := by decide +kernel
theorem dX1_addFrom_64 : decode cX1_addFrom 64 = .ok (.ishl, 1) := by decide +kernel
theorem dX1_addFrom_65 : decode cX1_addFrom 65 = .ok (.ior, 1) := by decide +kernel
theorem dX1_addFrom_66 : decode cX1_addFrom 66 = .ok (.putfield 19, 3) := by decide +kernel
theorem dX1_addFrom_69 : decode cX1_addFrom 69 = .ok (.aload_n 0, 1) := by decide +kernel
theorem dX1_addFrom_70 : decode cX1_addFrom 70 = .ok (.dup, 1) := by decide +kernel
theorem dX1_addFrom_71 : decode cX1_addFrom 71 = .ok (.getfield 22, 3) := by decide +kernel
theorem dX1_addFrom_74 : decode cX1_addFrom 74 = .ok (.aload_n 1, 1) := by decide +kernel
theorem dX1_addFrom_75 : decode cX1_addFrom 75 = .ok (.getfield 52, 3) := by decide +kernel
theorem dX1_addFrom_78 : decode cX1_addFrom 78 = .ok (.iload_n 3, 1) := by decide +kernel
theorem dX1_addFrom_79 : decode cX1_addFrom 79 = .ok (.iaload, 1) := by decide +kernel
theorem dX1_addFrom_80 : decode cX1_addFrom 80 = .ok (.ixor, 1) := by decide +kernel
theorem dX1_addFrom_81 : decode cX1_addFrom 81 = .ok (.putfield 22, 3) := by decide +kernel
theorem dX1_addFrom_84 : decode cX1_addFrom 84 = .ok (.return_, 1) := by decide +kernel
theorem dX1_nextDraw_0 : decode cX1_nextDraw 0 = .ok (.bipush 75, 2) := by decide +kernel
theorem dX1_nextDraw_2 : decode cX1_nextDraw 2 = .ok (.iload_n 0, 1) := by decide +kernel
theorem dX1_nextDraw_3 : decode cX1_nextDraw 3 = .ok (.imul, 1) := by decide +kernel
theorem dX1_nextDraw_4 : decode cX1_nextDraw 4 = .ok (.bipush 74, 2) := by decide +kernel
theorem dX1_nextDraw_6 : decode cX1_nextDraw 6 = .ok (.iadd, 1) := by decide +kernel
theorem dX1_nextDraw_7 : decode cX1_nextDraw 7 = .ok (.ldc 56, 2) := by decide +kernel
theorem dX1_nextDraw_9 : decode cX1_nextDraw 9 = .ok (.irem, 1) := by decide +kernel
theorem dX1_nextDraw_10 : decode cX1_nextDraw 10 = .ok (.ireturn, 1) := by decide +kernel
theorem dX1_degreeBy_0 : decode cX1_degreeBy 0 = .ok (.iload_n 0, 1) := by decide +kernel
theorem dX1_degreeBy_1 : decode cX1_degreeBy 1 = .ok (.iconst 1, 1) := by decide +kernel
theorem dX1_degreeBy_2 : decode cX1_degreeBy 2 = .ok (.if_icmp .ne 15, 3) := by decide +kernel
theorem dX1_degreeBy_5 : decode cX1_degreeBy 5 = .ok (.iload_n 1, 1) := by decide +kernel
theorem dX1_degreeBy_6 : decode cX1_degreeBy 6 = .ok (.bipush 24, 2) := by decide +kernel
theorem dX1_degreeBy_8 : decode cX1_degreeBy 8 = .ok (.irem, 1) := by decide +kernel
theorem dX1_degreeBy_9 : decode cX1_degreeBy 9 = .ok (.invokestatic 57, 3) := by decide +kernel
theorem dX1_degreeBy_12 : decode cX1_degreeBy 12 = .ok (.iload_n 2, 1) := by decide +kernel
theorem dX1_degreeBy_13 : decode cX1_degreeBy 13 = .ok (.invokestatic 60, 3) := by decide +kernel
theorem dX1_degreeBy_16 : decode cX1_degreeBy 16 = .ok (.ireturn, 1) := by decide +kernel
theorem dX1_degreeBy_17 : decode cX1_degreeBy 17 = .ok (.iload_n 0, 1) := by decide +kernel
theorem dX1_degreeBy_18 : decode cX1_degreeBy 18 = .ok (.iconst 2, 1) := by decide +kernel
theorem dX1_degreeBy_19 : decode cX1_degreeBy 19 = .ok (.if_icmp .ne 15, 3) := by decide +kernel
theorem dX1_degreeBy_22 : decode cX1_degreeBy 22 = .ok (.iload_n 1, 1) := by decide +kernel
theorem dX1_degreeBy_23 : decode cX1_degreeBy 23 = .ok (.iconst 4, 1) := by decide +kernel
theorem dX1_degreeBy_24 : decode cX1_degreeBy 24 = .ok (.irem, 1) := by decide +kernel
theorem dX1_degreeBy_25 : decode cX1_degreeBy 25 = .ok (.ifCond .ne 7, 3) := by decide +kernel
theorem dX1_degreeBy_28 : decode cX1_degreeBy 28 = .ok (.iconst 1, 1) := by decide +kernel
theorem dX1_degreeBy_29 : decode cX1_degreeBy 29 = .ok (.goto 4, 3) := by decide +kernel
theorem dX1_degreeBy_32 : decode cX1_degreeBy 32 = .ok (.iload_n 2, 1) := by decide +kernel
theorem dX1_degreeBy_33 : decode cX1_degreeBy 33 = .ok (.ireturn, 1) := by decide +kernel
theorem dX1_degreeBy_34 : decode cX1_degreeBy 34 = .ok (.iload_n 2, 1) := by decide +kernel
theorem dX1_degreeBy_35 : decode cX1_degreeBy 35 = .ok (.ifCond .le 11, 3) := by decide +kernel
theorem dX1_degreeBy_38 : decode cX1_degreeBy 38 = .ok (.iconst 1, 1) := by decide +kernel
theorem dX1_degreeBy_39 : decode cX1_degreeBy 39 = .ok (.iload_n 1, 1) := by decide +kernel
theorem dX1_degreeBy_40 : decode cX1_degreeBy 40 = .ok (.iload_n 2, 1) := by decide +kernel
theorem dX1_degreeBy_41 : decode cX1_degreeBy 41 = .ok (.irem, 1) := by decide +kernel
theorem dX1_degreeBy_42 : decode cX1_degreeBy 42 = .ok (.iadd, 1) := by decide +kernel
theorem dX1_degreeBy_43 : decode cX1_degreeBy 43 = .ok (.goto 4, 3) := by decide +kernel
theorem dX1_degreeBy_46 : decode cX1_degreeBy 46 = .ok (.iconst 0, 1) := by decide +kernel
theorem dX1_degreeBy_47 : decode cX1_degreeBy 47 = .ok (.ireturn, 1) := by decide +kernel
theorem dX1_commonDegree_0 : decode cX1_commonDegree 0 = .ok (.iload_n 0, 1) := by decide +kernel
theorem dX1_commonDegree_1 : decode cX1_commonDegree 1 = .ok (.iconst 4, 1) := by decide +kernel
theorem dX1_commonDegree_2 : decode cX1_commonDegree 2 = .ok (.if_icmp .ge 5, 3) := by decide +kernel
theorem dX1_commonDegree_5 : decode cX1_commonDegree 5 = .ok (.iconst 1, 1) := by decide +kernel
theorem dX1_commonDegree_6 : decode cX1_commonDegree 6 = .ok (.ireturn, 1) := by decide +kernel
theorem dX1_commonDegree_7 : decode cX1_commonDegree 7 = .ok (.iload_n 0, 1) := by decide +kernel
theorem dX1_commonDegree_8 : decode cX1_commonDegree 8 = .ok (.bipush 16, 2) := by decide +kernel
theorem dX1_commonDegree_10 : decode cX1_commonDegree 10 = .ok (.if_icmp .ge 5, 3) := by decide +kernel
theorem dX1_commonDegree_13 : decode cX1_commonDegree 13 = .ok (.iconst 2, 1) := by decide +kernel
theorem dX1_commonDegree_14 : decode cX1_commonDegree 14 = .ok (.ireturn, 1) := by decide +kernel
theorem dX1_commonDegree_15 : decode cX1_commonDegree 15 = .ok (.iload_n 0, 1) := by decide +kernel
theorem dX1_commonDegree_16 : decode cX1_commonDegree 16 = .ok (.bipush 20, 2) := by decide +kernel
theorem dX1_commonDegree_18 : decode cX1_commonDegree 18 = .ok (.if_icmp .ge 7, 3) := by decide +kernel
theorem dX1_commonDegree_21 : decode cX1_commonDegree 21 = .ok (.iconst 3, 1) := by decide +kernel
theorem dX1_commonDegree_22 : decode cX1_commonDegree 22 = .ok (.goto 4, 3) := by decide +kernel
theorem dX1_commonDegree_25 : decode cX1_commonDegree 25 = .ok (.iconst 4, 1) := by decide +kernel
theorem dX1_commonDegree_26 : decode cX1_commonDegree 26 = .ok (.ireturn, 1) := by decide +kernel
theorem dX2_init_0 : decode cX2_init 0 = .ok (.aload_n 0, 1) := by decide +kernel
theorem dX2_init_1 : decode cX2_init 1 = .ok (.invokespecial 3, 3) := by decide +kernel
theorem dX2_init_4 : decode cX2_init 4 = .ok (.aload_n 0, 1) := by decide +kernel
theorem dX2_init_5 : decode cX2_init 5 = .ok (.bipush 7, 2) := by decide +kernel
theorem dX2_init_7 : decode cX2_init 7 = .ok (.anewarray 11, 3) := by decide +kernel
theorem dX2_init_10 : decode cX2_init 10 = .ok (.putfield 13, 3) := by decide +kernel
theorem dX2_init_13 : decode cX2_init 13 = .ok (.iconst 0, 1) := by decide +kernel
theorem dX2_init_14 : decode cX2_init 14 = .ok (.istore_n 1, 1) := by decide +kernel
theorem dX2_init_15 : decode cX2_init 15 = .ok (.iload_n 1, 1) := by decide +kernel
theorem dX2_init_16 : decode cX2_init 16 = .ok (.bipush 7, 2) := by decide +kernel
theorem dX2_init_18 : decode cX2_init 18 = .ok (.if_icmp .ge 22, 3) := by decide +kernel
theorem dX2_init_21 : decode cX2_init 21 = .ok (.aload_n 0, 1) := by decide +kernel
theorem dX2_init_22 : decode cX2_init 22 = .ok (.getfield 13, 3) := by decide +kernel
theorem dX2_init_25 : decode cX2_init 25 = .ok (.iload_n 1, 1) := by decide +kernel
theorem dX2_init_26 : decode cX2_init 26 = .ok (.new 11, 3) := by decide +kernel
theorem dX2_init_29 : decode cX2_init 29 = .ok (.dup, 1) := by decide +kernel
theorem dX2_init_30 : decode cX2_init 30 = .ok (.invokespecial 17, 3) := by decide +kernel
theorem dX2_init_33 : decode cX2_init 33 = .ok (.aastore, 1) := by decide +kernel
theorem dX2_init_34 : decode cX2_init 34 = .ok (.iinc 1 1, 3) := by decide +kernel
theorem dX2_init_37 : decode cX2_init 37 = .ok (.goto (-22), 3) := by decide +kernel
theorem dX2_init_40 : decode cX2_init 40 = .ok (.return_, 1) := by decide +kernel
theorem dX2_note_0 : decode cX2_note 0 = .ok (.aload_n 0, 1) := by decide +kernel
theorem dX2_note_1 : decode cX2_note 1 = .ok (.getfield 13, 3) := by decide +kernel
theorem dX2_note_4 : decode cX2_note 4 = .ok (.aload_n 0, 1) := by decide +kernel
theorem dX2_note_5 : decode cX2_note 5 = .ok (.invokevirtual 18, 3) := by decide +kernel
theorem dX2_note_8 : decode cX2_note 8 = .ok (.aaload, 1) := by decide +kernel
theorem dX2_note_9 : decode cX2_note 9 = .ok (.astore_n 2, 1) := by decide +kernel
theorem dX2_note_10 : decode cX2_note 10 = .ok (.aload_n 2, 1) := by decide +kernel
theorem dX2_note_11 : decode cX2_note 11 = .ok (.ifnull 8, 3) := by decide +kernel
theorem dX2_note_14 : decode cX2_note 14 = .ok (.aload_n 2, 1) := by decide +kernel
theorem dX2_note_15 : decode cX2_note 15 = .ok (.aload_n 1, 1) := by decide +kernel
theorem dX2_note_16 : decode cX2_note 16 = .ok (.invokevirtual 22, 3) := by decide +kernel
theorem dX2_note_19 : decode cX2_note 19 = .ok (.return_, 1) := by decide +kernel
theorem dX2_keepUnlessError_0 : decode cX2_keepUnlessError 0 = .ok (.iload_n 1, 1) := by decide +kernel
theorem dX2_keepUnlessError_1 : decode cX2_keepUnlessError 1 = .ok (.ifCond .ge 5, 3) := by decide +kernel
theorem dX2_keepUnlessError_4 : decode cX2_keepUnlessError 4 = .ok (.iload_n 1, 1) := by decide +kernel
theorem dX2_keepUnlessError_5 : decode cX2_keepUnlessError 5 = .ok (.ireturn, 1) := by decide +kernel
theorem dX2_keepUnlessError_6 : decode cX2_keepUnlessError 6 = .ok (.aload_n 0, 1) := by decide +kernel
theorem dX2_keepUnlessError_7 : decode cX2_keepUnlessError 7 = .ok (.getfield 26, 3) := by decide +kernel
theorem dX2_keepUnlessError_10 : decode cX2_keepUnlessError 10 = .ok (.bipush 6, 2) := by decide +kernel
theorem dX2_keepUnlessError_12 : decode cX2_keepUnlessError 12 = .ok (.if_icmp .ge 16, 3) := by decide +kernel
theorem dX2_keepUnlessError_15 : decode cX2_keepUnlessError 15 = .ok (.aload_n 0, 1) := by decide +kernel
theorem dX2_keepUnlessError_16 : decode cX2_keepUnlessError 16 = .ok (.dup, 1) := by decide +kernel
theorem dX2_keepUnlessError_17 : decode cX2_keepUnlessError 17 = .ok (.getfield 26, 3) := by decide +kernel
theorem dX2_keepUnlessError_20 : decode cX2_keepUnlessError 20 = .ok (.iconst 1, 1) := by decide +kernel
theorem dX2_keepUnlessError_21 : decode cX2_keepUnlessError 21 = .ok (.iadd, 1) := by decide +kernel
theorem dX2_keepUnlessError_22 : decode cX2_keepUnlessError 22 = .ok (.putfield 26, 3) := by decide +kernel
theorem dX2_keepUnlessError_25 : decode cX2_keepUnlessError 25 = .ok (.goto 18, 3) := by decide +kernel
theorem dX2_keepUnlessError_28 : decode cX2_keepUnlessError 28 = .ok (.aload_n 0, 1) := by decide +kernel
theorem dX2_keepUnlessError_29 : decode cX2_keepUnlessError 29 = .ok (.aload_n 0, 1) := by decide +kernel
theorem dX2_keepUnlessError_30 : decode cX2_keepUnlessError 30 = .ok (.getfield 30, 3) := by decide +kernel
theorem dX2_keepUnlessError_33 : decode cX2_keepUnlessError 33 = .ok (.iconst 1, 1) := by decide +kernel
theorem dX2_keepUnlessError_34 : decode cX2_keepUnlessError 34 = .ok (.iadd, 1) := by decide +kernel
theorem dX2_keepUnlessError_35 : decode cX2_keepUnlessError 35 = .ok (.bipush 7, 2) := by decide +kernel
theorem dX2_keepUnlessError_37 : decode cX2_keepUnlessError 37 = .ok (.invokestatic 33, 3) := by decide +kernel
theorem dX2_keepUnlessError_40 : decode cX2_keepUnlessError 40 = .ok (.putfield 30, 3) := by decide +kernel
theorem dX2_keepUnlessError_43 : decode cX2_keepUnlessError 43 = .ok (.iload_n 1, 1) := by decide +kernel
theorem dX2_keepUnlessError_44 : decode cX2_keepUnlessError 44 = .ok (.ireturn, 1) := by decide +kernel
theorem dX2_placeBehindLast_0 : decode cX2_placeBehindLast 0 = .ok (.aload_n 0, 1) := by decide +kernel
theorem dX2_placeBehindLast_1 : decode cX2_placeBehindLast 1 = .ok (.getfield 30, 3) := by decide +kernel
theorem dX2_placeBehindLast_4 : decode cX2_placeBehindLast 4 = .ok (.aload_n 0, 1) := by decide +kernel
theorem dX2_placeBehindLast_5 : decode cX2_placeBehindLast 5 = .ok (.getfield 26, 3) := by decide +kernel
theorem dX2_placeBehindLast_8 : decode cX2_placeBehindLast 8 = .ok (.iadd, 1) := by decide +kernel
theorem dX2_placeBehindLast_9 : decode cX2_placeBehindLast 9 = .ok (.bipush 7, 2) := by decide +kernel
theorem dX2_placeBehindLast_11 : decode cX2_placeBehindLast 11 = .ok (.invokestatic 33, 3) := by decide +kernel
theorem dX2_placeBehindLast_14 : decode cX2_placeBehindLast 14 = .ok (.ireturn, 1) := by decide +kernel
theorem dX3_init_0 : decode cX3_init 0 = .ok (.aload_n 0, 1) := by decide +kernel
theorem dX3_init_1 : decode cX3_init 1 = .ok (.invokespecial 3, 3) := by decide +kernel
theorem dX3_init_4 : decode cX3_init 4 = .ok (.aload_n 0, 1) := by decide +kernel
theorem dX3_init_5 : decode cX3_init 5 = .ok (.bipush 80, 2) := by decide +kernel
theorem dX3_init_7 : decode cX3_init 7 = .ok (.newarray .char, 2) := by decide +kernel
theorem dX3_init_9 : decode cX3_init 9 = .ok (.putfield 9, 3) := by decide +kernel
theorem dX3_init_12 : decode cX3_init 12 = .ok (.return_, 1) := by decide +kernel
theorem dX4_init_0 : decode cX4_init 0 = .ok (.aload_n 0, 1) := by decide +kernel
theorem dX4_init_1 : decode cX4_init 1 = .ok (.invokespecial 3, 3) := by decide +kernel
theorem dX4_init_4 : decode cX4_init 4 = .ok (.aload_n 0, 1) := by decide +kernel
theorem dX4_init_5 : decode cX4_init 5 = .ok (.bipush 24, 2) := by decide +kernel
theorem dX4_init_7 : decode cX4_init 7 = .ok (.newarray .int, 2) := by decide +kernel
theorem dX4_init_9 : decode cX4_init 9 = .ok (.putfield 9, 3) := by decide +kernel
theorem dX4_init_12 : decode cX4_init 12 = .ok (.aload_n 0, 1) := by decide +kernel
theorem dX4_init_13 : decode cX4_init 13 = .ok (.bipush 24, 2) := by decide +kernel
theorem dX4_init_15 : decode cX4_init 15 = .ok (.newarray .int, 2) := by decide +kernel
theorem dX4_init_17 : decode cX4_init 17 = .ok (.putfield 15, 3) := by decide +kernel
theorem dX4_init_20 : decode cX4_init 20 = .ok (.return_, 1) := by decide +kernel
theorem dX4_reduce_0 : decode cX4_reduce 0 = .ok (.aload_n 1, 1) := by decide +kernel
theorem dX4_reduce_1 : decode cX4_reduce 1 = .ok (.getfield 18, 3) := by decide +kernel
theorem dX4_reduce_4 : decode cX4_reduce 4 = .ok (.iconst 0, 1) := by decide +kernel
theorem dX4_reduce_5 : decode cX4_reduce 5 = .ok (.aload_n 0, 1) := by decide +kernel
theorem dX4_reduce_6 : decode cX4_reduce 6 = .ok (.getfield 9, 3) := by decide +kernel
theorem dX4_reduce_9 : decode cX4_reduce 9 = .ok (.iconst 0, 1) := by decide +kernel
theorem dX4_reduce_10 : decode cX4_reduce 10 = .ok (.bipush 24, 2) := by decide +kernel
theorem dX4_reduce_12 : decode cX4_reduce 12 = .ok (.invokestatic 21, 3) := by decide +kernel
theorem dX4_reduce_15 : decode cX4_reduce 15 = .ok (.aload_n 1, 1) := by decide +kernel
theorem dX4_reduce_16 : decode cX4_reduce 16 = .ok (.getfield 27, 3) := by decide +kernel
theorem dX4_reduce_19 : decode cX4_reduce 19 = .ok (.iconst 0, 1) := by decide +kernel
theorem dX4_reduce_20 : decode cX4_reduce 20 = .ok (.aload_n 0, 1) := by decide +kernel
theorem dX4_reduce_21 : decode cX4_reduce 21 = .ok (.getfield 15, 3) := by decide +kernel
theorem dX4_reduce_24 : decode cX4_reduce 24 = .ok (.iconst 0, 1) := by decide +kernel
theorem dX4_reduce_25 : decode cX4_reduce 25 = .ok (.bipush 24, 2) := by decide +kernel
theorem dX4_reduce_27 : decode cX4_reduce 27 = .ok (.invokestatic 21, 3) := by decide +kernel
theorem dX4_reduce_30 : decode cX4_reduce 30 = .ok (.iconst 0, 1) := by decide +kernel
theorem dX4_reduce_31 : decode cX4_reduce 31 = .ok (.istore_n 2, 1) := by decide +kernel
theorem dX4_reduce_32 : decode cX4_reduce 32 = .ok (.iload_n 2, 1) := by decide +kernel
theorem dX4_reduce_33 : decode cX4_reduce 33 = .ok (.bipush 24, 2) := by decide +kernel
theorem dX4_reduce_35 : decode cX4_reduce 35 = .ok (.if_icmp .ge 90, 3) := by decide +kernel
theorem dX4_reduce_38 : decode cX4_reduce 38 = .ok (.aload_n 0, 1) := by decide +kernel
theorem dX4_reduce_39 : decode cX4_reduce 39 = .ok (.getfield 9, 3) := by decide +kernel
theorem dX4_reduce_42 : decode cX4_reduce 42 = .ok (.iload_n 2, 1) := by decide +kernel
theorem dX4_reduce_43 : decode cX4_reduce 43 = .ok (.iaload, 1) := by decide +kernel
theorem dX4_reduce_44 : decode cX4_reduce 44 = .ok (.aload_n 0, 1) := by decide +kernel
theorem dX4_reduce_45 : decode cX4_reduce 45 = .ok (.getfield 9, 3) := by decide +kernel
theorem dX4_reduce_48 : decode cX4_reduce 48 = .ok (.iload_n 2, 1) := by decide +kernel
theorem dX4_reduce_49 : decode cX4_reduce 49 = .ok (.iaload, 1) := by decide +kernel
theorem dX4_reduce_50 : decode cX4_reduce 50 = .ok (.ineg, 1) := by decide +kernel
theorem dX4_reduce_51 : decode cX4_reduce 51 = .ok (.iand, 1) := by decide +kernel
theorem dX4_reduce_52 : decode cX4_reduce 52 = .ok (.istore_n 3, 1) := by decide +kernel
theorem dX4_reduce_53 : decode cX4_reduce 53 = .ok (.iconst 0, 1) := by decide +kernel
theorem dX4_reduce_54 : decode cX4_reduce 54 = .ok (.istore 4, 2) := by decide +kernel
theorem dX4_reduce_56 : decode cX4_reduce 56 = .ok (.iload 4, 2) := by decide +kernel
theorem dX4_reduce_58 : decode cX4_reduce 58 = .ok (.bipush 24, 2) := by decide +kernel
theorem dX4_reduce_60 : decode cX4_reduce 60 = .ok (.if_icmp .ge 59, 3) := by decide +kernel
theorem dX4_reduce_63 : decode cX4_reduce 63 = .ok (.iload 4, 2) := by decide +kernel
theorem dX4_reduce_65 : decode cX4_reduce 65 = .ok (.iload_n 2, 1) := by decide +kernel
theorem dX4_reduce_66 : decode cX4_reduce 66 = .ok (.if_icmp .eq 47, 3) := by decide +kernel
theorem dX4_reduce_69 : decode cX4_reduce 69 = .ok (.aload_n 0, 1) := by decide +kernel
theorem dX4_reduce_70 : decode cX4_reduce 70 = .ok (.getfield 9, 3) := by decide +kernel
theorem dX4_reduce_73 : decode cX4_reduce 73 = .ok (.iload 4, 2) := by decide +kernel
theorem dX4_reduce_75 : decode cX4_reduce 75 = .ok (.iaload, 1) := by decide +kernel
theorem dX4_reduce_76 : decode cX4_reduce 76 = .ok (.iload_n 3, 1) := by decide +kernel
theorem dX4_reduce_77 : decode cX4_reduce 77 = .ok (.iand, 1) := by decide +kernel
theorem dX4_reduce_78 : decode cX4_reduce 78 = .ok (.ifCond .eq 35, 3) := by decide +kernel
theorem dX4_reduce_81 : decode cX4_reduce 81 = .ok (.aload_n 0, 1) := by decide +kernel
theorem dX4_reduce_82 : decode cX4_reduce 82 = .ok (.getfield 9, 3) := by decide +kernel
theorem dX4_reduce_85 : decode cX4_reduce 85 = .ok (.iload 4, 2) := by decide +kernel
theorem dX4_reduce_87 : decode cX4_reduce 87 = .ok (.dup2, 1) := by decide +kernel
theorem dX4_reduce_88 : decode cX4_reduce 88 = .ok (.iaload, 1) := by decide +kernel
theorem dX4_reduce_89 : decode cX4_reduce 89 = .ok (.aload_n 0, 1) := by decide +kernel
theorem dX4_reduce_90 : decode cX4_reduce 90 = .ok (.getfield 9, 3) := by decide +kernel
theorem dX4_reduce_93 : decode cX4_reduce 93 = .ok (.iload_n 2, 1) := by decide +kernel
theorem dX4_reduce_94 : decode cX4_reduce 94 = .ok (.iaload, 1) := by decide +kernel
theorem dX4_reduce_95 : decode cX4_reduce 95 = .ok (.ixor, 1) := by decide +kernel
theorem dX4_reduce_96 : decode cX4_reduce 96 = .ok (.iastore, 1) := by decide +kernel
theorem dX4_reduce_97 : decode cX4_reduce 97 = .ok (.aload_n 0, 1) := by decide +kernel
theorem dX4_reduce_98 : decode cX4_reduce 98 = .ok (.getfield 15, 3) := by decide +kernel
theorem dX4_reduce_101 : decode cX4_reduce 101 = .ok (.iload 4, 2) := by decide +kernel
theorem dX4_reduce_103 : decode cX4_reduce 103 = .ok (.dup2, 1) := by decide +kernel
theorem dX4_reduce_104 : decode cX4_reduce 104 = .ok (.iaload, 1) := by decide +kernel
theorem dX4_reduce_105 : decode cX4_reduce 105 = .ok (.aload_n 0, 1) := by decide +kernel
theorem dX4_reduce_106 : decode cX4_reduce 106 = .ok (.getfield 15, 3) := by decide +kernel
theorem dX4_reduce_109 : decode cX4_reduce 109 = .ok (.iload_n 2, 1) := by decide +kernel
theorem dX4_reduce_110 : decode cX4_reduce 110 = .ok (.iaload, 1) := by decide +kernel
theorem dX4_reduce_111 : decode cX4_reduce 111 = .ok (.ixor, 1) := by decide +kernel
theorem dX4_reduce_112 : decode cX4_reduce 112 = .ok (.iastore, 1) := by decide +kernel
theorem dX4_reduce_113 : decode cX4_reduce 113 = .ok (.iinc 4 1, 3) := by decide +kernel
theorem dX4_reduce_116 : decode cX4_reduce 116 = .ok (.goto (-60), 3) := by decide +kernel
theorem dX4_reduce_119 : decode cX4_reduce 119 = .ok (.iinc 2 1, 3) := by decide +kernel
theorem dX4_reduce_122 : decode cX4_reduce 122 = .ok (.goto (-90), 3) := by decide +kernel
theorem dX4_reduce_125 : decode cX4_reduce 125 = .ok (.return_, 1) := by decide +kernel
theorem dX4_isSingle_0 : decode cX4_isSingle 0 = .ok (.iload_n 1, 1) := by decide +kernel
theorem dX4_isSingle_1 : decode cX4_isSingle 1 = .ok (.ifCond .lt 26, 3) := by decide +kernel
theorem dX4_isSingle_4 : decode cX4_isSingle 4 = .ok (.iload_n 1, 1) := by decide +kernel
theorem dX4_isSingle_5 : decode cX4_isSingle 5 = .ok (.bipush 24, 2) := by decide +kernel
theorem dX4_isSingle_7 : decode cX4_isSingle 7 = .ok (.if_icmp .ge 20, 3) := by decide +kernel
theorem dX4_isSingle_10 : decode cX4_isSingle 10 = .ok (.aload_n 0, 1) := by decide +kernel
theorem dX4_isSingle_11 : decode cX4_isSingle 11 = .ok (.getfield 9, 3) := by decide +kernel
theorem dX4_isSingle_14 : decode cX4_isSingle 14 = .ok (.iload_n 1, 1) := by decide +kernel
theorem dX4_isSingle_15 : decode cX4_isSingle 15 = .ok (.iaload, 1) := by decide +kernel
theorem dX4_isSingle_16 : decode cX4_isSingle 16 = .ok (.invokestatic 28, 3) := by decide +kernel
theorem dX4_isSingle_19 : decode cX4_isSingle 19 = .ok (.iconst 1, 1) := by decide +kernel
theorem dX4_isSingle_20 : decode cX4_isSingle 20 = .ok (.if_icmp .ne 7, 3) := by decide +kernel
theorem dX4_isSingle_23 : decode cX4_isSingle 23 = .ok (.iconst 1, 1) := by decide +kernel
theorem dX4_isSingle_24 : decode cX4_isSingle 24 = .ok (.goto 4, 3) := by decide +kernel
theorem dX4_isSingle_27 : decode cX4_isSingle 27 = .ok (.iconst 0, 1) := by decide +kernel
theorem dX4_isSingle_28 : decode cX4_isSingle 28 = .ok (.ireturn, 1) := by decide +kernel
theorem dX4_singleCount_0 : decode cX4_singleCount 0 = .ok (.iconst 0, 1) := by decide +kernel
theorem dX4_singleCount_1 : decode cX4_singleCount 1 = .ok (.istore_n 1, 1) := by decide +kernel
theorem dX4_singleCount_2 : decode cX4_singleCount 2 = .ok (.iconst 0, 1) := by decide +kernel
theorem dX4_singleCount_3 : decode cX4_singleCount 3 = .ok (.istore_n 2, 1) := by decide +kernel
theorem dX4_singleCount_4 : decode cX4_singleCount 4 = .ok (.iload_n 2, 1) := by decide +kernel
theorem dX4_singleCount_5 : decode cX4_singleCount 5 = .ok (.bipush 24, 2) := by decide +kernel
theorem dX4_singleCount_7 : decode cX4_singleCount 7 = .ok (.if_icmp .ge 20, 3) := by decide +kernel
theorem dX4_singleCount_10 : decode cX4_singleCount 10 = .ok (.aload_n 0, 1) := by decide +kernel
theorem dX4_singleCount_11 : decode cX4_singleCount 11 = .ok (.iload_n 2, 1) := by decide +kernel
theorem dX4_singleCount_12 : decode cX4_singleCount 12 = .ok (.invokevirtual 34, 3) := by decide +kernel
theorem dX4_singleCount_15 : decode cX4_singleCount 15 = .ok (.ifCond .eq 6, 3) := by decide +kernel
theorem dX4_singleCount_18 : decode cX4_singleCount 18 = .ok (.iinc 1 1, 3) := by decide +kernel
theorem dX4_singleCount_21 : decode cX4_singleCount 21 = .ok (.iinc 2 1, 3) := by decide +kernel
theorem dX4_singleCount_24 : decode cX4_singleCount 24 = .ok (.goto (-20), 3) := by decide +kernel
theorem dX4_singleCount_27 : decode cX4_singleCount 27 = .ok (.iload_n 1, 1) := by decide +kernel
theorem dX4_singleCount_28 : decode cX4_singleCount 28 = .ok (.ireturn, 1) := by decide +kernel
theorem dX5_init_0 : decode cX5_init 0 = .ok (.aload_n 0, 1) := by decide +kernel
theorem dX5_init_1 : decode cX5_init 1 = .ok (.invokespecial 3, 3) := by decide +kernel
theorem dX5_init_4 : decode cX5_init 4 = .ok (.aload_n 0, 1) := by decide +kernel
theorem dX5_init_5 : decode cX5_init 5 = .ok (.iconst 1, 1) := by decide +kernel
theorem dX5_init_6 : decode cX5_init 6 = .ok (.putfield 9, 3) := by decide +kernel
theorem dX5_init_9 : decode cX5_init 9 = .ok (.aload_n 0, 1) := by decide +kernel
theorem dX5_init_10 : decode cX5_init 10 = .ok (.bipush 16, 2) := by decide +kernel
theorem dX5_init_12 : decode cX5_init 12 = .ok (.newarray .int, 2) := by decide +kernel
theorem dX5_init_14 : decode cX5_init 14 = .ok (.putfield 15, 3) := by decide +kernel
theorem dX5_init_17 : decode cX5_init 17 = .ok (.aload_n 0, 1) := by decide +kernel
theorem dX5_init_18 : decode cX5_init 18 = .ok (.iconst 3, 1) := by decide +kernel
theorem dX5_init_19 : decode cX5_init 19 = .ok (.anewarray 19, 3) := by decide +kernel
theorem dX5_init_22 : decode cX5_init 22 = .ok (.putfield 21, 3) := by decide +kernel
theorem dX5_init_25 : decode cX5_init 25 = .ok (.iconst 0, 1) := by decide +kernel
theorem dX5_init_26 : decode cX5_init 26 = .ok (.istore_n 1, 1) := by decide +kernel
theorem dX5_init_27 : decode cX5_init 27 = .ok (.iload_n 1, 1) := by decide +kernel
theorem dX5_init_28 : decode cX5_init 28 = .ok (.iconst 3, 1) := by decide +kernel
theorem dX5_init_29 : decode cX5_init 29 = .ok (.if_icmp .ge 22, 3) := by decide +kernel
theorem dX5_init_32 : decode cX5_init 32 = .ok (.aload_n 0, 1) := by decide +kernel
theorem dX5_init_33 : decode cX5_init 33 = .ok (.getfield 21, 3) := by decide +kernel
theorem dX5_init_36 : decode cX5_init 36 = .ok (.iload_n 1, 1) := by decide +kernel
theorem dX5_init_37 : decode cX5_init 37 = .ok (.new 19, 3) := by decide +kernel
theorem dX5_init_40 : decode cX5_init 40 = .ok (.dup, 1) := by decide +kernel
theorem dX5_init_41 : decode cX5_init 41 = .ok (.invokespecial 25, 3) := by decide +kernel
theorem dX5_init_44 : decode cX5_init 44 = .ok (.aastore, 1) := by decide +kernel
end
section
theorem dX5_init_45 : decode cX5_init 45 = .ok (.iinc 1 1, 3) := by decide +kernel
theorem dX5_init_48 : decode cX5_init 48 = .ok (.goto (-21), 3) := by decide +kernel
theorem dX5_init_51 : decode cX5_init 51 = .ok (.return_, 1) := by decide +kernel
theorem dX5_cupAt_0 : decode cX5_cupAt 0 = .ok (.iload_n 1, 1) := by decide +kernel
theorem dX5_cupAt_1 : decode cX5_cupAt 1 = .ok (.ifCond .lt 25, 3) := by decide +kernel
theorem dX5_cupAt_4 : decode cX5_cupAt 4 = .ok (.iload_n 1, 1) := by decide +kernel
theorem dX5_cupAt_5 : decode cX5_cupAt 5 = .ok (.aload_n 0, 1) := by decide +kernel
theorem dX5_cupAt_6 : decode cX5_cupAt 6 = .ok (.getfield 26, 3) := by decide +kernel
theorem dX5_cupAt_9 : decode cX5_cupAt 9 = .ok (.if_icmp .ge 17, 3) := by decide +kernel
theorem dX5_cupAt_12 : decode cX5_cupAt 12 = .ok (.iload_n 1, 1) := by decide +kernel
theorem dX5_cupAt_13 : decode cX5_cupAt 13 = .ok (.iconst 3, 1) := by decide +kernel
theorem dX5_cupAt_14 : decode cX5_cupAt 14 = .ok (.if_icmp .ge 12, 3) := by decide +kernel
theorem dX5_cupAt_17 : decode cX5_cupAt 17 = .ok (.aload_n 0, 1) := by decide +kernel
theorem dX5_cupAt_18 : decode cX5_cupAt 18 = .ok (.getfield 21, 3) := by decide +kernel
theorem dX5_cupAt_21 : decode cX5_cupAt 21 = .ok (.iload_n 1, 1) := by decide +kernel
theorem dX5_cupAt_22 : decode cX5_cupAt 22 = .ok (.aaload, 1) := by decide +kernel
theorem dX5_cupAt_23 : decode cX5_cupAt 23 = .ok (.goto 4, 3) := by decide +kernel
theorem dX5_cupAt_26 : decode cX5_cupAt 26 = .ok (.aconst_null, 1) := by decide +kernel
theorem dX5_cupAt_27 : decode cX5_cupAt 27 = .ok (.areturn, 1) := by decide +kernel
theorem dX5_allChapters_0 : decode cX5_allChapters 0 = .ok (.iconst 1, 1) := by decide +kernel
theorem dX5_allChapters_1 : decode cX5_allChapters 1 = .ok (.aload_n 0, 1) := by decide +kernel
theorem dX5_allChapters_2 : decode cX5_allChapters 2 = .ok (.getfield 29, 3) := by decide +kernel
theorem dX5_allChapters_5 : decode cX5_allChapters 5 = .ok (.ishl, 1) := by decide +kernel
theorem dX5_allChapters_6 : decode cX5_allChapters 6 = .ok (.iconst 1, 1) := by decide +kernel
theorem dX5_allChapters_7 : decode cX5_allChapters 7 = .ok (.isub, 1) := by decide +kernel
theorem dX5_allChapters_8 : decode cX5_allChapters 8 = .ok (.ireturn, 1) := by decide +kernel
theorem dX5_copyFrom_0 : decode cX5_copyFrom 0 = .ok (.aload_n 0, 1) := by decide +kernel
theorem dX5_copyFrom_1 : decode cX5_copyFrom 1 = .ok (.aload_n 1, 1) := by decide +kernel
theorem dX5_copyFrom_2 : decode cX5_copyFrom 2 = .ok (.getfield 9, 3) := by decide +kernel
theorem dX5_copyFrom_5 : decode cX5_copyFrom 5 = .ok (.putfield 9, 3) := by decide +kernel
theorem dX5_copyFrom_8 : decode cX5_copyFrom 8 = .ok (.aload_n 0, 1) := by decide +kernel
theorem dX5_copyFrom_9 : decode cX5_copyFrom 9 = .ok (.aload_n 1, 1) := by decide +kernel
theorem dX5_copyFrom_10 : decode cX5_copyFrom 10 = .ok (.getfield 32, 3) := by decide +kernel
theorem dX5_copyFrom_13 : decode cX5_copyFrom 13 = .ok (.putfield 32, 3) := by decide +kernel
theorem dX5_copyFrom_16 : decode cX5_copyFrom 16 = .ok (.aload_n 0, 1) := by decide +kernel
theorem dX5_copyFrom_17 : decode cX5_copyFrom 17 = .ok (.aload_n 1, 1) := by decide +kernel
theorem dX5_copyFrom_18 : decode cX5_copyFrom 18 = .ok (.getfield 29, 3) := by decide +kernel
theorem dX5_copyFrom_21 : decode cX5_copyFrom 21 = .ok (.putfield 29, 3) := by decide +kernel
theorem dX5_copyFrom_24 : decode cX5_copyFrom 24 = .ok (.aload_n 0, 1) := by decide +kernel
theorem dX5_copyFrom_25 : decode cX5_copyFrom 25 = .ok (.aload_n 1, 1) := by decide +kernel
theorem dX5_copyFrom_26 : decode cX5_copyFrom 26 = .ok (.getfield 26, 3) := by decide +kernel
theorem dX5_copyFrom_29 : decode cX5_copyFrom 29 = .ok (.putfield 26, 3) := by decide +kernel
theorem dX5_copyFrom_32 : decode cX5_copyFrom 32 = .ok (.aload_n 0, 1) := by decide +kernel
theorem dX5_copyFrom_33 : decode cX5_copyFrom 33 = .ok (.aload_n 1, 1) := by decide +kernel
theorem dX5_copyFrom_34 : decode cX5_copyFrom 34 = .ok (.getfield 35, 3) := by decide +kernel
theorem dX5_copyFrom_37 : decode cX5_copyFrom 37 = .ok (.putfield 35, 3) := by decide +kernel
theorem dX5_copyFrom_40 : decode cX5_copyFrom 40 = .ok (.aload_n 1, 1) := by decide +kernel
theorem dX5_copyFrom_41 : decode cX5_copyFrom 41 = .ok (.getfield 15, 3) := by decide +kernel
theorem dX5_copyFrom_44 : decode cX5_copyFrom 44 = .ok (.iconst 0, 1) := by decide +kernel
theorem dX5_copyFrom_45 : decode cX5_copyFrom 45 = .ok (.aload_n 0, 1) := by decide +kernel
theorem dX5_copyFrom_46 : decode cX5_copyFrom 46 = .ok (.getfield 15, 3) := by decide +kernel
theorem dX5_copyFrom_49 : decode cX5_copyFrom 49 = .ok (.iconst 0, 1) := by decide +kernel
theorem dX5_copyFrom_50 : decode cX5_copyFrom 50 = .ok (.bipush 16, 2) := by decide +kernel
theorem dX5_copyFrom_52 : decode cX5_copyFrom 52 = .ok (.invokestatic 38, 3) := by decide +kernel
theorem dX5_copyFrom_55 : decode cX5_copyFrom 55 = .ok (.iconst 0, 1) := by decide +kernel
theorem dX5_copyFrom_56 : decode cX5_copyFrom 56 = .ok (.istore_n 2, 1) := by decide +kernel
theorem dX5_copyFrom_57 : decode cX5_copyFrom 57 = .ok (.iload_n 2, 1) := by decide +kernel
theorem dX5_copyFrom_58 : decode cX5_copyFrom 58 = .ok (.iconst 3, 1) := by decide +kernel
theorem dX5_copyFrom_59 : decode cX5_copyFrom 59 = .ok (.if_icmp .ge 39, 3) := by decide +kernel
theorem dX5_copyFrom_62 : decode cX5_copyFrom 62 = .ok (.aload_n 0, 1) := by decide +kernel
theorem dX5_copyFrom_63 : decode cX5_copyFrom 63 = .ok (.getfield 21, 3) := by decide +kernel
theorem dX5_copyFrom_66 : decode cX5_copyFrom 66 = .ok (.iload_n 2, 1) := by decide +kernel
theorem dX5_copyFrom_67 : decode cX5_copyFrom 67 = .ok (.aaload, 1) := by decide +kernel
theorem dX5_copyFrom_68 : decode cX5_copyFrom 68 = .ok (.astore_n 3, 1) := by decide +kernel
theorem dX5_copyFrom_69 : decode cX5_copyFrom 69 = .ok (.aload_n 1, 1) := by decide +kernel
theorem dX5_copyFrom_70 : decode cX5_copyFrom 70 = .ok (.getfield 21, 3) := by decide +kernel
theorem dX5_copyFrom_73 : decode cX5_copyFrom 73 = .ok (.iload_n 2, 1) := by decide +kernel
theorem dX5_copyFrom_74 : decode cX5_copyFrom 74 = .ok (.aaload, 1) := by decide +kernel
theorem dX5_copyFrom_75 : decode cX5_copyFrom 75 = .ok (.astore 4, 2) := by decide +kernel
theorem dX5_copyFrom_77 : decode cX5_copyFrom 77 = .ok (.aload_n 3, 1) := by decide +kernel
theorem dX5_copyFrom_78 : decode cX5_copyFrom 78 = .ok (.ifnull 14, 3) := by decide +kernel
theorem dX5_copyFrom_81 : decode cX5_copyFrom 81 = .ok (.aload 4, 2) := by decide +kernel
theorem dX5_copyFrom_83 : decode cX5_copyFrom 83 = .ok (.ifnull 9, 3) := by decide +kernel
theorem dX5_copyFrom_86 : decode cX5_copyFrom 86 = .ok (.aload_n 3, 1) := by decide +kernel
theorem dX5_copyFrom_87 : decode cX5_copyFrom 87 = .ok (.aload 4, 2) := by decide +kernel
theorem dX5_copyFrom_89 : decode cX5_copyFrom 89 = .ok (.invokevirtual 44, 3) := by decide +kernel
theorem dX5_copyFrom_92 : decode cX5_copyFrom 92 = .ok (.iinc 2 1, 3) := by decide +kernel
theorem dX5_copyFrom_95 : decode cX5_copyFrom 95 = .ok (.goto (-38), 3) := by decide +kernel
theorem dX5_copyFrom_98 : decode cX5_copyFrom 98 = .ok (.return_, 1) := by decide +kernel
theorem dX6_init_0 : decode cX6_init 0 = .ok (.aload_n 0, 1) := by decide +kernel
theorem dX6_init_1 : decode cX6_init 1 = .ok (.invokespecial 1, 3) := by decide +kernel
theorem dX6_init_4 : decode cX6_init 4 = .ok (.aload_n 0, 1) := by decide +kernel
theorem dX6_init_5 : decode cX6_init 5 = .ok (.new 7, 3) := by decide +kernel
theorem dX6_init_8 : decode cX6_init 8 = .ok (.dup, 1) := by decide +kernel
theorem dX6_init_9 : decode cX6_init 9 = .ok (.invokespecial 9, 3) := by decide +kernel
theorem dX6_init_12 : decode cX6_init 12 = .ok (.putfield 10, 3) := by decide +kernel
theorem dX6_init_15 : decode cX6_init 15 = .ok (.aload_n 0, 1) := by decide +kernel
theorem dX6_init_16 : decode cX6_init 16 = .ok (.new 16, 3) := by decide +kernel
theorem dX6_init_19 : decode cX6_init 19 = .ok (.dup, 1) := by decide +kernel
theorem dX6_init_20 : decode cX6_init 20 = .ok (.invokespecial 18, 3) := by decide +kernel
theorem dX6_init_23 : decode cX6_init 23 = .ok (.putfield 19, 3) := by decide +kernel
theorem dX6_init_26 : decode cX6_init 26 = .ok (.aload_n 0, 1) := by decide +kernel
theorem dX6_init_27 : decode cX6_init 27 = .ok (.iconst 2, 1) := by decide +kernel
theorem dX6_init_28 : decode cX6_init 28 = .ok (.anewarray 7, 3) := by decide +kernel
theorem dX6_init_31 : decode cX6_init 31 = .ok (.putfield 23, 3) := by decide +kernel
theorem dX6_init_34 : decode cX6_init 34 = .ok (.aload_n 0, 1) := by decide +kernel
theorem dX6_init_35 : decode cX6_init 35 = .ok (.new 27, 3) := by decide +kernel
theorem dX6_init_38 : decode cX6_init 38 = .ok (.dup, 1) := by decide +kernel
theorem dX6_init_39 : decode cX6_init 39 = .ok (.invokespecial 29, 3) := by decide +kernel
theorem dX6_init_42 : decode cX6_init 42 = .ok (.putfield 30, 3) := by decide +kernel
theorem dX6_init_45 : decode cX6_init 45 = .ok (.aload_n 0, 1) := by decide +kernel
theorem dX6_init_46 : decode cX6_init 46 = .ok (.new 34, 3) := by decide +kernel
theorem dX6_init_49 : decode cX6_init 49 = .ok (.dup, 1) := by decide +kernel
theorem dX6_init_50 : decode cX6_init 50 = .ok (.invokespecial 36, 3) := by decide +kernel
theorem dX6_init_53 : decode cX6_init 53 = .ok (.putfield 37, 3) := by decide +kernel
theorem dX6_init_56 : decode cX6_init 56 = .ok (.aload_n 0, 1) := by decide +kernel
theorem dX6_init_57 : decode cX6_init 57 = .ok (.new 41, 3) := by decide +kernel
theorem dX6_init_60 : decode cX6_init 60 = .ok (.dup, 1) := by decide +kernel
theorem dX6_init_61 : decode cX6_init 61 = .ok (.invokespecial 43, 3) := by decide +kernel
theorem dX6_init_64 : decode cX6_init 64 = .ok (.putfield 44, 3) := by decide +kernel
theorem dX6_init_67 : decode cX6_init 67 = .ok (.aload_n 0, 1) := by decide +kernel
theorem dX6_init_68 : decode cX6_init 68 = .ok (.new 48, 3) := by decide +kernel
theorem dX6_init_71 : decode cX6_init 71 = .ok (.dup, 1) := by decide +kernel
theorem dX6_init_72 : decode cX6_init 72 = .ok (.invokespecial 50, 3) := by decide +kernel
theorem dX6_init_75 : decode cX6_init 75 = .ok (.putfield 51, 3) := by decide +kernel
theorem dX6_init_78 : decode cX6_init 78 = .ok (.return_, 1) := by decide +kernel
theorem dX6_set_0 : decode cX6_set 0 = .ok (.aload_n 0, 1) := by decide +kernel
theorem dX6_set_1 : decode cX6_set 1 = .ok (.getfield 19, 3) := by decide +kernel
theorem dX6_set_4 : decode cX6_set 4 = .ok (.aload_n 0, 1) := by decide +kernel
theorem dX6_set_5 : decode cX6_set 5 = .ok (.getfield 10, 3) := by decide +kernel
theorem dX6_set_8 : decode cX6_set 8 = .ok (.invokevirtual 55, 3) := by decide +kernel
theorem dX6_set_11 : decode cX6_set 11 = .ok (.aload_n 0, 1) := by decide +kernel
theorem dX6_set_12 : decode cX6_set 12 = .ok (.getfield 19, 3) := by decide +kernel
theorem dX6_set_15 : decode cX6_set 15 = .ok (.aload_n 0, 1) := by decide +kernel
theorem dX6_set_16 : decode cX6_set 16 = .ok (.iload_n 1, 1) := by decide +kernel
theorem dX6_set_17 : decode cX6_set 17 = .ok (.iload_n 2, 1) := by decide +kernel
theorem dX6_set_18 : decode cX6_set 18 = .ok (.invokevirtual 59, 3) := by decide +kernel
theorem dX6_set_21 : decode cX6_set 21 = .ok (.invokevirtual 63, 3) := by decide +kernel
theorem dX6_set_24 : decode cX6_set 24 = .ok (.ireturn, 1) := by decide +kernel
theorem dX6_chapter_0 : decode cX6_chapter 0 = .ok (.aload_n 0, 1) := by decide +kernel
theorem dX6_chapter_1 : decode cX6_chapter 1 = .ok (.getfield 19, 3) := by decide +kernel
theorem dX6_chapter_4 : decode cX6_chapter 4 = .ok (.aload_n 0, 1) := by decide +kernel
theorem dX6_chapter_5 : decode cX6_chapter 5 = .ok (.getfield 10, 3) := by decide +kernel
theorem dX6_chapter_8 : decode cX6_chapter 8 = .ok (.invokevirtual 55, 3) := by decide +kernel
theorem dX6_chapter_11 : decode cX6_chapter 11 = .ok (.aload_n 0, 1) := by decide +kernel
theorem dX6_chapter_12 : decode cX6_chapter 12 = .ok (.getfield 19, 3) := by decide +kernel
theorem dX6_chapter_15 : decode cX6_chapter 15 = .ok (.aload_n 0, 1) := by decide +kernel
theorem dX6_chapter_16 : decode cX6_chapter 16 = .ok (.iload_n 1, 1) := by decide +kernel
theorem dX6_chapter_17 : decode cX6_chapter 17 = .ok (.invokevirtual 67, 3) := by decide +kernel
theorem dX6_chapter_20 : decode cX6_chapter 20 = .ok (.invokevirtual 63, 3) := by decide +kernel
theorem dX6_chapter_23 : decode cX6_chapter 23 = .ok (.ireturn, 1) := by decide +kernel
theorem dX6_cup_0 : decode cX6_cup 0 = .ok (.aload_n 0, 1) := by decide +kernel
theorem dX6_cup_1 : decode cX6_cup 1 = .ok (.getfield 19, 3) := by decide +kernel
theorem dX6_cup_4 : decode cX6_cup 4 = .ok (.aload_n 0, 1) := by decide +kernel
theorem dX6_cup_5 : decode cX6_cup 5 = .ok (.getfield 10, 3) := by decide +kernel
theorem dX6_cup_8 : decode cX6_cup 8 = .ok (.invokevirtual 55, 3) := by decide +kernel
theorem dX6_cup_11 : decode cX6_cup 11 = .ok (.aload_n 0, 1) := by decide +kernel
theorem dX6_cup_12 : decode cX6_cup 12 = .ok (.getfield 19, 3) := by decide +kernel
theorem dX6_cup_15 : decode cX6_cup 15 = .ok (.aload_n 0, 1) := by decide +kernel
theorem dX6_cup_16 : decode cX6_cup 16 = .ok (.invokevirtual 70, 3) := by decide +kernel
theorem dX6_cup_19 : decode cX6_cup 19 = .ok (.invokevirtual 63, 3) := by decide +kernel
theorem dX6_cup_22 : decode cX6_cup 22 = .ok (.ireturn, 1) := by decide +kernel
theorem dX6_empty_0 : decode cX6_empty 0 = .ok (.aload_n 0, 1) := by decide +kernel
theorem dX6_empty_1 : decode cX6_empty 1 = .ok (.getfield 19, 3) := by decide +kernel
theorem dX6_empty_4 : decode cX6_empty 4 = .ok (.aload_n 0, 1) := by decide +kernel
theorem dX6_empty_5 : decode cX6_empty 5 = .ok (.getfield 10, 3) := by decide +kernel
theorem dX6_empty_8 : decode cX6_empty 8 = .ok (.invokevirtual 55, 3) := by decide +kernel
theorem dX6_empty_11 : decode cX6_empty 11 = .ok (.aload_n 0, 1) := by decide +kernel
theorem dX6_empty_12 : decode cX6_empty 12 = .ok (.getfield 19, 3) := by decide +kernel
theorem dX6_empty_15 : decode cX6_empty 15 = .ok (.aload_n 0, 1) := by decide +kernel
theorem dX6_empty_16 : decode cX6_empty 16 = .ok (.iload_n 1, 1) := by decide +kernel
theorem dX6_empty_17 : decode cX6_empty 17 = .ok (.invokevirtual 74, 3) := by decide +kernel
theorem dX6_empty_20 : decode cX6_empty 20 = .ok (.invokevirtual 63, 3) := by decide +kernel
theorem dX6_empty_23 : decode cX6_empty 23 = .ok (.ireturn, 1) := by decide +kernel
theorem dX6_pour_0 : decode cX6_pour 0 = .ok (.aload_n 0, 1) := by decide +kernel
theorem dX6_pour_1 : decode cX6_pour 1 = .ok (.getfield 19, 3) := by decide +kernel
theorem dX6_pour_4 : decode cX6_pour 4 = .ok (.aload_n 0, 1) := by decide +kernel
theorem dX6_pour_5 : decode cX6_pour 5 = .ok (.getfield 10, 3) := by decide +kernel
theorem dX6_pour_8 : decode cX6_pour 8 = .ok (.invokevirtual 55, 3) := by decide +kernel
theorem dX6_pour_11 : decode cX6_pour 11 = .ok (.aload_n 0, 1) := by decide +kernel
theorem dX6_pour_12 : decode cX6_pour 12 = .ok (.getfield 19, 3) := by decide +kernel
theorem dX6_pour_15 : decode cX6_pour 15 = .ok (.aload_n 0, 1) := by decide +kernel
theorem dX6_pour_16 : decode cX6_pour 16 = .ok (.iload_n 1, 1) := by decide +kernel
theorem dX6_pour_17 : decode cX6_pour 17 = .ok (.iload_n 2, 1) := by decide +kernel
theorem dX6_pour_18 : decode cX6_pour 18 = .ok (.iload_n 3, 1) := by decide +kernel
theorem dX6_pour_19 : decode cX6_pour 19 = .ok (.invokevirtual 77, 3) := by decide +kernel
theorem dX6_pour_22 : decode cX6_pour 22 = .ok (.invokevirtual 63, 3) := by decide +kernel
theorem dX6_pour_25 : decode cX6_pour 25 = .ok (.ireturn, 1) := by decide +kernel
theorem dX6_solve_0 : decode cX6_solve 0 = .ok (.aload_n 0, 1) := by decide +kernel
theorem dX6_solve_1 : decode cX6_solve 1 = .ok (.getfield 19, 3) := by decide +kernel
theorem dX6_solve_4 : decode cX6_solve 4 = .ok (.aload_n 0, 1) := by decide +kernel
theorem dX6_solve_5 : decode cX6_solve 5 = .ok (.getfield 10, 3) := by decide +kernel
theorem dX6_solve_8 : decode cX6_solve 8 = .ok (.invokevirtual 55, 3) := by decide +kernel
theorem dX6_solve_11 : decode cX6_solve 11 = .ok (.aload_n 0, 1) := by decide +kernel
theorem dX6_solve_12 : decode cX6_solve 12 = .ok (.getfield 19, 3) := by decide +kernel
theorem dX6_solve_15 : decode cX6_solve 15 = .ok (.aload_n 0, 1) := by decide +kernel
theorem dX6_solve_16 : decode cX6_solve 16 = .ok (.iload_n 1, 1) := by decide +kernel
theorem dX6_solve_17 : decode cX6_solve 17 = .ok (.invokevirtual 81, 3) := by decide +kernel
theorem dX6_solve_20 : decode cX6_solve 20 = .ok (.invokevirtual 63, 3) := by decide +kernel
theorem dX6_solve_23 : decode cX6_solve 23 = .ok (.ireturn, 1) := by decide +kernel
theorem dX6_droplet_0 : decode cX6_droplet 0 = .ok (.iload_n 1, 1) := by decide +kernel
theorem dX6_droplet_1 : decode cX6_droplet 1 = .ok (.iconst 0, 1) := by decide +kernel
theorem dX6_droplet_2 : decode cX6_droplet 2 = .ok (.ldc 84, 2) := by decide +kernel
theorem dX6_droplet_4 : decode cX6_droplet 4 = .ok (.invokestatic 85, 3) := by decide +kernel
theorem dX6_droplet_7 : decode cX6_droplet 7 = .ok (.ifCond .eq 12, 3) := by decide +kernel
theorem dX6_droplet_10 : decode cX6_droplet 10 = .ok (.iload_n 2, 1) := by decide +kernel
theorem dX6_droplet_11 : decode cX6_droplet 11 = .ok (.iconst 0, 1) := by decide +kernel
theorem dX6_droplet_12 : decode cX6_droplet 12 = .ok (.iconst 3, 1) := by decide +kernel
theorem dX6_droplet_13 : decode cX6_droplet 13 = .ok (.invokestatic 85, 3) := by decide +kernel
theorem dX6_droplet_16 : decode cX6_droplet 16 = .ok (.ifCond .ne 6, 3) := by decide +kernel
theorem dX6_droplet_19 : decode cX6_droplet 19 = .ok (.bipush (-2), 2) := by decide +kernel
theorem dX6_droplet_21 : decode cX6_droplet 21 = .ok (.ireturn, 1) := by decide +kernel
theorem dX6_droplet_22 : decode cX6_droplet 22 = .ok (.aload_n 0, 1) := by decide +kernel
theorem dX6_droplet_23 : decode cX6_droplet 23 = .ok (.getfield 10, 3) := by decide +kernel
theorem dX6_droplet_26 : decode cX6_droplet 26 = .ok (.getfield 89, 3) := by decide +kernel
theorem dX6_droplet_29 : decode cX6_droplet 29 = .ok (.ifCond .ne 6, 3) := by decide +kernel
theorem dX6_droplet_32 : decode cX6_droplet 32 = .ok (.bipush (-5), 2) := by decide +kernel
theorem dX6_droplet_34 : decode cX6_droplet 34 = .ok (.ireturn, 1) := by decide +kernel
theorem dX6_droplet_35 : decode cX6_droplet 35 = .ok (.aload_n 0, 1) := by decide +kernel
theorem dX6_droplet_36 : decode cX6_droplet 36 = .ok (.getfield 37, 3) := by decide +kernel
theorem dX6_droplet_39 : decode cX6_droplet 39 = .ok (.aload_n 0, 1) := by decide +kernel
theorem dX6_droplet_40 : decode cX6_droplet 40 = .ok (.getfield 10, 3) := by decide +kernel
theorem dX6_droplet_43 : decode cX6_droplet 43 = .ok (.iload_n 1, 1) := by decide +kernel
theorem dX6_droplet_44 : decode cX6_droplet 44 = .ok (.invokevirtual 93, 3) := by decide +kernel
theorem dX6_droplet_47 : decode cX6_droplet 47 = .ok (.iload_n 2, 1) := by decide +kernel
theorem dX6_droplet_48 : decode cX6_droplet 48 = .ok (.tableswitch 52 0 2 #[28, 36, 44], 28) := by decide +kernel
theorem dX6_droplet_76 : decode cX6_droplet 76 = .ok (.aload_n 0, 1) := by decide +kernel
theorem dX6_droplet_77 : decode cX6_droplet 77 = .ok (.getfield 37, 3) := by decide +kernel
theorem dX6_droplet_80 : decode cX6_droplet 80 = .ok (.getfield 97, 3) := by decide +kernel
theorem dX6_droplet_83 : decode cX6_droplet 83 = .ok (.ireturn, 1) := by decide +kernel
theorem dX6_droplet_84 : decode cX6_droplet 84 = .ok (.aload_n 0, 1) := by decide +kernel
theorem dX6_droplet_85 : decode cX6_droplet 85 = .ok (.getfield 37, 3) := by decide +kernel
theorem dX6_droplet_88 : decode cX6_droplet 88 = .ok (.getfield 100, 3) := by decide +kernel
theorem dX6_droplet_91 : decode cX6_droplet 91 = .ok (.ireturn, 1) := by decide +kernel
theorem dX6_droplet_92 : decode cX6_droplet 92 = .ok (.aload_n 0, 1) := by decide +kernel
theorem dX6_droplet_93 : decode cX6_droplet 93 = .ok (.getfield 37, 3) := by decide +kernel
theorem dX6_droplet_96 : decode cX6_droplet 96 = .ok (.getfield 103, 3) := by decide +kernel
theorem dX6_droplet_99 : decode cX6_droplet 99 = .ok (.ireturn, 1) := by decide +kernel
theorem dX6_droplet_100 : decode cX6_droplet 100 = .ok (.aload_n 0, 1) := by decide +kernel
theorem dX6_droplet_101 : decode cX6_droplet 101 = .ok (.getfield 37, 3) := by decide +kernel
theorem dX6_droplet_104 : decode cX6_droplet 104 = .ok (.getfield 106, 3) := by decide +kernel
theorem dX6_droplet_107 : decode cX6_droplet 107 = .ok (.ifCond .eq 7, 3) := by decide +kernel
theorem dX6_droplet_110 : decode cX6_droplet 110 = .ok (.iconst 1, 1) := by decide +kernel
theorem dX6_droplet_111 : decode cX6_droplet 111 = .ok (.goto 4, 3) := by decide +kernel
theorem dX6_droplet_114 : decode cX6_droplet 114 = .ok (.iconst 0, 1) := by decide +kernel
theorem dX6_droplet_115 : decode cX6_droplet 115 = .ok (.ireturn, 1) := by decide +kernel
theorem dX6_ofCup_0 : decode cX6_ofCup 0 = .ok (.aload_n 0, 1) := by decide +kernel
theorem dX6_ofCup_1 : decode cX6_ofCup 1 = .ok (.getfield 10, 3) := by decide +kernel
theorem dX6_ofCup_4 : decode cX6_ofCup 4 = .ok (.iload_n 1, 1) := by decide +kernel
theorem dX6_ofCup_5 : decode cX6_ofCup 5 = .ok (.invokevirtual 110, 3) := by decide +kernel
theorem dX6_ofCup_8 : decode cX6_ofCup 8 = .ok (.astore_n 3, 1) := by decide +kernel
theorem dX6_ofCup_9 : decode cX6_ofCup 9 = .ok (.aload_n 3, 1) := by decide +kernel
theorem dX6_ofCup_10 : decode cX6_ofCup 10 = .ok (.ifnonnull 5, 3) := by decide +kernel
theorem dX6_ofCup_13 : decode cX6_ofCup 13 = .ok (.iconst (-1), 1) := by decide +kernel
theorem dX6_ofCup_14 : decode cX6_ofCup 14 = .ok (.ireturn, 1) := by decide +kernel
theorem dX6_ofCup_15 : decode cX6_ofCup 15 = .ok (.iload_n 2, 1) := by decide +kernel
theorem dX6_ofCup_16 : decode cX6_ofCup 16 = .ok (.tableswitch 104 0 6 #[44, 49, 54, 59, 64, 69, 83], 44) := by decide +kernel
theorem dX6_ofCup_60 : decode cX6_ofCup 60 = .ok (.aload_n 3, 1) := by decide +kernel
theorem dX6_ofCup_61 : decode cX6_ofCup 61 = .ok (.getfield 114, 3) := by decide +kernel
theorem dX6_ofCup_64 : decode cX6_ofCup 64 = .ok (.ireturn, 1) := by decide +kernel
theorem dX6_ofCup_65 : decode cX6_ofCup 65 = .ok (.aload_n 3, 1) := by decide +kernel
theorem dX6_ofCup_66 : decode cX6_ofCup 66 = .ok (.getfield 117, 3) := by decide +kernel
theorem dX6_ofCup_69 : decode cX6_ofCup 69 = .ok (.ireturn, 1) := by decide +kernel
theorem dX6_ofCup_70 : decode cX6_ofCup 70 = .ok (.aload_n 3, 1) := by decide +kernel
theorem dX6_ofCup_71 : decode cX6_ofCup 71 = .ok (.getfield 120, 3) := by decide +kernel
theorem dX6_ofCup_74 : decode cX6_ofCup 74 = .ok (.ireturn, 1) := by decide +kernel
theorem dX6_ofCup_75 : decode cX6_ofCup 75 = .ok (.aload_n 3, 1) := by decide +kernel
theorem dX6_ofCup_76 : decode cX6_ofCup 76 = .ok (.getfield 123, 3) := by decide +kernel
theorem dX6_ofCup_79 : decode cX6_ofCup 79 = .ok (.ireturn, 1) := by decide +kernel
theorem dX6_ofCup_80 : decode cX6_ofCup 80 = .ok (.aload_n 3, 1) := by decide +kernel
theorem dX6_ofCup_81 : decode cX6_ofCup 81 = .ok (.getfield 125, 3) := by decide +kernel
theorem dX6_ofCup_84 : decode cX6_ofCup 84 = .ok (.ireturn, 1) := by decide +kernel
theorem dX6_ofCup_85 : decode cX6_ofCup 85 = .ok (.aload_n 0, 1) := by decide +kernel
theorem dX6_ofCup_86 : decode cX6_ofCup 86 = .ok (.aload_n 3, 1) := by decide +kernel
theorem dX6_ofCup_87 : decode cX6_ofCup 87 = .ok (.invokevirtual 128, 3) := by decide +kernel
theorem dX6_ofCup_90 : decode cX6_ofCup 90 = .ok (.ifCond .eq 7, 3) := by decide +kernel
theorem dX6_ofCup_93 : decode cX6_ofCup 93 = .ok (.iconst 1, 1) := by decide +kernel
theorem dX6_ofCup_94 : decode cX6_ofCup 94 = .ok (.goto 4, 3) := by decide +kernel
theorem dX6_ofCup_97 : decode cX6_ofCup 97 = .ok (.iconst 0, 1) := by decide +kernel
theorem dX6_ofCup_98 : decode cX6_ofCup 98 = .ok (.ireturn, 1) := by decide +kernel
theorem dX6_ofCup_99 : decode cX6_ofCup 99 = .ok (.aload_n 0, 1) := by decide +kernel
theorem dX6_ofCup_100 : decode cX6_ofCup 100 = .ok (.getfield 51, 3) := by decide +kernel
theorem dX6_ofCup_103 : decode cX6_ofCup 103 = .ok (.aload_n 3, 1) := by decide +kernel
theorem dX6_ofCup_104 : decode cX6_ofCup 104 = .ok (.invokevirtual 132, 3) := by decide +kernel
theorem dX6_ofCup_107 : decode cX6_ofCup 107 = .ok (.aload_n 3, 1) := by decide +kernel
theorem dX6_ofCup_108 : decode cX6_ofCup 108 = .ok (.invokevirtual 136, 3) := by decide +kernel
theorem dX6_ofCup_111 : decode cX6_ofCup 111 = .ok (.aload_n 0, 1) := by decide +kernel
theorem dX6_ofCup_112 : decode cX6_ofCup 112 = .ok (.getfield 51, 3) := by decide +kernel
theorem dX6_ofCup_115 : decode cX6_ofCup 115 = .ok (.invokevirtual 139, 3) := by decide +kernel
theorem dX6_ofCup_118 : decode cX6_ofCup 118 = .ok (.iadd, 1) := by decide +kernel
theorem dX6_ofCup_119 : decode cX6_ofCup 119 = .ok (.ireturn, 1) := by decide +kernel
theorem dX6_ofCup_120 : decode cX6_ofCup 120 = .ok (.bipush (-2), 2) := by decide +kernel
theorem dX6_ofCup_122 : decode cX6_ofCup 122 = .ok (.ireturn, 1) := by decide +kernel
theorem dX6_known_0 : decode cX6_known 0 = .ok (.aload_n 0, 1) := by decide +kernel
theorem dX6_known_1 : decode cX6_known 1 = .ok (.getfield 10, 3) := by decide +kernel
theorem dX6_known_4 : decode cX6_known 4 = .ok (.iload_n 1, 1) := by decide +kernel
theorem dX6_known_5 : decode cX6_known 5 = .ok (.invokevirtual 110, 3) := by decide +kernel
theorem dX6_known_8 : decode cX6_known 8 = .ok (.astore_n 3, 1) := by decide +kernel
theorem dX6_known_9 : decode cX6_known 9 = .ok (.aload_n 3, 1) := by decide +kernel
theorem dX6_known_10 : decode cX6_known 10 = .ok (.ifnull 24, 3) := by decide +kernel
theorem dX6_known_13 : decode cX6_known 13 = .ok (.iload_n 2, 1) := by decide +kernel
theorem dX6_known_14 : decode cX6_known 14 = .ok (.iconst 0, 1) := by decide +kernel
theorem dX6_known_15 : decode cX6_known 15 = .ok (.bipush 15, 2) := by decide +kernel
theorem dX6_known_17 : decode cX6_known 17 = .ok (.invokestatic 85, 3) := by decide +kernel
theorem dX6_known_20 : decode cX6_known 20 = .ok (.ifCond .eq 14, 3) := by decide +kernel
theorem dX6_known_23 : decode cX6_known 23 = .ok (.iload_n 2, 1) := by decide +kernel
theorem dX6_known_24 : decode cX6_known 24 = .ok (.aload_n 0, 1) := by decide +kernel
theorem dX6_known_25 : decode cX6_known 25 = .ok (.getfield 10, 3) := by decide +kernel
theorem dX6_known_28 : decode cX6_known 28 = .ok (.getfield 89, 3) := by decide +kernel
theorem dX6_known_31 : decode cX6_known 31 = .ok (.if_icmp .lt 5, 3) := by decide +kernel
theorem dX6_known_34 : decode cX6_known 34 = .ok (.iconst (-1), 1) := by decide +kernel
theorem dX6_known_35 : decode cX6_known 35 = .ok (.ireturn, 1) := by decide +kernel
theorem dX6_known_36 : decode cX6_known 36 = .ok (.aload_n 3, 1) := by decide +kernel
theorem dX6_known_37 : decode cX6_known 37 = .ok (.getfield 114, 3) := by decide +kernel
theorem dX6_known_40 : decode cX6_known 40 = .ok (.iconst 1, 1) := by decide +kernel
theorem dX6_known_41 : decode cX6_known 41 = .ok (.iload_n 2, 1) := by decide +kernel
theorem dX6_known_42 : decode cX6_known 42 = .ok (.ishl, 1) := by decide +kernel
theorem dX6_known_43 : decode cX6_known 43 = .ok (.iand, 1) := by decide +kernel
theorem dX6_known_44 : decode cX6_known 44 = .ok (.ifCond .ne 8, 3) := by decide +kernel
theorem dX6_known_47 : decode cX6_known 47 = .ok (.bipush (-6), 2) := by decide +kernel
theorem dX6_known_49 : decode cX6_known 49 = .ok (.goto 9, 3) := by decide +kernel
theorem dX6_known_52 : decode cX6_known 52 = .ok (.aload_n 3, 1) := by decide +kernel
theorem dX6_known_53 : decode cX6_known 53 = .ok (.getfield 142, 3) := by decide +kernel
theorem dX6_known_56 : decode cX6_known 56 = .ok (.iload_n 2, 1) := by decide +kernel
theorem dX6_known_57 : decode cX6_known 57 = .ok (.iaload, 1) := by decide +kernel
theorem dX6_known_58 : decode cX6_known 58 = .ok (.ireturn, 1) := by decide +kernel
theorem dX6_kept_0 : decode cX6_kept 0 = .ok (.aload_n 0, 1) := by decide +kernel
theorem dX6_kept_1 : decode cX6_kept 1 = .ok (.getfield 10, 3) := by decide +kernel
theorem dX6_kept_4 : decode cX6_kept 4 = .ok (.iload_n 1, 1) := by decide +kernel
theorem dX6_kept_5 : decode cX6_kept 5 = .ok (.invokevirtual 110, 3) := by decide +kernel
theorem dX6_kept_8 : decode cX6_kept 8 = .ok (.astore 4, 2) := by decide +kernel
theorem dX6_kept_10 : decode cX6_kept 10 = .ok (.aload 4, 2) := by decide +kernel
theorem dX6_kept_12 : decode cX6_kept 12 = .ok (.ifnull 22, 3) := by decide +kernel
theorem dX6_kept_15 : decode cX6_kept 15 = .ok (.iload_n 2, 1) := by decide +kernel
theorem dX6_kept_16 : decode cX6_kept 16 = .ok (.iconst 0, 1) := by decide +kernel
theorem dX6_kept_17 : decode cX6_kept 17 = .ok (.bipush 23, 2) := by decide +kernel
theorem dX6_kept_19 : decode cX6_kept 19 = .ok (.invokestatic 85, 3) := by decide +kernel
theorem dX6_kept_22 : decode cX6_kept 22 = .ok (.ifCond .eq 12, 3) := by decide +kernel
theorem dX6_kept_25 : decode cX6_kept 25 = .ok (.iload_n 2, 1) := by decide +kernel
theorem dX6_kept_26 : decode cX6_kept 26 = .ok (.aload 4, 2) := by decide +kernel
theorem dX6_kept_28 : decode cX6_kept 28 = .ok (.getfield 117, 3) := by decide +kernel
theorem dX6_kept_31 : decode cX6_kept 31 = .ok (.if_icmp .lt 5, 3) := by decide +kernel
theorem dX6_kept_34 : decode cX6_kept 34 = .ok (.iconst (-1), 1) := by decide +kernel
theorem dX6_kept_35 : decode cX6_kept 35 = .ok (.ireturn, 1) := by decide +kernel
theorem dX6_kept_36 : decode cX6_kept 36 = .ok (.iload_n 3, 1) := by decide +kernel
theorem dX6_kept_37 : decode cX6_kept 37 = .ok (.lookupswitch 43 #[(0, 27), (1, 35)], 27) := by decide +kernel
theorem dX6_kept_64 : decode cX6_kept 64 = .ok (.aload 4, 2) := by decide +kernel
theorem dX6_kept_66 : decode cX6_kept 66 = .ok (.getfield 146, 3) := by decide +kernel
theorem dX6_kept_69 : decode cX6_kept 69 = .ok (.iload_n 2, 1) := by decide +kernel
theorem dX6_kept_70 : decode cX6_kept 70 = .ok (.iaload, 1) := by decide +kernel
theorem dX6_kept_71 : decode cX6_kept 71 = .ok (.ireturn, 1) := by decide +kernel
theorem dX6_kept_72 : decode cX6_kept 72 = .ok (.aload 4, 2) := by decide +kernel
theorem dX6_kept_74 : decode cX6_kept 74 = .ok (.getfield 149, 3) := by decide +kernel
theorem dX6_kept_77 : decode cX6_kept 77 = .ok (.iload_n 2, 1) := by decide +kernel
theorem dX6_kept_78 : decode cX6_kept 78 = .ok (.iaload, 1) := by decide +kernel
theorem dX6_kept_79 : decode cX6_kept 79 = .ok (.ireturn, 1) := by decide +kernel
theorem dX6_kept_80 : decode cX6_kept 80 = .ok (.bipush (-2), 2) := by decide +kernel
theorem dX6_kept_82 : decode cX6_kept 82 = .ok (.ireturn, 1) := by decide +kernel
theorem dX6_count_0 : decode cX6_count 0 = .ok (.iload_n 1, 1) := by decide +kernel
theorem dX6_count_1 : decode cX6_count 1 = .ok (.tableswitch 108 0 7 #[47, 55, 63, 68, 76, 84, 92, 100], 47) := by decide +kernel
theorem dX6_count_48 : decode cX6_count 48 = .ok (.aload_n 0, 1) := by decide +kernel
theorem dX6_count_49 : decode cX6_count 49 = .ok (.getfield 10, 3) := by decide +kernel
theorem dX6_count_52 : decode cX6_count 52 = .ok (.getfield 89, 3) := by decide +kernel
theorem dX6_count_55 : decode cX6_count 55 = .ok (.ireturn, 1) := by decide +kernel
theorem dX6_count_56 : decode cX6_count 56 = .ok (.aload_n 0, 1) := by decide +kernel
theorem dX6_count_57 : decode cX6_count 57 = .ok (.getfield 10, 3) := by decide +kernel
theorem dX6_count_60 : decode cX6_count 60 = .ok (.getfield 152, 3) := by decide +kernel
theorem dX6_count_63 : decode cX6_count 63 = .ok (.ireturn, 1) := by decide +kernel
theorem dX6_count_64 : decode cX6_count 64 = .ok (.aload_n 0, 1) := by decide +kernel
theorem dX6_count_65 : decode cX6_count 65 = .ok (.invokevirtual 155, 3) := by decide +kernel
theorem dX6_count_68 : decode cX6_count 68 = .ok (.ireturn, 1) := by decide +kernel
theorem dX6_count_69 : decode cX6_count 69 = .ok (.aload_n 0, 1) := by decide +kernel
theorem dX6_count_70 : decode cX6_count 70 = .ok (.getfield 10, 3) := by decide +kernel
theorem dX6_count_73 : decode cX6_count 73 = .ok (.getfield 158, 3) := by decide +kernel
theorem dX6_count_76 : decode cX6_count 76 = .ok (.ireturn, 1) := by decide +kernel
theorem dX6_count_77 : decode cX6_count 77 = .ok (.aload_n 0, 1) := by decide +kernel
theorem dX6_count_78 : decode cX6_count 78 = .ok (.getfield 10, 3) := by decide +kernel
theorem dX6_count_81 : decode cX6_count 81 = .ok (.getfield 159, 3) := by decide +kernel
theorem dX6_count_84 : decode cX6_count 84 = .ok (.ireturn, 1) := by decide +kernel
theorem dX6_count_85 : decode cX6_count 85 = .ok (.aload_n 0, 1) := by decide +kernel
theorem dX6_count_86 : decode cX6_count 86 = .ok (.getfield 10, 3) := by decide +kernel
theorem dX6_count_89 : decode cX6_count 89 = .ok (.getfield 162, 3) := by decide +kernel
theorem dX6_count_92 : decode cX6_count 92 = .ok (.ireturn, 1) := by decide +kernel
theorem dX6_count_93 : decode cX6_count 93 = .ok (.aload_n 0, 1) := by decide +kernel
theorem dX6_count_94 : decode cX6_count 94 = .ok (.getfield 30, 3) := by decide +kernel
theorem dX6_count_97 : decode cX6_count 97 = .ok (.getfield 165, 3) := by decide +kernel
theorem dX6_count_100 : decode cX6_count 100 = .ok (.ireturn, 1) := by decide +kernel
theorem dX6_count_101 : decode cX6_count 101 = .ok (.aload_n 0, 1) := by decide +kernel
theorem dX6_count_102 : decode cX6_count 102 = .ok (.getfield 19, 3) := by decide +kernel
theorem dX6_count_105 : decode cX6_count 105 = .ok (.getfield 168, 3) := by decide +kernel
theorem dX6_count_108 : decode cX6_count 108 = .ok (.ireturn, 1) := by decide +kernel
theorem dX6_count_109 : decode cX6_count 109 = .ok (.bipush (-2), 2) := by decide +kernel
theorem dX6_count_111 : decode cX6_count 111 = .ok (.ireturn, 1) := by decide +kernel
theorem dX6_would_0 : decode cX6_would 0 = .ok (.aload_n 0, 1) := by decide +kernel
theorem dX6_would_1 : decode cX6_would 1 = .ok (.getfield 10, 3) := by decide +kernel
theorem dX6_would_4 : decode cX6_would 4 = .ok (.iload_n 1, 1) := by decide +kernel
theorem dX6_would_5 : decode cX6_would 5 = .ok (.invokevirtual 110, 3) := by decide +kernel
theorem dX6_would_8 : decode cX6_would 8 = .ok (.astore_n 3, 1) := by decide +kernel
theorem dX6_would_9 : decode cX6_would 9 = .ok (.aload_n 3, 1) := by decide +kernel
theorem dX6_would_10 : decode cX6_would 10 = .ok (.ifnonnull 5, 3) := by decide +kernel
theorem dX6_would_13 : decode cX6_would 13 = .ok (.iconst (-1), 1) := by decide +kernel
theorem dX6_would_14 : decode cX6_would 14 = .ok (.ireturn, 1) := by decide +kernel
theorem dX6_would_15 : decode cX6_would 15 = .ok (.aload_n 0, 1) := by decide +kernel
theorem dX6_would_16 : decode cX6_would 16 = .ok (.iload_n 2, 1) := by decide +kernel
theorem dX6_would_17 : decode cX6_would 17 = .ok (.iconst 1, 1) := by decide +kernel
theorem dX6_would_18 : decode cX6_would 18 = .ok (.invokevirtual 171, 3) := by decide +kernel
theorem dX6_would_21 : decode cX6_would 21 = .ok (.istore 4, 2) := by decide +kernel
theorem dX6_would_23 : decode cX6_would 23 = .ok (.iload 4, 2) := by decide +kernel
theorem dX6_would_25 : decode cX6_would 25 = .ok (.ifCond .ge 6, 3) := by decide +kernel
theorem dX6_would_28 : decode cX6_would 28 = .ok (.iload 4, 2) := by decide +kernel
theorem dX6_would_30 : decode cX6_would 30 = .ok (.ireturn, 1) := by decide +kernel
theorem dX6_would_31 : decode cX6_would 31 = .ok (.aload_n 0, 1) := by decide +kernel
theorem dX6_would_32 : decode cX6_would 32 = .ok (.getfield 37, 3) := by decide +kernel
theorem dX6_would_35 : decode cX6_would 35 = .ok (.aload_n 0, 1) := by decide +kernel
theorem dX6_would_36 : decode cX6_would 36 = .ok (.getfield 10, 3) := by decide +kernel
theorem dX6_would_39 : decode cX6_would 39 = .ok (.iload_n 2, 1) := by decide +kernel
theorem dX6_would_40 : decode cX6_would 40 = .ok (.invokevirtual 93, 3) := by decide +kernel
theorem dX6_would_43 : decode cX6_would 43 = .ok (.aload_n 0, 1) := by decide +kernel
theorem dX6_would_44 : decode cX6_would 44 = .ok (.getfield 37, 3) := by decide +kernel
theorem dX6_would_47 : decode cX6_would 47 = .ok (.getfield 106, 3) := by decide +kernel
theorem dX6_would_50 : decode cX6_would 50 = .ok (.ifCond .eq 5, 3) := by decide +kernel
theorem dX6_would_53 : decode cX6_would 53 = .ok (.iconst 0, 1) := by decide +kernel
theorem dX6_would_54 : decode cX6_would 54 = .ok (.ireturn, 1) := by decide +kernel
theorem dX6_would_55 : decode cX6_would 55 = .ok (.aload_n 0, 1) := by decide +kernel
theorem dX6_would_56 : decode cX6_would 56 = .ok (.getfield 44, 3) := by decide +kernel
theorem dX6_would_59 : decode cX6_would 59 = .ok (.aload_n 3, 1) := by decide +kernel
theorem dX6_would_60 : decode cX6_would 60 = .ok (.invokevirtual 174, 3) := by decide +kernel
theorem dX6_would_63 : decode cX6_would 63 = .ok (.aload_n 0, 1) := by decide +kernel
theorem dX6_would_64 : decode cX6_would 64 = .ok (.getfield 44, 3) := by decide +kernel
theorem dX6_would_67 : decode cX6_would 67 = .ok (.aload_n 0, 1) := by decide +kernel
theorem dX6_would_68 : decode cX6_would 68 = .ok (.getfield 37, 3) := by decide +kernel
theorem dX6_would_71 : decode cX6_would 71 = .ok (.invokevirtual 177, 3) := by decide +kernel
theorem dX6_would_74 : decode cX6_would 74 = .ok (.istore 5, 2) := by decide +kernel
theorem dX6_would_76 : decode cX6_would 76 = .ok (.iload 5, 2) := by decide +kernel
theorem dX6_would_78 : decode cX6_would 78 = .ok (.ifCond .le 8, 3) := by decide +kernel
theorem dX6_would_81 : decode cX6_would 81 = .ok (.iconst 2, 1) := by decide +kernel
theorem dX6_would_82 : decode cX6_would 82 = .ok (.iload 5, 2) := by decide +kernel
theorem dX6_would_84 : decode cX6_would 84 = .ok (.iadd, 1) := by decide +kernel
theorem dX6_would_85 : decode cX6_would 85 = .ok (.ireturn, 1) := by decide +kernel
theorem dX6_would_86 : decode cX6_would 86 = .ok (.aload_n 0, 1) := by decide +kernel
theorem dX6_would_87 : decode cX6_would 87 = .ok (.getfield 44, 3) := by decide +kernel
theorem dX6_would_90 : decode cX6_would 90 = .ok (.getfield 125, 3) := by decide +kernel
theorem dX6_would_93 : decode cX6_would 93 = .ok (.aload_n 3, 1) := by decide +kernel
theorem dX6_would_94 : decode cX6_would 94 = .ok (.getfield 125, 3) := by decide +kernel
theorem dX6_would_97 : decode cX6_would 97 = .ok (.if_icmp .le 7, 3) := by decide +kernel
theorem dX6_would_100 : decode cX6_would 100 = .ok (.iconst 1, 1) := by decide +kernel
theorem dX6_would_101 : decode cX6_would 101 = .ok (.goto 4, 3) := by decide +kernel
theorem dX6_would_104 : decode cX6_would 104 = .ok (.iconst 2, 1) := by decide +kernel
theorem dX6_would_105 : decode cX6_would 105 = .ok (.ireturn, 1) := by decide +kernel
theorem dX6_degrees_0 : decode cX6_degrees 0 = .ok (.iload_n 1, 1) := by decide +kernel
theorem dX6_degrees_1 : decode cX6_degrees 1 = .ok (.iconst 0, 1) := by decide +kernel
theorem dX6_degrees_2 : decode cX6_degrees 2 = .ok (.ldc 84, 2) := by decide +kernel
theorem dX6_degrees_4 : decode cX6_degrees 4 = .ok (.invokestatic 85, 3) := by decide +kernel
theorem dX6_degrees_7 : decode cX6_degrees 7 = .ok (.ifCond .eq 24, 3) := by decide +kernel
theorem dX6_degrees_10 : decode cX6_degrees 10 = .ok (.iload_n 2, 1) := by decide +kernel
theorem dX6_degrees_11 : decode cX6_degrees 11 = .ok (.iconst 1, 1) := by decide +kernel
theorem dX6_degrees_12 : decode cX6_degrees 12 = .ok (.sipush 999, 3) := by decide +kernel
theorem dX6_degrees_15 : decode cX6_degrees 15 = .ok (.invokestatic 85, 3) := by decide +kernel
theorem dX6_degrees_18 : decode cX6_degrees 18 = .ok (.ifCond .eq 13, 3) := by decide +kernel
theorem dX6_degrees_21 : decode cX6_degrees 21 = .ok (.iload_n 3, 1) := by decide +kernel
theorem dX6_degrees_22 : decode cX6_degrees 22 = .ok (.iconst 1, 1) := by decide +kernel
theorem dX6_degrees_23 : decode cX6_degrees 23 = .ok (.bipush 16, 2) := by decide +kernel
theorem dX6_degrees_25 : decode cX6_degrees 25 = .ok (.invokestatic 85, 3) := by decide +kernel
theorem dX6_degrees_28 : decode cX6_degrees 28 = .ok (.ifCond .ne 6, 3) := by decide +kernel
theorem dX6_degrees_31 : decode cX6_degrees 31 = .ok (.bipush (-2), 2) := by decide +kernel
theorem dX6_degrees_33 : decode cX6_degrees 33 = .ok (.ireturn, 1) := by decide +kernel
theorem dX6_degrees_34 : decode cX6_degrees 34 = .ok (.aload_n 0, 1) := by decide +kernel
theorem dX6_degrees_35 : decode cX6_degrees 35 = .ok (.getfield 10, 3) := by decide +kernel
theorem dX6_degrees_38 : decode cX6_degrees 38 = .ok (.getfield 89, 3) := by decide +kernel
theorem dX6_degrees_41 : decode cX6_degrees 41 = .ok (.ifCond .ne 6, 3) := by decide +kernel
theorem dX6_degrees_44 : decode cX6_degrees 44 = .ok (.bipush (-5), 2) := by decide +kernel
theorem dX6_degrees_46 : decode cX6_degrees 46 = .ok (.ireturn, 1) := by decide +kernel
theorem dX6_degrees_47 : decode cX6_degrees 47 = .ok (.iconst 0, 1) := by decide +kernel
theorem dX6_degrees_48 : decode cX6_degrees 48 = .ok (.istore 4, 2) := by decide +kernel
theorem dX6_degrees_50 : decode cX6_degrees 50 = .ok (.iconst 0, 1) := by decide +kernel
theorem dX6_degrees_51 : decode cX6_degrees 51 = .ok (.istore 5, 2) := by decide +kernel
theorem dX6_degrees_53 : decode cX6_degrees 53 = .ok (.iload 5, 2) := by decide +kernel
theorem dX6_degrees_55 : decode cX6_degrees 55 = .ok (.iload_n 2, 1) := by decide +kernel
theorem dX6_degrees_56 : decode cX6_degrees 56 = .ok (.if_icmp .ge 41, 3) := by decide +kernel
theorem dX6_degrees_59 : decode cX6_degrees 59 = .ok (.aload_n 0, 1) := by decide +kernel
theorem dX6_degrees_60 : decode cX6_degrees 60 = .ok (.getfield 37, 3) := by decide +kernel
theorem dX6_degrees_63 : decode cX6_degrees 63 = .ok (.aload_n 0, 1) := by decide +kernel
theorem dX6_degrees_64 : decode cX6_degrees 64 = .ok (.getfield 10, 3) := by decide +kernel
theorem dX6_degrees_67 : decode cX6_degrees 67 = .ok (.iload_n 1, 1) := by decide +kernel
theorem dX6_degrees_68 : decode cX6_degrees 68 = .ok (.iload 5, 2) := by decide +kernel
theorem dX6_degrees_70 : decode cX6_degrees 70 = .ok (.iadd, 1) := by decide +kernel
theorem dX6_degrees_71 : decode cX6_degrees 71 = .ok (.invokestatic 181, 3) := by decide +kernel
theorem dX6_degrees_74 : decode cX6_degrees 74 = .ok (.invokevirtual 93, 3) := by decide +kernel
theorem dX6_degrees_77 : decode cX6_degrees 77 = .ok (.aload_n 0, 1) := by decide +kernel
theorem dX6_degrees_78 : decode cX6_degrees 78 = .ok (.getfield 37, 3) := by decide +kernel
theorem dX6_degrees_81 : decode cX6_degrees 81 = .ok (.getfield 97, 3) := by decide +kernel
theorem dX6_degrees_84 : decode cX6_degrees 84 = .ok (.iload_n 3, 1) := by decide +kernel
theorem dX6_degrees_85 : decode cX6_degrees 85 = .ok (.if_icmp .ne 6, 3) := by decide +kernel
theorem dX6_degrees_88 : decode cX6_degrees 88 = .ok (.iinc 4 1, 3) := by decide +kernel
theorem dX6_degrees_91 : decode cX6_degrees 91 = .ok (.iinc 5 1, 3) := by decide +kernel
theorem dX6_degrees_94 : decode cX6_degrees 94 = .ok (.goto (-41), 3) := by decide +kernel
theorem dX6_degrees_97 : decode cX6_degrees 97 = .ok (.iload 4, 2) := by decide +kernel
theorem dX6_degrees_99 : decode cX6_degrees 99 = .ok (.ireturn, 1) := by decide +kernel
theorem dX6_changeSetting_0 : decode cX6_changeSetting 0 = .ok (.iload_n 1, 1) := by decide +kernel
theorem dX6_changeSetting_1 : decode cX6_changeSetting 1 = .ok (.ifCond .ne 30, 3) := by decide +kernel
theorem dX6_changeSetting_4 : decode cX6_changeSetting 4 = .ok (.iload_n 2, 1) := by decide +kernel
theorem dX6_changeSetting_5 : decode cX6_changeSetting 5 = .ok (.iconst 0, 1) := by decide +kernel
theorem dX6_changeSetting_6 : decode cX6_changeSetting 6 = .ok (.iconst 2, 1) := by decide +kernel
theorem dX6_changeSetting_7 : decode cX6_changeSetting 7 = .ok (.invokestatic 85, 3) := by decide +kernel
theorem dX6_changeSetting_10 : decode cX6_changeSetting 10 = .ok (.ifCond .eq 21, 3) := by decide +kernel
theorem dX6_changeSetting_13 : decode cX6_changeSetting 13 = .ok (.aload_n 0, 1) := by decide +kernel
theorem dX6_changeSetting_14 : decode cX6_changeSetting 14 = .ok (.getfield 10, 3) := by decide +kernel
theorem dX6_changeSetting_17 : decode cX6_changeSetting 17 = .ok (.getfield 159, 3) := by decide +kernel
theorem dX6_changeSetting_20 : decode cX6_changeSetting 20 = .ok (.istore_n 3, 1) := by decide +kernel
theorem dX6_changeSetting_21 : decode cX6_changeSetting 21 = .ok (.aload_n 0, 1) := by decide +kernel
theorem dX6_changeSetting_22 : decode cX6_changeSetting 22 = .ok (.getfield 10, 3) := by decide +kernel
theorem dX6_changeSetting_25 : decode cX6_changeSetting 25 = .ok (.iload_n 2, 1) := by decide +kernel
theorem dX6_changeSetting_26 : decode cX6_changeSetting 26 = .ok (.putfield 159, 3) := by decide +kernel
theorem dX6_changeSetting_29 : decode cX6_changeSetting 29 = .ok (.iload_n 3, 1) := by decide +kernel
theorem dX6_changeSetting_30 : decode cX6_changeSetting 30 = .ok (.ireturn, 1) := by decide +kernel
theorem dX6_changeSetting_31 : decode cX6_changeSetting 31 = .ok (.iload_n 1, 1) := by decide +kernel
theorem dX6_changeSetting_32 : decode cX6_changeSetting 32 = .ok (.iconst 1, 1) := by decide +kernel
theorem dX6_changeSetting_33 : decode cX6_changeSetting 33 = .ok (.if_icmp .ne 31, 3) := by decide +kernel
theorem dX6_changeSetting_36 : decode cX6_changeSetting 36 = .ok (.iload_n 2, 1) := by decide +kernel
theorem dX6_changeSetting_37 : decode cX6_changeSetting 37 = .ok (.iconst 0, 1) := by decide +kernel
theorem dX6_changeSetting_38 : decode cX6_changeSetting 38 = .ok (.bipush 99, 2) := by decide +kernel
theorem dX6_changeSetting_40 : decode cX6_changeSetting 40 = .ok (.invokestatic 85, 3) := by decide +kernel
theorem dX6_changeSetting_43 : decode cX6_changeSetting 43 = .ok (.ifCond .eq 21, 3) := by decide +kernel
theorem dX6_changeSetting_46 : decode cX6_changeSetting 46 = .ok (.aload_n 0, 1) := by decide +kernel
theorem dX6_changeSetting_47 : decode cX6_changeSetting 47 = .ok (.getfield 10, 3) := by decide +kernel
theorem dX6_changeSetting_50 : decode cX6_changeSetting 50 = .ok (.getfield 162, 3) := by decide +kernel
theorem dX6_changeSetting_53 : decode cX6_changeSetting 53 = .ok (.istore_n 3, 1) := by decide +kernel
theorem dX6_changeSetting_54 : decode cX6_changeSetting 54 = .ok (.aload_n 0, 1) := by decide +kernel
theorem dX6_changeSetting_55 : decode cX6_changeSetting 55 = .ok (.getfield 10, 3) := by decide +kernel
theorem dX6_changeSetting_58 : decode cX6_changeSetting 58 = .ok (.iload_n 2, 1) := by decide +kernel
theorem dX6_changeSetting_59 : decode cX6_changeSetting 59 = .ok (.putfield 162, 3) := by decide +kernel
theorem dX6_changeSetting_62 : decode cX6_changeSetting 62 = .ok (.iload_n 3, 1) := by decide +kernel
theorem dX6_changeSetting_63 : decode cX6_changeSetting 63 = .ok (.ireturn, 1) := by decide +kernel
theorem dX6_changeSetting_64 : decode cX6_changeSetting 64 = .ok (.bipush (-2), 2) := by decide +kernel
theorem dX6_changeSetting_66 : decode cX6_changeSetting 66 = .ok (.ireturn, 1) := by decide +kernel
theorem dX6_addChapter_0 : decode cX6_addChapter 0 = .ok (.iload_n 1, 1) := by decide +kernel
theorem dX6_addChapter_1 : decode cX6_addChapter 1 = .ok (.iconst 0, 1) := by decide +kernel
theorem dX6_addChapter_2 : decode cX6_addChapter 2 = .ok (.ldc 84, 2) := by decide +kernel
theorem dX6_addChapter_4 : decode cX6_addChapter 4 = .ok (.invokestatic 85, 3) := by decide +kernel
theorem dX6_addChapter_7 : decode cX6_addChapter 7 = .ok (.ifCond .ne 6, 3) := by decide +kernel
theorem dX6_addChapter_10 : decode cX6_addChapter 10 = .ok (.bipush (-2), 2) := by decide +kernel
theorem dX6_addChapter_12 : decode cX6_addChapter 12 = .ok (.ireturn, 1) := by decide +kernel
theorem dX6_addChapter_13 : decode cX6_addChapter 13 = .ok (.aload_n 0, 1) := by decide +kernel
theorem dX6_addChapter_14 : decode cX6_addChapter 14 = .ok (.getfield 10, 3) := by decide +kernel
theorem dX6_addChapter_17 : decode cX6_addChapter 17 = .ok (.getfield 152, 3) := by decide +kernel
theorem dX6_addChapter_20 : decode cX6_addChapter 20 = .ok (.ifCond .le 6, 3) := by decide +kernel
theorem dX6_addChapter_23 : decode cX6_addChapter 23 = .ok (.bipush (-5), 2) := by decide +kernel
theorem dX6_addChapter_25 : decode cX6_addChapter 25 = .ok (.ireturn, 1) := by decide +kernel
theorem dX6_addChapter_26 : decode cX6_addChapter 26 = .ok (.aload_n 0, 1) := by decide +kernel
theorem dX6_addChapter_27 : decode cX6_addChapter 27 = .ok (.getfield 10, 3) := by decide +kernel
theorem dX6_addChapter_30 : decode cX6_addChapter 30 = .ok (.getfield 89, 3) := by decide +kernel
theorem dX6_addChapter_33 : decode cX6_addChapter 33 = .ok (.istore_n 2, 1) := by decide +kernel
theorem dX6_addChapter_34 : decode cX6_addChapter 34 = .ok (.iload_n 2, 1) := by decide +kernel
theorem dX6_addChapter_35 : decode cX6_addChapter 35 = .ok (.iconst 0, 1) := by decide +kernel
theorem dX6_addChapter_36 : decode cX6_addChapter 36 = .ok (.bipush 15, 2) := by decide +kernel
theorem dX6_addChapter_38 : decode cX6_addChapter 38 = .ok (.invokestatic 85, 3) := by decide +kernel
theorem dX6_addChapter_41 : decode cX6_addChapter 41 = .ok (.ifCond .ne 6, 3) := by decide +kernel
theorem dX6_addChapter_44 : decode cX6_addChapter 44 = .ok (.bipush (-4), 2) := by decide +kernel
theorem dX6_addChapter_46 : decode cX6_addChapter 46 = .ok (.ireturn, 1) := by decide +kernel
theorem dX6_addChapter_47 : decode cX6_addChapter 47 = .ok (.aload_n 0, 1) := by decide +kernel
theorem dX6_addChapter_48 : decode cX6_addChapter 48 = .ok (.getfield 10, 3) := by decide +kernel
theorem dX6_addChapter_51 : decode cX6_addChapter 51 = .ok (.getfield 220, 3) := by decide +kernel
theorem dX6_addChapter_54 : decode cX6_addChapter 54 = .ok (.iload_n 2, 1) := by decide +kernel
theorem dX6_addChapter_55 : decode cX6_addChapter 55 = .ok (.iload_n 1, 1) := by decide +kernel
theorem dX6_addChapter_56 : decode cX6_addChapter 56 = .ok (.iastore, 1) := by decide +kernel
theorem dX6_addChapter_57 : decode cX6_addChapter 57 = .ok (.aload_n 0, 1) := by decide +kernel
theorem dX6_addChapter_58 : decode cX6_addChapter 58 = .ok (.getfield 10, 3) := by decide +kernel
theorem dX6_addChapter_61 : decode cX6_addChapter 61 = .ok (.dup, 1) := by decide +kernel
theorem dX6_addChapter_62 : decode cX6_addChapter 62 = .ok (.getfield 89, 3) := by decide +kernel
theorem dX6_addChapter_65 : decode cX6_addChapter 65 = .ok (.iconst 1, 1) := by decide +kernel
theorem dX6_addChapter_66 : decode cX6_addChapter 66 = .ok (.iadd, 1) := by decide +kernel
theorem dX6_addChapter_67 : decode cX6_addChapter 67 = .ok (.putfield 89, 3) := by decide +kernel
theorem dX6_addChapter_70 : decode cX6_addChapter 70 = .ok (.iload_n 2, 1) := by decide +kernel
theorem dX6_addChapter_71 : decode cX6_addChapter 71 = .ok (.ireturn, 1) := by decide +kernel
theorem dX6_addCup_0 : decode cX6_addCup 0 = .ok (.aload_n 0, 1) := by decide +kernel
theorem dX6_addCup_1 : decode cX6_addCup 1 = .ok (.getfield 10, 3) := by decide +kernel
theorem dX6_addCup_4 : decode cX6_addCup 4 = .ok (.getfield 152, 3) := by decide +kernel
theorem dX6_addCup_7 : decode cX6_addCup 7 = .ok (.iconst 3, 1) := by decide +kernel
theorem dX6_addCup_8 : decode cX6_addCup 8 = .ok (.if_icmp .lt 6, 3) := by decide +kernel
theorem dX6_addCup_11 : decode cX6_addCup 11 = .ok (.bipush (-4), 2) := by decide +kernel
theorem dX6_addCup_13 : decode cX6_addCup 13 = .ok (.ireturn, 1) := by decide +kernel
theorem dX6_addCup_14 : decode cX6_addCup 14 = .ok (.aload_n 0, 1) := by decide +kernel
theorem dX6_addCup_15 : decode cX6_addCup 15 = .ok (.getfield 10, 3) := by decide +kernel
theorem dX6_addCup_18 : decode cX6_addCup 18 = .ok (.getfield 152, 3) := by decide +kernel
theorem dX6_addCup_21 : decode cX6_addCup 21 = .ok (.istore_n 1, 1) := by decide +kernel
theorem dX6_addCup_22 : decode cX6_addCup 22 = .ok (.aload_n 0, 1) := by decide +kernel
theorem dX6_addCup_23 : decode cX6_addCup 23 = .ok (.getfield 10, 3) := by decide +kernel
theorem dX6_addCup_26 : decode cX6_addCup 26 = .ok (.dup, 1) := by decide +kernel
theorem dX6_addCup_27 : decode cX6_addCup 27 = .ok (.getfield 152, 3) := by decide +kernel
theorem dX6_addCup_30 : decode cX6_addCup 30 = .ok (.iconst 1, 1) := by decide +kernel
theorem dX6_addCup_31 : decode cX6_addCup 31 = .ok (.iadd, 1) := by decide +kernel
theorem dX6_addCup_32 : decode cX6_addCup 32 = .ok (.putfield 152, 3) := by decide +kernel
theorem dX6_addCup_35 : decode cX6_addCup 35 = .ok (.iload_n 1, 1) := by decide +kernel
theorem dX6_addCup_36 : decode cX6_addCup 36 = .ok (.ireturn, 1) := by decide +kernel
theorem dX6_emptyCup_0 : decode cX6_emptyCup 0 = .ok (.aload_n 0, 1) := by decide +kernel
theorem dX6_emptyCup_1 : decode cX6_emptyCup 1 = .ok (.getfield 10, 3) := by decide +kernel
theorem dX6_emptyCup_4 : decode cX6_emptyCup 4 = .ok (.iload_n 1, 1) := by decide +kernel
theorem dX6_emptyCup_5 : decode cX6_emptyCup 5 = .ok (.invokevirtual 110, 3) := by decide +kernel
theorem dX6_emptyCup_8 : decode cX6_emptyCup 8 = .ok (.astore_n 2, 1) := by decide +kernel
theorem dX6_emptyCup_9 : decode cX6_emptyCup 9 = .ok (.aload_n 2, 1) := by decide +kernel
theorem dX6_emptyCup_10 : decode cX6_emptyCup 10 = .ok (.ifnonnull 5, 3) := by decide +kernel
theorem dX6_emptyCup_13 : decode cX6_emptyCup 13 = .ok (.iconst (-1), 1) := by decide +kernel
theorem dX6_emptyCup_14 : decode cX6_emptyCup 14 = .ok (.ireturn, 1) := by decide +kernel
theorem dX6_emptyCup_15 : decode cX6_emptyCup 15 = .ok (.aload_n 2, 1) := by decide +kernel
theorem dX6_emptyCup_16 : decode cX6_emptyCup 16 = .ok (.invokevirtual 136, 3) := by decide +kernel
theorem dX6_emptyCup_19 : decode cX6_emptyCup 19 = .ok (.istore_n 3, 1) := by decide +kernel
theorem dX6_emptyCup_20 : decode cX6_emptyCup 20 = .ok (.aload_n 2, 1) := by decide +kernel
theorem dX6_emptyCup_21 : decode cX6_emptyCup 21 = .ok (.invokevirtual 223, 3) := by decide +kernel
theorem dX6_emptyCup_24 : decode cX6_emptyCup 24 = .ok (.iload_n 3, 1) := by decide +kernel
theorem dX6_emptyCup_25 : decode cX6_emptyCup 25 = .ok (.ireturn, 1) := by decide +kernel
theorem dX6_pourDroplets_0 : decode cX6_pourDroplets 0 = .ok (.aload_n 0, 1) := by decide +kernel
theorem dX6_pourDroplets_1 : decode cX6_pourDroplets 1 = .ok (.getfield 10, 3) := by decide +kernel
theorem dX6_pourDroplets_4 : decode cX6_pourDroplets 4 = .ok (.iload_n 1, 1) := by decide +kernel
theorem dX6_pourDroplets_5 : decode cX6_pourDroplets 5 = .ok (.invokevirtual 110, 3) := by decide +kernel
theorem dX6_pourDroplets_8 : decode cX6_pourDroplets 8 = .ok (.astore 4, 2) := by decide +kernel
theorem dX6_pourDroplets_10 : decode cX6_pourDroplets 10 = .ok (.aload 4, 2) := by decide +kernel
theorem dX6_pourDroplets_12 : decode cX6_pourDroplets 12 = .ok (.ifnonnull 5, 3) := by decide +kernel
theorem dX6_pourDroplets_15 : decode cX6_pourDroplets 15 = .ok (.iconst (-1), 1) := by decide +kernel
theorem dX6_pourDroplets_16 : decode cX6_pourDroplets 16 = .ok (.ireturn, 1) := by decide +kernel
theorem dX6_pourDroplets_17 : decode cX6_pourDroplets 17 = .ok (.aload_n 0, 1) := by decide +kernel
theorem dX6_pourDroplets_18 : decode cX6_pourDroplets 18 = .ok (.iload_n 2, 1) := by decide +kernel
theorem dX6_pourDroplets_19 : decode cX6_pourDroplets 19 = .ok (.iload_n 3, 1) := by decide +kernel
theorem dX6_pourDroplets_20 : decode cX6_pourDroplets 20 = .ok (.invokevirtual 171, 3) := by decide +kernel
theorem dX6_pourDroplets_23 : decode cX6_pourDroplets 23 = .ok (.istore 5, 2) := by decide +kernel
theorem dX6_pourDroplets_25 : decode cX6_pourDroplets 25 = .ok (.iload 5, 2) := by decide +kernel
theorem dX6_pourDroplets_27 : decode cX6_pourDroplets 27 = .ok (.ifCond .ge 6, 3) := by decide +kernel
theorem dX6_pourDroplets_30 : decode cX6_pourDroplets 30 = .ok (.iload 5, 2) := by decide +kernel
theorem dX6_pourDroplets_32 : decode cX6_pourDroplets 32 = .ok (.ireturn, 1) := by decide +kernel
theorem dX6_pourDroplets_33 : decode cX6_pourDroplets 33 = .ok (.iconst 0, 1) := by decide +kernel
theorem dX6_pourDroplets_34 : decode cX6_pourDroplets 34 = .ok (.istore 6, 2) := by decide +kernel
theorem dX6_pourDroplets_36 : decode cX6_pourDroplets 36 = .ok (.iconst 0, 1) := by decide +kernel
theorem dX6_pourDroplets_37 : decode cX6_pourDroplets 37 = .ok (.istore 7, 2) := by decide +kernel
theorem dX6_pourDroplets_39 : decode cX6_pourDroplets 39 = .ok (.iload 7, 2) := by decide +kernel
theorem dX6_pourDroplets_41 : decode cX6_pourDroplets 41 = .ok (.iload_n 3, 1) := by decide +kernel
theorem dX6_pourDroplets_42 : decode cX6_pourDroplets 42 = .ok (.if_icmp .ge 41, 3) := by decide +kernel
theorem dX6_pourDroplets_45 : decode cX6_pourDroplets 45 = .ok (.aload_n 0, 1) := by decide +kernel
theorem dX6_pourDroplets_46 : decode cX6_pourDroplets 46 = .ok (.getfield 37, 3) := by decide +kernel
theorem dX6_pourDroplets_49 : decode cX6_pourDroplets 49 = .ok (.aload_n 0, 1) := by decide +kernel
theorem dX6_pourDroplets_50 : decode cX6_pourDroplets 50 = .ok (.getfield 10, 3) := by decide +kernel
theorem dX6_pourDroplets_53 : decode cX6_pourDroplets 53 = .ok (.iload_n 2, 1) := by decide +kernel
theorem dX6_pourDroplets_54 : decode cX6_pourDroplets 54 = .ok (.iload 7, 2) := by decide +kernel
theorem dX6_pourDroplets_56 : decode cX6_pourDroplets 56 = .ok (.iadd, 1) := by decide +kernel
theorem dX6_pourDroplets_57 : decode cX6_pourDroplets 57 = .ok (.invokestatic 181, 3) := by decide +kernel
theorem dX6_pourDroplets_60 : decode cX6_pourDroplets 60 = .ok (.invokevirtual 93, 3) := by decide +kernel
theorem dX6_pourDroplets_63 : decode cX6_pourDroplets 63 = .ok (.iload 6, 2) := by decide +kernel
theorem dX6_pourDroplets_65 : decode cX6_pourDroplets 65 = .ok (.aload 4, 2) := by decide +kernel
theorem dX6_pourDroplets_67 : decode cX6_pourDroplets 67 = .ok (.aload_n 0, 1) := by decide +kernel
theorem dX6_pourDroplets_68 : decode cX6_pourDroplets 68 = .ok (.getfield 37, 3) := by decide +kernel
theorem dX6_pourDroplets_71 : decode cX6_pourDroplets 71 = .ok (.invokevirtual 177, 3) := by decide +kernel
theorem dX6_pourDroplets_74 : decode cX6_pourDroplets 74 = .ok (.iadd, 1) := by decide +kernel
theorem dX6_pourDroplets_75 : decode cX6_pourDroplets 75 = .ok (.istore 6, 2) := by decide +kernel
theorem dX6_pourDroplets_77 : decode cX6_pourDroplets 77 = .ok (.iinc 7 1, 3) := by decide +kernel
theorem dX6_pourDroplets_80 : decode cX6_pourDroplets 80 = .ok (.goto (-41), 3) := by decide +kernel
theorem dX6_pourDroplets_83 : decode cX6_pourDroplets 83 = .ok (.aload_n 0, 1) := by decide +kernel
theorem dX6_pourDroplets_84 : decode cX6_pourDroplets 84 = .ok (.getfield 10, 3) := by decide +kernel
theorem dX6_pourDroplets_87 : decode cX6_pourDroplets 87 = .ok (.dup, 1) := by decide +kernel
theorem dX6_pourDroplets_88 : decode cX6_pourDroplets 88 = .ok (.getfield 158, 3) := by decide +kernel
theorem dX6_pourDroplets_91 : decode cX6_pourDroplets 91 = .ok (.iload_n 3, 1) := by decide +kernel
theorem dX6_pourDroplets_92 : decode cX6_pourDroplets 92 = .ok (.iadd, 1) := by decide +kernel
theorem dX6_pourDroplets_93 : decode cX6_pourDroplets 93 = .ok (.putfield 158, 3) := by decide +kernel
theorem dX6_pourDroplets_96 : decode cX6_pourDroplets 96 = .ok (.iload 6, 2) := by decide +kernel
theorem dX6_pourDroplets_98 : decode cX6_pourDroplets 98 = .ok (.ireturn, 1) := by decide +kernel
theorem dX6_solveCup_0 : decode cX6_solveCup 0 = .ok (.aload_n 0, 1) := by decide +kernel
theorem dX6_solveCup_1 : decode cX6_solveCup 1 = .ok (.getfield 10, 3) := by decide +kernel
theorem dX6_solveCup_4 : decode cX6_solveCup 4 = .ok (.iload_n 1, 1) := by decide +kernel
theorem dX6_solveCup_5 : decode cX6_solveCup 5 = .ok (.invokevirtual 110, 3) := by decide +kernel
theorem dX6_solveCup_8 : decode cX6_solveCup 8 = .ok (.astore_n 2, 1) := by decide +kernel
theorem dX6_solveCup_9 : decode cX6_solveCup 9 = .ok (.aload_n 2, 1) := by decide +kernel
theorem dX6_solveCup_10 : decode cX6_solveCup 10 = .ok (.ifnonnull 5, 3) := by decide +kernel
theorem dX6_solveCup_13 : decode cX6_solveCup 13 = .ok (.iconst (-1), 1) := by decide +kernel
theorem dX6_solveCup_14 : decode cX6_solveCup 14 = .ok (.ireturn, 1) := by decide +kernel
theorem dX6_solveCup_15 : decode cX6_solveCup 15 = .ok (.aload_n 0, 1) := by decide +kernel
theorem dX6_solveCup_16 : decode cX6_solveCup 16 = .ok (.getfield 51, 3) := by decide +kernel
theorem dX6_solveCup_19 : decode cX6_solveCup 19 = .ok (.aload_n 2, 1) := by decide +kernel
theorem dX6_solveCup_20 : decode cX6_solveCup 20 = .ok (.invokevirtual 132, 3) := by decide +kernel
theorem dX6_solveCup_23 : decode cX6_solveCup 23 = .ok (.aload_n 2, 1) := by decide +kernel
theorem dX6_solveCup_24 : decode cX6_solveCup 24 = .ok (.aload_n 0, 1) := by decide +kernel
theorem dX6_solveCup_25 : decode cX6_solveCup 25 = .ok (.getfield 51, 3) := by decide +kernel
theorem dX6_solveCup_28 : decode cX6_solveCup 28 = .ok (.invokevirtual 226, 3) := by decide +kernel
theorem dX6_solveCup_31 : decode cX6_solveCup 31 = .ok (.ireturn, 1) := by decide +kernel
theorem dX6_errorOfDroplets_0 : decode cX6_errorOfDroplets 0 = .ok (.iload_n 1, 1) := by decide +kernel
theorem dX6_errorOfDroplets_1 : decode cX6_errorOfDroplets 1 = .ok (.iconst 0, 1) := by decide +kernel
theorem dX6_errorOfDroplets_2 : decode cX6_errorOfDroplets 2 = .ok (.ldc 84, 2) := by decide +kernel
theorem dX6_errorOfDroplets_4 : decode cX6_errorOfDroplets 4 = .ok (.invokestatic 85, 3) := by decide +kernel
theorem dX6_errorOfDroplets_7 : decode cX6_errorOfDroplets 7 = .ok (.ifCond .eq 13, 3) := by decide +kernel
theorem dX6_errorOfDroplets_10 : decode cX6_errorOfDroplets 10 = .ok (.iload_n 2, 1) := by decide +kernel
theorem dX6_errorOfDroplets_11 : decode cX6_errorOfDroplets 11 = .ok (.iconst 1, 1) := by decide +kernel
theorem dX6_errorOfDroplets_12 : decode cX6_errorOfDroplets 12 = .ok (.bipush 99, 2) := by decide +kernel
theorem dX6_errorOfDroplets_14 : decode cX6_errorOfDroplets 14 = .ok (.invokestatic 85, 3) := by decide +kernel
theorem dX6_errorOfDroplets_17 : decode cX6_errorOfDroplets 17 = .ok (.ifCond .ne 6, 3) := by decide +kernel
theorem dX6_errorOfDroplets_20 : decode cX6_errorOfDroplets 20 = .ok (.bipush (-2), 2) := by decide +kernel
theorem dX6_errorOfDroplets_22 : decode cX6_errorOfDroplets 22 = .ok (.ireturn, 1) := by decide +kernel
theorem dX6_errorOfDroplets_23 : decode cX6_errorOfDroplets 23 = .ok (.aload_n 0, 1) := by decide +kernel
theorem dX6_errorOfDroplets_24 : decode cX6_errorOfDroplets 24 = .ok (.getfield 10, 3) := by decide +kernel
theorem dX6_errorOfDroplets_27 : decode cX6_errorOfDroplets 27 = .ok (.getfield 89, 3) := by decide +kernel
theorem dX6_errorOfDroplets_30 : decode cX6_errorOfDroplets 30 = .ok (.ifCond .ne 8, 3) := by decide +kernel
theorem dX6_errorOfDroplets_33 : decode cX6_errorOfDroplets 33 = .ok (.bipush (-5), 2) := by decide +kernel
theorem dX6_errorOfDroplets_35 : decode cX6_errorOfDroplets 35 = .ok (.goto 4, 3) := by decide +kernel
theorem dX6_errorOfDroplets_38 : decode cX6_errorOfDroplets 38 = .ok (.iconst 0, 1) := by decide +kernel
theorem dX6_errorOfDroplets_39 : decode cX6_errorOfDroplets 39 = .ok (.ireturn, 1) := by decide +kernel
theorem dX6_isFull_0 : decode cX6_isFull 0 = .ok (.aload_n 1, 1) := by decide +kernel
theorem dX6_isFull_1 : decode cX6_isFull 1 = .ok (.getfield 114, 3) := by decide +kernel
theorem dX6_isFull_4 : decode cX6_isFull 4 = .ok (.aload_n 0, 1) := by decide +kernel
theorem dX6_isFull_5 : decode cX6_isFull 5 = .ok (.getfield 10, 3) := by decide +kernel
theorem dX6_isFull_8 : decode cX6_isFull 8 = .ok (.invokevirtual 241, 3) := by decide +kernel
theorem dX6_isFull_11 : decode cX6_isFull 11 = .ok (.if_icmp .ne 7, 3) := by decide +kernel
theorem dX6_isFull_14 : decode cX6_isFull 14 = .ok (.iconst 1, 1) := by decide +kernel
theorem dX6_isFull_15 : decode cX6_isFull 15 = .ok (.goto 4, 3) := by decide +kernel
theorem dX6_isFull_18 : decode cX6_isFull 18 = .ok (.iconst 0, 1) := by decide +kernel
theorem dX6_isFull_19 : decode cX6_isFull 19 = .ok (.ireturn, 1) := by decide +kernel
theorem dX6_fullCups_0 : decode cX6_fullCups 0 = .ok (.iconst 0, 1) := by decide +kernel
theorem dX6_fullCups_1 : decode cX6_fullCups 1 = .ok (.istore_n 1, 1) := by decide +kernel
theorem dX6_fullCups_2 : decode cX6_fullCups 2 = .ok (.iconst 0, 1) := by decide +kernel
theorem dX6_fullCups_3 : decode cX6_fullCups 3 = .ok (.istore_n 2, 1) := by decide +kernel
theorem dX6_fullCups_4 : decode cX6_fullCups 4 = .ok (.iload_n 2, 1) := by decide +kernel
theorem dX6_fullCups_5 : decode cX6_fullCups 5 = .ok (.iconst 3, 1) := by decide +kernel
theorem dX6_fullCups_6 : decode cX6_fullCups 6 = .ok (.if_icmp .ge 36, 3) := by decide +kernel
theorem dX6_fullCups_9 : decode cX6_fullCups 9 = .ok (.aload_n 0, 1) := by decide +kernel
theorem dX6_fullCups_10 : decode cX6_fullCups 10 = .ok (.getfield 10, 3) := by decide +kernel
theorem dX6_fullCups_13 : decode cX6_fullCups 13 = .ok (.iload_n 2, 1) := by decide +kernel
theorem dX6_fullCups_14 : decode cX6_fullCups 14 = .ok (.invokevirtual 110, 3) := by decide +kernel
theorem dX6_fullCups_17 : decode cX6_fullCups 17 = .ok (.astore_n 3, 1) := by decide +kernel
theorem dX6_fullCups_18 : decode cX6_fullCups 18 = .ok (.aload_n 3, 1) := by decide +kernel
theorem dX6_fullCups_19 : decode cX6_fullCups 19 = .ok (.ifnull 17, 3) := by decide +kernel
theorem dX6_fullCups_22 : decode cX6_fullCups 22 = .ok (.aload_n 0, 1) := by decide +kernel
theorem dX6_fullCups_23 : decode cX6_fullCups 23 = .ok (.aload_n 3, 1) := by decide +kernel
theorem dX6_fullCups_24 : decode cX6_fullCups 24 = .ok (.invokevirtual 128, 3) := by decide +kernel
theorem dX6_fullCups_27 : decode cX6_fullCups 27 = .ok (.ifCond .eq 9, 3) := by decide +kernel
theorem dX6_fullCups_30 : decode cX6_fullCups 30 = .ok (.iload_n 1, 1) := by decide +kernel
theorem dX6_fullCups_31 : decode cX6_fullCups 31 = .ok (.iconst 1, 1) := by decide +kernel
theorem dX6_fullCups_32 : decode cX6_fullCups 32 = .ok (.iload_n 2, 1) := by decide +kernel
theorem dX6_fullCups_33 : decode cX6_fullCups 33 = .ok (.ishl, 1) := by decide +kernel
theorem dX6_fullCups_34 : decode cX6_fullCups 34 = .ok (.ior, 1) := by decide +kernel
theorem dX6_fullCups_35 : decode cX6_fullCups 35 = .ok (.istore_n 1, 1) := by decide +kernel
theorem dX6_fullCups_36 : decode cX6_fullCups 36 = .ok (.iinc 2 1, 3) := by decide +kernel
theorem dX6_fullCups_39 : decode cX6_fullCups 39 = .ok (.goto (-35), 3) := by decide +kernel
theorem dX6_fullCups_42 : decode cX6_fullCups 42 = .ok (.iload_n 1, 1) := by decide +kernel
theorem dX6_fullCups_43 : decode cX6_fullCups 43 = .ok (.ireturn, 1) := by decide +kernel
theorem dX6_isWithin_0 : decode cX6_isWithin 0 = .ok (.iload_n 0, 1) := by decide +kernel
theorem dX6_isWithin_1 : decode cX6_isWithin 1 = .ok (.iload_n 1, 1) := by decide +kernel
theorem dX6_isWithin_2 : decode cX6_isWithin 2 = .ok (.if_icmp .lt 12, 3) := by decide +kernel
theorem dX6_isWithin_5 : decode cX6_isWithin 5 = .ok (.iload_n 0, 1) := by decide +kernel
theorem dX6_isWithin_6 : decode cX6_isWithin 6 = .ok (.iload_n 2, 1) := by decide +kernel
theorem dX6_isWithin_7 : decode cX6_isWithin 7 = .ok (.if_icmp .gt 7, 3) := by decide +kernel
theorem dX6_isWithin_10 : decode cX6_isWithin 10 = .ok (.iconst 1, 1) := by decide +kernel
theorem dX6_isWithin_11 : decode cX6_isWithin 11 = .ok (.goto 4, 3) := by decide +kernel
theorem dX6_isWithin_14 : decode cX6_isWithin 14 = .ok (.iconst 0, 1) := by decide +kernel
theorem dX6_isWithin_15 : decode cX6_isWithin 15 = .ok (.ireturn, 1) := by decide +kernel
theorem dX6_wrappedSeed_0 : decode cX6_wrappedSeed 0 = .ok (.iload_n 0, 1) := by decide +kernel
theorem dX6_wrappedSeed_1 : decode cX6_wrappedSeed 1 = .ok (.ldc 84, 2) := by decide +kernel
theorem dX6_wrappedSeed_3 : decode cX6_wrappedSeed 3 = .ok (.iand, 1) := by decide +kernel
theorem dX6_wrappedSeed_4 : decode cX6_wrappedSeed 4 = .ok (.ireturn, 1) := by decide +kernel
theorem dJ6_bitCount_0f7a4_0 : decode cJ6_bitCount_0f7a4 0 = .ok (.iload_n 0, 1) := by decide +kernel
theorem dJ6_bitCount_0f7a4_1 : decode cJ6_bitCount_0f7a4 1 = .ok (.iload_n 0, 1) := by decide +kernel
theorem dJ6_bitCount_0f7a4_2 : decode cJ6_bitCount_0f7a4 2 = .ok (.iconst 1, 1) := by decide +kernel
theorem dJ6_bitCount_0f7a4_3 : decode cJ6_bitCount_0f7a4 3 = .ok (.iushr, 1) := by decide +kernel
theorem dJ6_bitCount_0f7a4_4 : decode cJ6_bitCount_0f7a4 4 = .ok (.ldc_w 265, 3) := by decide +kernel
theorem dJ6_bitCount_0f7a4_7 : decode cJ6_bitCount_0f7a4 7 = .ok (.iand, 1) := by decide +kernel
theorem dJ6_bitCount_0f7a4_8 : decode cJ6_bitCount_0f7a4 8 = .ok (.isub, 1) := by decide +kernel
theorem dJ6_bitCount_0f7a4_9 : decode cJ6_bitCount_0f7a4 9 = .ok (.istore_n 0, 1) := by decide +kernel
theorem dJ6_bitCount_0f7a4_10 : decode cJ6_bitCount_0f7a4 10 = .ok (.iload_n 0, 1) := by decide +kernel
theorem dJ6_bitCount_0f7a4_11 : decode cJ6_bitCount_0f7a4 11 = .ok (.ldc_w 266, 3) := by decide +kernel
theorem dJ6_bitCount_0f7a4_14 : decode cJ6_bitCount_0f7a4 14 = .ok (.iand, 1) := by decide +kernel
theorem dJ6_bitCount_0f7a4_15 : decode cJ6_bitCount_0f7a4 15 = .ok (.iload_n 0, 1) := by decide +kernel
theorem dJ6_bitCount_0f7a4_16 : decode cJ6_bitCount_0f7a4 16 = .ok (.iconst 2, 1) := by decide +kernel
theorem dJ6_bitCount_0f7a4_17 : decode cJ6_bitCount_0f7a4 17 = .ok (.iushr, 1) := by decide +kernel
theorem dJ6_bitCount_0f7a4_18 : decode cJ6_bitCount_0f7a4 18 = .ok (.ldc_w 266, 3) := by decide +kernel
theorem dJ6_bitCount_0f7a4_21 : decode cJ6_bitCount_0f7a4 21 = .ok (.iand, 1) := by decide +kernel
theorem dJ6_bitCount_0f7a4_22 : decode cJ6_bitCount_0f7a4 22 = .ok (.iadd, 1) := by decide +kernel
theorem dJ6_bitCount_0f7a4_23 : decode cJ6_bitCount_0f7a4 23 = .ok (.istore_n 0, 1) := by decide +kernel
theorem dJ6_bitCount_0f7a4_24 : decode cJ6_bitCount_0f7a4 24 = .ok (.iload_n 0, 1) := by decide +kernel
theorem dJ6_bitCount_0f7a4_25 : decode cJ6_bitCount_0f7a4 25 = .ok (.iload_n 0, 1) := by decide +kernel
theorem dJ6_bitCount_0f7a4_26 : decode cJ6_bitCount_0f7a4 26 = .ok (.iconst 4, 1) := by decide +kernel
theorem dJ6_bitCount_0f7a4_27 : decode cJ6_bitCount_0f7a4 27 = .ok (.iushr, 1) := by decide +kernel
theorem dJ6_bitCount_0f7a4_28 : decode cJ6_bitCount_0f7a4 28 = .ok (.iadd, 1) := by decide +kernel
theorem dJ6_bitCount_0f7a4_29 : decode cJ6_bitCount_0f7a4 29 = .ok (.ldc_w 267, 3) := by decide +kernel
theorem dJ6_bitCount_0f7a4_32 : decode cJ6_bitCount_0f7a4 32 = .ok (.iand, 1) := by decide +kernel
theorem dJ6_bitCount_0f7a4_33 : decode cJ6_bitCount_0f7a4 33 = .ok (.istore_n 0, 1) := by decide +kernel
theorem dJ6_bitCount_0f7a4_34 : decode cJ6_bitCount_0f7a4 34 = .ok (.iload_n 0, 1) := by decide +kernel
theorem dJ6_bitCount_0f7a4_35 : decode cJ6_bitCount_0f7a4 35 = .ok (.iload_n 0, 1) := by decide +kernel
theorem dJ6_bitCount_0f7a4_36 : decode cJ6_bitCount_0f7a4 36 = .ok (.bipush 8, 2) := by decide +kernel
theorem dJ6_bitCount_0f7a4_38 : decode cJ6_bitCount_0f7a4 38 = .ok (.iushr, 1) := by decide +kernel
theorem dJ6_bitCount_0f7a4_39 : decode cJ6_bitCount_0f7a4 39 = .ok (.iadd, 1) := by decide +kernel
theorem dJ6_bitCount_0f7a4_40 : decode cJ6_bitCount_0f7a4 40 = .ok (.istore_n 0, 1) := by decide +kernel
theorem dJ6_bitCount_0f7a4_41 : decode cJ6_bitCount_0f7a4 41 = .ok (.iload_n 0, 1) := by decide +kernel
theorem dJ6_bitCount_0f7a4_42 : decode cJ6_bitCount_0f7a4 42 = .ok (.iload_n 0, 1) := by decide +kernel
theorem dJ6_bitCount_0f7a4_43 : decode cJ6_bitCount_0f7a4 43 = .ok (.bipush 16, 2) := by decide +kernel
theorem dJ6_bitCount_0f7a4_45 : decode cJ6_bitCount_0f7a4 45 = .ok (.iushr, 1) := by decide +kernel
theorem dJ6_bitCount_0f7a4_46 : decode cJ6_bitCount_0f7a4 46 = .ok (.iadd, 1) := by decide +kernel
theorem dJ6_bitCount_0f7a4_47 : decode cJ6_bitCount_0f7a4 47 = .ok (.istore_n 0, 1) := by decide +kernel
theorem dJ6_bitCount_0f7a4_48 : decode cJ6_bitCount_0f7a4 48 = .ok (.iload_n 0, 1) := by decide +kernel
theorem dJ6_bitCount_0f7a4_49 : decode cJ6_bitCount_0f7a4 49 = .ok (.bipush 63, 2) := by decide +kernel
theorem dJ6_bitCount_0f7a4_51 : decode cJ6_bitCount_0f7a4 51 = .ok (.iand, 1) := by decide +kernel
theorem dJ6_bitCount_0f7a4_52 : decode cJ6_bitCount_0f7a4 52 = .ok (.ireturn, 1) := by decide +kernel
theorem dJ9_floorMod_7cf53_0 : decode cJ9_floorMod_7cf53 0 = .ok (.iload_n 0, 1) := by decide +kernel
theorem dJ9_floorMod_7cf53_1 : decode cJ9_floorMod_7cf53 1 = .ok (.iload_n 1, 1) := by decide +kernel
theorem dJ9_floorMod_7cf53_2 : decode cJ9_floorMod_7cf53 2 = .ok (.irem, 1) := by decide +kernel
theorem dJ9_floorMod_7cf53_3 : decode cJ9_floorMod_7cf53 3 = .ok (.istore_n 2, 1) := by decide +kernel
theorem dJ9_floorMod_7cf53_4 : decode cJ9_floorMod_7cf53 4 = .ok (.iload_n 0, 1) := by decide +kernel
theorem dJ9_floorMod_7cf53_5 : decode cJ9_floorMod_7cf53 5 = .ok (.iload_n 1, 1) := by decide +kernel
theorem dJ9_floorMod_7cf53_6 : decode cJ9_floorMod_7cf53 6 = .ok (.ixor, 1) := by decide +kernel
theorem dJ9_floorMod_7cf53_7 : decode cJ9_floorMod_7cf53 7 = .ok (.ifCond .ge 11, 3) := by decide +kernel
theorem dJ9_floorMod_7cf53_10 : decode cJ9_floorMod_7cf53 10 = .ok (.iload_n 2, 1) := by decide +kernel
theorem dJ9_floorMod_7cf53_11 : decode cJ9_floorMod_7cf53 11 = .ok (.ifCond .eq 7, 3) := by decide +kernel
theorem dJ9_floorMod_7cf53_14 : decode cJ9_floorMod_7cf53 14 = .ok (.iload_n 2, 1) := by decide +kernel
theorem dJ9_floorMod_7cf53_15 : decode cJ9_floorMod_7cf53 15 = .ok (.iload_n 1, 1) := by decide +kernel
theorem dJ9_floorMod_7cf53_16 : decode cJ9_floorMod_7cf53 16 = .ok (.iadd, 1) := by decide +kernel
theorem dJ9_floorMod_7cf53_17 : decode cJ9_floorMod_7cf53 17 = .ok (.ireturn, 1) := by decide +kernel
theorem dJ9_floorMod_7cf53_18 : decode cJ9_floorMod_7cf53 18 = .ok (.iload_n 2, 1) := by decide +kernel
theorem dJ9_floorMod_7cf53_19 : decode cJ9_floorMod_7cf53 19 = .ok (.ireturn, 1) := by decide +kernel
end
section
theorem dJ9_min_7cf53_0 : decode cJ9_min_7cf53 0 = .ok (.iload_n 0, 1) := by decide +kernel
theorem dJ9_min_7cf53_1 : decode cJ9_min_7cf53 1 = .ok (.iload_n 1, 1) := by decide +kernel
theorem dJ9_min_7cf53_2 : decode cJ9_min_7cf53 2 = .ok (.if_icmp .gt 7, 3) := by decide +kernel
theorem dJ9_min_7cf53_5 : decode cJ9_min_7cf53 5 = .ok (.iload_n 0, 1) := by decide +kernel
theorem dJ9_min_7cf53_6 : decode cJ9_min_7cf53 6 = .ok (.goto 4, 3) := by decide +kernel
theorem dJ9_min_7cf53_9 : decode cJ9_min_7cf53 9 = .ok (.iload_n 1, 1) := by decide +kernel
theorem dJ9_min_7cf53_10 : decode cJ9_min_7cf53 10 = .ok (.ireturn, 1) := by decide +kernel
theorem dL_cell_0 : decode cL_cell 0 = .ok (.iload_n 1, 1) := by decide +kernel
theorem dL_cell_1 : decode cL_cell 1 = .ok (.aload_n 0, 1) := by decide +kernel
theorem dL_cell_2 : decode cL_cell 2 = .ok (.arraylength, 1) := by decide +kernel
theorem dL_cell_3 : decode cL_cell 3 = .ok (.if_icmp .ge 9, 3) := by decide +kernel
theorem dL_cell_6 : decode cL_cell 6 = .ok (.aload_n 0, 1) := by decide +kernel
theorem dL_cell_7 : decode cL_cell 7 = .ok (.iload_n 1, 1) := by decide +kernel
theorem dL_cell_8 : decode cL_cell 8 = .ok (.iaload, 1) := by decide +kernel
theorem dL_cell_9 : decode cL_cell 9 = .ok (.goto 11, 3) := by decide +kernel
theorem dL_cell_12 : decode cL_cell 12 = .ok (.ldc 7, 2) := by decide +kernel
theorem dL_cell_14 : decode cL_cell 14 = .ok (.iload_n 1, 1) := by decide +kernel
theorem dL_cell_15 : decode cL_cell 15 = .ok (.imul, 1) := by decide +kernel
theorem dL_cell_16 : decode cL_cell 16 = .ok (.sipush 24407, 3) := by decide +kernel
theorem dL_cell_19 : decode cL_cell 19 = .ok (.iadd, 1) := by decide +kernel
theorem dL_cell_20 : decode cL_cell 20 = .ok (.ireturn, 1) := by decide +kernel
theorem dL_low_0 : decode cL_low 0 = .ok (.iload_n 0, 1) := by decide +kernel
theorem dL_low_1 : decode cL_low 1 = .ok (.ldc 8, 2) := by decide +kernel
theorem dL_low_3 : decode cL_low 3 = .ok (.iand, 1) := by decide +kernel
theorem dL_low_4 : decode cL_low 4 = .ok (.iload_n 1, 1) := by decide +kernel
theorem dL_low_5 : decode cL_low 5 = .ok (.irem, 1) := by decide +kernel
theorem dL_low_6 : decode cL_low 6 = .ok (.ireturn, 1) := by decide +kernel
theorem dL_size_0 : decode cL_size 0 = .ok (.iconst 0, 1) := by decide +kernel
theorem dL_size_1 : decode cL_size 1 = .ok (.istore_n 1, 1) := by decide +kernel
theorem dL_size_2 : decode cL_size 2 = .ok (.iconst 0, 1) := by decide +kernel
theorem dL_size_3 : decode cL_size 3 = .ok (.istore_n 2, 1) := by decide +kernel
theorem dL_size_4 : decode cL_size 4 = .ok (.iload_n 2, 1) := by decide +kernel
theorem dL_size_5 : decode cL_size 5 = .ok (.bipush 16, 2) := by decide +kernel
theorem dL_size_7 : decode cL_size 7 = .ok (.if_icmp .ge 17, 3) := by decide +kernel
theorem dL_size_10 : decode cL_size 10 = .ok (.iload_n 1, 1) := by decide +kernel
theorem dL_size_11 : decode cL_size 11 = .ok (.iload_n 0, 1) := by decide +kernel
theorem dL_size_12 : decode cL_size 12 = .ok (.iload_n 2, 1) := by decide +kernel
theorem dL_size_13 : decode cL_size 13 = .ok (.ishr, 1) := by decide +kernel
theorem dL_size_14 : decode cL_size 14 = .ok (.iconst 1, 1) := by decide +kernel
theorem dL_size_15 : decode cL_size 15 = .ok (.iand, 1) := by decide +kernel
theorem dL_size_16 : decode cL_size 16 = .ok (.iadd, 1) := by decide +kernel
theorem dL_size_17 : decode cL_size 17 = .ok (.istore_n 1, 1) := by decide +kernel
theorem dL_size_18 : decode cL_size 18 = .ok (.iinc 2 1, 3) := by decide +kernel
theorem dL_size_21 : decode cL_size 21 = .ok (.goto (-17), 3) := by decide +kernel
theorem dL_size_24 : decode cL_size 24 = .ok (.iload_n 1, 1) := by decide +kernel
theorem dL_size_25 : decode cL_size 25 = .ok (.ireturn, 1) := by decide +kernel
theorem dL_draw_0 : decode cL_draw 0 = .ok (.bipush 75, 2) := by decide +kernel
theorem dL_draw_2 : decode cL_draw 2 = .ok (.iload_n 0, 1) := by decide +kernel
theorem dL_draw_3 : decode cL_draw 3 = .ok (.imul, 1) := by decide +kernel
theorem dL_draw_4 : decode cL_draw 4 = .ok (.bipush 74, 2) := by decide +kernel
theorem dL_draw_6 : decode cL_draw 6 = .ok (.iadd, 1) := by decide +kernel
theorem dL_draw_7 : decode cL_draw 7 = .ok (.ldc 9, 2) := by decide +kernel
theorem dL_draw_9 : decode cL_draw 9 = .ok (.irem, 1) := by decide +kernel
theorem dL_draw_10 : decode cL_draw 10 = .ok (.ireturn, 1) := by decide +kernel
theorem dL_droplet_0 : decode cL_droplet 0 = .ok (.aload_n 0, 1) := by decide +kernel
theorem dL_droplet_1 : decode cL_droplet 1 = .ok (.iconst 0, 1) := by decide +kernel
theorem dL_droplet_2 : decode cL_droplet 2 = .ok (.invokevirtual 10, 3) := by decide +kernel
theorem dL_droplet_5 : decode cL_droplet 5 = .ok (.istore_n 3, 1) := by decide +kernel
theorem dL_droplet_6 : decode cL_droplet 6 = .ok (.iload_n 2, 1) := by decide +kernel
theorem dL_droplet_7 : decode cL_droplet 7 = .ok (.invokestatic 16, 3) := by decide +kernel
theorem dL_droplet_10 : decode cL_droplet 10 = .ok (.istore 4, 2) := by decide +kernel
theorem dL_droplet_12 : decode cL_droplet 12 = .ok (.iload 4, 2) := by decide +kernel
theorem dL_droplet_14 : decode cL_droplet 14 = .ok (.bipush 100, 2) := by decide +kernel
theorem dL_droplet_16 : decode cL_droplet 16 = .ok (.irem, 1) := by decide +kernel
theorem dL_droplet_17 : decode cL_droplet 17 = .ok (.aload_n 0, 1) := by decide +kernel
theorem dL_droplet_18 : decode cL_droplet 18 = .ok (.iconst 5, 1) := by decide +kernel
theorem dL_droplet_19 : decode cL_droplet 19 = .ok (.invokevirtual 10, 3) := by decide +kernel
theorem dL_droplet_22 : decode cL_droplet 22 = .ok (.if_icmp .ge 7, 3) := by decide +kernel
theorem dL_droplet_25 : decode cL_droplet 25 = .ok (.iconst 1, 1) := by decide +kernel
theorem dL_droplet_26 : decode cL_droplet 26 = .ok (.goto 4, 3) := by decide +kernel
theorem dL_droplet_29 : decode cL_droplet 29 = .ok (.iconst 0, 1) := by decide +kernel
theorem dL_droplet_30 : decode cL_droplet 30 = .ok (.istore 5, 2) := by decide +kernel
theorem dL_droplet_32 : decode cL_droplet 32 = .ok (.iload 4, 2) := by decide +kernel
theorem dL_droplet_34 : decode cL_droplet 34 = .ok (.invokestatic 16, 3) := by decide +kernel
theorem dL_droplet_37 : decode cL_droplet 37 = .ok (.istore 4, 2) := by decide +kernel
theorem dL_droplet_39 : decode cL_droplet 39 = .ok (.iload 4, 2) := by decide +kernel
theorem dL_droplet_41 : decode cL_droplet 41 = .ok (.bipush 24, 2) := by decide +kernel
theorem dL_droplet_43 : decode cL_droplet 43 = .ok (.irem, 1) := by decide +kernel
theorem dL_droplet_44 : decode cL_droplet 44 = .ok (.istore 6, 2) := by decide +kernel
theorem dL_droplet_46 : decode cL_droplet 46 = .ok (.iload 6, 2) := by decide +kernel
theorem dL_droplet_48 : decode cL_droplet 48 = .ok (.iconst 4, 1) := by decide +kernel
theorem dL_droplet_49 : decode cL_droplet 49 = .ok (.if_icmp .ge 7, 3) := by decide +kernel
theorem dL_droplet_52 : decode cL_droplet 52 = .ok (.iconst 1, 1) := by decide +kernel
theorem dL_droplet_53 : decode cL_droplet 53 = .ok (.goto 26, 3) := by decide +kernel
theorem dL_droplet_56 : decode cL_droplet 56 = .ok (.iload 6, 2) := by decide +kernel
theorem dL_droplet_58 : decode cL_droplet 58 = .ok (.bipush 16, 2) := by decide +kernel
theorem dL_droplet_60 : decode cL_droplet 60 = .ok (.if_icmp .ge 7, 3) := by decide +kernel
theorem dL_droplet_63 : decode cL_droplet 63 = .ok (.iconst 2, 1) := by decide +kernel
theorem dL_droplet_64 : decode cL_droplet 64 = .ok (.goto 15, 3) := by decide +kernel
theorem dL_droplet_67 : decode cL_droplet 67 = .ok (.iload 6, 2) := by decide +kernel
theorem dL_droplet_69 : decode cL_droplet 69 = .ok (.bipush 20, 2) := by decide +kernel
theorem dL_droplet_71 : decode cL_droplet 71 = .ok (.if_icmp .ge 7, 3) := by decide +kernel
theorem dL_droplet_74 : decode cL_droplet 74 = .ok (.iconst 3, 1) := by decide +kernel
theorem dL_droplet_75 : decode cL_droplet 75 = .ok (.goto 4, 3) := by decide +kernel
theorem dL_droplet_78 : decode cL_droplet 78 = .ok (.iconst 4, 1) := by decide +kernel
theorem dL_droplet_79 : decode cL_droplet 79 = .ok (.istore 7, 2) := by decide +kernel
theorem dL_droplet_81 : decode cL_droplet 81 = .ok (.aload_n 0, 1) := by decide +kernel
theorem dL_droplet_82 : decode cL_droplet 82 = .ok (.iconst 4, 1) := by decide +kernel
theorem dL_droplet_83 : decode cL_droplet 83 = .ok (.invokevirtual 10, 3) := by decide +kernel
theorem dL_droplet_86 : decode cL_droplet 86 = .ok (.ifCond .ne 12, 3) := by decide +kernel
theorem dL_droplet_89 : decode cL_droplet 89 = .ok (.iconst 1, 1) := by decide +kernel
theorem dL_droplet_90 : decode cL_droplet 90 = .ok (.iload 4, 2) := by decide +kernel
theorem dL_droplet_92 : decode cL_droplet 92 = .ok (.iload_n 3, 1) := by decide +kernel
theorem dL_droplet_93 : decode cL_droplet 93 = .ok (.irem, 1) := by decide +kernel
theorem dL_droplet_94 : decode cL_droplet 94 = .ok (.iadd, 1) := by decide +kernel
theorem dL_droplet_95 : decode cL_droplet 95 = .ok (.goto 39, 3) := by decide +kernel
theorem dL_droplet_98 : decode cL_droplet 98 = .ok (.aload_n 0, 1) := by decide +kernel
theorem dL_droplet_99 : decode cL_droplet 99 = .ok (.iconst 4, 1) := by decide +kernel
theorem dL_droplet_100 : decode cL_droplet 100 = .ok (.invokevirtual 10, 3) := by decide +kernel
theorem dL_droplet_103 : decode cL_droplet 103 = .ok (.iconst 1, 1) := by decide +kernel
theorem dL_droplet_104 : decode cL_droplet 104 = .ok (.if_icmp .ne 18, 3) := by decide +kernel
theorem dL_droplet_107 : decode cL_droplet 107 = .ok (.iload 7, 2) := by decide +kernel
theorem dL_droplet_109 : decode cL_droplet 109 = .ok (.iload_n 3, 1) := by decide +kernel
theorem dL_droplet_110 : decode cL_droplet 110 = .ok (.if_icmp .ge 8, 3) := by decide +kernel
theorem dL_droplet_113 : decode cL_droplet 113 = .ok (.iload 7, 2) := by decide +kernel
theorem dL_droplet_115 : decode cL_droplet 115 = .ok (.goto 19, 3) := by decide +kernel
theorem dL_droplet_118 : decode cL_droplet 118 = .ok (.iload_n 3, 1) := by decide +kernel
theorem dL_droplet_119 : decode cL_droplet 119 = .ok (.goto 15, 3) := by decide +kernel
theorem dL_droplet_122 : decode cL_droplet 122 = .ok (.iload 4, 2) := by decide +kernel
theorem dL_droplet_124 : decode cL_droplet 124 = .ok (.iconst 4, 1) := by decide +kernel
theorem dL_droplet_125 : decode cL_droplet 125 = .ok (.irem, 1) := by decide +kernel
theorem dL_droplet_126 : decode cL_droplet 126 = .ok (.ifCond .ne 7, 3) := by decide +kernel
theorem dL_droplet_129 : decode cL_droplet 129 = .ok (.iconst 1, 1) := by decide +kernel
theorem dL_droplet_130 : decode cL_droplet 130 = .ok (.goto 4, 3) := by decide +kernel
theorem dL_droplet_133 : decode cL_droplet 133 = .ok (.iload_n 3, 1) := by decide +kernel
theorem dL_droplet_134 : decode cL_droplet 134 = .ok (.istore 8, 2) := by decide +kernel
theorem dL_droplet_136 : decode cL_droplet 136 = .ok (.iconst 0, 1) := by decide +kernel
theorem dL_droplet_137 : decode cL_droplet 137 = .ok (.istore 9, 2) := by decide +kernel
theorem dL_droplet_139 : decode cL_droplet 139 = .ok (.iconst 0, 1) := by decide +kernel
theorem dL_droplet_140 : decode cL_droplet 140 = .ok (.istore 10, 2) := by decide +kernel
theorem dL_droplet_142 : decode cL_droplet 142 = .ok (.iconst 0, 1) := by decide +kernel
theorem dL_droplet_143 : decode cL_droplet 143 = .ok (.istore 11, 2) := by decide +kernel
theorem dL_droplet_145 : decode cL_droplet 145 = .ok (.iload 11, 2) := by decide +kernel
theorem dL_droplet_147 : decode cL_droplet 147 = .ok (.iload 8, 2) := by decide +kernel
theorem dL_droplet_149 : decode cL_droplet 149 = .ok (.if_icmp .ge 74, 3) := by decide +kernel
theorem dL_droplet_152 : decode cL_droplet 152 = .ok (.iload 4, 2) := by decide +kernel
theorem dL_droplet_154 : decode cL_droplet 154 = .ok (.invokestatic 16, 3) := by decide +kernel
theorem dL_droplet_157 : decode cL_droplet 157 = .ok (.istore 4, 2) := by decide +kernel
theorem dL_droplet_159 : decode cL_droplet 159 = .ok (.iload 4, 2) := by decide +kernel
theorem dL_droplet_161 : decode cL_droplet 161 = .ok (.iload_n 3, 1) := by decide +kernel
theorem dL_droplet_162 : decode cL_droplet 162 = .ok (.irem, 1) := by decide +kernel
theorem dL_droplet_163 : decode cL_droplet 163 = .ok (.istore 12, 2) := by decide +kernel
theorem dL_droplet_165 : decode cL_droplet 165 = .ok (.iconst 0, 1) := by decide +kernel
theorem dL_droplet_166 : decode cL_droplet 166 = .ok (.istore 13, 2) := by decide +kernel
theorem dL_droplet_168 : decode cL_droplet 168 = .ok (.iload 13, 2) := by decide +kernel
theorem dL_droplet_170 : decode cL_droplet 170 = .ok (.iload_n 3, 1) := by decide +kernel
theorem dL_droplet_171 : decode cL_droplet 171 = .ok (.if_icmp .ge 28, 3) := by decide +kernel
theorem dL_droplet_174 : decode cL_droplet 174 = .ok (.iload 9, 2) := by decide +kernel
theorem dL_droplet_176 : decode cL_droplet 176 = .ok (.iload 12, 2) := by decide +kernel
theorem dL_droplet_178 : decode cL_droplet 178 = .ok (.ishr, 1) := by decide +kernel
theorem dL_droplet_179 : decode cL_droplet 179 = .ok (.iconst 1, 1) := by decide +kernel
theorem dL_droplet_180 : decode cL_droplet 180 = .ok (.iand, 1) := by decide +kernel
theorem dL_droplet_181 : decode cL_droplet 181 = .ok (.iconst 1, 1) := by decide +kernel
theorem dL_droplet_182 : decode cL_droplet 182 = .ok (.if_icmp .ne 17, 3) := by decide +kernel
theorem dL_droplet_185 : decode cL_droplet 185 = .ok (.iload 12, 2) := by decide +kernel
theorem dL_droplet_187 : decode cL_droplet 187 = .ok (.iconst 1, 1) := by decide +kernel
theorem dL_droplet_188 : decode cL_droplet 188 = .ok (.iadd, 1) := by decide +kernel
theorem dL_droplet_189 : decode cL_droplet 189 = .ok (.iload_n 3, 1) := by decide +kernel
theorem dL_droplet_190 : decode cL_droplet 190 = .ok (.irem, 1) := by decide +kernel
theorem dL_droplet_191 : decode cL_droplet 191 = .ok (.istore 12, 2) := by decide +kernel
theorem dL_droplet_193 : decode cL_droplet 193 = .ok (.iinc 13 1, 3) := by decide +kernel
theorem dL_droplet_196 : decode cL_droplet 196 = .ok (.goto (-28), 3) := by decide +kernel
theorem dL_droplet_199 : decode cL_droplet 199 = .ok (.iload 9, 2) := by decide +kernel
theorem dL_droplet_201 : decode cL_droplet 201 = .ok (.iconst 1, 1) := by decide +kernel
theorem dL_droplet_202 : decode cL_droplet 202 = .ok (.iload 12, 2) := by decide +kernel
theorem dL_droplet_204 : decode cL_droplet 204 = .ok (.ishl, 1) := by decide +kernel
theorem dL_droplet_205 : decode cL_droplet 205 = .ok (.ior, 1) := by decide +kernel
theorem dL_droplet_206 : decode cL_droplet 206 = .ok (.istore 9, 2) := by decide +kernel
theorem dL_droplet_208 : decode cL_droplet 208 = .ok (.iload 10, 2) := by decide +kernel
theorem dL_droplet_210 : decode cL_droplet 210 = .ok (.aload_n 1, 1) := by decide +kernel
theorem dL_droplet_211 : decode cL_droplet 211 = .ok (.iload 12, 2) := by decide +kernel
theorem dL_droplet_213 : decode cL_droplet 213 = .ok (.iaload, 1) := by decide +kernel
theorem dL_droplet_214 : decode cL_droplet 214 = .ok (.ixor, 1) := by decide +kernel
theorem dL_droplet_215 : decode cL_droplet 215 = .ok (.istore 10, 2) := by decide +kernel
theorem dL_droplet_217 : decode cL_droplet 217 = .ok (.iinc 11 1, 3) := by decide +kernel
theorem dL_droplet_220 : decode cL_droplet 220 = .ok (.goto (-75), 3) := by decide +kernel
theorem dL_droplet_223 : decode cL_droplet 223 = .ok (.aload_n 0, 1) := by decide +kernel
theorem dL_droplet_224 : decode cL_droplet 224 = .ok (.iload_n 2, 1) := by decide +kernel
theorem dL_droplet_225 : decode cL_droplet 225 = .ok (.iconst 0, 1) := by decide +kernel
theorem dL_droplet_226 : decode cL_droplet 226 = .ok (.invokevirtual 21, 3) := by decide +kernel
theorem dL_droplet_229 : decode cL_droplet 229 = .ok (.iload 8, 2) := by decide +kernel
theorem dL_droplet_231 : decode cL_droplet 231 = .ok (.if_icmp .ne 50, 3) := by decide +kernel
theorem dL_droplet_234 : decode cL_droplet 234 = .ok (.aload_n 0, 1) := by decide +kernel
theorem dL_droplet_235 : decode cL_droplet 235 = .ok (.iload_n 2, 1) := by decide +kernel
theorem dL_droplet_236 : decode cL_droplet 236 = .ok (.iconst 1, 1) := by decide +kernel
theorem dL_droplet_237 : decode cL_droplet 237 = .ok (.invokevirtual 21, 3) := by decide +kernel
theorem dL_droplet_240 : decode cL_droplet 240 = .ok (.iload 9, 2) := by decide +kernel
theorem dL_droplet_242 : decode cL_droplet 242 = .ok (.if_icmp .ne 39, 3) := by decide +kernel
theorem dL_droplet_245 : decode cL_droplet 245 = .ok (.aload_n 0, 1) := by decide +kernel
theorem dL_droplet_246 : decode cL_droplet 246 = .ok (.iload_n 2, 1) := by decide +kernel
theorem dL_droplet_247 : decode cL_droplet 247 = .ok (.iconst 2, 1) := by decide +kernel
theorem dL_droplet_248 : decode cL_droplet 248 = .ok (.invokevirtual 21, 3) := by decide +kernel
theorem dL_droplet_251 : decode cL_droplet 251 = .ok (.iload 10, 2) := by decide +kernel
theorem dL_droplet_253 : decode cL_droplet 253 = .ok (.if_icmp .ne 28, 3) := by decide +kernel
theorem dL_droplet_256 : decode cL_droplet 256 = .ok (.aload_n 0, 1) := by decide +kernel
theorem dL_droplet_257 : decode cL_droplet 257 = .ok (.iload_n 2, 1) := by decide +kernel
theorem dL_droplet_258 : decode cL_droplet 258 = .ok (.iconst 3, 1) := by decide +kernel
theorem dL_droplet_259 : decode cL_droplet 259 = .ok (.invokevirtual 21, 3) := by decide +kernel
theorem dL_droplet_262 : decode cL_droplet 262 = .ok (.iload 5, 2) := by decide +kernel
theorem dL_droplet_264 : decode cL_droplet 264 = .ok (.if_icmp .ne 17, 3) := by decide +kernel
theorem dL_droplet_267 : decode cL_droplet 267 = .ok (.iload 9, 2) := by decide +kernel
theorem dL_droplet_269 : decode cL_droplet 269 = .ok (.invokestatic 25, 3) := by decide +kernel
theorem dL_droplet_272 : decode cL_droplet 272 = .ok (.iload 8, 2) := by decide +kernel
theorem dL_droplet_274 : decode cL_droplet 274 = .ok (.if_icmp .ne 7, 3) := by decide +kernel
theorem dL_droplet_277 : decode cL_droplet 277 = .ok (.iconst 1, 1) := by decide +kernel
theorem dL_droplet_278 : decode cL_droplet 278 = .ok (.goto 4, 3) := by decide +kernel
theorem dL_droplet_281 : decode cL_droplet 281 = .ok (.iconst 0, 1) := by decide +kernel
theorem dL_droplet_282 : decode cL_droplet 282 = .ok (.ireturn, 1) := by decide +kernel
theorem dL_cup_0 : decode cL_cup 0 = .ok (.aload_n 0, 1) := by decide +kernel
theorem dL_cup_1 : decode cL_cup 1 = .ok (.iload_n 2, 1) := by decide +kernel
theorem dL_cup_2 : decode cL_cup 2 = .ok (.iconst 0, 1) := by decide +kernel
theorem dL_cup_3 : decode cL_cup 3 = .ok (.invokevirtual 28, 3) := by decide +kernel
theorem dL_cup_6 : decode cL_cup 6 = .ok (.istore_n 3, 1) := by decide +kernel
theorem dL_cup_7 : decode cL_cup 7 = .ok (.aload_n 0, 1) := by decide +kernel
theorem dL_cup_8 : decode cL_cup 8 = .ok (.iconst 0, 1) := by decide +kernel
theorem dL_cup_9 : decode cL_cup 9 = .ok (.invokevirtual 10, 3) := by decide +kernel
theorem dL_cup_12 : decode cL_cup 12 = .ok (.istore 4, 2) := by decide +kernel
theorem dL_cup_14 : decode cL_cup 14 = .ok (.iconst 0, 1) := by decide +kernel
theorem dL_cup_15 : decode cL_cup 15 = .ok (.istore 5, 2) := by decide +kernel
theorem dL_cup_17 : decode cL_cup 17 = .ok (.iload 5, 2) := by decide +kernel
theorem dL_cup_19 : decode cL_cup 19 = .ok (.iload 4, 2) := by decide +kernel
theorem dL_cup_21 : decode cL_cup 21 = .ok (.if_icmp .ge 40, 3) := by decide +kernel
theorem dL_cup_24 : decode cL_cup 24 = .ok (.aload_n 0, 1) := by decide +kernel
theorem dL_cup_25 : decode cL_cup 25 = .ok (.iload_n 2, 1) := by decide +kernel
theorem dL_cup_26 : decode cL_cup 26 = .ok (.iload 5, 2) := by decide +kernel
theorem dL_cup_28 : decode cL_cup 28 = .ok (.invokevirtual 31, 3) := by decide +kernel
theorem dL_cup_31 : decode cL_cup 31 = .ok (.iload_n 3, 1) := by decide +kernel
theorem dL_cup_32 : decode cL_cup 32 = .ok (.iload 5, 2) := by decide +kernel
theorem dL_cup_34 : decode cL_cup 34 = .ok (.ishr, 1) := by decide +kernel
theorem dL_cup_35 : decode cL_cup 35 = .ok (.iconst 1, 1) := by decide +kernel
theorem dL_cup_36 : decode cL_cup 36 = .ok (.iand, 1) := by decide +kernel
theorem dL_cup_37 : decode cL_cup 37 = .ok (.iconst 1, 1) := by decide +kernel
theorem dL_cup_38 : decode cL_cup 38 = .ok (.if_icmp .ne 10, 3) := by decide +kernel
theorem dL_cup_41 : decode cL_cup 41 = .ok (.aload_n 1, 1) := by decide +kernel
theorem dL_cup_42 : decode cL_cup 42 = .ok (.iload 5, 2) := by decide +kernel
theorem dL_cup_44 : decode cL_cup 44 = .ok (.iaload, 1) := by decide +kernel
theorem dL_cup_45 : decode cL_cup 45 = .ok (.goto 5, 3) := by decide +kernel
theorem dL_cup_48 : decode cL_cup 48 = .ok (.bipush (-6), 2) := by decide +kernel
theorem dL_cup_50 : decode cL_cup 50 = .ok (.if_icmp .eq 5, 3) := by decide +kernel
theorem dL_cup_53 : decode cL_cup 53 = .ok (.iconst 0, 1) := by decide +kernel
theorem dL_cup_54 : decode cL_cup 54 = .ok (.ireturn, 1) := by decide +kernel
theorem dL_cup_55 : decode cL_cup 55 = .ok (.iinc 5 1, 3) := by decide +kernel
theorem dL_cup_58 : decode cL_cup 58 = .ok (.goto (-41), 3) := by decide +kernel
theorem dL_cup_61 : decode cL_cup 61 = .ok (.aload_n 0, 1) := by decide +kernel
theorem dL_cup_62 : decode cL_cup 62 = .ok (.iload_n 2, 1) := by decide +kernel
theorem dL_cup_63 : decode cL_cup 63 = .ok (.iconst 1, 1) := by decide +kernel
theorem dL_cup_64 : decode cL_cup 64 = .ok (.invokevirtual 28, 3) := by decide +kernel
theorem dL_cup_67 : decode cL_cup 67 = .ok (.istore 5, 2) := by decide +kernel
theorem dL_cup_69 : decode cL_cup 69 = .ok (.iconst 0, 1) := by decide +kernel
theorem dL_cup_70 : decode cL_cup 70 = .ok (.istore 6, 2) := by decide +kernel
theorem dL_cup_72 : decode cL_cup 72 = .ok (.iload 6, 2) := by decide +kernel
theorem dL_cup_74 : decode cL_cup 74 = .ok (.iload 5, 2) := by decide +kernel
theorem dL_cup_76 : decode cL_cup 76 = .ok (.if_icmp .ge 101, 3) := by decide +kernel
theorem dL_cup_79 : decode cL_cup 79 = .ok (.aload_n 0, 1) := by decide +kernel
theorem dL_cup_80 : decode cL_cup 80 = .ok (.iload_n 2, 1) := by decide +kernel
theorem dL_cup_81 : decode cL_cup 81 = .ok (.iload 6, 2) := by decide +kernel
theorem dL_cup_83 : decode cL_cup 83 = .ok (.iconst 0, 1) := by decide +kernel
theorem dL_cup_84 : decode cL_cup 84 = .ok (.invokevirtual 34, 3) := by decide +kernel
theorem dL_cup_87 : decode cL_cup 87 = .ok (.istore 7, 2) := by decide +kernel
theorem dL_cup_89 : decode cL_cup 89 = .ok (.iconst 0, 1) := by decide +kernel
theorem dL_cup_90 : decode cL_cup 90 = .ok (.istore 8, 2) := by decide +kernel
theorem dL_cup_92 : decode cL_cup 92 = .ok (.iconst 0, 1) := by decide +kernel
theorem dL_cup_93 : decode cL_cup 93 = .ok (.istore 9, 2) := by decide +kernel
theorem dL_cup_95 : decode cL_cup 95 = .ok (.iload 9, 2) := by decide +kernel
theorem dL_cup_97 : decode cL_cup 97 = .ok (.iload 4, 2) := by decide +kernel
theorem dL_cup_99 : decode cL_cup 99 = .ok (.if_icmp .ge 33, 3) := by decide +kernel
theorem dL_cup_102 : decode cL_cup 102 = .ok (.iload 8, 2) := by decide +kernel
theorem dL_cup_104 : decode cL_cup 104 = .ok (.iload 7, 2) := by decide +kernel
theorem dL_cup_106 : decode cL_cup 106 = .ok (.iload 9, 2) := by decide +kernel
theorem dL_cup_108 : decode cL_cup 108 = .ok (.ishr, 1) := by decide +kernel
theorem dL_cup_109 : decode cL_cup 109 = .ok (.iconst 1, 1) := by decide +kernel
theorem dL_cup_110 : decode cL_cup 110 = .ok (.iand, 1) := by decide +kernel
theorem dL_cup_111 : decode cL_cup 111 = .ok (.iconst 1, 1) := by decide +kernel
theorem dL_cup_112 : decode cL_cup 112 = .ok (.if_icmp .ne 10, 3) := by decide +kernel
theorem dL_cup_115 : decode cL_cup 115 = .ok (.aload_n 1, 1) := by decide +kernel
theorem dL_cup_116 : decode cL_cup 116 = .ok (.iload 9, 2) := by decide +kernel
theorem dL_cup_118 : decode cL_cup 118 = .ok (.iaload, 1) := by decide +kernel
theorem dL_cup_119 : decode cL_cup 119 = .ok (.goto 4, 3) := by decide +kernel
theorem dL_cup_122 : decode cL_cup 122 = .ok (.iconst 0, 1) := by decide +kernel
theorem dL_cup_123 : decode cL_cup 123 = .ok (.ixor, 1) := by decide +kernel
theorem dL_cup_124 : decode cL_cup 124 = .ok (.istore 8, 2) := by decide +kernel
theorem dL_cup_126 : decode cL_cup 126 = .ok (.iinc 9 1, 3) := by decide +kernel
theorem dL_cup_129 : decode cL_cup 129 = .ok (.goto (-34), 3) := by decide +kernel
theorem dL_cup_132 : decode cL_cup 132 = .ok (.iload 7, 2) := by decide +kernel
theorem dL_cup_134 : decode cL_cup 134 = .ok (.invokestatic 25, 3) := by decide +kernel
theorem dL_cup_137 : decode cL_cup 137 = .ok (.iconst 2, 1) := by decide +kernel
theorem dL_cup_138 : decode cL_cup 138 = .ok (.if_icmp .lt 31, 3) := by decide +kernel
theorem dL_cup_141 : decode cL_cup 141 = .ok (.iload 7, 2) := by decide +kernel
theorem dL_cup_143 : decode cL_cup 143 = .ok (.iload_n 3, 1) := by decide +kernel
theorem dL_cup_144 : decode cL_cup 144 = .ok (.iand, 1) := by decide +kernel
theorem dL_cup_145 : decode cL_cup 145 = .ok (.ifCond .ne 24, 3) := by decide +kernel
theorem dL_cup_148 : decode cL_cup 148 = .ok (.iload 7, 2) := by decide +kernel
theorem dL_cup_150 : decode cL_cup 150 = .ok (.iload 4, 2) := by decide +kernel
theorem dL_cup_152 : decode cL_cup 152 = .ok (.ishr, 1) := by decide +kernel
theorem dL_cup_153 : decode cL_cup 153 = .ok (.ifCond .ne 16, 3) := by decide +kernel
theorem dL_cup_156 : decode cL_cup 156 = .ok (.aload_n 0, 1) := by decide +kernel
theorem dL_cup_157 : decode cL_cup 157 = .ok (.iload_n 2, 1) := by decide +kernel
theorem dL_cup_158 : decode cL_cup 158 = .ok (.iload 6, 2) := by decide +kernel
theorem dL_cup_160 : decode cL_cup 160 = .ok (.iconst 1, 1) := by decide +kernel
theorem dL_cup_161 : decode cL_cup 161 = .ok (.invokevirtual 34, 3) := by decide +kernel
theorem dL_cup_164 : decode cL_cup 164 = .ok (.iload 8, 2) := by decide +kernel
theorem dL_cup_166 : decode cL_cup 166 = .ok (.if_icmp .eq 5, 3) := by decide +kernel
theorem dL_cup_169 : decode cL_cup 169 = .ok (.iconst 0, 1) := by decide +kernel
theorem dL_cup_170 : decode cL_cup 170 = .ok (.ireturn, 1) := by decide +kernel
theorem dL_cup_171 : decode cL_cup 171 = .ok (.iinc 6 1, 3) := by decide +kernel
theorem dL_cup_174 : decode cL_cup 174 = .ok (.goto (-102), 3) := by decide +kernel
theorem dL_cup_177 : decode cL_cup 177 = .ok (.iload_n 3, 1) := by decide +kernel
theorem dL_cup_178 : decode cL_cup 178 = .ok (.invokestatic 25, 3) := by decide +kernel
theorem dL_cup_181 : decode cL_cup 181 = .ok (.iload 4, 2) := by decide +kernel
theorem dL_cup_183 : decode cL_cup 183 = .ok (.if_icmp .ne 7, 3) := by decide +kernel
theorem dL_cup_186 : decode cL_cup 186 = .ok (.iconst 1, 1) := by decide +kernel
theorem dL_cup_187 : decode cL_cup 187 = .ok (.goto 4, 3) := by decide +kernel
theorem dL_cup_190 : decode cL_cup 190 = .ok (.iconst 0, 1) := by decide +kernel
theorem dL_cup_191 : decode cL_cup 191 = .ok (.istore 6, 2) := by decide +kernel
theorem dL_cup_193 : decode cL_cup 193 = .ok (.aload_n 0, 1) := by decide +kernel
theorem dL_cup_194 : decode cL_cup 194 = .ok (.iload_n 2, 1) := by decide +kernel
theorem dL_cup_195 : decode cL_cup 195 = .ok (.bipush 6, 2) := by decide +kernel
theorem dL_cup_197 : decode cL_cup 197 = .ok (.invokevirtual 28, 3) := by decide +kernel
theorem dL_cup_200 : decode cL_cup 200 = .ok (.istore 7, 2) := by decide +kernel
theorem dL_cup_202 : decode cL_cup 202 = .ok (.iload 5, 2) := by decide +kernel
theorem dL_cup_204 : decode cL_cup 204 = .ok (.bipush 24, 2) := by decide +kernel
theorem dL_cup_206 : decode cL_cup 206 = .ok (.if_icmp .gt 108, 3) := by decide +kernel
theorem dL_cup_209 : decode cL_cup 209 = .ok (.aload_n 0, 1) := by decide +kernel
theorem dL_cup_210 : decode cL_cup 210 = .ok (.iload_n 2, 1) := by decide +kernel
theorem dL_cup_211 : decode cL_cup 211 = .ok (.iload 5, 2) := by decide +kernel
theorem dL_cup_213 : decode cL_cup 213 = .ok (.iconst 0, 1) := by decide +kernel
theorem dL_cup_214 : decode cL_cup 214 = .ok (.invokevirtual 34, 3) := by decide +kernel
theorem dL_cup_217 : decode cL_cup 217 = .ok (.iconst (-1), 1) := by decide +kernel
theorem dL_cup_218 : decode cL_cup 218 = .ok (.if_icmp .ne 96, 3) := by decide +kernel
theorem dL_cup_221 : decode cL_cup 221 = .ok (.aload_n 0, 1) := by decide +kernel
theorem dL_cup_222 : decode cL_cup 222 = .ok (.iload_n 2, 1) := by decide +kernel
theorem dL_cup_223 : decode cL_cup 223 = .ok (.iconst 5, 1) := by decide +kernel
theorem dL_cup_224 : decode cL_cup 224 = .ok (.invokevirtual 28, 3) := by decide +kernel
theorem dL_cup_227 : decode cL_cup 227 = .ok (.iload 6, 2) := by decide +kernel
theorem dL_cup_229 : decode cL_cup 229 = .ok (.ifCond .eq 7, 3) := by decide +kernel
theorem dL_cup_232 : decode cL_cup 232 = .ok (.iconst 1, 1) := by decide +kernel
theorem dL_cup_233 : decode cL_cup 233 = .ok (.goto 4, 3) := by decide +kernel
theorem dL_cup_236 : decode cL_cup 236 = .ok (.iconst 0, 1) := by decide +kernel
theorem dL_cup_237 : decode cL_cup 237 = .ok (.if_icmp .ne 77, 3) := by decide +kernel
theorem dL_cup_240 : decode cL_cup 240 = .ok (.aload_n 0, 1) := by decide +kernel
theorem dL_cup_241 : decode cL_cup 241 = .ok (.iconst 2, 1) := by decide +kernel
theorem dL_cup_242 : decode cL_cup 242 = .ok (.invokevirtual 10, 3) := by decide +kernel
theorem dL_cup_245 : decode cL_cup 245 = .ok (.iload_n 2, 1) := by decide +kernel
theorem dL_cup_246 : decode cL_cup 246 = .ok (.ishr, 1) := by decide +kernel
theorem dL_cup_247 : decode cL_cup 247 = .ok (.iconst 1, 1) := by decide +kernel
theorem dL_cup_248 : decode cL_cup 248 = .ok (.iand, 1) := by decide +kernel
theorem dL_cup_249 : decode cL_cup 249 = .ok (.iload 6, 2) := by decide +kernel
theorem dL_cup_251 : decode cL_cup 251 = .ok (.ifCond .eq 7, 3) := by decide +kernel
theorem dL_cup_254 : decode cL_cup 254 = .ok (.iconst 1, 1) := by decide +kernel
theorem dL_cup_255 : decode cL_cup 255 = .ok (.goto 4, 3) := by decide +kernel
theorem dL_cup_258 : decode cL_cup 258 = .ok (.iconst 0, 1) := by decide +kernel
theorem dL_cup_259 : decode cL_cup 259 = .ok (.if_icmp .ne 55, 3) := by decide +kernel
theorem dL_cup_262 : decode cL_cup 262 = .ok (.iload 7, 2) := by decide +kernel
theorem dL_cup_264 : decode cL_cup 264 = .ok (.iload_n 3, 1) := by decide +kernel
theorem dL_cup_265 : decode cL_cup 265 = .ok (.invokestatic 25, 3) := by decide +kernel
theorem dL_cup_268 : decode cL_cup 268 = .ok (.if_icmp .lt 46, 3) := by decide +kernel
theorem dL_cup_271 : decode cL_cup 271 = .ok (.iload 7, 2) := by decide +kernel
theorem dL_cup_273 : decode cL_cup 273 = .ok (.iload 4, 2) := by decide +kernel
theorem dL_cup_275 : decode cL_cup 275 = .ok (.if_icmp .gt 39, 3) := by decide +kernel
theorem dL_cup_278 : decode cL_cup 278 = .ok (.iload 6, 2) := by decide +kernel
theorem dL_cup_280 : decode cL_cup 280 = .ok (.ifCond .eq 8, 3) := by decide +kernel
theorem dL_cup_283 : decode cL_cup 283 = .ok (.iload 5, 2) := by decide +kernel
theorem dL_cup_285 : decode cL_cup 285 = .ok (.ifCond .ne 29, 3) := by decide +kernel
theorem dL_cup_288 : decode cL_cup 288 = .ok (.aload_n 0, 1) := by decide +kernel
theorem dL_cup_289 : decode cL_cup 289 = .ok (.iload_n 2, 1) := by decide +kernel
theorem dL_cup_290 : decode cL_cup 290 = .ok (.iconst 3, 1) := by decide +kernel
theorem dL_cup_291 : decode cL_cup 291 = .ok (.invokevirtual 28, 3) := by decide +kernel
theorem dL_cup_294 : decode cL_cup 294 = .ok (.aload_n 0, 1) := by decide +kernel
theorem dL_cup_295 : decode cL_cup 295 = .ok (.iload_n 2, 1) := by decide +kernel
theorem dL_cup_296 : decode cL_cup 296 = .ok (.iconst 4, 1) := by decide +kernel
theorem dL_cup_297 : decode cL_cup 297 = .ok (.invokevirtual 28, 3) := by decide +kernel
theorem dL_cup_300 : decode cL_cup 300 = .ok (.iadd, 1) := by decide +kernel
theorem dL_cup_301 : decode cL_cup 301 = .ok (.aload_n 0, 1) := by decide +kernel
theorem dL_cup_302 : decode cL_cup 302 = .ok (.iload_n 2, 1) := by decide +kernel
theorem dL_cup_303 : decode cL_cup 303 = .ok (.iconst 2, 1) := by decide +kernel
theorem dL_cup_304 : decode cL_cup 304 = .ok (.invokevirtual 28, 3) := by decide +kernel
theorem dL_cup_307 : decode cL_cup 307 = .ok (.if_icmp .gt 7, 3) := by decide +kernel
theorem dL_cup_310 : decode cL_cup 310 = .ok (.iconst 1, 1) := by decide +kernel
theorem dL_cup_311 : decode cL_cup 311 = .ok (.goto 4, 3) := by decide +kernel
theorem dL_cup_314 : decode cL_cup 314 = .ok (.iconst 0, 1) := by decide +kernel
theorem dL_cup_315 : decode cL_cup 315 = .ok (.ireturn, 1) := by decide +kernel
theorem dL_peeled_0 : decode cL_peeled 0 = .ok (.iload_n 1, 1) := by decide +kernel
theorem dL_peeled_1 : decode cL_peeled 1 = .ok (.iconst 1, 1) := by decide +kernel
theorem dL_peeled_2 : decode cL_peeled 2 = .ok (.iload_n 2, 1) := by decide +kernel
theorem dL_peeled_3 : decode cL_peeled 3 = .ok (.ishl, 1) := by decide +kernel
theorem dL_peeled_4 : decode cL_peeled 4 = .ok (.ior, 1) := by decide +kernel
theorem dL_peeled_5 : decode cL_peeled 5 = .ok (.istore_n 3, 1) := by decide +kernel
theorem dL_peeled_6 : decode cL_peeled 6 = .ok (.iconst 1, 1) := by decide +kernel
theorem dL_peeled_7 : decode cL_peeled 7 = .ok (.istore 4, 2) := by decide +kernel
theorem dL_peeled_9 : decode cL_peeled 9 = .ok (.iload 4, 2) := by decide +kernel
theorem dL_peeled_11 : decode cL_peeled 11 = .ok (.ifCond .eq 69, 3) := by decide +kernel
theorem dL_peeled_14 : decode cL_peeled 14 = .ok (.iconst 0, 1) := by decide +kernel
theorem dL_peeled_15 : decode cL_peeled 15 = .ok (.istore 4, 2) := by decide +kernel
theorem dL_peeled_17 : decode cL_peeled 17 = .ok (.iconst 0, 1) := by decide +kernel
theorem dL_peeled_18 : decode cL_peeled 18 = .ok (.istore 5, 2) := by decide +kernel
theorem dL_peeled_20 : decode cL_peeled 20 = .ok (.iload 5, 2) := by decide +kernel
theorem dL_peeled_22 : decode cL_peeled 22 = .ok (.bipush 24, 2) := by decide +kernel
theorem dL_peeled_24 : decode cL_peeled 24 = .ok (.if_icmp .ge 53, 3) := by decide +kernel
theorem dL_peeled_27 : decode cL_peeled 27 = .ok (.iload 4, 2) := by decide +kernel
theorem dL_peeled_29 : decode cL_peeled 29 = .ok (.ifCond .ne 48, 3) := by decide +kernel
theorem dL_peeled_32 : decode cL_peeled 32 = .ok (.aload_n 0, 1) := by decide +kernel
theorem dL_peeled_33 : decode cL_peeled 33 = .ok (.iload 5, 2) := by decide +kernel
theorem dL_peeled_35 : decode cL_peeled 35 = .ok (.iaload, 1) := by decide +kernel
theorem dL_peeled_36 : decode cL_peeled 36 = .ok (.iload_n 3, 1) := by decide +kernel
theorem dL_peeled_37 : decode cL_peeled 37 = .ok (.iconst (-1), 1) := by decide +kernel
theorem dL_peeled_38 : decode cL_peeled 38 = .ok (.ixor, 1) := by decide +kernel
theorem dL_peeled_39 : decode cL_peeled 39 = .ok (.iand, 1) := by decide +kernel
theorem dL_peeled_40 : decode cL_peeled 40 = .ok (.istore 6, 2) := by decide +kernel
theorem dL_peeled_42 : decode cL_peeled 42 = .ok (.aload_n 0, 1) := by decide +kernel
theorem dL_peeled_43 : decode cL_peeled 43 = .ok (.iload 5, 2) := by decide +kernel
theorem dL_peeled_45 : decode cL_peeled 45 = .ok (.iaload, 1) := by decide +kernel
theorem dL_peeled_46 : decode cL_peeled 46 = .ok (.ifCond .eq 25, 3) := by decide +kernel
theorem dL_peeled_49 : decode cL_peeled 49 = .ok (.iload 6, 2) := by decide +kernel
theorem dL_peeled_51 : decode cL_peeled 51 = .ok (.invokestatic 25, 3) := by decide +kernel
theorem dL_peeled_54 : decode cL_peeled 54 = .ok (.iconst 2, 1) := by decide +kernel
theorem dL_peeled_55 : decode cL_peeled 55 = .ok (.if_icmp .ge 16, 3) := by decide +kernel
theorem dL_peeled_58 : decode cL_peeled 58 = .ok (.aload_n 0, 1) := by decide +kernel
theorem dL_peeled_59 : decode cL_peeled 59 = .ok (.iload 5, 2) := by decide +kernel
theorem dL_peeled_61 : decode cL_peeled 61 = .ok (.iconst 0, 1) := by decide +kernel
theorem dL_peeled_62 : decode cL_peeled 62 = .ok (.iastore, 1) := by decide +kernel
theorem dL_peeled_63 : decode cL_peeled 63 = .ok (.iload_n 3, 1) := by decide +kernel
theorem dL_peeled_64 : decode cL_peeled 64 = .ok (.iload 6, 2) := by decide +kernel
theorem dL_peeled_66 : decode cL_peeled 66 = .ok (.ior, 1) := by decide +kernel
theorem dL_peeled_67 : decode cL_peeled 67 = .ok (.istore_n 3, 1) := by decide +kernel
theorem dL_peeled_68 : decode cL_peeled 68 = .ok (.iconst 1, 1) := by decide +kernel
theorem dL_peeled_69 : decode cL_peeled 69 = .ok (.istore 4, 2) := by decide +kernel
theorem dL_peeled_71 : decode cL_peeled 71 = .ok (.iinc 5 1, 3) := by decide +kernel
theorem dL_peeled_74 : decode cL_peeled 74 = .ok (.goto (-54), 3) := by decide +kernel
theorem dL_peeled_77 : decode cL_peeled 77 = .ok (.goto (-68), 3) := by decide +kernel
theorem dL_peeled_80 : decode cL_peeled 80 = .ok (.iload_n 3, 1) := by decide +kernel
theorem dL_peeled_81 : decode cL_peeled 81 = .ok (.ireturn, 1) := by decide +kernel
theorem dL_poured_0 : decode cL_poured 0 = .ok (.aload_n 0, 1) := by decide +kernel
theorem dL_poured_1 : decode cL_poured 1 = .ok (.iload_n 1, 1) := by decide +kernel
theorem dL_poured_2 : decode cL_poured 2 = .ok (.iconst 0, 1) := by decide +kernel
theorem dL_poured_3 : decode cL_poured 3 = .ok (.invokevirtual 28, 3) := by decide +kernel
theorem dL_poured_6 : decode cL_poured 6 = .ok (.istore_n 3, 1) := by decide +kernel
theorem dL_poured_7 : decode cL_poured 7 = .ok (.aload_n 0, 1) := by decide +kernel
theorem dL_poured_8 : decode cL_poured 8 = .ok (.iload_n 1, 1) := by decide +kernel
theorem dL_poured_9 : decode cL_poured 9 = .ok (.iconst 1, 1) := by decide +kernel
theorem dL_poured_10 : decode cL_poured 10 = .ok (.invokevirtual 28, 3) := by decide +kernel
theorem dL_poured_13 : decode cL_poured 13 = .ok (.istore 4, 2) := by decide +kernel
theorem dL_poured_15 : decode cL_poured 15 = .ok (.aload_n 0, 1) := by decide +kernel
theorem dL_poured_16 : decode cL_poured 16 = .ok (.iload_n 1, 1) := by decide +kernel
theorem dL_poured_17 : decode cL_poured 17 = .ok (.iconst 2, 1) := by decide +kernel
theorem dL_poured_18 : decode cL_poured 18 = .ok (.invokevirtual 28, 3) := by decide +kernel
theorem dL_poured_21 : decode cL_poured 21 = .ok (.istore 5, 2) := by decide +kernel
theorem dL_poured_23 : decode cL_poured 23 = .ok (.aload_n 0, 1) := by decide +kernel
theorem dL_poured_24 : decode cL_poured 24 = .ok (.iload_n 1, 1) := by decide +kernel
theorem dL_poured_25 : decode cL_poured 25 = .ok (.iconst 3, 1) := by decide +kernel
theorem dL_poured_26 : decode cL_poured 26 = .ok (.invokevirtual 28, 3) := by decide +kernel
theorem dL_poured_29 : decode cL_poured 29 = .ok (.istore 6, 2) := by decide +kernel
theorem dL_poured_31 : decode cL_poured 31 = .ok (.aload_n 0, 1) := by decide +kernel
theorem dL_poured_32 : decode cL_poured 32 = .ok (.iload_n 1, 1) := by decide +kernel
theorem dL_poured_33 : decode cL_poured 33 = .ok (.iconst 4, 1) := by decide +kernel
theorem dL_poured_34 : decode cL_poured 34 = .ok (.invokevirtual 28, 3) := by decide +kernel
theorem dL_poured_37 : decode cL_poured 37 = .ok (.istore 7, 2) := by decide +kernel
theorem dL_poured_39 : decode cL_poured 39 = .ok (.aload_n 0, 1) := by decide +kernel
theorem dL_poured_40 : decode cL_poured 40 = .ok (.iconst 3, 1) := by decide +kernel
theorem dL_poured_41 : decode cL_poured 41 = .ok (.invokevirtual 10, 3) := by decide +kernel
theorem dL_poured_44 : decode cL_poured 44 = .ok (.istore 8, 2) := by decide +kernel
theorem dL_poured_46 : decode cL_poured 46 = .ok (.aload_n 0, 1) := by decide +kernel
theorem dL_poured_47 : decode cL_poured 47 = .ok (.iload_n 1, 1) := by decide +kernel
theorem dL_poured_48 : decode cL_poured 48 = .ok (.iload_n 2, 1) := by decide +kernel
theorem dL_poured_49 : decode cL_poured 49 = .ok (.invokevirtual 38, 3) := by decide +kernel
theorem dL_poured_52 : decode cL_poured 52 = .ok (.istore 9, 2) := by decide +kernel
theorem dL_poured_54 : decode cL_poured 54 = .ok (.aload_n 0, 1) := by decide +kernel
theorem dL_poured_55 : decode cL_poured 55 = .ok (.iload_n 2, 1) := by decide +kernel
theorem dL_poured_56 : decode cL_poured 56 = .ok (.iconst 3, 1) := by decide +kernel
theorem dL_poured_57 : decode cL_poured 57 = .ok (.invokevirtual 21, 3) := by decide +kernel
theorem dL_poured_60 : decode cL_poured 60 = .ok (.iconst 1, 1) := by decide +kernel
theorem dL_poured_61 : decode cL_poured 61 = .ok (.if_icmp .ne 7, 3) := by decide +kernel
theorem dL_poured_64 : decode cL_poured 64 = .ok (.iconst 1, 1) := by decide +kernel
theorem dL_poured_65 : decode cL_poured 65 = .ok (.goto 4, 3) := by decide +kernel
theorem dL_poured_68 : decode cL_poured 68 = .ok (.iconst 0, 1) := by decide +kernel
theorem dL_poured_69 : decode cL_poured 69 = .ok (.istore 10, 2) := by decide +kernel
theorem dL_poured_71 : decode cL_poured 71 = .ok (.aload_n 0, 1) := by decide +kernel
theorem dL_poured_72 : decode cL_poured 72 = .ok (.iload_n 2, 1) := by decide +kernel
theorem dL_poured_73 : decode cL_poured 73 = .ok (.iconst 1, 1) := by decide +kernel
theorem dL_poured_74 : decode cL_poured 74 = .ok (.invokevirtual 21, 3) := by decide +kernel
theorem dL_poured_77 : decode cL_poured 77 = .ok (.iload_n 3, 1) := by decide +kernel
theorem dL_poured_78 : decode cL_poured 78 = .ok (.iconst (-1), 1) := by decide +kernel
theorem dL_poured_79 : decode cL_poured 79 = .ok (.ixor, 1) := by decide +kernel
theorem dL_poured_80 : decode cL_poured 80 = .ok (.iand, 1) := by decide +kernel
theorem dL_poured_81 : decode cL_poured 81 = .ok (.istore 11, 2) := by decide +kernel
theorem dL_poured_83 : decode cL_poured 83 = .ok (.bipush 25, 2) := by decide +kernel
theorem dL_poured_85 : decode cL_poured 85 = .ok (.newarray .int, 2) := by decide +kernel
theorem dL_poured_87 : decode cL_poured 87 = .ok (.astore 12, 2) := by decide +kernel
theorem dL_poured_89 : decode cL_poured 89 = .ok (.iconst 0, 1) := by decide +kernel
theorem dL_poured_90 : decode cL_poured 90 = .ok (.istore 13, 2) := by decide +kernel
theorem dL_poured_92 : decode cL_poured 92 = .ok (.iload 13, 2) := by decide +kernel
theorem dL_poured_94 : decode cL_poured 94 = .ok (.iload 4, 2) := by decide +kernel
theorem dL_poured_96 : decode cL_poured 96 = .ok (.if_icmp .ge 22, 3) := by decide +kernel
theorem dL_poured_99 : decode cL_poured 99 = .ok (.aload 12, 2) := by decide +kernel
theorem dL_poured_101 : decode cL_poured 101 = .ok (.iload 13, 2) := by decide +kernel
theorem dL_poured_103 : decode cL_poured 103 = .ok (.aload_n 0, 1) := by decide +kernel
theorem dL_poured_104 : decode cL_poured 104 = .ok (.iload_n 1, 1) := by decide +kernel
theorem dL_poured_105 : decode cL_poured 105 = .ok (.iload 13, 2) := by decide +kernel
theorem dL_poured_107 : decode cL_poured 107 = .ok (.iconst 0, 1) := by decide +kernel
theorem dL_poured_108 : decode cL_poured 108 = .ok (.invokevirtual 34, 3) := by decide +kernel
theorem dL_poured_111 : decode cL_poured 111 = .ok (.iastore, 1) := by decide +kernel
theorem dL_poured_112 : decode cL_poured 112 = .ok (.iinc 13 1, 3) := by decide +kernel
theorem dL_poured_115 : decode cL_poured 115 = .ok (.goto (-23), 3) := by decide +kernel
theorem dL_poured_118 : decode cL_poured 118 = .ok (.iload_n 3, 1) := by decide +kernel
theorem dL_poured_119 : decode cL_poured 119 = .ok (.istore 13, 2) := by decide +kernel
theorem dL_poured_121 : decode cL_poured 121 = .ok (.iload 10, 2) := by decide +kernel
theorem dL_poured_123 : decode cL_poured 123 = .ok (.ifCond .eq 7, 3) := by decide +kernel
theorem dL_poured_126 : decode cL_poured 126 = .ok (.iconst 0, 1) := by decide +kernel
theorem dL_poured_127 : decode cL_poured 127 = .ok (.goto 4, 3) := by decide +kernel
theorem dL_poured_130 : decode cL_poured 130 = .ok (.iconst 1, 1) := by decide +kernel
theorem dL_poured_131 : decode cL_poured 131 = .ok (.istore 14, 2) := by decide +kernel
theorem dL_poured_133 : decode cL_poured 133 = .ok (.iload 10, 2) := by decide +kernel
theorem dL_poured_135 : decode cL_poured 135 = .ok (.ifCond .ne 58, 3) := by decide +kernel
theorem dL_poured_138 : decode cL_poured 138 = .ok (.iload 11, 2) := by decide +kernel
theorem dL_poured_140 : decode cL_poured 140 = .ok (.invokestatic 25, 3) := by decide +kernel
theorem dL_poured_143 : decode cL_poured 143 = .ok (.iconst 1, 1) := by decide +kernel
theorem dL_poured_144 : decode cL_poured 144 = .ok (.if_icmp .ne 49, 3) := by decide +kernel
theorem dL_poured_147 : decode cL_poured 147 = .ok (.iconst 0, 1) := by decide +kernel
theorem dL_poured_148 : decode cL_poured 148 = .ok (.istore 15, 2) := by decide +kernel
theorem dL_poured_150 : decode cL_poured 150 = .ok (.iload 11, 2) := by decide +kernel
theorem dL_poured_152 : decode cL_poured 152 = .ok (.iload 15, 2) := by decide +kernel
theorem dL_poured_154 : decode cL_poured 154 = .ok (.ishr, 1) := by decide +kernel
theorem dL_poured_155 : decode cL_poured 155 = .ok (.iconst 1, 1) := by decide +kernel
theorem dL_poured_156 : decode cL_poured 156 = .ok (.iand, 1) := by decide +kernel
theorem dL_poured_157 : decode cL_poured 157 = .ok (.ifCond .ne 9, 3) := by decide +kernel
theorem dL_poured_160 : decode cL_poured 160 = .ok (.iinc 15 1, 3) := by decide +kernel
theorem dL_poured_163 : decode cL_poured 163 = .ok (.goto (-13), 3) := by decide +kernel
theorem dL_poured_166 : decode cL_poured 166 = .ok (.aload 12, 2) := by decide +kernel
theorem dL_poured_168 : decode cL_poured 168 = .ok (.iload_n 3, 1) := by decide +kernel
theorem dL_poured_169 : decode cL_poured 169 = .ok (.iload 15, 2) := by decide +kernel
theorem dL_poured_171 : decode cL_poured 171 = .ok (.invokestatic 41, 3) := by decide +kernel
theorem dL_poured_174 : decode cL_poured 174 = .ok (.istore 13, 2) := by decide +kernel
theorem dL_poured_176 : decode cL_poured 176 = .ok (.iconst 2, 1) := by decide +kernel
theorem dL_poured_177 : decode cL_poured 177 = .ok (.iload 13, 2) := by decide +kernel
theorem dL_poured_179 : decode cL_poured 179 = .ok (.invokestatic 25, 3) := by decide +kernel
theorem dL_poured_182 : decode cL_poured 182 = .ok (.iadd, 1) := by decide +kernel
theorem dL_poured_183 : decode cL_poured 183 = .ok (.iload_n 3, 1) := by decide +kernel
theorem dL_poured_184 : decode cL_poured 184 = .ok (.invokestatic 25, 3) := by decide +kernel
theorem dL_poured_187 : decode cL_poured 187 = .ok (.isub, 1) := by decide +kernel
theorem dL_poured_188 : decode cL_poured 188 = .ok (.istore 14, 2) := by decide +kernel
theorem dL_poured_190 : decode cL_poured 190 = .ok (.goto 30, 3) := by decide +kernel
theorem dL_poured_193 : decode cL_poured 193 = .ok (.iload 10, 2) := by decide +kernel
theorem dL_poured_195 : decode cL_poured 195 = .ok (.ifCond .ne 25, 3) := by decide +kernel
theorem dL_poured_198 : decode cL_poured 198 = .ok (.iload 11, 2) := by decide +kernel
theorem dL_poured_200 : decode cL_poured 200 = .ok (.ifCond .eq 20, 3) := by decide +kernel
theorem dL_poured_203 : decode cL_poured 203 = .ok (.iload 4, 2) := by decide +kernel
theorem dL_poured_205 : decode cL_poured 205 = .ok (.bipush 24, 2) := by decide +kernel
theorem dL_poured_207 : decode cL_poured 207 = .ok (.if_icmp .ge 13, 3) := by decide +kernel
theorem dL_poured_210 : decode cL_poured 210 = .ok (.aload 12, 2) := by decide +kernel
theorem dL_poured_212 : decode cL_poured 212 = .ok (.iload 4, 2) := by decide +kernel
theorem dL_poured_214 : decode cL_poured 214 = .ok (.iload 11, 2) := by decide +kernel
theorem dL_poured_216 : decode cL_poured 216 = .ok (.iastore, 1) := by decide +kernel
theorem dL_poured_217 : decode cL_poured 217 = .ok (.iconst 2, 1) := by decide +kernel
theorem dL_poured_218 : decode cL_poured 218 = .ok (.istore 14, 2) := by decide +kernel
theorem dL_poured_220 : decode cL_poured 220 = .ok (.aload_n 0, 1) := by decide +kernel
theorem dL_poured_221 : decode cL_poured 221 = .ok (.iload_n 1, 1) := by decide +kernel
theorem dL_poured_222 : decode cL_poured 222 = .ok (.iload_n 2, 1) := by decide +kernel
theorem dL_poured_223 : decode cL_poured 223 = .ok (.iconst 1, 1) := by decide +kernel
theorem dL_poured_224 : decode cL_poured 224 = .ok (.invokevirtual 45, 3) := by decide +kernel
theorem dL_poured_227 : decode cL_poured 227 = .ok (.istore 15, 2) := by decide +kernel
theorem dL_poured_229 : decode cL_poured 229 = .ok (.iload 9, 2) := by decide +kernel
theorem dL_poured_231 : decode cL_poured 231 = .ok (.iload 14, 2) := by decide +kernel
theorem dL_poured_233 : decode cL_poured 233 = .ok (.if_icmp .ne 41, 3) := by decide +kernel
theorem dL_poured_236 : decode cL_poured 236 = .ok (.iload 15, 2) := by decide +kernel
theorem dL_poured_238 : decode cL_poured 238 = .ok (.iload 13, 2) := by decide +kernel
theorem dL_poured_240 : decode cL_poured 240 = .ok (.invokestatic 25, 3) := by decide +kernel
theorem dL_poured_243 : decode cL_poured 243 = .ok (.iload_n 3, 1) := by decide +kernel
theorem dL_poured_244 : decode cL_poured 244 = .ok (.invokestatic 25, 3) := by decide +kernel
theorem dL_poured_247 : decode cL_poured 247 = .ok (.isub, 1) := by decide +kernel
theorem dL_poured_248 : decode cL_poured 248 = .ok (.if_icmp .ne 26, 3) := by decide +kernel
theorem dL_poured_251 : decode cL_poured 251 = .ok (.aload_n 0, 1) := by decide +kernel
theorem dL_poured_252 : decode cL_poured 252 = .ok (.iload_n 1, 1) := by decide +kernel
theorem dL_poured_253 : decode cL_poured 253 = .ok (.iconst 0, 1) := by decide +kernel
theorem dL_poured_254 : decode cL_poured 254 = .ok (.invokevirtual 28, 3) := by decide +kernel
theorem dL_poured_257 : decode cL_poured 257 = .ok (.iload 13, 2) := by decide +kernel
theorem dL_poured_259 : decode cL_poured 259 = .ok (.if_icmp .ne 15, 3) := by decide +kernel
theorem dL_poured_262 : decode cL_poured 262 = .ok (.aload_n 0, 1) := by decide +kernel
theorem dL_poured_263 : decode cL_poured 263 = .ok (.iconst 3, 1) := by decide +kernel
theorem dL_poured_264 : decode cL_poured 264 = .ok (.invokevirtual 10, 3) := by decide +kernel
theorem dL_poured_267 : decode cL_poured 267 = .ok (.iload 8, 2) := by decide +kernel
theorem dL_poured_269 : decode cL_poured 269 = .ok (.iconst 1, 1) := by decide +kernel
theorem dL_poured_270 : decode cL_poured 270 = .ok (.iadd, 1) := by decide +kernel
theorem dL_poured_271 : decode cL_poured 271 = .ok (.if_icmp .eq 5, 3) := by decide +kernel
theorem dL_poured_274 : decode cL_poured 274 = .ok (.iconst 0, 1) := by decide +kernel
theorem dL_poured_275 : decode cL_poured 275 = .ok (.ireturn, 1) := by decide +kernel
theorem dL_poured_276 : decode cL_poured 276 = .ok (.iconst 0, 1) := by decide +kernel
theorem dL_poured_277 : decode cL_poured 277 = .ok (.istore 16, 2) := by decide +kernel
theorem dL_poured_279 : decode cL_poured 279 = .ok (.iconst 0, 1) := by decide +kernel
theorem dL_poured_280 : decode cL_poured 280 = .ok (.istore 17, 2) := by decide +kernel
theorem dL_poured_282 : decode cL_poured 282 = .ok (.iload 17, 2) := by decide +kernel
theorem dL_poured_284 : decode cL_poured 284 = .ok (.bipush 25, 2) := by decide +kernel
theorem dL_poured_286 : decode cL_poured 286 = .ok (.if_icmp .ge 44, 3) := by decide +kernel
theorem dL_poured_289 : decode cL_poured 289 = .ok (.aload 12, 2) := by decide +kernel
theorem dL_poured_291 : decode cL_poured 291 = .ok (.iload 17, 2) := by decide +kernel
theorem dL_poured_293 : decode cL_poured 293 = .ok (.iaload, 1) := by decide +kernel
theorem dL_poured_294 : decode cL_poured 294 = .ok (.iload 13, 2) := by decide +kernel
theorem dL_poured_296 : decode cL_poured 296 = .ok (.iconst (-1), 1) := by decide +kernel
theorem dL_poured_297 : decode cL_poured 297 = .ok (.ixor, 1) := by decide +kernel
theorem dL_poured_298 : decode cL_poured 298 = .ok (.iand, 1) := by decide +kernel
theorem dL_poured_299 : decode cL_poured 299 = .ok (.istore 18, 2) := by decide +kernel
theorem dL_poured_301 : decode cL_poured 301 = .ok (.iload 18, 2) := by decide +kernel
theorem dL_poured_303 : decode cL_poured 303 = .ok (.ifCond .eq 21, 3) := by decide +kernel
theorem dL_poured_306 : decode cL_poured 306 = .ok (.aload_n 0, 1) := by decide +kernel
theorem dL_poured_307 : decode cL_poured 307 = .ok (.iload_n 1, 1) := by decide +kernel
theorem dL_poured_308 : decode cL_poured 308 = .ok (.iload 16, 2) := by decide +kernel
theorem dL_poured_310 : decode cL_poured 310 = .ok (.iconst 0, 1) := by decide +kernel
theorem dL_poured_311 : decode cL_poured 311 = .ok (.invokevirtual 34, 3) := by decide +kernel
theorem dL_poured_314 : decode cL_poured 314 = .ok (.iload 18, 2) := by decide +kernel
theorem dL_poured_316 : decode cL_poured 316 = .ok (.if_icmp .eq 5, 3) := by decide +kernel
theorem dL_poured_319 : decode cL_poured 319 = .ok (.iconst 0, 1) := by decide +kernel
theorem dL_poured_320 : decode cL_poured 320 = .ok (.ireturn, 1) := by decide +kernel
theorem dL_poured_321 : decode cL_poured 321 = .ok (.iinc 16 1, 3) := by decide +kernel
theorem dL_poured_324 : decode cL_poured 324 = .ok (.iinc 17 1, 3) := by decide +kernel
theorem dL_poured_327 : decode cL_poured 327 = .ok (.goto (-45), 3) := by decide +kernel
theorem dL_poured_330 : decode cL_poured 330 = .ok (.aload_n 0, 1) := by decide +kernel
theorem dL_poured_331 : decode cL_poured 331 = .ok (.iload_n 1, 1) := by decide +kernel
theorem dL_poured_332 : decode cL_poured 332 = .ok (.iconst 1, 1) := by decide +kernel
theorem dL_poured_333 : decode cL_poured 333 = .ok (.invokevirtual 28, 3) := by decide +kernel
theorem dL_poured_336 : decode cL_poured 336 = .ok (.iload 16, 2) := by decide +kernel
theorem dL_poured_338 : decode cL_poured 338 = .ok (.if_icmp .ne 65, 3) := by decide +kernel
theorem dL_poured_341 : decode cL_poured 341 = .ok (.aload_n 0, 1) := by decide +kernel
theorem dL_poured_342 : decode cL_poured 342 = .ok (.iload_n 1, 1) := by decide +kernel
theorem dL_poured_343 : decode cL_poured 343 = .ok (.iconst 2, 1) := by decide +kernel
theorem dL_poured_344 : decode cL_poured 344 = .ok (.invokevirtual 28, 3) := by decide +kernel
theorem dL_poured_347 : decode cL_poured 347 = .ok (.iload 5, 2) := by decide +kernel
theorem dL_poured_349 : decode cL_poured 349 = .ok (.iconst 1, 1) := by decide +kernel
theorem dL_poured_350 : decode cL_poured 350 = .ok (.iadd, 1) := by decide +kernel
theorem dL_poured_351 : decode cL_poured 351 = .ok (.if_icmp .ne 52, 3) := by decide +kernel
theorem dL_poured_354 : decode cL_poured 354 = .ok (.aload_n 0, 1) := by decide +kernel
theorem dL_poured_355 : decode cL_poured 355 = .ok (.iload_n 1, 1) := by decide +kernel
theorem dL_poured_356 : decode cL_poured 356 = .ok (.iconst 3, 1) := by decide +kernel
theorem dL_poured_357 : decode cL_poured 357 = .ok (.invokevirtual 28, 3) := by decide +kernel
theorem dL_poured_360 : decode cL_poured 360 = .ok (.iload 6, 2) := by decide +kernel
theorem dL_poured_362 : decode cL_poured 362 = .ok (.iload 10, 2) := by decide +kernel
theorem dL_poured_364 : decode cL_poured 364 = .ok (.ifCond .eq 7, 3) := by decide +kernel
theorem dL_poured_367 : decode cL_poured 367 = .ok (.iconst 1, 1) := by decide +kernel
theorem dL_poured_368 : decode cL_poured 368 = .ok (.goto 4, 3) := by decide +kernel
theorem dL_poured_371 : decode cL_poured 371 = .ok (.iconst 0, 1) := by decide +kernel
theorem dL_poured_372 : decode cL_poured 372 = .ok (.iadd, 1) := by decide +kernel
theorem dL_poured_373 : decode cL_poured 373 = .ok (.if_icmp .ne 30, 3) := by decide +kernel
theorem dL_poured_376 : decode cL_poured 376 = .ok (.aload_n 0, 1) := by decide +kernel
theorem dL_poured_377 : decode cL_poured 377 = .ok (.iload_n 1, 1) := by decide +kernel
theorem dL_poured_378 : decode cL_poured 378 = .ok (.iconst 4, 1) := by decide +kernel
theorem dL_poured_379 : decode cL_poured 379 = .ok (.invokevirtual 28, 3) := by decide +kernel
theorem dL_poured_382 : decode cL_poured 382 = .ok (.iload 7, 2) := by decide +kernel
theorem dL_poured_384 : decode cL_poured 384 = .ok (.iload 14, 2) := by decide +kernel
theorem dL_poured_386 : decode cL_poured 386 = .ok (.iconst 1, 1) := by decide +kernel
theorem dL_poured_387 : decode cL_poured 387 = .ok (.if_icmp .ne 7, 3) := by decide +kernel
theorem dL_poured_390 : decode cL_poured 390 = .ok (.iconst 1, 1) := by decide +kernel
theorem dL_poured_391 : decode cL_poured 391 = .ok (.goto 4, 3) := by decide +kernel
theorem dL_poured_394 : decode cL_poured 394 = .ok (.iconst 0, 1) := by decide +kernel
theorem dL_poured_395 : decode cL_poured 395 = .ok (.iadd, 1) := by decide +kernel
theorem dL_poured_396 : decode cL_poured 396 = .ok (.if_icmp .ne 7, 3) := by decide +kernel
theorem dL_poured_399 : decode cL_poured 399 = .ok (.iconst 1, 1) := by decide +kernel
theorem dL_poured_400 : decode cL_poured 400 = .ok (.goto 4, 3) := by decide +kernel
theorem dL_poured_403 : decode cL_poured 403 = .ok (.iconst 0, 1) := by decide +kernel
theorem dL_poured_404 : decode cL_poured 404 = .ok (.ireturn, 1) := by decide +kernel
theorem dL_act_0 : decode cL_act 0 = .ok (.iload_n 2, 1) := by decide +kernel
theorem dL_act_1 : decode cL_act 1 = .ok (.iconst 4, 1) := by decide +kernel
theorem dL_act_2 : decode cL_act 2 = .ok (.ishr, 1) := by decide +kernel
theorem dL_act_3 : decode cL_act 3 = .ok (.iload_n 1, 1) := by decide +kernel
theorem dL_act_4 : decode cL_act 4 = .ok (.invokestatic 48, 3) := by decide +kernel
theorem dL_act_7 : decode cL_act 7 = .ok (.istore 4, 2) := by decide +kernel
theorem dL_act_9 : decode cL_act 9 = .ok (.iload_n 2, 1) := by decide +kernel
theorem dL_act_10 : decode cL_act 10 = .ok (.bipush 14, 2) := by decide +kernel
theorem dL_act_12 : decode cL_act 12 = .ok (.invokestatic 48, 3) := by decide +kernel
theorem dL_act_15 : decode cL_act 15 = .ok (.istore 5, 2) := by decide +kernel
theorem dL_act_17 : decode cL_act 17 = .ok (.iload 5, 2) := by decide +kernel
theorem dL_act_19 : decode cL_act 19 = .ok (.ifCond .ne 77, 3) := by decide +kernel
theorem dL_act_22 : decode cL_act 22 = .ok (.iload_n 3, 1) := by decide +kernel
theorem dL_act_23 : decode cL_act 23 = .ok (.iconst 2, 1) := by decide +kernel
theorem dL_act_24 : decode cL_act 24 = .ok (.invokestatic 48, 3) := by decide +kernel
theorem dL_act_27 : decode cL_act 27 = .ok (.istore 6, 2) := by decide +kernel
theorem dL_act_29 : decode cL_act 29 = .ok (.aload_n 0, 1) := by decide +kernel
theorem dL_act_30 : decode cL_act 30 = .ok (.iconst 4, 1) := by decide +kernel
theorem dL_act_31 : decode cL_act 31 = .ok (.iload 6, 2) := by decide +kernel
theorem dL_act_33 : decode cL_act 33 = .ok (.iadd, 1) := by decide +kernel
theorem dL_act_34 : decode cL_act 34 = .ok (.invokevirtual 10, 3) := by decide +kernel
theorem dL_act_37 : decode cL_act 37 = .ok (.istore 7, 2) := by decide +kernel
theorem dL_act_39 : decode cL_act 39 = .ok (.iload 6, 2) := by decide +kernel
theorem dL_act_41 : decode cL_act 41 = .ok (.ifCond .ne 13, 3) := by decide +kernel
theorem dL_act_44 : decode cL_act 44 = .ok (.iload_n 3, 1) := by decide +kernel
theorem dL_act_45 : decode cL_act 45 = .ok (.iconst 2, 1) := by decide +kernel
theorem dL_act_46 : decode cL_act 46 = .ok (.ishr, 1) := by decide +kernel
theorem dL_act_47 : decode cL_act 47 = .ok (.iconst 3, 1) := by decide +kernel
theorem dL_act_48 : decode cL_act 48 = .ok (.invokestatic 48, 3) := by decide +kernel
theorem dL_act_51 : decode cL_act 51 = .ok (.goto 11, 3) := by decide +kernel
theorem dL_act_54 : decode cL_act 54 = .ok (.iload_n 3, 1) := by decide +kernel
theorem dL_act_55 : decode cL_act 55 = .ok (.iconst 2, 1) := by decide +kernel
theorem dL_act_56 : decode cL_act 56 = .ok (.ishr, 1) := by decide +kernel
theorem dL_act_57 : decode cL_act 57 = .ok (.bipush 60, 2) := by decide +kernel
theorem dL_act_59 : decode cL_act 59 = .ok (.invokestatic 48, 3) := by decide +kernel
theorem dL_act_62 : decode cL_act 62 = .ok (.istore 8, 2) := by decide +kernel
theorem dL_act_64 : decode cL_act 64 = .ok (.aload_n 0, 1) := by decide +kernel
theorem dL_act_65 : decode cL_act 65 = .ok (.iload 6, 2) := by decide +kernel
theorem dL_act_67 : decode cL_act 67 = .ok (.iload 8, 2) := by decide +kernel
theorem dL_act_69 : decode cL_act 69 = .ok (.invokevirtual 51, 3) := by decide +kernel
theorem dL_act_72 : decode cL_act 72 = .ok (.iload 7, 2) := by decide +kernel
theorem dL_act_74 : decode cL_act 74 = .ok (.if_icmp .ne 20, 3) := by decide +kernel
theorem dL_act_77 : decode cL_act 77 = .ok (.aload_n 0, 1) := by decide +kernel
theorem dL_act_78 : decode cL_act 78 = .ok (.iconst 4, 1) := by decide +kernel
theorem dL_act_79 : decode cL_act 79 = .ok (.iload 6, 2) := by decide +kernel
theorem dL_act_81 : decode cL_act 81 = .ok (.iadd, 1) := by decide +kernel
theorem dL_act_82 : decode cL_act 82 = .ok (.invokevirtual 10, 3) := by decide +kernel
theorem dL_act_85 : decode cL_act 85 = .ok (.iload 8, 2) := by decide +kernel
theorem dL_act_87 : decode cL_act 87 = .ok (.if_icmp .ne 7, 3) := by decide +kernel
theorem dL_act_90 : decode cL_act 90 = .ok (.iconst 1, 1) := by decide +kernel
theorem dL_act_91 : decode cL_act 91 = .ok (.goto 4, 3) := by decide +kernel
theorem dL_act_94 : decode cL_act 94 = .ok (.iconst 0, 1) := by decide +kernel
theorem dL_act_95 : decode cL_act 95 = .ok (.ireturn, 1) := by decide +kernel
theorem dL_act_96 : decode cL_act 96 = .ok (.iload 5, 2) := by decide +kernel
theorem dL_act_98 : decode cL_act 98 = .ok (.iconst 1, 1) := by decide +kernel
theorem dL_act_99 : decode cL_act 99 = .ok (.if_icmp .ne 80, 3) := by decide +kernel
theorem dL_act_102 : decode cL_act 102 = .ok (.iload_n 3, 1) := by decide +kernel
theorem dL_act_103 : decode cL_act 103 = .ok (.iconst 4, 1) := by decide +kernel
theorem dL_act_104 : decode cL_act 104 = .ok (.invokestatic 48, 3) := by decide +kernel
theorem dL_act_107 : decode cL_act 107 = .ok (.ifCond .ne 72, 3) := by decide +kernel
theorem dL_act_110 : decode cL_act 110 = .ok (.aload_n 0, 1) := by decide +kernel
theorem dL_act_111 : decode cL_act 111 = .ok (.iload 4, 2) := by decide +kernel
theorem dL_act_113 : decode cL_act 113 = .ok (.iconst 0, 1) := by decide +kernel
theorem dL_act_114 : decode cL_act 114 = .ok (.invokevirtual 28, 3) := by decide +kernel
theorem dL_act_117 : decode cL_act 117 = .ok (.invokestatic 25, 3) := by decide +kernel
theorem dL_act_120 : decode cL_act 120 = .ok (.istore 6, 2) := by decide +kernel
theorem dL_act_122 : decode cL_act 122 = .ok (.aload_n 0, 1) := by decide +kernel
theorem dL_act_123 : decode cL_act 123 = .ok (.iload 4, 2) := by decide +kernel
theorem dL_act_125 : decode cL_act 125 = .ok (.invokevirtual 54, 3) := by decide +kernel
theorem dL_act_128 : decode cL_act 128 = .ok (.iload 6, 2) := by decide +kernel
theorem dL_act_130 : decode cL_act 130 = .ok (.if_icmp .ne 47, 3) := by decide +kernel
theorem dL_act_133 : decode cL_act 133 = .ok (.aload_n 0, 1) := by decide +kernel
theorem dL_act_134 : decode cL_act 134 = .ok (.iload 4, 2) := by decide +kernel
theorem dL_act_136 : decode cL_act 136 = .ok (.iconst 0, 1) := by decide +kernel
theorem dL_act_137 : decode cL_act 137 = .ok (.invokevirtual 28, 3) := by decide +kernel
theorem dL_act_140 : decode cL_act 140 = .ok (.ifCond .ne 37, 3) := by decide +kernel
theorem dL_act_143 : decode cL_act 143 = .ok (.aload_n 0, 1) := by decide +kernel
theorem dL_act_144 : decode cL_act 144 = .ok (.iload 4, 2) := by decide +kernel
theorem dL_act_146 : decode cL_act 146 = .ok (.iconst 1, 1) := by decide +kernel
theorem dL_act_147 : decode cL_act 147 = .ok (.invokevirtual 28, 3) := by decide +kernel
theorem dL_act_150 : decode cL_act 150 = .ok (.ifCond .ne 27, 3) := by decide +kernel
theorem dL_act_153 : decode cL_act 153 = .ok (.aload_n 0, 1) := by decide +kernel
theorem dL_act_154 : decode cL_act 154 = .ok (.iload 4, 2) := by decide +kernel
theorem dL_act_156 : decode cL_act 156 = .ok (.iconst 2, 1) := by decide +kernel
theorem dL_act_157 : decode cL_act 157 = .ok (.invokevirtual 28, 3) := by decide +kernel
theorem dL_act_160 : decode cL_act 160 = .ok (.ifCond .ne 17, 3) := by decide +kernel
theorem dL_act_163 : decode cL_act 163 = .ok (.aload_n 0, 1) := by decide +kernel
theorem dL_act_164 : decode cL_act 164 = .ok (.iload 4, 2) := by decide +kernel
theorem dL_act_166 : decode cL_act 166 = .ok (.iconst 4, 1) := by decide +kernel
theorem dL_act_167 : decode cL_act 167 = .ok (.invokevirtual 28, 3) := by decide +kernel
theorem dL_act_170 : decode cL_act 170 = .ok (.ifCond .ne 7, 3) := by decide +kernel
theorem dL_act_173 : decode cL_act 173 = .ok (.iconst 1, 1) := by decide +kernel
theorem dL_act_174 : decode cL_act 174 = .ok (.goto 4, 3) := by decide +kernel
theorem dL_act_177 : decode cL_act 177 = .ok (.iconst 0, 1) := by decide +kernel
theorem dL_act_178 : decode cL_act 178 = .ok (.ireturn, 1) := by decide +kernel
theorem dL_act_179 : decode cL_act 179 = .ok (.iload 5, 2) := by decide +kernel
theorem dL_act_181 : decode cL_act 181 = .ok (.iconst 2, 1) := by decide +kernel
theorem dL_act_182 : decode cL_act 182 = .ok (.if_icmp .ne 82, 3) := by decide +kernel
theorem dL_act_185 : decode cL_act 185 = .ok (.aload_n 0, 1) := by decide +kernel
theorem dL_act_186 : decode cL_act 186 = .ok (.iload 4, 2) := by decide +kernel
theorem dL_act_188 : decode cL_act 188 = .ok (.iconst 0, 1) := by decide +kernel
theorem dL_act_189 : decode cL_act 189 = .ok (.invokevirtual 28, 3) := by decide +kernel
theorem dL_act_192 : decode cL_act 192 = .ok (.invokestatic 25, 3) := by decide +kernel
theorem dL_act_195 : decode cL_act 195 = .ok (.istore 6, 2) := by decide +kernel
theorem dL_act_197 : decode cL_act 197 = .ok (.aload_n 0, 1) := by decide +kernel
theorem dL_act_198 : decode cL_act 198 = .ok (.iload 4, 2) := by decide +kernel
theorem dL_act_200 : decode cL_act 200 = .ok (.bipush 6, 2) := by decide +kernel
theorem dL_act_202 : decode cL_act 202 = .ok (.invokevirtual 28, 3) := by decide +kernel
theorem dL_act_205 : decode cL_act 205 = .ok (.istore 7, 2) := by decide +kernel
theorem dL_act_207 : decode cL_act 207 = .ok (.aload_n 0, 1) := by decide +kernel
theorem dL_act_208 : decode cL_act 208 = .ok (.iload 4, 2) := by decide +kernel
theorem dL_act_210 : decode cL_act 210 = .ok (.invokevirtual 57, 3) := by decide +kernel
theorem dL_act_213 : decode cL_act 213 = .ok (.iload 7, 2) := by decide +kernel
theorem dL_act_215 : decode cL_act 215 = .ok (.iload 6, 2) := by decide +kernel
theorem dL_act_217 : decode cL_act 217 = .ok (.isub, 1) := by decide +kernel
theorem dL_act_218 : decode cL_act 218 = .ok (.if_icmp .ne 44, 3) := by decide +kernel
theorem dL_act_221 : decode cL_act 221 = .ok (.aload_n 0, 1) := by decide +kernel
theorem dL_act_222 : decode cL_act 222 = .ok (.iload 4, 2) := by decide +kernel
theorem dL_act_224 : decode cL_act 224 = .ok (.iconst 0, 1) := by decide +kernel
theorem dL_act_225 : decode cL_act 225 = .ok (.invokevirtual 28, 3) := by decide +kernel
theorem dL_act_228 : decode cL_act 228 = .ok (.invokestatic 25, 3) := by decide +kernel
theorem dL_act_231 : decode cL_act 231 = .ok (.iload 7, 2) := by decide +kernel
theorem dL_act_233 : decode cL_act 233 = .ok (.if_icmp .ne 29, 3) := by decide +kernel
theorem dL_act_236 : decode cL_act 236 = .ok (.aload_n 0, 1) := by decide +kernel
theorem dL_act_237 : decode cL_act 237 = .ok (.iload 4, 2) := by decide +kernel
theorem dL_act_239 : decode cL_act 239 = .ok (.bipush 6, 2) := by decide +kernel
theorem dL_act_241 : decode cL_act 241 = .ok (.invokevirtual 28, 3) := by decide +kernel
theorem dL_act_244 : decode cL_act 244 = .ok (.iload 7, 2) := by decide +kernel
theorem dL_act_246 : decode cL_act 246 = .ok (.if_icmp .ne 16, 3) := by decide +kernel
theorem dL_act_249 : decode cL_act 249 = .ok (.aload_n 0, 1) := by decide +kernel
theorem dL_act_250 : decode cL_act 250 = .ok (.iload 4, 2) := by decide +kernel
theorem dL_act_252 : decode cL_act 252 = .ok (.invokevirtual 57, 3) := by decide +kernel
theorem dL_act_255 : decode cL_act 255 = .ok (.ifCond .ne 7, 3) := by decide +kernel
theorem dL_act_258 : decode cL_act 258 = .ok (.iconst 1, 1) := by decide +kernel
theorem dL_act_259 : decode cL_act 259 = .ok (.goto 4, 3) := by decide +kernel
theorem dL_act_262 : decode cL_act 262 = .ok (.iconst 0, 1) := by decide +kernel
theorem dL_act_263 : decode cL_act 263 = .ok (.ireturn, 1) := by decide +kernel
theorem dL_act_264 : decode cL_act 264 = .ok (.aload_n 0, 1) := by decide +kernel
theorem dL_act_265 : decode cL_act 265 = .ok (.iload 4, 2) := by decide +kernel
theorem dL_act_267 : decode cL_act 267 = .ok (.iload_n 3, 1) := by decide +kernel
theorem dL_act_268 : decode cL_act 268 = .ok (.ldc 60, 2) := by decide +kernel
theorem dL_act_270 : decode cL_act 270 = .ok (.invokestatic 48, 3) := by decide +kernel
theorem dL_act_273 : decode cL_act 273 = .ok (.invokestatic 61, 3) := by decide +kernel
theorem dL_act_276 : decode cL_act 276 = .ok (.ireturn, 1) := by decide +kernel
end
section
theorem dL_law_0 : decode cL_law 0 = .ok (.new 11, 3) := by decide +kernel
theorem dL_law_3 : decode cL_law 3 = .ok (.dup, 1) := by decide +kernel
theorem dL_law_4 : decode cL_law 4 = .ok (.invokespecial 65, 3) := by decide +kernel
theorem dL_law_7 : decode cL_law 7 = .ok (.astore_n 1, 1) := by decide +kernel
theorem dL_law_8 : decode cL_law 8 = .ok (.bipush 16, 2) := by decide +kernel
theorem dL_law_10 : decode cL_law 10 = .ok (.newarray .int, 2) := by decide +kernel
theorem dL_law_12 : decode cL_law 12 = .ok (.astore_n 2, 1) := by decide +kernel
theorem dL_law_13 : decode cL_law 13 = .ok (.iconst 1, 1) := by decide +kernel
theorem dL_law_14 : decode cL_law 14 = .ok (.aload_n 0, 1) := by decide +kernel
theorem dL_law_15 : decode cL_law 15 = .ok (.iconst 0, 1) := by decide +kernel
theorem dL_law_16 : decode cL_law 16 = .ok (.invokestatic 66, 3) := by decide +kernel
theorem dL_law_19 : decode cL_law 19 = .ok (.bipush 16, 2) := by decide +kernel
theorem dL_law_21 : decode cL_law 21 = .ok (.invokestatic 48, 3) := by decide +kernel
theorem dL_law_24 : decode cL_law 24 = .ok (.iadd, 1) := by decide +kernel
theorem dL_law_25 : decode cL_law 25 = .ok (.istore_n 3, 1) := by decide +kernel
theorem dL_law_26 : decode cL_law 26 = .ok (.iconst 0, 1) := by decide +kernel
theorem dL_law_27 : decode cL_law 27 = .ok (.istore 4, 2) := by decide +kernel
theorem dL_law_29 : decode cL_law 29 = .ok (.iload 4, 2) := by decide +kernel
theorem dL_law_31 : decode cL_law 31 = .ok (.iload_n 3, 1) := by decide +kernel
theorem dL_law_32 : decode cL_law 32 = .ok (.if_icmp .ge 41, 3) := by decide +kernel
theorem dL_law_35 : decode cL_law 35 = .ok (.aload_n 2, 1) := by decide +kernel
theorem dL_law_36 : decode cL_law 36 = .ok (.iload 4, 2) := by decide +kernel
theorem dL_law_38 : decode cL_law 38 = .ok (.aload_n 0, 1) := by decide +kernel
theorem dL_law_39 : decode cL_law 39 = .ok (.iconst 1, 1) := by decide +kernel
theorem dL_law_40 : decode cL_law 40 = .ok (.iload 4, 2) := by decide +kernel
theorem dL_law_42 : decode cL_law 42 = .ok (.iadd, 1) := by decide +kernel
theorem dL_law_43 : decode cL_law 43 = .ok (.invokestatic 66, 3) := by decide +kernel
theorem dL_law_46 : decode cL_law 46 = .ok (.ldc 60, 2) := by decide +kernel
theorem dL_law_48 : decode cL_law 48 = .ok (.invokestatic 48, 3) := by decide +kernel
theorem dL_law_51 : decode cL_law 51 = .ok (.iastore, 1) := by decide +kernel
theorem dL_law_52 : decode cL_law 52 = .ok (.aload_n 1, 1) := by decide +kernel
theorem dL_law_53 : decode cL_law 53 = .ok (.aload_n 2, 1) := by decide +kernel
theorem dL_law_54 : decode cL_law 54 = .ok (.iload 4, 2) := by decide +kernel
theorem dL_law_56 : decode cL_law 56 = .ok (.iaload, 1) := by decide +kernel
theorem dL_law_57 : decode cL_law 57 = .ok (.invokevirtual 70, 3) := by decide +kernel
theorem dL_law_60 : decode cL_law 60 = .ok (.iload 4, 2) := by decide +kernel
theorem dL_law_62 : decode cL_law 62 = .ok (.if_icmp .eq 5, 3) := by decide +kernel
theorem dL_law_65 : decode cL_law 65 = .ok (.iconst 0, 1) := by decide +kernel
theorem dL_law_66 : decode cL_law 66 = .ok (.ireturn, 1) := by decide +kernel
theorem dL_law_67 : decode cL_law 67 = .ok (.iinc 4 1, 3) := by decide +kernel
theorem dL_law_70 : decode cL_law 70 = .ok (.goto (-41), 3) := by decide +kernel
theorem dL_law_73 : decode cL_law 73 = .ok (.iconst 1, 1) := by decide +kernel
theorem dL_law_74 : decode cL_law 74 = .ok (.aload_n 0, 1) := by decide +kernel
theorem dL_law_75 : decode cL_law 75 = .ok (.bipush 17, 2) := by decide +kernel
theorem dL_law_77 : decode cL_law 77 = .ok (.invokestatic 66, 3) := by decide +kernel
theorem dL_law_80 : decode cL_law 80 = .ok (.iconst 3, 1) := by decide +kernel
theorem dL_law_81 : decode cL_law 81 = .ok (.invokestatic 48, 3) := by decide +kernel
theorem dL_law_84 : decode cL_law 84 = .ok (.iadd, 1) := by decide +kernel
theorem dL_law_85 : decode cL_law 85 = .ok (.istore 4, 2) := by decide +kernel
theorem dL_law_87 : decode cL_law 87 = .ok (.iconst 0, 1) := by decide +kernel
theorem dL_law_88 : decode cL_law 88 = .ok (.istore 5, 2) := by decide +kernel
theorem dL_law_90 : decode cL_law 90 = .ok (.iload 5, 2) := by decide +kernel
theorem dL_law_92 : decode cL_law 92 = .ok (.iload 4, 2) := by decide +kernel
theorem dL_law_94 : decode cL_law 94 = .ok (.if_icmp .ge 30, 3) := by decide +kernel
theorem dL_law_97 : decode cL_law 97 = .ok (.aload_n 1, 1) := by decide +kernel
theorem dL_law_98 : decode cL_law 98 = .ok (.invokevirtual 73, 3) := by decide +kernel
theorem dL_law_101 : decode cL_law 101 = .ok (.iload 5, 2) := by decide +kernel
theorem dL_law_103 : decode cL_law 103 = .ok (.if_icmp .ne 13, 3) := by decide +kernel
theorem dL_law_106 : decode cL_law 106 = .ok (.aload_n 1, 1) := by decide +kernel
theorem dL_law_107 : decode cL_law 107 = .ok (.iconst 1, 1) := by decide +kernel
theorem dL_law_108 : decode cL_law 108 = .ok (.invokevirtual 70, 3) := by decide +kernel
theorem dL_law_111 : decode cL_law 111 = .ok (.bipush (-5), 2) := by decide +kernel
theorem dL_law_113 : decode cL_law 113 = .ok (.if_icmp .eq 5, 3) := by decide +kernel
theorem dL_law_116 : decode cL_law 116 = .ok (.iconst 0, 1) := by decide +kernel
theorem dL_law_117 : decode cL_law 117 = .ok (.ireturn, 1) := by decide +kernel
theorem dL_law_118 : decode cL_law 118 = .ok (.iinc 5 1, 3) := by decide +kernel
theorem dL_law_121 : decode cL_law 121 = .ok (.goto (-31), 3) := by decide +kernel
theorem dL_law_124 : decode cL_law 124 = .ok (.iconst 0, 1) := by decide +kernel
theorem dL_law_125 : decode cL_law 125 = .ok (.istore 5, 2) := by decide +kernel
theorem dL_law_127 : decode cL_law 127 = .ok (.iload 5, 2) := by decide +kernel
theorem dL_law_129 : decode cL_law 129 = .ok (.bipush 50, 2) := by decide +kernel
theorem dL_law_131 : decode cL_law 131 = .ok (.if_icmp .ge 82, 3) := by decide +kernel
theorem dL_law_134 : decode cL_law 134 = .ok (.aload_n 0, 1) := by decide +kernel
theorem dL_law_135 : decode cL_law 135 = .ok (.bipush 20, 2) := by decide +kernel
theorem dL_law_137 : decode cL_law 137 = .ok (.iconst 2, 1) := by decide +kernel
theorem dL_law_138 : decode cL_law 138 = .ok (.iload 5, 2) := by decide +kernel
theorem dL_law_140 : decode cL_law 140 = .ok (.imul, 1) := by decide +kernel
theorem dL_law_141 : decode cL_law 141 = .ok (.iadd, 1) := by decide +kernel
theorem dL_law_142 : decode cL_law 142 = .ok (.invokestatic 66, 3) := by decide +kernel
theorem dL_law_145 : decode cL_law 145 = .ok (.istore 6, 2) := by decide +kernel
theorem dL_law_147 : decode cL_law 147 = .ok (.aload_n 0, 1) := by decide +kernel
theorem dL_law_148 : decode cL_law 148 = .ok (.bipush 21, 2) := by decide +kernel
theorem dL_law_150 : decode cL_law 150 = .ok (.iconst 2, 1) := by decide +kernel
theorem dL_law_151 : decode cL_law 151 = .ok (.iload 5, 2) := by decide +kernel
theorem dL_law_153 : decode cL_law 153 = .ok (.imul, 1) := by decide +kernel
theorem dL_law_154 : decode cL_law 154 = .ok (.iadd, 1) := by decide +kernel
theorem dL_law_155 : decode cL_law 155 = .ok (.invokestatic 66, 3) := by decide +kernel
theorem dL_law_158 : decode cL_law 158 = .ok (.istore 7, 2) := by decide +kernel
theorem dL_law_160 : decode cL_law 160 = .ok (.aload_n 1, 1) := by decide +kernel
theorem dL_law_161 : decode cL_law 161 = .ok (.iload 4, 2) := by decide +kernel
theorem dL_law_163 : decode cL_law 163 = .ok (.iload 6, 2) := by decide +kernel
theorem dL_law_165 : decode cL_law 165 = .ok (.iload 7, 2) := by decide +kernel
theorem dL_law_167 : decode cL_law 167 = .ok (.invokestatic 77, 3) := by decide +kernel
theorem dL_law_170 : decode cL_law 170 = .ok (.ifCond .eq 35, 3) := by decide +kernel
theorem dL_law_173 : decode cL_law 173 = .ok (.aload_n 1, 1) := by decide +kernel
theorem dL_law_174 : decode cL_law 174 = .ok (.aload_n 2, 1) := by decide +kernel
theorem dL_law_175 : decode cL_law 175 = .ok (.iload 6, 2) := by decide +kernel
theorem dL_law_177 : decode cL_law 177 = .ok (.iconst 4, 1) := by decide +kernel
theorem dL_law_178 : decode cL_law 178 = .ok (.ishr, 1) := by decide +kernel
theorem dL_law_179 : decode cL_law 179 = .ok (.iload 4, 2) := by decide +kernel
theorem dL_law_181 : decode cL_law 181 = .ok (.invokestatic 48, 3) := by decide +kernel
theorem dL_law_184 : decode cL_law 184 = .ok (.invokestatic 81, 3) := by decide +kernel
theorem dL_law_187 : decode cL_law 187 = .ok (.ifCond .eq 18, 3) := by decide +kernel
theorem dL_law_190 : decode cL_law 190 = .ok (.aload_n 1, 1) := by decide +kernel
theorem dL_law_191 : decode cL_law 191 = .ok (.aload_n 2, 1) := by decide +kernel
theorem dL_law_192 : decode cL_law 192 = .ok (.iload 7, 2) := by decide +kernel
theorem dL_law_194 : decode cL_law 194 = .ok (.ldc 60, 2) := by decide +kernel
theorem dL_law_196 : decode cL_law 196 = .ok (.invokestatic 48, 3) := by decide +kernel
theorem dL_law_199 : decode cL_law 199 = .ok (.invokestatic 84, 3) := by decide +kernel
theorem dL_law_202 : decode cL_law 202 = .ok (.ifCond .ne 5, 3) := by decide +kernel
theorem dL_law_205 : decode cL_law 205 = .ok (.iconst 0, 1) := by decide +kernel
theorem dL_law_206 : decode cL_law 206 = .ok (.ireturn, 1) := by decide +kernel
theorem dL_law_207 : decode cL_law 207 = .ok (.iinc 5 1, 3) := by decide +kernel
theorem dL_law_210 : decode cL_law 210 = .ok (.goto (-83), 3) := by decide +kernel
theorem dL_law_213 : decode cL_law 213 = .ok (.aload_n 1, 1) := by decide +kernel
theorem dL_law_214 : decode cL_law 214 = .ok (.iconst 3, 1) := by decide +kernel
theorem dL_law_215 : decode cL_law 215 = .ok (.iconst 0, 1) := by decide +kernel
theorem dL_law_216 : decode cL_law 216 = .ok (.iconst 1, 1) := by decide +kernel
theorem dL_law_217 : decode cL_law 217 = .ok (.invokevirtual 45, 3) := by decide +kernel
theorem dL_law_220 : decode cL_law 220 = .ok (.iconst (-1), 1) := by decide +kernel
theorem dL_law_221 : decode cL_law 221 = .ok (.if_icmp .ne 124, 3) := by decide +kernel
theorem dL_law_224 : decode cL_law 224 = .ok (.aload_n 1, 1) := by decide +kernel
theorem dL_law_225 : decode cL_law 225 = .ok (.iconst 0, 1) := by decide +kernel
theorem dL_law_226 : decode cL_law 226 = .ok (.ldc 60, 2) := by decide +kernel
theorem dL_law_228 : decode cL_law 228 = .ok (.iconst 1, 1) := by decide +kernel
theorem dL_law_229 : decode cL_law 229 = .ok (.invokevirtual 45, 3) := by decide +kernel
theorem dL_law_232 : decode cL_law 232 = .ok (.bipush (-2), 2) := by decide +kernel
theorem dL_law_234 : decode cL_law 234 = .ok (.if_icmp .ne 111, 3) := by decide +kernel
theorem dL_law_237 : decode cL_law 237 = .ok (.aload_n 1, 1) := by decide +kernel
theorem dL_law_238 : decode cL_law 238 = .ok (.iconst 0, 1) := by decide +kernel
theorem dL_law_239 : decode cL_law 239 = .ok (.iconst 0, 1) := by decide +kernel
theorem dL_law_240 : decode cL_law 240 = .ok (.bipush 100, 2) := by decide +kernel
theorem dL_law_242 : decode cL_law 242 = .ok (.invokevirtual 45, 3) := by decide +kernel
theorem dL_law_245 : decode cL_law 245 = .ok (.bipush (-2), 2) := by decide +kernel
theorem dL_law_247 : decode cL_law 247 = .ok (.if_icmp .ne 98, 3) := by decide +kernel
theorem dL_law_250 : decode cL_law 250 = .ok (.aload_n 1, 1) := by decide +kernel
theorem dL_law_251 : decode cL_law 251 = .ok (.iconst 0, 1) := by decide +kernel
theorem dL_law_252 : decode cL_law 252 = .ok (.iload_n 3, 1) := by decide +kernel
theorem dL_law_253 : decode cL_law 253 = .ok (.invokevirtual 31, 3) := by decide +kernel
theorem dL_law_256 : decode cL_law 256 = .ok (.iconst (-1), 1) := by decide +kernel
theorem dL_law_257 : decode cL_law 257 = .ok (.if_icmp .ne 88, 3) := by decide +kernel
theorem dL_law_260 : decode cL_law 260 = .ok (.aload_n 1, 1) := by decide +kernel
theorem dL_law_261 : decode cL_law 261 = .ok (.iconst (-1), 1) := by decide +kernel
theorem dL_law_262 : decode cL_law 262 = .ok (.iconst 0, 1) := by decide +kernel
theorem dL_law_263 : decode cL_law 263 = .ok (.invokevirtual 21, 3) := by decide +kernel
theorem dL_law_266 : decode cL_law 266 = .ok (.bipush (-2), 2) := by decide +kernel
theorem dL_law_268 : decode cL_law 268 = .ok (.if_icmp .ne 77, 3) := by decide +kernel
theorem dL_law_271 : decode cL_law 271 = .ok (.aload_n 1, 1) := by decide +kernel
theorem dL_law_272 : decode cL_law 272 = .ok (.iconst 0, 1) := by decide +kernel
theorem dL_law_273 : decode cL_law 273 = .ok (.iconst 4, 1) := by decide +kernel
theorem dL_law_274 : decode cL_law 274 = .ok (.invokevirtual 21, 3) := by decide +kernel
theorem dL_law_277 : decode cL_law 277 = .ok (.bipush (-2), 2) := by decide +kernel
theorem dL_law_279 : decode cL_law 279 = .ok (.if_icmp .ne 66, 3) := by decide +kernel
theorem dL_law_282 : decode cL_law 282 = .ok (.aload_n 1, 1) := by decide +kernel
theorem dL_law_283 : decode cL_law 283 = .ok (.iconst 0, 1) := by decide +kernel
theorem dL_law_284 : decode cL_law 284 = .ok (.bipush 7, 2) := by decide +kernel
theorem dL_law_286 : decode cL_law 286 = .ok (.invokevirtual 28, 3) := by decide +kernel
theorem dL_law_289 : decode cL_law 289 = .ok (.bipush (-2), 2) := by decide +kernel
theorem dL_law_291 : decode cL_law 291 = .ok (.if_icmp .ne 54, 3) := by decide +kernel
theorem dL_law_294 : decode cL_law 294 = .ok (.aload_n 1, 1) := by decide +kernel
theorem dL_law_295 : decode cL_law 295 = .ok (.iconst 0, 1) := by decide +kernel
theorem dL_law_296 : decode cL_law 296 = .ok (.iconst 3, 1) := by decide +kernel
theorem dL_law_297 : decode cL_law 297 = .ok (.invokevirtual 51, 3) := by decide +kernel
theorem dL_law_300 : decode cL_law 300 = .ok (.bipush (-2), 2) := by decide +kernel
theorem dL_law_302 : decode cL_law 302 = .ok (.if_icmp .ne 43, 3) := by decide +kernel
theorem dL_law_305 : decode cL_law 305 = .ok (.aload_n 1, 1) := by decide +kernel
theorem dL_law_306 : decode cL_law 306 = .ok (.iconst 1, 1) := by decide +kernel
theorem dL_law_307 : decode cL_law 307 = .ok (.bipush 100, 2) := by decide +kernel
theorem dL_law_309 : decode cL_law 309 = .ok (.invokevirtual 51, 3) := by decide +kernel
theorem dL_law_312 : decode cL_law 312 = .ok (.bipush (-2), 2) := by decide +kernel
theorem dL_law_314 : decode cL_law 314 = .ok (.if_icmp .ne 31, 3) := by decide +kernel
theorem dL_law_317 : decode cL_law 317 = .ok (.aload_n 1, 1) := by decide +kernel
theorem dL_law_318 : decode cL_law 318 = .ok (.bipush 8, 2) := by decide +kernel
theorem dL_law_320 : decode cL_law 320 = .ok (.invokevirtual 10, 3) := by decide +kernel
theorem dL_law_323 : decode cL_law 323 = .ok (.bipush (-2), 2) := by decide +kernel
theorem dL_law_325 : decode cL_law 325 = .ok (.if_icmp .ne 20, 3) := by decide +kernel
theorem dL_law_328 : decode cL_law 328 = .ok (.aload_n 1, 1) := by decide +kernel
theorem dL_law_329 : decode cL_law 329 = .ok (.iconst 0, 1) := by decide +kernel
theorem dL_law_330 : decode cL_law 330 = .ok (.iconst 1, 1) := by decide +kernel
theorem dL_law_331 : decode cL_law 331 = .ok (.bipush 17, 2) := by decide +kernel
theorem dL_law_333 : decode cL_law 333 = .ok (.invokevirtual 86, 3) := by decide +kernel
theorem dL_law_336 : decode cL_law 336 = .ok (.bipush (-2), 2) := by decide +kernel
theorem dL_law_338 : decode cL_law 338 = .ok (.if_icmp .ne 7, 3) := by decide +kernel
theorem dL_law_341 : decode cL_law 341 = .ok (.iconst 1, 1) := by decide +kernel
theorem dL_law_342 : decode cL_law 342 = .ok (.goto 4, 3) := by decide +kernel
theorem dL_law_345 : decode cL_law 345 = .ok (.iconst 0, 1) := by decide +kernel
theorem dL_law_346 : decode cL_law 346 = .ok (.ireturn, 1) := by decide +kernel
end
section
/-! blobs: an object with its own arrays, as one function of places; what a heap holds is a list of blobs -/
def zgw : List Cond := lw_tbl.filter goodWord
def zkind : Cond → Bool
  | .methodLinkNest .. => true
  | .fieldLinkNest .. => true
  | .arrayOver (.object _) => true
  | _ => false
def zbw : List Cond := lw_tbl.filter zkind
theorem zin {w : Cond} (i : Nat) (h : lw_tbl[i]? = some w) (g : goodWord w = true := by rfl) : w ∈ zgw := List.mem_filter.mpr ⟨List.mem_of_getElem? h, g⟩
theorem zinb {w : Cond} (i : Nat) (h : lw_tbl[i]? = some w) (g : zkind w = true := by rfl) : w ∈ zbw := List.mem_filter.mpr ⟨List.mem_of_getElem? h, g⟩
def zNw (U : State) : Prop := ∀ w ∈ zbw, va_Nw w U
theorem zNw_warm {s U : State} (hW : s.WarmedH U.vm) (h : zNw s) : zNw U := by
  intro w hw
  have hk := (List.mem_filter.mp hw).2
  have h1 := h w hw
  cases w <;> simp only [zkind, Bool.false_eq_true] at hk
  case methodLinkNest => exact va_Nw.warmM hW h1
  case fieldLinkNest => exact va_Nw.warmF hW h1
  case arrayOver ty =>
    cases ty <;> simp only [zkind, Bool.false_eq_true] at hk
    exact va_AO.moved hW.alike h1
theorem zgw_good {w : Cond} (h : w ∈ zgw) : goodWord w = true := (List.mem_filter.mp h).2
abbrev zG : Type := Nat → Nat → Int32
abbrev zL : Type := List (Nat × Nat)
/-- a cell of a blob: an object (class, a kind for each field: 0 a number, 1 a reference told by a number, r+2 the cell r behind), or an array (element type, length, first place, and for fixed references the first and the step) -/
abbrev zCD : Type := (Nat × List Nat) ⊕ (Nat × Nat × Nat × Nat × Nat)
abbrev zD : Type := va_G × (Nat → ClassId)
def zbT : Nat → List (Nat × zCD)
  | 1 => [(0, .inl (6, [3, 18, 125, 126, 128, 129, 133]))]
  | 2 => [(0, .inl (5, [0, 0, 0, 0, 0, 3, 4])), (1, .inr (0, 16, 5, 0, 0)), (2, .inr (4, 3, 21, 3, 4))]
  | 3 => [(0, .inl (0, [0, 0, 0, 0, 0, 3, 4, 5])), (1, .inr (0, 16, 5, 0, 0)), (2, .inr (0, 24, 21, 0, 0)), (3, .inr (0, 24, 45, 0, 0))]
  | 4 => [(0, .inl (1, [0, 0, 0, 0]))]
  | 5 => [(0, .inl (4, [3, 4])), (1, .inr (0, 24, 0, 0, 0)), (2, .inr (0, 24, 24, 0, 0))]
  | 6 => [(0, .inl (2, [3, 0, 0])), (1, .inr (3, 7, 3, 2, 15))]
  | 7 => [(0, .inl (3, [3, 0, 0, 0, 0, 0, 0])), (1, .inr (1, 80, 7, 0, 0))]
  | 8 => [(0, .inl (7, [3, 4, 5, 6, 7, 8, 0, 9, 0, 0, 10, 11, 0, 0, 0, 0, 12, 13])), (1, .inr (0, 228, 18, 0, 0)), (2, .inr (0, 1368, 246, 0, 0)), (3, .inr (0, 228, 1614, 0, 0)), (4, .inr (0, 228, 1842, 0, 0)), (5, .inr (0, 456, 2070, 0, 0)), (6, .inr (2, 2, 2526, 0, 0)), (7, .inr (0, 80, 2528, 0, 0)), (8, .inr (0, 8, 2608, 0, 0)), (9, .inr (0, 3, 2616, 0, 0)), (10, .inr (0, 16, 2619, 0, 0)), (11, .inr (0, 16, 2635, 0, 0))]
  | 10 => [(0, .inl (0, [0, 0, 0, 0, 0, 1, 1, 1]))]
  | 11 => [(0, .inl (1, [0, 0, 0, 0]))]
  | 12 => [(0, .inl (2, [1, 0, 0]))]
  | 13 => [(0, .inl (3, [1, 0, 0, 0, 0, 0, 0]))]
  | 14 => [(0, .inl (4, [1, 1]))]
  | 15 => [(0, .inl (5, [0, 0, 0, 0, 0, 1, 1]))]
  | 16 => [(0, .inl (6, [1, 1, 1, 1, 1, 1, 1]))]
  | 17 => [(0, .inl (7, [1, 1, 1, 1, 1, 1, 0, 1, 0, 0, 1, 1, 0, 0, 0, 0, 1, 1]))]
  | t => if 100 ≤ t then [(0, .inr ((t - 100) / 10000, (t - 100) % 10000, 0, 0, 0))] else []
def zty : Nat → FieldType
  | 0 => .int
  | 1 => .char
  | 2 => .int
  | 3 => .object "BookDroplets$State"
  | _ => .object "BookDroplets$Cup"
def ztys (D : zD) : List (ClassId × FieldType) := [(D.2 0, zty 0), (D.2 1, zty 1), (D.2 2, zty 2), (D.2 3, zty 3), (D.2 4, zty 4)]
def zdr (q : Nat) (z : Int32) : Option Nat := if z = 0 then none else some (q + z.toNatClampNeg)
def zfv (q : Nat) (f : Nat → Int32) (k : Nat) : Nat → Value
  | 0 => .int (f k)
  | 1 => va_rf (zdr q (f k))
  | r + 2 => .ref (q + r)
def zfl (q : Nat) (f : Nat → Int32) : Nat → List Nat → List Value
  | _, [] => []
  | k, z :: r => zfv q f k z :: zfl q f (k + 1) r
def zai (n off : Nat) (f : Nat → Int32) : Nat → Int32 := fun j => if j < n then f (off + j) else 0
def zar (q n off a b : Nat) (f : Nat → Int32) : Nat → Option Nat := fun j => if j < n then (if b = 0 then zdr q (f (off + j)) else some (q + (a + b * j))) else none
def zac (q ta n off a b : Nat) (f : Nat → Int32) : (Nat → Int32) ⊕ (Nat → Int64) ⊕ (Nat → UInt32) ⊕ (Nat → UInt64) ⊕ (Nat → Option Nat) :=
  if ta < 3 then .inl (zai n off f) else .inr (.inr (.inr (.inr (zar q n off a b f))))
def zce (D : zD) (q : Nat) (f : Nat → Int32) : zCD → va_E
  | .inl c => .inr (c.1, zfl q f 0 c.2)
  | .inr c => .inl (D.2 c.1, c.2.1, zac q c.1 c.2.1 c.2.2.1 c.2.2.2.1 c.2.2.2.2 f)
def zpl (L : zL) : List (Nat × Nat × zCD) := L.flatMap (fun b => (zbT b.2).map (fun c => (b.1, c.1, c.2)))
def zcs (D : zD) (L : zL) (G : zG) : va_W := (zpl L).map (fun p => (p.1 + p.2.1, zce D p.1 (G p.1) p.2.2))
def zfun (L : zL) (nx : Nat) : Prop := (∀ q t u, (q, t) ∈ L → (q, u) ∈ L → t = u) ∧ ∀ b ∈ L, b.1 < nx
def zW (D : zD) (B : Nat) (L : zL) (nx : Nat) (G : zG) (H : Heap) : Prop :=
  H.size = nx ∧ va_P D.1 vwCl (zcs D L G) H ∧ va_D (fun q => B ≤ q) (zcs D L G) ∧ zfun L nx
def zX (X0 : State → Prop) (D : zD) (own mn : String) (cc : ByteArray) (nL : Nat) (p : Program) (s : State) (m : MethodId) (args : Array Value) (meth : Method) (c : Code) : Prop :=
  p.tables.exec = Jvm.exec ∧ c.code = cc ∧ c.maxLocals = nL ∧ s.vm.findClass own = some m.cls ∧ (∀ w ∈ zgw, w.before args s = true) ∧ va_K D.1 vwCl (ztys D) s ∧ meth.name = mn ∧ zNw s ∧ X0 s
def zlv (ls : Array Slot) (nL : Nat) (lv : List (Option Value)) : Prop := lv.length = nL ∧ ls.size = nL ∧ lv_wf ls ∧ ∀ (i : Nat) (v : Value), lv[i]? = some (some v) → ls[i]? = some (.val v)
def zRet (cc : ByteArray) (ret : Option FieldType) (pc : Nat) (v : Option Value) : Prop :=
  (∃ (x : Int32) (ty : FieldType), v = some (.int x) ∧ ret = some ty ∧ narrow ty (.int x) = .int x ∧ decode cc pc = .ok (.ireturn, 1)) ∨
  (v = none ∧ ret = none ∧ decode cc pc = .ok (.return_, 1)) ∨
  (∃ (w : Value) (C : String), v = some w ∧ ret = some (.object C) ∧ (w = .null ∨ ∃ a, w = .ref a) ∧ decode cc pc = .ok (.areturn, 1))
abbrev zP : Type := Option Value → zL → Nat → zG → Nat → Nat → Prop
/-- from the frame at pc with these locals, this stack and these blobs, the method comes to a return with 'post' -/
def zV (l : Launch) (X0 : State → Prop) (D : zD) (B : Nat) (own mn : String) (cc : ByteArray) (nL : Nat) (ret : Option FieldType) (R : Room) (post : zP) (k n : Nat) (L : zL) (nx : Nat) (pc : Nat) (lv : List (Option Value)) (st : List Value) (G : zG) : Prop :=
  ∀ (p : Program) (e : Env) (s : State) (m : MethodId) (args : Array Value) (below : List Frame) (meth : Method) (c : Code) (H : Heap) (locs : List Loc) (ls : Array Slot) (Q : State → Prop),
    zX X0 D own mn cc nL p s m args meth c →
    (∀ (H' : Heap) (locs' : List Loc) (ls' : Array Slot) (pc' : Nat) (v : Option Value) (L' : zL) (nx' : Nat) (G' : zG) (k' n' : Nat), zRet cc ret pc' v → zW D B L' nx' G' H' → va_S (fun q => B ≤ q) s.heap H' locs' → post v L' nx' G' k' n' →
      W p l e R s m args below meth c H' locs' k' n' Q (F0 m pc' ls' v.toList)) →
    zlv ls nL lv → zW D B L nx G H → va_S (fun q => B ≤ q) s.heap H locs → W p l e R s m args below meth c H locs k n Q (F0 m pc ls st)
section ZROWS
variable {l : Launch} {X0 : State → Prop} {D : zD} {B : Nat} {own mn : String} {cc : ByteArray} {nL : Nat} {ret : Option FieldType} {R : Room} {post : zP} {k n : Nat} {L : zL} {nx : Nat} {pc : Nat} {lv : List (Option Value)} {st : List Value} {G : zG}
theorem zv_iconst {i : Int} {v : Int32} (hd : decode cc pc = .ok (.iconst i, 1)) (hv : Int32.ofInt i = v) (kk : zV l X0 D B own mn cc nL ret R post k n L nx (pc + 1) lv (.int v :: st) G) : zV l X0 D B own mn cc nL ret R post k n L nx pc lv (st) G :=
  fun p e s m args below meth c H locs ls Q hX hR hl hW hS => lv_iconst hX.1 hX.2.1 hd hv (kk p e s m args below meth c H locs ls Q hX hR hl hW hS)
theorem zv_bipush {i : Int} {v : Int32} (hd : decode cc pc = .ok (.bipush i, 2)) (hv : (Int8.ofInt i).toInt32 = v) (kk : zV l X0 D B own mn cc nL ret R post k n L nx (pc + 2) lv (.int v :: st) G) : zV l X0 D B own mn cc nL ret R post k n L nx pc lv (st) G :=
  fun p e s m args below meth c H locs ls Q hX hR hl hW hS => lv_bipush hX.1 hX.2.1 hd hv (kk p e s m args below meth c H locs ls Q hX hR hl hW hS)
theorem zv_sipush {i : Int} {v : Int32} (hd : decode cc pc = .ok (.sipush i, 3)) (hv : (Int16.ofInt i).toInt32 = v) (kk : zV l X0 D B own mn cc nL ret R post k n L nx (pc + 3) lv (.int v :: st) G) : zV l X0 D B own mn cc nL ret R post k n L nx pc lv (st) G :=
  fun p e s m args below meth c H locs ls Q hX hR hl hW hS => lv_sipush hX.1 hX.2.1 hd hv (kk p e s m args below meth c H locs ls Q hX hR hl hW hS)
theorem zv_lconst {i : Fin 2} {v : Int64} (hd : decode cc pc = .ok (.lconst i, 1)) (hv : Int64.ofNat (i : Nat) = v) (kk : zV l X0 D B own mn cc nL ret R post k n L nx (pc + 1) lv (.long v :: st) G) : zV l X0 D B own mn cc nL ret R post k n L nx pc lv (st) G :=
  fun p e s m args below meth c H locs ls Q hX hR hl hW hS => lv_lconst hX.1 hX.2.1 hd hv (kk p e s m args below meth c H locs ls Q hX hR hl hW hS)
theorem zv_null (hd : decode cc pc = .ok (.aconst_null, 1)) (kk : zV l X0 D B own mn cc nL ret R post k n L nx (pc + 1) lv (.null :: st) G) : zV l X0 D B own mn cc nL ret R post k n L nx pc lv (st) G :=
  fun p e s m args below meth c H locs ls Q hX hR hl hW hS => lv_null hX.1 hX.2.1 hd (kk p e s m args below meth c H locs ls Q hX hR hl hW hS)
theorem zv_ldc {ix : Nat} {v : Int32} (hd : decode cc pc = .ok (.ldc ix, 2)) (hw : Cond.constant own ix v ∈ zgw) (kk : zV l X0 D B own mn cc nL ret R post k n L nx (pc + 2) lv (.int v :: st) G) : zV l X0 D B own mn cc nL ret R post k n L nx pc lv (st) G :=
  fun p e s m args below meth c H locs ls Q hX hR hl hW hS => lv_ldc hX.1 hX.2.1 hX.2.2.2.1 (hX.2.2.2.2.1 _ hw) hd (kk p e s m args below meth c H locs ls Q hX hR hl hW hS)
theorem zv_ldc2 {ix : Nat} {v : Int64} (hd : decode cc pc = .ok (.ldc2_w ix, 3)) (hw : Cond.constantLong own ix v ∈ zgw) (kk : zV l X0 D B own mn cc nL ret R post k n L nx (pc + 3) lv (.long v :: st) G) : zV l X0 D B own mn cc nL ret R post k n L nx pc lv (st) G :=
  fun p e s m args below meth c H locs ls Q hX hR hl hW hS => lv_ldc2 hX.1 hX.2.1 hX.2.2.2.1 (hX.2.2.2.2.1 _ hw) hd (kk p e s m args below meth c H locs ls Q hX hR hl hW hS)
theorem zv_iload_n {i : Fin 4} {x : Int32} (hd : decode cc pc = .ok (.iload_n i, 1)) (hv : lv[(i : Nat)]? = some (some (.int x))) (kk : zV l X0 D B own mn cc nL ret R post k n L nx (pc + 1) lv (.int x :: st) G) : zV l X0 D B own mn cc nL ret R post k n L nx pc lv (st) G :=
  fun p e s m args below meth c H locs ls Q hX hR hl hW hS => lv_iload_n hX.1 hX.2.1 hd rfl (hl.2.2.2 _ _ hv) (kk p e s m args below meth c H locs ls Q hX hR hl hW hS)
theorem zv_iload {i : Nat} {x : Int32} (hd : decode cc pc = .ok (.iload i, 2)) (hv : lv[i]? = some (some (.int x))) (kk : zV l X0 D B own mn cc nL ret R post k n L nx (pc + 2) lv (.int x :: st) G) : zV l X0 D B own mn cc nL ret R post k n L nx pc lv (st) G :=
  fun p e s m args below meth c H locs ls Q hX hR hl hW hS => lv_iload hX.1 hX.2.1 hd (hl.2.2.2 _ _ hv) (kk p e s m args below meth c H locs ls Q hX hR hl hW hS)
theorem zv_lload_n {i : Fin 4} {x : Int64} (hd : decode cc pc = .ok (.lload_n i, 1)) (hv : lv[(i : Nat)]? = some (some (.long x))) (kk : zV l X0 D B own mn cc nL ret R post k n L nx (pc + 1) lv (.long x :: st) G) : zV l X0 D B own mn cc nL ret R post k n L nx pc lv (st) G :=
  fun p e s m args below meth c H locs ls Q hX hR hl hW hS => lv_lload_n hX.1 hX.2.1 hd rfl (hl.2.2.2 _ _ hv) (kk p e s m args below meth c H locs ls Q hX hR hl hW hS)
theorem zv_lload {i : Nat} {x : Int64} (hd : decode cc pc = .ok (.lload i, 2)) (hv : lv[i]? = some (some (.long x))) (kk : zV l X0 D B own mn cc nL ret R post k n L nx (pc + 2) lv (.long x :: st) G) : zV l X0 D B own mn cc nL ret R post k n L nx pc lv (st) G :=
  fun p e s m args below meth c H locs ls Q hX hR hl hW hS => lv_lload hX.1 hX.2.1 hd (hl.2.2.2 _ _ hv) (kk p e s m args below meth c H locs ls Q hX hR hl hW hS)
theorem zv_aload_n {i : Fin 4} {x : Nat} (hd : decode cc pc = .ok (.aload_n i, 1)) (hv : lv[(i : Nat)]? = some (some (.ref x))) (kk : zV l X0 D B own mn cc nL ret R post k n L nx (pc + 1) lv (.ref x :: st) G) : zV l X0 D B own mn cc nL ret R post k n L nx pc lv (st) G :=
  fun p e s m args below meth c H locs ls Q hX hR hl hW hS => lv_aload_n hX.1 hX.2.1 hd rfl (hl.2.2.2 _ _ hv) (kk p e s m args below meth c H locs ls Q hX hR hl hW hS)
theorem zv_aload {i : Nat} {x : Nat} (hd : decode cc pc = .ok (.aload i, 2)) (hv : lv[i]? = some (some (.ref x))) (kk : zV l X0 D B own mn cc nL ret R post k n L nx (pc + 2) lv (.ref x :: st) G) : zV l X0 D B own mn cc nL ret R post k n L nx pc lv (st) G :=
  fun p e s m args below meth c H locs ls Q hX hR hl hW hS => lv_aload hX.1 hX.2.1 hd (hl.2.2.2 _ _ hv) (kk p e s m args below meth c H locs ls Q hX hR hl hW hS)
theorem zv_iadd {x y : Int32} (hd : decode cc pc = .ok (.iadd, 1)) (kk : zV l X0 D B own mn cc nL ret R post k n L nx (pc + 1) lv (.int (x + y) :: st) G) : zV l X0 D B own mn cc nL ret R post k n L nx pc lv (.int y :: .int x :: st) G :=
  fun p e s m args below meth c H locs ls Q hX hR hl hW hS => lv_iadd hX.1 hX.2.1 hd (kk p e s m args below meth c H locs ls Q hX hR hl hW hS)
theorem zv_isub {x y : Int32} (hd : decode cc pc = .ok (.isub, 1)) (kk : zV l X0 D B own mn cc nL ret R post k n L nx (pc + 1) lv (.int (x - y) :: st) G) : zV l X0 D B own mn cc nL ret R post k n L nx pc lv (.int y :: .int x :: st) G :=
  fun p e s m args below meth c H locs ls Q hX hR hl hW hS => lv_isub hX.1 hX.2.1 hd (kk p e s m args below meth c H locs ls Q hX hR hl hW hS)
theorem zv_imul {x y : Int32} (hd : decode cc pc = .ok (.imul, 1)) (kk : zV l X0 D B own mn cc nL ret R post k n L nx (pc + 1) lv (.int (x * y) :: st) G) : zV l X0 D B own mn cc nL ret R post k n L nx pc lv (.int y :: .int x :: st) G :=
  fun p e s m args below meth c H locs ls Q hX hR hl hW hS => lv_imul hX.1 hX.2.1 hd (kk p e s m args below meth c H locs ls Q hX hR hl hW hS)
theorem zv_iand {x y : Int32} (hd : decode cc pc = .ok (.iand, 1)) (kk : zV l X0 D B own mn cc nL ret R post k n L nx (pc + 1) lv (.int (x &&& y) :: st) G) : zV l X0 D B own mn cc nL ret R post k n L nx pc lv (.int y :: .int x :: st) G :=
  fun p e s m args below meth c H locs ls Q hX hR hl hW hS => lv_iand hX.1 hX.2.1 hd (kk p e s m args below meth c H locs ls Q hX hR hl hW hS)
theorem zv_ior {x y : Int32} (hd : decode cc pc = .ok (.ior, 1)) (kk : zV l X0 D B own mn cc nL ret R post k n L nx (pc + 1) lv (.int (x ||| y) :: st) G) : zV l X0 D B own mn cc nL ret R post k n L nx pc lv (.int y :: .int x :: st) G :=
  fun p e s m args below meth c H locs ls Q hX hR hl hW hS => lv_ior hX.1 hX.2.1 hd (kk p e s m args below meth c H locs ls Q hX hR hl hW hS)
theorem zv_ixor {x y : Int32} (hd : decode cc pc = .ok (.ixor, 1)) (kk : zV l X0 D B own mn cc nL ret R post k n L nx (pc + 1) lv (.int (x ^^^ y) :: st) G) : zV l X0 D B own mn cc nL ret R post k n L nx pc lv (.int y :: .int x :: st) G :=
  fun p e s m args below meth c H locs ls Q hX hR hl hW hS => lv_ixor hX.1 hX.2.1 hd (kk p e s m args below meth c H locs ls Q hX hR hl hW hS)
theorem zv_ishl {x y : Int32} (hd : decode cc pc = .ok (.ishl, 1)) (kk : zV l X0 D B own mn cc nL ret R post k n L nx (pc + 1) lv (.int (x <<< (y &&& 31)) :: st) G) : zV l X0 D B own mn cc nL ret R post k n L nx pc lv (.int y :: .int x :: st) G :=
  fun p e s m args below meth c H locs ls Q hX hR hl hW hS => lv_ishl hX.1 hX.2.1 hd (kk p e s m args below meth c H locs ls Q hX hR hl hW hS)
theorem zv_ishr {x y : Int32} (hd : decode cc pc = .ok (.ishr, 1)) (kk : zV l X0 D B own mn cc nL ret R post k n L nx (pc + 1) lv (.int (x >>> (y &&& 31)) :: st) G) : zV l X0 D B own mn cc nL ret R post k n L nx pc lv (.int y :: .int x :: st) G :=
  fun p e s m args below meth c H locs ls Q hX hR hl hW hS => lv_ishr hX.1 hX.2.1 hd (kk p e s m args below meth c H locs ls Q hX hR hl hW hS)
theorem zv_land {x y : Int64} (hd : decode cc pc = .ok (.land, 1)) (kk : zV l X0 D B own mn cc nL ret R post k n L nx (pc + 1) lv (.long (x &&& y) :: st) G) : zV l X0 D B own mn cc nL ret R post k n L nx pc lv (.long y :: .long x :: st) G :=
  fun p e s m args below meth c H locs ls Q hX hR hl hW hS => lv_land hX.1 hX.2.1 hd (kk p e s m args below meth c H locs ls Q hX hR hl hW hS)
theorem zv_lor {x y : Int64} (hd : decode cc pc = .ok (.lor, 1)) (kk : zV l X0 D B own mn cc nL ret R post k n L nx (pc + 1) lv (.long (x ||| y) :: st) G) : zV l X0 D B own mn cc nL ret R post k n L nx pc lv (.long y :: .long x :: st) G :=
  fun p e s m args below meth c H locs ls Q hX hR hl hW hS => lv_lor hX.1 hX.2.1 hd (kk p e s m args below meth c H locs ls Q hX hR hl hW hS)
theorem zv_irem {x y : Int32} (hd : decode cc pc = .ok (.irem, 1)) (hne : ¬ y = 0) (kk : zV l X0 D B own mn cc nL ret R post k n L nx (pc + 1) lv (.int (x - x / y * y) :: st) G) : zV l X0 D B own mn cc nL ret R post k n L nx pc lv (.int y :: .int x :: st) G :=
  fun p e s m args below meth c H locs ls Q hX hR hl hW hS => lv_irem hX.1 hX.2.1 hd hne (kk p e s m args below meth c H locs ls Q hX hR hl hW hS)
theorem zv_idiv {x y : Int32} (hd : decode cc pc = .ok (.idiv, 1)) (hne : ¬ y = 0) (kk : zV l X0 D B own mn cc nL ret R post k n L nx (pc + 1) lv (.int (x / y) :: st) G) : zV l X0 D B own mn cc nL ret R post k n L nx pc lv (.int y :: .int x :: st) G :=
  fun p e s m args below meth c H locs ls Q hX hR hl hW hS => lv_idiv hX.1 hX.2.1 hd hne (kk p e s m args below meth c H locs ls Q hX hR hl hW hS)
theorem zv_ineg {x : Int32} (hd : decode cc pc = .ok (.ineg, 1)) (kk : zV l X0 D B own mn cc nL ret R post k n L nx (pc + 1) lv (.int (-x) :: st) G) : zV l X0 D B own mn cc nL ret R post k n L nx pc lv (.int x :: st) G :=
  fun p e s m args below meth c H locs ls Q hX hR hl hW hS => lv_ineg hX.1 hX.2.1 hd (kk p e s m args below meth c H locs ls Q hX hR hl hW hS)
theorem zv_iushr {x y : Int32} (hd : decode cc pc = .ok (.iushr, 1)) (kk : zV l X0 D B own mn cc nL ret R post k n L nx (pc + 1) lv (.int (x.toUInt32 >>> (y.toUInt32 &&& Int32.toUInt32 31)).toInt32 :: st) G) : zV l X0 D B own mn cc nL ret R post k n L nx pc lv (.int y :: .int x :: st) G :=
  fun p e s m args below meth c H locs ls Q hX hR hl hW hS => lv_iushr hX.1 hX.2.1 hd rfl (kk p e s m args below meth c H locs ls Q hX hR hl hW hS)
theorem zv_lushr {x : Int64} {y : Int32} (hd : decode cc pc = .ok (.lushr, 1)) (kk : zV l X0 D B own mn cc nL ret R post k n L nx (pc + 1) lv (.long (x.toUInt64 >>> (y.toInt64.toUInt64 &&& Int64.toUInt64 63)).toInt64 :: st) G) : zV l X0 D B own mn cc nL ret R post k n L nx pc lv (.int y :: .long x :: st) G :=
  fun p e s m args below meth c H locs ls Q hX hR hl hW hS => lv_lushr hX.1 hX.2.1 hd rfl (kk p e s m args below meth c H locs ls Q hX hR hl hW hS)
theorem zv_lshl {x : Int64} {y : Int32} (hd : decode cc pc = .ok (.lshl, 1)) (kk : zV l X0 D B own mn cc nL ret R post k n L nx (pc + 1) lv (.long (x <<< (y.toInt64 &&& 63)) :: st) G) : zV l X0 D B own mn cc nL ret R post k n L nx pc lv (.int y :: .long x :: st) G :=
  fun p e s m args below meth c H locs ls Q hX hR hl hW hS => lv_lshl hX.1 hX.2.1 hd rfl (kk p e s m args below meth c H locs ls Q hX hR hl hW hS)
theorem zv_i2l {x : Int32} (hd : decode cc pc = .ok (.i2l, 1)) (kk : zV l X0 D B own mn cc nL ret R post k n L nx (pc + 1) lv (.long x.toInt64 :: st) G) : zV l X0 D B own mn cc nL ret R post k n L nx pc lv (.int x :: st) G :=
  fun p e s m args below meth c H locs ls Q hX hR hl hW hS => lv_i2l hX.1 hX.2.1 hd rfl (kk p e s m args below meth c H locs ls Q hX hR hl hW hS)
theorem zv_l2i {x : Int64} (hd : decode cc pc = .ok (.l2i, 1)) (kk : zV l X0 D B own mn cc nL ret R post k n L nx (pc + 1) lv (.int x.toInt32 :: st) G) : zV l X0 D B own mn cc nL ret R post k n L nx pc lv (.long x :: st) G :=
  fun p e s m args below meth c H locs ls Q hX hR hl hW hS => lv_l2i hX.1 hX.2.1 hd rfl (kk p e s m args below meth c H locs ls Q hX hR hl hW hS)
theorem zv_i2c {x : Int32} (hd : decode cc pc = .ok (.i2c, 1)) (kk : zV l X0 D B own mn cc nL ret R post k n L nx (pc + 1) lv (.int (x.toUInt32 % 65536).toInt32 :: st) G) : zV l X0 D B own mn cc nL ret R post k n L nx pc lv (.int x :: st) G :=
  fun p e s m args below meth c H locs ls Q hX hR hl hW hS => lv_i2c hX.1 hX.2.1 hd rfl (kk p e s m args below meth c H locs ls Q hX hR hl hW hS)
theorem zv_lcmp {x y : Int64} (hd : decode cc pc = .ok (.lcmp, 1)) (kk : zV l X0 D B own mn cc nL ret R post k n L nx (pc + 1) lv (.int (lg_cmp x y) :: st) G) : zV l X0 D B own mn cc nL ret R post k n L nx pc lv (.long y :: .long x :: st) G :=
  fun p e s m args below meth c H locs ls Q hX hR hl hW hS => W.lcmp hX.1 hX.2.1 hd (kk p e s m args below meth c H locs ls Q hX hR hl hW hS)
theorem zv_dup {w : Value} (hd : decode cc pc = .ok (.dup, 1)) (hw : w.category = 1) (kk : zV l X0 D B own mn cc nL ret R post k n L nx (pc + 1) lv (w :: w :: st) G) : zV l X0 D B own mn cc nL ret R post k n L nx pc lv (w :: st) G :=
  fun p e s m args below meth c H locs ls Q hX hR hl hW hS => lv_dup hX.1 hX.2.1 hd hw (kk p e s m args below meth c H locs ls Q hX hR hl hW hS)
theorem zv_pop {w : Value} (hd : decode cc pc = .ok (.pop, 1)) (hw : w.category = 1) (kk : zV l X0 D B own mn cc nL ret R post k n L nx (pc + 1) lv (st) G) : zV l X0 D B own mn cc nL ret R post k n L nx pc lv (w :: st) G :=
  fun p e s m args below meth c H locs ls Q hX hR hl hW hS => lv_pop hX.1 hX.2.1 hd hw (kk p e s m args below meth c H locs ls Q hX hR hl hW hS)
theorem zv_dup2 {w v : Value} (hd : decode cc pc = .ok (.dup2, 1)) (hw : w.category = 1) (hv : v.category = 1) (kk : zV l X0 D B own mn cc nL ret R post k n L nx (pc + 1) lv (w :: v :: w :: v :: st) G) : zV l X0 D B own mn cc nL ret R post k n L nx pc lv (w :: v :: st) G :=
  fun p e s m args below meth c H locs ls Q hX hR hl hW hS => lv_dup2_11 hX.1 hX.2.1 hd hw hv (kk p e s m args below meth c H locs ls Q hX hR hl hW hS)
theorem zv_ifnull_r {x : Nat} {off : Int} (hd : decode cc pc = .ok (.ifnull off, 3)) (kk : zV l X0 D B own mn cc nL ret R post k n L nx (pc + 3) lv (st) G) : zV l X0 D B own mn cc nL ret R post k n L nx pc lv (.ref x :: st) G :=
  fun p e s m args below meth c H locs ls Q hX hR hl hW hS => lv_ifnull hX.1 hX.2.1 hd (kk p e s m args below meth c H locs ls Q hX hR hl hW hS)
theorem zv_ifnonnull_n {off : Int} (hd : decode cc pc = .ok (.ifnonnull off, 3)) (kk : zV l X0 D B own mn cc nL ret R post k n L nx (pc + 3) lv (st) G) : zV l X0 D B own mn cc nL ret R post k n L nx pc lv (.null :: st) G :=
  fun p e s m args below meth c H locs ls Q hX hR hl hW hS => lv_ifnonnullN hX.1 hX.2.1 hd (kk p e s m args below meth c H locs ls Q hX hR hl hW hS)
theorem zv_goto {off : Int} {tgt : Nat} (hd : decode cc pc = .ok (.goto off, 3)) (ht : (pc : Int) + off = (tgt : Int)) (kk : zV l X0 D B own mn cc nL ret R post k n L nx tgt lv st G) : zV l X0 D B own mn cc nL ret R post k n L nx pc lv (st) G :=
  fun p e s m args below meth c H locs ls Q hX hR hl hW hS => lv_goto hX.1 hX.2.1 hd ht (kk p e s m args below meth c H locs ls Q hX hR hl hW hS)
theorem zv_ifnonnull_r {x : Nat} {off : Int} {tgt : Nat} (hd : decode cc pc = .ok (.ifnonnull off, 3)) (ht : (pc : Int) + off = (tgt : Int)) (kk : zV l X0 D B own mn cc nL ret R post k n L nx tgt lv st G) : zV l X0 D B own mn cc nL ret R post k n L nx pc lv (.ref x :: st) G :=
  fun p e s m args below meth c H locs ls Q hX hR hl hW hS => lv_ifnonnull hX.1 hX.2.1 hd ht (kk p e s m args below meth c H locs ls Q hX hR hl hW hS)
theorem zv_ifnull_n {off : Int} {tgt : Nat} (hd : decode cc pc = .ok (.ifnull off, 3)) (ht : (pc : Int) + off = (tgt : Int)) (kk : zV l X0 D B own mn cc nL ret R post k n L nx tgt lv st G) : zV l X0 D B own mn cc nL ret R post k n L nx pc lv (.null :: st) G :=
  fun p e s m args below meth c H locs ls Q hX hR hl hW hS => lv_ifnullN hX.1 hX.2.1 hd ht (kk p e s m args below meth c H locs ls Q hX hR hl hW hS)
theorem zv_tableIn {x : Int32} {dflt lo hi : Int} {offs : Array Int} {len : Nat} {off : Int} {tgt : Nat} (hd : decode cc pc = .ok (.tableswitch dflt lo hi offs, len)) (h1 : ¬ x.toInt < lo) (h2 : ¬ hi < x.toInt) (ho : offs[(x.toInt - lo).toNat]? = some off) (ht : (pc : Int) + off = (tgt : Int)) (kk : zV l X0 D B own mn cc nL ret R post k n L nx tgt lv st G) : zV l X0 D B own mn cc nL ret R post k n L nx pc lv (.int x :: st) G :=
  fun p e s m args below meth c H locs ls Q hX hR hl hW hS => lv_tableIn hX.1 hX.2.1 hd h1 h2 ho ht (kk p e s m args below meth c H locs ls Q hX hR hl hW hS)
theorem zv_tableOut {x : Int32} {off lo hi : Int} {offs : Array Int} {len : Nat} {tgt : Nat} (hd : decode cc pc = .ok (.tableswitch off lo hi offs, len)) (h1 : x.toInt < lo ∨ hi < x.toInt) (ht : (pc : Int) + off = (tgt : Int)) (kk : zV l X0 D B own mn cc nL ret R post k n L nx tgt lv st G) : zV l X0 D B own mn cc nL ret R post k n L nx pc lv (.int x :: st) G :=
  fun p e s m args below meth c H locs ls Q hX hR hl hW hS => lv_tableOut hX.1 hX.2.1 hd h1 ht (kk p e s m args below meth c H locs ls Q hX hR hl hW hS)
theorem zv_lookup {x : Int32} {dflt : Int} {ps : Array (Int × Int)} {len : Nat} {off : Int} {tgt : Nat} (hd : decode cc pc = .ok (.lookupswitch dflt ps, len)) (hp : (ps.toList.zip (ps.toList.drop 1)).all (fun (a, next) => a.1 < next.1) = true) (ho : Op.lookupswitch.offset ps.toList dflt x.toInt = off) (ht : (pc : Int) + off = (tgt : Int)) (kk : zV l X0 D B own mn cc nL ret R post k n L nx tgt lv st G) : zV l X0 D B own mn cc nL ret R post k n L nx pc lv (.int x :: st) G :=
  fun p e s m args below meth c H locs ls Q hX hR hl hW hS => lv_lookup hX.1 hX.2.1 hd hp ho ht (kk p e s m args below meth c H locs ls Q hX hR hl hW hS)
theorem zv_if_eq {x : Int32} {off : Int} {tgt : Nat} (hd : decode cc pc = .ok (.ifCond .eq off, 3)) (ht : (pc : Int) + off = (tgt : Int)) (kt : x = 0 → zV l X0 D B own mn cc nL ret R post k n L nx tgt lv st G) (kf : ¬ x = 0 → zV l X0 D B own mn cc nL ret R post k n L nx (pc + 3) lv st G) : zV l X0 D B own mn cc nL ret R post k n L nx pc lv (.int x :: st) G :=
  fun p e s m args below meth c H locs ls Q hX hR hl hW hS => lv_if_eq hX.1 hX.2.1 hd ht (fun h => kt h p e s m args below meth c H locs ls Q hX hR hl hW hS) (fun h => kf h p e s m args below meth c H locs ls Q hX hR hl hW hS)
theorem zv_if_lt {x : Int32} {off : Int} {tgt : Nat} (hd : decode cc pc = .ok (.ifCond .lt off, 3)) (ht : (pc : Int) + off = (tgt : Int)) (kt : x < 0 → zV l X0 D B own mn cc nL ret R post k n L nx tgt lv st G) (kf : ¬ x < 0 → zV l X0 D B own mn cc nL ret R post k n L nx (pc + 3) lv st G) : zV l X0 D B own mn cc nL ret R post k n L nx pc lv (.int x :: st) G :=
  fun p e s m args below meth c H locs ls Q hX hR hl hW hS => lv_if_lt hX.1 hX.2.1 hd ht (fun h => kt h p e s m args below meth c H locs ls Q hX hR hl hW hS) (fun h => kf h p e s m args below meth c H locs ls Q hX hR hl hW hS)
theorem zv_if_ge {x : Int32} {off : Int} {tgt : Nat} (hd : decode cc pc = .ok (.ifCond .ge off, 3)) (ht : (pc : Int) + off = (tgt : Int)) (kt : 0 ≤ x → zV l X0 D B own mn cc nL ret R post k n L nx tgt lv st G) (kf : ¬ 0 ≤ x → zV l X0 D B own mn cc nL ret R post k n L nx (pc + 3) lv st G) : zV l X0 D B own mn cc nL ret R post k n L nx pc lv (.int x :: st) G :=
  fun p e s m args below meth c H locs ls Q hX hR hl hW hS => lv_if_ge hX.1 hX.2.1 hd ht (fun h => kt h p e s m args below meth c H locs ls Q hX hR hl hW hS) (fun h => kf h p e s m args below meth c H locs ls Q hX hR hl hW hS)
theorem zv_if_gt {x : Int32} {off : Int} {tgt : Nat} (hd : decode cc pc = .ok (.ifCond .gt off, 3)) (ht : (pc : Int) + off = (tgt : Int)) (kt : 0 < x → zV l X0 D B own mn cc nL ret R post k n L nx tgt lv st G) (kf : ¬ 0 < x → zV l X0 D B own mn cc nL ret R post k n L nx (pc + 3) lv st G) : zV l X0 D B own mn cc nL ret R post k n L nx pc lv (.int x :: st) G :=
  fun p e s m args below meth c H locs ls Q hX hR hl hW hS => lv_if_gt hX.1 hX.2.1 hd ht (fun h => kt h p e s m args below meth c H locs ls Q hX hR hl hW hS) (fun h => kf h p e s m args below meth c H locs ls Q hX hR hl hW hS)
theorem zv_if_le {x : Int32} {off : Int} {tgt : Nat} (hd : decode cc pc = .ok (.ifCond .le off, 3)) (ht : (pc : Int) + off = (tgt : Int)) (kt : x ≤ 0 → zV l X0 D B own mn cc nL ret R post k n L nx tgt lv st G) (kf : ¬ x ≤ 0 → zV l X0 D B own mn cc nL ret R post k n L nx (pc + 3) lv st G) : zV l X0 D B own mn cc nL ret R post k n L nx pc lv (.int x :: st) G :=
  fun p e s m args below meth c H locs ls Q hX hR hl hW hS => lv_if_le hX.1 hX.2.1 hd ht (fun h => kt h p e s m args below meth c H locs ls Q hX hR hl hW hS) (fun h => kf h p e s m args below meth c H locs ls Q hX hR hl hW hS)
theorem zv_icmp_eq {x y : Int32} {off : Int} {tgt : Nat} (hd : decode cc pc = .ok (.if_icmp .eq off, 3)) (ht : (pc : Int) + off = (tgt : Int)) (kt : x = y → zV l X0 D B own mn cc nL ret R post k n L nx tgt lv st G) (kf : ¬ x = y → zV l X0 D B own mn cc nL ret R post k n L nx (pc + 3) lv st G) : zV l X0 D B own mn cc nL ret R post k n L nx pc lv (.int y :: .int x :: st) G :=
  fun p e s m args below meth c H locs ls Q hX hR hl hW hS => lv_icmp_eq hX.1 hX.2.1 hd ht (fun h => kt h p e s m args below meth c H locs ls Q hX hR hl hW hS) (fun h => kf h p e s m args below meth c H locs ls Q hX hR hl hW hS)
theorem zv_icmp_lt {x y : Int32} {off : Int} {tgt : Nat} (hd : decode cc pc = .ok (.if_icmp .lt off, 3)) (ht : (pc : Int) + off = (tgt : Int)) (kt : x < y → zV l X0 D B own mn cc nL ret R post k n L nx tgt lv st G) (kf : ¬ x < y → zV l X0 D B own mn cc nL ret R post k n L nx (pc + 3) lv st G) : zV l X0 D B own mn cc nL ret R post k n L nx pc lv (.int y :: .int x :: st) G :=
  fun p e s m args below meth c H locs ls Q hX hR hl hW hS => lv_icmp_lt hX.1 hX.2.1 hd ht (fun h => kt h p e s m args below meth c H locs ls Q hX hR hl hW hS) (fun h => kf h p e s m args below meth c H locs ls Q hX hR hl hW hS)
theorem zv_icmp_ge {x y : Int32} {off : Int} {tgt : Nat} (hd : decode cc pc = .ok (.if_icmp .ge off, 3)) (ht : (pc : Int) + off = (tgt : Int)) (kt : y ≤ x → zV l X0 D B own mn cc nL ret R post k n L nx tgt lv st G) (kf : ¬ y ≤ x → zV l X0 D B own mn cc nL ret R post k n L nx (pc + 3) lv st G) : zV l X0 D B own mn cc nL ret R post k n L nx pc lv (.int y :: .int x :: st) G :=
  fun p e s m args below meth c H locs ls Q hX hR hl hW hS => lv_icmp_ge hX.1 hX.2.1 hd ht (fun h => kt h p e s m args below meth c H locs ls Q hX hR hl hW hS) (fun h => kf h p e s m args below meth c H locs ls Q hX hR hl hW hS)
theorem zv_icmp_gt {x y : Int32} {off : Int} {tgt : Nat} (hd : decode cc pc = .ok (.if_icmp .gt off, 3)) (ht : (pc : Int) + off = (tgt : Int)) (kt : y < x → zV l X0 D B own mn cc nL ret R post k n L nx tgt lv st G) (kf : ¬ y < x → zV l X0 D B own mn cc nL ret R post k n L nx (pc + 3) lv st G) : zV l X0 D B own mn cc nL ret R post k n L nx pc lv (.int y :: .int x :: st) G :=
  fun p e s m args below meth c H locs ls Q hX hR hl hW hS => lv_icmp_gt hX.1 hX.2.1 hd ht (fun h => kt h p e s m args below meth c H locs ls Q hX hR hl hW hS) (fun h => kf h p e s m args below meth c H locs ls Q hX hR hl hW hS)
theorem zv_icmp_le {x y : Int32} {off : Int} {tgt : Nat} (hd : decode cc pc = .ok (.if_icmp .le off, 3)) (ht : (pc : Int) + off = (tgt : Int)) (kt : x ≤ y → zV l X0 D B own mn cc nL ret R post k n L nx tgt lv st G) (kf : ¬ x ≤ y → zV l X0 D B own mn cc nL ret R post k n L nx (pc + 3) lv st G) : zV l X0 D B own mn cc nL ret R post k n L nx pc lv (.int y :: .int x :: st) G :=
  fun p e s m args below meth c H locs ls Q hX hR hl hW hS => lv_icmp_le hX.1 hX.2.1 hd ht (fun h => kt h p e s m args below meth c H locs ls Q hX hR hl hW hS) (fun h => kf h p e s m args below meth c H locs ls Q hX hR hl hW hS)
theorem zv_if_ne {x : Int32} {off : Int} {tgt : Nat} (hd : decode cc pc = .ok (.ifCond .ne off, 3)) (ht : (pc : Int) + off = (tgt : Int)) (kt : ¬ x = 0 → zV l X0 D B own mn cc nL ret R post k n L nx tgt lv st G) (kf : x = 0 → zV l X0 D B own mn cc nL ret R post k n L nx (pc + 3) lv st G) : zV l X0 D B own mn cc nL ret R post k n L nx pc lv (.int x :: st) G :=
  fun p e s m args below meth c H locs ls Q hX hR hl hW hS => lv_if_ne hX.1 hX.2.1 hd ht (fun h => kt h p e s m args below meth c H locs ls Q hX hR hl hW hS) (fun h => kf (by first | exact h | exact Classical.not_not.mp h) p e s m args below meth c H locs ls Q hX hR hl hW hS)
theorem zv_icmp_ne {x y : Int32} {off : Int} {tgt : Nat} (hd : decode cc pc = .ok (.if_icmp .ne off, 3)) (ht : (pc : Int) + off = (tgt : Int)) (kt : ¬ x = y → zV l X0 D B own mn cc nL ret R post k n L nx tgt lv st G) (kf : x = y → zV l X0 D B own mn cc nL ret R post k n L nx (pc + 3) lv st G) : zV l X0 D B own mn cc nL ret R post k n L nx pc lv (.int y :: .int x :: st) G :=
  fun p e s m args below meth c H locs ls Q hX hR hl hW hS => lv_icmp_ne hX.1 hX.2.1 hd ht (fun h => kt h p e s m args below meth c H locs ls Q hX hR hl hW hS) (fun h => kf (by first | exact h | exact Classical.not_not.mp h) p e s m args below meth c H locs ls Q hX hR hl hW hS)
theorem zv_widen {k' n' : Nat} (h1 : k ≤ k') (h2 : n ≤ n') (kk : zV l X0 D B own mn cc nL ret R post k' n' L nx pc lv st G) : zV l X0 D B own mn cc nL ret R post k n L nx pc lv st G :=
  fun p e s m args below meth c H locs ls Q hX hR hl hW hS => W.widen h1 h2 (kk p e s m args below meth c H locs ls Q hX hR hl hW hS)
theorem zv_eqG {G' : zG} (h : G = G') (kk : zV l X0 D B own mn cc nL ret R post k n L nx pc lv st G') : zV l X0 D B own mn cc nL ret R post k n L nx pc lv st G := h ▸ kk
theorem zv_st {st' : List Value} (h : st = st') (kk : zV l X0 D B own mn cc nL ret R post k n L nx pc lv st' G) : zV l X0 D B own mn cc nL ret R post k n L nx pc lv st G := h ▸ kk
theorem zv_lv {lv' : List (Option Value)} (h : lv = lv') (kk : zV l X0 D B own mn cc nL ret R post k n L nx pc lv' st G) : zV l X0 D B own mn cc nL ret R post k n L nx pc lv st G := h ▸ kk
end ZROWS
end
section
def zst (G : zG) (q : Nat) (f : Nat → Int32) : zG := fun x => if x = q then f else G x
theorem zst_same (G : zG) (q : Nat) (f : Nat → Int32) : zst G q f q = f := by simp [zst]
theorem zst_ne (G : zG) {q r : Nat} (f : Nat → Int32) (h : r ≠ q) : zst G q f r = G r := by simp [zst, h]
theorem zst_zst (G : zG) (q : Nat) (f g : Nat → Int32) : zst (zst G q f) q g = zst G q g := by
  funext x; by_cases h : x = q <;> simp [zst, h]
theorem zst_self (G : zG) (q : Nat) : zst G q (G q) = G := by
  funext x; by_cases h : x = q <;> simp [zst, h]
theorem zst_comm (G : zG) {q r : Nat} (f g : Nat → Int32) (h : q ≠ r) : zst (zst G q f) r g = zst (zst G r g) q f := by
  funext x
  by_cases h1 : x = q
  · subst h1; simp [zst, h]
  · by_cases h2 : x = r
    · subst h2; simp [zst, h1]
    · simp [zst, h1, h2]
theorem zpl_at {L : zL} {q t rel i : Nat} {cd : zCD} (hq : (q, t) ∈ L) (hi : (zbT t)[i]? = some (rel, cd)) : ∃ k : Nat, (zpl L)[k]? = some (q, rel, cd) :=
  List.getElem?_of_mem (List.mem_flatMap.mpr ⟨(q, t), hq, List.mem_map.mpr ⟨(rel, cd), List.mem_of_getElem? hi, rfl⟩⟩)
theorem zcs_at {D : zD} {L : zL} {G : zG} {k q rel : Nat} {cd : zCD} (h : (zpl L)[k]? = some (q, rel, cd)) : (zcs D L G)[k]? = some (q + rel, zce D q (G q) cd) := by
  unfold zcs
  rw [List.getElem?_map, h]
  rfl
def zlead : List Nat → Nat
  | [] => 0
  | z :: r => if zlead r = 0 then (if z < 2 then 1 else 0) else zlead r + 1
theorem zlead_at : ∀ {l : List Nat} {k z : Nat}, l[k]? = some z → z < 2 → k < zlead l
  | [], k, z, h, _ => by simp at h
  | a :: r, 0, z, h, hz => by
    simp at h
    subst h
    unfold zlead
    split <;> simp_all
  | a :: r, k + 1, z, h, hz => by
    have h1 : r[k]? = some z := by simpa using h
    have h2 := zlead_at h1 hz
    unfold zlead
    rw [if_neg (by omega)]
    omega
def zrg : zCD → Nat × Nat
  | .inl c => (0, zlead c.2)
  | .inr c => (c.2.2.1, c.2.2.1 + c.2.1)
theorem zfl_congr {q : Nat} {f g : Nat → Int32} : ∀ (l : List Nat) (s : Nat), (∀ j, s ≤ j → j < s + zlead l → f j = g j) → zfl q f s l = zfl q g s l
  | [], _, _ => rfl
  | z :: r, s, h => by
    have hl : zlead r = 0 ∨ zlead (z :: r) = zlead r + 1 := by
      by_cases h0 : zlead r = 0
      · exact Or.inl h0
      · exact Or.inr (by simp [zlead, h0])
    have h1 := zfl_congr (q := q) (f := f) (g := g) r (s + 1) (fun j a b => h j (by omega) (by rcases hl with hl | hl <;> omega))
    have h2 : zfv q f s z = zfv q g s z := by
      by_cases hz : z < 2
      · have h0 : f s = g s := h s (Nat.le_refl _) (by
          have := zlead_at (l := z :: r) (k := 0) (z := z) rfl hz
          omega)
        match z, hz with
        | 0, _ => simp [zfv, h0]
        | 1, _ => simp [zfv, h0]
      · match z, hz with
        | k + 2, _ => rfl
    simp [zfl, h1, h2]
theorem zce_congr {D : zD} {q : Nat} {f g : Nat → Int32} : ∀ {cd : zCD}, (∀ j, (zrg cd).1 ≤ j → j < (zrg cd).2 → f j = g j) → zce D q f cd = zce D q g cd
  | .inl c, h => by
    show Sum.inr (c.1, zfl q f 0 c.2) = Sum.inr (c.1, zfl q g 0 c.2)
    rw [zfl_congr c.2 0 (fun j a b => h j a (by simpa [zrg] using b))]
  | .inr (ta, n, off, a, b), h => by
    have h' : ∀ j, j < n → f (off + j) = g (off + j) := fun j hj => h (off + j) (by simp [zrg]) (by simp [zrg]; omega)
    have e1 : zai n off f = zai n off g := by
      funext j
      by_cases hj : j < n <;> simp [zai, hj]
      exact h' j hj
    have e2 : zar q n off a b f = zar q n off a b g := by
      funext j
      by_cases hj : j < n <;> simp [zar, hj]
      rw [h' j hj]
    simp only [zce, zac, e1, e2]
def zokb (t : Nat) : Bool := (zbT t).all fun c => (zbT t).all fun d => c.1 == d.1 || decide ((zrg c.2).2 ≤ (zrg d.2).1) || decide ((zrg d.2).2 ≤ (zrg c.2).1)
set_option maxRecDepth 100000 in
theorem zok : ∀ t, zokb t = true := by
  intro t
  unfold zokb zbT
  split <;> first | decide +kernel | skip
  split <;> simp
theorem zok_at {t rel r : Nat} {cd c : zCD} (h : (rel, cd) ∈ zbT t) (h2 : (r, c) ∈ zbT t) (hne : r ≠ rel) : (zrg cd).2 ≤ (zrg c).1 ∨ (zrg c).2 ≤ (zrg cd).1 := by
  have h0 := zok t
  unfold zokb at h0
  have h3 := List.all_eq_true.mp (List.all_eq_true.mp h0 _ h) _ h2
  simp only [Bool.or_eq_true, beq_iff_eq, decide_eq_true_eq] at h3
  rcases h3 with (h3 | h3) | h3
  · exact absurd h3.symm hne
  · exact Or.inl h3
  · exact Or.inr h3
theorem zpl_mem {L : zL} {q rel : Nat} {cd : zCD} (h : (q, rel, cd) ∈ zpl L) : ∃ t, (q, t) ∈ L ∧ (rel, cd) ∈ zbT t := by
  obtain ⟨b, hb, h⟩ := List.mem_flatMap.mp h
  obtain ⟨c, hc, h⟩ := List.mem_map.mp h
  cases h
  exact ⟨b.2, hb, hc⟩
/-- a write into one cell of a blob -/
theorem zcs_set {D : zD} {B : Nat} {L : zL} {nx : Nat} {G : zG} {q t rel k i : Nat} {cd : zCD} {f : Nat → Int32} (hD : va_D (fun q => B ≤ q) (zcs D L G)) (hf : zfun L nx) (hq : (q, t) ∈ L) (hi : (zbT t)[i]? = some (rel, cd)) (hk : (zpl L)[k]? = some (q, rel, cd))
    (hs : ∀ j, ¬ ((zrg cd).1 ≤ j ∧ j < (zrg cd).2) → f j = G q j) : zcs D L (zst G q f) = (zcs D L G).set k (q + rel, zce D q f cd) := by
  apply List.ext_getElem?
  intro j
  rw [List.getElem?_set]
  by_cases hj : k = j
  · subst hj
    rw [if_pos rfl, zcs_at hk, zst_same]
    have hl : k < (zcs D L G).length := (List.getElem?_eq_some_iff.mp (zcs_at (D := D) (G := G) hk)).1
    rw [if_pos hl]
  · rw [if_neg hj]
    cases hp : (zpl L)[j]? with
    | none => simp [zcs, hp]
    | some p =>
      obtain ⟨q', rel', cd'⟩ := p
      rw [zcs_at hp, zcs_at hp]
      by_cases hqq : q' = q
      · subst hqq
        obtain ⟨t', ht', hc'⟩ := zpl_mem (List.mem_of_getElem? hp)
        have htt : t' = t := hf.1 _ _ _ ht' hq
        subst htt
        have hrr : rel' ≠ rel := fun e => by
          subst e
          exact hj (hD.1 k j _ _ (zcs_at hk) (zcs_at hp) rfl)
        rw [zst_same]
        have h3 := zok_at (List.mem_of_getElem? hi) hc' hrr
        rw [zce_congr (g := G q') (fun j' a b => hs j' (by omega))]
      · rw [zst_ne _ _ hqq]
theorem zW_of {D : zD} {B : Nat} {L : zL} {nx : Nat} {G : zG} {H H1 : Heap} {q t rel k i : Nat} {cd : zCD} {f : Nat → Int32} (hW : zW D B L nx G H) (hq : (q, t) ∈ L) (hi : (zbT t)[i]? = some (rel, cd)) (hk : (zpl L)[k]? = some (q, rel, cd))
    (hs : ∀ j, ¬ ((zrg cd).1 ≤ j ∧ j < (zrg cd).2) → f j = G q j) (z : H1.size = H.size) (hP : va_P D.1 vwCl ((zcs D L G).set k (q + rel, zce D q f cd)) H1) : zW D B L nx (zst G q f) H1 := by
  obtain ⟨h1, h2, h3, h4⟩ := hW
  have e := zcs_set h3 h4 hq hi hk hs
  refine ⟨z.trans h1, by rw [e]; exact hP, ?_, h4⟩
  rw [e]
  exact h3.set (zcs_at hk)
theorem zfl_get {q : Nat} {f : Nat → Int32} : ∀ {l : List Nat} {k s z : Nat}, l[k]? = some z → (zfl q f s l)[k]? = some (zfv q f (s + k) z)
  | [], k, s, z, h => by simp at h
  | a :: r, 0, s, z, h => by
    simp at h
    subst h
    rfl
  | a :: r, k + 1, s, z, h => by
    have h1 : r[k]? = some z := by simpa using h
    have h2 := zfl_get (q := q) (f := f) (s := s + 1) h1
    rw [show s + (k + 1) = s + 1 + k by omega]
    simpa [zfl] using h2
theorem zfl_len {q : Nat} {f : Nat → Int32} : ∀ {l : List Nat} {s : Nat}, (zfl q f s l).length = l.length
  | [], _ => rfl
  | a :: r, s => by simp [zfl, zfl_len (l := r) (s := s + 1)]
theorem zfl_set {q : Nat} {f : Nat → Int32} {v : Int32} : ∀ {l : List Nat} {k s z : Nat}, l[k]? = some z → zfl q (upd f (s + k) v) s l = (zfl q f s l).set k (zfv q (upd f (s + k) v) (s + k) z)
  | [], k, s, z, h => by simp at h
  | a :: r, 0, s, z, h => by
    simp at h
    subst h
    have h1 := zfl_congr (q := q) (f := upd f (s + 0) v) (g := f) r (s + 1) (fun j a b => by simp only [upd]; rw [if_neg (by omega)])
    simp only [Nat.add_zero] at h1
    simp [zfl, h1]
  | a :: r, k + 1, s, z, h => by
    have h1 : r[k]? = some z := by simpa using h
    have h2 := zfl_set (q := q) (f := f) (v := v) (s := s + 1) h1
    have e : s + (k + 1) = s + 1 + k := by omega
    rw [e]
    have h0 : zfv q (upd f (s + 1 + k) v) s a = zfv q f s a := by
      have h5 : upd f (s + 1 + k) v s = f s := by simp only [upd]; rw [if_neg (by omega)]
      match a with
      | 0 => simp [zfv, h5]
      | 1 => simp [zfv, h5]
      | b + 2 => rfl
    simp only [zfl, List.set_cons_succ, h0]
    rw [h2]
def zFL (own : String) (ix ci k : Nat) : Prop := ∃ (C : String) (T : u_T) (N : Nat), vwCl[ci]? = some (C, T, N) ∧ k < N ∧ Cond.fieldLink own ix (T k).1 (T k).2.1 (T k).2.2.1 ∈ zgw ∧ ∀ w ∈ u_ws C T N, w ∈ zgw
def zFLN (own : String) (ix ci k : Nat) : Prop := ∃ (C : String) (T : u_T) (N : Nat) (host : String), vwCl[ci]? = some (C, T, N) ∧ k < N ∧ Cond.fieldLinkNest own ix (T k).1 (T k).2.1 (T k).2.2.1 host ∈ zbw ∧ ∀ w ∈ u_ws C T N, w ∈ zgw
def zFT (own : String) (ci k : Nat) (ty : FieldType) (fin : Bool) : Prop := ∃ (C : String) (T : u_T) (N : Nat) (ty0 : Nat → FieldType), vwCl[ci]? = some (C, T, N) ∧ (∀ k, k < N → parseFieldDescriptor (T k).2.2.1 = some (ty0 k)) ∧ (∀ a, a < N → ∀ b, b < N → a ≠ b → (T a).2.1 ≠ (T b).2.1) ∧ (T k).2.2.2 = fin ∧ parseFieldDescriptor (T k).2.2.1 = some ty ∧ (fin = true → (T k).1 = own)
/-- the words of a call: link, code, class -/
def zML (own : String) (ix : Nat) (y : MethodName) (cc' : ByteArray) (nL' : Nat) (ret' : Option FieldType) (np : Nat) : Prop :=
  Cond.methodLink own ix y ∈ zgw ∧ Cond.code y cc' nL' ret' ∈ zgw ∧ Cond.initialized y.cls ∈ zgw ∧ y.cls ≠ "java/lang/invoke/MethodHandle" ∧ y.cls ≠ "java/lang/invoke/VarHandle" ∧ (parseMethodDescriptor y.desc).map (fun d => d.parameters.length) = some np
def zMLN (own : String) (ix : Nat) (y : MethodName) (cc' : ByteArray) (nL' : Nat) (ret' : Option FieldType) (np : Nat) : Prop :=
  (∃ host : String, Cond.methodLinkNest own ix y host ∈ zbw) ∧ Cond.code y cc' nL' ret' ∈ zgw ∧ Cond.initialized y.cls ∈ zgw ∧ y.cls ≠ "java/lang/invoke/MethodHandle" ∧ y.cls ≠ "java/lang/invoke/VarHandle" ∧ (parseMethodDescriptor y.desc).map (fun d => d.parameters.length) = some np
def zix (j : Int32) (i n : Nat) : Prop := ¬ j < 0 ∧ j.toNatClampNeg = i ∧ i < n
theorem zix_in {j : Int32} {i n : Nat} (h : zix j i n) : vp_in j n := by
  rintro (h1 | h1)
  · exact h.1 h1
  · rw [h.2.1] at h1
    exact absurd h.2.2 (Nat.not_lt.mpr h1)
theorem zix_nI {i n : Nat} (h : i < n) (hn : n < 2 ^ 31) : zix (nI i) i n := by
  have h1 := vp_in_nI h (by omega : n < 2 ^ 31)
  exact ⟨fun h2 => h1 (Or.inl h2), nI_clamp (by omega), h⟩
section ZMEM
variable {l : Launch} {X0 : State → Prop} {D : zD} {B : Nat} {own mn : String} {cc : ByteArray} {nL : Nat} {ret : Option FieldType} {R : Room} {post : zP} {k n : Nat} {L : zL} {nx : Nat} {pc : Nat} {lv : List (Option Value)} {st : List Value} {G : zG}
theorem zv_get {q t ci fk ix f : Nat} {fks : List Nat} (hq : (q, t) ∈ L) (ho : (zbT t)[0]? = some (0, .inl (ci, fks))) (fl : zFL own ix ci f) (hk : fks[f]? = some fk) (hd : decode cc pc = .ok (.getfield ix, 3))
    (kk : zV l X0 D B own mn cc nL ret R post k n L nx (pc + 3) lv (zfv q (G q) f fk :: st) G) : zV l X0 D B own mn cc nL ret R post k n L nx pc lv (.ref q :: st) G := by
  intro p e s m args below meth c H locs ls Q hX hR hl hW hS
  obtain ⟨C, T, N, h1, h2, h3, h4⟩ := fl
  obtain ⟨k0, hk0⟩ := zpl_at hq ho
  have hz := zcs_at (D := D) (G := G) hk0
  exact va_get hX.1 hX.2.1 hX.2.2.2.2.1 h4 hX.2.2.2.1 hX.2.2.2.2.2.1 hW.2.1 k0 (fs := zfl q (G q) 0 fks) hz h1 f h2 (hX.2.2.2.2.1 _ h3) (fun x h => h) (by rw [zfl_get hk, Nat.zero_add]) hd (kk p e s m args below meth c H locs ls Q hX hR hl hW hS)
theorem zv_getI {q t ci ix f : Nat} {fks : List Nat} (hq : (q, t) ∈ L) (ho : (zbT t)[0]? = some (0, .inl (ci, fks))) (fl : zFL own ix ci f) (hk : fks[f]? = some 0) (hd : decode cc pc = .ok (.getfield ix, 3))
    (kk : zV l X0 D B own mn cc nL ret R post k n L nx (pc + 3) lv (.int (G q f) :: st) G) : zV l X0 D B own mn cc nL ret R post k n L nx pc lv (.ref q :: st) G := zv_get hq ho fl hk hd kk
theorem zv_getS {q t ci ix f r : Nat} {fks : List Nat} (hq : (q, t) ∈ L) (ho : (zbT t)[0]? = some (0, .inl (ci, fks))) (fl : zFL own ix ci f) (hk : fks[f]? = some (r + 2)) (hd : decode cc pc = .ok (.getfield ix, 3))
    (kk : zV l X0 D B own mn cc nL ret R post k n L nx (pc + 3) lv (.ref (q + r) :: st) G) : zV l X0 D B own mn cc nL ret R post k n L nx pc lv (.ref q :: st) G := zv_get hq ho fl hk hd kk
theorem zv_getD {q t ci ix f a : Nat} {fks : List Nat} (hq : (q, t) ∈ L) (ho : (zbT t)[0]? = some (0, .inl (ci, fks))) (fl : zFL own ix ci f) (hk : fks[f]? = some 1) (ha : zdr q (G q f) = some a) (hd : decode cc pc = .ok (.getfield ix, 3))
    (kk : zV l X0 D B own mn cc nL ret R post k n L nx (pc + 3) lv (.ref a :: st) G) : zV l X0 D B own mn cc nL ret R post k n L nx pc lv (.ref q :: st) G := zv_get hq ho fl hk hd (by show zV _ _ _ _ _ _ _ _ _ _ _ _ _ _ _ _ _ (va_rf (zdr q (G q f)) :: st) _; rw [ha]; exact kk)
theorem zv_getIN {q t ci ix f : Nat} {fks : List Nat} (hq : (q, t) ∈ L) (ho : (zbT t)[0]? = some (0, .inl (ci, fks))) (fl : zFLN own ix ci f) (hk : fks[f]? = some 0) (hd : decode cc pc = .ok (.getfield ix, 3))
    (kk : zV l X0 D B own mn cc nL ret R post k n L nx (pc + 3) lv (.int (G q f) :: st) G) : zV l X0 D B own mn cc nL ret R post k n L nx pc lv (.ref q :: st) G := by
  intro p e s m args below meth c H locs ls Q hX hR hl hW hS
  obtain ⟨C, T, N, host, h1, h2, h3, h4⟩ := fl
  obtain ⟨k0, hk0⟩ := zpl_at hq ho
  have hz := zcs_at (D := D) (G := G) hk0
  exact va_getN hX.1 hX.2.1 hX.2.2.2.2.1 h4 hX.2.2.2.1 hX.2.2.2.2.2.1 hW.2.1 k0 (fs := zfl q (G q) 0 fks) hz h1 f h2 (va_Nw.use rfl (hX.2.2.2.2.2.2.2.1 _ h3)) (fun x h => h) (v := .int (G q f)) (by rw [zfl_get hk, Nat.zero_add]; rfl) hd (kk p e s m args below meth c H locs ls Q hX hR hl hW hS)
theorem zv_put {q t ci fk ix f : Nat} {fks : List Nat} {w : Value} {v : Int32} {ty : FieldType} (hq : (q, t) ∈ L) (ho : (zbT t)[0]? = some (0, .inl (ci, fks))) (fl : zFL own ix ci f) {ow2 : String} (ft : zFT ow2 ci f ty false) (hk : fks[f]? = some fk) (hf2 : fk < 2) (hw : zfv q (upd (G q) f v) f fk = w) (hn : narrow ty w = w) (hfit : fits ty w = true) (hd : decode cc pc = .ok (.putfield ix, 3))
    (kk : zV l X0 D B own mn cc nL ret R post k n L nx (pc + 3) lv st (zst G q (upd (G q) f v))) : zV l X0 D B own mn cc nL ret R post k n L nx pc lv (w :: .ref q :: st) G := by
  intro p e s m args below meth c H locs ls Q hX hR hl hW hS
  obtain ⟨C, T, N, h1, h2, h3, h4⟩ := fl
  obtain ⟨C', T', N', ty0, g1, g2, g3, g4, g5, -⟩ := ft
  obtain ⟨rfl, rfl, rfl⟩ : C' = C ∧ T' = T ∧ N' = N := by
    have := g1.symm.trans h1
    simp only [Option.some.injEq, Prod.mk.injEq] at this
    exact this
  obtain ⟨k0, hk0⟩ := zpl_at hq ho
  have hz := zcs_at (D := D) (G := G) hk0
  have hlen : f < fks.length := (List.getElem?_eq_some_iff.mp hk).1
  have hlead : f < zlead fks := zlead_at hk (by omega)
  have hap := va_apart (own := own) hX.2.2.2.2.1 h4 ty0 g2 g3 hX.2.2.2.2.2.1 h1
  obtain ⟨r, r1, cell, q1, q2, q3, q4⟩ := hW.2.1 k0 _ hz
  have hr : r = (C', T', N') := Option.some.inj (r1.symm.trans h1)
  subst hr
  obtain ⟨hSl, hfc, kC, hkC, hkind⟩ := hX.2.2.2.2.2.1.1 ci _ h1
  obtain ⟨cf, kf, fi, fd, hi, hsl⟩ := hSl f h2
  have hlay := hX.2.2.2.2.1 _ (h4 _ (u_in_lay h2))
  unfold u_lay at hlay
  rw [if_neg (by rw [g4]; decide)] at hlay
  have hst := (u_facts hfc hkC (u_lays hX.2.2.2.2.1 h4 h2) hi).1
  have h6 := u_store hfc hkC hkind hlay hi g5 hn hfit
  refine W.putK hX.1 hX.2.1 (f := fd) ⟨hX.2.2.2.1, hX.2.2.2.2.1 _ h3, ⟨_, _, _, hi⟩, hst⟩ (by rw [q2]; exact h6) q1 q3 (by rw [hsl]; exact k2_hasslot (q4 f h2)) rfl rfl hd fun H' e1 e2 e3 => ?_
  rw [hsl] at e1 ⊢
  have hne : zfl q (upd (G q) f v) 0 fks = (zfl q (G q) 0 fks).set f w := by
    have := zfl_set (q := q) (f := G q) (v := v) (s := 0) hk
    rw [Nat.zero_add] at this
    rw [this, hw]
  have hP : va_P D.1 vwCl ((zcs D L G).set k0 (q + 0, zce D q (upd (G q) f v) (.inl (ci, fks)))) H' := by
    refine hW.2.1.set hW.2.2.1 hz ?_ e3
    refine ⟨_, h1, t_OB.to (V := updV (vp_V (zfl q (G q) 0 fks)) f w) ⟨_, e1, q2, q3, t_set q4 hap h2 w⟩ (fun j _ => ?_)⟩
    rw [vp_updV_set (by rw [zfl_len]; exact hlen) w j]
    show vp_V _ j = vp_V (zfl q (upd (G q) f v) 0 fks) j
    rw [hne]
  refine kk p e s m args below meth c H' _ ls Q hX hR hl (zW_of hW hq ho hk0 (fun j hj => ?_) e2 hP) (hS.put e2 e3 (hW.2.2.1.2 k0 _ hz))
  show upd (G q) f v j = G q j
  simp only [upd]
  rw [if_neg (fun e => hj (by rw [e]; exact ⟨Nat.zero_le _, hlead⟩))]
theorem zv_putI {q t ci ix f : Nat} {fks : List Nat} {v : Int32} (hq : (q, t) ∈ L) (ho : (zbT t)[0]? = some (0, .inl (ci, fks))) (fl : zFL own ix ci f) {ow2 : String} (ft : zFT ow2 ci f .int false) (hk : fks[f]? = some 0) (hd : decode cc pc = .ok (.putfield ix, 3))
    (kk : zV l X0 D B own mn cc nL ret R post k n L nx (pc + 3) lv st (zst G q (upd (G q) f v))) : zV l X0 D B own mn cc nL ret R post k n L nx pc lv (.int v :: .ref q :: st) G :=
  zv_put hq ho fl ft hk (by omega) (by simp [zfv, upd]) rfl rfl hd kk
theorem zv_putZ {q t ci ix f : Nat} {fks : List Nat} {v : Int32} (hq : (q, t) ∈ L) (ho : (zbT t)[0]? = some (0, .inl (ci, fks))) (fl : zFL own ix ci f) {ow2 : String} (ft : zFT ow2 ci f .boolean false) (hk : fks[f]? = some 0) (hv : v = 0 ∨ v = 1) (hd : decode cc pc = .ok (.putfield ix, 3))
    (kk : zV l X0 D B own mn cc nL ret R post k n L nx (pc + 3) lv st (zst G q (upd (G q) f v))) : zV l X0 D B own mn cc nL ret R post k n L nx pc lv (.int v :: .ref q :: st) G :=
  zv_put hq ho fl ft hk (by omega) (by simp [zfv, upd]) (by rcases hv with rfl | rfl <;> rfl) (by rcases hv with rfl | rfl <;> rfl) hd kk
theorem zv_putF {q t ci ix f a : Nat} {fks : List Nat} {C2 : String} {ty : FieldType} (hq : (q, t) ∈ L) (ho : (zbT t)[0]? = some (0, .inl (ci, fks))) (fl : zFL own ix ci f) (ft : zFT own ci f ty true) (hk : fks[f]? = some 1) (hini : mn = "<init>") (hty : (∃ C2, ty = .object C2) ∨ ∃ t2, ty = .array t2) (ha : q < a) (ha2 : a - q < 2 ^ 31) (hd : decode cc pc = .ok (.putfield ix, 3))
    (kk : zV l X0 D B own mn cc nL ret R post k n L nx (pc + 3) lv st (zst G q (upd (G q) f (nI (a - q))))) : zV l X0 D B own mn cc nL ret R post k n L nx pc lv (.ref a :: .ref q :: st) G := by
  intro p e s m args below meth c H locs ls Q hX hR hl hW hS
  obtain ⟨C, T, N, h1, h2, h3, h4⟩ := fl
  obtain ⟨C', T', N', ty0, g1, g2, g3, g4, g5, g6⟩ := ft
  obtain ⟨rfl, rfl, rfl⟩ : C' = C ∧ T' = T ∧ N' = N := by
    have := g1.symm.trans h1
    simp only [Option.some.injEq, Prod.mk.injEq] at this
    exact this
  obtain ⟨k0, hk0⟩ := zpl_at hq ho
  have hz := zcs_at (D := D) (G := G) hk0
  have hlen : f < fks.length := (List.getElem?_eq_some_iff.mp hk).1
  have hlead : f < zlead fks := zlead_at hk (by omega)
  have hap := va_apart (own := own) hX.2.2.2.2.1 h4 ty0 g2 g3 hX.2.2.2.2.2.1 h1
  obtain ⟨r, r1, cell, q1, q2, q3, q4⟩ := hW.2.1 k0 _ hz
  have hr : r = (C', T', N') := Option.some.inj (r1.symm.trans h1)
  subst hr
  obtain ⟨hSl, hfc, kC, hkC, hkind⟩ := hX.2.2.2.2.2.1.1 ci _ h1
  obtain ⟨cf, kf, fi, fd, hi, hsl⟩ := hSl f h2
  have hlay := hX.2.2.2.2.1 _ (h4 _ (u_in_lay h2))
  unfold u_lay at hlay
  rw [if_pos g4] at hlay
  have hst := (u_facts hfc hkC (u_lays hX.2.2.2.2.1 h4 h2) hi).1
  have hcf : m.cls = cf := by
    obtain ⟨_, _, c', _, _, _, -, -, hf', -, -, -, hown2, -⟩ := Cond.laysFinal_spec hlay
    have e1 : c' = cf := by have := hi.symm.trans hf'; simp at this; exact this.1.symm
    rw [g6 rfl] at hown2
    rw [← e1]; exact Option.some.inj (hX.2.2.2.1.symm.trans hown2)
  have hn : narrow ty (.ref a) = .ref a := by rcases hty with ⟨c2, rfl⟩ | ⟨c2, rfl⟩ <;> rfl
  have hfit : fits ty (.ref a) = true := by rcases hty with ⟨c2, rfl⟩ | ⟨c2, rfl⟩ <;> rfl
  have h6 := u_fits hfc hkC hkind (Or.inr hlay) hi g5 hn hfit
  refine W.putFinK hX.1 hX.2.1 hX.2.2.2.1 (hX.2.2.2.2.1 _ h3) hi hst hcf (hX.2.2.2.2.2.2.1.trans hini) (by rw [q2]; exact h6) q1 q3 (by rw [hsl]; exact k2_hasslot (q4 f h2)) rfl rfl hd fun H' e1 e2 e3 => ?_
  rw [hsl] at e1 ⊢
  have hw : zfv q (upd (G q) f (nI (a - q))) f 1 = .ref a := by
    have hc := nI_clamp (n := a - q) ha2
    have h0 : nI (a - q) ≠ 0 := fun h => by rw [h] at hc; simp at hc; omega
    have : zdr q (nI (a - q)) = some a := by
      unfold zdr
      rw [if_neg h0, hc]
      congr 1
      omega
    simp [zfv, upd, this, va_rf]
  have hne : zfl q (upd (G q) f (nI (a - q))) 0 fks = (zfl q (G q) 0 fks).set f (.ref a) := by
    have := zfl_set (q := q) (f := G q) (v := nI (a - q)) (s := 0) hk
    rw [Nat.zero_add] at this
    rw [this, hw]
  have hP : va_P D.1 vwCl ((zcs D L G).set k0 (q + 0, zce D q (upd (G q) f (nI (a - q))) (.inl (ci, fks)))) H' := by
    refine hW.2.1.set hW.2.2.1 hz ?_ e3
    refine ⟨_, h1, t_OB.to (V := updV (vp_V (zfl q (G q) 0 fks)) f (.ref a)) ⟨_, e1, q2, q3, t_set q4 hap h2 (.ref a)⟩ (fun j _ => ?_)⟩
    rw [vp_updV_set (by rw [zfl_len]; exact hlen) (.ref a) j]
    show vp_V _ j = vp_V (zfl q (upd (G q) f (nI (a - q))) 0 fks) j
    rw [hne]
  refine kk p e s m args below meth c H' _ ls Q hX hR hl (zW_of hW hq ho hk0 (fun j hj => ?_) e2 hP) (hS.put e2 e3 (hW.2.2.1.2 k0 _ hz))
  show upd (G q) f (nI (a - q)) j = G q j
  simp only [upd]
  rw [if_neg (fun e => hj (by rw [e]; exact ⟨Nat.zero_le _, hlead⟩))]
end ZMEM
end
section
theorem iwX0 : ∀ w ∈ u_ws RX0 TX0 8, w ∈ zgw := by decide +kernel
theorem ft_X0_0 : zFT RX0 0 0 (tyX0 0) false := ⟨RX0, TX0, 8, tyX0, rfl, tyX0_ok, nmX0, rfl, tyX0_ok 0 (by decide), fun h => by cases h⟩
theorem ft_X0_1 : zFT RX0 0 1 (tyX0 1) false := ⟨RX0, TX0, 8, tyX0, rfl, tyX0_ok, nmX0, rfl, tyX0_ok 1 (by decide), fun h => by cases h⟩
theorem ft_X0_2 : zFT RX0 0 2 (tyX0 2) false := ⟨RX0, TX0, 8, tyX0, rfl, tyX0_ok, nmX0, rfl, tyX0_ok 2 (by decide), fun h => by cases h⟩
theorem ft_X0_3 : zFT RX0 0 3 (tyX0 3) false := ⟨RX0, TX0, 8, tyX0, rfl, tyX0_ok, nmX0, rfl, tyX0_ok 3 (by decide), fun h => by cases h⟩
theorem ft_X0_4 : zFT RX0 0 4 (tyX0 4) false := ⟨RX0, TX0, 8, tyX0, rfl, tyX0_ok, nmX0, rfl, tyX0_ok 4 (by decide), fun h => by cases h⟩
theorem ft_X0_5 : zFT RX0 0 5 (tyX0 5) true := ⟨RX0, TX0, 8, tyX0, rfl, tyX0_ok, nmX0, rfl, tyX0_ok 5 (by decide), fun _ => rfl⟩
theorem ft_X0_6 : zFT RX0 0 6 (tyX0 6) true := ⟨RX0, TX0, 8, tyX0, rfl, tyX0_ok, nmX0, rfl, tyX0_ok 6 (by decide), fun _ => rfl⟩
theorem ft_X0_7 : zFT RX0 0 7 (tyX0 7) true := ⟨RX0, TX0, 8, tyX0, rfl, tyX0_ok, nmX0, rfl, tyX0_ok 7 (by decide), fun _ => rfl⟩
theorem iwX1 : ∀ w ∈ u_ws RX1 TX1 4, w ∈ zgw := by decide +kernel
theorem ft_X1_0 : zFT RX1 1 0 (tyX1 0) false := ⟨RX1, TX1, 4, tyX1, rfl, tyX1_ok, nmX1, rfl, tyX1_ok 0 (by decide), fun h => by cases h⟩
theorem ft_X1_1 : zFT RX1 1 1 (tyX1 1) false := ⟨RX1, TX1, 4, tyX1, rfl, tyX1_ok, nmX1, rfl, tyX1_ok 1 (by decide), fun h => by cases h⟩
theorem ft_X1_2 : zFT RX1 1 2 (tyX1 2) false := ⟨RX1, TX1, 4, tyX1, rfl, tyX1_ok, nmX1, rfl, tyX1_ok 2 (by decide), fun h => by cases h⟩
theorem ft_X1_3 : zFT RX1 1 3 (tyX1 3) false := ⟨RX1, TX1, 4, tyX1, rfl, tyX1_ok, nmX1, rfl, tyX1_ok 3 (by decide), fun h => by cases h⟩
theorem iwX2 : ∀ w ∈ u_ws RX2 TX2 3, w ∈ zgw := by decide +kernel
theorem ft_X2_0 : zFT RX2 2 0 (tyX2 0) true := ⟨RX2, TX2, 3, tyX2, rfl, tyX2_ok, nmX2, rfl, tyX2_ok 0 (by decide), fun _ => rfl⟩
theorem ft_X2_1 : zFT RX2 2 1 (tyX2 1) false := ⟨RX2, TX2, 3, tyX2, rfl, tyX2_ok, nmX2, rfl, tyX2_ok 1 (by decide), fun h => by cases h⟩
theorem ft_X2_2 : zFT RX2 2 2 (tyX2 2) false := ⟨RX2, TX2, 3, tyX2, rfl, tyX2_ok, nmX2, rfl, tyX2_ok 2 (by decide), fun h => by cases h⟩
theorem iwX3 : ∀ w ∈ u_ws RX3 TX3 7, w ∈ zgw := by decide +kernel
theorem ft_X3_0 : zFT RX3 3 0 (tyX3 0) true := ⟨RX3, TX3, 7, tyX3, rfl, tyX3_ok, nmX3, rfl, tyX3_ok 0 (by decide), fun _ => rfl⟩
theorem ft_X3_1 : zFT RX3 3 1 (tyX3 1) false := ⟨RX3, TX3, 7, tyX3, rfl, tyX3_ok, nmX3, rfl, tyX3_ok 1 (by decide), fun h => by cases h⟩
theorem ft_X3_2 : zFT RX3 3 2 (tyX3 2) false := ⟨RX3, TX3, 7, tyX3, rfl, tyX3_ok, nmX3, rfl, tyX3_ok 2 (by decide), fun h => by cases h⟩
theorem ft_X3_3 : zFT RX3 3 3 (tyX3 3) false := ⟨RX3, TX3, 7, tyX3, rfl, tyX3_ok, nmX3, rfl, tyX3_ok 3 (by decide), fun h => by cases h⟩
theorem ft_X3_4 : zFT RX3 3 4 (tyX3 4) false := ⟨RX3, TX3, 7, tyX3, rfl, tyX3_ok, nmX3, rfl, tyX3_ok 4 (by decide), fun h => by cases h⟩
theorem ft_X3_5 : zFT RX3 3 5 (tyX3 5) false := ⟨RX3, TX3, 7, tyX3, rfl, tyX3_ok, nmX3, rfl, tyX3_ok 5 (by decide), fun h => by cases h⟩
theorem ft_X3_6 : zFT RX3 3 6 (tyX3 6) false := ⟨RX3, TX3, 7, tyX3, rfl, tyX3_ok, nmX3, rfl, tyX3_ok 6 (by decide), fun h => by cases h⟩
theorem iwX4 : ∀ w ∈ u_ws RX4 TX4 2, w ∈ zgw := by decide +kernel
theorem ft_X4_0 : zFT RX4 4 0 (tyX4 0) true := ⟨RX4, TX4, 2, tyX4, rfl, tyX4_ok, nmX4, rfl, tyX4_ok 0 (by decide), fun _ => rfl⟩
theorem ft_X4_1 : zFT RX4 4 1 (tyX4 1) true := ⟨RX4, TX4, 2, tyX4, rfl, tyX4_ok, nmX4, rfl, tyX4_ok 1 (by decide), fun _ => rfl⟩
theorem iwX5 : ∀ w ∈ u_ws RX5 TX5 7, w ∈ zgw := by decide +kernel
theorem ft_X5_0 : zFT RX5 5 0 (tyX5 0) false := ⟨RX5, TX5, 7, tyX5, rfl, tyX5_ok, nmX5, rfl, tyX5_ok 0 (by decide), fun h => by cases h⟩
theorem ft_X5_1 : zFT RX5 5 1 (tyX5 1) false := ⟨RX5, TX5, 7, tyX5, rfl, tyX5_ok, nmX5, rfl, tyX5_ok 1 (by decide), fun h => by cases h⟩
theorem ft_X5_2 : zFT RX5 5 2 (tyX5 2) false := ⟨RX5, TX5, 7, tyX5, rfl, tyX5_ok, nmX5, rfl, tyX5_ok 2 (by decide), fun h => by cases h⟩
theorem ft_X5_3 : zFT RX5 5 3 (tyX5 3) false := ⟨RX5, TX5, 7, tyX5, rfl, tyX5_ok, nmX5, rfl, tyX5_ok 3 (by decide), fun h => by cases h⟩
theorem ft_X5_4 : zFT RX5 5 4 (tyX5 4) false := ⟨RX5, TX5, 7, tyX5, rfl, tyX5_ok, nmX5, rfl, tyX5_ok 4 (by decide), fun h => by cases h⟩
theorem ft_X5_5 : zFT RX5 5 5 (tyX5 5) true := ⟨RX5, TX5, 7, tyX5, rfl, tyX5_ok, nmX5, rfl, tyX5_ok 5 (by decide), fun _ => rfl⟩
theorem ft_X5_6 : zFT RX5 5 6 (tyX5 6) true := ⟨RX5, TX5, 7, tyX5, rfl, tyX5_ok, nmX5, rfl, tyX5_ok 6 (by decide), fun _ => rfl⟩
theorem iwX6 : ∀ w ∈ u_ws RX6 TX6 7, w ∈ zgw := by decide +kernel
theorem ft_X6_0 : zFT RX6 6 0 (tyX6 0) true := ⟨RX6, TX6, 7, tyX6, rfl, tyX6_ok, nmX6, rfl, tyX6_ok 0 (by decide), fun _ => rfl⟩
theorem ft_X6_1 : zFT RX6 6 1 (tyX6 1) true := ⟨RX6, TX6, 7, tyX6, rfl, tyX6_ok, nmX6, rfl, tyX6_ok 1 (by decide), fun _ => rfl⟩
theorem ft_X6_2 : zFT RX6 6 2 (tyX6 2) true := ⟨RX6, TX6, 7, tyX6, rfl, tyX6_ok, nmX6, rfl, tyX6_ok 2 (by decide), fun _ => rfl⟩
theorem ft_X6_3 : zFT RX6 6 3 (tyX6 3) true := ⟨RX6, TX6, 7, tyX6, rfl, tyX6_ok, nmX6, rfl, tyX6_ok 3 (by decide), fun _ => rfl⟩
theorem ft_X6_4 : zFT RX6 6 4 (tyX6 4) true := ⟨RX6, TX6, 7, tyX6, rfl, tyX6_ok, nmX6, rfl, tyX6_ok 4 (by decide), fun _ => rfl⟩
theorem ft_X6_5 : zFT RX6 6 5 (tyX6 5) true := ⟨RX6, TX6, 7, tyX6, rfl, tyX6_ok, nmX6, rfl, tyX6_ok 5 (by decide), fun _ => rfl⟩
theorem ft_X6_6 : zFT RX6 6 6 (tyX6 6) true := ⟨RX6, TX6, 7, tyX6, rfl, tyX6_ok, nmX6, rfl, tyX6_ok 6 (by decide), fun _ => rfl⟩
theorem kl_L_11 : Cond.classLink RL 11 RX6 ∈ zgw := zin 27 (by decide +kernel)
theorem ml_L_65 : zML RL 65 yX6_init cX6_init 1 none 0 := ⟨zin 29 (by decide +kernel), zin 31 (by decide +kernel), zin 17 (by decide +kernel), by decide +kernel, by decide +kernel, by decide +kernel⟩
theorem kl_X6_7 : Cond.classLink RX6 7 RX5 ∈ zgw := zin 35 (by decide +kernel)
theorem ml_X6_9 : zML RX6 9 yX5_init cX5_init 2 none 0 := ⟨zin 37 (by decide +kernel), zin 39 (by decide +kernel), zin 18 (by decide +kernel), by decide +kernel, by decide +kernel, by decide +kernel⟩
theorem kl_X5_19 : Cond.classLink RX5 19 RX0 ∈ zgw := zin 41 (by decide +kernel)
theorem ml_X5_25 : zMLN RX5 25 yX0_init cX0_init 1 none 0 := ⟨⟨"BookDroplets", zinb 44 (by decide +kernel)⟩, zin 46 (by decide +kernel), zin 19 (by decide +kernel), by decide +kernel, by decide +kernel, by decide +kernel⟩
theorem fl_X0_21 : zFL RX0 21 0 0 := ⟨RX0, TX0, 8, rfl, by decide, zin 48 (by decide +kernel), iwX0⟩
theorem fl_X6_114 : zFL RX6 114 0 0 := ⟨RX0, TX0, 8, rfl, by decide, zin 49 (by decide +kernel), iwX0⟩
theorem fl_X0_25 : zFL RX0 25 0 1 := ⟨RX0, TX0, 8, rfl, by decide, zin 50 (by decide +kernel), iwX0⟩
theorem fl_X6_117 : zFL RX6 117 0 1 := ⟨RX0, TX0, 8, rfl, by decide, zin 51 (by decide +kernel), iwX0⟩
theorem fl_X0_28 : zFL RX0 28 0 2 := ⟨RX0, TX0, 8, rfl, by decide, zin 52 (by decide +kernel), iwX0⟩
theorem fl_X6_120 : zFL RX6 120 0 2 := ⟨RX0, TX0, 8, rfl, by decide, zin 53 (by decide +kernel), iwX0⟩
theorem fl_X0_31 : zFL RX0 31 0 3 := ⟨RX0, TX0, 8, rfl, by decide, zin 54 (by decide +kernel), iwX0⟩
theorem fl_X6_123 : zFL RX6 123 0 3 := ⟨RX0, TX0, 8, rfl, by decide, zin 55 (by decide +kernel), iwX0⟩
theorem fl_X0_34 : zFL RX0 34 0 4 := ⟨RX0, TX0, 8, rfl, by decide, zin 56 (by decide +kernel), iwX0⟩
theorem fl_X6_125 : zFL RX6 125 0 4 := ⟨RX0, TX0, 8, rfl, by decide, zin 57 (by decide +kernel), iwX0⟩
theorem fl_X0_9 : zFL RX0 9 0 5 := ⟨RX0, TX0, 8, rfl, by decide, zin 58 (by decide +kernel), iwX0⟩
theorem fl_X6_142 : zFL RX6 142 0 5 := ⟨RX0, TX0, 8, rfl, by decide, zin 59 (by decide +kernel), iwX0⟩
theorem fl_X0_15 : zFL RX0 15 0 6 := ⟨RX0, TX0, 8, rfl, by decide, zin 60 (by decide +kernel), iwX0⟩
theorem fl_X4_18 : zFL RX4 18 0 6 := ⟨RX0, TX0, 8, rfl, by decide, zin 61 (by decide +kernel), iwX0⟩
theorem fl_X6_146 : zFL RX6 146 0 6 := ⟨RX0, TX0, 8, rfl, by decide, zin 62 (by decide +kernel), iwX0⟩
theorem fl_X0_18 : zFL RX0 18 0 7 := ⟨RX0, TX0, 8, rfl, by decide, zin 63 (by decide +kernel), iwX0⟩
theorem fl_X4_27 : zFL RX4 27 0 7 := ⟨RX0, TX0, 8, rfl, by decide, zin 64 (by decide +kernel), iwX0⟩
theorem fl_X6_149 : zFL RX6 149 0 7 := ⟨RX0, TX0, 8, rfl, by decide, zin 65 (by decide +kernel), iwX0⟩
theorem fl_X5_9 : zFL RX5 9 5 0 := ⟨RX5, TX5, 7, rfl, by decide, zin 84 (by decide +kernel), iwX5⟩
theorem fl_X1_37 : zFL RX1 37 5 0 := ⟨RX5, TX5, 7, rfl, by decide, zin 85 (by decide +kernel), iwX5⟩
theorem fl_X6_159 : zFL RX6 159 5 0 := ⟨RX5, TX5, 7, rfl, by decide, zin 86 (by decide +kernel), iwX5⟩
theorem fl_X1_34 : zFL RX1 34 5 1 := ⟨RX5, TX5, 7, rfl, by decide, zin 87 (by decide +kernel), iwX5⟩
theorem fl_X5_32 : zFL RX5 32 5 1 := ⟨RX5, TX5, 7, rfl, by decide, zin 88 (by decide +kernel), iwX5⟩
theorem fl_X6_162 : zFL RX6 162 5 1 := ⟨RX5, TX5, 7, rfl, by decide, zin 89 (by decide +kernel), iwX5⟩
theorem fl_X1_25 : zFL RX1 25 5 2 := ⟨RX5, TX5, 7, rfl, by decide, zin 90 (by decide +kernel), iwX5⟩
theorem fl_X5_29 : zFL RX5 29 5 2 := ⟨RX5, TX5, 7, rfl, by decide, zin 91 (by decide +kernel), iwX5⟩
theorem fl_X6_89 : zFL RX6 89 5 2 := ⟨RX5, TX5, 7, rfl, by decide, zin 92 (by decide +kernel), iwX5⟩
theorem fl_X5_26 : zFL RX5 26 5 3 := ⟨RX5, TX5, 7, rfl, by decide, zin 93 (by decide +kernel), iwX5⟩
theorem fl_X6_152 : zFL RX6 152 5 3 := ⟨RX5, TX5, 7, rfl, by decide, zin 94 (by decide +kernel), iwX5⟩
theorem fl_X5_35 : zFL RX5 35 5 4 := ⟨RX5, TX5, 7, rfl, by decide, zin 95 (by decide +kernel), iwX5⟩
theorem fl_X6_158 : zFL RX6 158 5 4 := ⟨RX5, TX5, 7, rfl, by decide, zin 96 (by decide +kernel), iwX5⟩
theorem fl_X5_15 : zFL RX5 15 5 5 := ⟨RX5, TX5, 7, rfl, by decide, zin 97 (by decide +kernel), iwX5⟩
theorem fl_X1_52 : zFL RX1 52 5 5 := ⟨RX5, TX5, 7, rfl, by decide, zin 98 (by decide +kernel), iwX5⟩
theorem fl_X6_220 : zFL RX6 220 5 5 := ⟨RX5, TX5, 7, rfl, by decide, zin 99 (by decide +kernel), iwX5⟩
theorem fl_X5_21 : zFL RX5 21 5 6 := ⟨RX5, TX5, 7, rfl, by decide, zin 100 (by decide +kernel), iwX5⟩
theorem kl_X6_16 : Cond.classLink RX6 16 RX2 ∈ zgw := zin 116 (by decide +kernel)
theorem ml_X6_18 : zML RX6 18 yX2_init cX2_init 2 none 0 := ⟨zin 118 (by decide +kernel), zin 120 (by decide +kernel), zin 20 (by decide +kernel), by decide +kernel, by decide +kernel, by decide +kernel⟩
theorem kl_X2_11 : Cond.classLink RX2 11 RX5 ∈ zgw := zin 122 (by decide +kernel)
theorem ml_X2_17 : zML RX2 17 yX5_init cX5_init 2 none 0 := ⟨zin 124 (by decide +kernel), zin 39 (by decide +kernel), zin 18 (by decide +kernel), by decide +kernel, by decide +kernel, by decide +kernel⟩
theorem fl_X2_13 : zFL RX2 13 2 0 := ⟨RX2, TX2, 3, rfl, by decide, zin 125 (by decide +kernel), iwX2⟩
theorem fl_X2_30 : zFL RX2 30 2 1 := ⟨RX2, TX2, 3, rfl, by decide, zin 126 (by decide +kernel), iwX2⟩
theorem fl_X2_26 : zFL RX2 26 2 2 := ⟨RX2, TX2, 3, rfl, by decide, zin 127 (by decide +kernel), iwX2⟩
theorem fl_X6_168 : zFLN RX6 168 2 2 := ⟨RX2, TX2, 3, "BookDroplets", rfl, by decide, zinb 128 (by decide +kernel), iwX2⟩
theorem kl_X6_27 : Cond.classLink RX6 27 RX3 ∈ zgw := zin 136 (by decide +kernel)
theorem ml_X6_29 : zMLN RX6 29 yX3_init cX3_init 1 none 0 := ⟨⟨"BookDroplets", zinb 138 (by decide +kernel)⟩, zin 140 (by decide +kernel), zin 21 (by decide +kernel), by decide +kernel, by decide +kernel, by decide +kernel⟩
theorem fl_X3_9 : zFL RX3 9 3 0 := ⟨RX3, TX3, 7, rfl, by decide, zin 142 (by decide +kernel), iwX3⟩
theorem fl_X6_165 : zFL RX6 165 3 1 := ⟨RX3, TX3, 7, rfl, by decide, zin 143 (by decide +kernel), iwX3⟩
theorem kl_X6_34 : Cond.classLink RX6 34 RX1 ∈ zgw := zin 160 (by decide +kernel)
theorem ml_X6_36 : zMLN RX6 36 yX1_init cX1_init 1 none 0 := ⟨⟨"BookDroplets", zinb 162 (by decide +kernel)⟩, zin 164 (by decide +kernel), zin 22 (by decide +kernel), by decide +kernel, by decide +kernel, by decide +kernel⟩
theorem fl_X1_9 : zFL RX1 9 1 0 := ⟨RX1, TX1, 4, rfl, by decide, zin 166 (by decide +kernel), iwX1⟩
theorem fl_X0_49 : zFL RX0 49 1 0 := ⟨RX1, TX1, 4, rfl, by decide, zin 167 (by decide +kernel), iwX1⟩
theorem fl_X6_106 : zFL RX6 106 1 0 := ⟨RX1, TX1, 4, rfl, by decide, zin 168 (by decide +kernel), iwX1⟩
theorem fl_X1_15 : zFL RX1 15 1 1 := ⟨RX1, TX1, 4, rfl, by decide, zin 169 (by decide +kernel), iwX1⟩
theorem fl_X6_97 : zFL RX6 97 1 1 := ⟨RX1, TX1, 4, rfl, by decide, zin 170 (by decide +kernel), iwX1⟩
theorem fl_X1_19 : zFL RX1 19 1 2 := ⟨RX1, TX1, 4, rfl, by decide, zin 171 (by decide +kernel), iwX1⟩
theorem fl_X0_58 : zFL RX0 58 1 2 := ⟨RX1, TX1, 4, rfl, by decide, zin 172 (by decide +kernel), iwX1⟩
theorem fl_X6_100 : zFL RX6 100 1 2 := ⟨RX1, TX1, 4, rfl, by decide, zin 173 (by decide +kernel), iwX1⟩
theorem fl_X1_22 : zFL RX1 22 1 3 := ⟨RX1, TX1, 4, rfl, by decide, zin 174 (by decide +kernel), iwX1⟩
theorem fl_X0_61 : zFL RX0 61 1 3 := ⟨RX1, TX1, 4, rfl, by decide, zin 175 (by decide +kernel), iwX1⟩
theorem fl_X6_103 : zFL RX6 103 1 3 := ⟨RX1, TX1, 4, rfl, by decide, zin 176 (by decide +kernel), iwX1⟩
theorem kl_X6_41 : Cond.classLink RX6 41 RX0 ∈ zgw := zin 186 (by decide +kernel)
theorem ml_X6_43 : zMLN RX6 43 yX0_init cX0_init 1 none 0 := ⟨⟨"BookDroplets", zinb 187 (by decide +kernel)⟩, zin 46 (by decide +kernel), zin 19 (by decide +kernel), by decide +kernel, by decide +kernel, by decide +kernel⟩
theorem kl_X6_48 : Cond.classLink RX6 48 RX4 ∈ zgw := zin 188 (by decide +kernel)
theorem ml_X6_50 : zMLN RX6 50 yX4_init cX4_init 1 none 0 := ⟨⟨"BookDroplets", zinb 190 (by decide +kernel)⟩, zin 192 (by decide +kernel), zin 23 (by decide +kernel), by decide +kernel, by decide +kernel, by decide +kernel⟩
theorem fl_X4_9 : zFL RX4 9 4 0 := ⟨RX4, TX4, 2, rfl, by decide, zin 194 (by decide +kernel), iwX4⟩
theorem fl_X0_81 : zFL RX0 81 4 0 := ⟨RX4, TX4, 2, rfl, by decide, zin 195 (by decide +kernel), iwX4⟩
theorem fl_X4_15 : zFL RX4 15 4 1 := ⟨RX4, TX4, 2, rfl, by decide, zin 196 (by decide +kernel), iwX4⟩
theorem fl_X0_82 : zFL RX0 82 4 1 := ⟨RX4, TX4, 2, rfl, by decide, zin 197 (by decide +kernel), iwX4⟩
theorem fl_X6_10 : zFL RX6 10 6 0 := ⟨RX6, TX6, 7, rfl, by decide, zin 203 (by decide +kernel), iwX6⟩
theorem fl_X6_19 : zFL RX6 19 6 1 := ⟨RX6, TX6, 7, rfl, by decide, zin 204 (by decide +kernel), iwX6⟩
theorem fl_X6_23 : zFL RX6 23 6 2 := ⟨RX6, TX6, 7, rfl, by decide, zin 205 (by decide +kernel), iwX6⟩
theorem fl_X6_30 : zFL RX6 30 6 3 := ⟨RX6, TX6, 7, rfl, by decide, zin 206 (by decide +kernel), iwX6⟩
theorem fl_X6_37 : zFL RX6 37 6 4 := ⟨RX6, TX6, 7, rfl, by decide, zin 207 (by decide +kernel), iwX6⟩
theorem fl_X6_44 : zFL RX6 44 6 5 := ⟨RX6, TX6, 7, rfl, by decide, zin 208 (by decide +kernel), iwX6⟩
theorem fl_X6_51 : zFL RX6 51 6 6 := ⟨RX6, TX6, 7, rfl, by decide, zin 209 (by decide +kernel), iwX6⟩
theorem ml_L_51 : zML RL 51 yX6_set cX6_set 3 (some .int) 2 := ⟨zin 225 (by decide +kernel), zin 228 (by decide +kernel), zin 17 (by decide +kernel), by decide +kernel, by decide +kernel, by decide +kernel⟩
theorem ml_X6_55 : zML RX6 55 yX2_note cX2_note 3 none 1 := ⟨zin 229 (by decide +kernel), zin 232 (by decide +kernel), zin 20 (by decide +kernel), by decide +kernel, by decide +kernel, by decide +kernel⟩
theorem ml_X2_18 : zML RX2 18 yX2_placeBehindLast cX2_placeBehindLast 1 (some .int) 0 := ⟨zin 233 (by decide +kernel), zin 236 (by decide +kernel), zin 20 (by decide +kernel), by decide +kernel, by decide +kernel, by decide +kernel⟩
theorem ml_X2_33 : zML RX2 33 yJ9_floorMod_7cf53 cJ9_floorMod_7cf53 3 (some .int) 2 := ⟨zin 237 (by decide +kernel), zin 239 (by decide +kernel), zin 24 (by decide +kernel), by decide +kernel, by decide +kernel, by decide +kernel⟩
theorem ml_X2_22 : zML RX2 22 yX5_copyFrom cX5_copyFrom 5 none 1 := ⟨zin 240 (by decide +kernel), zin 243 (by decide +kernel), zin 18 (by decide +kernel), by decide +kernel, by decide +kernel, by decide +kernel⟩
theorem ml_X5_44 : zML RX5 44 yX0_copyFrom cX0_copyFrom 2 none 1 := ⟨zin 247 (by decide +kernel), zin 250 (by decide +kernel), zin 19 (by decide +kernel), by decide +kernel, by decide +kernel, by decide +kernel⟩
theorem ml_X6_59 : zML RX6 59 yX6_changeSetting cX6_changeSetting 4 (some .int) 2 := ⟨zin 252 (by decide +kernel), zin 255 (by decide +kernel), zin 17 (by decide +kernel), by decide +kernel, by decide +kernel, by decide +kernel⟩
theorem ml_X6_85 : zML RX6 85 yX6_isWithin cX6_isWithin 3 (some .boolean) 3 := ⟨zin 256 (by decide +kernel), zin 258 (by decide +kernel), zin 17 (by decide +kernel), by decide +kernel, by decide +kernel, by decide +kernel⟩
theorem ml_X6_63 : zML RX6 63 yX2_keepUnlessError cX2_keepUnlessError 2 (some .int) 1 := ⟨zin 259 (by decide +kernel), zin 262 (by decide +kernel), zin 20 (by decide +kernel), by decide +kernel, by decide +kernel, by decide +kernel⟩
theorem ml_L_70 : zML RL 70 yX6_chapter cX6_chapter 2 (some .int) 1 := ⟨zin 263 (by decide +kernel), zin 266 (by decide +kernel), zin 17 (by decide +kernel), by decide +kernel, by decide +kernel, by decide +kernel⟩
theorem ml_X6_67 : zML RX6 67 yX6_addChapter cX6_addChapter 3 (some .int) 1 := ⟨zin 267 (by decide +kernel), zin 270 (by decide +kernel), zin 17 (by decide +kernel), by decide +kernel, by decide +kernel, by decide +kernel⟩
theorem kc_X6_84 : Cond.constant RX6 84 65535 ∈ zgw := zin 271 (by decide +kernel)
theorem ml_L_73 : zML RL 73 yX6_cup cX6_cup 1 (some .int) 0 := ⟨zin 272 (by decide +kernel), zin 275 (by decide +kernel), zin 17 (by decide +kernel), by decide +kernel, by decide +kernel, by decide +kernel⟩
theorem ml_X6_70 : zML RX6 70 yX6_addCup cX6_addCup 2 (some .int) 0 := ⟨zin 276 (by decide +kernel), zin 279 (by decide +kernel), zin 17 (by decide +kernel), by decide +kernel, by decide +kernel, by decide +kernel⟩
theorem ml_L_45 : zML RL 45 yX6_pour cX6_pour 4 (some .int) 3 := ⟨zin 280 (by decide +kernel), zin 283 (by decide +kernel), zin 17 (by decide +kernel), by decide +kernel, by decide +kernel, by decide +kernel⟩
theorem ml_X6_77 : zML RX6 77 yX6_pourDroplets cX6_pourDroplets 8 (some .int) 3 := ⟨zin 284 (by decide +kernel), zin 287 (by decide +kernel), zin 17 (by decide +kernel), by decide +kernel, by decide +kernel, by decide +kernel⟩
theorem ml_X6_110 : zML RX6 110 yX5_cupAt cX5_cupAt 2 (some (.object "BookDroplets$Cup")) 1 := ⟨zin 288 (by decide +kernel), zin 291 (by decide +kernel), zin 18 (by decide +kernel), by decide +kernel, by decide +kernel, by decide +kernel⟩
theorem ml_X6_171 : zML RX6 171 yX6_errorOfDroplets cX6_errorOfDroplets 3 (some .int) 2 := ⟨zin 292 (by decide +kernel), zin 295 (by decide +kernel), zin 17 (by decide +kernel), by decide +kernel, by decide +kernel, by decide +kernel⟩
theorem ml_X6_181 : zML RX6 181 yX6_wrappedSeed cX6_wrappedSeed 1 (some .int) 1 := ⟨zin 296 (by decide +kernel), zin 298 (by decide +kernel), zin 17 (by decide +kernel), by decide +kernel, by decide +kernel, by decide +kernel⟩
theorem ml_X6_93 : zML RX6 93 yX1_makeFrom cX1_makeFrom 6 none 2 := ⟨zin 299 (by decide +kernel), zin 302 (by decide +kernel), zin 22 (by decide +kernel), by decide +kernel, by decide +kernel, by decide +kernel⟩
theorem ml_X1_30 : zML RX1 30 yX1_nextDraw cX1_nextDraw 1 (some .int) 1 := ⟨zin 303 (by decide +kernel), zin 305 (by decide +kernel), zin 22 (by decide +kernel), by decide +kernel, by decide +kernel, by decide +kernel⟩
theorem kc_X1_56 : Cond.constant RX1 56 65537 ∈ zgw := zin 306 (by decide +kernel)
theorem ml_X1_40 : zML RX1 40 yX1_degreeBy cX1_degreeBy 3 (some .int) 3 := ⟨zin 307 (by decide +kernel), zin 309 (by decide +kernel), zin 22 (by decide +kernel), by decide +kernel, by decide +kernel, by decide +kernel⟩
theorem ml_X1_57 : zML RX1 57 yX1_commonDegree cX1_commonDegree 1 (some .int) 1 := ⟨zin 310 (by decide +kernel), zin 312 (by decide +kernel), zin 22 (by decide +kernel), by decide +kernel, by decide +kernel, by decide +kernel⟩
theorem ml_X1_60 : zML RX1 60 yJ9_min_7cf53 cJ9_min_7cf53 2 (some .int) 2 := ⟨zin 313 (by decide +kernel), zin 315 (by decide +kernel), zin 24 (by decide +kernel), by decide +kernel, by decide +kernel, by decide +kernel⟩
theorem ml_X1_44 : zML RX1 44 yX1_addFrom cX1_addFrom 5 none 2 := ⟨zin 316 (by decide +kernel), zin 319 (by decide +kernel), zin 22 (by decide +kernel), by decide +kernel, by decide +kernel, by decide +kernel⟩
theorem ml_X1_48 : zMLN RX1 48 yX6_isWithin cX6_isWithin 3 (some .boolean) 3 := ⟨⟨"BookDroplets", zinb 320 (by decide +kernel)⟩, zin 258 (by decide +kernel), zin 17 (by decide +kernel), by decide +kernel, by decide +kernel, by decide +kernel⟩
theorem ml_X6_177 : zML RX6 177 yX0_receive cX0_receive 6 (some .int) 1 := ⟨zin 321 (by decide +kernel), zin 324 (by decide +kernel), zin 19 (by decide +kernel), by decide +kernel, by decide +kernel, by decide +kernel⟩
theorem ml_X0_54 : zML RX0 54 yX0_knownCount cX0_knownCount 1 (some .int) 0 := ⟨zin 325 (by decide +kernel), zin 328 (by decide +kernel), zin 19 (by decide +kernel), by decide +kernel, by decide +kernel, by decide +kernel⟩
theorem ml_X0_43 : zML RX0 43 yJ6_bitCount_0f7a4 cJ6_bitCount_0f7a4 1 (some .int) 1 := ⟨zin 329 (by decide +kernel), zin 331 (by decide +kernel), zin 26 (by decide +kernel), by decide +kernel, by decide +kernel, by decide +kernel⟩
theorem kc_J6_265 : Cond.constant RJ6 265 1431655765 ∈ zgw := zin 332 (by decide +kernel)
theorem kc_J6_266 : Cond.constant RJ6 266 858993459 ∈ zgw := zin 333 (by decide +kernel)
theorem kc_J6_267 : Cond.constant RJ6 267 252645135 ∈ zgw := zin 334 (by decide +kernel)
theorem ml_X0_64 : zML RX0 64 yX0_learn cX0_learn 4 none 2 := ⟨zin 335 (by decide +kernel), zin 338 (by decide +kernel), zin 19 (by decide +kernel), by decide +kernel, by decide +kernel, by decide +kernel⟩
theorem ml_X0_68 : zML RX0 68 yX0_peel cX0_peel 5 none 0 := ⟨zin 339 (by decide +kernel), zin 342 (by decide +kernel), zin 19 (by decide +kernel), by decide +kernel, by decide +kernel, by decide +kernel⟩
theorem ml_X0_87 : zML RX0 87 yX0_firstPeelable cX0_firstPeelable 2 (some .int) 0 := ⟨zin 343 (by decide +kernel), zin 346 (by decide +kernel), zin 19 (by decide +kernel), by decide +kernel, by decide +kernel, by decide +kernel⟩
theorem ml_X0_83 : zMLN RX0 83 yX6_isWithin cX6_isWithin 3 (some .boolean) 3 := ⟨⟨"BookDroplets", zinb 347 (by decide +kernel)⟩, zin 258 (by decide +kernel), zin 17 (by decide +kernel), by decide +kernel, by decide +kernel, by decide +kernel⟩
theorem ml_X0_90 : zML RX0 90 yX0_removeKept cX0_removeKept 3 none 1 := ⟨zin 348 (by decide +kernel), zin 351 (by decide +kernel), zin 19 (by decide +kernel), by decide +kernel, by decide +kernel, by decide +kernel⟩
theorem ml_X0_71 : zML RX0 71 yX0_keepIfRoom cX0_keepIfRoom 4 (some .boolean) 2 := ⟨zin 352 (by decide +kernel), zin 355 (by decide +kernel), zin 19 (by decide +kernel), by decide +kernel, by decide +kernel, by decide +kernel⟩
theorem ml_L_21 : zML RL 21 yX6_droplet cX6_droplet 3 (some .int) 2 := ⟨zin 356 (by decide +kernel), zin 359 (by decide +kernel), zin 17 (by decide +kernel), by decide +kernel, by decide +kernel, by decide +kernel⟩
theorem ml_L_28 : zML RL 28 yX6_ofCup cX6_ofCup 4 (some .int) 2 := ⟨zin 360 (by decide +kernel), zin 363 (by decide +kernel), zin 17 (by decide +kernel), by decide +kernel, by decide +kernel, by decide +kernel⟩
theorem ml_X6_128 : zML RX6 128 yX6_isFull cX6_isFull 2 (some .boolean) 1 := ⟨zin 364 (by decide +kernel), zin 367 (by decide +kernel), zin 17 (by decide +kernel), by decide +kernel, by decide +kernel, by decide +kernel⟩
theorem ml_X6_241 : zML RX6 241 yX5_allChapters cX5_allChapters 1 (some .int) 0 := ⟨zin 368 (by decide +kernel), zin 371 (by decide +kernel), zin 18 (by decide +kernel), by decide +kernel, by decide +kernel, by decide +kernel⟩
theorem ml_X6_132 : zML RX6 132 yX4_reduce cX4_reduce 5 none 1 := ⟨zin 372 (by decide +kernel), zin 375 (by decide +kernel), zin 23 (by decide +kernel), by decide +kernel, by decide +kernel, by decide +kernel⟩
theorem ml_X6_136 : zML RX6 136 yX0_knownCount cX0_knownCount 1 (some .int) 0 := ⟨zin 377 (by decide +kernel), zin 328 (by decide +kernel), zin 19 (by decide +kernel), by decide +kernel, by decide +kernel, by decide +kernel⟩
theorem ml_X6_139 : zML RX6 139 yX4_singleCount cX4_singleCount 3 (some .int) 0 := ⟨zin 378 (by decide +kernel), zin 381 (by decide +kernel), zin 23 (by decide +kernel), by decide +kernel, by decide +kernel, by decide +kernel⟩
theorem ml_X4_34 : zML RX4 34 yX4_isSingle cX4_isSingle 2 (some .boolean) 1 := ⟨zin 382 (by decide +kernel), zin 385 (by decide +kernel), zin 23 (by decide +kernel), by decide +kernel, by decide +kernel, by decide +kernel⟩
theorem ml_X4_28 : zML RX4 28 yJ6_bitCount_0f7a4 cJ6_bitCount_0f7a4 1 (some .int) 1 := ⟨zin 386 (by decide +kernel), zin 331 (by decide +kernel), zin 26 (by decide +kernel), by decide +kernel, by decide +kernel, by decide +kernel⟩
theorem ml_L_31 : zML RL 31 yX6_known cX6_known 4 (some .int) 2 := ⟨zin 387 (by decide +kernel), zin 390 (by decide +kernel), zin 17 (by decide +kernel), by decide +kernel, by decide +kernel, by decide +kernel⟩
theorem ml_L_10 : zML RL 10 yX6_count cX6_count 2 (some .int) 1 := ⟨zin 391 (by decide +kernel), zin 394 (by decide +kernel), zin 17 (by decide +kernel), by decide +kernel, by decide +kernel, by decide +kernel⟩
theorem ml_X6_155 : zML RX6 155 yX6_fullCups cX6_fullCups 4 (some .int) 0 := ⟨zin 395 (by decide +kernel), zin 398 (by decide +kernel), zin 17 (by decide +kernel), by decide +kernel, by decide +kernel, by decide +kernel⟩
theorem ml_L_86 : zML RL 86 yX6_degrees cX6_degrees 6 (some .int) 3 := ⟨zin 399 (by decide +kernel), zin 402 (by decide +kernel), zin 17 (by decide +kernel), by decide +kernel, by decide +kernel, by decide +kernel⟩
theorem ml_L_66 : zML RL 66 yL_cell cL_cell 2 (some .int) 2 := ⟨zin 403 (by decide +kernel), zin 405 (by decide +kernel), zin 16 (by decide +kernel), by decide +kernel, by decide +kernel, by decide +kernel⟩
theorem kc_L_7 : Cond.constant RL 7 19610011 ∈ zgw := zin 406 (by decide +kernel)
theorem ml_L_48 : zML RL 48 yL_low cL_low 2 (some .int) 2 := ⟨zin 407 (by decide +kernel), zin 409 (by decide +kernel), zin 16 (by decide +kernel), by decide +kernel, by decide +kernel, by decide +kernel⟩
theorem kc_L_8 : Cond.constant RL 8 2147483647 ∈ zgw := zin 410 (by decide +kernel)
theorem ml_L_84 : zML RL 84 yL_droplet cL_droplet 14 (some .boolean) 3 := ⟨zin 411 (by decide +kernel), zin 413 (by decide +kernel), zin 16 (by decide +kernel), by decide +kernel, by decide +kernel, by decide +kernel⟩
theorem ml_L_16 : zML RL 16 yL_draw cL_draw 1 (some .int) 1 := ⟨zin 414 (by decide +kernel), zin 416 (by decide +kernel), zin 16 (by decide +kernel), by decide +kernel, by decide +kernel, by decide +kernel⟩
theorem kc_L_9 : Cond.constant RL 9 65537 ∈ zgw := zin 417 (by decide +kernel)
theorem ml_L_25 : zML RL 25 yL_size cL_size 3 (some .int) 1 := ⟨zin 418 (by decide +kernel), zin 420 (by decide +kernel), zin 16 (by decide +kernel), by decide +kernel, by decide +kernel, by decide +kernel⟩
theorem ml_L_81 : zML RL 81 yL_cup cL_cup 10 (some .boolean) 3 := ⟨zin 421 (by decide +kernel), zin 423 (by decide +kernel), zin 16 (by decide +kernel), by decide +kernel, by decide +kernel, by decide +kernel⟩
theorem ml_L_34 : zML RL 34 yX6_kept cX6_kept 5 (some .int) 3 := ⟨zin 424 (by decide +kernel), zin 427 (by decide +kernel), zin 17 (by decide +kernel), by decide +kernel, by decide +kernel, by decide +kernel⟩
theorem ml_L_77 : zML RL 77 yL_act cL_act 9 (some .boolean) 4 := ⟨zin 428 (by decide +kernel), zin 430 (by decide +kernel), zin 16 (by decide +kernel), by decide +kernel, by decide +kernel, by decide +kernel⟩
theorem ml_L_54 : zML RL 54 yX6_empty cX6_empty 2 (some .int) 1 := ⟨zin 431 (by decide +kernel), zin 434 (by decide +kernel), zin 17 (by decide +kernel), by decide +kernel, by decide +kernel, by decide +kernel⟩
theorem ml_X6_74 : zML RX6 74 yX6_emptyCup cX6_emptyCup 4 (some .int) 1 := ⟨zin 435 (by decide +kernel), zin 438 (by decide +kernel), zin 17 (by decide +kernel), by decide +kernel, by decide +kernel, by decide +kernel⟩
theorem ml_X6_223 : zML RX6 223 yX0_clear cX0_clear 2 none 0 := ⟨zin 439 (by decide +kernel), zin 442 (by decide +kernel), zin 19 (by decide +kernel), by decide +kernel, by decide +kernel, by decide +kernel⟩
theorem ml_L_57 : zML RL 57 yX6_solve cX6_solve 2 (some .int) 1 := ⟨zin 443 (by decide +kernel), zin 446 (by decide +kernel), zin 17 (by decide +kernel), by decide +kernel, by decide +kernel, by decide +kernel⟩
theorem ml_X6_81 : zML RX6 81 yX6_solveCup cX6_solveCup 3 (some .int) 1 := ⟨zin 447 (by decide +kernel), zin 450 (by decide +kernel), zin 17 (by decide +kernel), by decide +kernel, by decide +kernel, by decide +kernel⟩
theorem ml_X6_226 : zML RX6 226 yX0_learnSingles cX0_learnSingles 4 (some .int) 1 := ⟨zin 451 (by decide +kernel), zin 454 (by decide +kernel), zin 19 (by decide +kernel), by decide +kernel, by decide +kernel, by decide +kernel⟩
theorem ml_X0_75 : zML RX0 75 yX4_isSingle cX4_isSingle 2 (some .boolean) 1 := ⟨zin 455 (by decide +kernel), zin 385 (by decide +kernel), zin 23 (by decide +kernel), by decide +kernel, by decide +kernel, by decide +kernel⟩
theorem kc_L_60 : Cond.constant RL 60 65536 ∈ zgw := zin 456 (by decide +kernel)
theorem ml_L_61 : zML RL 61 yL_poured cL_poured 19 (some .boolean) 3 := ⟨zin 457 (by decide +kernel), zin 459 (by decide +kernel), zin 16 (by decide +kernel), by decide +kernel, by decide +kernel, by decide +kernel⟩
theorem ml_L_38 : zML RL 38 yX6_would cX6_would 6 (some .int) 2 := ⟨zin 460 (by decide +kernel), zin 463 (by decide +kernel), zin 17 (by decide +kernel), by decide +kernel, by decide +kernel, by decide +kernel⟩
theorem ml_X6_174 : zML RX6 174 yX0_copyFrom cX0_copyFrom 2 none 1 := ⟨zin 464 (by decide +kernel), zin 250 (by decide +kernel), zin 19 (by decide +kernel), by decide +kernel, by decide +kernel, by decide +kernel⟩
theorem ml_L_41 : zML RL 41 yL_peeled cL_peeled 7 (some .int) 3 := ⟨zin 465 (by decide +kernel), zin 467 (by decide +kernel), zin 16 (by decide +kernel), by decide +kernel, by decide +kernel, by decide +kernel⟩
theorem in_X0_init : Cond.instanceMethod yX0_init ∈ zgw := zin 45 (by decide +kernel)
theorem in_X0_clear : Cond.instanceMethod yX0_clear ∈ zgw := zin 440 (by decide +kernel)
theorem sel_X0_clear : Cond.selects yX0_clear.cls yX0_clear yX0_clear ∈ zgw := zin 441 (by decide +kernel)
theorem in_X0_copyFrom : Cond.instanceMethod yX0_copyFrom ∈ zgw := zin 248 (by decide +kernel)
theorem sel_X0_copyFrom : Cond.selects yX0_copyFrom.cls yX0_copyFrom yX0_copyFrom ∈ zgw := zin 249 (by decide +kernel)
theorem in_X0_knownCount : Cond.instanceMethod yX0_knownCount ∈ zgw := zin 326 (by decide +kernel)
theorem sel_X0_knownCount : Cond.selects yX0_knownCount.cls yX0_knownCount yX0_knownCount ∈ zgw := zin 327 (by decide +kernel)
theorem in_X0_receive : Cond.instanceMethod yX0_receive ∈ zgw := zin 322 (by decide +kernel)
theorem sel_X0_receive : Cond.selects yX0_receive.cls yX0_receive yX0_receive ∈ zgw := zin 323 (by decide +kernel)
theorem in_X0_learnSingles : Cond.instanceMethod yX0_learnSingles ∈ zgw := zin 452 (by decide +kernel)
theorem sel_X0_learnSingles : Cond.selects yX0_learnSingles.cls yX0_learnSingles yX0_learnSingles ∈ zgw := zin 453 (by decide +kernel)
theorem in_X0_keepIfRoom : Cond.instanceMethod yX0_keepIfRoom ∈ zgw := zin 354 (by decide +kernel)
theorem sel_X0_keepIfRoom : Cond.selects yX0_keepIfRoom.cls yX0_keepIfRoom yX0_keepIfRoom ∈ zgw := zin 11 (by decide +kernel)
theorem in_X0_learn : Cond.instanceMethod yX0_learn ∈ zgw := zin 337 (by decide +kernel)
theorem sel_X0_learn : Cond.selects yX0_learn.cls yX0_learn yX0_learn ∈ zgw := zin 7 (by decide +kernel)
theorem in_X0_peel : Cond.instanceMethod yX0_peel ∈ zgw := zin 341 (by decide +kernel)
theorem sel_X0_peel : Cond.selects yX0_peel.cls yX0_peel yX0_peel ∈ zgw := zin 8 (by decide +kernel)
theorem in_X0_firstPeelable : Cond.instanceMethod yX0_firstPeelable ∈ zgw := zin 345 (by decide +kernel)
theorem sel_X0_firstPeelable : Cond.selects yX0_firstPeelable.cls yX0_firstPeelable yX0_firstPeelable ∈ zgw := zin 9 (by decide +kernel)
theorem in_X0_removeKept : Cond.instanceMethod yX0_removeKept ∈ zgw := zin 350 (by decide +kernel)
theorem sel_X0_removeKept : Cond.selects yX0_removeKept.cls yX0_removeKept yX0_removeKept ∈ zgw := zin 10 (by decide +kernel)
theorem in_X1_init : Cond.instanceMethod yX1_init ∈ zgw := zin 163 (by decide +kernel)
theorem in_X1_makeFrom : Cond.instanceMethod yX1_makeFrom ∈ zgw := zin 300 (by decide +kernel)
theorem sel_X1_makeFrom : Cond.selects yX1_makeFrom.cls yX1_makeFrom yX1_makeFrom ∈ zgw := zin 301 (by decide +kernel)
theorem in_X1_addFrom : Cond.instanceMethod yX1_addFrom ∈ zgw := zin 318 (by decide +kernel)
theorem sel_X1_addFrom : Cond.selects yX1_addFrom.cls yX1_addFrom yX1_addFrom ∈ zgw := zin 6 (by decide +kernel)
theorem st_X1_nextDraw : Cond.static yX1_nextDraw ∈ zgw := zin 304 (by decide +kernel)
theorem st_X1_degreeBy : Cond.static yX1_degreeBy ∈ zgw := zin 308 (by decide +kernel)
theorem st_X1_commonDegree : Cond.static yX1_commonDegree ∈ zgw := zin 311 (by decide +kernel)
theorem in_X2_init : Cond.instanceMethod yX2_init ∈ zgw := zin 119 (by decide +kernel)
theorem in_X2_note : Cond.instanceMethod yX2_note ∈ zgw := zin 230 (by decide +kernel)
theorem sel_X2_note : Cond.selects yX2_note.cls yX2_note yX2_note ∈ zgw := zin 231 (by decide +kernel)
theorem in_X2_keepUnlessError : Cond.instanceMethod yX2_keepUnlessError ∈ zgw := zin 260 (by decide +kernel)
theorem sel_X2_keepUnlessError : Cond.selects yX2_keepUnlessError.cls yX2_keepUnlessError yX2_keepUnlessError ∈ zgw := zin 261 (by decide +kernel)
theorem in_X2_placeBehindLast : Cond.instanceMethod yX2_placeBehindLast ∈ zgw := zin 235 (by decide +kernel)
theorem sel_X2_placeBehindLast : Cond.selects yX2_placeBehindLast.cls yX2_placeBehindLast yX2_placeBehindLast ∈ zgw := zin 0 (by decide +kernel)
theorem in_X3_init : Cond.instanceMethod yX3_init ∈ zgw := zin 139 (by decide +kernel)
theorem in_X4_init : Cond.instanceMethod yX4_init ∈ zgw := zin 191 (by decide +kernel)
theorem in_X4_reduce : Cond.instanceMethod yX4_reduce ∈ zgw := zin 373 (by decide +kernel)
theorem sel_X4_reduce : Cond.selects yX4_reduce.cls yX4_reduce yX4_reduce ∈ zgw := zin 374 (by decide +kernel)
theorem in_X4_isSingle : Cond.instanceMethod yX4_isSingle ∈ zgw := zin 383 (by decide +kernel)
theorem sel_X4_isSingle : Cond.selects yX4_isSingle.cls yX4_isSingle yX4_isSingle ∈ zgw := zin 384 (by decide +kernel)
theorem in_X4_singleCount : Cond.instanceMethod yX4_singleCount ∈ zgw := zin 379 (by decide +kernel)
theorem sel_X4_singleCount : Cond.selects yX4_singleCount.cls yX4_singleCount yX4_singleCount ∈ zgw := zin 380 (by decide +kernel)
theorem in_X5_init : Cond.instanceMethod yX5_init ∈ zgw := zin 38 (by decide +kernel)
theorem in_X5_cupAt : Cond.instanceMethod yX5_cupAt ∈ zgw := zin 289 (by decide +kernel)
theorem sel_X5_cupAt : Cond.selects yX5_cupAt.cls yX5_cupAt yX5_cupAt ∈ zgw := zin 290 (by decide +kernel)
theorem in_X5_allChapters : Cond.instanceMethod yX5_allChapters ∈ zgw := zin 369 (by decide +kernel)
theorem sel_X5_allChapters : Cond.selects yX5_allChapters.cls yX5_allChapters yX5_allChapters ∈ zgw := zin 370 (by decide +kernel)
theorem in_X5_copyFrom : Cond.instanceMethod yX5_copyFrom ∈ zgw := zin 241 (by decide +kernel)
theorem sel_X5_copyFrom : Cond.selects yX5_copyFrom.cls yX5_copyFrom yX5_copyFrom ∈ zgw := zin 242 (by decide +kernel)
theorem in_X6_init : Cond.instanceMethod yX6_init ∈ zgw := zin 30 (by decide +kernel)
theorem in_X6_set : Cond.instanceMethod yX6_set ∈ zgw := zin 226 (by decide +kernel)
theorem sel_X6_set : Cond.selects yX6_set.cls yX6_set yX6_set ∈ zgw := zin 227 (by decide +kernel)
theorem in_X6_chapter : Cond.instanceMethod yX6_chapter ∈ zgw := zin 264 (by decide +kernel)
theorem sel_X6_chapter : Cond.selects yX6_chapter.cls yX6_chapter yX6_chapter ∈ zgw := zin 265 (by decide +kernel)
theorem in_X6_cup : Cond.instanceMethod yX6_cup ∈ zgw := zin 273 (by decide +kernel)
theorem sel_X6_cup : Cond.selects yX6_cup.cls yX6_cup yX6_cup ∈ zgw := zin 274 (by decide +kernel)
theorem in_X6_empty : Cond.instanceMethod yX6_empty ∈ zgw := zin 432 (by decide +kernel)
theorem sel_X6_empty : Cond.selects yX6_empty.cls yX6_empty yX6_empty ∈ zgw := zin 433 (by decide +kernel)
theorem in_X6_pour : Cond.instanceMethod yX6_pour ∈ zgw := zin 281 (by decide +kernel)
theorem sel_X6_pour : Cond.selects yX6_pour.cls yX6_pour yX6_pour ∈ zgw := zin 282 (by decide +kernel)
theorem in_X6_solve : Cond.instanceMethod yX6_solve ∈ zgw := zin 444 (by decide +kernel)
theorem sel_X6_solve : Cond.selects yX6_solve.cls yX6_solve yX6_solve ∈ zgw := zin 445 (by decide +kernel)
theorem in_X6_droplet : Cond.instanceMethod yX6_droplet ∈ zgw := zin 357 (by decide +kernel)
theorem sel_X6_droplet : Cond.selects yX6_droplet.cls yX6_droplet yX6_droplet ∈ zgw := zin 358 (by decide +kernel)
theorem in_X6_ofCup : Cond.instanceMethod yX6_ofCup ∈ zgw := zin 361 (by decide +kernel)
theorem sel_X6_ofCup : Cond.selects yX6_ofCup.cls yX6_ofCup yX6_ofCup ∈ zgw := zin 362 (by decide +kernel)
theorem in_X6_known : Cond.instanceMethod yX6_known ∈ zgw := zin 388 (by decide +kernel)
theorem sel_X6_known : Cond.selects yX6_known.cls yX6_known yX6_known ∈ zgw := zin 389 (by decide +kernel)
theorem in_X6_kept : Cond.instanceMethod yX6_kept ∈ zgw := zin 425 (by decide +kernel)
theorem sel_X6_kept : Cond.selects yX6_kept.cls yX6_kept yX6_kept ∈ zgw := zin 426 (by decide +kernel)
theorem in_X6_count : Cond.instanceMethod yX6_count ∈ zgw := zin 392 (by decide +kernel)
theorem sel_X6_count : Cond.selects yX6_count.cls yX6_count yX6_count ∈ zgw := zin 393 (by decide +kernel)
theorem in_X6_would : Cond.instanceMethod yX6_would ∈ zgw := zin 461 (by decide +kernel)
theorem sel_X6_would : Cond.selects yX6_would.cls yX6_would yX6_would ∈ zgw := zin 462 (by decide +kernel)
theorem in_X6_degrees : Cond.instanceMethod yX6_degrees ∈ zgw := zin 400 (by decide +kernel)
theorem sel_X6_degrees : Cond.selects yX6_degrees.cls yX6_degrees yX6_degrees ∈ zgw := zin 401 (by decide +kernel)
theorem in_X6_changeSetting : Cond.instanceMethod yX6_changeSetting ∈ zgw := zin 254 (by decide +kernel)
theorem sel_X6_changeSetting : Cond.selects yX6_changeSetting.cls yX6_changeSetting yX6_changeSetting ∈ zgw := zin 1 (by decide +kernel)
theorem in_X6_addChapter : Cond.instanceMethod yX6_addChapter ∈ zgw := zin 269 (by decide +kernel)
theorem sel_X6_addChapter : Cond.selects yX6_addChapter.cls yX6_addChapter yX6_addChapter ∈ zgw := zin 2 (by decide +kernel)
theorem in_X6_addCup : Cond.instanceMethod yX6_addCup ∈ zgw := zin 278 (by decide +kernel)
theorem sel_X6_addCup : Cond.selects yX6_addCup.cls yX6_addCup yX6_addCup ∈ zgw := zin 3 (by decide +kernel)
theorem in_X6_emptyCup : Cond.instanceMethod yX6_emptyCup ∈ zgw := zin 437 (by decide +kernel)
theorem sel_X6_emptyCup : Cond.selects yX6_emptyCup.cls yX6_emptyCup yX6_emptyCup ∈ zgw := zin 14 (by decide +kernel)
theorem in_X6_pourDroplets : Cond.instanceMethod yX6_pourDroplets ∈ zgw := zin 286 (by decide +kernel)
theorem sel_X6_pourDroplets : Cond.selects yX6_pourDroplets.cls yX6_pourDroplets yX6_pourDroplets ∈ zgw := zin 4 (by decide +kernel)
theorem in_X6_solveCup : Cond.instanceMethod yX6_solveCup ∈ zgw := zin 449 (by decide +kernel)
theorem sel_X6_solveCup : Cond.selects yX6_solveCup.cls yX6_solveCup yX6_solveCup ∈ zgw := zin 15 (by decide +kernel)
theorem in_X6_errorOfDroplets : Cond.instanceMethod yX6_errorOfDroplets ∈ zgw := zin 294 (by decide +kernel)
theorem sel_X6_errorOfDroplets : Cond.selects yX6_errorOfDroplets.cls yX6_errorOfDroplets yX6_errorOfDroplets ∈ zgw := zin 5 (by decide +kernel)
theorem in_X6_isFull : Cond.instanceMethod yX6_isFull ∈ zgw := zin 366 (by decide +kernel)
theorem sel_X6_isFull : Cond.selects yX6_isFull.cls yX6_isFull yX6_isFull ∈ zgw := zin 12 (by decide +kernel)
theorem in_X6_fullCups : Cond.instanceMethod yX6_fullCups ∈ zgw := zin 397 (by decide +kernel)
theorem sel_X6_fullCups : Cond.selects yX6_fullCups.cls yX6_fullCups yX6_fullCups ∈ zgw := zin 13 (by decide +kernel)
theorem st_X6_isWithin : Cond.static yX6_isWithin ∈ zgw := zin 257 (by decide +kernel)
theorem st_X6_wrappedSeed : Cond.static yX6_wrappedSeed ∈ zgw := zin 297 (by decide +kernel)
theorem st_J6_bitCount_0f7a4 : Cond.static yJ6_bitCount_0f7a4 ∈ zgw := zin 330 (by decide +kernel)
theorem st_J9_floorMod_7cf53 : Cond.static yJ9_floorMod_7cf53 ∈ zgw := zin 238 (by decide +kernel)
theorem st_J9_min_7cf53 : Cond.static yJ9_min_7cf53 ∈ zgw := zin 314 (by decide +kernel)
theorem st_L_cell : Cond.static yL_cell ∈ zgw := zin 404 (by decide +kernel)
theorem st_L_low : Cond.static yL_low ∈ zgw := zin 408 (by decide +kernel)
theorem st_L_size : Cond.static yL_size ∈ zgw := zin 419 (by decide +kernel)
theorem st_L_draw : Cond.static yL_draw ∈ zgw := zin 415 (by decide +kernel)
theorem st_L_droplet : Cond.static yL_droplet ∈ zgw := zin 412 (by decide +kernel)
theorem st_L_cup : Cond.static yL_cup ∈ zgw := zin 422 (by decide +kernel)
theorem st_L_peeled : Cond.static yL_peeled ∈ zgw := zin 466 (by decide +kernel)
theorem st_L_poured : Cond.static yL_poured ∈ zgw := zin 458 (by decide +kernel)
theorem st_L_act : Cond.static yL_act ∈ zgw := zin 429 (by decide +kernel)
theorem zac_int : Cond.arrayClass (zty 0) ∈ zgw := zin 83 (by decide +kernel)
theorem zac_char : Cond.arrayClass (zty 1) ∈ zgw := zin 159 (by decide +kernel)
theorem zao_X5 : Cond.arrayOver (.object RX5) ∈ zbw := zinb 123 (by decide +kernel)
theorem zao_X0 : Cond.arrayOver (.object RX0) ∈ zbw := zinb 42 (by decide +kernel)
theorem ini_X0 : Cond.initialized RX0 ∈ zgw := zin 19 (by decide +kernel)
theorem inst_X0 : Cond.instantiable RX0 8 ∈ zgw := zin 43 (by decide +kernel)
theorem ini_X1 : Cond.initialized RX1 ∈ zgw := zin 22 (by decide +kernel)
theorem inst_X1 : Cond.instantiable RX1 4 ∈ zgw := zin 161 (by decide +kernel)
theorem ini_X2 : Cond.initialized RX2 ∈ zgw := zin 20 (by decide +kernel)
theorem inst_X2 : Cond.instantiable RX2 3 ∈ zgw := zin 117 (by decide +kernel)
theorem ini_X3 : Cond.initialized RX3 ∈ zgw := zin 21 (by decide +kernel)
theorem inst_X3 : Cond.instantiable RX3 7 ∈ zgw := zin 137 (by decide +kernel)
theorem ini_X4 : Cond.initialized RX4 ∈ zgw := zin 23 (by decide +kernel)
theorem inst_X4 : Cond.instantiable RX4 2 ∈ zgw := zin 189 (by decide +kernel)
theorem ini_X5 : Cond.initialized RX5 ∈ zgw := zin 18 (by decide +kernel)
theorem inst_X5 : Cond.instantiable RX5 7 ∈ zgw := zin 36 (by decide +kernel)
theorem ini_X6 : Cond.initialized RX6 ∈ zgw := zin 17 (by decide +kernel)
theorem inst_X6 : Cond.instantiable RX6 7 ∈ zgw := zin 28 (by decide +kernel)
theorem zini_sys : Cond.initialized "java/lang/System" ∈ zgw := zin 25 (by decide +kernel)
theorem znat_copy : Cond.native arraycopyName ∈ zgw := zin 246 (by decide +kernel)
theorem zst_copy : Cond.static arraycopyName ∈ zgw := zin 245 (by decide +kernel)
theorem zobj_in : Cond.instanceMethod Lib.objectInit ∈ zgw := zin 33 (by decide +kernel)
theorem zobj_code : Cond.code Lib.objectInit ⟨#[0xb1]⟩ 1 none ∈ zgw := zin 34 (by decide +kernel)
theorem ol_X6_1 : Cond.methodLink RX6 1 Lib.objectInit ∈ zgw := zin 32 (by decide +kernel)
theorem ol_X5_3 : Cond.methodLink RX5 3 Lib.objectInit ∈ zgw := zin 40 (by decide +kernel)
theorem ol_X0_3 : Cond.methodLink RX0 3 Lib.objectInit ∈ zgw := zin 47 (by decide +kernel)
theorem ol_X2_3 : Cond.methodLink RX2 3 Lib.objectInit ∈ zgw := zin 121 (by decide +kernel)
theorem ol_X3_3 : Cond.methodLink RX3 3 Lib.objectInit ∈ zgw := zin 141 (by decide +kernel)
theorem ol_X1_3 : Cond.methodLink RX1 3 Lib.objectInit ∈ zgw := zin 165 (by decide +kernel)
theorem ol_X4_3 : Cond.methodLink RX4 3 Lib.objectInit ∈ zgw := zin 193 (by decide +kernel)
theorem cl_X5_38 : Cond.methodLink RX5 38 arraycopyName ∈ zgw := zin 244 (by decide +kernel)
theorem cl_X0_37 : Cond.methodLink RX0 37 arraycopyName ∈ zgw := zin 251 (by decide +kernel)
theorem cl_X4_21 : Cond.methodLink RX4 21 arraycopyName ∈ zgw := zin 376 (by decide +kernel)
end
section
section ZARR
variable {l : Launch} {X0 : State → Prop} {D : zD} {B : Nat} {own mn : String} {cc : ByteArray} {nL : Nat} {ret : Option FieldType} {R : Room} {post : zP} {k n : Nat} {L : zL} {nx : Nat} {pc : Nat} {lv : List (Option Value)} {st : List Value} {G : zG}
theorem ztys_at {D : zD} {ta : Nat} (h : ta < 5) : (ztys D)[ta]? = some (D.2 ta, zty ta) := by
  match ta, h with
  | 0, _ => rfl
  | 1, _ => rfl
  | 2, _ => rfl
  | 3, _ => rfl
  | 4, _ => rfl
theorem zai_upd {n off i : Nat} {f : Nat → Int32} {v : Int32} (hi : i < n) : zai n off (upd f (off + i) v) = upd (zai n off f) i v := by
  funext j
  simp only [zai, upd]
  by_cases hj : j < n
  · by_cases e : j = i
    · subst e; simp [hj]
    · rw [if_pos hj, if_neg (by omega), if_neg e, if_pos hj]
  · rw [if_neg hj, if_neg (by omega), if_neg hj]
theorem zv_ald {q t r i N off j0 : Nat} {j : Int32} (ta : Nat) (hta : ta < 2) (hq : (q, t) ∈ L) (hi : (zbT t)[i]? = some (r, .inr (ta, N, off, 0, 0))) (hj : zix j j0 N) {ins : Instr} (hins : ins = (if ta = 0 then .iaload else if ta = 1 then .caload else .baload)) (hd : decode cc pc = .ok (ins, 1))
    (kk : zV l X0 D B own mn cc nL ret R post k n L nx (pc + 1) lv (.int (G q (off + j0)) :: st) G) : zV l X0 D B own mn cc nL ret R post k n L nx pc lv (.int j :: .ref (q + r) :: st) G := by
  intro p e s m args below meth c H locs ls Q hX hR hl hW hS
  obtain ⟨k0, hk0⟩ := zpl_at hq hi
  have hz := zcs_at (D := D) (G := G) hk0
  have hty := ztys_at (D := D) (ta := ta) (by omega)
  have hz' : (zcs D L G)[k0]? = some (q + r, .inl (D.2 ta, N, .inl (zai N off (G q)))) := by
    rw [hz]
    simp only [zce, zac]
    rw [if_pos (show ta < 3 by omega)]
  have hval : zai N off (G q) j.toNatClampNeg = G q (off + j0) := by
    rw [hj.2.1]
    simp [zai, hj.2.2]
  have kk' := kk p e s m args below meth c H locs ls Q hX hR hl hW hS
  rw [← hval] at kk'
  subst hins
  match ta, hta with
  | 0, _ => exact va_iald hX.1 hX.2.1 hX.2.2.2.2.2.1 hW.2.1 k0 _ hz' hty (zix_in hj) hd kk'
  | 1, _ => exact va_cald hX.1 hX.2.1 hX.2.2.2.2.2.1 hW.2.1 k0 _ hz' hty (zix_in hj) hd kk'
  | k + 2, h => exact absurd h (by omega)
theorem zv_iald {q t r i N off j0 : Nat} {j : Int32} (hq : (q, t) ∈ L) (hi : (zbT t)[i]? = some (r, .inr (0, N, off, 0, 0))) (hj : zix j j0 N) (hd : decode cc pc = .ok (.iaload, 1))
    (kk : zV l X0 D B own mn cc nL ret R post k n L nx (pc + 1) lv (.int (G q (off + j0)) :: st) G) : zV l X0 D B own mn cc nL ret R post k n L nx pc lv (.int j :: .ref (q + r) :: st) G := zv_ald 0 (by omega) hq hi hj rfl hd kk
theorem zv_cald {q t r i N off j0 : Nat} {j : Int32} (hq : (q, t) ∈ L) (hi : (zbT t)[i]? = some (r, .inr (1, N, off, 0, 0))) (hj : zix j j0 N) (hd : decode cc pc = .ok (.caload, 1))
    (kk : zV l X0 D B own mn cc nL ret R post k n L nx (pc + 1) lv (.int (G q (off + j0)) :: st) G) : zV l X0 D B own mn cc nL ret R post k n L nx pc lv (.int j :: .ref (q + r) :: st) G := zv_ald 1 (by omega) hq hi hj rfl hd kk
/-- the heap behind a store of a number into an array of a blob -/
theorem zW_ast {q t r i N off j0 k0 ta : Nat} {j : Int32} {v : Int32} {H H' : Heap} (hta : ta < 3) (hW : zW D B L nx G H) (hq : (q, t) ∈ L) (hi : (zbT t)[i]? = some (r, .inr (ta, N, off, 0, 0))) (hk0 : (zpl L)[k0]? = some (q, r, .inr (ta, N, off, 0, 0))) (hj : zix j j0 N)
    (e1 : H'[q + r]? = some ((arrV (D.2 ta) N (fun j => .int (zai N off (G q) j))).setSlot j.toNatClampNeg (.int v))) (e2 : H'.size = H.size) (e3 : ∀ x : Nat, x ≠ q + r → H'[x]? = H[x]?) : zW D B L nx (zst G q (upd (G q) (off + j0) v)) H' := by
  have hz := zcs_at (D := D) (G := G) hk0
  refine zW_of hW hq hi hk0 (fun x hx => ?_) e2 (hW.2.1.set hW.2.2.1 hz ?_ e3)
  · simp only [upd]
    have hb := hj.2.2
    rw [if_neg (fun e => hx (by rw [e]; simp only [zrg]; omega))]
  · show H'[q + r]? = some (vp_cell _ _)
    rw [e1, arrV_store, hj.2.1]
    congr 1
    simp only [zac]
    rw [if_pos hta, zai_upd hj.2.2, vp_cell_i]
    congr 1
    funext x
    simp only [updV, upd]
    split <;> rfl
theorem zv_iast {q t r i N off j0 : Nat} {j v : Int32} (hq : (q, t) ∈ L) (hi : (zbT t)[i]? = some (r, .inr (0, N, off, 0, 0))) (hj : zix j j0 N) (hd : decode cc pc = .ok (.iastore, 1))
    (kk : zV l X0 D B own mn cc nL ret R post k n L nx (pc + 1) lv st (zst G q (upd (G q) (off + j0) v))) : zV l X0 D B own mn cc nL ret R post k n L nx pc lv (.int v :: .int j :: .ref (q + r) :: st) G := by
  intro p e s m args below meth c H locs ls Q hX hR hl hW hS
  obtain ⟨k0, hk0⟩ := zpl_at hq hi
  have hz : (zcs D L G)[k0]? = some (q + r, .inl (D.2 0, N, .inl (zai N off (G q)))) := zcs_at (D := D) (G := G) hk0
  refine W.iast hX.1 hX.2.1 (hW.2.1 k0 _ hz) ((hX.2.2.2.2.2.1.2 0 _ (ztys_at (by omega))).1 N _) (fun q => by cases q) (by show ¬ (j < 0 ∨ (arrV _ _ _).slots.size ≤ _); rw [arrV_size]; exact zix_in hj) rfl rfl hd fun H1 e1 e2 e3 => ?_
  exact kk p e s m args below meth c H1 _ ls Q hX hR hl (zW_ast (by omega) hW hq hi hk0 hj e1 e2 e3) (hS.put e2 e3 (hW.2.2.1.2 k0 _ hz))
theorem zv_cast {q t r i N off j0 : Nat} {j v w : Int32} (hq : (q, t) ∈ L) (hi : (zbT t)[i]? = some (r, .inr (1, N, off, 0, 0))) (hj : zix j j0 N) (hw : narrow .char (.int v) = .int w) (hd : decode cc pc = .ok (.castore, 1))
    (kk : zV l X0 D B own mn cc nL ret R post k n L nx (pc + 1) lv st (zst G q (upd (G q) (off + j0) w))) : zV l X0 D B own mn cc nL ret R post k n L nx pc lv (.int v :: .int j :: .ref (q + r) :: st) G := by
  intro p e s m args below meth c H locs ls Q hX hR hl hW hS
  obtain ⟨k0, hk0⟩ := zpl_at hq hi
  have hz : (zcs D L G)[k0]? = some (q + r, .inl (D.2 1, N, .inl (zai N off (G q)))) := zcs_at (D := D) (G := G) hk0
  refine W.cast hX.1 hX.2.1 (hW.2.1 k0 _ hz) ((hX.2.2.2.2.2.1.2 1 _ (ztys_at (by omega))).1 N _) (fun q => by cases q) (by show ¬ (j < 0 ∨ (arrV _ _ _).slots.size ≤ _); rw [arrV_size]; exact zix_in hj) rfl rfl hd fun H1 e1 e2 e3 => ?_
  exact kk p e s m args below meth c H1 _ ls Q hX hR hl (zW_ast (by omega) hW hq hi hk0 hj (by rw [e1, hw]; rfl) e2 e3) (hS.put e2 e3 (hW.2.2.1.2 k0 _ hz))
theorem zty_ref {ta : Nat} (h3 : 3 ≤ ta) (h5 : ta < 5) : ∃ C, zty ta = .object C := by
  match ta, h3, h5 with
  | 3, _, _ => exact ⟨_, rfl⟩
  | 4, _, _ => exact ⟨_, rfl⟩
theorem zv_aald {q t r i N off a b j0 ta : Nat} {j : Int32} (h3 : 3 ≤ ta) (h5 : ta < 5) (hq : (q, t) ∈ L) (hi : (zbT t)[i]? = some (r, .inr (ta, N, off, a, b))) (hj : zix j j0 N) (hd : decode cc pc = .ok (.aaload, 1))
    (kk : zV l X0 D B own mn cc nL ret R post k n L nx (pc + 1) lv (va_rf (zar q N off a b (G q) j0) :: st) G) : zV l X0 D B own mn cc nL ret R post k n L nx pc lv (.int j :: .ref (q + r) :: st) G := by
  intro p e s m args below meth c H locs ls Q hX hR hl hW hS
  obtain ⟨k0, hk0⟩ := zpl_at hq hi
  have hz := zcs_at (D := D) (G := G) hk0
  have hty := ztys_at (D := D) (ta := ta) (by omega)
  obtain ⟨C, hC⟩ := zty_ref h3 h5
  rw [hC] at hty
  have hz' : (zcs D L G)[k0]? = some (q + r, .inl (D.2 ta, N, .inr (.inr (.inr (.inr (zar q N off a b (G q))))))) := by
    rw [hz]
    simp only [zce, zac]
    rw [if_neg (by omega)]
  have kk' := kk p e s m args below meth c H locs ls Q hX hR hl hW hS
  refine va_aldq hX.1 hX.2.1 hX.2.2.2.2.2.1 hW.2.1 k0 ta hz' hty (zix_in hj) hd ?_
  rw [hj.2.1]
  exact kk'
theorem zv_aaldS {q t r i N off a b j0 ta : Nat} {j : Int32} (h3 : 3 ≤ ta) (h5 : ta < 5) (hq : (q, t) ∈ L) (hi : (zbT t)[i]? = some (r, .inr (ta, N, off, a, b + 1))) (hj : zix j j0 N) (hd : decode cc pc = .ok (.aaload, 1))
    (kk : zV l X0 D B own mn cc nL ret R post k n L nx (pc + 1) lv (.ref (q + (a + (b + 1) * j0)) :: st) G) : zV l X0 D B own mn cc nL ret R post k n L nx pc lv (.int j :: .ref (q + r) :: st) G := by
  refine zv_aald h3 h5 hq hi hj hd ?_
  have e : zar q N off a (b + 1) (G q) j0 = some (q + (a + (b + 1) * j0)) := by simp [zar, hj.2.2]
  rw [e]
  exact kk
theorem zv_aaldD {q t r i N off j0 ta x : Nat} {j : Int32} (h3 : 3 ≤ ta) (h5 : ta < 5) (hq : (q, t) ∈ L) (hi : (zbT t)[i]? = some (r, .inr (ta, N, off, 0, 0))) (hj : zix j j0 N) (hx : zdr q (G q (off + j0)) = some x) (hd : decode cc pc = .ok (.aaload, 1))
    (kk : zV l X0 D B own mn cc nL ret R post k n L nx (pc + 1) lv (.ref x :: st) G) : zV l X0 D B own mn cc nL ret R post k n L nx pc lv (.int j :: .ref (q + r) :: st) G := by
  refine zv_aald h3 h5 hq hi hj hd ?_
  have e : zar q N off 0 0 (G q) j0 = some x := by simp [zar, hj.2.2, hx]
  rw [e]
  exact kk
theorem zv_aaldN {q t r i N off j0 ta : Nat} {j : Int32} (h3 : 3 ≤ ta) (h5 : ta < 5) (hq : (q, t) ∈ L) (hi : (zbT t)[i]? = some (r, .inr (ta, N, off, 0, 0))) (hj : zix j j0 N) (hx : G q (off + j0) = 0) (hd : decode cc pc = .ok (.aaload, 1))
    (kk : zV l X0 D B own mn cc nL ret R post k n L nx (pc + 1) lv (.null :: st) G) : zV l X0 D B own mn cc nL ret R post k n L nx pc lv (.int j :: .ref (q + r) :: st) G := by
  refine zv_aald h3 h5 hq hi hj hd ?_
  have e : zar q N off 0 0 (G q) j0 = none := by simp [zar, hx, zdr]
  rw [e]
  exact kk
theorem zdr_nI {q a : Nat} (ha : q < a) (ha2 : a - q < 2 ^ 31) : zdr q (nI (a - q)) = some a := by
  have hc := nI_clamp (n := a - q) ha2
  have h0 : nI (a - q) ≠ 0 := fun h => by rw [h] at hc; simp at hc; omega
  unfold zdr
  rw [if_neg h0, hc]
  congr 1
  omega
theorem zv_aast {q t r i N off j0 ta x tx ci : Nat} {j : Int32} {fks : List Nat} {C : String} {T : u_T} {N1 : Nat} (h3 : 3 ≤ ta) (h5 : ta < 5) (hq : (q, t) ∈ L) (hi : (zbT t)[i]? = some (r, .inr (ta, N, off, 0, 0))) (hj : zix j j0 N) (hx : (x, tx) ∈ L) (hxo : (zbT tx)[0]? = some (0, .inl (ci, fks))) (hci : vwCl[ci]? = some (C, T, N1)) (hta : zty ta = .object C) (ha : q < x) (ha2 : x - q < 2 ^ 31) (hd : decode cc pc = .ok (.aastore, 1))
    (kk : zV l X0 D B own mn cc nL ret R post k n L nx (pc + 1) lv st (zst G q (upd (G q) (off + j0) (nI (x - q))))) : zV l X0 D B own mn cc nL ret R post k n L nx pc lv (.ref x :: .int j :: .ref (q + r) :: st) G := by
  intro p e s m args below meth c H locs ls Q hX hR hl hW hS
  obtain ⟨k0, hk0⟩ := zpl_at hq hi
  have hz := zcs_at (D := D) (G := G) hk0
  have hz' : (zcs D L G)[k0]? = some (q + r, .inl (D.2 ta, N, .inr (.inr (.inr (.inr (zar q N off 0 0 (G q))))))) := by
    rw [hz]
    simp only [zce, zac]
    rw [if_neg (by omega)]
  obtain ⟨kx, hkx⟩ := zpl_at hx hxo
  have hzx := zcs_at (D := D) (G := G) hkx
  have hty := ztys_at (D := D) (ta := ta) (by omega)
  rw [hta] at hty
  obtain ⟨r', hr', cellV, g1, g2, g3, -⟩ := hW.2.1 kx _ hzx
  have hcls := (hX.2.2.2.2.2.1.1 ci _ hci).2
  obtain ⟨kA, comp, k1, k2, k3, -⟩ := (hX.2.2.2.2.2.1.2 ta _ hty).2
  have hcomp : comp = D.1.1 ci := Option.some.inj (k3.symm.trans hcls.1)
  subst hcomp
  obtain ⟨kC, hkC, -⟩ := id hcls.2
  refine W.aast hX.1 hX.2.1 (hW.2.1 k0 _ hz') (fun q h => by cases h) (fun h => by cases h) k1 k2 rfl hkC ⟨hj.1, by show _ < (arrV _ _ _).slots.size; rw [arrV_size, hj.2.1]; exact hj.2.2⟩ g1 (fun q h => by rw [g3] at h; cases h) (by rw [g2]; exact hkC) (by rw [g2]; exact va_assign hcls) rfl rfl hd fun H1 e1 e2 e3 => ?_
  refine kk p e s m args below meth c H1 _ ls Q hX hR hl (zW_of hW hq hi hk0 (fun y hy => ?_) e2 (hW.2.1.set hW.2.2.1 hz ?_ e3)) (hS.put e2 e3 (hW.2.2.1.2 k0 _ hz'))
  · simp only [upd]
    have hb := hj.2.2
    rw [if_neg (fun e => hy (by rw [e]; simp only [zrg]; omega))]
  · show H1[q + r]? = some (vp_cell _ _)
    rw [e1]
    rw [show vp_cell (D.2 ta) (N, .inr (.inr (.inr (.inr (zar q N off 0 0 (G q)))))) = arrV (D.2 ta) N (fun j => va_rf (zar q N off 0 0 (G q) j)) from rfl, arrV_store, hj.2.1]
    congr 1
    simp only [zac]
    rw [if_neg (by omega)]
    rw [vp_cell_q]
    congr 1
    funext y
    simp only [updV, zar, upd]
    by_cases hy : y = j0
    · subst hy
      simp [hj.2.2, zdr_nI ha ha2, va_rf]
    · have hne : ¬ off + y = off + j0 := by omega
      simp [hy, hne]
end ZARR
end
section
def zpairs (lv : List (Option Value)) : List (Nat × Value) := (List.range lv.length).filterMap (fun i => (lv[i]?.join).map (fun v => (i, v)))
theorem mem_zpairs {lv : List (Option Value)} {i : Nat} {v : Value} : (i, v) ∈ zpairs lv ↔ lv[i]? = some (some v) := by
  unfold zpairs
  rw [List.mem_filterMap]
  constructor
  · rintro ⟨j, -, h⟩
    cases hj : lv[j]? with
    | none => rw [hj] at h; cases h
    | some w =>
      cases w with
      | none => rw [hj] at h; cases h
      | some w =>
        rw [hj] at h
        simp at h
        obtain ⟨rfl, rfl⟩ := h
        exact hj
  · intro h
    exact ⟨i, List.mem_range.mpr (List.getElem?_eq_some_iff.mp h).1, by rw [h]; rfl⟩
theorem zlv_has {ls : Array Slot} {nL : Nat} {lv : List (Option Value)} (h : zlv ls nL lv) : lv_has ls nL (zpairs lv) :=
  ⟨h.2.1, h.2.2.1, fun q hq => h.2.2.2 q.1 q.2 (mem_zpairs.mp hq)⟩
/-- no long stands just ahead of the place -/
def zn2 (lv : List (Option Value)) : Nat → Bool
  | 0 => true
  | i + 1 => match lv[i]? with
    | some (some v) => v.category == 1
    | _ => true
theorem zn2_at {lv : List (Option Value)} {i j : Nat} {v : Value} (h : zn2 lv i = true) (hj : lv[j]? = some (some v)) (hij : j + 1 = i) : (v.category == 2) = false := by
  subst hij
  simp only [zn2, hj, beq_iff_eq] at h
  rw [h]
  rfl
theorem zlv_set1 {ls ls' : Array Slot} {nL i : Nat} {lv : List (Option Value)} {v : Value} (h : zlv ls nL lv) (hn : zn2 lv i = true) (hi : i < nL)
    (h' : lv_has ls' nL ((i, v) :: (zpairs lv).filter (fun q => !(q.1 == i) && !(q.1 + 1 == i && q.2.category == 2)))) : zlv ls' nL (lv.set i (some v)) := by
  refine ⟨by rw [List.length_set]; exact h.1, h'.1, h'.2.1, fun j w hj => ?_⟩
  rw [List.getElem?_set] at hj
  by_cases e : i = j
  · subst e
    rw [if_pos rfl, if_pos (by rw [h.1]; exact hi)] at hj
    cases hj
    exact h'.2.2 (i, v) List.mem_cons_self
  · rw [if_neg e] at hj
    refine h'.2.2 (j, w) (List.mem_cons_of_mem _ (List.mem_filter.mpr ⟨mem_zpairs.mpr hj, ?_⟩))
    have e1 : (j == i) = false := by simp; omega
    by_cases e2 : j + 1 = i
    · simp [e1, zn2_at hn hj e2]
    · have e3 : (j + 1 == i) = false := by simp; omega
      simp [e1, e3]
theorem zlv_set2 {ls ls' : Array Slot} {nL i : Nat} {lv : List (Option Value)} {v : Value} (h : zlv ls nL lv) (hn : zn2 lv i = true) (hi : i + 1 < nL)
    (h' : lv_has ls' nL ((i, v) :: (zpairs lv).filter (fun q => !(q.1 == i) && (!(q.1 == i + 1) && !(q.1 + 1 == i && q.2.category == 2))))) : zlv ls' nL ((lv.set i (some v)).set (i + 1) none) := by
  refine ⟨by rw [List.length_set, List.length_set]; exact h.1, h'.1, h'.2.1, fun j w hj => ?_⟩
  rw [List.getElem?_set] at hj
  by_cases e4 : i + 1 = j
  · subst e4
    rw [if_pos rfl] at hj
    split at hj <;> cases hj
  rw [if_neg e4, List.getElem?_set] at hj
  by_cases e : i = j
  · subst e
    rw [if_pos rfl, if_pos (by rw [h.1]; omega)] at hj
    cases hj
    exact h'.2.2 (i, v) List.mem_cons_self
  · rw [if_neg e] at hj
    refine h'.2.2 (j, w) (List.mem_cons_of_mem _ (List.mem_filter.mpr ⟨mem_zpairs.mpr hj, ?_⟩))
    have e1 : (j == i) = false := by simp; omega
    have e5 : (j == i + 1) = false := by simp; omega
    by_cases e2 : j + 1 = i
    · simp [e1, e5, zn2_at hn hj e2]
    · have e3 : (j + 1 == i) = false := by simp; omega
      simp [e1, e5, e3]
section ZLOC
variable {l : Launch} {X0 : State → Prop} {D : zD} {B : Nat} {own mn : String} {cc : ByteArray} {nL : Nat} {ret : Option FieldType} {R : Room} {post : zP} {k n : Nat} {L : zL} {nx : Nat} {pc : Nat} {lv : List (Option Value)} {st : List Value} {G : zG}
theorem zv_istore_n {i : Fin 4} {x : Int32} (hd : decode cc pc = .ok (.istore_n i, 1)) (hi : (i : Nat) < nL) (hn : zn2 lv i = true) (kk : zV l X0 D B own mn cc nL ret R post k n L nx (pc + 1) (lv.set i (some (.int x))) st G) : zV l X0 D B own mn cc nL ret R post k n L nx pc lv (.int x :: st) G :=
  fun p e s m args below meth c H locs ls Q hX hR hl hW hS => lv_istore_n hX.1 hX.2.1 hd rfl (zlv_has hl) hi rfl (fun ls' h' => kk p e s m args below meth c H locs ls' Q hX hR (zlv_set1 hl hn hi h') hW hS)
theorem zv_istore {i : Nat} {x : Int32} (hd : decode cc pc = .ok (.istore i, 2)) (hi : i < nL) (hn : zn2 lv i = true) (kk : zV l X0 D B own mn cc nL ret R post k n L nx (pc + 2) (lv.set i (some (.int x))) st G) : zV l X0 D B own mn cc nL ret R post k n L nx pc lv (.int x :: st) G :=
  fun p e s m args below meth c H locs ls Q hX hR hl hW hS => lv_istore hX.1 hX.2.1 hd (zlv_has hl) hi rfl (fun ls' h' => kk p e s m args below meth c H locs ls' Q hX hR (zlv_set1 hl hn hi h') hW hS)
theorem zv_astore_n {i : Fin 4} {x : Nat} (hd : decode cc pc = .ok (.astore_n i, 1)) (hi : (i : Nat) < nL) (hn : zn2 lv i = true) (kk : zV l X0 D B own mn cc nL ret R post k n L nx (pc + 1) (lv.set i (some (.ref x))) st G) : zV l X0 D B own mn cc nL ret R post k n L nx pc lv (.ref x :: st) G :=
  fun p e s m args below meth c H locs ls Q hX hR hl hW hS => lv_astore_n hX.1 hX.2.1 hd rfl (zlv_has hl) hi rfl (fun ls' h' => kk p e s m args below meth c H locs ls' Q hX hR (zlv_set1 hl hn hi h') hW hS)
theorem zv_astore {i : Nat} {x : Nat} (hd : decode cc pc = .ok (.astore i, 2)) (hi : i < nL) (hn : zn2 lv i = true) (kk : zV l X0 D B own mn cc nL ret R post k n L nx (pc + 2) (lv.set i (some (.ref x))) st G) : zV l X0 D B own mn cc nL ret R post k n L nx pc lv (.ref x :: st) G :=
  fun p e s m args below meth c H locs ls Q hX hR hl hW hS => lv_astore hX.1 hX.2.1 hd (zlv_has hl) hi rfl (fun ls' h' => kk p e s m args below meth c H locs ls' Q hX hR (zlv_set1 hl hn hi h') hW hS)
theorem zv_lstore_n {i : Fin 4} {x : Int64} (hd : decode cc pc = .ok (.lstore_n i, 1)) (hi : (i : Nat) + 1 < nL) (hn : zn2 lv i = true) (kk : zV l X0 D B own mn cc nL ret R post k n L nx (pc + 1) ((lv.set i (some (.long x))).set ((i : Nat) + 1) none) st G) : zV l X0 D B own mn cc nL ret R post k n L nx pc lv (.long x :: st) G :=
  fun p e s m args below meth c H locs ls Q hX hR hl hW hS => lv_lstore_n hX.1 hX.2.1 hd rfl (zlv_has hl) hi rfl (fun ls' h' => kk p e s m args below meth c H locs ls' Q hX hR (zlv_set2 hl hn hi h') hW hS)
theorem zv_iinc {i : Nat} {a : Int} {x v : Int32} (hd : decode cc pc = .ok (.iinc i a, 3)) (hv : lv[i]? = some (some (.int x))) (hx : x + Int32.ofInt a = v) (hi : i < nL) (hn : zn2 lv i = true) (kk : zV l X0 D B own mn cc nL ret R post k n L nx (pc + 3) (lv.set i (some (.int v))) st G) : zV l X0 D B own mn cc nL ret R post k n L nx pc lv st G := by
  intro p e s m args below meth c H locs ls Q hX hR hl hW hS
  obtain ⟨k0, hk0⟩ := List.getElem?_of_mem (mem_zpairs.mpr hv)
  exact lv_iinc hX.1 hX.2.1 hd (zlv_has hl) hk0 hx hi rfl (fun ls' h' => kk p e s m args below meth c H locs ls' Q hX hR (zlv_set1 hl hn hi h') hW hS)
theorem zv_astore_nN {i : Fin 4} (hd : decode cc pc = .ok (.astore_n i, 1)) (hi : (i : Nat) < nL) (hn : zn2 lv i = true) (kk : zV l X0 D B own mn cc nL ret R post k n L nx (pc + 1) (lv.set i (some .null)) st G) : zV l X0 D B own mn cc nL ret R post k n L nx pc lv (.null :: st) G :=
  fun p e s m args below meth c H locs ls Q hX hR hl hW hS => lv_astore_nN hX.1 hX.2.1 hd rfl (zlv_has hl) hi rfl (fun ls' h' => kk p e s m args below meth c H locs ls' Q hX hR (zlv_set1 hl hn hi h') hW hS)
theorem zv_astoreN {i : Nat} (hd : decode cc pc = .ok (.astore i, 2)) (hi : i < nL) (hn : zn2 lv i = true) (kk : zV l X0 D B own mn cc nL ret R post k n L nx (pc + 2) (lv.set i (some .null)) st G) : zV l X0 D B own mn cc nL ret R post k n L nx pc lv (.null :: st) G :=
  fun p e s m args below meth c H locs ls Q hX hR hl hW hS => lv_astoreN hX.1 hX.2.1 hd (zlv_has hl) hi rfl (fun ls' h' => kk p e s m args below meth c H locs ls' Q hX hR (zlv_set1 hl hn hi h') hW hS)
theorem zv_aload_nN {i : Fin 4} (hd : decode cc pc = .ok (.aload_n i, 1)) (hv : lv[(i : Nat)]? = some (some .null)) (kk : zV l X0 D B own mn cc nL ret R post k n L nx (pc + 1) lv (.null :: st) G) : zV l X0 D B own mn cc nL ret R post k n L nx pc lv (st) G :=
  fun p e s m args below meth c H locs ls Q hX hR hl hW hS => lv_aload_nN hX.1 hX.2.1 hd rfl (hl.2.2.2 _ _ hv) (kk p e s m args below meth c H locs ls Q hX hR hl hW hS)
theorem zv_aloadN {i : Nat} (hd : decode cc pc = .ok (.aload i, 2)) (hv : lv[i]? = some (some .null)) (kk : zV l X0 D B own mn cc nL ret R post k n L nx (pc + 2) lv (.null :: st) G) : zV l X0 D B own mn cc nL ret R post k n L nx pc lv (st) G :=
  fun p e s m args below meth c H locs ls Q hX hR hl hW hS => lv_aloadN hX.1 hX.2.1 hd (hl.2.2.2 _ _ hv) (kk p e s m args below meth c H locs ls Q hX hR hl hW hS)
/-- a local that is a reference or null -/
theorem zv_aload_w {i : Nat} {ins : Instr} {ln : Nat} {w : Value} (hins : (ins = .aload i ∧ ln = 2) ∨ (∃ j : Fin 4, ins = .aload_n j ∧ (j : Nat) = i ∧ ln = 1)) (hw : ∃ a, w = .ref a) (hd : decode cc pc = .ok (ins, ln)) (hv : lv[i]? = some (some w)) (kk : zV l X0 D B own mn cc nL ret R post k n L nx (pc + ln) lv (w :: st) G) : zV l X0 D B own mn cc nL ret R post k n L nx pc lv st G := by
  obtain ⟨a, rfl⟩ := hw
  rcases hins with ⟨rfl, rfl⟩ | ⟨j, rfl, rfl, rfl⟩
  · exact zv_aload hd hv kk
  · exact zv_aload_n hd hv kk
/-- a new cell -/
theorem zW_new {H H1 : Heap} {t : Nat} {cd : zCD} {f : Nat → Int32} (hW : zW D B L nx G H) (hB : B ≤ nx) (ht : zbT t = [(0, cd)]) (z : H1.size = H.size + 1) (ho : ∀ q : Nat, q < H.size → H1[q]? = H[q]?) (hat : va_at D.1 vwCl (nx, zce D nx f cd) H1) : zW D B (L ++ [(nx, t)]) (nx + 1) (zst G nx f) H1 := by
  obtain ⟨h1, h2, h3, h4⟩ := hW
  have e0 : zpl (L ++ [(nx, t)]) = zpl L ++ [(nx, 0, cd)] := by simp [zpl, ht]
  have hlt : ∀ p ∈ zpl L, p.1 ≠ nx := by
    intro p hp e
    obtain ⟨q, r, c⟩ := p
    obtain ⟨t', ht', -⟩ := zpl_mem hp
    have := h4.2 _ ht'
    simp only at e this
    omega
  have e1 : zcs D (L ++ [(nx, t)]) (zst G nx f) = zcs D L G ++ [(nx, zce D nx f cd)] := by
    unfold zcs
    rw [e0, List.map_append]
    congr 1
    · apply List.map_congr_left
      intro p hp
      rw [zst_ne _ _ (hlt p hp)]
    · simp [zst_same]
  have hk : ∀ (k : Nat) (x : Nat × va_E), (zcs D L G)[k]? = some x → H1[x.1]? = H[x.1]? := fun k x hx => ho x.1 ((h2 k x hx).lt)
  refine ⟨by rw [z, h1], ?_, ?_, ?_⟩
  · rw [e1]
    refine (h2.kept hk).app (fun k x hx => ?_)
    have hz : k < 1 := (List.getElem?_eq_some_iff.mp hx).1
    rw [show k = 0 by omega] at hx
    cases hx
    exact hat
  · rw [e1]
    exact h3.push h2 h1.symm hB
  · refine ⟨fun q t1 u hq hu => ?_, fun b hb => ?_⟩
    · rcases List.mem_append.mp hq with hq | hq <;> rcases List.mem_append.mp hu with hu | hu
      · exact h4.1 _ _ _ hq hu
      · simp at hu
        have := h4.2 _ hq
        simp only at this
        omega
      · simp at hq
        have := h4.2 _ hu
        simp only at this
        omega
      · simp at hq hu
        rw [hq.2, hu.2]
    · rcases List.mem_append.mp hb with hb | hb
      · have := h4.2 _ hb
        omega
      · simp at hb
        subst hb
        simp
theorem zS_new {A : Nat → Prop} {H0 H H1 : Heap} {locs : List Loc} (h : va_S A H0 H locs) (z : H1.size = H.size + 1) (ho : ∀ q : Nat, q < H.size → H1[q]? = H[q]?) : va_S A H0 H1 locs :=
  ⟨Nat.le_trans h.1 (by omega), fun x h1 h2 => (ho x (Nat.lt_of_lt_of_le h1 h.1)).trans (h.2.1 x h1 h2), h.2.2⟩
theorem zv_new {C : String} {T : u_T} {N ci ix t : Nat} {fks : List Nat} {ty : Nat → FieldType} (hB : B ≤ nx) (hcl : Cond.classLink own ix C ∈ zgw) (hin : Cond.instantiable C N ∈ zgw) (hini : Cond.initialized C ∈ zgw) (hci : vwCl[ci]? = some (C, T, N)) (hu : ∀ w ∈ u_ws C T N, w ∈ zgw) (hty : ∀ k, k < N → parseFieldDescriptor (T k).2.2.1 = some (ty k)) (ht : zbT t = [(0, .inl (ci, fks))]) (hfs : ∀ q j, j < N → defaultValue (ty j) = vp_V (zfl q (fun _ => 0) 0 fks) j) (hcells : k + 1 ≤ R.cells) (hslots : n + N ≤ R.slots) (hd : decode cc pc = .ok (.new ix, 3))
    (kk : zV l X0 D B own mn cc nL ret R post (k + 1) (n + N) (L ++ [(nx, t)]) (nx + 1) (pc + 3) lv (.ref nx :: st) (zst G nx (fun _ => 0))) : zV l X0 D B own mn cc nL ret R post k n L nx pc lv st G := by
  intro p e s m args below meth c H locs ls Q hX hR hl hW hS
  have hKn := hX.2.2.2.2.2.1.1 ci _ hci
  refine W.newcK hX.1 hX.2.1 hX.2.2.2.1 (hX.2.2.2.2.1 _ hcl) (hX.2.2.2.2.1 _ hin) (hX.2.2.2.2.1 _ hini) rfl hd hcells hslots hKn.2.1 hW.1 fun H1 kC hkC e1 z1 o1 => ?_
  rw [← hW.1] at z1 o1
  exact kk p e s m args below meth c H1 locs ls Q hX hR hl (zW_new hW hB ht z1 o1 ⟨_, hci, (u_born ty hX.2.2.2.2.1 hu hKn hkC e1 hty).to (fun j hj => hfs nx j hj)⟩) (zS_new hS z1 o1)
theorem zv_newarray {N t ta : Nat} {a : Int32} {atype : ArrayType} (hB : B ≤ nx) (hat : newarray.typeOf atype = zty ta) (hta : ta < 3) (hw : Cond.arrayClass (zty ta) ∈ zgw) (hn : ¬ a < 0) (hN : a.toNatClampNeg = N) (hNN : N < 10000) (ht : zbT t = [(0, .inr (ta, N, 0, 0, 0))]) (hcells : k + 1 ≤ R.cells) (hslots : n + N ≤ R.slots) (hd : decode cc pc = .ok (.newarray atype, 2))
    (kk : zV l X0 D B own mn cc nL ret R post (k + 1) (n + N) (L ++ [(nx, t)]) (nx + 1) (pc + 2) lv (.ref nx :: st) (zst G nx (fun _ => 0))) : zV l X0 D B own mn cc nL ret R post k n L nx pc lv (.int a :: st) G := by
  intro p e s m args below meth c H locs ls Q hX hR hl hW hS
  have hcb : componentBytes (zty ta) ≤ 8 := by
    match ta, hta with
    | 0, _ => decide
    | 1, _ => decide
    | 2, _ => decide
  refine va_newaK hX.1 hX.2.1 (by rw [hat]; exact hX.2.2.2.2.1 _ hw) rfl hd rfl hn hN (by rw [hat]; exact Nat.le_trans (Nat.mul_le_mul (Nat.le_of_lt hNN) hcb) (Nat.le_of_ble_eq_true rfl)) hcells hslots hW.1 fun H1 cA e1 z1 o1 hAr hNm => ?_
  rw [← hW.1] at z1 o1
  rw [hat] at e1 hNm
  have hra := (hX.2.2.2.2.2.1.2 ta _ (ztys_at (by omega))).2
  have hcA : cA = D.2 ta := by
    match ta, hta with
    | 0, _ => exact Option.some.inj (hNm.symm.trans hra)
    | 1, _ => exact Option.some.inj (hNm.symm.trans hra)
    | 2, _ => exact Option.some.inj (hNm.symm.trans hra)
  subst hcA
  refine kk p e s m args below meth c H1 locs ls Q hX hR hl (zW_new hW hB ht z1 o1 ?_) (zS_new hS z1 o1)
  show H1[nx]? = some (vp_cell _ _)
  rw [e1]
  simp only [zac]
  rw [if_pos hta, vp_cell_i]
  congr 2
  funext j
  have : defaultValue (zty ta) = .int 0 := by
    match ta, hta with
    | 0, _ => rfl
    | 1, _ => rfl
    | 2, _ => rfl
  rw [this]
  simp [zai]
theorem zv_anew {N t ta ix : Nat} {a : Int32} {C : String} (hB : B ≤ nx) (hC : zty ta = .object C) (h5 : ta < 5) (h3 : 3 ≤ ta) (hcl : Cond.classLink own ix C ∈ zgw) (hov : Cond.arrayOver (.object C) ∈ zbw) (hn : ¬ a < 0) (hN : a.toNatClampNeg = N) (hNN : N < 10000) (ht : zbT t = [(0, .inr (ta, N, 0, 0, 0))]) (hcells : k + 1 ≤ R.cells) (hslots : n + N ≤ R.slots) (hd : decode cc pc = .ok (.anewarray ix, 3))
    (kk : zV l X0 D B own mn cc nL ret R post (k + 1) (n + N) (L ++ [(nx, t)]) (nx + 1) (pc + 3) lv (.ref nx :: st) (zst G nx (fun _ => 0))) : zV l X0 D B own mn cc nL ret R post k n L nx pc lv (.int a :: st) G := by
  intro p e s m args below meth c H locs ls Q hX hR hl hW hS
  subst hN
  refine W.anew hX.1 hX.2.1 hX.2.2.2.1 (hX.2.2.2.2.1 _ hcl) (va_AO.use (hX.2.2.2.2.2.2.2.1 _ hov)) rfl hd rfl hn (by omega) hcells hslots fun cA kA comp f1 f2 f3 f4 => ?_
  generalize hH1 : H.push ({ cls := cA, slots := Array.replicate a.toNatClampNeg .null, vm := .none } : Cell) = H1
  have z1 : H1.size = H.size + 1 := by rw [← hH1, Array.size_push]
  have e1 : H1[H.size]? = some (arrV cA a.toNatClampNeg (fun _ => .null)) := by rw [← hH1, Array.getElem?_push_size, ← arrV_new]
  have o1 : ∀ q : Nat, q < H.size → H1[q]? = H[q]? := fun q hq => by rw [← hH1, Array.getElem?_push, if_neg (Nat.ne_of_lt hq)]
  have hty := ztys_at (D := D) (ta := ta) h5
  rw [hC] at hty
  obtain ⟨_, _, -, -, -, g4⟩ := (hX.2.2.2.2.2.1.2 ta _ hty).2
  have hcA : cA = D.2 ta := Option.some.inj (f1.symm.trans g4)
  subst hcA
  have hsz := hW.1
  rw [hsz] at e1 ⊢
  refine kk p e s m args below meth c H1 locs ls Q hX hR hl (zW_new hW hB ht z1 o1 ?_) (zS_new hS z1 o1)
  show H1[nx]? = some (vp_cell _ _)
  rw [e1]
  simp only [zac]
  rw [if_neg (by omega), vp_cell_q]
  congr 2
  funext j
  simp [zar, zdr, va_rf]
theorem zv_objInit {ix : Nat} {a : Nat} (hlink : Cond.methodLink own ix Lib.objectInit ∈ zgw) (hinst : Cond.instanceMethod Lib.objectInit ∈ zgw) (hcode : Cond.code Lib.objectInit ⟨#[0xb1]⟩ 1 none ∈ zgw) (hd : decode cc pc = .ok (.invokespecial ix, 3)) (hfr : 1 ≤ R.frames) (hlo : 12 ≤ R.locals)
    (kk : zV l X0 D B own mn cc nL ret R post k n L nx (pc + 3) lv [] G) : zV l X0 D B own mn cc nL ret R post k n L nx pc lv [.ref a] G :=
  fun p e s m args below meth c H locs ls Q hX hR hl hW hS => W.objInit hX.1 hX.2.1 hX.2.2.2.1 (hX.2.2.2.2.1 _ hlink) (hX.2.2.2.2.1 _ hinst) (hX.2.2.2.2.1 _ hcode) rfl (by show ls.size = c.maxLocals; rw [hl.2.1, hX.2.2.1]) rfl hd hfr (by simpa using hlo) (kk p e s m args below meth c H locs ls Q hX hR hl hW hS)
/-- the same heap under other words: what is listed anew stood there -/
theorem zv_ext {G' : zG} (h : ∀ q r cd, (q, r, cd) ∈ zpl L → ∀ j, (zrg cd).1 ≤ j → j < (zrg cd).2 → G q j = G' q j) (kk : zV l X0 D B own mn cc nL ret R post k n L nx pc lv st G') : zV l X0 D B own mn cc nL ret R post k n L nx pc lv st G := by
  intro p e s m args below meth c H locs ls Q hX hR hl hW hS
  have e0 : zcs D L G = zcs D L G' := by
    apply List.map_congr_left
    rintro ⟨q, r, cd⟩ hp
    rw [zce_congr (h q r cd hp)]
  exact kk p e s m args below meth c H locs ls Q hX hR hl ⟨hW.1, by rw [← e0]; exact hW.2.1, by rw [← e0]; exact hW.2.2.1, hW.2.2.2⟩ hS
theorem zv_relay {L' : zL} {G' : zG} (h : ∀ D : zD, zcs D L G = zcs D L' G') (hf : zfun L nx → zfun L' nx) (kk : zV l X0 D B own mn cc nL ret R post k n L' nx pc lv st G') : zV l X0 D B own mn cc nL ret R post k n L nx pc lv st G := by
  intro p e s m args below meth c H locs ls Q hX hR hl hW hS
  exact kk p e s m args below meth c H locs ls Q hX hR hl ⟨hW.1, by rw [← h D]; exact hW.2.1, by rw [← h D]; exact hW.2.2.1, hf hW.2.2.2⟩ hS
end ZLOC
end
section
section ZCOPY
variable {l : Launch} {X0 : State → Prop} {D : zD} {B : Nat} {own mn : String} {cc : ByteArray} {nL : Nat} {ret : Option FieldType} {R : Room} {post : zP} {k n : Nat} {L : zL} {nx : Nat} {pc : Nat} {lv : List (Option Value)} {st : List Value} {G : zG}
def zcp (off M : Nat) (f : Nat → Int32) (off0 : Nat) (g : Nat → Int32) : Nat → Int32 := fun y => if off ≤ y ∧ y < off + M then f (off0 + (y - off)) else g y
theorem zv_copy {q0 t0 r0 i0 N0 off0 q t r i N off M ix : Nat} {a : Int32} (hlink : Cond.methodLink own ix arraycopyName ∈ zgw) (hnat : Cond.native arraycopyName ∈ zgw) (hstat : Cond.static arraycopyName ∈ zgw) (hini : Cond.initialized "java/lang/System" ∈ zgw)
    (hq0 : (q0, t0) ∈ L) (hi0 : (zbT t0)[i0]? = some (r0, .inr (0, N0, off0, 0, 0))) (hq : (q, t) ∈ L) (hi : (zbT t)[i]? = some (r, .inr (0, N, off, 0, 0))) (h3 : ¬ a < 0) (hM : a.toNatClampNeg = M) (hM0 : M ≤ N0) (hM1 : M ≤ N)
    (hfr : 1 ≤ R.frames) (hlo : (st.map fun v => v.category).sum + (nativeFrameWords "java/lang/System" "arraycopy" 5 + 11) ≤ R.locals) (hd : decode cc pc = .ok (.invokestatic ix, 3))
    (kk : zV l X0 D B own mn cc nL ret R post k n L nx (pc + 3) lv st (zst G q (zcp off M (G q0) off0 (G q)))) : zV l X0 D B own mn cc nL ret R post k n L nx pc lv (.int a :: .int 0 :: .ref (q + r) :: .int 0 :: .ref (q0 + r0) :: st) G := by
  intro p e s m args below meth c H locs ls Q hX hR hl hW hS
  obtain ⟨k0, hk0⟩ := zpl_at hq0 hi0
  obtain ⟨k1, hk1⟩ := zpl_at hq hi
  have hz0 : (zcs D L G)[k0]? = some (q0 + r0, .inl (D.2 0, N0, .inl (zai N0 off0 (G q0)))) := zcs_at (D := D) (G := G) hk0
  have hz1 : (zcs D L G)[k1]? = some (q + r, .inl (D.2 0, N, .inl (zai N off (G q)))) := zcs_at (D := D) (G := G) hk1
  have hc0 : H[q0 + r0]? = some (vp_cell (D.2 0) (N0, .inl (zai N0 off0 (G q0)))) := hW.2.1 k0 _ hz0
  have hc1 : H[q + r]? = some (vp_cell (D.2 0) (N, .inl (zai N off (G q)))) := hW.2.1 k1 _ hz1
  have hAr := (hX.2.2.2.2.2.1.2 0 _ (ztys_at (by omega))).1
  obtain ⟨-, ka, hka, cma, hkka⟩ := hAr N0 (fun j => .int (zai N0 off0 (G q0) j))
  obtain ⟨-, kb, hkb, cmb, hkkb⟩ := hAr N (fun j => .int (zai N off (G q) j))
  have nn : a.toInt = (M : Int) := by
    have h0 : (0 : Int) ≤ a.toInt := by
      have := Int32.not_lt.mp h3
      simpa using Int32.le_iff_toInt_le.mp this
    have h1 : a.toInt.toNat = M := hM
    omega
  have z0 : (0 : Int32).toInt = 0 := rfl
  have zc0 : (0 : Int32).toNatClampNeg = 0 := rfl
  have e1 : copied (vp_cell (D.2 0) (N0, .inl (zai N0 off0 (G q0)))) (vp_cell (D.2 0) (N, .inl (zai N off (G q)))) 0 0 a = vp_cell (D.2 0) (N, .inl (va_cpy (zai N0 off0 (G q0)) (zai N off (G q)) 0 0 M)) := by
    rw [← hM]
    exact va_copied (fun z => .int z) (D.2 0) (D.2 0) _ _ (by rw [hM]; omega)
  intro T hT X
  obtain ⟨vm', X', step⟩ := X.arraycopy hX.1 hX.2.2.2.1 (hX.2.2.2.2.1 _ hlink) (hX.2.2.2.2.1 _ hnat) (hX.2.2.2.2.1 _ hstat) (hX.2.2.2.2.1 _ hini) (src := q0 + r0) (dst := q + r) (cs := vp_cell (D.2 0) (N0, .inl (zai N0 off0 (G q0)))) (cd := vp_cell (D.2 0) (N, .inl (zai N off (G q)))) (srcPos := 0) (destPos := 0) (n := a) (by rw [hT]; exact hc0) (by rw [hT]; exact hc1)
    (fun _ h => by cases h) (fun _ h => by cases h) (fun h => by cases h) (fun h => by cases h) hka hkb hkka hkkb (by rfl) (by decide) (by decide) h3
    (by rw [z0, nn]; show ¬ _ > ((arrV (D.2 0) N0 (fun j => .int (zai N0 off0 (G q0) j))).slots.size : Int); rw [arrV_size]; omega)
    (by rw [z0, nn]; show ¬ _ > ((arrV (D.2 0) N (fun j => .int (zai N off (G q) j))).slots.size : Int); rw [arrV_size]; omega)
    (fun vm₁ _ i hi => by
      have e : (vp_cell (D.2 0) (N0, .inl (zai N0 off0 (G q0)))).slots.getD ((0 : Int32).toNatClampNeg + i) .null = .int (zai N0 off0 (G q0) ((0 : Int32).toNatClampNeg + i)) := by
        show (arrV (D.2 0) N0 (fun j => .int (zai N0 off0 (G q0) j))).slots.getD _ _ = _
        rw [Array.getD_eq_getD_getElem?, arrV_read _ _ (by rw [hM] at hi; rw [zc0]; omega)]
        rfl
      rw [e]
      exact ⟨rfl, trivial⟩)
    (g := F0 m pc ls (.int a :: .int 0 :: .ref (q + r) :: .int 0 :: .ref (q0 + r0) :: st)) rfl (by show ls.size = c.maxLocals; rw [hl.2.1, hX.2.2.1]) (rest := st) rfl (by rw [hX.2.1]; exact hd) hfr (by show 2 * 0 + _ + _ ≤ _; omega)
  rw [e1] at X' step
  have hlt : q + r < H.size := (Array.getElem?_eq_some_iff.mp hc1).1
  have hheap : ((T.setVm vm').setCell (q + r) (vp_cell (D.2 0) (N, .inl (va_cpy (zai N0 off0 (G q0)) (zai N off (G q)) 0 0 M)))).heap = H.setIfInBounds (q + r) (vp_cell (D.2 0) (N, .inl (va_cpy (zai N0 off0 (G q0)) (zai N off (G q)) 0 0 M))) := by rw [← hT]; rfl
  have oq : ∀ x : Nat, x ≠ q + r → (H.setIfInBounds (q + r) (vp_cell (D.2 0) (N, .inl (va_cpy (zai N0 off0 (G q0)) (zai N off (G q)) 0 0 M))))[x]? = H[x]? := fun x hx => by simp [Array.getElem?_setIfInBounds, Ne.symm hx]
  have hval : va_cpy (zai N0 off0 (G q0)) (zai N off (G q)) 0 0 M = zai N off (zcp off M (G q0) off0 (G q)) := by
    funext y
    simp only [va_cpy, zai, zcp, Nat.zero_add, Nat.sub_zero, Nat.zero_le, true_and, Nat.le_add_right]
    by_cases hy : y < M
    · have h2 : y < N0 := by omega
      have h4 : y < N := by omega
      simp [hy, h2, h4]
    · have h5 : ¬ off + y < off + M := by omega
      simp [hy]
  have hside : ∀ x, ¬ ((zrg (.inr (0, N, off, 0, 0))).1 ≤ x ∧ x < (zrg (.inr (0, N, off, 0, 0))).2) → zcp off M (G q0) off0 (G q) x = G q x := by
    intro x hx
    simp only [zcp]
    rw [if_neg (fun h => hx ⟨h.1, by simp only [zrg]; omega⟩)]
  obtain ⟨t2, a1, b1⟩ := kk p e s m args below meth c _ _ ls Q hX hR hl (zW_of hW hq hi hk1 hside (by simp) (hW.2.1.set hW.2.2.1 hz1 (show (H.setIfInBounds (q + r) _)[q + r]? = some _ by
      rw [Array.getElem?_setIfInBounds, if_pos rfl, if_pos hlt]
      simp only [zac]
      rw [if_pos (by omega), hval]) oq))
    ⟨by simp; exact hS.1, fun x g1 g2 => by
      rw [oq x (fun e => g2 (by rw [e]; exact hW.2.2.1.2 k1 _ hz1))]
      exact hS.2.1 x g1 g2, fun x hx => by
      rcases List.mem_append.mp hx with h | h
      · exact hS.2.2 x h
      · obtain ⟨z, -, hz⟩ := List.mem_map.mp h
        rw [← hz]
        exact hW.2.2.1.2 k1 _ hz1⟩ _ hheap X'
  exact ⟨t2, step t2 a1, b1⟩
end ZCOPY
end
section
abbrev zrm (fr lo mc ms : Nat) : Room := { frames := fr, cells := mc, slots := ms, locals := lo }
def zws (y : MethodName) (cc : ByteArray) (nL : Nat) (ret : Option FieldType) : List Cond := Cond.code y cc nL ret :: zgw
abbrev zQ : Type := Option Value → zL → Nat → zG → Prop
def zQc (D : zD) (B : Nat) (post : zQ) : State → Outcome → State → Prop := fun st o t =>
  (∃ (v : Option Value) (L' : zL) (nx' : Nat) (G' : zG), o = .returned v ∧ zW D B L' nx' G' t.heap ∧ post v L' nx' G') ∧ va_F (fun q => B ≤ q) st t
/-- a method's contract: from these arguments, these blobs, it returns with 'post' -/
def zMet (l : Launch) (D : zD) (B : Nat) (y : MethodName) (cc : ByteArray) (nL : Nat) (ret : Option FieldType) (fr lo mc ms : Nat) (av : List Value) (L : zL) (nx : Nat) (G : zG) (post : zQ) : Prop :=
  Met l y (zws y cc nL ret) (zrm fr lo mc ms) (fun v U => v = av.toArray ∧ zW D B L nx G U.heap ∧ va_K D.1 vwCl (ztys D) U ∧ zNw U) (fun _ st o t => zQc D B post st o t) mc ms (fun q => B ≤ q)
/-- the outcome said in full -/
def zE (v : Option Value) (L : zL) (nx : Nat) (G : zG) : zQ := fun v' L' nx' G' => v' = v ∧ L' = L ∧ nx' = nx ∧ G' = G
def zen : List Value → List (Option Value)
  | [] => []
  | v :: vs => if v.category = 2 then some v :: none :: zen vs else some v :: zen vs
theorem zen_args : ∀ (vs : List Value) (s i : Nat) (v : Value), (zen vs)[i]? = some (some v) → (s + i, v) ∈ lv_args s vs
  | [], s, i, v, h => by simp [zen] at h
  | w :: vs, s, i, v, h => by
    unfold zen at h
    unfold lv_args
    by_cases hc : w.category = 2
    · rw [if_pos hc] at h ⊢
      match i, h with
      | 0, h => simp at h; subst h; exact List.mem_cons_self
      | 1, h => simp at h
      | j + 2, h =>
        have h1 : (zen vs)[j]? = some (some v) := by simpa using h
        have h2 := zen_args vs (s + 2) j v h1
        rw [show s + (j + 2) = s + 2 + j by omega]
        exact List.mem_cons_of_mem _ h2
    · rw [if_neg hc] at h ⊢
      match i, h with
      | 0, h => simp at h; subst h; exact List.mem_cons_self
      | j + 1, h =>
        have h1 : (zen vs)[j]? = some (some v) := by simpa using h
        have h2 := zen_args vs (s + 1) j v h1
        rw [show s + (j + 1) = s + 1 + j by omega]
        exact List.mem_cons_of_mem _ h2
theorem zen_len : ∀ vs : List Value, (zen vs).length = (lg_sl vs).length
  | [] => rfl
  | w :: vs => by
    have ih := zen_len vs
    unfold zen lg_sl
    by_cases hc : w.category = 2
    · rw [if_pos hc]
      simp only [List.length_cons, List.flatMap_cons, if_pos hc, List.length_append, List.length_nil]
      rw [ih]
      show _ = 0 + 1 + 1 + (lg_sl vs).length
      omega
    · rw [if_neg hc]
      simp only [List.length_cons, List.flatMap_cons, if_neg hc, List.length_append, List.length_nil]
      rw [ih]
      show _ = 0 + 1 + (lg_sl vs).length
      omega
theorem zMet_of {l : Launch} {D : zD} {B : Nat} {y : MethodName} {own mn : String} {cc : ByteArray} {nL : Nat} {ret : Option FieldType} {fr lo mc ms : Nat} {av : List Value} {L : zL} {nx : Nat} {G : zG} {post : zQ} (lv0 : List (Option Value))
    (hy : plainFor y = true) (hown : y.cls = own) (hmn : y.name = mn) (hlv : zen av ++ List.replicate (nL - (zen av).length) none = lv0) (hlen : (zen av).length ≤ nL)
    (body : zV l (fun _ => True) D B own mn cc nL ret (zrm fr lo mc ms) (fun v L' nx' G' k n => post v L' nx' G' ∧ k ≤ mc ∧ n ≤ ms) 0 0 L nx 0 lv0 [] G) : zMet l D B y cc nL ret fr lo mc ms av L nx G post := by
  refine va_MetF (cc := cc) (maxL := nL) (ret := ret) hy rfl ?_
  intro p e s m args below meth c s₁ Bo hml hv
  obtain ⟨rfl, hW, hK, hN⟩ := hv
  have hts := atoms_spec (ws := zws y cc nL ret) Bo.pre
  have hr := Bo.returns
  have hlocks := Bo.notSynchronized
  have hown' : s.vm.findClass own = some m.cls := by rw [← hown]; exact findClass_of_methodNamed Bo.named
  have hname : meth.name = mn := by rw [← hmn]; exact (name_of_methodNamed Bo.named Bo.method).1
  have hl0 := lv_entry av (n := nL) (by rw [← zen_len]; exact hlen)
  rw [lg_entry_eq]
  have hl : zlv ((lg_sl av ++ List.replicate (nL - (lg_sl av).length) Slot.unset).toArray) nL lv0 := by
    refine ⟨by rw [← hlv]; simp; omega, hl0.1, hl0.2.1, fun i v h => ?_⟩
    rw [← hlv] at h
    by_cases hi : i < (zen av).length
    · rw [List.getElem?_append_left hi] at h
      have := zen_args av 0 i v h
      rw [Nat.zero_add] at this
      exact hl0.2.2 (i, v) this
    · rw [List.getElem?_append_right (by omega), List.getElem?_replicate] at h
      split at h <;> cases h
  have hX : zX (fun _ => True) D own mn cc nL p s m av.toArray meth c := ⟨Bo.exec, Bo.bytes, hml, hown', fun w hw => hts w (List.mem_cons_of_mem _ hw), hK, hname, hN, trivial⟩
  refine body p e s m av.toArray below meth c s.heap [] _ _ hX ?_ hl hW va_S.rf
  intro H' locs' ls' pc' v L' nx' G' k' n' hret hW' hS' hpost
  refine W.widen hpost.2.1 hpost.2.2 ?_
  have hfin : ∀ t : State, t.heap = H' → s.WarmedH t.vm → zQc D B post s (.returned v) t := fun t ht hw => ⟨⟨v, L', nx', G', rfl, by rw [ht]; exact hW', hpost.1⟩, hS'.F ht⟩
  rcases hret with ⟨x, ty, rfl, e1, e2, e3⟩ | ⟨rfl, e1, e3⟩ | ⟨w, C, rfl, e1, e2, e3⟩
  · exact W.zret Bo.exec Bo.bytes (hr.trans e1) e2 hfin hS'.2.2 e3 hlocks
  · exact W.vret Bo.exec Bo.bytes (hr.trans e1) hfin hS'.2.2 e3 hlocks
  · exact W.aret Bo.exec Bo.bytes (hr.trans e1) (Or.inl ⟨C, rfl⟩) e2 hfin hS'.2.2 e3 hlocks
section ZCALL
variable {l : Launch} {X0 : State → Prop} {D : zD} {B : Nat} {own mn : String} {cc : ByteArray} {nL : Nat} {ret : Option FieldType} {R : Room} {post : zP} {k n : Nat} {L : zL} {nx : Nat} {pc : Nat} {lv : List (Option Value)} {st : List Value} {G : zG}
theorem zrun {p : Program} {e : Env} {s : State} {m : MethodId} {args : Array Value} {below : List Frame} {meth : Method} {c : Code} {H : Heap} {locs : List Loc} {cells slots mc ms : Nat} {Q : State → Prop} {ls : Array Slot} {st0 rest : List Value} {qq : zQ}
    (hr : va_Run p l e R s m args below meth c H locs cells slots mc ms (F0 m pc ls st0) rest (fun st o t => zQc D B qq st o t) (fun q => B ≤ q)) (hS : va_S (fun q => B ≤ q) s.heap H locs)
    (kk : ∀ (v : Option Value) (L' : zL) (nx' : Nat) (G' : zG) (H1 : Heap) (locs1 : List Loc), zW D B L' nx' G' H1 → qq v L' nx' G' → va_S (fun q => B ≤ q) s.heap H1 locs1 → W p l e R s m args below meth c H1 locs1 (cells + mc) (slots + ms) Q (F0 m (pc + 3) ls (v.toList ++ rest))) :
    W p l e R s m args below meth c H locs cells slots Q (F0 m pc ls st0) := by
  intro T hT X
  obtain ⟨v, st₀, t, T', Lc, h0, X', hL, e1, e2, ⟨⟨v', L', nx', G', hv, hW', hq⟩, hz, hk⟩, step⟩ := hr T hT X
  cases hv
  rw [h0] at hz hk
  obtain ⟨t2, a1, b1⟩ := kk v L' nx' G' T'.heap (locs ++ Lc) (by rw [e1]; exact hW') hq
    ⟨Nat.le_trans hS.1 (by rw [e1]; exact hz), fun q h1 h2 => by rw [e1, hk q (Nat.lt_of_lt_of_le h1 hS.1) h2]; exact hS.2.1 q h1 h2, fun q hq => by
      rcases List.mem_append.mp hq with h | h
      · exact hS.2.2 q h
      · exact hL q h⟩ T' rfl X'
  exact ⟨t2, step t2 a1, b1⟩
theorem zgood_ws {y : MethodName} {cc' : ByteArray} {nL' : Nat} {ret' : Option FieldType} (h : Cond.code y cc' nL' ret' ∈ zgw) : GoodIn zgw (zws y cc' nL' ret') := by
  intro w hw
  have hw' : w ∈ zgw := by
    rcases List.mem_cons.mp hw with rfl | hw
    · exact h
    · exact hw
  exact ⟨hw', good_of_word (zgw_good hw')⟩
theorem zNw_same {u U : State} (hv : u.vm = U.vm) (h : zNw u) : zNw U := by
  intro w hw
  have hk := (List.mem_filter.mp hw).2
  have h1 := h w hw
  cases w <;> simp only [zkind, Bool.false_eq_true] at hk
  case methodLinkNest => exact va_Nw.same rfl hv h1
  case fieldLinkNest => exact va_Nw.same rfl hv h1
  case arrayOver ty =>
    cases ty <;> simp only [zkind, Bool.false_eq_true] at hk
    exact va_AO.moved (by rw [hv]; exact Vm.Alike.refl U.vm) h1
theorem zblind {D : zD} {B : Nat} {av : List Value} {L : zL} {nx : Nat} {G : zG} : FrameBlind (fun v U => v = av.toArray ∧ zW D B L nx G U.heap ∧ va_K D.1 vwCl (ztys D) U ∧ zNw U) := by
  intro a U g mk h
  exact ⟨h.1, h.2.1, va_K.moved (u := U) (U := U.calling g mk a) (Vm.Alike.refl U.vm) h.2.2.1, zNw_same (u := U) (U := U.calling g mk a) rfl h.2.2.2⟩
theorem zv_callS {y : MethodName} {cc' : ByteArray} {nL' np : Nat} {ret' : Option FieldType} {fr lo mc ms ix : Nat} {As : List Value} {qq : zQ} (hM : zMet l D B y cc' nL' ret' fr lo mc ms As L nx G qq) (hl0 : zML own ix y cc' nL' ret' np) (hst : Cond.static y ∈ zgw) (hnp : As.length = np)
    {stk : List Value} (hstk : stk = As.reverse ++ st) (hcat : (st.map fun v => v.category).sum ≤ 8) (hd : decode cc pc = .ok (.invokestatic ix, 3)) (hR : fr + 1 ≤ R.frames ∧ 8 + (nL' + 11) + lo ≤ R.locals) (hcs : k + mc ≤ R.cells ∧ n + ms ≤ R.slots)
    (kk : ∀ (v : Option Value) (L' : zL) (nx' : Nat) (G' : zG), qq v L' nx' G' → zV l X0 D B own mn cc nL ret R post (k + mc) (n + ms) L' nx' (pc + 3) lv (v.toList ++ st) G') : zV l X0 D B own mn cc nL ret R post k n L nx pc lv stk G := by
  intro p e s m args below meth c H locs ls Q hX hR0 hl hW hS
  have ok : ∀ w ∈ zgw, w.before args s = true := hX.2.2.2.2.1
  refine zrun (mc := mc) (ms := ms) (rest := st) (va_runS (As := As) ⟨hX.1, hX.2.1, hX.2.2.1, hX.2.2.2.1, ok⟩ hM ⟨callB_of np ok (zgood_ws hl0.2.1) rfl rfl rfl (ok _ hl0.2.2.1) (ok _ hl0.1) ⟨hl0.2.2.2.1, hl0.2.2.2.2.1, hl0.2.2.2.2.2⟩ hR, ok _ hst⟩ ⟨zblind, fun U hU hWm => ⟨rfl, by rw [hU]; exact hW, va_K.moved hWm.alike hX.2.2.2.2.2.1, zNw_warm hWm hX.2.2.2.2.2.2.2.1⟩⟩ rfl hnp hl.2.1 hstk (lv_room hcat) hd hcs) hS ?_
  intro v L' nx' G' H1 locs1 hW1 hq hS1
  exact kk v L' nx' G' hq p e s m args below meth c H1 locs1 ls Q hX hR0 hl hW1 hS1
theorem zv_callSN {y : MethodName} {cc' : ByteArray} {nL' np : Nat} {ret' : Option FieldType} {fr lo mc ms ix : Nat} {As : List Value} {qq : zQ} (hM : zMet l D B y cc' nL' ret' fr lo mc ms As L nx G qq) (hl0 : zMLN own ix y cc' nL' ret' np) (hst : Cond.static y ∈ zgw) (hnp : As.length = np)
    {stk : List Value} (hstk : stk = As.reverse ++ st) (hcat : (st.map fun v => v.category).sum ≤ 8) (hd : decode cc pc = .ok (.invokestatic ix, 3)) (hR : fr + 1 ≤ R.frames ∧ 8 + (nL' + 11) + lo ≤ R.locals) (hcs : k + mc ≤ R.cells ∧ n + ms ≤ R.slots)
    (kk : ∀ (v : Option Value) (L' : zL) (nx' : Nat) (G' : zG), qq v L' nx' G' → zV l X0 D B own mn cc nL ret R post (k + mc) (n + ms) L' nx' (pc + 3) lv (v.toList ++ st) G') : zV l X0 D B own mn cc nL ret R post k n L nx pc lv stk G := by
  intro p e s m args below meth c H locs ls Q hX hR0 hl hW hS
  have ok : ∀ w ∈ zgw, w.before args s = true := hX.2.2.2.2.1
  obtain ⟨⟨host, hh⟩, g1, g2, g3⟩ := hl0
  refine zrun (mc := mc) (ms := ms) (rest := st) (va_runSN (As := As) ⟨hX.1, hX.2.1, hX.2.2.1, hX.2.2.2.1, ok⟩ hM ⟨va_cnB np ok (zgood_ws g1) rfl rfl rfl (hX.2.2.2.2.2.2.2.1 _ hh) (ok _ g2) g3 hR, ok _ hst, trivial⟩ ⟨zblind, fun U hU hWm => ⟨rfl, by rw [hU]; exact hW, va_K.moved hWm.alike hX.2.2.2.2.2.1, zNw_warm hWm hX.2.2.2.2.2.2.2.1⟩⟩ rfl hnp hl.2.1 hstk (lv_room hcat) hd hcs) hS ?_
  intro v L' nx' G' H1 locs1 hW1 hq hS1
  exact kk v L' nx' G' hq p e s m args below meth c H1 locs1 ls Q hX hR0 hl hW1 hS1
theorem zrecv {p : Program} {s : State} {m : MethodId} {args : Array Value} {meth : Method} {c : Code} {H : Heap} {b t ci N : Nat} {fks : List Nat} {C : String} {T : u_T} (hX : zX X0 D own mn cc nL p s m args meth c) (hW : zW D B L nx G H) (hb : (b, t) ∈ L) (ho : (zbT t)[0]? = some (0, .inl (ci, fks))) (hci : vwCl[ci]? = some (C, T, N)) :
    ∃ cell : Cell, H[b]? = some cell ∧ cell.vm.isStatics = false ∧ s.vm.findClass C = some cell.cls := by
  obtain ⟨k0, hk0⟩ := zpl_at hb ho
  exact va_recv hX.2.2.2.2.2.1 hW.2.1 hci (zcs_at (D := D) (G := G) hk0)
theorem zv_callV {y : MethodName} {cc' : ByteArray} {nL' np : Nat} {ret' : Option FieldType} {fr lo mc ms ix b t ci N : Nat} {fks : List Nat} {T : u_T} {As : List Value} {qq : zQ} (hM : zMet l D B y cc' nL' ret' fr lo mc ms (.ref b :: As) L nx G qq) (hl0 : zML own ix y cc' nL' ret' np) (hin : Cond.instanceMethod y ∈ zgw) (hsel : Cond.selects y.cls y y ∈ zgw) (hb : (b, t) ∈ L) (ho : (zbT t)[0]? = some (0, .inl (ci, fks))) (hci : vwCl[ci]? = some (y.cls, T, N)) (hnp : As.length = np)
    {stk : List Value} (hstk : stk = As.reverse ++ .ref b :: st) (hcat : (st.map fun v => v.category).sum ≤ 8) (hd : decode cc pc = .ok (.invokevirtual ix, 3)) (hR : fr + 1 ≤ R.frames ∧ 8 + (nL' + 11) + lo ≤ R.locals) (hcs : k + mc ≤ R.cells ∧ n + ms ≤ R.slots)
    (kk : ∀ (v : Option Value) (L' : zL) (nx' : Nat) (G' : zG), qq v L' nx' G' → zV l X0 D B own mn cc nL ret R post (k + mc) (n + ms) L' nx' (pc + 3) lv (v.toList ++ st) G') : zV l X0 D B own mn cc nL ret R post k n L nx pc lv stk G := by
  intro p e s m args below meth c H locs ls Q hX hR0 hl hW hS
  have ok : ∀ w ∈ zgw, w.before args s = true := hX.2.2.2.2.1
  refine zrun (mc := mc) (ms := ms) (rest := st) (va_runV (As := As) (C := y.cls) ⟨hX.1, hX.2.1, hX.2.2.1, hX.2.2.2.1, ok⟩ hM ⟨callB_of np ok (zgood_ws hl0.2.1) rfl rfl rfl (ok _ hl0.2.2.1) (ok _ hl0.1) ⟨hl0.2.2.2.1, hl0.2.2.2.2.1, hl0.2.2.2.2.2⟩ hR, ok _ hin, ok _ hsel⟩ ⟨zblind, zrecv hX hW hb ho hci, fun U hU hWm => ⟨rfl, by rw [hU]; exact hW, va_K.moved hWm.alike hX.2.2.2.2.2.1, zNw_warm hWm hX.2.2.2.2.2.2.2.1⟩⟩ rfl hnp hl.2.1 hstk (lv_room hcat) hd hcs) hS ?_
  intro v L' nx' G' H1 locs1 hW1 hq hS1
  exact kk v L' nx' G' hq p e s m args below meth c H1 locs1 ls Q hX hR0 hl hW1 hS1
theorem zv_callI {y : MethodName} {cc' : ByteArray} {nL' np : Nat} {fr lo mc ms ix b : Nat} {As : List Value} {qq : zQ} (hM : zMet l D B y cc' nL' none fr lo mc ms (.ref b :: As) L nx G qq) (hl0 : zML own ix y cc' nL' none np) (hin : Cond.instanceMethod y ∈ zgw) (hy : y.name = "<init>") (hnp : As.length = np)
    {stk : List Value} (hstk : stk = As.reverse ++ .ref b :: st) (hcat : (st.map fun v => v.category).sum ≤ 8) (hd : decode cc pc = .ok (.invokespecial ix, 3)) (hR : fr + 1 ≤ R.frames ∧ 8 + (nL' + 11) + lo ≤ R.locals) (hcs : k + mc ≤ R.cells ∧ n + ms ≤ R.slots)
    (kk : ∀ (v : Option Value) (L' : zL) (nx' : Nat) (G' : zG), qq v L' nx' G' → zV l X0 D B own mn cc nL ret R post (k + mc) (n + ms) L' nx' (pc + 3) lv (v.toList ++ st) G') : zV l X0 D B own mn cc nL ret R post k n L nx pc lv stk G := by
  intro p e s m args below meth c H locs ls Q hX hR0 hl hW hS
  have ok : ∀ w ∈ zgw, w.before args s = true := hX.2.2.2.2.1
  refine zrun (mc := mc) (ms := ms) (rest := st) (va_runI (As := As) ⟨hX.1, hX.2.1, hX.2.2.1, hX.2.2.2.1, ok⟩ hM ⟨callB_of np ok (zgood_ws hl0.2.1) rfl rfl rfl (ok _ hl0.2.2.1) (ok _ hl0.1) ⟨hl0.2.2.2.1, hl0.2.2.2.2.1, hl0.2.2.2.2.2⟩ hR, hy, ok _ hin⟩ ⟨zblind, fun U hU hWm => ⟨rfl, by rw [hU]; exact hW, va_K.moved hWm.alike hX.2.2.2.2.2.1, zNw_warm hWm hX.2.2.2.2.2.2.2.1⟩⟩ rfl hnp hl.2.1 hstk (lv_room hcat) hd hcs) hS ?_
  intro v L' nx' G' H1 locs1 hW1 hq hS1
  exact kk v L' nx' G' hq p e s m args below meth c H1 locs1 ls Q hX hR0 hl hW1 hS1
theorem zv_callIN {y : MethodName} {cc' : ByteArray} {nL' np : Nat} {fr lo mc ms ix b : Nat} {As : List Value} {qq : zQ} (hM : zMet l D B y cc' nL' none fr lo mc ms (.ref b :: As) L nx G qq) (hl0 : zMLN own ix y cc' nL' none np) (hin : Cond.instanceMethod y ∈ zgw) (hy : y.name = "<init>") (hnp : As.length = np)
    {stk : List Value} (hstk : stk = As.reverse ++ .ref b :: st) (hcat : (st.map fun v => v.category).sum ≤ 8) (hd : decode cc pc = .ok (.invokespecial ix, 3)) (hR : fr + 1 ≤ R.frames ∧ 8 + (nL' + 11) + lo ≤ R.locals) (hcs : k + mc ≤ R.cells ∧ n + ms ≤ R.slots)
    (kk : ∀ (v : Option Value) (L' : zL) (nx' : Nat) (G' : zG), qq v L' nx' G' → zV l X0 D B own mn cc nL ret R post (k + mc) (n + ms) L' nx' (pc + 3) lv (v.toList ++ st) G') : zV l X0 D B own mn cc nL ret R post k n L nx pc lv stk G := by
  intro p e s m args below meth c H locs ls Q hX hR0 hl hW hS
  have ok : ∀ w ∈ zgw, w.before args s = true := hX.2.2.2.2.1
  obtain ⟨⟨host, hh⟩, g1, g2, g3⟩ := hl0
  refine zrun (mc := mc) (ms := ms) (rest := st) (va_runIN (As := As) ⟨hX.1, hX.2.1, hX.2.2.1, hX.2.2.2.1, ok⟩ hM ⟨va_cnB np ok (zgood_ws g1) rfl rfl rfl (hX.2.2.2.2.2.2.2.1 _ hh) (ok _ g2) g3 hR, hy, ok _ hin⟩ ⟨zblind, fun U hU hWm => ⟨rfl, by rw [hU]; exact hW, va_K.moved hWm.alike hX.2.2.2.2.2.1, zNw_warm hWm hX.2.2.2.2.2.2.2.1⟩⟩ rfl hnp hl.2.1 hstk (lv_room hcat) hd hcs) hS ?_
  intro v L' nx' G' H1 locs1 hW1 hq hS1
  exact kk v L' nx' G' hq p e s m args below meth c H1 locs1 ls Q hX hR0 hl hW1 hS1
theorem zk_i {r : Int32} {G1 : zG} (kk : zV l X0 D B own mn cc nL ret R post k n L nx (pc + 3) lv (.int r :: st) G1) : ∀ (v : Option Value) (L' : zL) (nx' : Nat) (G' : zG), zE (some (.int r)) L nx G1 v L' nx' G' → zV l X0 D B own mn cc nL ret R post (k + 0) (n + 0) L' nx' (pc + 3) lv (v.toList ++ st) G' := by
  rintro _ _ _ _ ⟨rfl, rfl, rfl, rfl⟩
  exact kk
theorem zk_r {r : Nat} {G1 : zG} (kk : zV l X0 D B own mn cc nL ret R post k n L nx (pc + 3) lv (.ref r :: st) G1) : ∀ (v : Option Value) (L' : zL) (nx' : Nat) (G' : zG), zE (some (.ref r)) L nx G1 v L' nx' G' → zV l X0 D B own mn cc nL ret R post (k + 0) (n + 0) L' nx' (pc + 3) lv (v.toList ++ st) G' := by
  rintro _ _ _ _ ⟨rfl, rfl, rfl, rfl⟩
  exact kk
theorem zk_w {r : Value} {G1 : zG} (kk : zV l X0 D B own mn cc nL ret R post k n L nx (pc + 3) lv (r :: st) G1) : ∀ (v : Option Value) (L' : zL) (nx' : Nat) (G' : zG), zE (some r) L nx G1 v L' nx' G' → zV l X0 D B own mn cc nL ret R post (k + 0) (n + 0) L' nx' (pc + 3) lv (v.toList ++ st) G' := by
  rintro _ _ _ _ ⟨rfl, rfl, rfl, rfl⟩
  exact kk
theorem zk_v {G1 : zG} (kk : zV l X0 D B own mn cc nL ret R post k n L nx (pc + 3) lv st G1) : ∀ (v : Option Value) (L' : zL) (nx' : Nat) (G' : zG), zE none L nx G1 v L' nx' G' → zV l X0 D B own mn cc nL ret R post (k + 0) (n + 0) L' nx' (pc + 3) lv (v.toList ++ st) G' := by
  rintro _ _ _ _ ⟨rfl, rfl, rfl, rfl⟩
  exact kk
theorem zv_iret {x : Int32} {ty : FieldType} (hd : decode cc pc = .ok (.ireturn, 1)) (hr : ret = some ty) (hn : narrow ty (.int x) = .int x) (hp : post (some (.int x)) L nx G k n) : zV l X0 D B own mn cc nL ret R post k n L nx pc lv [.int x] G :=
  fun p e s m args below meth c H locs ls Q hX hR hl hW hS => hR H locs ls pc (some (.int x)) L nx G k n (Or.inl ⟨x, ty, rfl, hr, hn, hd⟩) hW hS hp
theorem zv_vret (hd : decode cc pc = .ok (.return_, 1)) (hr : ret = none) (hp : post none L nx G k n) : zV l X0 D B own mn cc nL ret R post k n L nx pc lv [] G :=
  fun p e s m args below meth c H locs ls Q hX hR hl hW hS => hR H locs ls pc none L nx G k n (Or.inr (Or.inl ⟨rfl, hr, hd⟩)) hW hS hp
theorem zv_aret {w : Value} {C : String} (hd : decode cc pc = .ok (.areturn, 1)) (hr : ret = some (.object C)) (hw : w = .null ∨ ∃ a, w = .ref a) (hp : post (some w) L nx G k n) : zV l X0 D B own mn cc nL ret R post k n L nx pc lv [w] G :=
  fun p e s m args below meth c H locs ls Q hX hR hl hW hS => hR H locs ls pc (some w) L nx G k n (Or.inr (Or.inr ⟨w, C, rfl, hr, hw, hd⟩)) hW hS hp
/-- the end of a method that makes nothing -/
abbrev zN (q : zQ) : zP := fun v L' nx' G' k n => q v L' nx' G' ∧ k ≤ 0 ∧ n ≤ 0
theorem zN_E {v : Option Value} {G1 : zG} (h : G = G1) : zN (zE v L nx G1) v L nx G 0 0 := ⟨⟨rfl, rfl, rfl, h⟩, Nat.le_refl _, Nat.le_refl _⟩
theorem zv_iinc1 {i : Nat} {x : Int32} (hd : decode cc pc = .ok (.iinc i 1, 3)) (hv : lv[i]? = some (some (.int x))) (hi : i < nL) (hn : zn2 lv i = true) (kk : zV l X0 D B own mn cc nL ret R post k n L nx (pc + 3) (lv.set i (some (.int (x + 1)))) st G) : zV l X0 D B own mn cc nL ret R post k n L nx pc lv st G := zv_iinc hd hv rfl hi hn kk
theorem zv_iincm {i : Nat} {x : Int32} (hd : decode cc pc = .ok (.iinc i (-1), 3)) (hv : lv[i]? = some (some (.int x))) (hi : i < nL) (hn : zn2 lv i = true) (kk : zV l X0 D B own mn cc nL ret R post k n L nx (pc + 3) (lv.set i (some (.int (x - 1)))) st G) : zV l X0 D B own mn cc nL ret R post k n L nx pc lv st G := zv_iinc hd hv (by show x + (-1) = x - 1; rw [Int32.sub_eq_add_neg]) hi hn kk
def bI (b : Bool) : Int32 := if b then 1 else 0
theorem bI_nar (b : Bool) : narrow .boolean (.int (bI b)) = .int (bI b) := by cases b <;> rfl
theorem bI_eq0 {b : Bool} : bI b = 0 ↔ b = false := by cases b <;> simp [bI]
theorem bI_ne0 {b : Bool} : ¬ bI b = 0 ↔ b = true := by cases b <;> simp [bI]
theorem zv_iretE {x r : Int32} {G1 : zG} {ty : FieldType} (hd : decode cc pc = .ok (.ireturn, 1)) (hr : ret = some ty) (hn : narrow ty (.int x) = .int x) (hx : x = r) (hG : G = G1) : zV l X0 D B own mn cc nL ret R (zN (zE (some (.int r)) L nx G1)) 0 0 L nx pc lv [.int x] G :=
  zv_iret hd hr hn (by subst hx; exact zN_E hG)
theorem zv_vretE {G1 : zG} (hd : decode cc pc = .ok (.return_, 1)) (hr : ret = none) (hG : G = G1) : zV l X0 D B own mn cc nL ret R (zN (zE none L nx G1)) 0 0 L nx pc lv [] G := zv_vret hd hr (zN_E hG)
theorem zv_aretE {w v : Value} {C : String} {G1 : zG} (hd : decode cc pc = .ok (.areturn, 1)) (hr : ret = some (.object C)) (hw : w = .null ∨ ∃ a, w = .ref a) (hv : w = v) (hG : G = G1) : zV l X0 D B own mn cc nL ret R (zN (zE (some v) L nx G1)) 0 0 L nx pc lv [w] G :=
  zv_aret hd hr hw (by subst hv; exact zN_E hG)
theorem zv_ldcw {ix : Nat} {v : Int32} (hd : decode cc pc = .ok (.ldc_w ix, 3)) (hw : Cond.constant own ix v ∈ zgw) (kk : zV l X0 D B own mn cc nL ret R post k n L nx (pc + 3) lv (.int v :: st) G) : zV l X0 D B own mn cc nL ret R post k n L nx pc lv st G :=
  fun p e s m args below meth c H locs ls Q hX hR hl hW hS => lv_ldcw hX.1 hX.2.1 hX.2.2.2.1 (hX.2.2.2.2.1 _ hw) hd (kk p e s m args below meth c H locs ls Q hX hR hl hW hS)
end ZCALL
end
section
def zb (z : Int32) (k : Nat) : Bool := z.toBitVec.getLsbD k
theorem zb_and (x y : Int32) (k : Nat) : zb (x &&& y) k = (zb x k && zb y k) := by simp [zb]
theorem zb_or (x y : Int32) (k : Nat) : zb (x ||| y) k = (zb x k || zb y k) := by simp [zb]
theorem zb_xor (x y : Int32) (k : Nat) : zb (x ^^^ y) k = (zb x k ^^ zb y k) := by simp [zb]
theorem zb_zero (k : Nat) : zb 0 k = false := by simp [zb]
theorem zb_hi (x : Int32) {k : Nat} (h : 32 ≤ k) : zb x k = false := by simp [zb, BitVec.getLsbD_of_ge _ _ h]
theorem zb_ext {x y : Int32} (h : ∀ k, k < 32 → zb x k = zb y k) : x = y := by
  apply Int32.toBitVec_inj.mp
  apply BitVec.eq_of_getLsbD_eq
  intro i hi
  exact h i hi
theorem zb_not (x : Int32) {k : Nat} (h : k < 32) : zb (x ^^^ (-1)) k = !zb x k := by
  have e : zb (-1) k = true := by
    have : (-1 : Int32).toBitVec = BitVec.allOnes 32 := by decide
    simp only [zb, this, BitVec.getLsbD_allOnes, h, decide_true]
  rw [zb_xor, e]
  simp
theorem zb_neg (x : Int32) {k : Nat} (h : k < 32) : zb (-x) k = (zb x k ^^ decide (∃ j, j < k ∧ zb x j = true)) := by
  have : (-x).toBitVec = - x.toBitVec := by simp
  unfold zb
  rw [this, BitVec.getLsbD_neg]
  simp [h]
theorem nI_31 {k : Nat} (h : k < 32) : nI k &&& 31 = nI k := by
  have := pk_andN (n := k) (by omega) (m := 31) 5 (by decide)
  rw [this, Nat.mod_eq_of_lt (by omega)]
theorem nI_smod {k : Nat} (h : k < 32) : ((nI k).toBitVec.smod 32).toNat = k := by
  have : ∀ k, k < 32 → ((nI k).toBitVec.smod 32).toNat = k := by decide +kernel
  exact this k h
theorem zb_one {k : Nat} (h : k < 32) (j : Nat) : zb (1 <<< (nI k &&& 31)) j = decide (j = k) := by
  rw [nI_31 h]
  have e : ∀ k, k < 32 → ∀ j, j < 32 → zb (1 <<< nI k) j = decide (j = k) := by decide +kernel
  by_cases hj : j < 32
  · exact e k h j hj
  · rw [zb_hi _ (by omega)]
    simp
    omega
theorem zb_shr (z : Int32) {k : Nat} (h : k < 32) {j : Nat} (hj : j + k < 32) : zb (z >>> (nI k &&& 31)) j = zb z (k + j) := by
  rw [nI_31 h]
  have e : (z >>> nI k).toBitVec = z.toBitVec.sshiftRight k := by
    rw [Int32.toBitVec_shiftRight]
    show BitVec.sshiftRight' _ _ = _
    unfold BitVec.sshiftRight'
    rw [nI_smod h]
  unfold zb
  rw [e, BitVec.getLsbD_sshiftRight]
  have h1 : decide (32 ≤ j) = false := by simp; omega
  have h2 : k + j < 32 := by omega
  simp [h1, h2]
theorem zb_test (z : Int32) {k : Nat} (h : k < 32) : (z >>> (nI k &&& 31)) &&& 1 = bI (zb z k) := by
  apply zb_ext
  intro j hj
  rw [zb_and]
  have e1 : zb 1 j = decide (j = 0) := by
    have := zb_one (k := 0) (by omega) j
    rw [show ((1 : Int32) <<< (nI 0 &&& 31)) = 1 by decide] at this
    exact this
  by_cases h0 : j = 0
  · subst h0
    rw [zb_shr z h (by omega), e1]
    cases hz : zb z (k + 0) <;> simp at hz <;> simp [hz, bI] <;> decide
  · rw [e1]
    have : zb (bI (zb z k)) j = false := by
      cases zb z k
      · simp [bI, zb_zero]
      · simp [bI, e1, h0]
    rw [this]
    simp [h0]
/-- how many places below n -/
def zcnt (f : Nat → Bool) : Nat → Nat
  | 0 => 0
  | k + 1 => zcnt f k + (if f k then 1 else 0)
theorem zcnt_le (f : Nat → Bool) : ∀ n, zcnt f n ≤ n
  | 0 => Nat.le_refl _
  | k + 1 => by
    have := zcnt_le f k
    unfold zcnt
    split <;> omega
theorem zcnt_congr {f g : Nat → Bool} : ∀ {n : Nat}, (∀ k, k < n → f k = g k) → zcnt f n = zcnt g n
  | 0, _ => rfl
  | n + 1, h => by
    have h1 := zcnt_congr (n := n) (f := f) (g := g) (fun k hk => h k (by omega))
    simp only [zcnt, h1, h n (by omega)]
theorem bI_cnt (b : Bool) : bI b = nI (if b then 1 else 0) := by cases b <;> rfl
theorem nI_and (a b : Nat) (ha : a < 2 ^ 32) (hb : b < 2 ^ 32) : nI a &&& nI b = nI (a &&& b) := by
  apply Int32.toBitVec_inj.mp
  apply BitVec.eq_of_toNat_eq
  have hab : a &&& b < 2 ^ 32 := Nat.lt_of_le_of_lt Nat.and_le_left ha
  rw [pk_tn hab, Int32.toBitVec_and, BitVec.toNat_and, pk_tn ha, pk_tn hb]
theorem zb_nI {n : Nat} (h : n < 2 ^ 32) (k : Nat) : zb (nI n) k = n.testBit k := by
  unfold zb
  rw [← BitVec.testBit_toNat, pk_tn h]
/-- the number behind a mask -/
def zm (z : Int32) : Nat := z.toBitVec.toNat
theorem zm_lt (z : Int32) : zm z < 2 ^ 32 := z.toBitVec.isLt
theorem nI_zm (z : Int32) : nI (zm z) = z := by
  apply Int32.toBitVec_inj.mp
  apply BitVec.eq_of_toNat_eq
  rw [pk_tn (zm_lt z)]
  rfl
theorem zb_zm (z : Int32) (k : Nat) : zb z k = (zm z).testBit k := by
  unfold zb zm
  rw [← BitVec.testBit_toNat]
theorem zm_small {z : Int32} (h : ∀ k, 16 ≤ k → zb z k = false) : zm z < 65536 := by
  have : zm z < 2 ^ 16 := by
    apply Nat.lt_pow_two_of_testBit
    intro i hi
    rw [← zb_zm]
    exact h i hi
  exact this
theorem nI_xor (a b : Nat) (ha : a < 2 ^ 32) (hb : b < 2 ^ 32) : nI a ^^^ nI b = nI (a ^^^ b) := by
  apply Int32.toBitVec_inj.mp
  apply BitVec.eq_of_toNat_eq
  have hab : a ^^^ b < 2 ^ 32 := Nat.xor_lt_two_pow ha hb
  rw [pk_tn hab, Int32.toBitVec_xor, BitVec.toNat_xor, pk_tn ha, pk_tn hb]
theorem nI_xor_nn {a b : Nat} (ha : a < 2 ^ 31) (hb : b < 2 ^ 31) : 0 ≤ nI a ^^^ nI b := by
  rw [nI_xor _ _ (by omega) (by omega)]
  exact nI_pos' (Nat.xor_lt_two_pow ha hb)
theorem i32_nlt {x y : Int32} : ¬ x < y ↔ y ≤ x := Int32.not_lt
theorem i32_nle {x y : Int32} : ¬ x ≤ y ↔ y < x := Int32.not_le
def zin3 (x a b : Int32) : Bool := decide (a ≤ x) && decide (x ≤ b)
theorem zin3_f1 {x a b : Int32} (h : x < a) : bI (zin3 x a b) = 0 := by
  have := i32_nle.mpr h
  simp [zin3, this, bI]
theorem zin3_f2 {x a b : Int32} (h : b < x) : bI (zin3 x a b) = 0 := by
  have := i32_nle.mpr h
  simp [zin3, this, bI]
theorem zin3_t {x a b : Int32} (h : ¬ x < a) (h2 : ¬ b < x) : bI (zin3 x a b) = 1 := by
  have := i32_nlt.mp h
  have := i32_nlt.mp h2
  simp [zin3, *, bI]
/-- a whole number by its test: below, above, or in between -/
theorem zin3_iff {x : Int32} {m : Nat} (hm : m < 2 ^ 31) : zin3 x 0 (nI m) = true ↔ ∃ i : Nat, i ≤ m ∧ x = nI i := by
  unfold zin3
  simp only [Bool.and_eq_true, decide_eq_true_eq]
  constructor
  · rintro ⟨h1, h2⟩
    obtain ⟨j, hj, rfl⟩ := nI_of (i32_nlt.mpr h1)
    exact ⟨j, (nI_leI hj hm).mp h2, rfl⟩
  · rintro ⟨i, hi, rfl⟩
    exact ⟨nI_pos' (by omega), nI_le hi hm⟩
theorem zin3_iff2 {x : Int32} {l m : Nat} (hm : m < 2 ^ 31) (hlm : l ≤ m) : zin3 x (nI l) (nI m) = true ↔ ∃ i : Nat, l ≤ i ∧ i ≤ m ∧ x = nI i := by
  unfold zin3
  simp only [Bool.and_eq_true, decide_eq_true_eq]
  constructor
  · rintro ⟨h1, h2⟩
    have h0 : ¬ x < 0 := i32_nlt.mpr (Int32.le_trans (nI_pos' (by omega)) h1)
    obtain ⟨j, hj, rfl⟩ := nI_of h0
    exact ⟨j, (nI_leI (by omega) hj).mp h1, (nI_leI hj hm).mp h2, rfl⟩
  · rintro ⟨i, hl, hi, rfl⟩
    exact ⟨nI_le hl (by omega), nI_le hi hm⟩
end
section
def zalg (n : Nat) : Nat :=
  let a := n - ((n / 2) &&& 1431655765)
  let b := (a &&& 858993459) + ((a / 4) &&& 858993459)
  let c := (b + b / 16) &&& 252645135
  let d := c + c / 256
  let e := d + d / 65536
  e &&& 63
theorem zand8 (x y M m : Nat) (hy : y < 256) (hm : m < 256) : (256 * x + y) &&& (256 * M + m) = 256 * (x &&& M) + (y &&& m) := by
  have hym : y &&& m < 2 ^ 8 := Nat.lt_of_le_of_lt Nat.and_le_left hy
  apply Nat.eq_of_testBit_eq
  intro j
  have e1 := Nat.testBit_two_pow_mul_add x (i := 8) (b := y) hy j
  have e2 := Nat.testBit_two_pow_mul_add M (i := 8) (b := m) hm j
  have e3 := Nat.testBit_two_pow_mul_add (x &&& M) (i := 8) (b := y &&& m) hym j
  rw [show (2 ^ 8 : Nat) = 256 from rfl] at e1 e2 e3
  rw [Nat.testBit_and, e1, e2, e3]
  split <;> simp
theorem zcnt_add (f : Nat → Bool) (a : Nat) : ∀ b, zcnt f (a + b) = zcnt f a + zcnt (fun k => f (a + k)) b
  | 0 => rfl
  | b + 1 => by
    rw [← Nat.add_assoc]
    simp only [zcnt]
    rw [zcnt_add f a b]
    omega
def zal1 (n : Nat) : Nat := n - ((n / 2) &&& 85)
def zal2 (a : Nat) : Nat := (a &&& 51) + ((a / 4) &&& 51)
def zal3 (b : Nat) : Nat := (b + b / 16) &&& 15
theorem zal_ok : ∀ l, l < 256 → zal3 (zal2 (zal1 l)) = zcnt l.testBit 8 ∧ ((l / 2) &&& 85) ≤ l ∧ zal1 l < 256 ∧ zal2 (zal1 l) < 256 ∧ zal2 (zal1 l) + zal2 (zal1 l) / 16 < 256 ∧ ((l / 2) &&& 5592405) = ((l / 2) &&& 85) := by decide +kernel
theorem zal_h1 : ∀ e, e < 2 → ∀ l, l < 128 → (128 * e + l) &&& 85 = l &&& 85 := by decide +kernel
theorem zal_h2 : ∀ e, e < 4 → ∀ l, l < 64 → (64 * e + l) &&& 51 = l &&& 51 := by decide +kernel
theorem zal_h3 : ∀ e, e < 5 → ∀ l, l < 256 → (zal2 (zal1 l) + (16 * e + zal2 (zal1 l) / 16)) % 256 &&& 15 = zal3 (zal2 (zal1 l)) := by decide +kernel
theorem zal_s1 : ∀ x, x < 256 → (x &&& 5592405) = (x &&& 85) ∧ (x &&& 3355443) = (x &&& 51) := by decide +kernel
theorem zal_n4 : ∀ l, l < 256 → zal2 (zal1 l) ≤ 68 ∧ zal2 (zal1 l) % 16 ≤ 4 := by decide +kernel
theorem zal_s3 : ∀ x, x < 256 → (x &&& 986895) = (x &&& 15) := by decide +kernel
theorem zal_s4 : ∀ x, x < 17 → ∀ y, y < 17 → x + y ≤ 16 → (256 * x + y + x + (256 * x + y + x) / 65536) &&& 63 = x + y := by decide +kernel
theorem zal_sm : ∀ l, l < 256 → zal3 (zal2 (zal1 l)) ≤ 8 := by decide +kernel
theorem zalg_ok : ∀ h, h < 256 → ∀ l, l < 256 → zalg (256 * h + l) = zcnt (256 * h + l).testBit 16 ∧ (((256 * h + l) / 2) &&& 1431655765) ≤ 256 * h + l := by
  intro h hh l hl
  obtain ⟨l1, l2, l3, l4, l5, l6⟩ := zal_ok l hl
  obtain ⟨h1, h2, h3, h4, h5, h6⟩ := zal_ok h hh
  have g1 : ((256 * h + l) / 2) &&& 1431655765 = 256 * ((h / 2) &&& 85) + ((l / 2) &&& 85) := by
    rw [show (256 * h + l) / 2 = 256 * (h / 2) + (128 * (h % 2) + l / 2) by omega, show 1431655765 = 256 * 5592405 + 85 by rfl, zand8 _ _ _ _ (by omega) (by omega), h6, zal_h1 _ (by omega) _ (by omega)]
  have ga : 256 * h + l - (256 * ((h / 2) &&& 85) + ((l / 2) &&& 85)) = 256 * zal1 h + zal1 l := by
    unfold zal1
    omega
  refine ⟨?_, by rw [g1]; omega⟩
  have hc : zcnt (256 * h + l).testBit 16 = zcnt l.testBit 8 + zcnt h.testBit 8 := by
    rw [show 16 = 8 + 8 by rfl, zcnt_add]
    congr 1
    · apply zcnt_congr
      intro k hk
      have := Nat.testBit_two_pow_mul_add h (i := 8) (b := l) hl k
      rw [show (2 ^ 8 : Nat) = 256 from rfl] at this
      rw [this, if_pos hk]
    · apply zcnt_congr
      intro k hk
      have := Nat.testBit_two_pow_mul_add h (i := 8) (b := l) hl (8 + k)
      rw [show (2 ^ 8 : Nat) = 256 from rfl] at this
      rw [this, if_neg (by omega), show 8 + k - 8 = k by omega]
  unfold zalg
  dsimp only
  rw [g1, ga]
  have hx : zal1 h < 256 := h3
  have gb : (256 * zal1 h + zal1 l &&& 858993459) + ((256 * zal1 h + zal1 l) / 4 &&& 858993459) = 256 * zal2 (zal1 h) + zal2 (zal1 l) := by
    rw [show (256 * zal1 h + zal1 l) / 4 = 256 * (zal1 h / 4) + (64 * (zal1 h % 4) + zal1 l / 4) by omega, show 858993459 = 256 * 3355443 + 51 by rfl, zand8 _ _ _ _ (by omega) (by omega), zand8 _ _ _ _ (by omega) (by omega), (zal_s1 _ hx).2, (zal_s1 (zal1 h / 4) (by omega)).2, zal_h2 _ (by omega) _ (by omega)]
    unfold zal2
    omega
  rw [gb]
  have gc : (256 * zal2 (zal1 h) + zal2 (zal1 l)) + (256 * zal2 (zal1 h) + zal2 (zal1 l)) / 16 &&& 252645135 = 256 * zal3 (zal2 (zal1 h)) + zal3 (zal2 (zal1 l)) := by
    obtain ⟨n1, n2⟩ := zal_n4 h hh
    obtain ⟨n3, n4⟩ := zal_n4 l hl
    have g3 := zal_h3 (zal2 (zal1 h) % 16) (by omega) l hl
    rw [Nat.mod_eq_of_lt (by omega)] at g3
    rw [show (256 * zal2 (zal1 h) + zal2 (zal1 l)) + (256 * zal2 (zal1 h) + zal2 (zal1 l)) / 16 = 256 * (zal2 (zal1 h) + zal2 (zal1 h) / 16) + (zal2 (zal1 l) + (16 * (zal2 (zal1 h) % 16) + zal2 (zal1 l) / 16)) by omega, show 252645135 = 256 * 986895 + 15 by rfl, zand8 _ _ _ _ (by omega) (by omega), g3, zal_s3 _ (by omega)]
    rfl
  rw [gc, hc, ← l1, ← h1]
  have s1 := zal_sm l hl
  have s2 := zal_sm h hh
  rw [show (256 * zal3 (zal2 (zal1 h)) + zal3 (zal2 (zal1 l))) / 256 = zal3 (zal2 (zal1 h)) by omega]
  rw [zal_s4 _ (by omega) _ (by omega) (by omega)]
  omega
theorem zpop {n : Nat} (hn : n < 65536) : ((let a := nI n - (((nI n).toUInt32 >>> ((1 : Int32).toUInt32 &&& Int32.toUInt32 31)).toInt32 &&& 1431655765); let b := (a &&& 858993459) + ((a.toUInt32 >>> ((2 : Int32).toUInt32 &&& Int32.toUInt32 31)).toInt32 &&& 858993459); let c := (b + (b.toUInt32 >>> ((4 : Int32).toUInt32 &&& Int32.toUInt32 31)).toInt32) &&& 252645135; let d := c + (c.toUInt32 >>> ((8 : Int32).toUInt32 &&& Int32.toUInt32 31)).toInt32; let e := d + (d.toUInt32 >>> ((16 : Int32).toUInt32 &&& Int32.toUInt32 31)).toInt32; e &&& 63) : Int32) = nI (zcnt n.testBit 16) := by
  obtain ⟨h1, h2⟩ := zalg_ok (n / 256) (by omega) (n % 256) (by omega)
  rw [show 256 * (n / 256) + n % 256 = n by omega] at h1 h2
  rw [← h1]
  have m1 : (1431655765 : Int32) = nI 1431655765 := rfl
  have m2 : (858993459 : Int32) = nI 858993459 := rfl
  have m3 : (252645135 : Int32) = nI 252645135 := rfl
  have m4 : (63 : Int32) = nI 63 := rfl
  have s1 : ∀ {n : Nat}, n < 2 ^ 32 → ((nI n).toUInt32 >>> ((1 : Int32).toUInt32 &&& Int32.toUInt32 31)).toInt32 = nI (n / 2) := fun h => pk_ushrN h 1 1 (by decide)
  have s2 : ∀ {n : Nat}, n < 2 ^ 32 → ((nI n).toUInt32 >>> ((2 : Int32).toUInt32 &&& Int32.toUInt32 31)).toInt32 = nI (n / 4) := fun h => pk_ushrN h 2 2 (by decide)
  have s4 : ∀ {n : Nat}, n < 2 ^ 32 → ((nI n).toUInt32 >>> ((4 : Int32).toUInt32 &&& Int32.toUInt32 31)).toInt32 = nI (n / 16) := fun h => pk_ushrN h 4 4 (by decide)
  have s8 : ∀ {n : Nat}, n < 2 ^ 32 → ((nI n).toUInt32 >>> ((8 : Int32).toUInt32 &&& Int32.toUInt32 31)).toInt32 = nI (n / 256) := fun h => pk_ushrN h 8 8 (by decide)
  have s16 : ∀ {n : Nat}, n < 2 ^ 32 → ((nI n).toUInt32 >>> ((16 : Int32).toUInt32 &&& Int32.toUInt32 31)).toInt32 = nI (n / 65536) := fun h => pk_ushrN h 16 16 (by decide)
  unfold zalg
  dsimp only
  rw [m1, m2, m3, m4, s1 (by omega), nI_and _ _ (by omega) (by omega), pk_sub h2]
  generalize ha : n - (n / 2 &&& 1431655765) = a
  have ha1 : a < 65536 := by omega
  rw [s2 (by omega), nI_and _ _ (by omega) (by omega), nI_and _ _ (by omega) (by omega), nI_add]
  have hb1 : (a &&& 858993459) ≤ a := Nat.and_le_left
  have hb2 : (a / 4 &&& 858993459) ≤ a / 4 := Nat.and_le_left
  have hb3 : (a &&& 858993459) + (a / 4 &&& 858993459) < 131072 := by omega
  generalize (a &&& 858993459) + (a / 4 &&& 858993459) = b at hb3 ⊢
  rw [s4 (by omega), nI_add, nI_and _ _ (by omega) (by omega)]
  have hc1 : (b + b / 16 &&& 252645135) ≤ b + b / 16 := Nat.and_le_left
  generalize (b + b / 16 &&& 252645135) = c at hc1 ⊢
  rw [s8 (by omega), nI_add, s16 (by omega), nI_add, nI_and _ _ (by omega) (by omega)]
set_option maxRecDepth 100000 in
set_option maxHeartbeats 4000000 in
theorem m_X6_isWithin (l : Launch) (D : zD) (B : Nat) {L : zL} {nx : Nat} {G : zG} (x a b : Int32) : zMet l D B yX6_isWithin cX6_isWithin 3 (some .boolean) 0 0 0 0 [.int x, .int a, .int b] L nx G (zE (some (.int (bI (zin3 x a b)))) L nx (G)) := by
  refine zMet_of (own := RX6) (mn := "isWithin") [some (.int x), some (.int a), some (.int b)] (by decide +kernel) rfl rfl rfl (Nat.le_of_ble_eq_true rfl) ?_
  show zV l (fun _ => True) D B RX6 "isWithin" cX6_isWithin 3 (some .boolean) (zrm 0 0 0 0) (zN (zE (some (.int (bI (zin3 x a b)))) L nx (G))) 0 0 L nx 0 [some (.int x), some (.int a), some (.int b)] [] (G)
  refine zv_iload_n dX6_isWithin_0 rfl ?_
  refine zv_iload_n dX6_isWithin_1 rfl ?_
  refine zv_icmp_lt (tgt := 14) dX6_isWithin_2 (by decide) (fun c2 => ?_) (fun c2 => ?_)
  · refine zv_iconst (v := 0) dX6_isWithin_14 (by decide) ?_
    refine zv_iretE dX6_isWithin_15 rfl (by first | rfl | exact bI_nar _) ?_ ?_
    · first | exact (zin3_f1 c2).symm | exact (zin3_f2 c7).symm | exact (zin3_t c2 c7).symm
    · rfl
  · refine zv_iload_n dX6_isWithin_5 rfl ?_
    refine zv_iload_n dX6_isWithin_6 rfl ?_
    refine zv_icmp_gt (tgt := 14) dX6_isWithin_7 (by decide) (fun c7 => ?_) (fun c7 => ?_)
    · refine zv_iconst (v := 0) dX6_isWithin_14 (by decide) ?_
      refine zv_iretE dX6_isWithin_15 rfl (by first | rfl | exact bI_nar _) ?_ ?_
      · first | exact (zin3_f1 c2).symm | exact (zin3_f2 c7).symm | exact (zin3_t c2 c7).symm
      · rfl
    · refine zv_iconst (v := 1) dX6_isWithin_10 (by decide) ?_
      refine zv_goto (tgt := 15) dX6_isWithin_11 (by decide) ?_
      refine zv_iretE dX6_isWithin_15 rfl (by first | rfl | exact bI_nar _) ?_ ?_
      · first | exact (zin3_f1 c2).symm | exact (zin3_f2 c7).symm | exact (zin3_t c2 c7).symm
      · rfl

set_option maxRecDepth 100000 in
set_option maxHeartbeats 4000000 in
theorem m_X6_wrappedSeed (l : Launch) (D : zD) (B : Nat) {L : zL} {nx : Nat} {G : zG} (x : Int32) : zMet l D B yX6_wrappedSeed cX6_wrappedSeed 1 (some .int) 0 0 0 0 [.int x] L nx G (zE (some (.int (x &&& 65535))) L nx (G)) := by
  refine zMet_of (own := RX6) (mn := "wrappedSeed") [some (.int x)] (by decide +kernel) rfl rfl rfl (Nat.le_of_ble_eq_true rfl) ?_
  show zV l (fun _ => True) D B RX6 "wrappedSeed" cX6_wrappedSeed 1 (some .int) (zrm 0 0 0 0) (zN (zE (some (.int (x &&& 65535))) L nx (G))) 0 0 L nx 0 [some (.int x)] [] (G)
  refine zv_iload_n dX6_wrappedSeed_0 rfl ?_
  refine zv_ldc dX6_wrappedSeed_1 kc_X6_84 ?_
  refine zv_iand dX6_wrappedSeed_3 ?_
  refine zv_iretE dX6_wrappedSeed_4 rfl (rfl) ?_ ?_
  · rfl
  · rfl

set_option maxRecDepth 100000 in
set_option maxHeartbeats 4000000 in
theorem m_J9_min_7cf53 (l : Launch) (D : zD) (B : Nat) {L : zL} {nx : Nat} {G : zG} (x y : Int32) : zMet l D B yJ9_min_7cf53 cJ9_min_7cf53 2 (some .int) 0 0 0 0 [.int x, .int y] L nx G (zE (some (.int (if x ≤ y then x else y))) L nx (G)) := by
  refine zMet_of (own := RJ9) (mn := "min") [some (.int x), some (.int y)] (by decide +kernel) rfl rfl rfl (Nat.le_of_ble_eq_true rfl) ?_
  show zV l (fun _ => True) D B RJ9 "min" cJ9_min_7cf53 2 (some .int) (zrm 0 0 0 0) (zN (zE (some (.int (if x ≤ y then x else y))) L nx (G))) 0 0 L nx 0 [some (.int x), some (.int y)] [] (G)
  refine zv_iload_n dJ9_min_7cf53_0 rfl ?_
  refine zv_iload_n dJ9_min_7cf53_1 rfl ?_
  refine zv_icmp_gt (tgt := 9) dJ9_min_7cf53_2 (by decide) (fun c2 => ?_) (fun c2 => ?_)
  · refine zv_iload_n dJ9_min_7cf53_9 rfl ?_
    refine zv_iretE dJ9_min_7cf53_10 rfl (rfl) ?_ ?_
    · first | exact (if_neg (i32_nle.mpr c2)).symm | exact (if_pos (i32_nlt.mp c2)).symm
    · rfl
  · refine zv_iload_n dJ9_min_7cf53_5 rfl ?_
    refine zv_goto (tgt := 10) dJ9_min_7cf53_6 (by decide) ?_
    refine zv_iretE dJ9_min_7cf53_10 rfl (rfl) ?_ ?_
    · first | exact (if_neg (i32_nle.mpr c2)).symm | exact (if_pos (i32_nlt.mp c2)).symm
    · rfl

set_option maxRecDepth 100000 in
set_option maxHeartbeats 4000000 in
theorem m_J9_floorMod_7cf53 (l : Launch) (D : zD) (B : Nat) {L : zL} {nx : Nat} {G : zG} {x y : Int32} (a d : Nat) (ha : a < 2 ^ 31) (h0 : 0 < d) (hd : d < 2 ^ 31) (hx : x = nI a) (hy : y = nI d) : zMet l D B yJ9_floorMod_7cf53 cJ9_floorMod_7cf53 3 (some .int) 0 0 0 0 [.int x, .int y] L nx G (zE (some (.int (nI (a % d)))) L nx (G)) := by
  refine zMet_of (own := RJ9) (mn := "floorMod") [some (.int x), some (.int y), none] (by decide +kernel) rfl rfl rfl (Nat.le_of_ble_eq_true rfl) ?_
  show zV l (fun _ => True) D B RJ9 "floorMod" cJ9_floorMod_7cf53 3 (some .int) (zrm 0 0 0 0) (zN (zE (some (.int (nI (a % d)))) L nx (G))) 0 0 L nx 0 [some (.int x), some (.int y), none] [] (G)
  subst hx hy
  refine zv_iload_n dJ9_floorMod_7cf53_0 rfl ?_
  refine zv_iload_n dJ9_floorMod_7cf53_1 rfl ?_
  refine zv_irem dJ9_floorMod_7cf53_2 (nI_ne0 h0 hd) ?_
  refine zv_istore_n dJ9_floorMod_7cf53_3 (by decide) rfl ?_
  refine zv_iload_n dJ9_floorMod_7cf53_4 rfl ?_
  refine zv_iload_n dJ9_floorMod_7cf53_5 rfl ?_
  refine zv_ixor dJ9_floorMod_7cf53_6 ?_
  refine zv_if_ge (tgt := 18) dJ9_floorMod_7cf53_7 (by decide) (fun _ => ?_) (fun h => absurd (nI_xor_nn ha hd) h)
  refine zv_iload_n dJ9_floorMod_7cf53_18 rfl ?_
  refine zv_iretE dJ9_floorMod_7cf53_19 rfl (rfl) ?_ ?_
  · exact pk_rem ha h0 hd
  · rfl

set_option maxRecDepth 100000 in
set_option maxHeartbeats 4000000 in
theorem m_J6_bitCount_0f7a4 (l : Launch) (D : zD) (B : Nat) {L : zL} {nx : Nat} {G : zG} {x : Int32} (n : Nat) (hn : n < 65536) (hx : x = nI n) : zMet l D B yJ6_bitCount_0f7a4 cJ6_bitCount_0f7a4 1 (some .int) 0 0 0 0 [.int x] L nx G (zE (some (.int (nI (zcnt n.testBit 16)))) L nx (G)) := by
  refine zMet_of (own := RJ6) (mn := "bitCount") [some (.int x)] (by decide +kernel) rfl rfl rfl (Nat.le_of_ble_eq_true rfl) ?_
  show zV l (fun _ => True) D B RJ6 "bitCount" cJ6_bitCount_0f7a4 1 (some .int) (zrm 0 0 0 0) (zN (zE (some (.int (nI (zcnt n.testBit 16)))) L nx (G))) 0 0 L nx 0 [some (.int x)] [] (G)
  subst hx
  refine zv_iload_n dJ6_bitCount_0f7a4_0 rfl ?_
  refine zv_iload_n dJ6_bitCount_0f7a4_1 rfl ?_
  refine zv_iconst (v := 1) dJ6_bitCount_0f7a4_2 (by decide) ?_
  refine zv_iushr dJ6_bitCount_0f7a4_3 ?_
  refine zv_ldcw dJ6_bitCount_0f7a4_4 kc_J6_265 ?_
  refine zv_iand dJ6_bitCount_0f7a4_7 ?_
  refine zv_isub dJ6_bitCount_0f7a4_8 ?_
  refine zv_istore_n dJ6_bitCount_0f7a4_9 (by decide) rfl ?_
  refine zv_iload_n dJ6_bitCount_0f7a4_10 rfl ?_
  refine zv_ldcw dJ6_bitCount_0f7a4_11 kc_J6_266 ?_
  refine zv_iand dJ6_bitCount_0f7a4_14 ?_
  refine zv_iload_n dJ6_bitCount_0f7a4_15 rfl ?_
  refine zv_iconst (v := 2) dJ6_bitCount_0f7a4_16 (by decide) ?_
  refine zv_iushr dJ6_bitCount_0f7a4_17 ?_
  refine zv_ldcw dJ6_bitCount_0f7a4_18 kc_J6_266 ?_
  refine zv_iand dJ6_bitCount_0f7a4_21 ?_
  refine zv_iadd dJ6_bitCount_0f7a4_22 ?_
  refine zv_istore_n dJ6_bitCount_0f7a4_23 (by decide) rfl ?_
  refine zv_iload_n dJ6_bitCount_0f7a4_24 rfl ?_
  refine zv_iload_n dJ6_bitCount_0f7a4_25 rfl ?_
  refine zv_iconst (v := 4) dJ6_bitCount_0f7a4_26 (by decide) ?_
  refine zv_iushr dJ6_bitCount_0f7a4_27 ?_
  refine zv_iadd dJ6_bitCount_0f7a4_28 ?_
  refine zv_ldcw dJ6_bitCount_0f7a4_29 kc_J6_267 ?_
  refine zv_iand dJ6_bitCount_0f7a4_32 ?_
  refine zv_istore_n dJ6_bitCount_0f7a4_33 (by decide) rfl ?_
  refine zv_iload_n dJ6_bitCount_0f7a4_34 rfl ?_
  refine zv_iload_n dJ6_bitCount_0f7a4_35 rfl ?_
  refine zv_bipush (v := 8) dJ6_bitCount_0f7a4_36 (by decide) ?_
  refine zv_iushr dJ6_bitCount_0f7a4_38 ?_
  refine zv_iadd dJ6_bitCount_0f7a4_39 ?_
  refine zv_istore_n dJ6_bitCount_0f7a4_40 (by decide) rfl ?_
  refine zv_iload_n dJ6_bitCount_0f7a4_41 rfl ?_
  refine zv_iload_n dJ6_bitCount_0f7a4_42 rfl ?_
  refine zv_bipush (v := 16) dJ6_bitCount_0f7a4_43 (by decide) ?_
  refine zv_iushr dJ6_bitCount_0f7a4_45 ?_
  refine zv_iadd dJ6_bitCount_0f7a4_46 ?_
  refine zv_istore_n dJ6_bitCount_0f7a4_47 (by decide) rfl ?_
  refine zv_iload_n dJ6_bitCount_0f7a4_48 rfl ?_
  refine zv_bipush (v := 63) dJ6_bitCount_0f7a4_49 (by decide) ?_
  refine zv_iand dJ6_bitCount_0f7a4_51 ?_
  refine zv_iretE dJ6_bitCount_0f7a4_52 rfl (rfl) ?_ ?_
  · exact zpop hn
  · rfl

set_option maxRecDepth 100000 in
set_option maxHeartbeats 4000000 in
theorem m_X5_allChapters (l : Launch) (D : zD) (B : Nat) {L : zL} {nx : Nat} {G : zG} {q : Nat} (hq : (q, 2) ∈ L) : zMet l D B yX5_allChapters cX5_allChapters 1 (some .int) 0 0 0 0 [.ref q] L nx G (zE (some (.int (1 <<< (G q 2 &&& 31) - 1))) L nx (G)) := by
  refine zMet_of (own := RX5) (mn := "allChapters") [some (.ref q)] (by decide +kernel) rfl rfl rfl (Nat.le_of_ble_eq_true rfl) ?_
  show zV l (fun _ => True) D B RX5 "allChapters" cX5_allChapters 1 (some .int) (zrm 0 0 0 0) (zN (zE (some (.int (1 <<< (G q 2 &&& 31) - 1))) L nx (G))) 0 0 L nx 0 [some (.ref q)] [] (G)
  refine zv_iconst (v := 1) dX5_allChapters_0 (by decide) ?_
  refine zv_aload_n dX5_allChapters_1 rfl ?_
  refine zv_getI hq rfl fl_X5_29 rfl dX5_allChapters_2 ?_
  refine zv_ishl dX5_allChapters_5 ?_
  refine zv_iconst (v := 1) dX5_allChapters_6 (by decide) ?_
  refine zv_isub dX5_allChapters_7 ?_
  refine zv_iretE dX5_allChapters_8 rfl (rfl) ?_ ?_
  · rfl
  · rfl

set_option maxRecDepth 100000 in
set_option maxHeartbeats 4000000 in
theorem m_X0_knownCount (l : Launch) (D : zD) (B : Nat) {L : zL} {nx : Nat} {G : zG} {q : Nat} (hq : (q, 3) ∈ L) (n : Nat) (hn : n < 65536) (hx : G q 0 = nI n) : zMet l D B yX0_knownCount cX0_knownCount 1 (some .int) 1 20 0 0 [.ref q] L nx G (zE (some (.int (nI (zcnt n.testBit 16)))) L nx (G)) := by
  refine zMet_of (own := RX0) (mn := "knownCount") [some (.ref q)] (by decide +kernel) rfl rfl rfl (Nat.le_of_ble_eq_true rfl) ?_
  show zV l (fun _ => True) D B RX0 "knownCount" cX0_knownCount 1 (some .int) (zrm 1 20 0 0) (zN (zE (some (.int (nI (zcnt n.testBit 16)))) L nx (G))) 0 0 L nx 0 [some (.ref q)] [] (G)
  refine zv_aload_n dX0_knownCount_0 rfl ?_
  refine zv_getI hq rfl fl_X0_21 rfl dX0_knownCount_1 ?_
  refine zv_callS (m_J6_bitCount_0f7a4 l D B n hn hx) ml_X0_43 st_J6_bitCount_0f7a4 rfl rfl (Nat.le_of_ble_eq_true rfl) dX0_knownCount_4 ⟨Nat.le_of_ble_eq_true rfl, Nat.le_of_ble_eq_true rfl⟩ ⟨Nat.le_refl _, Nat.le_refl _⟩ (zk_i ?_)
  refine zv_iretE dX0_knownCount_7 rfl (rfl) ?_ ?_
  · rfl
  · rfl

set_option maxRecDepth 100000 in
set_option maxHeartbeats 4000000 in
theorem m_X1_nextDraw (l : Launch) (D : zD) (B : Nat) {L : zL} {nx : Nat} {G : zG} (x : Int32) : zMet l D B yX1_nextDraw cX1_nextDraw 1 (some .int) 0 0 0 0 [.int x] L nx G (zE (some (.int ((75 * x + 74) - (75 * x + 74) / 65537 * 65537))) L nx (G)) := by
  refine zMet_of (own := RX1) (mn := "nextDraw") [some (.int x)] (by decide +kernel) rfl rfl rfl (Nat.le_of_ble_eq_true rfl) ?_
  show zV l (fun _ => True) D B RX1 "nextDraw" cX1_nextDraw 1 (some .int) (zrm 0 0 0 0) (zN (zE (some (.int ((75 * x + 74) - (75 * x + 74) / 65537 * 65537))) L nx (G))) 0 0 L nx 0 [some (.int x)] [] (G)
  refine zv_bipush (v := 75) dX1_nextDraw_0 (by decide) ?_
  refine zv_iload_n dX1_nextDraw_2 rfl ?_
  refine zv_imul dX1_nextDraw_3 ?_
  refine zv_bipush (v := 74) dX1_nextDraw_4 (by decide) ?_
  refine zv_iadd dX1_nextDraw_6 ?_
  refine zv_ldc dX1_nextDraw_7 kc_X1_56 ?_
  refine zv_irem dX1_nextDraw_9 (by decide) ?_
  refine zv_iretE dX1_nextDraw_10 rfl (rfl) ?_ ?_
  · rfl
  · rfl
end
section
theorem zloop {P : Nat → Prop} (N : Nat) (hs : ∀ i, i ≤ N → (i < N → P (i + 1)) → P i) : ∀ i, i ≤ N → P i := by
  have h : ∀ n i, i + n = N → P i := by
    intro n
    induction n with
    | zero => intro i hi; exact hs i (by omega) (fun h => by omega)
    | succ n ih => intro i hi; exact hs i (by omega) (fun _ => ih (i + 1) (by omega))
  exact fun i hi => h (N - i) i (by omega)
theorem zlt_of {N i : Nat} {x : Int32} (hN : N < 2 ^ 31) (hi : i < 2 ^ 31) (hx : x = nI N) (h : ¬ x ≤ nI i) : i < N := by
  subst hx
  rcases Nat.lt_or_ge i N with h1 | h1
  · exact h1
  · exact absurd (nI_le h1 hi) h
theorem zge_of {N i : Nat} {x : Int32} (hN : N < 2 ^ 31) (hi : i < 2 ^ 31) (hx : x = nI N) (h : x ≤ nI i) : N ≤ i := by
  subst hx
  exact (nI_leI hN hi).mp h
def bt (c : Nat) : Int32 := 1 <<< (nI c &&& 31)
theorem zb_bt {c : Nat} (h : c < 32) (j : Nat) : zb (bt c) j = decide (j = c) := zb_one h j
theorem bt_inj {c d : Nat} (hc : c < 32) (hd : d < 32) : bt c = bt d ↔ c = d := by
  constructor
  · intro h
    have := zb_bt hc c
    rw [h, zb_bt hd] at this
    simpa using this
  · rintro rfl; rfl
theorem zb_and_bt (z : Int32) {c : Nat} (h : c < 32) : z &&& bt c = 0 ↔ zb z c = false := by
  constructor
  · intro h1
    have : zb (z &&& bt c) c = false := by rw [h1, zb_zero]
    rw [zb_and, zb_bt h] at this
    simpa using this
  · intro h1
    apply zb_ext
    intro k _
    rw [zb_and, zb_bt h, zb_zero]
    by_cases e : k = c
    · subst e; simp [h1]
    · simp [e]
/-- what a cup knows and keeps while a chapter is learnt: its value laid if c < i1, droplets ahead of i2 reached -/
def knowA (f : Nat → Int32) (c : Nat) (v : Int32) (i1 i2 : Nat) : Nat → Int32 := fun j =>
  if j = 0 then f 0 ||| bt c else if j = 5 + c ∧ c < i1 then v
  else if 21 ≤ j ∧ j < 21 + i2 then (if zb (f j) c then f j ^^^ bt c else f j)
  else if 45 ≤ j ∧ j < 45 + i2 then (if zb (f (j - 24)) c then f j ^^^ v else f j) else f j
def knowP (f : Nat → Int32) (c : Nat) (v : Int32) : Nat → Int32 := knowA f c v 16 24
theorem knowA_s1 {f : Nat → Int32} {c : Nat} {v : Int32} {i : Nat} (h : c = i) : upd (knowA f c v i 0) (5 + i) v = knowA f c v (i + 1) 0 := by
  funext j
  simp only [upd, knowA]
  grind
theorem knowA_s2 {f : Nat → Int32} {c : Nat} {v : Int32} {i : Nat} (h : ¬ c = i) : knowA f c v i 0 = knowA f c v (i + 1) 0 := by
  funext j
  simp only [knowA]
  grind
theorem knowA_t1 {f : Nat → Int32} {c : Nat} {v : Int32} {i : Nat} (hc : c < 16) (hi : i < 24) (h : zb (f (21 + i)) c = true) : upd (upd (knowA f c v 16 i) (21 + i) (f (21 + i) ^^^ bt c)) (45 + i) (f (45 + i) ^^^ v) = knowA f c v 16 (i + 1) := by
  funext j
  simp only [upd, knowA]
  grind
theorem knowA_t2 {f : Nat → Int32} {c : Nat} {v : Int32} {i : Nat} (hc : c < 16) (hi : i < 24) (h : zb (f (21 + i)) c = false) : knowA f c v 16 i = knowA f c v 16 (i + 1) := by
  funext j
  simp only [knowA]
  grind
theorem knowA_r1 {f : Nat → Int32} {c : Nat} {v : Int32} {i : Nat} (hc : c < 16) (hi : i < 24) : knowA f c v 16 i (21 + i) = f (21 + i) ∧ knowA f c v 16 i (45 + i) = f (45 + i) := by
  simp only [knowA]
  grind
theorem knowA_0 {f : Nat → Int32} {c : Nat} {v : Int32} : upd f 0 (f 0 ||| bt c) = knowA f c v 0 0 := by
  funext j
  simp only [upd, knowA]
  grind
/-- a droplet that is kept is taken away: those behind it move up; all ahead of i have moved -/
def takeA (f : Nat → Int32) (r i : Nat) : Nat → Int32 := fun j =>
  if 21 + r ≤ j ∧ j < 21 + i then f (j + 1) else if 45 + r ≤ j ∧ j < 45 + i then f (j + 1) else f j
def takeP (f : Nat → Int32) (r : Nat) : Nat → Int32 := fun j =>
  if j = 1 then f 1 - 1 else if j = 44 ∨ j = 68 then 0 else takeA f r 23 j
theorem takeA_0 {f : Nat → Int32} {r : Nat} : takeA f r 0 = f := by
  funext j
  simp only [takeA]
  grind
theorem takeA_s1 {f : Nat → Int32} {r i : Nat} (hi : i < 23) (h : r ≤ i) : upd (upd (takeA f r i) (21 + i) (takeA f r i (21 + (i + 1)))) (45 + i) (upd (takeA f r i) (21 + i) (takeA f r i (21 + (i + 1))) (45 + (i + 1))) = takeA f r (i + 1) := by
  funext j
  simp only [upd, takeA]
  grind
theorem takeA_s2 {f : Nat → Int32} {r i : Nat} (h : i < r) : takeA f r i = takeA f r (i + 1) := by
  funext j
  simp only [takeA]
  grind
theorem takeP_e {f : Nat → Int32} {r : Nat} : upd (upd (upd (takeA f r 23) (21 + 23) 0) (45 + 23) 0) 1 (upd (upd (takeA f r 23) (21 + 23) 0) (45 + 23) 0 1 - 1) = takeP f r := by
  funext j
  simp only [upd, takeP, takeA]
  grind
/-- the first place below n -/
def zfind (P : Nat → Bool) : Nat → Option Nat
  | 0 => none
  | n + 1 => match zfind P n with
    | some j => some j
    | none => if P n then some n else none
theorem zfind_none {P : Nat → Bool} : ∀ {n : Nat}, zfind P n = none → ∀ k, k < n → P k = false
  | 0, _, k, hk => by omega
  | n + 1, h, k, hk => by
    unfold zfind at h
    cases e : zfind P n with
    | some i => rw [e] at h; simp at h
    | none =>
      rw [e] at h
      simp at h
      rcases Nat.lt_or_ge k n with h1 | h1
      · exact zfind_none e k h1
      · rw [show k = n by omega]; simpa using h
theorem zfind_some {P : Nat → Bool} : ∀ {n j : Nat}, zfind P n = some j → j < n ∧ P j = true ∧ ∀ k, k < j → P k = false
  | 0, j, h => by simp [zfind] at h
  | n + 1, j, h => by
    unfold zfind at h
    cases e : zfind P n with
    | some i =>
      rw [e] at h
      simp at h
      subst h
      obtain ⟨h1, h2, h3⟩ := zfind_some e
      exact ⟨by omega, h2, h3⟩
    | none =>
      rw [e] at h
      simp at h
      obtain ⟨h1, rfl⟩ := h
      refine ⟨by omega, h1, fun k hk => ?_⟩
      exact zfind_none e k hk
theorem zfind_of {P : Nat → Bool} {n j : Nat} (hj : j < n) (h1 : P j = true) (h2 : ∀ k, k < j → P k = false) : zfind P n = some j := by
  cases e : zfind P n with
  | none => rw [zfind_none e j hj] at h1; cases h1
  | some i =>
    obtain ⟨g1, g2, g3⟩ := zfind_some e
    rcases Nat.lt_trichotomy i j with h | h | h
    · rw [h2 i h] at g2; cases g2
    · rw [h]
    · rw [g3 j h] at h1; cases h1
theorem zfind_of_none {P : Nat → Bool} {n : Nat} (h : ∀ k, k < n → P k = false) : zfind P n = none := by
  cases e : zfind P n with
  | none => rfl
  | some i =>
    obtain ⟨g1, g2, -⟩ := zfind_some e
    rw [h i g1] at g2; cases g2
theorem zfind_congr {P P' : Nat → Bool} {n : Nat} (h : ∀ k, k < n → P k = P' k) : zfind P n = zfind P' n := by
  cases e : zfind P' n with
  | none => exact zfind_of_none (fun k hk => by rw [h k hk]; exact zfind_none e k hk)
  | some j =>
    obtain ⟨g1, g2, g3⟩ := zfind_some e
    exact zfind_of g1 (by rw [h j g1]; exact g2) (fun k hk => by rw [h k (by omega)]; exact g3 k hk)
end
section
set_option maxRecDepth 100000 in
set_option maxHeartbeats 4000000 in
theorem lp2_X0_learn (l : Launch) (D : zD) (B : Nat) {L : zL} {nx : Nat} {G : zG} {q : Nat} {c : Nat} {v : Int32} (hq : (q, 3) ∈ L) (hc : c < 16) : ∀ i : Nat, i ≤ 24 → zV l (fun _ => True) D B RX0 "learn" cX0_learn 4 none (zrm 0 0 0 0) (zN (zE none L nx (zst G q (knowP (G q) c v)))) 0 0 L nx 40 [some (.ref q), some (.int (bt c)), some (.int v), some (.int (nI i))] [] (zst G q (knowA (G q) c v 16 i)) := by
  refine zloop 24 (fun i hi ih => ?_)
  refine zv_iload_n dX0_learn_40 rfl ?_
  refine zv_bipush (v := 24) dX0_learn_41 (by decide) ?_
  refine zv_icmp_ge (tgt := 83) dX0_learn_43 (by decide) (fun c43 => ?_) (fun c43 => ?_)
  · have e : i = 24 := by have := zge_of (N := 24) (by decide) (by omega) rfl c43; omega
    refine zv_vretE dX0_learn_83 rfl ?_
    subst e; rfl
  · have hlt : i < 24 := zlt_of (N := 24) (by decide) (by omega) rfl c43
    obtain ⟨r1, r2⟩ := knowA_r1 (f := G q) (v := v) hc hlt
    refine zv_aload_n dX0_learn_46 rfl ?_
    refine zv_getS (r := 2) hq rfl fl_X0_15 rfl dX0_learn_47 ?_
    refine zv_iload_n dX0_learn_50 rfl ?_
    refine zv_iald (i := 2) hq rfl (zix_nI (by omega) (by decide)) dX0_learn_51 ?_
    refine zv_iload_n dX0_learn_52 rfl ?_
    refine zv_iand dX0_learn_53 ?_
    refine zv_if_eq (tgt := 77) dX0_learn_54 (by decide) (fun c54 => ?_) (fun c54 => ?_)
    · rw [zst_same, r1] at c54
      have hz := (zb_and_bt _ (by omega)).mp c54
      refine zv_iinc1 dX0_learn_77 rfl (by decide) rfl ?_
      refine zv_goto (tgt := 40) dX0_learn_80 (by decide) ?_
      rw [nI_1]
      refine zv_eqG ?_ (ih hlt)
      first
        | exact congrArg (zst G q) (knowA_t2 hc hlt hz)
        | (simp only [zst_same, zst_zst]; rw [r1]; rw [show upd (knowA (G q) c v 16 i) (21 + i) (G q (21 + i) ^^^ bt c) (45 + i) = G q (45 + i) by rw [← r2]; simp only [upd]; rw [if_neg (by omega)]]; rw [knowA_t1 hc hlt hz])
    · rw [zst_same, r1] at c54
      have hz : zb (G q (21 + i)) c = true := by
        cases h : zb (G q (21 + i)) c with
        | true => rfl
        | false => exact absurd ((zb_and_bt _ (by omega)).mpr h) c54
      refine zv_aload_n dX0_learn_57 rfl ?_
      refine zv_getS (r := 2) hq rfl fl_X0_15 rfl dX0_learn_58 ?_
      refine zv_iload_n dX0_learn_61 rfl ?_
      refine zv_dup2 dX0_learn_62 rfl rfl ?_
      refine zv_iald (i := 2) hq rfl (zix_nI (by omega) (by decide)) dX0_learn_63 ?_
      refine zv_iload_n dX0_learn_64 rfl ?_
      refine zv_ixor dX0_learn_65 ?_
      refine zv_iast (i := 2) hq rfl (zix_nI (by omega) (by decide)) dX0_learn_66 ?_
      refine zv_aload_n dX0_learn_67 rfl ?_
      refine zv_getS (r := 3) hq rfl fl_X0_18 rfl dX0_learn_68 ?_
      refine zv_iload_n dX0_learn_71 rfl ?_
      refine zv_dup2 dX0_learn_72 rfl rfl ?_
      refine zv_iald (i := 3) hq rfl (zix_nI (by omega) (by decide)) dX0_learn_73 ?_
      refine zv_iload_n dX0_learn_74 rfl ?_
      refine zv_ixor dX0_learn_75 ?_
      refine zv_iast (i := 3) hq rfl (zix_nI (by omega) (by decide)) dX0_learn_76 ?_
      refine zv_iinc1 dX0_learn_77 rfl (by decide) rfl ?_
      refine zv_goto (tgt := 40) dX0_learn_80 (by decide) ?_
      rw [nI_1]
      refine zv_eqG ?_ (ih hlt)
      first
        | exact congrArg (zst G q) (knowA_t2 hc hlt hz)
        | (simp only [zst_same, zst_zst]; rw [r1]; rw [show upd (knowA (G q) c v 16 i) (21 + i) (G q (21 + i) ^^^ bt c) (45 + i) = G q (45 + i) by rw [← r2]; simp only [upd]; rw [if_neg (by omega)]]; rw [knowA_t1 hc hlt hz])

set_option maxRecDepth 100000 in
set_option maxHeartbeats 4000000 in
theorem lp1_X0_learn (l : Launch) (D : zD) (B : Nat) {L : zL} {nx : Nat} {G : zG} {q : Nat} {c : Nat} {v : Int32} (hq : (q, 3) ∈ L) (hc : c < 16) : ∀ i : Nat, i ≤ 16 → zV l (fun _ => True) D B RX0 "learn" cX0_learn 4 none (zrm 0 0 0 0) (zN (zE none L nx (zst G q (knowP (G q) c v)))) 0 0 L nx 12 [some (.ref q), some (.int (bt c)), some (.int v), some (.int (nI i))] [] (zst G q (knowA (G q) c v i 0)) := by
  refine zloop 16 (fun i hi ih => ?_)
  refine zv_iload_n dX0_learn_12 rfl ?_
  refine zv_bipush (v := 16) dX0_learn_13 (by decide) ?_
  refine zv_icmp_ge (tgt := 38) dX0_learn_15 (by decide) (fun c15 => ?_) (fun c15 => ?_)
  · have e : i = 16 := by have := zge_of (N := 16) (by decide) (by omega) rfl c15; omega
    subst e
    refine zv_iconst (v := 0) dX0_learn_38 (by decide) ?_
    refine zv_istore_n dX0_learn_39 (by decide) rfl ?_
    exact lp2_X0_learn l D B hq hc 0 (by omega)
  · have hlt : i < 16 := zlt_of (N := 16) (by decide) (by omega) rfl c15
    refine zv_iload_n dX0_learn_18 rfl ?_
    refine zv_iconst (v := 1) dX0_learn_19 (by decide) ?_
    refine zv_iload_n dX0_learn_20 rfl ?_
    refine zv_ishl dX0_learn_21 ?_
    refine zv_icmp_ne (tgt := 32) dX0_learn_22 (by decide) (fun c22 => ?_) (fun c22 => ?_)
    · refine zv_iinc1 dX0_learn_32 rfl (by decide) rfl ?_
      refine zv_goto (tgt := 12) dX0_learn_35 (by decide) ?_
      rw [nI_1]
      refine zv_eqG ?_ (ih hlt)
      first
        | exact congrArg (zst G q) (knowA_s2 (fun e => c22 (by rw [e]; rfl)))
        | (simp only [zst_same, zst_zst]; rw [knowA_s1 ((bt_inj (by omega) (by omega)).mp c22)])
    · refine zv_aload_n dX0_learn_25 rfl ?_
      refine zv_getS (r := 1) hq rfl fl_X0_9 rfl dX0_learn_26 ?_
      refine zv_iload_n dX0_learn_29 rfl ?_
      refine zv_iload_n dX0_learn_30 rfl ?_
      refine zv_iast (i := 1) hq rfl (zix_nI (by omega) (by decide)) dX0_learn_31 ?_
      refine zv_iinc1 dX0_learn_32 rfl (by decide) rfl ?_
      refine zv_goto (tgt := 12) dX0_learn_35 (by decide) ?_
      rw [nI_1]
      refine zv_eqG ?_ (ih hlt)
      first
        | exact congrArg (zst G q) (knowA_s2 (fun e => c22 (by rw [e]; rfl)))
        | (simp only [zst_same, zst_zst]; rw [knowA_s1 ((bt_inj (by omega) (by omega)).mp c22)])

set_option maxRecDepth 100000 in
set_option maxHeartbeats 4000000 in
theorem m_X0_learn (l : Launch) (D : zD) (B : Nat) {L : zL} {nx : Nat} {G : zG} {q : Nat} {c : Nat} {x v : Int32} (hq : (q, 3) ∈ L) (hc : c < 16) (hx : x = bt c) : zMet l D B yX0_learn cX0_learn 4 none 0 0 0 0 [.ref q, .int x, .int v] L nx G (zE none L nx (zst G q (knowP (G q) c v))) := by
  refine zMet_of (own := RX0) (mn := "learn") [some (.ref q), some (.int x), some (.int v), none] (by decide +kernel) rfl rfl rfl (Nat.le_of_ble_eq_true rfl) ?_
  show zV l (fun _ => True) D B RX0 "learn" cX0_learn 4 none (zrm 0 0 0 0) (zN (zE none L nx (zst G q (knowP (G q) c v)))) 0 0 L nx 0 [some (.ref q), some (.int x), some (.int v), none] [] (G)
  subst hx
  refine zv_aload_n dX0_learn_0 rfl ?_
  refine zv_dup dX0_learn_1 rfl ?_
  refine zv_getI hq rfl fl_X0_21 rfl dX0_learn_2 ?_
  refine zv_iload_n dX0_learn_5 rfl ?_
  refine zv_ior dX0_learn_6 ?_
  refine zv_putI (t := 3) hq rfl fl_X0_21 ft_X0_0 rfl dX0_learn_7 ?_
  refine zv_iconst (v := 0) dX0_learn_10 (by decide) ?_
  refine zv_istore_n dX0_learn_11 (by decide) rfl ?_
  refine zv_eqG ?_ (lp1_X0_learn l D B hq hc 0 (by omega))
  rw [knowA_0]

set_option maxRecDepth 100000 in
set_option maxHeartbeats 4000000 in
theorem lp_X0_removeKept (l : Launch) (D : zD) (B : Nat) {L : zL} {nx : Nat} {G : zG} {q : Nat} {r : Nat} (hq : (q, 3) ∈ L) (hr : r < 24) : ∀ i : Nat, i ≤ 23 → zV l (fun _ => True) D B RX0 "removeKept" cX0_removeKept 3 none (zrm 0 0 0 0) (zN (zE none L nx (zst G q (takeP (G q) r)))) 0 0 L nx 2 [some (.ref q), some (.int (nI r)), some (.int (nI i))] [] (zst G q (takeA (G q) r i)) := by
  refine zloop 23 (fun i hi ih => ?_)
  refine zv_iload_n dX0_removeKept_2 rfl ?_
  refine zv_iconst (v := 1) dX0_removeKept_3 (by decide) ?_
  refine zv_iadd dX0_removeKept_4 ?_
  refine zv_bipush (v := 24) dX0_removeKept_5 (by decide) ?_
  rw [nI_1]
  refine zv_icmp_ge (tgt := 49) dX0_removeKept_7 (by decide) (fun c7 => ?_) (fun c7 => ?_)
  · have e : i = 23 := by have := zge_of (N := 24) (by decide) (by omega) rfl c7; omega
    subst e
    refine zv_aload_n dX0_removeKept_49 rfl ?_
    refine zv_getS (r := 2) hq rfl fl_X0_15 rfl dX0_removeKept_50 ?_
    refine zv_bipush (v := 23) dX0_removeKept_53 (by decide) ?_
    refine zv_iconst (v := 0) dX0_removeKept_55 (by decide) ?_
    refine zv_iast (i := 2) hq rfl (zix_nI (i := 23) (by omega) (by decide)) dX0_removeKept_56 ?_
    refine zv_aload_n dX0_removeKept_57 rfl ?_
    refine zv_getS (r := 3) hq rfl fl_X0_18 rfl dX0_removeKept_58 ?_
    refine zv_bipush (v := 23) dX0_removeKept_61 (by decide) ?_
    refine zv_iconst (v := 0) dX0_removeKept_63 (by decide) ?_
    refine zv_iast (i := 3) hq rfl (zix_nI (i := 23) (by omega) (by decide)) dX0_removeKept_64 ?_
    refine zv_aload_n dX0_removeKept_65 rfl ?_
    refine zv_dup dX0_removeKept_66 rfl ?_
    refine zv_getI hq rfl fl_X0_25 rfl dX0_removeKept_67 ?_
    refine zv_iconst (v := 1) dX0_removeKept_70 (by decide) ?_
    refine zv_isub dX0_removeKept_71 ?_
    refine zv_putI (t := 3) hq rfl fl_X0_25 ft_X0_1 rfl dX0_removeKept_72 ?_
    refine zv_vretE dX0_removeKept_75 rfl ?_
    simp only [zst_same, zst_zst]; rw [takeP_e]
  · have hlt : i < 23 := by have := zlt_of (N := 24) (i := i + 1) (by decide) (by omega) rfl c7; omega
    refine zv_iload_n dX0_removeKept_10 rfl ?_
    refine zv_iload_n dX0_removeKept_11 rfl ?_
    refine zv_icmp_lt (tgt := 43) dX0_removeKept_12 (by decide) (fun c12 => ?_) (fun c12 => ?_)
    · have hir : i < r := (nI_ltI (by omega) (by omega)).mp c12
      refine zv_iinc1 dX0_removeKept_43 rfl (by decide) rfl ?_
      refine zv_goto (tgt := 2) dX0_removeKept_46 (by decide) ?_
      rw [nI_1]
      refine zv_eqG ?_ (ih hlt)
      first
        | exact congrArg (zst G q) (takeA_s2 hir)
        | (simp only [zst_same, zst_zst]; rw [takeA_s1 hlt hir])
    · have hir : r ≤ i := by
        rcases Nat.lt_or_ge i r with h | h
        · exact absurd (nI_lt h (by omega)) c12
        · exact h
      refine zv_aload_n dX0_removeKept_15 rfl ?_
      refine zv_getS (r := 2) hq rfl fl_X0_15 rfl dX0_removeKept_16 ?_
      refine zv_iload_n dX0_removeKept_19 rfl ?_
      refine zv_aload_n dX0_removeKept_20 rfl ?_
      refine zv_getS (r := 2) hq rfl fl_X0_15 rfl dX0_removeKept_21 ?_
      refine zv_iload_n dX0_removeKept_24 rfl ?_
      refine zv_iconst (v := 1) dX0_removeKept_25 (by decide) ?_
      refine zv_iadd dX0_removeKept_26 ?_
      rw [nI_1]
      refine zv_iald (i := 2) hq rfl (zix_nI (by omega) (by decide)) dX0_removeKept_27 ?_
      refine zv_iast (i := 2) hq rfl (zix_nI (by omega) (by decide)) dX0_removeKept_28 ?_
      refine zv_aload_n dX0_removeKept_29 rfl ?_
      refine zv_getS (r := 3) hq rfl fl_X0_18 rfl dX0_removeKept_30 ?_
      refine zv_iload_n dX0_removeKept_33 rfl ?_
      refine zv_aload_n dX0_removeKept_34 rfl ?_
      refine zv_getS (r := 3) hq rfl fl_X0_18 rfl dX0_removeKept_35 ?_
      refine zv_iload_n dX0_removeKept_38 rfl ?_
      refine zv_iconst (v := 1) dX0_removeKept_39 (by decide) ?_
      refine zv_iadd dX0_removeKept_40 ?_
      rw [nI_1]
      refine zv_iald (i := 3) hq rfl (zix_nI (by omega) (by decide)) dX0_removeKept_41 ?_
      refine zv_iast (i := 3) hq rfl (zix_nI (by omega) (by decide)) dX0_removeKept_42 ?_
      refine zv_iinc1 dX0_removeKept_43 rfl (by decide) rfl ?_
      refine zv_goto (tgt := 2) dX0_removeKept_46 (by decide) ?_
      rw [nI_1]
      refine zv_eqG ?_ (ih hlt)
      first
        | exact congrArg (zst G q) (takeA_s2 hir)
        | (simp only [zst_same, zst_zst]; rw [takeA_s1 hlt hir])

set_option maxRecDepth 100000 in
set_option maxHeartbeats 4000000 in
theorem m_X0_removeKept (l : Launch) (D : zD) (B : Nat) {L : zL} {nx : Nat} {G : zG} {q : Nat} {r : Nat} {x : Int32} (hq : (q, 3) ∈ L) (hr : r < 24) (hx : x = nI r) : zMet l D B yX0_removeKept cX0_removeKept 3 none 0 0 0 0 [.ref q, .int x] L nx G (zE none L nx (zst G q (takeP (G q) r))) := by
  refine zMet_of (own := RX0) (mn := "removeKept") [some (.ref q), some (.int x), none] (by decide +kernel) rfl rfl rfl (Nat.le_of_ble_eq_true rfl) ?_
  show zV l (fun _ => True) D B RX0 "removeKept" cX0_removeKept 3 none (zrm 0 0 0 0) (zN (zE none L nx (zst G q (takeP (G q) r)))) 0 0 L nx 0 [some (.ref q), some (.int x), none] [] (G)
  subst hx
  refine zv_iconst (v := 0) dX0_removeKept_0 (by decide) ?_
  refine zv_istore_n dX0_removeKept_1 (by decide) rfl ?_
  refine zv_eqG ?_ (lp_X0_removeKept l D B hq hr 0 (by omega))
  rw [takeA_0, zst_self]

/-- a kept droplet with fewer than two chapters -/
def zsmall (f : Nat → Int32) (k : Nat) : Bool := decide (zcnt (zb (f (21 + k))) 16 < 2)
def zfs (f : Nat → Int32) : Int32 := match zfind (zsmall f) (f 1).toNatClampNeg with
  | some r => nI r
  | none => -6

set_option maxRecDepth 100000 in
set_option maxHeartbeats 4000000 in
theorem lp_X0_firstPeelable (l : Launch) (D : zD) (B : Nat) {L : zL} {nx : Nat} {G : zG} {q m : Nat} (hq : (q, 3) ∈ L) (hm : m ≤ 24) (hk : G q 1 = nI m) (hs : ∀ r, r < m → zm (G q (21 + r)) < 65536) : ∀ i : Nat, i ≤ 24 → (∀ r, r < i → r < m → zsmall (G q) r = false) → zV l (fun _ => True) D B RX0 "firstPeelable" cX0_firstPeelable 2 (some .int) (zrm 1 20 0 0) (zN (zE (some (.int (zfs (G q)))) L nx G)) 0 0 L nx 2 [some (.ref q), some (.int (nI i))] [] (G) := by
  refine zloop 24 (fun i hi ih hno => ?_)
  refine zv_iload_n dX0_firstPeelable_2 rfl ?_
  refine zv_bipush (v := 24) dX0_firstPeelable_3 (by decide) ?_
  refine zv_icmp_ge (tgt := 37) dX0_firstPeelable_5 (by decide) (fun c5 => ?_) (fun c5 => ?_)
  · have e : 24 ≤ i := zge_of (N := 24) (by decide) (by omega) rfl c5
    have hres : zfs (G q) = -6 := by
      unfold zfs
      rw [hk, nI_clamp (by omega), zfind_of_none (fun r hr => hno r (by omega) hr)]
    refine zv_bipush (v := (-6)) dX0_firstPeelable_37 (by decide) ?_
    refine zv_iretE dX0_firstPeelable_39 rfl (rfl) ?_ ?_
    · exact hres.symm
    · rfl
  · have hlt : i < 24 := zlt_of (N := 24) (by decide) (by omega) rfl c5
    refine zv_iload_n dX0_firstPeelable_8 rfl ?_
    refine zv_aload_n dX0_firstPeelable_9 rfl ?_
    refine zv_getI hq rfl fl_X0_25 rfl dX0_firstPeelable_10 ?_
    rw [hk]
    refine zv_icmp_ge (tgt := 31) dX0_firstPeelable_13 (by decide) (fun c13 => ?_) (fun c13 => ?_)
    · have him : m ≤ i := (nI_leI (by omega) (by omega)).mp c13
      refine zv_iinc1 dX0_firstPeelable_31 rfl (by decide) rfl ?_
      refine zv_goto (tgt := 2) dX0_firstPeelable_34 (by decide) ?_
      rw [nI_1]
      refine ih (by omega) (fun r hr hrm => ?_)
      rcases Nat.lt_or_ge r i with h | h
      · exact hno r h hrm
      · have : r = i := by omega
        subst this
        first
          | (exfalso; omega)
          | (simp only [zsmall, decide_eq_false_iff_not]; omega)
    · have him : i < m := by
        rcases Nat.lt_or_ge i m with h | h
        · exact h
        · exact absurd (nI_le h (by omega)) c13
      have hbc : zcnt (zm (G q (21 + i))).testBit 16 = zcnt (zb (G q (21 + i))) 16 := zcnt_congr (fun k _ => (zb_zm _ _).symm)
      have hcn := zcnt_le (zb (G q (21 + i))) 16
      refine zv_aload_n dX0_firstPeelable_16 rfl ?_
      refine zv_getS (r := 2) hq rfl fl_X0_15 rfl dX0_firstPeelable_17 ?_
      refine zv_iload_n dX0_firstPeelable_20 rfl ?_
      refine zv_iald (i := 2) hq rfl (zix_nI (by omega) (by decide)) dX0_firstPeelable_21 ?_
      refine zv_callS (m_J6_bitCount_0f7a4 l D B (zm (G q (21 + i))) (hs i him) (nI_zm _).symm) ml_X0_43 st_J6_bitCount_0f7a4 rfl rfl (Nat.le_of_ble_eq_true rfl) dX0_firstPeelable_22 ⟨Nat.le_of_ble_eq_true rfl, Nat.le_of_ble_eq_true rfl⟩ ⟨Nat.le_refl _, Nat.le_refl _⟩ (zk_i ?_)
      refine zv_iconst (v := 2) dX0_firstPeelable_25 (by decide) ?_
      rw [hbc]
      refine zv_icmp_ge (tgt := 31) dX0_firstPeelable_26 (by decide) (fun c26 => ?_) (fun c26 => ?_)
      · have hc2 : 2 ≤ zcnt (zb (G q (21 + i))) 16 := (nI_leI (by omega) (by omega)).mp c26
        refine zv_iinc1 dX0_firstPeelable_31 rfl (by decide) rfl ?_
        refine zv_goto (tgt := 2) dX0_firstPeelable_34 (by decide) ?_
        rw [nI_1]
        refine ih (by omega) (fun r hr hrm => ?_)
        rcases Nat.lt_or_ge r i with h | h
        · exact hno r h hrm
        · have : r = i := by omega
          subst this
          first
            | (exfalso; omega)
            | (simp only [zsmall, decide_eq_false_iff_not]; omega)
      · have hc2 : zcnt (zb (G q (21 + i))) 16 < 2 := by
          rcases Nat.lt_or_ge (zcnt (zb (G q (21 + i))) 16) 2 with h | h
          · exact h
          · exact absurd (nI_le h (by omega)) c26
        have hres : zfs (G q) = nI i := by
          unfold zfs
          rw [hk, nI_clamp (by omega), zfind_of him (by simp [zsmall, hc2]) (fun r hr => hno r hr (by omega))]
        refine zv_iload_n dX0_firstPeelable_29 rfl ?_
        refine zv_iretE dX0_firstPeelable_30 rfl (rfl) ?_ ?_
        · exact hres.symm
        · rfl

set_option maxRecDepth 100000 in
set_option maxHeartbeats 4000000 in
theorem m_X0_firstPeelable (l : Launch) (D : zD) (B : Nat) {L : zL} {nx : Nat} {G : zG} {q m : Nat} (hq : (q, 3) ∈ L) (hm : m ≤ 24) (hk : G q 1 = nI m) (hs : ∀ r, r < m → zm (G q (21 + r)) < 65536) : zMet l D B yX0_firstPeelable cX0_firstPeelable 2 (some .int) 1 20 0 0 [.ref q] L nx G (zE (some (.int (zfs (G q)))) L nx (G)) := by
  refine zMet_of (own := RX0) (mn := "firstPeelable") [some (.ref q), none] (by decide +kernel) rfl rfl rfl (Nat.le_of_ble_eq_true rfl) ?_
  show zV l (fun _ => True) D B RX0 "firstPeelable" cX0_firstPeelable 2 (some .int) (zrm 1 20 0 0) (zN (zE (some (.int (zfs (G q)))) L nx (G))) 0 0 L nx 0 [some (.ref q), none] [] (G)
  refine zv_iconst (v := 0) dX0_firstPeelable_0 (by decide) ?_
  refine zv_istore_n dX0_firstPeelable_1 (by decide) rfl ?_
  exact lp_X0_firstPeelable l D B hq hm hk hs 0 (by omega) (fun r h => by omega)

def keepP (f : Nat → Int32) (m : Nat) (s v : Int32) : Nat → Int32 := upd (upd (upd f (21 + m) s) (45 + m) v) 1 (nI (m + 1))

set_option maxRecDepth 100000 in
set_option maxHeartbeats 4000000 in
theorem m_X0_keepIfRoom (l : Launch) (D : zD) (B : Nat) {L : zL} {nx : Nat} {G : zG} {q m : Nat} {x v : Int32} (hq : (q, 3) ∈ L) (hm : m < 24) (hk : G q 1 = nI m) : zMet l D B yX0_keepIfRoom cX0_keepIfRoom 4 (some .boolean) 1 22 0 0 [.ref q, .int x, .int v] L nx G (zE (some (.int 1)) L nx (zst G q (keepP (G q) m x v))) := by
  refine zMet_of (own := RX0) (mn := "keepIfRoom") [some (.ref q), some (.int x), some (.int v), none] (by decide +kernel) rfl rfl rfl (Nat.le_of_ble_eq_true rfl) ?_
  show zV l (fun _ => True) D B RX0 "keepIfRoom" cX0_keepIfRoom 4 (some .boolean) (zrm 1 22 0 0) (zN (zE (some (.int 1)) L nx (zst G q (keepP (G q) m x v)))) 0 0 L nx 0 [some (.ref q), some (.int x), some (.int v), none] [] (G)
  refine zv_aload_n dX0_keepIfRoom_0 rfl ?_
  refine zv_getI hq rfl fl_X0_25 rfl dX0_keepIfRoom_1 ?_
  rw [hk]
  refine zv_istore_n dX0_keepIfRoom_4 (by decide) rfl ?_
  refine zv_iload_n dX0_keepIfRoom_5 rfl ?_
  refine zv_iconst (v := 0) dX0_keepIfRoom_6 (by decide) ?_
  refine zv_bipush (v := 23) dX0_keepIfRoom_7 (by decide) ?_
  refine zv_callSN (m_X6_isWithin l D B (nI m) 0 23) ml_X0_83 st_X6_isWithin rfl rfl (Nat.le_of_ble_eq_true rfl) dX0_keepIfRoom_9 ⟨Nat.le_of_ble_eq_true rfl, Nat.le_of_ble_eq_true rfl⟩ ⟨Nat.le_refl _, Nat.le_refl _⟩ (zk_i ?_)
  rw [show bI (zin3 (nI m) 0 23) = 1 by rw [show zin3 (nI m) 0 23 = true from (zin3_iff (m := 23) (by decide)).mpr ⟨m, by omega, rfl⟩]; rfl]
  refine zv_if_ne (tgt := 17) dX0_keepIfRoom_12 (by decide) (fun _ => ?_) (fun h => absurd h (by decide))
  refine zv_aload_n dX0_keepIfRoom_17 rfl ?_
  refine zv_getS (r := 2) hq rfl fl_X0_15 rfl dX0_keepIfRoom_18 ?_
  refine zv_iload_n dX0_keepIfRoom_21 rfl ?_
  refine zv_iload_n dX0_keepIfRoom_22 rfl ?_
  refine zv_iast (i := 2) hq rfl (zix_nI (by omega) (by decide)) dX0_keepIfRoom_23 ?_
  refine zv_aload_n dX0_keepIfRoom_24 rfl ?_
  refine zv_getS (r := 3) hq rfl fl_X0_18 rfl dX0_keepIfRoom_25 ?_
  refine zv_iload_n dX0_keepIfRoom_28 rfl ?_
  refine zv_iload_n dX0_keepIfRoom_29 rfl ?_
  refine zv_iast (i := 3) hq rfl (zix_nI (by omega) (by decide)) dX0_keepIfRoom_30 ?_
  refine zv_aload_n dX0_keepIfRoom_31 rfl ?_
  refine zv_dup dX0_keepIfRoom_32 rfl ?_
  refine zv_getI hq rfl fl_X0_25 rfl dX0_keepIfRoom_33 ?_
  refine zv_iconst (v := 1) dX0_keepIfRoom_36 (by decide) ?_
  refine zv_iadd dX0_keepIfRoom_37 ?_
  refine zv_putI (t := 3) hq rfl fl_X0_25 ft_X0_1 rfl dX0_keepIfRoom_38 ?_
  refine zv_iconst (v := 1) dX0_keepIfRoom_41 (by decide) ?_
  refine zv_iretE dX0_keepIfRoom_42 rfl (by first | rfl | exact bI_nar _) ?_ ?_
  · rfl
  · simp only [zst_same, zst_zst]
    rw [show upd (upd (G q) (21 + m) x) (45 + m) v 1 = nI m by simp only [upd]; rw [if_neg (by omega), if_neg (by omega)]; exact hk, nI_1]
    rfl

set_option maxRecDepth 100000 in
set_option maxHeartbeats 4000000 in
theorem m_X0_keepIfRoom_no (l : Launch) (D : zD) (B : Nat) {L : zL} {nx : Nat} {G : zG} {q : Nat} {x v : Int32} (hq : (q, 3) ∈ L) (hk : G q 1 = nI 24) : zMet l D B yX0_keepIfRoom cX0_keepIfRoom 4 (some .boolean) 1 22 0 0 [.ref q, .int x, .int v] L nx G (zE (some (.int 0)) L nx (G)) := by
  refine zMet_of (own := RX0) (mn := "keepIfRoom") [some (.ref q), some (.int x), some (.int v), none] (by decide +kernel) rfl rfl rfl (Nat.le_of_ble_eq_true rfl) ?_
  show zV l (fun _ => True) D B RX0 "keepIfRoom" cX0_keepIfRoom 4 (some .boolean) (zrm 1 22 0 0) (zN (zE (some (.int 0)) L nx (G))) 0 0 L nx 0 [some (.ref q), some (.int x), some (.int v), none] [] (G)
  refine zv_aload_n dX0_keepIfRoom_0 rfl ?_
  refine zv_getI hq rfl fl_X0_25 rfl dX0_keepIfRoom_1 ?_
  rw [hk]
  refine zv_istore_n dX0_keepIfRoom_4 (by decide) rfl ?_
  refine zv_iload_n dX0_keepIfRoom_5 rfl ?_
  refine zv_iconst (v := 0) dX0_keepIfRoom_6 (by decide) ?_
  refine zv_bipush (v := 23) dX0_keepIfRoom_7 (by decide) ?_
  refine zv_callSN (m_X6_isWithin l D B (nI 24) 0 23) ml_X0_83 st_X6_isWithin rfl rfl (Nat.le_of_ble_eq_true rfl) dX0_keepIfRoom_9 ⟨Nat.le_of_ble_eq_true rfl, Nat.le_of_ble_eq_true rfl⟩ ⟨Nat.le_refl _, Nat.le_refl _⟩ (zk_i ?_)
  refine zv_if_ne (tgt := 17) dX0_keepIfRoom_12 (by decide) (fun h => absurd (by decide) h) (fun _ => ?_)
  refine zv_iconst (v := 0) dX0_keepIfRoom_15 (by decide) ?_
  refine zv_iretE dX0_keepIfRoom_16 rfl (by first | rfl | exact bI_nar _) ?_ ?_
  · rfl
  · rfl
end
section
/-- the chapters of a set added bit by bit, up to the k-th -/
def xsN (ch : Nat → Int32) (s : Int32) : Nat → Int32
  | 0 => 0
  | k + 1 => xsN ch s k ^^^ (if zb s k then ch k else 0)
def xs (ch : Nat → Int32) (s : Int32) : Int32 := xsN ch s 16
theorem i32_xor_self (a : Int32) : a ^^^ a = 0 := by
  apply zb_ext; intro k _; rw [zb_xor, zb_zero]; simp
theorem i32_xor_zero (a : Int32) : a ^^^ 0 = a := by
  apply zb_ext; intro k _; rw [zb_xor, zb_zero]; simp
theorem i32_zero_xor (a : Int32) : 0 ^^^ a = a := by
  apply zb_ext; intro k _; rw [zb_xor, zb_zero]; simp
theorem i32_xor_comm (a b : Int32) : a ^^^ b = b ^^^ a := by
  apply zb_ext; intro k _; rw [zb_xor, zb_xor, Bool.xor_comm]
theorem i32_xor_assoc (a b c : Int32) : a ^^^ b ^^^ c = a ^^^ (b ^^^ c) := by
  apply zb_ext; intro k _; simp only [zb_xor, Bool.xor_assoc]
theorem xsN_xor (ch : Nat → Int32) (a b : Int32) : ∀ k, xsN ch (a ^^^ b) k = xsN ch a k ^^^ xsN ch b k
  | 0 => by simp [xsN, i32_xor_self]
  | k + 1 => by
    simp only [xsN, xsN_xor ch a b k, zb_xor]
    apply zb_ext
    intro j _
    cases zb a k <;> cases zb b k <;> simp [zb_xor, zb_zero] <;> cases zb (xsN ch a k) j <;> cases zb (xsN ch b k) j <;> cases zb (ch k) j <;> rfl
theorem xs_xor (ch : Nat → Int32) (a b : Int32) : xs ch (a ^^^ b) = xs ch a ^^^ xs ch b := xsN_xor ch a b 16
theorem xsN_zero (ch : Nat → Int32) : ∀ k, xsN ch 0 k = 0
  | 0 => rfl
  | k + 1 => by simp [xsN, xsN_zero ch k, zb_zero]
theorem xs_zero (ch : Nat → Int32) : xs ch 0 = 0 := xsN_zero ch 16
theorem xsN_bt (ch : Nat → Int32) {c : Nat} (hc : c < 32) : ∀ k, xsN ch (bt c) k = if c < k then ch c else 0
  | 0 => by simp [xsN]
  | k + 1 => by
    simp only [xsN, xsN_bt ch hc k, zb_bt hc]
    rcases Nat.lt_trichotomy c k with h | h | h
    · rw [if_pos h, if_neg (by simp; omega), if_pos (by omega), i32_xor_zero]
    · subst h
      rw [if_neg (by omega), if_pos (by simp), if_pos (by omega), i32_zero_xor]
    · rw [if_neg (by omega), if_neg (by simp; omega), if_neg (by omega), i32_xor_zero]
theorem xs_bt (ch : Nat → Int32) {c : Nat} (hc : c < 16) : xs ch (bt c) = ch c := by
  unfold xs
  rw [xsN_bt ch (by omega), if_pos hc]
def zlow (s : Int32) : Nat := (zfind (zb s) 16).getD 16
/-- a mask with fewer than two places, and not empty, is one place -/
theorem zcnt_pos {f : Nat → Bool} : ∀ {n k : Nat}, k < n → f k = true → 1 ≤ zcnt f n
  | 0, k, h, _ => by omega
  | n + 1, k, h, hk => by
    unfold zcnt
    rcases Nat.lt_or_ge k n with h1 | h1
    · have := zcnt_pos h1 hk; omega
    · rw [show n = k by omega, hk]; simp
theorem zcnt_two {f : Nat → Bool} : ∀ {n j k : Nat}, j < k → k < n → f j = true → f k = true → 2 ≤ zcnt f n
  | 0, j, k, _, h, _, _ => by omega
  | n + 1, j, k, hjk, h, hj, hk => by
    unfold zcnt
    rcases Nat.lt_or_ge k n with h1 | h1
    · have := zcnt_two hjk h1 hj hk; omega
    · have := zcnt_pos (n := n) (k := j) (by omega) hj
      have hn : f n = true := by rw [show n = k by omega]; exact hk
      rw [hn]
      simp; omega
theorem zcnt_zero {f : Nat → Bool} : ∀ {n : Nat}, zcnt f n = 0 → ∀ k, k < n → f k = false
  | 0, _, k, h => by omega
  | n + 1, h, k, hk => by
    unfold zcnt at h
    cases e : f n with
    | true => rw [e] at h; simp at h
    | false =>
      rw [e] at h
      rcases Nat.lt_or_ge k n with h1 | h1
      · exact zcnt_zero (by simpa using h) k h1
      · rw [show k = n by omega, e]
/-- nothing stands at n and above -/
def zlim (n : Nat) (s : Int32) : Prop := ∀ k, n ≤ k → zb s k = false
theorem zlim_zm {n : Nat} {s : Int32} (hn : n ≤ 16) (h : zlim n s) : zm s < 65536 := zm_small (fun k hk => h k (by omega))
theorem zone_of {n : Nat} {s : Int32} (hn : n ≤ 16) (h : zlim n s) (h2 : zcnt (zb s) 16 < 2) (h0 : s ≠ 0) : s = bt (zlow s) ∧ zlow s < n ∧ zb s (zlow s) = true := by
  cases e : zfind (zb s) 16 with
  | none =>
    exfalso
    apply h0
    apply zb_ext
    intro k _
    rw [zb_zero]
    rcases Nat.lt_or_ge k 16 with h1 | h1
    · exact zfind_none e k h1
    · exact h k (by omega)
  | some c =>
    obtain ⟨h3, h4, h5⟩ := zfind_some e
    have hl : zlow s = c := by simp [zlow, e]
    rw [hl]
    have hcn : c < n := by
      rcases Nat.lt_or_ge c n with h6 | h6
      · exact h6
      · rw [h c h6] at h4; cases h4
    refine ⟨?_, hcn, h4⟩
    apply zb_ext
    intro k _
    rw [zb_bt (by omega)]
    rcases Nat.lt_trichotomy k c with h6 | h6 | h6
    · rw [h5 k h6]; simp; omega
    · subst h6; simp [h4]
    · rw [show decide (k = c) = false by simp; omega]
      cases e2 : zb s k with
      | false => rfl
      | true =>
        rcases Nat.lt_or_ge k 16 with h7 | h7
        · have := zcnt_two h6 h7 h4 e2; omega
        · rw [h k (by omega)] at e2; cases e2
theorem zcnt_bt {c : Nat} (hc : c < 16) : zcnt (zb (bt c)) 16 = 1 := by
  have : ∀ c, c < 16 → zcnt (zb (bt c)) 16 = 1 := by decide +kernel
  exact this c hc
theorem zlow_bt {c : Nat} (hc : c < 16) : zlow (bt c) = c := by
  unfold zlow
  rw [zfind_of (n := 16) (j := c) hc (by rw [zb_bt (by omega)]; simp) (fun k hk => by rw [zb_bt (by omega)]; simp; omega)]
  rfl
/-- what always holds of a cup, as to numbers: chapters n, the book's numbers ch -/
def zCJ (n : Nat) (ch f : Nat → Int32) (m : Nat) : Prop :=
  n ≤ 16 ∧ m ≤ 24 ∧ f 1 = nI m ∧ zlim n (f 0) ∧ (∀ k, k < n → zb (f 0) k = true → f (5 + k) = ch k) ∧
  ∀ r, r < 24 → zlim n (f (21 + r)) ∧ (∀ k, zb (f 0) k = true → zb (f (21 + r)) k = false) ∧ f (45 + r) = xs ch (f (21 + r)) ∧ (m ≤ r → f (21 + r) = 0)
theorem zlim_zero (n : Nat) : zlim n 0 := fun k _ => zb_zero k
theorem zlim_xor {n : Nat} {a b : Int32} (ha : zlim n a) (hb : zlim n b) : zlim n (a ^^^ b) := fun k hk => by rw [zb_xor, ha k hk, hb k hk]; rfl
theorem zlim_or {n : Nat} {a b : Int32} (ha : zlim n a) (hb : zlim n b) : zlim n (a ||| b) := fun k hk => by rw [zb_or, ha k hk, hb k hk]; rfl
theorem zlim_bt {n c : Nat} (hn : n ≤ 16) (h : c < n) : zlim n (bt c) := fun k hk => by rw [zb_bt (by omega)]; simp; omega
theorem zCJ_take {n : Nat} {ch f : Nat → Int32} {m r : Nat} (h : zCJ n ch f m) (hr : r < m) : zCJ n ch (takeP f r) (m - 1) := by
  obtain ⟨h1, h2, h3, h4, h5, h6⟩ := h
  refine ⟨h1, by omega, ?_, ?_, ?_, ?_⟩
  · simp only [takeP, if_pos, h3]
    exact pk_sub (b := 1) (by omega)
  · have : takeP f r 0 = f 0 := by simp only [takeP, takeA]; grind
    rw [this]; exact h4
  · intro k hk hz
    have e0 : takeP f r 0 = f 0 := by simp only [takeP, takeA]; grind
    have e1 : takeP f r (5 + k) = f (5 + k) := by simp only [takeP, takeA]; grind
    rw [e1]; rw [e0] at hz
    exact h5 k hk hz
  · intro j hj
    have e0 : takeP f r 0 = f 0 := by simp only [takeP, takeA]; grind
    rw [e0]
    by_cases hj3 : j = 23
    · subst hj3
      have e1 : takeP f r (21 + 23) = 0 := by simp only [takeP]; grind
      have e2 : takeP f r (45 + 23) = 0 := by simp only [takeP]; grind
      rw [e1, e2]
      exact ⟨zlim_zero n, fun k _ => zb_zero k, (xs_zero ch).symm, fun _ => rfl⟩
    · by_cases hjr : r ≤ j
      · have e1 : takeP f r (21 + j) = f (21 + (j + 1)) := by simp only [takeP, takeA]; grind
        have e2 : takeP f r (45 + j) = f (45 + (j + 1)) := by simp only [takeP, takeA]; grind
        rw [e1, e2]
        obtain ⟨g1, g2, g3, g4⟩ := h6 (j + 1) (by omega)
        exact ⟨g1, g2, g3, fun h => g4 (by omega)⟩
      · have e1 : takeP f r (21 + j) = f (21 + j) := by simp only [takeP, takeA]; grind
        have e2 : takeP f r (45 + j) = f (45 + j) := by simp only [takeP, takeA]; grind
        rw [e1, e2]
        obtain ⟨g1, g2, g3, g4⟩ := h6 j hj
        exact ⟨g1, g2, g3, fun h => by omega⟩
theorem knowP_at {f : Nat → Int32} {c : Nat} {v : Int32} (hc : c < 16) : knowP f c v 0 = f 0 ||| bt c ∧ knowP f c v 1 = f 1 ∧ knowP f c v (5 + c) = v ∧ (∀ k, k < 16 → k ≠ c → knowP f c v (5 + k) = f (5 + k)) ∧
    ∀ r, r < 24 → knowP f c v (21 + r) = (if zb (f (21 + r)) c then f (21 + r) ^^^ bt c else f (21 + r)) ∧ knowP f c v (45 + r) = (if zb (f (21 + r)) c then f (45 + r) ^^^ v else f (45 + r)) := by
  simp only [knowP, knowA]
  refine ⟨by grind, by grind, by grind, by grind, ?_⟩
  intro r hr
  refine ⟨by grind, ?_⟩
  rw [if_neg (by omega), if_neg (by omega), if_neg (by omega), if_pos (by omega), show 45 + r - 24 = 21 + r by omega]
theorem zCJ_know {n : Nat} {ch f : Nat → Int32} {m c : Nat} (h : zCJ n ch f m) (hc : c < n) (h0 : zb (f 0) c = false) : zCJ n ch (knowP f c (ch c)) m := by
  obtain ⟨h1, h2, h3, h4, h5, h6⟩ := h
  obtain ⟨a1, a2, a3, a4, a5⟩ := knowP_at (f := f) (v := ch c) (show c < 16 by omega)
  refine ⟨h1, h2, by rw [a2]; exact h3, by rw [a1]; exact zlim_or h4 (zlim_bt h1 hc), ?_, ?_⟩
  · intro k hk hz
    by_cases e : k = c
    · subst e; exact a3
    · rw [a4 k (by omega) e]
      rw [a1, zb_or, zb_bt (by omega)] at hz
      exact h5 k hk (by simpa [e] using hz)
  · intro r hr
    obtain ⟨b1, b2⟩ := a5 r hr
    obtain ⟨g1, g2, g3, g4⟩ := h6 r hr
    rw [a1, b1, b2]
    cases hz : zb (f (21 + r)) c with
    | true =>
      simp only [if_true]
      refine ⟨zlim_xor g1 (zlim_bt h1 hc), ?_, ?_, fun h => ?_⟩
      · intro k hk
        rw [zb_xor, zb_bt (by omega)]
        rw [zb_or, zb_bt (by omega)] at hk
        by_cases e : k = c
        · subst e; simp [hz]
        · simp [e] at hk ⊢; exact g2 k hk
      · rw [xs_xor, xs_bt ch (by omega), g3]
      · rw [g4 h, zb_zero] at hz; cases hz
    | false =>
      simp only [Bool.false_eq_true, if_false]
      refine ⟨g1, ?_, g3, g4⟩
      intro k hk
      rw [zb_or, zb_bt (by omega)] at hk
      by_cases e : k = c
      · subst e; exact hz
      · simp [e] at hk; exact g2 k hk
/-- droplets with fewer than two chapters are taken away, the first one first -/
def peelS (f : Nat → Int32) (r : Nat) : Nat → Int32 := if f (21 + r) = 0 then takeP f r else knowP (takeP f r) (zlow (f (21 + r))) (f (45 + r))
def peelP : Nat → (Nat → Int32) → (Nat → Int32)
  | 0, f => f
  | k + 1, f => match zfind (zsmall f) (f 1).toNatClampNeg with
    | none => f
    | some r => peelP k (peelS f r)
theorem zCJ_peelS {n : Nat} {ch f : Nat → Int32} {m r : Nat} (h : zCJ n ch f m) (hr : zfind (zsmall f) m = some r) : zCJ n ch (peelS f r) (m - 1) ∧ (f (21 + r) ≠ 0 → f (21 + r) = bt (zlow (f (21 + r))) ∧ zlow (f (21 + r)) < n ∧ zb (f 0) (zlow (f (21 + r))) = false ∧ f (45 + r) = ch (zlow (f (21 + r)))) := by
  obtain ⟨h1, h2, h3, h4, h5, h6⟩ := id h
  obtain ⟨g1, g2, -⟩ := zfind_some hr
  have hsm : zcnt (zb (f (21 + r))) 16 < 2 := by simpa [zsmall] using g2
  obtain ⟨k1, k2, k3, -⟩ := h6 r (by omega)
  have key : f (21 + r) ≠ 0 → f (21 + r) = bt (zlow (f (21 + r))) ∧ zlow (f (21 + r)) < n ∧ zb (f 0) (zlow (f (21 + r))) = false ∧ f (45 + r) = ch (zlow (f (21 + r))) := by
    intro h0
    obtain ⟨e1, e2, e3⟩ := zone_of h1 k1 hsm h0
    refine ⟨e1, e2, ?_, ?_⟩
    · cases e4 : zb (f 0) (zlow (f (21 + r))) with
      | false => rfl
      | true => rw [k2 _ e4] at e3; cases e3
    · rw [k3]
      conv => lhs; rw [e1]
      exact xs_bt ch (by omega)
  refine ⟨?_, key⟩
  unfold peelS
  by_cases h0 : f (21 + r) = 0
  · rw [if_pos h0]; exact zCJ_take h g1
  · rw [if_neg h0]
    obtain ⟨e1, e2, e3, e4⟩ := key h0
    rw [e4]
    refine zCJ_know (zCJ_take h g1) e2 ?_
    have : takeP f r 0 = f 0 := by simp only [takeP, takeA]; grind
    rw [this]; exact e3
end
section
set_option maxRecDepth 100000 in
set_option maxHeartbeats 4000000 in
theorem lp_X0_peel (l : Launch) (D : zD) (B : Nat) {L : zL} {nx : Nat} {G : zG} {q n : Nat} {ch : Nat → Int32} (hq : (q, 3) ∈ L) : ∀ i : Nat, i ≤ 24 → ∀ (f : Nat → Int32) (m : Nat) (a b c : Option Value), zCJ n ch f m → peelP (24 - i) f = peelP 24 (G q) → zV l (fun _ => True) D B RX0 "peel" cX0_peel 5 none (zrm 2 41 0 0) (zN (zE none L nx (zst G q (peelP 24 (G q))))) 0 0 L nx 2 [some (.ref q), some (.int (nI i)), a, b, c] [] (zst G q f) := by
  refine zloop 24 (fun i hi ih f m a b c hJ hp => ?_)
  refine zv_iload_n dX0_peel_2 rfl ?_
  refine zv_bipush (v := 24) dX0_peel_3 (by decide) ?_
  refine zv_icmp_ge (tgt := 61) dX0_peel_5 (by decide) (fun c5 => ?_) (fun c5 => ?_)
  · have e : i = 24 := by have := zge_of (N := 24) (by decide) (by omega) rfl c5; omega
    subst e
    refine zv_vretE dX0_peel_61 rfl ?_
    rw [← hp]; rfl
  · have hlt : i < 24 := zlt_of (N := 24) (by decide) (by omega) rfl c5
    obtain ⟨j1, j2, j3, j4, j5, j6⟩ := id hJ
    refine zv_aload_n dX0_peel_8 rfl ?_
    refine zv_callV (m_X0_firstPeelable l D B hq j2 (by rw [zst_same]; exact j3) (fun r hr => by rw [zst_same]; exact zlim_zm j1 (j6 r (by omega)).1)) ml_X0_87 in_X0_firstPeelable sel_X0_firstPeelable hq rfl rfl rfl rfl (Nat.le_of_ble_eq_true rfl) dX0_peel_9 ⟨Nat.le_of_ble_eq_true rfl, Nat.le_of_ble_eq_true rfl⟩ ⟨Nat.le_refl _, Nat.le_refl _⟩ (zk_i ?_)
    rw [zst_same]
    rcases hz : zfind (zsmall f) m with _ | r
    · have hzf : zfs f = -6 := by unfold zfs; rw [j3, nI_clamp (by omega), hz]
      rw [hzf]
      refine zv_istore_n dX0_peel_12 (by decide) rfl ?_
      refine zv_iload_n dX0_peel_13 rfl ?_
      refine zv_iconst (v := 0) dX0_peel_14 (by decide) ?_
      refine zv_bipush (v := 23) dX0_peel_15 (by decide) ?_
      refine zv_callSN (m_X6_isWithin l D B _ 0 23) ml_X0_83 st_X6_isWithin rfl rfl (Nat.le_of_ble_eq_true rfl) dX0_peel_17 ⟨Nat.le_of_ble_eq_true rfl, Nat.le_of_ble_eq_true rfl⟩ ⟨Nat.le_refl _, Nat.le_refl _⟩ (zk_i ?_)
      refine zv_if_ne (tgt := 24) dX0_peel_20 (by decide) (fun h => absurd (by decide) h) (fun _ => ?_)
      refine zv_vretE dX0_peel_23 rfl ?_
      rw [← hp, show 24 - i = (23 - i) + 1 by omega]
      unfold peelP
      rw [j3, nI_clamp (by omega), hz]
    · have hzf : zfs f = nI r := by unfold zfs; rw [j3, nI_clamp (by omega), hz]
      rw [hzf]
      obtain ⟨hrm, -, -⟩ := zfind_some hz
      obtain ⟨hJ2, hkey⟩ := zCJ_peelS hJ hz
      have hstep : peelP (24 - i) f = peelP (24 - (i + 1)) (peelS f r) := by
        rw [show 24 - i = (24 - (i + 1)) + 1 by omega]
        conv => lhs; unfold peelP
        rw [j3, nI_clamp (by omega), hz]
      refine zv_istore_n dX0_peel_12 (by decide) rfl ?_
      refine zv_iload_n dX0_peel_13 rfl ?_
      refine zv_iconst (v := 0) dX0_peel_14 (by decide) ?_
      refine zv_bipush (v := 23) dX0_peel_15 (by decide) ?_
      refine zv_callSN (m_X6_isWithin l D B _ 0 23) ml_X0_83 st_X6_isWithin rfl rfl (Nat.le_of_ble_eq_true rfl) dX0_peel_17 ⟨Nat.le_of_ble_eq_true rfl, Nat.le_of_ble_eq_true rfl⟩ ⟨Nat.le_refl _, Nat.le_refl _⟩ (zk_i ?_)
      refine zv_if_ne (tgt := 24) dX0_peel_20 (by decide) (fun _ => ?_) (fun h => absurd h (by rw [show zin3 (nI r) 0 23 = true from (zin3_iff (m := 23) (by decide)).mpr ⟨r, by omega, rfl⟩]; decide))
      refine zv_aload_n dX0_peel_24 rfl ?_
      refine zv_getS (r := 2) hq rfl fl_X0_15 rfl dX0_peel_25 ?_
      refine zv_iload_n dX0_peel_28 rfl ?_
      refine zv_iald (i := 2) hq rfl (zix_nI (by omega) (by decide)) dX0_peel_29 ?_
      rw [zst_same]
      refine zv_istore_n dX0_peel_30 (by decide) rfl ?_
      refine zv_aload_n dX0_peel_31 rfl ?_
      refine zv_getS (r := 3) hq rfl fl_X0_18 rfl dX0_peel_32 ?_
      refine zv_iload_n dX0_peel_35 rfl ?_
      refine zv_iald (i := 3) hq rfl (zix_nI (by omega) (by decide)) dX0_peel_36 ?_
      rw [zst_same]
      refine zv_istore dX0_peel_37 (by decide) rfl ?_
      refine zv_aload_n dX0_peel_39 rfl ?_
      refine zv_iload_n dX0_peel_40 rfl ?_
      refine zv_callV (m_X0_removeKept l D B hq (show r < 24 by omega) rfl) ml_X0_90 in_X0_removeKept sel_X0_removeKept hq rfl rfl rfl rfl (Nat.le_of_ble_eq_true rfl) dX0_peel_41 ⟨Nat.le_of_ble_eq_true rfl, Nat.le_of_ble_eq_true rfl⟩ ⟨Nat.le_refl _, Nat.le_refl _⟩ (zk_v ?_)
      rw [zst_same, zst_zst]
      refine zv_iload_n dX0_peel_44 rfl ?_
      refine zv_if_eq (tgt := 55) dX0_peel_45 (by decide) (fun c45 => ?_) (fun c45 => ?_)
      · have hs0 : peelS f r = takeP f r := by unfold peelS; rw [if_pos c45]
        refine zv_iinc1 dX0_peel_55 rfl (by decide) rfl ?_
        refine zv_goto (tgt := 2) dX0_peel_58 (by decide) ?_
        rw [nI_1]
        refine zv_eqG ?_ (ih hlt (peelS f r) (m - 1) _ _ _ hJ2 (hstep.symm.trans hp))
        first
          | (rw [hs0]; done)
          | (rw [hs0]; simp only [zst_same, zst_zst])
      · have hs0 : peelS f r = knowP (takeP f r) (zlow (f (21 + r))) (f (45 + r)) := by unfold peelS; rw [if_neg c45]
        obtain ⟨e1, e2, e3, e4⟩ := hkey c45
        refine zv_aload_n dX0_peel_48 rfl ?_
        refine zv_iload_n dX0_peel_49 rfl ?_
        refine zv_iload dX0_peel_50 rfl ?_
        refine zv_callV (m_X0_learn l D B hq (show zlow (f (21 + r)) < 16 by omega) e1) ml_X0_64 in_X0_learn sel_X0_learn hq rfl rfl rfl rfl (Nat.le_of_ble_eq_true rfl) dX0_peel_52 ⟨Nat.le_of_ble_eq_true rfl, Nat.le_of_ble_eq_true rfl⟩ ⟨Nat.le_refl _, Nat.le_refl _⟩ (zk_v ?_)
        refine zv_iinc1 dX0_peel_55 rfl (by decide) rfl ?_
        refine zv_goto (tgt := 2) dX0_peel_58 (by decide) ?_
        rw [nI_1]
        refine zv_eqG ?_ (ih hlt (peelS f r) (m - 1) _ _ _ hJ2 (hstep.symm.trans hp))
        first
          | (rw [hs0]; done)
          | (rw [hs0]; simp only [zst_same, zst_zst])

set_option maxRecDepth 100000 in
set_option maxHeartbeats 4000000 in
theorem m_X0_peel (l : Launch) (D : zD) (B : Nat) {L : zL} {nx : Nat} {G : zG} {q n m : Nat} {ch : Nat → Int32} (hq : (q, 3) ∈ L) (hJ : zCJ n ch (G q) m) : zMet l D B yX0_peel cX0_peel 5 none 2 41 0 0 [.ref q] L nx G (zE none L nx (zst G q (peelP 24 (G q)))) := by
  refine zMet_of (own := RX0) (mn := "peel") [some (.ref q), none, none, none, none] (by decide +kernel) rfl rfl rfl (Nat.le_of_ble_eq_true rfl) ?_
  show zV l (fun _ => True) D B RX0 "peel" cX0_peel 5 none (zrm 2 41 0 0) (zN (zE none L nx (zst G q (peelP 24 (G q))))) 0 0 L nx 0 [some (.ref q), none, none, none, none] [] (G)
  refine zv_iconst (v := 0) dX0_peel_0 (by decide) ?_
  refine zv_istore_n dX0_peel_1 (by decide) rfl ?_
  exact zv_eqG (zst_self G q).symm (lp_X0_peel l D B (n := n) (ch := ch) hq 0 (by omega) (G q) m _ _ _ hJ rfl)
end
section
theorem zCJ_congr {n : Nat} {ch f g : Nat → Int32} {m : Nat} (h : zCJ n ch f m) (h0 : g 0 = f 0) (h1 : g 1 = f 1) (hv : ∀ j, 5 ≤ j → j < 69 → g j = f j) : zCJ n ch g m := by
  obtain ⟨a1, a2, a3, a4, a5, a6⟩ := h
  refine ⟨a1, a2, by rw [h1]; exact a3, by rw [h0]; exact a4, fun k hk hz => ?_, fun r hr => ?_⟩
  · rw [hv _ (by omega) (by omega)]
    rw [h0] at hz
    exact a5 k hk hz
  · rw [h0, hv _ (by omega) (by omega), hv _ (by omega) (by omega)]
    exact a6 r hr
/-- all that a cup keeps has two chapters and more -/
def zsz (f : Nat → Int32) (m : Nat) : Prop := ∀ r, r < m → 2 ≤ zcnt (zb (f (21 + r))) 16
def zCI (n : Nat) (ch f : Nat → Int32) : Prop := ∃ m, zCJ n ch f m ∧ zsz f m
theorem zCI_congr {n : Nat} {ch f g : Nat → Int32} (h : zCI n ch f) (h0 : g 0 = f 0) (h1 : g 1 = f 1) (hv : ∀ j, 5 ≤ j → j < 69 → g j = f j) : zCI n ch g := by
  obtain ⟨m, hJ, hs⟩ := h
  exact ⟨m, zCJ_congr hJ h0 h1 hv, fun r hr => by rw [hv _ (by omega) (by have := hJ.2.1; omega)]; exact hs r hr⟩
theorem zCI_peelP {n : Nat} {ch : Nat → Int32} : ∀ (k : Nat) (f : Nat → Int32) (m : Nat), m ≤ k → zCJ n ch f m → zCI n ch (peelP k f)
  | 0, f, m, hk, h => ⟨m, h, fun r hr => by omega⟩
  | k + 1, f, m, hk, h => by
    have hc : (f 1).toNatClampNeg = m := by rw [h.2.2.1, nI_clamp (by have := h.2.1; omega)]
    unfold peelP
    rw [hc]
    cases hz : zfind (zsmall f) m with
    | none =>
      refine ⟨m, h, fun r hr => ?_⟩
      have := zfind_none hz r hr
      simp only [zsmall, decide_eq_false_iff_not] at this
      show 2 ≤ zcnt (zb (f (21 + r))) 16
      omega
    | some r => exact zCI_peelP k (peelS f r) (m - 1) (by have := (zfind_some hz).1; omega) (zCJ_peelS h hz).1
def recvV (f d : Nat → Int32) : Int32 := d 3 ^^^ xs (fun k => f (5 + k)) (d 2 &&& f 0)
def recvS (f d : Nat → Int32) : Int32 := d 2 &&& (f 0 ^^^ (-1))
def recvP (f d : Nat → Int32) : Nat → Int32 :=
  if ¬ d 0 = 0 then upd (upd f 2 (f 2 + 1)) 3 (f 3 + 1)
  else if zcnt (zb (recvS f d)) 16 = 1 then peelP 24 (knowP (upd f 2 (f 2 + 1)) (zlow (recvS f d)) (recvV f d))
  else if zcnt (zb (recvS f d)) 16 = 0 ∨ f 1 = 24 then upd (upd f 2 (f 2 + 1)) 4 (f 4 + 1)
  else keepP (upd f 2 (f 2 + 1)) (f 1).toNatClampNeg (recvS f d) (recvV f d)
def recvR (f d : Nat → Int32) : Int32 := if ¬ d 0 = 0 then 0 else nI (zcnt (zb (recvP f d 0)) 16) - nI (zcnt (zb (f 0)) 16)
/-- a droplet that the book could make -/
def zDO (n : Nat) (ch d : Nat → Int32) : Prop := (d 0 = 0 ∨ d 0 = 1) ∧ zlim n (d 2) ∧ d 3 = xs ch (d 2)
theorem xsN_congr {ch c2 : Nat → Int32} {s : Int32} : ∀ {k : Nat}, (∀ j, j < k → zb s j = true → ch j = c2 j) → xsN ch s k = xsN c2 s k
  | 0, _ => rfl
  | k + 1, h => by
    simp only [xsN]
    rw [xsN_congr (k := k) (fun j hj => h j (by omega))]
    cases hz : zb s k with
    | false => simp
    | true => simp [h k (by omega) hz]
theorem recvS_b {f d : Nat → Int32} {k : Nat} (hk : k < 32) : zb (recvS f d) k = (zb (d 2) k && !zb (f 0) k) := by
  unfold recvS
  rw [zb_and, zb_not _ hk]
theorem recvS_lim {n : Nat} {ch f d : Nat → Int32} (hD : zDO n ch d) : zlim n (recvS f d) := fun k hk => by
  rcases Nat.lt_or_ge k 32 with h | h
  · rw [recvS_b h, hD.2.1 k hk]; rfl
  · exact zb_hi _ h
theorem recvV_eq {n : Nat} {ch f d : Nat → Int32} {m : Nat} (hJ : zCJ n ch f m) (hD : zDO n ch d) : recvV f d = xs ch (recvS f d) := by
  have e1 : xs (fun k => f (5 + k)) (d 2 &&& f 0) = xs ch (d 2 &&& f 0) := by
    refine xsN_congr (fun j hj hz => ?_)
    rw [zb_and] at hz
    simp at hz
    refine hJ.2.2.2.2.1 j ?_ hz.2
    rcases Nat.lt_or_ge j n with h | h
    · exact h
    · rw [hJ.2.2.2.1 j h] at hz; simp at hz
  unfold recvV
  rw [e1, hD.2.2, ← xs_xor]
  congr 1
  apply zb_ext
  intro k hk
  rw [zb_xor, zb_and, recvS_b hk]
  cases zb (d 2) k <;> cases zb (f 0) k <;> rfl
theorem recv_one {n : Nat} {ch f d : Nat → Int32} {m : Nat} (hJ : zCJ n ch f m) (hD : zDO n ch d) (h1 : zcnt (zb (recvS f d)) 16 = 1) :
    recvS f d = bt (zlow (recvS f d)) ∧ zlow (recvS f d) < n ∧ zb (f 0) (zlow (recvS f d)) = false ∧ recvV f d = ch (zlow (recvS f d)) := by
  have h0 : recvS f d ≠ 0 := by
    intro h
    rw [h] at h1
    have : zcnt (zb 0) 16 = 0 := by decide
    omega
  obtain ⟨e1, e2, e3⟩ := zone_of hJ.1 (recvS_lim (f := f) hD) (by omega) h0
  have hn := hJ.1
  refine ⟨e1, e2, ?_, ?_⟩
  · rw [recvS_b (by omega)] at e3
    simp at e3
    exact e3.2
  · rw [recvV_eq hJ hD]
    conv => lhs; rw [e1]
    exact xs_bt ch (by omega)
theorem zCI_keep {n : Nat} {ch f : Nat → Int32} {m : Nat} {s v : Int32} (hJ : zCJ n ch f m) (hs : zsz f m) (hm : m < 24) (h1 : zlim n s) (h2 : ∀ k, zb (f 0) k = true → zb s k = false) (h3 : v = xs ch s) (h4 : 2 ≤ zcnt (zb s) 16) : zCI n ch (keepP f m s v) := by
  obtain ⟨a1, a2, a3, a4, a5, a6⟩ := hJ
  refine ⟨m + 1, ⟨a1, by omega, ?_, ?_, ?_, ?_⟩, ?_⟩
  · simp [keepP, upd]
  · have : keepP f m s v 0 = f 0 := by simp only [keepP, upd]; grind
    rw [this]; exact a4
  · intro k hk hz
    have e0 : keepP f m s v 0 = f 0 := by simp only [keepP, upd]; grind
    have e1 : keepP f m s v (5 + k) = f (5 + k) := by simp only [keepP, upd]; grind
    rw [e1]; rw [e0] at hz
    exact a5 k hk hz
  · intro r hr
    have e0 : keepP f m s v 0 = f 0 := by simp only [keepP, upd]; grind
    rw [e0]
    by_cases e : r = m
    · subst e
      have e1 : keepP f r s v (21 + r) = s := by simp only [keepP, upd]; grind
      have e2 : keepP f r s v (45 + r) = v := by simp only [keepP, upd]; grind
      rw [e1, e2]
      exact ⟨h1, h2, h3, fun h => by omega⟩
    · have e1 : keepP f m s v (21 + r) = f (21 + r) := by simp only [keepP, upd]; grind
      have e2 : keepP f m s v (45 + r) = f (45 + r) := by simp only [keepP, upd]; grind
      rw [e1, e2]
      obtain ⟨g1, g2, g3, g4⟩ := a6 r hr
      exact ⟨g1, g2, g3, fun h => g4 (by omega)⟩
  · intro r hr
    by_cases e : r = m
    · subst e
      have e1 : keepP f r s v (21 + r) = s := by simp only [keepP, upd]; grind
      rw [e1]; exact h4
    · have e1 : keepP f m s v (21 + r) = f (21 + r) := by simp only [keepP, upd]; grind
      rw [e1]; exact hs r (by omega)
theorem zCI_recv {n : Nat} {ch f d : Nat → Int32} (h : zCI n ch f) (hD : zDO n ch d) : zCI n ch (recvP f d) := by
  obtain ⟨m, hJ, hs⟩ := id h
  have hJ1 : zCJ n ch (upd f 2 (f 2 + 1)) m := zCJ_congr hJ rfl rfl (fun j h1 h2 => by simp only [upd]; rw [if_neg (by omega)])
  have hs1 : zsz (upd f 2 (f 2 + 1)) m := fun r hr => by simp only [upd]; rw [if_neg (by omega)]; exact hs r hr
  unfold recvP
  by_cases h0 : d 0 = 0
  · rw [if_neg (by simp [h0])]
    by_cases h1 : zcnt (zb (recvS f d)) 16 = 1
    · rw [if_pos h1]
      obtain ⟨e1, e2, e3, e4⟩ := recv_one hJ hD h1
      rw [e4]
      exact zCI_peelP 24 _ m hJ.2.1 (zCJ_know hJ1 e2 e3)
    · rw [if_neg h1]
      by_cases h2 : zcnt (zb (recvS f d)) 16 = 0 ∨ f 1 = 24
      · rw [if_pos h2]
        exact zCI_congr ⟨m, hJ1, hs1⟩ rfl rfl (fun j g1 g2 => by simp only [upd]; rw [if_neg (by omega)])
      · rw [if_neg h2]
        have hm : m < 24 := by
          rcases Nat.lt_or_ge m 24 with g | g
          · exact g
          · exfalso
            apply h2
            right
            rw [hJ.2.2.1, show m = 24 by have := hJ.2.1; omega]
            rfl
        rw [hJ.2.2.1, nI_clamp (by omega)]
        refine zCI_keep hJ1 hs1 hm (recvS_lim hD) (fun k hk => ?_) (recvV_eq hJ hD) (by omega)
        rcases Nat.lt_or_ge k 32 with g | g
        · rw [recvS_b g]
          have : zb (f 0) k = true := hk
          rw [this]; simp
        · exact zb_hi _ g
  · rw [if_pos h0]
    exact zCI_congr h rfl rfl (fun j g1 g2 => by simp only [upd]; rw [if_neg (by omega), if_neg (by omega)])

section ZBC
variable {l : Launch} {D : zD} {B : Nat} {L : zL} {nx : Nat} {G : zG}
theorem zcnt_zm (x : Int32) : zcnt (zm x).testBit 16 = zcnt (zb x) 16 := zcnt_congr (fun k _ => (zb_zm _ _).symm)
theorem m_bitCount (l : Launch) (D : zD) (B : Nat) {L : zL} {nx : Nat} {G : zG} {x : Int32} (h : zm x < 65536) : zMet l D B yJ6_bitCount_0f7a4 cJ6_bitCount_0f7a4 1 (some .int) 0 0 0 0 [.int x] L nx G (zE (some (.int (nI (zcnt (zb x) 16)))) L nx G) := by
  rw [← zcnt_zm]
  exact m_J6_bitCount_0f7a4 l D B (zm x) h (nI_zm x).symm
theorem m_knownCount (l : Launch) (D : zD) (B : Nat) {L : zL} {nx : Nat} {G : zG} {q : Nat} (hq : (q, 3) ∈ L) (h : zm (G q 0) < 65536) : zMet l D B yX0_knownCount cX0_knownCount 1 (some .int) 1 20 0 0 [.ref q] L nx G (zE (some (.int (nI (zcnt (zb (G q 0)) 16)))) L nx G) := by
  rw [← zcnt_zm]
  exact m_X0_knownCount l D B hq (zm (G q 0)) h (nI_zm _).symm
end ZBC
end
section
theorem recv_test {a b : Int32} {k : Nat} (hk : k < 32) : (a &&& b) &&& (1 <<< (nI k &&& 31)) = 0 ↔ zb (a &&& b) k = false := zb_and_bt _ hk

set_option maxRecDepth 100000 in
set_option maxHeartbeats 4000000 in
theorem lp_X0_receive (l : Launch) (D : zD) (B : Nat) {L : zL} {nx : Nat} {G : zG} {q r : Nat} {cn s w : Int32} {post : zQ} (hq : (q, 3) ∈ L) (hr : (r, 4) ∈ L) (hk : ∀ v, v = w ^^^ xsN (fun k => G q (5 + k)) (G r 2 &&& G q 0) 16 → zV l (fun _ => True) D B RX0 "receive" cX0_receive 6 (some .int) (zrm 3 65 0 0) (zN post) 0 0 L nx 97 [some (.ref q), some (.ref r), some (.int cn), some (.int s), some (.int v), some (.int 16)] [] (G)) : ∀ i : Nat, i ≤ 16 → zV l (fun _ => True) D B RX0 "receive" cX0_receive 6 (some .int) (zrm 3 65 0 0) (zN (post)) 0 0 L nx 55 [some (.ref q), some (.ref r), some (.int cn), some (.int s), some (.int (w ^^^ xsN (fun k => G q (5 + k)) (G r 2 &&& G q 0) i)), some (.int (nI i))] [] (G) := by
  refine zloop 16 (fun i hi ih => ?_)
  refine zv_iload dX0_receive_55 rfl ?_
  refine zv_bipush (v := 16) dX0_receive_57 (by decide) ?_
  refine zv_icmp_ge (tgt := 97) dX0_receive_59 (by decide) (fun c59 => ?_) (fun c59 => ?_)
  · have e : i = 16 := by have := zge_of (N := 16) (by decide) (by omega) rfl c59; omega
    subst e
    exact hk _ rfl
  · have hlt : i < 16 := zlt_of (N := 16) (by decide) (by omega) rfl c59
    refine zv_aload_n dX0_receive_62 rfl ?_
    refine zv_getI hr rfl fl_X0_58 rfl dX0_receive_63 ?_
    refine zv_aload_n dX0_receive_66 rfl ?_
    refine zv_getI hq rfl fl_X0_21 rfl dX0_receive_67 ?_
    refine zv_iand dX0_receive_70 ?_
    refine zv_iconst (v := 1) dX0_receive_71 (by decide) ?_
    refine zv_iload dX0_receive_72 rfl ?_
    refine zv_ishl dX0_receive_74 ?_
    refine zv_iand dX0_receive_75 ?_
    refine zv_if_eq (tgt := 91) dX0_receive_76 (by decide) (fun c76 => ?_) (fun c76 => ?_)
    · have hz := (recv_test (by omega)).mp c76
      have hv : xsN (fun k => G q (5 + k)) (G r 2 &&& G q 0) (i + 1) = xsN (fun k => G q (5 + k)) (G r 2 &&& G q 0) i := by
        simp only [xsN]
        rw [hz]
        simp
      refine zv_iinc1 dX0_receive_91 rfl (by decide) rfl ?_
      refine zv_goto (tgt := 55) dX0_receive_94 (by decide) ?_
      rw [nI_1]
      have ih1 := ih hlt
      rw [hv] at ih1
      first
        | exact ih1
        | (rw [i32_xor_assoc]; exact ih1)
    · have hz : zb (G r 2 &&& G q 0) i = true := by
        cases h : zb (G r 2 &&& G q 0) i with
        | true => rfl
        | false => exact absurd ((recv_test (by omega)).mpr h) c76
      have hv : xsN (fun k => G q (5 + k)) (G r 2 &&& G q 0) (i + 1) = xsN (fun k => G q (5 + k)) (G r 2 &&& G q 0) i ^^^ G q (5 + i) := by
        simp only [xsN]
        rw [hz]
        simp
      refine zv_iload dX0_receive_79 rfl ?_
      refine zv_aload_n dX0_receive_81 rfl ?_
      refine zv_getS (r := 1) hq rfl fl_X0_9 rfl dX0_receive_82 ?_
      refine zv_iload dX0_receive_85 rfl ?_
      refine zv_iald (i := 1) hq rfl (zix_nI (by omega) (by decide)) dX0_receive_87 ?_
      refine zv_ixor dX0_receive_88 ?_
      refine zv_istore dX0_receive_89 (by decide) rfl ?_
      refine zv_iinc1 dX0_receive_91 rfl (by decide) rfl ?_
      refine zv_goto (tgt := 55) dX0_receive_94 (by decide) ?_
      rw [nI_1]
      have ih1 := ih hlt
      rw [hv] at ih1
      first
        | exact ih1
        | (rw [i32_xor_assoc]; exact ih1)

set_option maxRecDepth 100000 in
set_option maxHeartbeats 4000000 in
theorem tl_X0_receive (l : Launch) (D : zD) (B : Nat) {L : zL} {nx : Nat} {G : zG} {q r n m : Nat} {ch : Nat → Int32} (hq : (q, 3) ∈ L) (hr : (r, 4) ∈ L) (hrq : r ≠ q) (hJ : zCJ n ch (G q) m) (hs : zsz (G q) m) (hD : zDO n ch (G r)) (hl : G r 0 = 0) : zV l (fun _ => True) D B RX0 "receive" cX0_receive 6 (some .int) (zrm 3 65 0 0) (zN (zE (some (.int (recvR (G q) (G r)))) L nx (zst G q (recvP (G q) (G r))))) 0 0 L nx 97 [some (.ref q), some (.ref r), some (.int (nI (zcnt (zb (G q 0)) 16))), some (.int (recvS (G q) (G r))), some (.int (recvV (G q) (G r))), some (.int 16)] [] (zst G q (upd (G q) 2 (G q 2 + 1))) := by
  obtain ⟨m', hJ2, hs2⟩ := zCI_recv ⟨m, hJ, hs⟩ hD
  have hz0 : zm (G q 0) < 65536 := zlim_zm hJ.1 hJ.2.2.2.1
  have hz2 : zm (recvP (G q) (G r) 0) < 65536 := zlim_zm hJ2.1 hJ2.2.2.2.1
  have g0 : (upd (G q) 2 (G q 2 + 1)) 0 = G q 0 := rfl
  have hJ1 : zCJ n ch (upd (G q) 2 (G q 2 + 1)) m := zCJ_congr hJ rfl rfl (fun j h1 h2 => by simp only [upd]; rw [if_neg (by omega)])
  have hzs : zm (recvS (G q) (G r)) < 65536 := zlim_zm hJ.1 (recvS_lim hD)
  have hcl := zcnt_le (zb (recvS (G q) (G r))) 16
  refine zv_iload_n dX0_receive_97 rfl ?_
  refine zv_callS (m_bitCount l D B hzs) ml_X0_43 st_J6_bitCount_0f7a4 rfl rfl (Nat.le_of_ble_eq_true rfl) dX0_receive_98 ⟨Nat.le_of_ble_eq_true rfl, Nat.le_of_ble_eq_true rfl⟩ ⟨Nat.le_refl _, Nat.le_refl _⟩ (zk_i ?_)
  refine zv_istore dX0_receive_101 (by decide) rfl ?_
  refine zv_iload dX0_receive_103 rfl ?_
  refine zv_iconst (v := 1) dX0_receive_105 (by decide) ?_
  refine zv_icmp_ne (tgt := 123) dX0_receive_106 (by decide) (fun c106 => ?_) (fun c106 => ?_)
  · have h1 : ¬ zcnt (zb (recvS (G q) (G r))) 16 = 1 := fun e => c106 (by rw [e]; rfl)
    refine zv_iload dX0_receive_123 rfl ?_
    refine zv_if_eq (tgt := 138) dX0_receive_125 (by decide) (fun c125 => ?_) (fun c125 => ?_)
    · have h2 : zcnt (zb (recvS (G q) (G r))) 16 = 0 := (nI_eq (by omega) (by decide)).mp c125
      have hR : recvP (G q) (G r) = upd (upd (G q) 2 (G q 2 + 1)) 4 (G q 4 + 1) := by
        unfold recvP
        rw [if_neg (by simp [hl]), if_neg h1, if_pos (Or.inl h2)]
      refine zv_aload_n dX0_receive_138 rfl ?_
      refine zv_dup dX0_receive_139 rfl ?_
      refine zv_getI hq rfl fl_X0_34 rfl dX0_receive_140 ?_
      refine zv_iconst (v := 1) dX0_receive_143 (by decide) ?_
      refine zv_iadd dX0_receive_144 ?_
      refine zv_putI (t := 3) hq rfl fl_X0_34 ft_X0_4 rfl dX0_receive_145 ?_
      try simp only [zst_same, zst_zst]
      try rw [show upd (upd (G q) 2 (G q 2 + 1)) 4 (upd (G q) 2 (G q 2 + 1) 4 + 1) = recvP (G q) (G r) from hR.symm]
      refine zv_aload_n dX0_receive_148 rfl ?_
      refine zv_callV (m_knownCount l D B hq (by rw [zst_same]; exact hz2)) ml_X0_54 in_X0_knownCount sel_X0_knownCount hq rfl rfl rfl rfl (Nat.le_of_ble_eq_true rfl) dX0_receive_149 ⟨Nat.le_of_ble_eq_true rfl, Nat.le_of_ble_eq_true rfl⟩ ⟨Nat.le_refl _, Nat.le_refl _⟩ (zk_i ?_)
      rw [zst_same]
      refine zv_iload_n dX0_receive_152 rfl ?_
      refine zv_isub dX0_receive_153 ?_
      refine zv_iretE dX0_receive_154 rfl (rfl) ?_ ?_
      · unfold recvR; rw [if_neg (by simp [hl])]
      · rfl
    · have h2 : ¬ zcnt (zb (recvS (G q) (G r))) 16 = 0 := fun e => c125 (by rw [e]; rfl)
      refine zv_aload_n dX0_receive_128 rfl ?_
      refine zv_iload_n dX0_receive_129 rfl ?_
      refine zv_iload dX0_receive_130 rfl ?_
      rcases Nat.lt_or_ge m 24 with hm | hm
      · have hne : ¬ G q 1 = 24 := fun e => by
          rw [hJ.2.2.1] at e
          have := (nI_eq (by omega) (by decide)).mp (show nI m = nI 24 from e)
          omega
        have hR : recvP (G q) (G r) = keepP (upd (G q) 2 (G q 2 + 1)) m (recvS (G q) (G r)) (recvV (G q) (G r)) := by
          unfold recvP
          rw [if_neg (by simp [hl]), if_neg h1, if_neg (fun h => h.elim h2 hne), hJ.2.2.1, nI_clamp (by omega)]
        refine zv_callV (m_X0_keepIfRoom l D B hq hm (by rw [zst_same]; exact hJ.2.2.1)) ml_X0_71 in_X0_keepIfRoom sel_X0_keepIfRoom hq rfl rfl rfl rfl (Nat.le_of_ble_eq_true rfl) dX0_receive_132 ⟨Nat.le_of_ble_eq_true rfl, Nat.le_of_ble_eq_true rfl⟩ ⟨Nat.le_refl _, Nat.le_refl _⟩ (zk_i ?_)
        rw [zst_same, zst_zst, ← hR]
        refine zv_if_ne (tgt := 148) dX0_receive_135 (by decide) (fun _ => ?_) (fun h => absurd h (by decide))
        try simp only [zst_same, zst_zst]
        try rw [show upd (upd (G q) 2 (G q 2 + 1)) 4 (upd (G q) 2 (G q 2 + 1) 4 + 1) = recvP (G q) (G r) from hR.symm]
        refine zv_aload_n dX0_receive_148 rfl ?_
        refine zv_callV (m_knownCount l D B hq (by rw [zst_same]; exact hz2)) ml_X0_54 in_X0_knownCount sel_X0_knownCount hq rfl rfl rfl rfl (Nat.le_of_ble_eq_true rfl) dX0_receive_149 ⟨Nat.le_of_ble_eq_true rfl, Nat.le_of_ble_eq_true rfl⟩ ⟨Nat.le_refl _, Nat.le_refl _⟩ (zk_i ?_)
        rw [zst_same]
        refine zv_iload_n dX0_receive_152 rfl ?_
        refine zv_isub dX0_receive_153 ?_
        refine zv_iretE dX0_receive_154 rfl (rfl) ?_ ?_
        · unfold recvR; rw [if_neg (by simp [hl])]
        · rfl
      · have hm24 : m = 24 := by have := hJ.2.1; omega
        have hR : recvP (G q) (G r) = upd (upd (G q) 2 (G q 2 + 1)) 4 (G q 4 + 1) := by
          unfold recvP
          rw [if_neg (by simp [hl]), if_neg h1, if_pos (Or.inr (by rw [hJ.2.2.1, hm24]; rfl))]
        refine zv_callV (m_X0_keepIfRoom_no l D B hq (by rw [zst_same, ← hm24]; exact hJ.2.2.1)) ml_X0_71 in_X0_keepIfRoom sel_X0_keepIfRoom hq rfl rfl rfl rfl (Nat.le_of_ble_eq_true rfl) dX0_receive_132 ⟨Nat.le_of_ble_eq_true rfl, Nat.le_of_ble_eq_true rfl⟩ ⟨Nat.le_refl _, Nat.le_refl _⟩ (zk_i ?_)
        refine zv_if_ne (tgt := 148) dX0_receive_135 (by decide) (fun h => absurd (rfl) h) (fun _ => ?_)
        refine zv_aload_n dX0_receive_138 rfl ?_
        refine zv_dup dX0_receive_139 rfl ?_
        refine zv_getI hq rfl fl_X0_34 rfl dX0_receive_140 ?_
        refine zv_iconst (v := 1) dX0_receive_143 (by decide) ?_
        refine zv_iadd dX0_receive_144 ?_
        refine zv_putI (t := 3) hq rfl fl_X0_34 ft_X0_4 rfl dX0_receive_145 ?_
        try simp only [zst_same, zst_zst]
        try rw [show upd (upd (G q) 2 (G q 2 + 1)) 4 (upd (G q) 2 (G q 2 + 1) 4 + 1) = recvP (G q) (G r) from hR.symm]
        refine zv_aload_n dX0_receive_148 rfl ?_
        refine zv_callV (m_knownCount l D B hq (by rw [zst_same]; exact hz2)) ml_X0_54 in_X0_knownCount sel_X0_knownCount hq rfl rfl rfl rfl (Nat.le_of_ble_eq_true rfl) dX0_receive_149 ⟨Nat.le_of_ble_eq_true rfl, Nat.le_of_ble_eq_true rfl⟩ ⟨Nat.le_refl _, Nat.le_refl _⟩ (zk_i ?_)
        rw [zst_same]
        refine zv_iload_n dX0_receive_152 rfl ?_
        refine zv_isub dX0_receive_153 ?_
        refine zv_iretE dX0_receive_154 rfl (rfl) ?_ ?_
        · unfold recvR; rw [if_neg (by simp [hl])]
        · rfl
  · have h1 : zcnt (zb (recvS (G q) (G r))) 16 = 1 := (nI_eq (by omega) (by decide)).mp c106
    obtain ⟨e1, e2, e3, e4⟩ := recv_one hJ hD h1
    have hR : recvP (G q) (G r) = peelP 24 (knowP (upd (G q) 2 (G q 2 + 1)) (zlow (recvS (G q) (G r))) (recvV (G q) (G r))) := by
      unfold recvP
      rw [if_neg (by simp [hl]), if_pos h1]
    refine zv_aload_n dX0_receive_109 rfl ?_
    refine zv_iload_n dX0_receive_110 rfl ?_
    refine zv_iload dX0_receive_111 rfl ?_
    refine zv_callV (m_X0_learn l D B hq (show zlow (recvS (G q) (G r)) < 16 by have := hJ.1; omega) e1) ml_X0_64 in_X0_learn sel_X0_learn hq rfl rfl rfl rfl (Nat.le_of_ble_eq_true rfl) dX0_receive_113 ⟨Nat.le_of_ble_eq_true rfl, Nat.le_of_ble_eq_true rfl⟩ ⟨Nat.le_refl _, Nat.le_refl _⟩ (zk_v ?_)
    rw [zst_same, zst_zst]
    refine zv_aload_n dX0_receive_116 rfl ?_
    refine zv_callV (m_X0_peel l D B (n := n) (ch := ch) (m := m) hq (by rw [zst_same, e4]; exact zCJ_know hJ1 e2 e3)) ml_X0_68 in_X0_peel sel_X0_peel hq rfl rfl rfl rfl (Nat.le_of_ble_eq_true rfl) dX0_receive_117 ⟨Nat.le_of_ble_eq_true rfl, Nat.le_of_ble_eq_true rfl⟩ ⟨Nat.le_refl _, Nat.le_refl _⟩ (zk_v ?_)
    rw [zst_same, zst_zst, ← hR]
    refine zv_goto (tgt := 148) dX0_receive_120 (by decide) ?_
    try simp only [zst_same, zst_zst]
    try rw [show upd (upd (G q) 2 (G q 2 + 1)) 4 (upd (G q) 2 (G q 2 + 1) 4 + 1) = recvP (G q) (G r) from hR.symm]
    refine zv_aload_n dX0_receive_148 rfl ?_
    refine zv_callV (m_knownCount l D B hq (by rw [zst_same]; exact hz2)) ml_X0_54 in_X0_knownCount sel_X0_knownCount hq rfl rfl rfl rfl (Nat.le_of_ble_eq_true rfl) dX0_receive_149 ⟨Nat.le_of_ble_eq_true rfl, Nat.le_of_ble_eq_true rfl⟩ ⟨Nat.le_refl _, Nat.le_refl _⟩ (zk_i ?_)
    rw [zst_same]
    refine zv_iload_n dX0_receive_152 rfl ?_
    refine zv_isub dX0_receive_153 ?_
    refine zv_iretE dX0_receive_154 rfl (rfl) ?_ ?_
    · unfold recvR; rw [if_neg (by simp [hl])]
    · rfl

set_option maxRecDepth 100000 in
set_option maxHeartbeats 4000000 in
theorem m_X0_receive (l : Launch) (D : zD) (B : Nat) {L : zL} {nx : Nat} {G : zG} {q r n m : Nat} {ch : Nat → Int32} (hq : (q, 3) ∈ L) (hr : (r, 4) ∈ L) (hrq : r ≠ q) (hJ : zCJ n ch (G q) m) (hs : zsz (G q) m) (hD : zDO n ch (G r)) : zMet l D B yX0_receive cX0_receive 6 (some .int) 3 65 0 0 [.ref q, .ref r] L nx G (zE (some (.int (recvR (G q) (G r)))) L nx (zst G q (recvP (G q) (G r)))) := by
  refine zMet_of (own := RX0) (mn := "receive") [some (.ref q), some (.ref r), none, none, none, none] (by decide +kernel) rfl rfl rfl (Nat.le_of_ble_eq_true rfl) ?_
  show zV l (fun _ => True) D B RX0 "receive" cX0_receive 6 (some .int) (zrm 3 65 0 0) (zN (zE (some (.int (recvR (G q) (G r)))) L nx (zst G q (recvP (G q) (G r))))) 0 0 L nx 0 [some (.ref q), some (.ref r), none, none, none, none] [] (G)
  obtain ⟨m', hJ2, hs2⟩ := zCI_recv ⟨m, hJ, hs⟩ hD
  have hz0 : zm (G q 0) < 65536 := zlim_zm hJ.1 hJ.2.2.2.1
  have hz2 : zm (recvP (G q) (G r) 0) < 65536 := zlim_zm hJ2.1 hJ2.2.2.2.1
  have g0 : (upd (G q) 2 (G q 2 + 1)) 0 = G q 0 := rfl
  have hJ1 : zCJ n ch (upd (G q) 2 (G q 2 + 1)) m := zCJ_congr hJ rfl rfl (fun j h1 h2 => by simp only [upd]; rw [if_neg (by omega)])
  have hzs : zm (recvS (G q) (G r)) < 65536 := zlim_zm hJ.1 (recvS_lim hD)
  have hcl := zcnt_le (zb (recvS (G q) (G r))) 16
  refine zv_aload_n dX0_receive_0 rfl ?_
  refine zv_dup dX0_receive_1 rfl ?_
  refine zv_getI hq rfl fl_X0_28 rfl dX0_receive_2 ?_
  refine zv_iconst (v := 1) dX0_receive_5 (by decide) ?_
  refine zv_iadd dX0_receive_6 ?_
  refine zv_putI (t := 3) hq rfl fl_X0_28 ft_X0_2 rfl dX0_receive_7 ?_
  refine zv_aload_n dX0_receive_10 rfl ?_
  skip
  refine zv_getI hr rfl fl_X0_49 rfl dX0_receive_11 ?_
  rw [zst_ne _ _ hrq]
  refine zv_if_eq (tgt := 29) dX0_receive_14 (by decide) (fun c14 => ?_) (fun c14 => ?_)
  · have hl0 : ¬ ¬ G r 0 = 0 := by simp [c14]
    refine zv_aload_n dX0_receive_29 rfl ?_
    refine zv_callV (m_knownCount l D B hq (by rw [zst_same]; exact hz0)) ml_X0_54 in_X0_knownCount sel_X0_knownCount hq rfl rfl rfl rfl (Nat.le_of_ble_eq_true rfl) dX0_receive_30 ⟨Nat.le_of_ble_eq_true rfl, Nat.le_of_ble_eq_true rfl⟩ ⟨Nat.le_refl _, Nat.le_refl _⟩ (zk_i ?_)
    rw [zst_same, g0]
    refine zv_istore_n dX0_receive_33 (by decide) rfl ?_
    refine zv_aload_n dX0_receive_34 rfl ?_
    refine zv_getI hr rfl fl_X0_58 rfl dX0_receive_35 ?_
    rw [zst_ne _ _ hrq]
    refine zv_aload_n dX0_receive_38 rfl ?_
    refine zv_getI hq rfl fl_X0_21 rfl dX0_receive_39 ?_
    rw [zst_same, g0]
    refine zv_iconst (v := (-1)) dX0_receive_42 (by decide) ?_
    refine zv_ixor dX0_receive_43 ?_
    refine zv_iand dX0_receive_44 ?_
    refine zv_istore_n dX0_receive_45 (by decide) rfl ?_
    refine zv_aload_n dX0_receive_46 rfl ?_
    refine zv_getI hr rfl fl_X0_61 rfl dX0_receive_47 ?_
    rw [zst_ne _ _ hrq]
    refine zv_istore dX0_receive_50 (by decide) rfl ?_
    refine zv_iconst (v := 0) dX0_receive_52 (by decide) ?_
    refine zv_istore dX0_receive_53 (by decide) rfl ?_
    refine zv_lv ?_ (lp_X0_receive l D B (w := G r 3) (s := recvS (G q) (G r)) (cn := nI (zcnt (zb (G q 0)) 16)) hq hr (fun v hv => ?_) 0 (by omega))
    · simp only [xsN, i32_xor_zero]
      rfl
    · have hv2 : v = recvV (G q) (G r) := by
        rw [hv, zst_same, zst_ne _ _ hrq]
        rfl
      rw [hv2]
      exact tl_X0_receive l D B hq hr hrq hJ hs hD (by simpa using hl0)
  · have hR : recvP (G q) (G r) = upd (upd (G q) 2 (G q 2 + 1)) 3 (G q 3 + 1) := by unfold recvP; rw [if_pos c14]
    have hV : recvR (G q) (G r) = 0 := by unfold recvR; rw [if_pos c14]
    refine zv_aload_n dX0_receive_17 rfl ?_
    refine zv_dup dX0_receive_18 rfl ?_
    refine zv_getI hq rfl fl_X0_31 rfl dX0_receive_19 ?_
    refine zv_iconst (v := 1) dX0_receive_22 (by decide) ?_
    refine zv_iadd dX0_receive_23 ?_
    refine zv_putI (t := 3) hq rfl fl_X0_31 ft_X0_3 rfl dX0_receive_24 ?_
    refine zv_iconst (v := 0) dX0_receive_27 (by decide) ?_
    refine zv_iretE dX0_receive_28 rfl (rfl) ?_ ?_
    · exact hV.symm
    · rw [hR]; simp only [zst_same, zst_zst]; rfl
end
section
def clearA (f : Nat → Int32) (i1 i2 : Nat) : Nat → Int32 := fun j => if j < 5 + i1 ∨ (21 ≤ j ∧ j < 21 + i2) ∨ (45 ≤ j ∧ j < 45 + i2) then 0 else f j
theorem clearA_0 {f : Nat → Int32} : upd (upd (upd (upd (upd f 0 0) 1 0) 2 0) 3 0) 4 0 = clearA f 0 0 := by
  funext j; simp only [upd, clearA]; grind
theorem clearA_1 {f : Nat → Int32} {i : Nat} (h : i < 16) : upd (clearA f i 0) (5 + i) 0 = clearA f (i + 1) 0 := by
  funext j; simp only [upd, clearA]; grind
theorem clearA_2 {f : Nat → Int32} {i : Nat} (h : i < 24) : upd (upd (clearA f 16 i) (21 + i) 0) (45 + i) 0 = clearA f 16 (i + 1) := by
  funext j; simp only [upd, clearA]; grind
def clearP (f : Nat → Int32) : Nat → Int32 := clearA f 16 24
def cpP (f g : Nat → Int32) : Nat → Int32 := fun j => if j < 69 then g j else f j
theorem cpP_e {f g : Nat → Int32} : zcp 45 24 g 45 (zcp 21 24 g 21 (zcp 5 16 g 5 (upd (upd (upd (upd (upd f 0 (g 0)) 1 (g 1)) 2 (g 2)) 3 (g 3)) 4 (g 4)))) = cpP f g := by
  funext j; simp only [upd, cpP, zcp]; grind
/-- rows: sets at 0, numbers at 24; one row leads, those ahead of i have taken it -/
def redI (f : Nat → Int32) (a : Nat) (own : Int32) (i : Nat) : Nat → Int32 := fun j =>
  if j < i then (if j ≠ a ∧ ¬ f j &&& own = 0 then f j ^^^ f a else f j)
  else if 24 ≤ j ∧ j < 24 + i then (if j ≠ 24 + a ∧ ¬ f (j - 24) &&& own = 0 then f j ^^^ f (24 + a) else f j) else f j
def red1 (f : Nat → Int32) (a : Nat) : Nat → Int32 := redI f a (f a &&& -f a) 24
def redN (f : Nat → Int32) : Nat → Nat → Int32
  | 0 => f
  | k + 1 => red1 (redN f k) k
theorem redI_0 {f : Nat → Int32} {a : Nat} {own : Int32} : redI f a own 0 = f := by
  funext j; simp only [redI]; grind
theorem redI_at {f : Nat → Int32} {a : Nat} {own : Int32} {i : Nat} (ha : a < 24) (hi : i < 24) : redI f a own i a = f a ∧ redI f a own i (24 + a) = f (24 + a) ∧ redI f a own i i = f i ∧ redI f a own i (24 + i) = f (24 + i) := by
  simp only [redI]; grind
theorem redI_s1 {f : Nat → Int32} {a i : Nat} {own : Int32} (hi : i < 24) (h : i = a ∨ f i &&& own = 0) : redI f a own i = redI f a own (i + 1) := by
  funext j; simp only [redI]
  rcases h with h | h <;> grind
theorem redI_s2 {f : Nat → Int32} {a i : Nat} {own : Int32} (ha : a < 24) (hi : i < 24) (h1 : i ≠ a) (h : ¬ f i &&& own = 0) : upd (upd (redI f a own i) i (f i ^^^ f a)) (24 + i) (f (24 + i) ^^^ f (24 + a)) = redI f a own (i + 1) := by
  funext j; simp only [redI, upd]; grind
def isSg (s : Int32) : Bool := decide (zcnt (zb s) 16 = 1)
def lsP (f g : Nat → Int32) : Nat → Nat → Int32
  | 0 => f
  | i + 1 => if isSg (g i) then knowP (lsP f g i) (zlow (g i)) (g (24 + i)) else lsP f g i
/-- rows whose single places can all be learnt -/
def zRW (n : Nat) (ch f g : Nat → Int32) : Prop := (∀ i, i < 24 → zlim n (g i) ∧ (∀ k, zb (f 0) k = true → zb (g i) k = false) ∧ g (24 + i) = xs ch (g i)) ∧
  ∀ i j, i < j → j < 24 → isSg (g i) = true → isSg (g j) = true → g i ≠ g j
theorem sg_one {n : Nat} {s : Int32} (hn : n ≤ 16) (h : zlim n s) (hs : isSg s = true) : s = bt (zlow s) ∧ zlow s < n ∧ zb s (zlow s) = true := by
  have h1 : zcnt (zb s) 16 = 1 := by simpa [isSg] using hs
  refine zone_of hn h (by omega) (fun e => ?_)
  rw [e] at h1
  have : zcnt (zb 0) 16 = 0 := by decide
  omega
theorem lsP_J {n : Nat} {ch f g : Nat → Int32} {m : Nat} (hJ : zCJ n ch f m) (hR : zRW n ch f g) : ∀ i, i ≤ 24 → zCJ n ch (lsP f g i) m ∧ (∀ k, zb (lsP f g i 0) k = true → zb (f 0) k = true ∨ ∃ j, j < i ∧ isSg (g j) = true ∧ g j = bt k ∧ k < n)
  | 0, _ => ⟨hJ, fun k h => Or.inl h⟩
  | i + 1, hi => by
    obtain ⟨h1, h2⟩ := lsP_J hJ hR i (by omega)
    unfold lsP
    cases hs : isSg (g i) with
    | false =>
      simp only [Bool.false_eq_true, if_false]
      refine ⟨h1, fun k hk => ?_⟩
      rcases h2 k hk with h | ⟨j, a, b⟩
      · exact Or.inl h
      · exact Or.inr ⟨j, by omega, b⟩
    | true =>
      simp only [if_true]
      obtain ⟨g1, g2, g3⟩ := hR.1 i (by omega)
      obtain ⟨e1, e2, e3⟩ := sg_one hJ.1 g1 hs
      have hn := hJ.1
      have hv : g (24 + i) = ch (zlow (g i)) := by
        rw [g3]
        conv => lhs; rw [e1]
        exact xs_bt ch (by omega)
      have hno : zb (lsP f g i 0) (zlow (g i)) = false := by
        cases hz : zb (lsP f g i 0) (zlow (g i)) with
        | false => rfl
        | true =>
          rcases h2 _ hz with h | ⟨j, a, b, c, _⟩
          · rw [g2 _ h] at e3; cases e3
          · exact absurd (c.trans e1.symm) (hR.2 j i a (by omega) b hs)
      rw [hv]
      refine ⟨zCJ_know h1 e2 hno, fun k hk => ?_⟩
      rw [(knowP_at (f := lsP f g i) (v := ch (zlow (g i))) (show zlow (g i) < 16 by omega)).1, zb_or, zb_bt (by omega)] at hk
      by_cases e : k = zlow (g i)
      · subst e
        exact Or.inr ⟨i, by omega, hs, e1, e2⟩
      · simp [e] at hk
        rcases h2 k hk with h | ⟨j, a, b⟩
        · exact Or.inl h
        · exact Or.inr ⟨j, by omega, b⟩
end
section
set_option maxRecDepth 100000 in
set_option maxHeartbeats 4000000 in
theorem lp2_X0_clear (l : Launch) (D : zD) (B : Nat) {L : zL} {nx : Nat} {G : zG} {q : Nat} (hq : (q, 3) ∈ L) : ∀ i : Nat, i ≤ 24 → zV l (fun _ => True) D B RX0 "clear" cX0_clear 2 none (zrm 0 0 0 0) (zN (zE none L nx (zst G q (clearP (G q))))) 0 0 L nx 48 [some (.ref q), some (.int (nI i))] [] (zst G q (clearA (G q) 16 i)) := by
  refine zloop 24 (fun i hi ih => ?_)
  refine zv_iload_n dX0_clear_48 rfl ?_
  refine zv_bipush (v := 24) dX0_clear_49 (by decide) ?_
  refine zv_icmp_ge (tgt := 74) dX0_clear_51 (by decide) (fun c51 => ?_) (fun c51 => ?_)
  · have e : i = 24 := by have := zge_of (N := 24) (by decide) (by omega) rfl c51; omega
    subst e
    refine zv_vretE dX0_clear_74 rfl ?_
    rfl
  · have hlt : i < 24 := zlt_of (N := 24) (by decide) (by omega) rfl c51
    refine zv_aload_n dX0_clear_54 rfl ?_
    refine zv_getS (r := 2) hq rfl fl_X0_15 rfl dX0_clear_55 ?_
    refine zv_iload_n dX0_clear_58 rfl ?_
    refine zv_iconst (v := 0) dX0_clear_59 (by decide) ?_
    refine zv_iast (i := 2) hq rfl (zix_nI (by omega) (by decide)) dX0_clear_60 ?_
    refine zv_aload_n dX0_clear_61 rfl ?_
    refine zv_getS (r := 3) hq rfl fl_X0_18 rfl dX0_clear_62 ?_
    refine zv_iload_n dX0_clear_65 rfl ?_
    refine zv_iconst (v := 0) dX0_clear_66 (by decide) ?_
    refine zv_iast (i := 3) hq rfl (zix_nI (by omega) (by decide)) dX0_clear_67 ?_
    refine zv_iinc1 dX0_clear_68 rfl (by decide) rfl ?_
    refine zv_goto (tgt := 48) dX0_clear_71 (by decide) ?_
    rw [nI_1]
    refine zv_eqG ?_ (ih hlt)
    simp only [zst_same, zst_zst]
    rw [clearA_2 hlt]

set_option maxRecDepth 100000 in
set_option maxHeartbeats 4000000 in
theorem lp1_X0_clear (l : Launch) (D : zD) (B : Nat) {L : zL} {nx : Nat} {G : zG} {q : Nat} (hq : (q, 3) ∈ L) : ∀ i : Nat, i ≤ 16 → zV l (fun _ => True) D B RX0 "clear" cX0_clear 2 none (zrm 0 0 0 0) (zN (zE none L nx (zst G q (clearP (G q))))) 0 0 L nx 27 [some (.ref q), some (.int (nI i))] [] (zst G q (clearA (G q) i 0)) := by
  refine zloop 16 (fun i hi ih => ?_)
  refine zv_iload_n dX0_clear_27 rfl ?_
  refine zv_bipush (v := 16) dX0_clear_28 (by decide) ?_
  refine zv_icmp_ge (tgt := 46) dX0_clear_30 (by decide) (fun c30 => ?_) (fun c30 => ?_)
  · have e : i = 16 := by have := zge_of (N := 16) (by decide) (by omega) rfl c30; omega
    subst e
    refine zv_iconst (v := 0) dX0_clear_46 (by decide) ?_
    refine zv_istore_n dX0_clear_47 (by decide) rfl ?_
    exact lp2_X0_clear l D B hq 0 (by omega)
  · have hlt : i < 16 := zlt_of (N := 16) (by decide) (by omega) rfl c30
    refine zv_aload_n dX0_clear_33 rfl ?_
    refine zv_getS (r := 1) hq rfl fl_X0_9 rfl dX0_clear_34 ?_
    refine zv_iload_n dX0_clear_37 rfl ?_
    refine zv_iconst (v := 0) dX0_clear_38 (by decide) ?_
    refine zv_iast (i := 1) hq rfl (zix_nI (by omega) (by decide)) dX0_clear_39 ?_
    refine zv_iinc1 dX0_clear_40 rfl (by decide) rfl ?_
    refine zv_goto (tgt := 27) dX0_clear_43 (by decide) ?_
    rw [nI_1]
    refine zv_eqG ?_ (ih hlt)
    simp only [zst_same, zst_zst]
    rw [clearA_1 hlt]

set_option maxRecDepth 100000 in
set_option maxHeartbeats 4000000 in
theorem m_X0_clear (l : Launch) (D : zD) (B : Nat) {L : zL} {nx : Nat} {G : zG} {q : Nat} (hq : (q, 3) ∈ L) : zMet l D B yX0_clear cX0_clear 2 none 0 0 0 0 [.ref q] L nx G (zE none L nx (zst G q (clearP (G q)))) := by
  refine zMet_of (own := RX0) (mn := "clear") [some (.ref q), none] (by decide +kernel) rfl rfl rfl (Nat.le_of_ble_eq_true rfl) ?_
  show zV l (fun _ => True) D B RX0 "clear" cX0_clear 2 none (zrm 0 0 0 0) (zN (zE none L nx (zst G q (clearP (G q))))) 0 0 L nx 0 [some (.ref q), none] [] (G)
  refine zv_aload_n dX0_clear_0 rfl ?_
  refine zv_iconst (v := 0) dX0_clear_1 (by decide) ?_
  refine zv_putI (t := 3) hq rfl fl_X0_21 ft_X0_0 rfl dX0_clear_2 ?_
  refine zv_aload_n dX0_clear_5 rfl ?_
  refine zv_iconst (v := 0) dX0_clear_6 (by decide) ?_
  refine zv_putI (t := 3) hq rfl fl_X0_25 ft_X0_1 rfl dX0_clear_7 ?_
  refine zv_aload_n dX0_clear_10 rfl ?_
  refine zv_iconst (v := 0) dX0_clear_11 (by decide) ?_
  refine zv_putI (t := 3) hq rfl fl_X0_28 ft_X0_2 rfl dX0_clear_12 ?_
  refine zv_aload_n dX0_clear_15 rfl ?_
  refine zv_iconst (v := 0) dX0_clear_16 (by decide) ?_
  refine zv_putI (t := 3) hq rfl fl_X0_31 ft_X0_3 rfl dX0_clear_17 ?_
  refine zv_aload_n dX0_clear_20 rfl ?_
  refine zv_iconst (v := 0) dX0_clear_21 (by decide) ?_
  refine zv_putI (t := 3) hq rfl fl_X0_34 ft_X0_4 rfl dX0_clear_22 ?_
  refine zv_iconst (v := 0) dX0_clear_25 (by decide) ?_
  refine zv_istore_n dX0_clear_26 (by decide) rfl ?_
  refine zv_eqG ?_ (lp1_X0_clear l D B hq 0 (by omega))
  simp only [zst_same, zst_zst]
  rw [clearA_0]

set_option maxRecDepth 100000 in
set_option maxHeartbeats 4000000 in
theorem m_X0_copyFrom (l : Launch) (D : zD) (B : Nat) {L : zL} {nx : Nat} {G : zG} {q p : Nat} (hq : (q, 3) ∈ L) (hp : (p, 3) ∈ L) (hpq : p ≠ q) : zMet l D B yX0_copyFrom cX0_copyFrom 2 none 1 40 0 0 [.ref q, .ref p] L nx G (zE none L nx (zst G q (cpP (G q) (G p)))) := by
  refine zMet_of (own := RX0) (mn := "copyFrom") [some (.ref q), some (.ref p)] (by decide +kernel) rfl rfl rfl (Nat.le_of_ble_eq_true rfl) ?_
  show zV l (fun _ => True) D B RX0 "copyFrom" cX0_copyFrom 2 none (zrm 1 40 0 0) (zN (zE none L nx (zst G q (cpP (G q) (G p))))) 0 0 L nx 0 [some (.ref q), some (.ref p)] [] (G)
  refine zv_aload_n dX0_copyFrom_0 rfl ?_
  refine zv_aload_n dX0_copyFrom_1 rfl ?_
  refine zv_getI hp rfl fl_X0_21 rfl dX0_copyFrom_2 ?_
  refine zv_putI (t := 3) hq rfl fl_X0_21 ft_X0_0 rfl dX0_copyFrom_5 ?_
  refine zv_aload_n dX0_copyFrom_8 rfl ?_
  refine zv_aload_n dX0_copyFrom_9 rfl ?_
  refine zv_getI hp rfl fl_X0_25 rfl dX0_copyFrom_10 ?_
  refine zv_putI (t := 3) hq rfl fl_X0_25 ft_X0_1 rfl dX0_copyFrom_13 ?_
  refine zv_aload_n dX0_copyFrom_16 rfl ?_
  refine zv_aload_n dX0_copyFrom_17 rfl ?_
  refine zv_getI hp rfl fl_X0_28 rfl dX0_copyFrom_18 ?_
  refine zv_putI (t := 3) hq rfl fl_X0_28 ft_X0_2 rfl dX0_copyFrom_21 ?_
  refine zv_aload_n dX0_copyFrom_24 rfl ?_
  refine zv_aload_n dX0_copyFrom_25 rfl ?_
  refine zv_getI hp rfl fl_X0_31 rfl dX0_copyFrom_26 ?_
  refine zv_putI (t := 3) hq rfl fl_X0_31 ft_X0_3 rfl dX0_copyFrom_29 ?_
  refine zv_aload_n dX0_copyFrom_32 rfl ?_
  refine zv_aload_n dX0_copyFrom_33 rfl ?_
  refine zv_getI hp rfl fl_X0_34 rfl dX0_copyFrom_34 ?_
  refine zv_putI (t := 3) hq rfl fl_X0_34 ft_X0_4 rfl dX0_copyFrom_37 ?_
  refine zv_aload_n dX0_copyFrom_40 rfl ?_
  refine zv_getS (r := 1) hp rfl fl_X0_9 rfl dX0_copyFrom_41 ?_
  refine zv_iconst (v := 0) dX0_copyFrom_44 (by decide) ?_
  refine zv_aload_n dX0_copyFrom_45 rfl ?_
  refine zv_getS (r := 1) hq rfl fl_X0_9 rfl dX0_copyFrom_46 ?_
  refine zv_iconst (v := 0) dX0_copyFrom_49 (by decide) ?_
  refine zv_bipush (v := 16) dX0_copyFrom_50 (by decide) ?_
  refine zv_copy cl_X0_37 znat_copy zst_copy zini_sys (i0 := 1) hp rfl (i := 1) hq rfl (by decide) rfl (by decide) (by decide) (by decide) (by decide) dX0_copyFrom_52 ?_
  refine zv_aload_n dX0_copyFrom_55 rfl ?_
  refine zv_getS (r := 2) hp rfl fl_X0_15 rfl dX0_copyFrom_56 ?_
  refine zv_iconst (v := 0) dX0_copyFrom_59 (by decide) ?_
  refine zv_aload_n dX0_copyFrom_60 rfl ?_
  refine zv_getS (r := 2) hq rfl fl_X0_15 rfl dX0_copyFrom_61 ?_
  refine zv_iconst (v := 0) dX0_copyFrom_64 (by decide) ?_
  refine zv_bipush (v := 24) dX0_copyFrom_65 (by decide) ?_
  refine zv_copy cl_X0_37 znat_copy zst_copy zini_sys (i0 := 2) hp rfl (i := 2) hq rfl (by decide) rfl (by decide) (by decide) (by decide) (by decide) dX0_copyFrom_67 ?_
  refine zv_aload_n dX0_copyFrom_70 rfl ?_
  refine zv_getS (r := 3) hp rfl fl_X0_18 rfl dX0_copyFrom_71 ?_
  refine zv_iconst (v := 0) dX0_copyFrom_74 (by decide) ?_
  refine zv_aload_n dX0_copyFrom_75 rfl ?_
  refine zv_getS (r := 3) hq rfl fl_X0_18 rfl dX0_copyFrom_76 ?_
  refine zv_iconst (v := 0) dX0_copyFrom_79 (by decide) ?_
  refine zv_bipush (v := 24) dX0_copyFrom_80 (by decide) ?_
  refine zv_copy cl_X0_37 znat_copy zst_copy zini_sys (i0 := 3) hp rfl (i := 3) hq rfl (by decide) rfl (by decide) (by decide) (by decide) (by decide) dX0_copyFrom_82 ?_
  refine zv_vretE dX0_copyFrom_85 rfl ?_
  simp only [zst_same, zst_zst, zst_ne _ _ hpq]
  exact congrArg (zst G q) cpP_e

set_option maxRecDepth 100000 in
set_option maxHeartbeats 4000000 in
theorem m_X4_isSingle (l : Launch) (D : zD) (B : Nat) {L : zL} {nx : Nat} {G : zG} {q i : Nat} {x : Int32} (hq : (q, 5) ∈ L) (hi : i < 24) (hx : x = nI i) (hz : zm (G q i) < 65536) : zMet l D B yX4_isSingle cX4_isSingle 2 (some .boolean) 1 20 0 0 [.ref q, .int x] L nx G (zE (some (.int (bI (isSg (G q i))))) L nx (G)) := by
  refine zMet_of (own := RX4) (mn := "isSingle") [some (.ref q), some (.int x)] (by decide +kernel) rfl rfl rfl (Nat.le_of_ble_eq_true rfl) ?_
  show zV l (fun _ => True) D B RX4 "isSingle" cX4_isSingle 2 (some .boolean) (zrm 1 20 0 0) (zN (zE (some (.int (bI (isSg (G q i))))) L nx (G))) 0 0 L nx 0 [some (.ref q), some (.int x)] [] (G)
  subst hx
  refine zv_iload_n dX4_isSingle_0 rfl ?_
  refine zv_if_lt (tgt := 27) dX4_isSingle_1 (by decide) (fun h => absurd h (nI_pos (by omega))) (fun _ => ?_)
  refine zv_iload_n dX4_isSingle_4 rfl ?_
  refine zv_bipush (v := 24) dX4_isSingle_5 (by decide) ?_
  refine zv_icmp_ge (tgt := 27) dX4_isSingle_7 (by decide) (fun h => absurd h (nI_ge hi (by decide))) (fun _ => ?_)
  refine zv_aload_n dX4_isSingle_10 rfl ?_
  refine zv_getS (r := 1) hq rfl fl_X4_9 rfl dX4_isSingle_11 ?_
  refine zv_iload_n dX4_isSingle_14 rfl ?_
  refine zv_iald (i := 1) hq rfl (zix_nI (by omega) (by decide)) dX4_isSingle_15 ?_
  rw [Nat.zero_add i]
  refine zv_callS (m_bitCount l D B hz) ml_X4_28 st_J6_bitCount_0f7a4 rfl rfl (Nat.le_of_ble_eq_true rfl) dX4_isSingle_16 ⟨Nat.le_of_ble_eq_true rfl, Nat.le_of_ble_eq_true rfl⟩ ⟨Nat.le_refl _, Nat.le_refl _⟩ (zk_i ?_)
  refine zv_iconst (v := 1) dX4_isSingle_19 (by decide) ?_
  refine zv_icmp_ne (tgt := 27) dX4_isSingle_20 (by decide) (fun c20 => ?_) (fun c20 => ?_)
  · have hcl := zcnt_le (zb (G q i)) 16
    have h : isSg (G q i) = false := by
      simp only [isSg, decide_eq_false_iff_not]
      intro e
      exact c20 (by rw [e]; rfl)
    refine zv_iconst (v := 0) dX4_isSingle_27 (by decide) ?_
    refine zv_iretE dX4_isSingle_28 rfl (by first | rfl | exact bI_nar _) ?_ ?_
    · rw [h]; rfl
    · rfl
  · have hcl := zcnt_le (zb (G q i)) 16
    have h : isSg (G q i) = true := by
      simp only [isSg, decide_eq_true_eq]
      exact (nI_eq (by omega) (by decide)).mp c20
    refine zv_iconst (v := 1) dX4_isSingle_23 (by decide) ?_
    refine zv_goto (tgt := 28) dX4_isSingle_24 (by decide) ?_
    refine zv_iretE dX4_isSingle_28 rfl (by first | rfl | exact bI_nar _) ?_ ?_
    · rw [h]; rfl
    · rfl

set_option maxRecDepth 100000 in
set_option maxHeartbeats 4000000 in
theorem lp_X4_singleCount (l : Launch) (D : zD) (B : Nat) {L : zL} {nx : Nat} {G : zG} {q : Nat} (hq : (q, 5) ∈ L) (hz : ∀ i, i < 24 → zm (G q i) < 65536) : ∀ i : Nat, i ≤ 24 → zV l (fun _ => True) D B RX4 "singleCount" cX4_singleCount 3 (some .int) (zrm 2 41 0 0) (zN (zE (some (.int (nI (zcnt (fun i => isSg (G q i)) 24)))) L nx G)) 0 0 L nx 4 [some (.ref q), some (.int (nI (zcnt (fun i => isSg (G q i)) i))), some (.int (nI i))] [] (G) := by
  refine zloop 24 (fun i hi ih => ?_)
  refine zv_iload_n dX4_singleCount_4 rfl ?_
  refine zv_bipush (v := 24) dX4_singleCount_5 (by decide) ?_
  refine zv_icmp_ge (tgt := 27) dX4_singleCount_7 (by decide) (fun c7 => ?_) (fun c7 => ?_)
  · have e : i = 24 := by have := zge_of (N := 24) (by decide) (by omega) rfl c7; omega
    subst e
    refine zv_iload_n dX4_singleCount_27 rfl ?_
    refine zv_iretE dX4_singleCount_28 rfl (rfl) ?_ ?_
    · rfl
    · rfl
  · have hlt : i < 24 := zlt_of (N := 24) (by decide) (by omega) rfl c7
    refine zv_aload_n dX4_singleCount_10 rfl ?_
    refine zv_iload_n dX4_singleCount_11 rfl ?_
    refine zv_callV (m_X4_isSingle l D B hq hlt rfl (hz i hlt)) ml_X4_34 in_X4_isSingle sel_X4_isSingle hq rfl rfl rfl rfl (Nat.le_of_ble_eq_true rfl) dX4_singleCount_12 ⟨Nat.le_of_ble_eq_true rfl, Nat.le_of_ble_eq_true rfl⟩ ⟨Nat.le_refl _, Nat.le_refl _⟩ (zk_i ?_)
    refine zv_if_eq (tgt := 21) dX4_singleCount_15 (by decide) (fun c15 => ?_) (fun c15 => ?_)
    · have h := bI_eq0.mp c15
      have hc : zcnt (fun i => isSg (G q i)) (i + 1) = zcnt (fun i => isSg (G q i)) i := by simp [zcnt, h]
      refine zv_iinc1 dX4_singleCount_21 rfl (by decide) rfl ?_
      refine zv_goto (tgt := 4) dX4_singleCount_24 (by decide) ?_
      have ih1 := ih hlt
      rw [hc] at ih1
      first
        | (rw [nI_1]; exact ih1)
        | (rw [nI_1, nI_1]; exact ih1)
    · have h := bI_ne0.mp c15
      have hc : zcnt (fun i => isSg (G q i)) (i + 1) = zcnt (fun i => isSg (G q i)) i + 1 := by simp [zcnt, h]
      refine zv_iinc1 dX4_singleCount_18 rfl (by decide) rfl ?_
      refine zv_iinc1 dX4_singleCount_21 rfl (by decide) rfl ?_
      refine zv_goto (tgt := 4) dX4_singleCount_24 (by decide) ?_
      have ih1 := ih hlt
      rw [hc] at ih1
      first
        | (rw [nI_1]; exact ih1)
        | (rw [nI_1, nI_1]; exact ih1)

set_option maxRecDepth 100000 in
set_option maxHeartbeats 4000000 in
theorem m_X4_singleCount (l : Launch) (D : zD) (B : Nat) {L : zL} {nx : Nat} {G : zG} {q : Nat} (hq : (q, 5) ∈ L) (hz : ∀ i, i < 24 → zm (G q i) < 65536) : zMet l D B yX4_singleCount cX4_singleCount 3 (some .int) 2 41 0 0 [.ref q] L nx G (zE (some (.int (nI (zcnt (fun i => isSg (G q i)) 24)))) L nx (G)) := by
  refine zMet_of (own := RX4) (mn := "singleCount") [some (.ref q), none, none] (by decide +kernel) rfl rfl rfl (Nat.le_of_ble_eq_true rfl) ?_
  show zV l (fun _ => True) D B RX4 "singleCount" cX4_singleCount 3 (some .int) (zrm 2 41 0 0) (zN (zE (some (.int (nI (zcnt (fun i => isSg (G q i)) 24)))) L nx (G))) 0 0 L nx 0 [some (.ref q), none, none] [] (G)
  refine zv_iconst (v := 0) dX4_singleCount_0 (by decide) ?_
  refine zv_istore_n dX4_singleCount_1 (by decide) rfl ?_
  refine zv_iconst (v := 0) dX4_singleCount_2 (by decide) ?_
  refine zv_istore_n dX4_singleCount_3 (by decide) rfl ?_
  exact lp_X4_singleCount l D B hq hz 0 (by omega)

set_option maxRecDepth 100000 in
set_option maxHeartbeats 4000000 in
theorem lp2_X4_reduce (l : Launch) (D : zD) (B : Nat) {L : zL} {nx : Nat} {G : zG} {q p a : Nat} {own : Int32} {post : zQ} (hq : (q, 5) ∈ L) (ha : a < 24) (hk : zV l (fun _ => True) D B RX4 "reduce" cX4_reduce 5 none (zrm 1 40 0 0) (zN post) 0 0 L nx 119 [some (.ref q), some (.ref p), some (.int (nI a)), some (.int own), some (.int 24)] [] (zst G q (redI (G q) a own 24))) : ∀ i : Nat, i ≤ 24 → zV l (fun _ => True) D B RX4 "reduce" cX4_reduce 5 none (zrm 1 40 0 0) (zN (post)) 0 0 L nx 56 [some (.ref q), some (.ref p), some (.int (nI a)), some (.int own), some (.int (nI i))] [] (zst G q (redI (G q) a own i)) := by
  refine zloop 24 (fun i hi ih => ?_)
  refine zv_iload dX4_reduce_56 rfl ?_
  refine zv_bipush (v := 24) dX4_reduce_58 (by decide) ?_
  refine zv_icmp_ge (tgt := 119) dX4_reduce_60 (by decide) (fun c60 => ?_) (fun c60 => ?_)
  · have e : i = 24 := by have := zge_of (N := 24) (by decide) (by omega) rfl c60; omega
    subst e
    exact hk
  · have hlt : i < 24 := zlt_of (N := 24) (by decide) (by omega) rfl c60
    refine zv_iload dX4_reduce_63 rfl ?_
    refine zv_iload_n dX4_reduce_65 rfl ?_
    obtain ⟨r1, r2, r3, r4⟩ := redI_at (f := G q) (own := own) ha (show i ≤ 23 by omega |> Nat.lt_succ_of_le)
    refine zv_icmp_eq (tgt := 113) dX4_reduce_66 (by decide) (fun c66 => ?_) (fun c66 => ?_)
    · have hs := redI_s1 (f := G q) (own := own) hlt (Or.inl ((nI_eq (by omega) (by omega)).mp c66))
      refine zv_iinc1 dX4_reduce_113 rfl (by decide) rfl ?_
      refine zv_goto (tgt := 56) dX4_reduce_116 (by decide) ?_
      rw [nI_1]
      refine zv_eqG ?_ (ih hlt)
      first
        | exact congrArg (zst G q) hs
        | (simp only [zst_same, zst_zst, Nat.zero_add]; rw [r1, r3]; rw [show upd (redI (G q) a own i) i (G q i ^^^ G q a) (24 + i) = G q (24 + i) by simp only [upd]; rw [if_neg (by omega)]; exact r4, show upd (redI (G q) a own i) i (G q i ^^^ G q a) (24 + a) = G q (24 + a) by simp only [upd]; rw [if_neg (by omega)]; exact r2, hs])
    · have hne : i ≠ a := fun e => c66 (by rw [e])
      refine zv_aload_n dX4_reduce_69 rfl ?_
      refine zv_getS (r := 1) hq rfl fl_X4_9 rfl dX4_reduce_70 ?_
      refine zv_iload dX4_reduce_73 rfl ?_
      refine zv_iald (i := 1) hq rfl (zix_nI (by omega) (by decide)) dX4_reduce_75 ?_
      refine zv_iload_n dX4_reduce_76 rfl ?_
      refine zv_iand dX4_reduce_77 ?_
      rw [zst_same, Nat.zero_add, r3]
      refine zv_if_eq (tgt := 113) dX4_reduce_78 (by decide) (fun c78 => ?_) (fun c78 => ?_)
      · have hs := redI_s1 (f := G q) (a := a) hlt (Or.inr c78)
        refine zv_iinc1 dX4_reduce_113 rfl (by decide) rfl ?_
        refine zv_goto (tgt := 56) dX4_reduce_116 (by decide) ?_
        rw [nI_1]
        refine zv_eqG ?_ (ih hlt)
        first
          | exact congrArg (zst G q) hs
          | (simp only [zst_same, zst_zst, Nat.zero_add]; rw [r1, r3]; rw [show upd (redI (G q) a own i) i (G q i ^^^ G q a) (24 + i) = G q (24 + i) by simp only [upd]; rw [if_neg (by omega)]; exact r4, show upd (redI (G q) a own i) i (G q i ^^^ G q a) (24 + a) = G q (24 + a) by simp only [upd]; rw [if_neg (by omega)]; exact r2, hs])
      · have hs := redI_s2 ha hlt hne c78
        refine zv_aload_n dX4_reduce_81 rfl ?_
        refine zv_getS (r := 1) hq rfl fl_X4_9 rfl dX4_reduce_82 ?_
        refine zv_iload dX4_reduce_85 rfl ?_
        refine zv_dup2 dX4_reduce_87 rfl rfl ?_
        refine zv_iald (i := 1) hq rfl (zix_nI (by omega) (by decide)) dX4_reduce_88 ?_
        refine zv_aload_n dX4_reduce_89 rfl ?_
        refine zv_getS (r := 1) hq rfl fl_X4_9 rfl dX4_reduce_90 ?_
        refine zv_iload_n dX4_reduce_93 rfl ?_
        refine zv_iald (i := 1) hq rfl (zix_nI (by omega) (by decide)) dX4_reduce_94 ?_
        refine zv_ixor dX4_reduce_95 ?_
        refine zv_iast (i := 1) hq rfl (zix_nI (by omega) (by decide)) dX4_reduce_96 ?_
        refine zv_aload_n dX4_reduce_97 rfl ?_
        refine zv_getS (r := 2) hq rfl fl_X4_15 rfl dX4_reduce_98 ?_
        refine zv_iload dX4_reduce_101 rfl ?_
        refine zv_dup2 dX4_reduce_103 rfl rfl ?_
        refine zv_iald (i := 2) hq rfl (zix_nI (by omega) (by decide)) dX4_reduce_104 ?_
        refine zv_aload_n dX4_reduce_105 rfl ?_
        refine zv_getS (r := 2) hq rfl fl_X4_15 rfl dX4_reduce_106 ?_
        refine zv_iload_n dX4_reduce_109 rfl ?_
        refine zv_iald (i := 2) hq rfl (zix_nI (by omega) (by decide)) dX4_reduce_110 ?_
        refine zv_ixor dX4_reduce_111 ?_
        refine zv_iast (i := 2) hq rfl (zix_nI (by omega) (by decide)) dX4_reduce_112 ?_
        refine zv_iinc1 dX4_reduce_113 rfl (by decide) rfl ?_
        refine zv_goto (tgt := 56) dX4_reduce_116 (by decide) ?_
        rw [nI_1]
        refine zv_eqG ?_ (ih hlt)
        first
          | exact congrArg (zst G q) hs
          | (simp only [zst_same, zst_zst, Nat.zero_add]; rw [r1, r3]; rw [show upd (redI (G q) a own i) i (G q i ^^^ G q a) (24 + i) = G q (24 + i) by simp only [upd]; rw [if_neg (by omega)]; exact r4, show upd (redI (G q) a own i) i (G q i ^^^ G q a) (24 + a) = G q (24 + a) by simp only [upd]; rw [if_neg (by omega)]; exact r2, hs])

set_option maxRecDepth 100000 in
set_option maxHeartbeats 4000000 in
theorem lp1_X4_reduce (l : Launch) (D : zD) (B : Nat) {L : zL} {nx : Nat} {G : zG} {q p : Nat} {g : Nat → Int32} (hq : (q, 5) ∈ L) : ∀ i : Nat, i ≤ 24 → ∀ b c : Option Value, zV l (fun _ => True) D B RX4 "reduce" cX4_reduce 5 none (zrm 1 40 0 0) (zN (zE none L nx (zst G q (redN g 24)))) 0 0 L nx 32 [some (.ref q), some (.ref p), some (.int (nI i)), b, c] [] (zst G q (redN g i)) := by
  refine zloop 24 (fun i hi ih b c => ?_)
  refine zv_iload_n dX4_reduce_32 rfl ?_
  refine zv_bipush (v := 24) dX4_reduce_33 (by decide) ?_
  refine zv_icmp_ge (tgt := 125) dX4_reduce_35 (by decide) (fun c35 => ?_) (fun c35 => ?_)
  · have e : i = 24 := by have := zge_of (N := 24) (by decide) (by omega) rfl c35; omega
    subst e
    refine zv_vretE dX4_reduce_125 rfl ?_
    rfl
  · have hlt : i < 24 := zlt_of (N := 24) (by decide) (by omega) rfl c35
    refine zv_aload_n dX4_reduce_38 rfl ?_
    refine zv_getS (r := 1) hq rfl fl_X4_9 rfl dX4_reduce_39 ?_
    refine zv_iload_n dX4_reduce_42 rfl ?_
    refine zv_iald (i := 1) hq rfl (zix_nI (by omega) (by decide)) dX4_reduce_43 ?_
    refine zv_aload_n dX4_reduce_44 rfl ?_
    refine zv_getS (r := 1) hq rfl fl_X4_9 rfl dX4_reduce_45 ?_
    refine zv_iload_n dX4_reduce_48 rfl ?_
    refine zv_iald (i := 1) hq rfl (zix_nI (by omega) (by decide)) dX4_reduce_49 ?_
    refine zv_ineg dX4_reduce_50 ?_
    refine zv_iand dX4_reduce_51 ?_
    refine zv_istore_n dX4_reduce_52 (by decide) rfl ?_
    refine zv_iconst (v := 0) dX4_reduce_53 (by decide) ?_
    refine zv_istore dX4_reduce_54 (by decide) rfl ?_
    have hin := lp2_X4_reduce l D B (G := zst G q (redN g i)) (nx := nx) (q := q) (p := p) (a := i) (own := redN g i i &&& -redN g i i) (post := zE none L nx (zst G q (redN g 24))) hq hlt ?_ 0 (by omega)
    · refine zv_lv ?_ (zv_eqG ?_ hin)
      · simp only [zst_same, Nat.zero_add]
        rfl
      · rw [redI_0, zst_same]
        exact (zst_zst _ _ _ _).symm
    · refine zv_iinc1 dX4_reduce_119 rfl (by decide) rfl ?_
      refine zv_goto (tgt := 32) dX4_reduce_122 (by decide) ?_
      rw [nI_1]
      refine zv_eqG ?_ (ih hlt _ _)
      rw [zst_same, zst_zst]
      rfl

set_option maxRecDepth 100000 in
set_option maxHeartbeats 4000000 in
theorem m_X4_reduce (l : Launch) (D : zD) (B : Nat) {L : zL} {nx : Nat} {G : zG} {q p : Nat} (hq : (q, 5) ∈ L) (hp : (p, 3) ∈ L) (hpq : p ≠ q) (h48 : ∀ j, 48 ≤ j → G q j = 0) : zMet l D B yX4_reduce cX4_reduce 5 none 1 40 0 0 [.ref q, .ref p] L nx G (zE none L nx (zst G q (redN (fun j => if j < 48 then G p (21 + j) else 0) 24))) := by
  refine zMet_of (own := RX4) (mn := "reduce") [some (.ref q), some (.ref p), none, none, none] (by decide +kernel) rfl rfl rfl (Nat.le_of_ble_eq_true rfl) ?_
  show zV l (fun _ => True) D B RX4 "reduce" cX4_reduce 5 none (zrm 1 40 0 0) (zN (zE none L nx (zst G q (redN (fun j => if j < 48 then G p (21 + j) else 0) 24)))) 0 0 L nx 0 [some (.ref q), some (.ref p), none, none, none] [] (G)
  refine zv_aload_n dX4_reduce_0 rfl ?_
  refine zv_getS (r := 2) hp rfl fl_X4_18 rfl dX4_reduce_1 ?_
  refine zv_iconst (v := 0) dX4_reduce_4 (by decide) ?_
  refine zv_aload_n dX4_reduce_5 rfl ?_
  refine zv_getS (r := 1) hq rfl fl_X4_9 rfl dX4_reduce_6 ?_
  refine zv_iconst (v := 0) dX4_reduce_9 (by decide) ?_
  refine zv_bipush (v := 24) dX4_reduce_10 (by decide) ?_
  refine zv_copy cl_X4_21 znat_copy zst_copy zini_sys (i0 := 2) hp rfl (i := 1) hq rfl (by decide) rfl (by decide) (by decide) (by decide) (by decide) dX4_reduce_12 ?_
  refine zv_aload_n dX4_reduce_15 rfl ?_
  refine zv_getS (r := 3) hp rfl fl_X4_27 rfl dX4_reduce_16 ?_
  refine zv_iconst (v := 0) dX4_reduce_19 (by decide) ?_
  refine zv_aload_n dX4_reduce_20 rfl ?_
  refine zv_getS (r := 2) hq rfl fl_X4_15 rfl dX4_reduce_21 ?_
  refine zv_iconst (v := 0) dX4_reduce_24 (by decide) ?_
  refine zv_bipush (v := 24) dX4_reduce_25 (by decide) ?_
  refine zv_copy cl_X4_21 znat_copy zst_copy zini_sys (i0 := 3) hp rfl (i := 2) hq rfl (by decide) rfl (by decide) (by decide) (by decide) (by decide) dX4_reduce_27 ?_
  refine zv_iconst (v := 0) dX4_reduce_30 (by decide) ?_
  refine zv_istore_n dX4_reduce_31 (by decide) rfl ?_
  refine zv_eqG ?_ (lp1_X4_reduce l D B (g := fun j => if j < 48 then G p (21 + j) else 0) hq 0 (by omega) _ _)
  simp only [zst_same, zst_zst, zst_ne _ _ hpq]
  congr 1
  funext j
  simp only [zcp, redN]
  have := h48 j
  grind
end
section
def solP (f g : Nat → Int32) : Nat → Int32 := peelP 24 (lsP f g 24)

set_option maxRecDepth 100000 in
set_option maxHeartbeats 4000000 in
theorem lp_X0_learnSingles (l : Launch) (D : zD) (B : Nat) {L : zL} {nx : Nat} {G : zG} {q r n m : Nat} {ch : Nat → Int32} (hq : (q, 3) ∈ L) (hr : (r, 5) ∈ L) (hrq : r ≠ q) (hJ : zCJ n ch (G q) m) (hR : zRW n ch (G q) (G r)) : ∀ i : Nat, i ≤ 24 → zV l (fun _ => True) D B RX0 "learnSingles" cX0_learnSingles 4 (some .int) (zrm 3 65 0 0) (zN (zE (some (.int (nI (zcnt (zb (solP (G q) (G r) 0)) 16) - nI (zcnt (zb (G q 0)) 16)))) L nx (zst G q (solP (G q) (G r))))) 0 0 L nx 7 [some (.ref q), some (.ref r), some (.int (nI (zcnt (zb (G q 0)) 16))), some (.int (nI i))] [] (zst G q (lsP (G q) (G r) i)) := by
  refine zloop 24 (fun i hi ih => ?_)
  refine zv_iload_n dX0_learnSingles_7 rfl ?_
  refine zv_bipush (v := 24) dX0_learnSingles_8 (by decide) ?_
  refine zv_icmp_ge (tgt := 43) dX0_learnSingles_10 (by decide) (fun c10 => ?_) (fun c10 => ?_)
  · have e : i = 24 := by have := zge_of (N := 24) (by decide) (by omega) rfl c10; omega
    subst e
    have hJ2 := (lsP_J hJ hR 24 (by omega)).1
    obtain ⟨m3, hJ3, -⟩ := zCI_peelP 24 _ m hJ.2.1 hJ2
    refine zv_aload_n dX0_learnSingles_43 rfl ?_
    refine zv_callV (m_X0_peel l D B (n := n) (ch := ch) (m := m) hq (by rw [zst_same]; exact hJ2)) ml_X0_68 in_X0_peel sel_X0_peel hq rfl rfl rfl rfl (Nat.le_of_ble_eq_true rfl) dX0_learnSingles_44 ⟨Nat.le_of_ble_eq_true rfl, Nat.le_of_ble_eq_true rfl⟩ ⟨Nat.le_refl _, Nat.le_refl _⟩ (zk_v ?_)
    rw [zst_same, zst_zst, show peelP 24 (lsP (G q) (G r) 24) = solP (G q) (G r) from rfl]
    refine zv_aload_n dX0_learnSingles_47 rfl ?_
    refine zv_callV (m_knownCount l D B hq (by rw [zst_same]; exact zlim_zm hJ3.1 hJ3.2.2.2.1)) ml_X0_54 in_X0_knownCount sel_X0_knownCount hq rfl rfl rfl rfl (Nat.le_of_ble_eq_true rfl) dX0_learnSingles_48 ⟨Nat.le_of_ble_eq_true rfl, Nat.le_of_ble_eq_true rfl⟩ ⟨Nat.le_refl _, Nat.le_refl _⟩ (zk_i ?_)
    rw [zst_same]
    refine zv_iload_n dX0_learnSingles_51 rfl ?_
    refine zv_isub dX0_learnSingles_52 ?_
    refine zv_iretE dX0_learnSingles_53 rfl (rfl) ?_ ?_
    · rfl
    · rfl
  · have hlt : i < 24 := zlt_of (N := 24) (by decide) (by omega) rfl c10
    obtain ⟨g1, g2, g3⟩ := hR.1 i hlt
    refine zv_aload_n dX0_learnSingles_13 rfl ?_
    refine zv_iload_n dX0_learnSingles_14 rfl ?_
    refine zv_callV (m_X4_isSingle l D B hr hlt rfl (by rw [zst_ne _ _ hrq]; exact zlim_zm hJ.1 g1)) ml_X0_75 in_X4_isSingle sel_X4_isSingle hr rfl rfl rfl rfl (Nat.le_of_ble_eq_true rfl) dX0_learnSingles_15 ⟨Nat.le_of_ble_eq_true rfl, Nat.le_of_ble_eq_true rfl⟩ ⟨Nat.le_refl _, Nat.le_refl _⟩ (zk_i ?_)
    rw [zst_ne _ _ hrq]
    refine zv_if_eq (tgt := 37) dX0_learnSingles_18 (by decide) (fun c18 => ?_) (fun c18 => ?_)
    · have hs := bI_eq0.mp c18
      have hl : lsP (G q) (G r) (i + 1) = lsP (G q) (G r) i := by
        conv => lhs; unfold lsP
        rw [hs]
        simp
      refine zv_iinc1 dX0_learnSingles_37 rfl (by decide) rfl ?_
      refine zv_goto (tgt := 7) dX0_learnSingles_40 (by decide) ?_
      rw [nI_1]
      refine zv_eqG ?_ (ih hlt)
      rw [hl]
      try simp only [zst_same, zst_zst]
    · have hs := bI_ne0.mp c18
      obtain ⟨e1, e2, e3⟩ := sg_one hJ.1 g1 hs
      have hl : lsP (G q) (G r) (i + 1) = knowP (lsP (G q) (G r) i) (zlow (G r i)) (G r (24 + i)) := by
        conv => lhs; unfold lsP
        rw [hs]
        simp
      refine zv_aload_n dX0_learnSingles_21 rfl ?_
      refine zv_aload_n dX0_learnSingles_22 rfl ?_
      refine zv_getS (r := 1) hr rfl fl_X0_81 rfl dX0_learnSingles_23 ?_
      refine zv_iload_n dX0_learnSingles_26 rfl ?_
      refine zv_iald (i := 1) hr rfl (zix_nI (by omega) (by decide)) dX0_learnSingles_27 ?_
      refine zv_aload_n dX0_learnSingles_28 rfl ?_
      refine zv_getS (r := 2) hr rfl fl_X0_82 rfl dX0_learnSingles_29 ?_
      refine zv_iload_n dX0_learnSingles_32 rfl ?_
      refine zv_iald (i := 2) hr rfl (zix_nI (by omega) (by decide)) dX0_learnSingles_33 ?_
      simp only [zst_ne _ _ hrq, Nat.zero_add i]
      refine zv_callV (m_X0_learn l D B hq (show zlow (G r i) < 16 by have := hJ.1; omega) e1) ml_X0_64 in_X0_learn sel_X0_learn hq rfl rfl rfl rfl (Nat.le_of_ble_eq_true rfl) dX0_learnSingles_34 ⟨Nat.le_of_ble_eq_true rfl, Nat.le_of_ble_eq_true rfl⟩ ⟨Nat.le_refl _, Nat.le_refl _⟩ (zk_v ?_)
      refine zv_iinc1 dX0_learnSingles_37 rfl (by decide) rfl ?_
      refine zv_goto (tgt := 7) dX0_learnSingles_40 (by decide) ?_
      rw [nI_1]
      refine zv_eqG ?_ (ih hlt)
      rw [hl]
      try simp only [zst_same, zst_zst]

set_option maxRecDepth 100000 in
set_option maxHeartbeats 4000000 in
theorem m_X0_learnSingles (l : Launch) (D : zD) (B : Nat) {L : zL} {nx : Nat} {G : zG} {q r n m : Nat} {ch : Nat → Int32} (hq : (q, 3) ∈ L) (hr : (r, 5) ∈ L) (hrq : r ≠ q) (hJ : zCJ n ch (G q) m) (hR : zRW n ch (G q) (G r)) : zMet l D B yX0_learnSingles cX0_learnSingles 4 (some .int) 3 65 0 0 [.ref q, .ref r] L nx G (zE (some (.int (nI (zcnt (zb (solP (G q) (G r) 0)) 16) - nI (zcnt (zb (G q 0)) 16)))) L nx (zst G q (solP (G q) (G r)))) := by
  refine zMet_of (own := RX0) (mn := "learnSingles") [some (.ref q), some (.ref r), none, none] (by decide +kernel) rfl rfl rfl (Nat.le_of_ble_eq_true rfl) ?_
  show zV l (fun _ => True) D B RX0 "learnSingles" cX0_learnSingles 4 (some .int) (zrm 3 65 0 0) (zN (zE (some (.int (nI (zcnt (zb (solP (G q) (G r) 0)) 16) - nI (zcnt (zb (G q 0)) 16)))) L nx (zst G q (solP (G q) (G r))))) 0 0 L nx 0 [some (.ref q), some (.ref r), none, none] [] (G)
  refine zv_aload_n dX0_learnSingles_0 rfl ?_
  refine zv_callV (m_knownCount l D B hq (zlim_zm hJ.1 hJ.2.2.2.1)) ml_X0_54 in_X0_knownCount sel_X0_knownCount hq rfl rfl rfl rfl (Nat.le_of_ble_eq_true rfl) dX0_learnSingles_1 ⟨Nat.le_of_ble_eq_true rfl, Nat.le_of_ble_eq_true rfl⟩ ⟨Nat.le_refl _, Nat.le_refl _⟩ (zk_i ?_)
  refine zv_istore_n dX0_learnSingles_4 (by decide) rfl ?_
  refine zv_iconst (v := 0) dX0_learnSingles_5 (by decide) ?_
  refine zv_istore_n dX0_learnSingles_6 (by decide) rfl ?_
  refine zv_eqG ?_ (lp_X0_learnSingles l D B hq hr hrq hJ hR 0 (by omega))
  exact (zst_self _ _).symm
end
section
def zdw (x : Nat) : Nat := (75 * x + 74) % 65537
theorem zdw_lt (x : Nat) : zdw x < 65537 := Nat.mod_lt _ (by omega)
theorem zdw_eq {x : Nat} (h : x < 65537) : (75 * nI x + 74) - (75 * nI x + 74) / 65537 * 65537 = nI (zdw x) := by
  rw [show (75 : Int32) = nI 75 from rfl, show (74 : Int32) = nI 74 from rfl, show (65537 : Int32) = nI 65537 from rfl, pk_mul, nI_add, pk_rem (by omega) (by omega) (by omega)]
  rfl
theorem m_nextDraw (l : Launch) (D : zD) (B : Nat) {L : zL} {nx : Nat} {G : zG} {x : Nat} (h : x < 65537) : zMet l D B yX1_nextDraw cX1_nextDraw 1 (some .int) 0 0 0 0 [.int (nI x)] L nx G (zE (some (.int (nI (zdw x)))) L nx G) := by
  rw [← zdw_eq h]
  exact m_X1_nextDraw l D B (nI x)
def cdeg (y : Nat) : Nat := if y < 4 then 1 else if y < 16 then 2 else if y < 20 then 3 else 4
def zdeg (w x n : Nat) : Nat := if w = 1 then (if cdeg (x % 24) ≤ n then cdeg (x % 24) else n) else if w = 2 then (if x % 4 = 0 then 1 else n) else 1 + x % n
theorem cdeg_b (y : Nat) : 1 ≤ cdeg y ∧ cdeg y ≤ 4 := by
  unfold cdeg
  split <;> (try split) <;> (try split) <;> omega
theorem zdeg_b {w x n : Nat} (hn : 0 < n) : 1 ≤ zdeg w x n ∧ zdeg w x n ≤ n := by
  have := cdeg_b (x % 24)
  have := Nat.mod_lt x hn
  unfold zdeg
  split
  · split <;> omega
  · split
    · split <;> omega
    · omega
/-- the next chapter from a place on that is free -/
def nf (s : Int32) (n : Nat) : Nat → Nat → Nat
  | c, 0 => c
  | c, f + 1 => if zb s c then nf s n (if c + 1 < n then c + 1 else 0) f else c
theorem nf_lt {s : Int32} {n : Nat} : ∀ {f c : Nat}, c < n → nf s n c f < n
  | 0, c, h => h
  | f + 1, c, h => by
    unfold nf
    split
    · apply nf_lt
      split <;> omega
    · exact h
theorem nf_free {s : Int32} {n t : Nat} (ht : t < n) (hf : zb s t = false) : ∀ {f c : Nat}, c < n → (if c ≤ t then t - c else n - c + t) ≤ f → zb s (nf s n c f) = false
  | 0, c, hc, h => by
    unfold nf
    have : c = t := by split at h <;> omega
    rw [this]; exact hf
  | f + 1, c, hc, h => by
    unfold nf
    cases hz : zb s c with
    | false => simp [hz]
    | true =>
      simp only [if_true]
      have hct : c ≠ t := fun e => by rw [e, hf] at hz; cases hz
      apply nf_free ht hf
      · split <;> omega
      · by_cases h1 : c + 1 < n
        · simp only [h1, if_true]
          split <;> split at h <;> omega
        · simp only [h1, if_false]
          split <;> split at h <;> omega
def mkX (x0 : Nat) : Nat → Nat
  | 0 => x0
  | i + 1 => zdw (mkX x0 i)
theorem mkX_lt {x0 : Nat} (h : x0 < 65537) : ∀ i, mkX x0 i < 65537
  | 0 => h
  | i + 1 => zdw_lt _
def mkSet (n x0 : Nat) : Nat → Int32
  | 0 => 0
  | i + 1 => mkSet n x0 i ||| bt (nf (mkSet n x0 i) n (mkX x0 (i + 1) % n) 16)
def mkC (n x0 i : Nat) : Nat := nf (mkSet n x0 i) n (mkX x0 (i + 1) % n) 16
def mkNum (ch : Nat → Int32) (n x0 : Nat) : Nat → Int32
  | 0 => 0
  | i + 1 => mkNum ch n x0 i ^^^ ch (mkC n x0 i)
theorem mkC_lt {n x0 i : Nat} (hn : 0 < n) : mkC n x0 i < n := nf_lt (Nat.mod_lt _ hn)
theorem zcnt_or_bt {s : Int32} {c : Nat} (hc : c < 16) (h : zb s c = false) : zcnt (zb (s ||| bt c)) 16 = zcnt (zb s) 16 + 1 := by
  have key : ∀ n, n ≤ 16 → zcnt (zb (s ||| bt c)) n = zcnt (zb s) n + (if c < n then 1 else 0) := by
    intro n
    induction n with
    | zero => intro _; simp [zcnt]
    | succ n ih =>
      intro hn
      simp only [zcnt]
      rw [ih (by omega), zb_or, zb_bt (by omega)]
      rcases Nat.lt_trichotomy c n with g | g | g
      · have e : decide (n = c) = false := by simp; omega
        rw [e, Bool.or_false, if_pos g, if_pos (show c < n + 1 by omega)]
        omega
      · subst g
        rw [h]
        simp
      · have e : decide (n = c) = false := by simp; omega
        rw [e, Bool.or_false, if_neg (show ¬ c < n by omega), if_neg (show ¬ c < n + 1 by omega)]
        omega
  rw [key 16 (Nat.le_refl _), if_pos hc]
theorem zcnt_full {f : Nat → Bool} : ∀ {n : Nat}, (∀ k, k < n → f k = true) → zcnt f n = n
  | 0, _ => rfl
  | n + 1, h => by
    simp only [zcnt, h n (by omega), if_true]
    rw [zcnt_full (n := n) (fun k hk => h k (by omega))]
theorem zcnt_mono {f : Nat → Bool} {a b : Nat} (h : a ≤ b) : zcnt f a ≤ zcnt f b := by
  induction b with
  | zero => rw [show a = 0 by omega]; exact Nat.le_refl _
  | succ b ih =>
    rcases Nat.lt_or_ge a (b + 1) with g | g
    · have := ih (by omega)
      simp only [zcnt]
      split <;> omega
    · rw [show a = b + 1 by omega]; exact Nat.le_refl _
theorem zcnt_free {s : Int32} {n : Nat} (hn : n ≤ 16) (h : zcnt (zb s) 16 < n) : ∃ t, t < n ∧ zb s t = false := by
  apply Classical.byContradiction
  intro hno
  have h1 : ∀ k, k < n → zb s k = true := by
    intro k hk
    cases hz : zb s k with
    | true => rfl
    | false => exact absurd ⟨k, hk, hz⟩ hno
  have h2 := zcnt_full h1
  have h3 := zcnt_mono (f := zb s) hn
  omega
theorem mk_inv {n x0 : Nat} (hn : 0 < n) (hn16 : n ≤ 16) : ∀ i, i ≤ n → zlim n (mkSet n x0 i) ∧ zcnt (zb (mkSet n x0 i)) 16 = i ∧ (i < n → zb (mkSet n x0 i) (mkC n x0 i) = false)
  | 0, _ => by
    have hfr : zb (mkSet n x0 0) (mkC n x0 0) = false := zb_zero _
    exact ⟨zlim_zero n, (show zcnt (zb 0) 16 = 0 by decide), fun _ => hfr⟩
  | i + 1, hi => by
    obtain ⟨h1, h2, h3⟩ := mk_inv hn hn16 i (by omega)
    have hf := h3 (by omega)
    have hc := mkC_lt (n := n) (x0 := x0) (i := i) hn
    have e : mkSet n x0 (i + 1) = mkSet n x0 i ||| bt (mkC n x0 i) := rfl
    have g1 : zlim n (mkSet n x0 (i + 1)) := by rw [e]; exact zlim_or h1 (zlim_bt hn16 hc)
    have g2 : zcnt (zb (mkSet n x0 (i + 1))) 16 = i + 1 := by rw [e, zcnt_or_bt (by omega) hf, h2]
    refine ⟨g1, g2, fun hlt => ?_⟩
    obtain ⟨t, ht, hz⟩ := zcnt_free hn16 (show zcnt (zb (mkSet n x0 (i + 1))) 16 < n by omega)
    refine nf_free ht hz (Nat.mod_lt _ hn) ?_
    have := Nat.mod_lt (mkX x0 (i + 1 + 1)) hn
    split <;> omega
theorem mkNum_xs {ch : Nat → Int32} {n x0 : Nat} (hn : 0 < n) (hn16 : n ≤ 16) : ∀ i, i ≤ n → mkNum ch n x0 i = xs ch (mkSet n x0 i)
  | 0, _ => (xs_zero ch).symm
  | i + 1, hi => by
    obtain ⟨h1, h2, h3⟩ := mk_inv (x0 := x0) hn hn16 i (by omega)
    have hf := h3 (by omega)
    have hc := mkC_lt (n := n) (x0 := x0) (i := i) hn
    have e : mkSet n x0 (i + 1) = mkSet n x0 i ^^^ bt (mkC n x0 i) := by
      show mkSet n x0 i ||| bt (mkC n x0 i) = _
      apply zb_ext
      intro k _
      rw [zb_or, zb_xor, zb_bt (by omega)]
      by_cases e : k = mkC n x0 i
      · subst e; simp [hf]
      · simp [e]
    rw [e, xs_xor, xs_bt ch (by omega)]
    simp only [mkNum]
    rw [mkNum_xs hn hn16 i (by omega)]
/-- the droplet of a seed: lost, degree, set, number -/
def mkP (f : Nat → Int32) (w : Nat) (loss : Int32) (n : Nat) (ch : Nat → Int32) (sd : Nat) : Nat → Int32 :=
  upd (upd (upd (upd f 0 (bI (decide (nI (zdw sd % 100) < loss)))) 1 (nI (zdeg w (zdw (zdw sd)) n))) 2 (mkSet n (zdw (zdw sd)) (zdeg w (zdw (zdw sd)) n))) 3 (mkNum ch n (zdw (zdw sd)) (zdeg w (zdw (zdw sd)) n))
theorem mkP_at {f : Nat → Int32} {w : Nat} {loss : Int32} {n : Nat} {ch : Nat → Int32} {sd : Nat} : mkP f w loss n ch sd 0 = bI (decide (nI (zdw sd % 100) < loss)) ∧ mkP f w loss n ch sd 1 = nI (zdeg w (zdw (zdw sd)) n) ∧ mkP f w loss n ch sd 2 = mkSet n (zdw (zdw sd)) (zdeg w (zdw (zdw sd)) n) ∧ mkP f w loss n ch sd 3 = mkNum ch n (zdw (zdw sd)) (zdeg w (zdw (zdw sd)) n) := ⟨rfl, rfl, rfl, rfl⟩
theorem mkP_DO {f : Nat → Int32} {w : Nat} {loss : Int32} {n : Nat} {ch : Nat → Int32} {sd : Nat} (hn : 0 < n) (hn16 : n ≤ 16) : zDO n ch (mkP f w loss n ch sd) := by
  obtain ⟨h0, h1, h2, h3⟩ := mkP_at (f := f) (w := w) (loss := loss) (n := n) (ch := ch) (sd := sd)
  have hb := zdeg_b (w := w) (x := zdw (zdw sd)) hn
  refine ⟨?_, ?_, ?_⟩
  · rw [h0]
    cases decide (nI (zdw sd % 100) < loss)
    · exact Or.inl rfl
    · exact Or.inr rfl
  · rw [h2]; exact (mk_inv hn hn16 _ hb.2).1
  · rw [h2, h3]; exact mkNum_xs hn hn16 _ hb.2
end
section
set_option maxRecDepth 100000 in
set_option maxHeartbeats 4000000 in
theorem m_X1_commonDegree (l : Launch) (D : zD) (B : Nat) {L : zL} {nx : Nat} {G : zG} {y : Nat} (hy : y < 65537) : zMet l D B yX1_commonDegree cX1_commonDegree 1 (some .int) 0 0 0 0 [.int (nI y)] L nx G (zE (some (.int (nI (cdeg y)))) L nx (G)) := by
  refine zMet_of (own := RX1) (mn := "commonDegree") [some (.int (nI y))] (by decide +kernel) rfl rfl rfl (Nat.le_of_ble_eq_true rfl) ?_
  show zV l (fun _ => True) D B RX1 "commonDegree" cX1_commonDegree 1 (some .int) (zrm 0 0 0 0) (zN (zE (some (.int (nI (cdeg y)))) L nx (G))) 0 0 L nx 0 [some (.int (nI y))] [] (G)
  refine zv_iload_n dX1_commonDegree_0 rfl ?_
  refine zv_iconst (v := 4) dX1_commonDegree_1 (by decide) ?_
  refine zv_icmp_ge (tgt := 7) dX1_commonDegree_2 (by decide) (fun c2 => ?_) (fun c2 => ?_)
  · have k2 : 4 ≤ y := zge_of (N := 4) (by decide) (by omega) rfl c2
    refine zv_iload_n dX1_commonDegree_7 rfl ?_
    refine zv_bipush (v := 16) dX1_commonDegree_8 (by decide) ?_
    refine zv_icmp_ge (tgt := 15) dX1_commonDegree_10 (by decide) (fun c10 => ?_) (fun c10 => ?_)
    · have k10 : 16 ≤ y := zge_of (N := 16) (by decide) (by omega) rfl c10
      refine zv_iload_n dX1_commonDegree_15 rfl ?_
      refine zv_bipush (v := 20) dX1_commonDegree_16 (by decide) ?_
      refine zv_icmp_ge (tgt := 25) dX1_commonDegree_18 (by decide) (fun c18 => ?_) (fun c18 => ?_)
      · have k18 : 20 ≤ y := zge_of (N := 20) (by decide) (by omega) rfl c18
        refine zv_iconst (v := 4) dX1_commonDegree_25 (by decide) ?_
        refine zv_iretE dX1_commonDegree_26 rfl (rfl) ?_ ?_
        · first
            | (unfold cdeg; rw [if_pos k2]; rfl)
            | (unfold cdeg; rw [if_neg (by omega), if_pos k10]; rfl)
            | (unfold cdeg; rw [if_neg (by omega), if_neg (by omega), if_pos k18]; rfl)
            | (unfold cdeg; rw [if_neg (by omega), if_neg (by omega), if_neg (by omega)]; rfl)
        · rfl
      · have k18 : y < 20 := zlt_of (N := 20) (by decide) (by omega) rfl c18
        refine zv_iconst (v := 3) dX1_commonDegree_21 (by decide) ?_
        refine zv_goto (tgt := 26) dX1_commonDegree_22 (by decide) ?_
        refine zv_iretE dX1_commonDegree_26 rfl (rfl) ?_ ?_
        · first
            | (unfold cdeg; rw [if_pos k2]; rfl)
            | (unfold cdeg; rw [if_neg (by omega), if_pos k10]; rfl)
            | (unfold cdeg; rw [if_neg (by omega), if_neg (by omega), if_pos k18]; rfl)
            | (unfold cdeg; rw [if_neg (by omega), if_neg (by omega), if_neg (by omega)]; rfl)
        · rfl
    · have k10 : y < 16 := zlt_of (N := 16) (by decide) (by omega) rfl c10
      refine zv_iconst (v := 2) dX1_commonDegree_13 (by decide) ?_
      refine zv_iretE dX1_commonDegree_14 rfl (rfl) ?_ ?_
      · first
          | (unfold cdeg; rw [if_pos k2]; rfl)
          | (unfold cdeg; rw [if_neg (by omega), if_pos k10]; rfl)
          | (unfold cdeg; rw [if_neg (by omega), if_neg (by omega), if_pos k18]; rfl)
          | (unfold cdeg; rw [if_neg (by omega), if_neg (by omega), if_neg (by omega)]; rfl)
      · rfl
  · have k2 : y < 4 := zlt_of (N := 4) (by decide) (by omega) rfl c2
    refine zv_iconst (v := 1) dX1_commonDegree_5 (by decide) ?_
    refine zv_iretE dX1_commonDegree_6 rfl (rfl) ?_ ?_
    · first
        | (unfold cdeg; rw [if_pos k2]; rfl)
        | (unfold cdeg; rw [if_neg (by omega), if_pos k10]; rfl)
        | (unfold cdeg; rw [if_neg (by omega), if_neg (by omega), if_pos k18]; rfl)
        | (unfold cdeg; rw [if_neg (by omega), if_neg (by omega), if_neg (by omega)]; rfl)
    · rfl

set_option maxRecDepth 100000 in
set_option maxHeartbeats 4000000 in
theorem m_X1_degreeBy (l : Launch) (D : zD) (B : Nat) {L : zL} {nx : Nat} {G : zG} {w x n : Nat} (hw : w ≤ 2) (hx : x < 65537) (hn : 0 < n) (hn16 : n ≤ 16) : zMet l D B yX1_degreeBy cX1_degreeBy 3 (some .int) 1 21 0 0 [.int (nI w), .int (nI x), .int (nI n)] L nx G (zE (some (.int (nI (zdeg w x n)))) L nx (G)) := by
  refine zMet_of (own := RX1) (mn := "degreeBy") [some (.int (nI w)), some (.int (nI x)), some (.int (nI n))] (by decide +kernel) rfl rfl rfl (Nat.le_of_ble_eq_true rfl) ?_
  show zV l (fun _ => True) D B RX1 "degreeBy" cX1_degreeBy 3 (some .int) (zrm 1 21 0 0) (zN (zE (some (.int (nI (zdeg w x n)))) L nx (G))) 0 0 L nx 0 [some (.int (nI w)), some (.int (nI x)), some (.int (nI n))] [] (G)
  refine zv_iload_n dX1_degreeBy_0 rfl ?_
  refine zv_iconst (v := 1) dX1_degreeBy_1 (by decide) ?_
  refine zv_icmp_ne (tgt := 17) dX1_degreeBy_2 (by decide) (fun c2 => ?_) (fun c2 => ?_)
  · have k2 : ¬ w = 1 := fun e => c2 (by rw [e]; rfl)
    refine zv_iload_n dX1_degreeBy_17 rfl ?_
    refine zv_iconst (v := 2) dX1_degreeBy_18 (by decide) ?_
    refine zv_icmp_ne (tgt := 34) dX1_degreeBy_19 (by decide) (fun c19 => ?_) (fun c19 => ?_)
    · have k19 : ¬ w = 2 := fun e => c19 (by rw [e]; rfl)
      refine zv_iload_n dX1_degreeBy_34 rfl ?_
      refine zv_if_le (tgt := 46) dX1_degreeBy_35 (by decide) (fun h => absurd h (nI_nle hn (by omega))) (fun _ => ?_)
      refine zv_iconst (v := 1) dX1_degreeBy_38 (by decide) ?_
      refine zv_iload_n dX1_degreeBy_39 rfl ?_
      refine zv_iload_n dX1_degreeBy_40 rfl ?_
      refine zv_irem dX1_degreeBy_41 (nI_ne0 hn (by omega)) ?_
      refine zv_iadd dX1_degreeBy_42 ?_
      refine zv_goto (tgt := 47) dX1_degreeBy_43 (by decide) ?_
      refine zv_iretE dX1_degreeBy_47 rfl (rfl) ?_ ?_
      · unfold zdeg
        rw [if_neg k2, if_neg k19, pk_rem (by omega) hn (by omega), show (1 : Int32) = nI 1 from rfl, nI_add]
      · rfl
    · have k19 : w = 2 := (nI_eq (by omega) (by decide)).mp c19
      refine zv_iload_n dX1_degreeBy_22 rfl ?_
      refine zv_iconst (v := 4) dX1_degreeBy_23 (by decide) ?_
      refine zv_irem dX1_degreeBy_24 (by decide) ?_
      rw [show nI x - nI x / 4 * 4 = nI (x % 4) from pk_rem (d := 4) (by omega) (by omega) (by omega)]
      refine zv_if_ne (tgt := 32) dX1_degreeBy_25 (by decide) (fun c25 => ?_) (fun c25 => ?_)
      · have k25 : ¬ x % 4 = 0 := fun e => c25 (by rw [e]; rfl)
        refine zv_iload_n dX1_degreeBy_32 rfl ?_
        refine zv_iretE dX1_degreeBy_33 rfl (rfl) ?_ ?_
        · first
            | (unfold zdeg; rw [if_neg k2, if_pos k19, if_pos k25]; rfl)
            | (unfold zdeg; rw [if_neg k2, if_pos k19, if_neg k25])
        · rfl
      · have k25 : x % 4 = 0 := (nI_eq (by omega) (by decide)).mp c25
        refine zv_iconst (v := 1) dX1_degreeBy_28 (by decide) ?_
        refine zv_goto (tgt := 33) dX1_degreeBy_29 (by decide) ?_
        refine zv_iretE dX1_degreeBy_33 rfl (rfl) ?_ ?_
        · first
            | (unfold zdeg; rw [if_neg k2, if_pos k19, if_pos k25]; rfl)
            | (unfold zdeg; rw [if_neg k2, if_pos k19, if_neg k25])
        · rfl
  · have k2 : w = 1 := (nI_eq (by omega) (by decide)).mp c2
    refine zv_iload_n dX1_degreeBy_5 rfl ?_
    refine zv_bipush (v := 24) dX1_degreeBy_6 (by decide) ?_
    refine zv_irem dX1_degreeBy_8 (by decide) ?_
    rw [show nI x - nI x / 24 * 24 = nI (x % 24) from pk_rem (d := 24) (by omega) (by omega) (by omega)]
    have hcd := cdeg_b (x % 24)
    refine zv_callS (m_X1_commonDegree l D B (show x % 24 < 65537 by omega)) ml_X1_57 st_X1_commonDegree rfl rfl (Nat.le_of_ble_eq_true rfl) dX1_degreeBy_9 ⟨Nat.le_of_ble_eq_true rfl, Nat.le_of_ble_eq_true rfl⟩ ⟨Nat.le_refl _, Nat.le_refl _⟩ (zk_i ?_)
    refine zv_iload_n dX1_degreeBy_12 rfl ?_
    refine zv_callS (m_J9_min_7cf53 l D B _ _) ml_X1_60 st_J9_min_7cf53 rfl rfl (Nat.le_of_ble_eq_true rfl) dX1_degreeBy_13 ⟨Nat.le_of_ble_eq_true rfl, Nat.le_of_ble_eq_true rfl⟩ ⟨Nat.le_refl _, Nat.le_refl _⟩ (zk_i ?_)
    refine zv_iretE dX1_degreeBy_16 rfl (rfl) ?_ ?_
    · unfold zdeg
      rw [if_pos k2]
      by_cases h : cdeg (x % 24) ≤ n
      · rw [if_pos h, if_pos (nI_le h (by omega))]
      · rw [if_neg h, if_neg (fun e => h ((nI_leI (by omega) (by omega)).mp e))]
    · rfl

set_option maxRecDepth 100000 in
set_option maxHeartbeats 4000000 in
theorem lp_X1_addFrom (l : Launch) (D : zD) (B : Nat) {L : zL} {nx : Nat} {G : zG} {q s n t : Nat} (hq : (q, 4) ∈ L) (hs : (s, 2) ∈ L) (hsq : s ≠ q) (hn : G s 2 = nI n) (hn16 : n ≤ 16) {pl : Int32} : ∀ i : Nat, i ≤ 16 → ∀ c : Nat, c < n → nf (G q 2) n c (16 - i) = t → zV l (fun _ => True) D B RX1 "addFrom" cX1_addFrom 5 none (zrm 1 22 0 0) (zN (zE none L nx (zst G q (upd (upd (G q) 2 (G q 2 ||| bt t)) 3 (G q 3 ^^^ G s (5 + t)))))) 0 0 L nx 5 [some (.ref q), some (.ref s), some (.int pl), some (.int (nI c)), some (.int (nI i))] [] (G) := by
  refine zloop 16 (fun i hi ih c hc ht => ?_)
  refine zv_iload dX1_addFrom_5 rfl ?_
  refine zv_bipush (v := 16) dX1_addFrom_7 (by decide) ?_
  refine zv_icmp_ge (tgt := 47) dX1_addFrom_9 (by decide) (fun c9 => ?_) (fun c9 => ?_)
  · have e : i = 16 := by have := zge_of (N := 16) (by decide) (by omega) rfl c9; omega
    subst e
    have hct0 : c = t := ht
    have hct : c = t := hct0
    subst hct
    refine zv_iload_n dX1_addFrom_47 rfl ?_
    refine zv_iconst (v := 0) dX1_addFrom_48 (by decide) ?_
    refine zv_bipush (v := 15) dX1_addFrom_49 (by decide) ?_
    refine zv_callSN (m_X6_isWithin l D B (nI c) 0 15) ml_X1_48 st_X6_isWithin rfl rfl (Nat.le_of_ble_eq_true rfl) dX1_addFrom_51 ⟨Nat.le_of_ble_eq_true rfl, Nat.le_of_ble_eq_true rfl⟩ ⟨Nat.le_refl _, Nat.le_refl _⟩ (zk_i ?_)
    refine zv_if_eq (tgt := 84) dX1_addFrom_54 (by decide) (fun h => absurd h (by rw [show zin3 (nI c) 0 15 = true from (zin3_iff (m := 15) (by decide)).mpr ⟨c, by omega, rfl⟩]; decide)) (fun _ => ?_)
    refine zv_aload_n dX1_addFrom_57 rfl ?_
    refine zv_dup dX1_addFrom_58 rfl ?_
    refine zv_getI hq rfl fl_X1_19 rfl dX1_addFrom_59 ?_
    refine zv_iconst (v := 1) dX1_addFrom_62 (by decide) ?_
    refine zv_iload_n dX1_addFrom_63 rfl ?_
    refine zv_ishl dX1_addFrom_64 ?_
    refine zv_ior dX1_addFrom_65 ?_
    refine zv_putI (t := 4) hq rfl fl_X1_19 ft_X1_2 rfl dX1_addFrom_66 ?_
    refine zv_aload_n dX1_addFrom_69 rfl ?_
    refine zv_dup dX1_addFrom_70 rfl ?_
    refine zv_getI hq rfl fl_X1_22 rfl dX1_addFrom_71 ?_
    refine zv_aload_n dX1_addFrom_74 rfl ?_
    refine zv_getS (r := 1) hs rfl fl_X1_52 rfl dX1_addFrom_75 ?_
    refine zv_iload_n dX1_addFrom_78 rfl ?_
    refine zv_iald (i := 1) hs rfl (zix_nI (i := c) (by omega) (by decide)) dX1_addFrom_79 ?_
    refine zv_ixor dX1_addFrom_80 ?_
    refine zv_putI (t := 4) hq rfl fl_X1_22 ft_X1_3 rfl dX1_addFrom_81 ?_
    refine zv_vretE dX1_addFrom_84 rfl ?_
    simp only [zst_same, zst_zst, zst_ne _ _ hsq]
    rfl
  · have hlt : i < 16 := zlt_of (N := 16) (by decide) (by omega) rfl c9
    refine zv_aload_n dX1_addFrom_12 rfl ?_
    refine zv_getI hq rfl fl_X1_19 rfl dX1_addFrom_13 ?_
    refine zv_iconst (v := 1) dX1_addFrom_16 (by decide) ?_
    refine zv_iload_n dX1_addFrom_17 rfl ?_
    refine zv_ishl dX1_addFrom_18 ?_
    refine zv_iand dX1_addFrom_19 ?_
    refine zv_if_eq (tgt := 47) dX1_addFrom_20 (by decide) (fun c20 => ?_) (fun c20 => ?_)
    · have hz := (zb_and_bt _ (show c < 32 by omega)).mp c20
      have hct0 : c = t := by
        rw [← ht, show 16 - i = (15 - i) + 1 by omega]
        unfold nf
        rw [hz]
        simp
      have hct : c = t := hct0
      subst hct
      refine zv_iload_n dX1_addFrom_47 rfl ?_
      refine zv_iconst (v := 0) dX1_addFrom_48 (by decide) ?_
      refine zv_bipush (v := 15) dX1_addFrom_49 (by decide) ?_
      refine zv_callSN (m_X6_isWithin l D B (nI c) 0 15) ml_X1_48 st_X6_isWithin rfl rfl (Nat.le_of_ble_eq_true rfl) dX1_addFrom_51 ⟨Nat.le_of_ble_eq_true rfl, Nat.le_of_ble_eq_true rfl⟩ ⟨Nat.le_refl _, Nat.le_refl _⟩ (zk_i ?_)
      refine zv_if_eq (tgt := 84) dX1_addFrom_54 (by decide) (fun h => absurd h (by rw [show zin3 (nI c) 0 15 = true from (zin3_iff (m := 15) (by decide)).mpr ⟨c, by omega, rfl⟩]; decide)) (fun _ => ?_)
      refine zv_aload_n dX1_addFrom_57 rfl ?_
      refine zv_dup dX1_addFrom_58 rfl ?_
      refine zv_getI hq rfl fl_X1_19 rfl dX1_addFrom_59 ?_
      refine zv_iconst (v := 1) dX1_addFrom_62 (by decide) ?_
      refine zv_iload_n dX1_addFrom_63 rfl ?_
      refine zv_ishl dX1_addFrom_64 ?_
      refine zv_ior dX1_addFrom_65 ?_
      refine zv_putI (t := 4) hq rfl fl_X1_19 ft_X1_2 rfl dX1_addFrom_66 ?_
      refine zv_aload_n dX1_addFrom_69 rfl ?_
      refine zv_dup dX1_addFrom_70 rfl ?_
      refine zv_getI hq rfl fl_X1_22 rfl dX1_addFrom_71 ?_
      refine zv_aload_n dX1_addFrom_74 rfl ?_
      refine zv_getS (r := 1) hs rfl fl_X1_52 rfl dX1_addFrom_75 ?_
      refine zv_iload_n dX1_addFrom_78 rfl ?_
      refine zv_iald (i := 1) hs rfl (zix_nI (i := c) (by omega) (by decide)) dX1_addFrom_79 ?_
      refine zv_ixor dX1_addFrom_80 ?_
      refine zv_putI (t := 4) hq rfl fl_X1_22 ft_X1_3 rfl dX1_addFrom_81 ?_
      refine zv_vretE dX1_addFrom_84 rfl ?_
      simp only [zst_same, zst_zst, zst_ne _ _ hsq]
      rfl
    · have hz : zb (G q 2) c = true := by
        cases h : zb (G q 2) c with
        | true => rfl
        | false => exact absurd ((zb_and_bt _ (show c < 32 by omega)).mpr h) c20
      have ht2 : nf (G q 2) n (if c + 1 < n then c + 1 else 0) (16 - (i + 1)) = t := by
        rw [← ht, show 16 - i = (16 - (i + 1)) + 1 by omega]
        conv => rhs; unfold nf
        rw [hz]
        simp
      refine zv_iload_n dX1_addFrom_23 rfl ?_
      refine zv_iconst (v := 1) dX1_addFrom_24 (by decide) ?_
      refine zv_iadd dX1_addFrom_25 ?_
      refine zv_aload_n dX1_addFrom_26 rfl ?_
      refine zv_getI hs rfl fl_X1_25 rfl dX1_addFrom_27 ?_
      rw [hn, nI_1]
      refine zv_icmp_ge (tgt := 39) dX1_addFrom_30 (by decide) (fun c30 => ?_) (fun c30 => ?_)
      · have k30 : ¬ c + 1 < n := by have := (nI_leI (by omega) (by omega)).mp c30; omega
        rw [if_neg k30] at ht2
        refine zv_iconst (v := 0) dX1_addFrom_39 (by decide) ?_
        refine zv_istore_n dX1_addFrom_40 (by decide) rfl ?_
        refine zv_iinc1 dX1_addFrom_41 rfl (by decide) rfl ?_
        refine zv_goto (tgt := 5) dX1_addFrom_44 (by decide) ?_
        first
          | (rw [nI_1, nI_1]; exact ih hlt (c + 1) k30 ht2)
          | (rw [nI_1]; exact ih hlt 0 (by omega) ht2)
      · have k30 : c + 1 < n := by
          rcases Nat.lt_or_ge (c + 1) n with h | h
          · exact h
          · exact absurd (nI_le h (by omega)) c30
        rw [if_pos k30] at ht2
        refine zv_iload_n dX1_addFrom_33 rfl ?_
        refine zv_iconst (v := 1) dX1_addFrom_34 (by decide) ?_
        refine zv_iadd dX1_addFrom_35 ?_
        refine zv_goto (tgt := 40) dX1_addFrom_36 (by decide) ?_
        refine zv_istore_n dX1_addFrom_40 (by decide) rfl ?_
        refine zv_iinc1 dX1_addFrom_41 rfl (by decide) rfl ?_
        refine zv_goto (tgt := 5) dX1_addFrom_44 (by decide) ?_
        first
          | (rw [nI_1, nI_1]; exact ih hlt (c + 1) k30 ht2)
          | (rw [nI_1]; exact ih hlt 0 (by omega) ht2)

set_option maxRecDepth 100000 in
set_option maxHeartbeats 4000000 in
theorem m_X1_addFrom (l : Launch) (D : zD) (B : Nat) {L : zL} {nx : Nat} {G : zG} {q s n c : Nat} (hq : (q, 4) ∈ L) (hs : (s, 2) ∈ L) (hsq : s ≠ q) (hn : G s 2 = nI n) (hn16 : n ≤ 16) (hc : c < n) : zMet l D B yX1_addFrom cX1_addFrom 5 none 1 22 0 0 [.ref q, .ref s, .int (nI c)] L nx G (zE none L nx (zst G q (upd (upd (G q) 2 (G q 2 ||| bt (nf (G q 2) n c 16))) 3 (G q 3 ^^^ G s (5 + nf (G q 2) n c 16))))) := by
  refine zMet_of (own := RX1) (mn := "addFrom") [some (.ref q), some (.ref s), some (.int (nI c)), none, none] (by decide +kernel) rfl rfl rfl (Nat.le_of_ble_eq_true rfl) ?_
  show zV l (fun _ => True) D B RX1 "addFrom" cX1_addFrom 5 none (zrm 1 22 0 0) (zN (zE none L nx (zst G q (upd (upd (G q) 2 (G q 2 ||| bt (nf (G q 2) n c 16))) 3 (G q 3 ^^^ G s (5 + nf (G q 2) n c 16)))))) 0 0 L nx 0 [some (.ref q), some (.ref s), some (.int (nI c)), none, none] [] (G)
  refine zv_iload_n dX1_addFrom_0 rfl ?_
  refine zv_istore_n dX1_addFrom_1 (by decide) rfl ?_
  refine zv_iconst (v := 0) dX1_addFrom_2 (by decide) ?_
  refine zv_istore dX1_addFrom_3 (by decide) rfl ?_
  exact lp_X1_addFrom l D B hq hs hsq hn hn16 0 (by omega) c hc rfl

def mkQ (f : Nat → Int32) (w : Nat) (loss : Int32) (n : Nat) (ch : Nat → Int32) (sd : Nat) (i : Nat) : Nat → Int32 :=
  upd (upd (upd (upd f 0 (bI (decide (nI (zdw sd % 100) < loss)))) 1 (nI (zdeg w (zdw (zdw sd)) n))) 2 (mkSet n (zdw (zdw sd)) i)) 3 (mkNum ch n (zdw (zdw sd)) i)
theorem mkQ_s {f : Nat → Int32} {w : Nat} {loss : Int32} {n : Nat} {ch : Nat → Int32} {sd i : Nat} : upd (upd (mkQ f w loss n ch sd i) 2 (mkSet n (zdw (zdw sd)) (i + 1))) 3 (mkNum ch n (zdw (zdw sd)) (i + 1)) = mkQ f w loss n ch sd (i + 1) := by
  funext j; simp only [mkQ, upd]; grind
theorem mkQ_0 {f : Nat → Int32} {w : Nat} {loss : Int32} {n : Nat} {ch : Nat → Int32} {sd : Nat} {a : Int32} (ha : a = bI (decide (nI (zdw sd % 100) < loss))) : upd (upd (upd (upd (upd (upd f 0 0) 1 0) 2 0) 3 0) 0 a) 1 (nI (zdeg w (zdw (zdw sd)) n)) = mkQ f w loss n ch sd 0 := by
  subst ha; funext j; simp only [mkQ, upd, mkSet, mkNum]; grind

set_option maxRecDepth 100000 in
set_option maxHeartbeats 4000000 in
theorem lp_X1_makeFrom (l : Launch) (D : zD) (B : Nat) {L : zL} {nx : Nat} {G : zG} {q s w n sd : Nat} (hq : (q, 4) ∈ L) (hs : (s, 2) ∈ L) (hsq : s ≠ q) (hn : G s 2 = nI n) (hn0 : 0 < n) (hn16 : n ≤ 16) (hw : G s 0 = nI w) (hw2 : w ≤ 2) (hsd : sd < 65537) {a : Option Value} : ∀ i : Nat, i ≤ zdeg w (zdw (zdw sd)) n → zV l (fun _ => True) D B RX1 "makeFrom" cX1_makeFrom 6 none (zrm 2 46 0 0) (zN (zE none L nx (zst G q (mkP (G q) w (G s 1) n (fun k => G s (5 + k)) sd)))) 0 0 L nx 81 [some (.ref q), some (.ref s), a, some (.int (nI n)), some (.int (nI (mkX (zdw (zdw sd)) i))), some (.int (nI i))] [] (zst G q (mkQ (G q) w (G s 1) n (fun k => G s (5 + k)) sd i)) := by
  refine zloop _ (fun i hi ih => ?_)
  refine zv_iload dX1_makeFrom_81 rfl ?_
  refine zv_aload_n dX1_makeFrom_83 rfl ?_
  refine zv_getI hq rfl fl_X1_15 rfl dX1_makeFrom_84 ?_
  rw [zst_same, show mkQ (G q) w (G s 1) n (fun k => G s (5 + k)) sd i 1 = nI (zdeg w (zdw (zdw sd)) n) from rfl]
  have hdb := zdeg_b (w := w) (x := zdw (zdw sd)) hn0
  refine zv_icmp_ge (tgt := 112) dX1_makeFrom_87 (by decide) (fun c87 => ?_) (fun c87 => ?_)
  · have e : i = zdeg w (zdw (zdw sd)) n := by have := (nI_leI (by omega) (by omega)).mp c87; omega
    subst e
    refine zv_vretE dX1_makeFrom_112 rfl ?_
    rfl
  · have hlt : i < zdeg w (zdw (zdw sd)) n := by
      rcases Nat.lt_or_ge i (zdeg w (zdw (zdw sd)) n) with h | h
      · exact h
      · exact absurd (nI_le h (by omega)) c87
    have hxl := mkX_lt (zdw_lt (zdw sd)) i
    have hxl2 := mkX_lt (zdw_lt (zdw sd)) (i + 1)
    refine zv_iload dX1_makeFrom_90 rfl ?_
    refine zv_callS (m_nextDraw l D B hxl) ml_X1_30 st_X1_nextDraw rfl rfl (Nat.le_of_ble_eq_true rfl) dX1_makeFrom_92 ⟨Nat.le_of_ble_eq_true rfl, Nat.le_of_ble_eq_true rfl⟩ ⟨Nat.le_refl _, Nat.le_refl _⟩ (zk_i ?_)
    rw [show zdw (mkX (zdw (zdw sd)) i) = mkX (zdw (zdw sd)) (i + 1) from rfl]
    refine zv_istore dX1_makeFrom_95 (by decide) rfl ?_
    refine zv_aload_n dX1_makeFrom_97 rfl ?_
    refine zv_aload_n dX1_makeFrom_98 rfl ?_
    refine zv_iload dX1_makeFrom_99 rfl ?_
    refine zv_iload_n dX1_makeFrom_101 rfl ?_
    refine zv_irem dX1_makeFrom_102 (nI_ne0 hn0 (by omega)) ?_
    rw [pk_rem (by omega) hn0 (by omega)]
    refine zv_callV (m_X1_addFrom l D B (n := n) (c := mkX (zdw (zdw sd)) (i + 1) % n) hq hs hsq (by rw [zst_ne _ _ hsq]; exact hn) hn16 (Nat.mod_lt _ hn0)) ml_X1_44 in_X1_addFrom sel_X1_addFrom hq rfl rfl rfl rfl (Nat.le_of_ble_eq_true rfl) dX1_makeFrom_103 ⟨Nat.le_of_ble_eq_true rfl, Nat.le_of_ble_eq_true rfl⟩ ⟨Nat.le_refl _, Nat.le_refl _⟩ (zk_v ?_)
    refine zv_iinc1 dX1_makeFrom_106 rfl (by decide) rfl ?_
    refine zv_goto (tgt := 81) dX1_makeFrom_109 (by decide) ?_
    rw [nI_1]
    refine zv_eqG ?_ (ih hlt)
    simp only [zst_same, zst_zst, zst_ne _ _ hsq]
    rw [← mkQ_s]
    rfl

set_option maxRecDepth 100000 in
set_option maxHeartbeats 4000000 in
theorem m_X1_makeFrom (l : Launch) (D : zD) (B : Nat) {L : zL} {nx : Nat} {G : zG} {q s w n sd : Nat} (hq : (q, 4) ∈ L) (hs : (s, 2) ∈ L) (hsq : s ≠ q) (hn : G s 2 = nI n) (hn0 : 0 < n) (hn16 : n ≤ 16) (hw : G s 0 = nI w) (hw2 : w ≤ 2) (hsd : sd < 65537) : zMet l D B yX1_makeFrom cX1_makeFrom 6 none 2 46 0 0 [.ref q, .ref s, .int (nI sd)] L nx G (zE none L nx (zst G q (mkP (G q) w (G s 1) n (fun k => G s (5 + k)) sd))) := by
  refine zMet_of (own := RX1) (mn := "makeFrom") [some (.ref q), some (.ref s), some (.int (nI sd)), none, none, none] (by decide +kernel) rfl rfl rfl (Nat.le_of_ble_eq_true rfl) ?_
  show zV l (fun _ => True) D B RX1 "makeFrom" cX1_makeFrom 6 none (zrm 2 46 0 0) (zN (zE none L nx (zst G q (mkP (G q) w (G s 1) n (fun k => G s (5 + k)) sd)))) 0 0 L nx 0 [some (.ref q), some (.ref s), some (.int (nI sd)), none, none, none] [] (G)
  refine zv_aload_n dX1_makeFrom_0 rfl ?_
  refine zv_iconst (v := 0) dX1_makeFrom_1 (by decide) ?_
  refine zv_putZ hq rfl fl_X1_9 ft_X1_0 rfl (by first | exact Or.inl rfl | exact Or.inr rfl) dX1_makeFrom_2 ?_
  refine zv_aload_n dX1_makeFrom_5 rfl ?_
  refine zv_iconst (v := 0) dX1_makeFrom_6 (by decide) ?_
  refine zv_putI (t := 4) hq rfl fl_X1_15 ft_X1_1 rfl dX1_makeFrom_7 ?_
  refine zv_aload_n dX1_makeFrom_10 rfl ?_
  refine zv_iconst (v := 0) dX1_makeFrom_11 (by decide) ?_
  refine zv_putI (t := 4) hq rfl fl_X1_19 ft_X1_2 rfl dX1_makeFrom_12 ?_
  refine zv_aload_n dX1_makeFrom_15 rfl ?_
  refine zv_iconst (v := 0) dX1_makeFrom_16 (by decide) ?_
  refine zv_putI (t := 4) hq rfl fl_X1_22 ft_X1_3 rfl dX1_makeFrom_17 ?_
  refine zv_aload_n dX1_makeFrom_20 rfl ?_
  refine zv_getI hs rfl fl_X1_25 rfl dX1_makeFrom_21 ?_
  simp only [zst_same, zst_zst, zst_ne _ _ hsq]
  rw [hn]
  refine zv_istore_n dX1_makeFrom_24 (by decide) rfl ?_
  refine zv_iload_n dX1_makeFrom_25 rfl ?_
  refine zv_if_gt (tgt := 30) dX1_makeFrom_26 (by decide) (fun _ => ?_) (fun h => absurd (nI_lt (a := 0) hn0 (by omega)) h)
  refine zv_iload_n dX1_makeFrom_30 rfl ?_
  refine zv_callS (m_nextDraw l D B hsd) ml_X1_30 st_X1_nextDraw rfl rfl (Nat.le_of_ble_eq_true rfl) dX1_makeFrom_31 ⟨Nat.le_of_ble_eq_true rfl, Nat.le_of_ble_eq_true rfl⟩ ⟨Nat.le_refl _, Nat.le_refl _⟩ (zk_i ?_)
  refine zv_istore dX1_makeFrom_34 (by decide) rfl ?_
  refine zv_aload_n dX1_makeFrom_36 rfl ?_
  refine zv_iload dX1_makeFrom_37 rfl ?_
  refine zv_bipush (v := 100) dX1_makeFrom_39 (by decide) ?_
  refine zv_irem dX1_makeFrom_41 (by decide) ?_
  refine zv_aload_n dX1_makeFrom_42 rfl ?_
  refine zv_getI hs rfl fl_X1_34 rfl dX1_makeFrom_43 ?_
  rw [show nI (zdw sd) - nI (zdw sd) / 100 * 100 = nI (zdw sd % 100) from pk_rem (d := 100) (by have := zdw_lt sd; omega) (by omega) (by omega), zst_ne _ _ hsq]
  refine zv_icmp_ge (tgt := 53) dX1_makeFrom_46 (by decide) (fun c46 => ?_) (fun c46 => ?_)
  · have hl0 : (0 : Int32) = bI (decide (nI (zdw sd % 100) < G s 1)) := by rw [show decide (nI (zdw sd % 100) < G s 1) = false by simp; exact i32_nlt.mp (i32_nlt.mpr c46)]; rfl
    refine zv_iconst (v := 0) dX1_makeFrom_53 (by decide) ?_
    refine zv_putZ hq rfl fl_X1_9 ft_X1_0 rfl (by first | exact Or.inl rfl | exact Or.inr rfl) dX1_makeFrom_54 ?_
    refine zv_iload dX1_makeFrom_57 rfl ?_
    refine zv_callS (m_nextDraw l D B (zdw_lt sd)) ml_X1_30 st_X1_nextDraw rfl rfl (Nat.le_of_ble_eq_true rfl) dX1_makeFrom_59 ⟨Nat.le_of_ble_eq_true rfl, Nat.le_of_ble_eq_true rfl⟩ ⟨Nat.le_refl _, Nat.le_refl _⟩ (zk_i ?_)
    refine zv_istore dX1_makeFrom_62 (by decide) rfl ?_
    refine zv_aload_n dX1_makeFrom_64 rfl ?_
    refine zv_aload_n dX1_makeFrom_65 rfl ?_
    refine zv_getI hs rfl fl_X1_37 rfl dX1_makeFrom_66 ?_
    refine zv_iload dX1_makeFrom_69 rfl ?_
    refine zv_iload_n dX1_makeFrom_71 rfl ?_
    simp only [zst_same, zst_zst, zst_ne _ _ hsq]
    rw [hw]
    refine zv_callS (m_X1_degreeBy l D B hw2 (zdw_lt (zdw sd)) hn0 hn16) ml_X1_40 st_X1_degreeBy rfl rfl (Nat.le_of_ble_eq_true rfl) dX1_makeFrom_72 ⟨Nat.le_of_ble_eq_true rfl, Nat.le_of_ble_eq_true rfl⟩ ⟨Nat.le_refl _, Nat.le_refl _⟩ (zk_i ?_)
    refine zv_putI (t := 4) hq rfl fl_X1_15 ft_X1_1 rfl dX1_makeFrom_75 ?_
    refine zv_iconst (v := 0) dX1_makeFrom_78 (by decide) ?_
    refine zv_istore dX1_makeFrom_79 (by decide) rfl ?_
    refine zv_eqG ?_ (lp_X1_makeFrom l D B hq hs hsq hn hn0 hn16 hw hw2 hsd 0 (by omega))
    simp only [zst_same, zst_zst]
    rw [mkQ_0 hl0]
  · have hl0 : (1 : Int32) = bI (decide (nI (zdw sd % 100) < G s 1)) := by rw [show decide (nI (zdw sd % 100) < G s 1) = true by simp; exact i32_nle.mp c46]; rfl
    refine zv_iconst (v := 1) dX1_makeFrom_49 (by decide) ?_
    refine zv_goto (tgt := 54) dX1_makeFrom_50 (by decide) ?_
    refine zv_putZ hq rfl fl_X1_9 ft_X1_0 rfl (by first | exact Or.inl rfl | exact Or.inr rfl) dX1_makeFrom_54 ?_
    refine zv_iload dX1_makeFrom_57 rfl ?_
    refine zv_callS (m_nextDraw l D B (zdw_lt sd)) ml_X1_30 st_X1_nextDraw rfl rfl (Nat.le_of_ble_eq_true rfl) dX1_makeFrom_59 ⟨Nat.le_of_ble_eq_true rfl, Nat.le_of_ble_eq_true rfl⟩ ⟨Nat.le_refl _, Nat.le_refl _⟩ (zk_i ?_)
    refine zv_istore dX1_makeFrom_62 (by decide) rfl ?_
    refine zv_aload_n dX1_makeFrom_64 rfl ?_
    refine zv_aload_n dX1_makeFrom_65 rfl ?_
    refine zv_getI hs rfl fl_X1_37 rfl dX1_makeFrom_66 ?_
    refine zv_iload dX1_makeFrom_69 rfl ?_
    refine zv_iload_n dX1_makeFrom_71 rfl ?_
    simp only [zst_same, zst_zst, zst_ne _ _ hsq]
    rw [hw]
    refine zv_callS (m_X1_degreeBy l D B hw2 (zdw_lt (zdw sd)) hn0 hn16) ml_X1_40 st_X1_degreeBy rfl rfl (Nat.le_of_ble_eq_true rfl) dX1_makeFrom_72 ⟨Nat.le_of_ble_eq_true rfl, Nat.le_of_ble_eq_true rfl⟩ ⟨Nat.le_refl _, Nat.le_refl _⟩ (zk_i ?_)
    refine zv_putI (t := 4) hq rfl fl_X1_15 ft_X1_1 rfl dX1_makeFrom_75 ?_
    refine zv_iconst (v := 0) dX1_makeFrom_78 (by decide) ?_
    refine zv_istore dX1_makeFrom_79 (by decide) rfl ?_
    refine zv_eqG ?_ (lp_X1_makeFrom l D B hq hs hsq hn hn0 hn16 hw hw2 hsd 0 (by omega))
    simp only [zst_same, zst_zst]
    rw [mkQ_0 hl0]
end
section
/-- a state's row: settings, book, numbers (21 places), and three cups of 69 places -/
def hdR (r : Nat → Int32) : Nat → Int32 := fun j => if j < 21 then r j else 0
def cupR (r : Nat → Int32) (i : Nat) : Nat → Int32 := fun j => if j < 69 then r (21 + 69 * i + j) else 0
def zSt (L : zL) (s : Nat) : Prop := (s, 2) ∈ L ∧ ∀ i, i < 3 → (s + (3 + 4 * i), 3) ∈ L
def stOK (G : zG) (s : Nat) (r : Nat → Int32) : Prop := G s = hdR r ∧ ∀ i, i < 3 → G (s + (3 + 4 * i)) = cupR r i
def stPutI (G : zG) (s : Nat) (r : Nat → Int32) (i : Nat) : zG := fun x =>
  if x = s then hdR r else if x = s + 3 ∧ 0 < i then cupR r 0 else if x = s + 7 ∧ 1 < i then cupR r 1 else if x = s + 11 ∧ 2 < i then cupR r 2 else G x
def stPut (G : zG) (s : Nat) (r : Nat → Int32) : zG := stPutI G s r 3
def apart (s p : Nat) : Prop := s + 15 ≤ p ∨ p + 15 ≤ s
theorem stPut_OK (G : zG) (s : Nat) (r : Nat → Int32) : stOK (stPut G s r) s r := by
  refine ⟨by simp [stPut, stPutI], fun i hi => ?_⟩
  match i, hi with
  | 0, _ => simp [stPut, stPutI]
  | 1, _ => simp [stPut, stPutI]
  | 2, _ => simp [stPut, stPutI]
theorem stPut_ne (G : zG) {s x : Nat} (r : Nat → Int32) (h : x < s ∨ s + 15 ≤ x) : stPut G s r x = G x := by
  simp only [stPut, stPutI]; grind
theorem stOK_put {G : zG} {s p : Nat} {r r' : Nat → Int32} (h : stOK G p r') (ha : apart s p) : stOK (stPut G s r) p r' := by
  unfold apart at ha
  refine ⟨by rw [stPut_ne _ _ (by omega)]; exact h.1, fun i hi => ?_⟩
  rw [stPut_ne _ _ (by omega)]
  exact h.2 i hi
theorem stOK_of {G G' : zG} {s : Nat} {r : Nat → Int32} (h : stOK G s r) (h2 : ∀ x, s ≤ x → x < s + 15 → G' x = G x) : stOK G' s r :=
  ⟨by rw [h2 _ (by omega) (by omega)]; exact h.1, fun i hi => by rw [h2 _ (by omega) (by omega)]; exact h.2 i hi⟩
theorem stPut_self {G : zG} {s : Nat} {r : Nat → Int32} (h : stOK G s r) : stPut G s r = G := by
  funext x
  have h0 := h.2 0 (by omega)
  have h1 := h.2 1 (by omega)
  have h2 := h.2 2 (by omega)
  have h3 := h.1
  simp only [Nat.mul_zero, Nat.add_zero, Nat.mul_one, Nat.reduceAdd, Nat.reduceMul] at h0 h1 h2
  simp only [stPut, stPutI]
  grind
theorem stPutI_s {G : zG} {s i : Nat} {r : Nat → Int32} (hi : i < 3) : zst (stPutI G s r i) (s + (3 + 4 * i)) (cupR r i) = stPutI G s r (i + 1) := by
  funext x
  match i, hi with
  | 0, _ => simp only [zst, stPutI]; grind
  | 1, _ => simp only [zst, stPutI]; grind
  | 2, _ => simp only [zst, stPutI]; grind
theorem stPutI_0 {G : zG} {s : Nat} {r : Nat → Int32} : zst G s (hdR r) = stPutI G s r 0 := by
  funext x; simp only [zst, stPutI]; grind
theorem stPutI_ne {G : zG} {s i x : Nat} {r : Nat → Int32} (h : x < s ∨ s + 15 ≤ x ∨ ∃ k, i ≤ k ∧ k < 3 ∧ x = s + (3 + 4 * k)) : stPutI G s r i x = G x := by
  simp only [stPutI]
  rcases h with h | h | ⟨k, h1, h2, h3⟩
  · grind
  · grind
  · match k, h2 with
    | 0, _ => grind
    | 1, _ => grind
    | 2, _ => grind
theorem cpP_cup {r r' : Nat → Int32} {i j : Nat} : cpP (cupR r i) (cupR r' j) = cupR r' j := by
  funext y; simp only [cpP, cupR]; grind
theorem cpH_hd {r r' : Nat → Int32} : zcp 5 16 (hdR r') 5 (upd (upd (upd (upd (upd (hdR r) 0 (hdR r' 0)) 1 (hdR r' 1)) 2 (hdR r' 2)) 3 (hdR r' 3)) 4 (hdR r' 4)) = hdR r' := by
  funext y; simp only [zcp, upd, hdR]; grind
def zHi (L : zL) (h : Nat) : Prop := (h, 6) ∈ L ∧ ∀ j, j < 7 → zSt L (h + (2 + 15 * j))
end
section
set_option maxRecDepth 100000 in
set_option maxHeartbeats 4000000 in
theorem m_X5_cupAt (l : Launch) (D : zD) (B : Nat) {L : zL} {nx : Nat} {G : zG} {s cn i : Nat} (hs : zSt L s) (hn : G s 3 = nI cn) (hcn : cn ≤ 3) (hi : i < cn) : zMet l D B yX5_cupAt cX5_cupAt 2 (some (.object "BookDroplets$Cup")) 0 0 0 0 [.ref s, .int (nI i)] L nx G (zE (some (.ref (s + (3 + 4 * i)))) L nx (G)) := by
  refine zMet_of (own := RX5) (mn := "cupAt") [some (.ref s), some (.int (nI i))] (by decide +kernel) rfl rfl rfl (Nat.le_of_ble_eq_true rfl) ?_
  show zV l (fun _ => True) D B RX5 "cupAt" cX5_cupAt 2 (some (.object "BookDroplets$Cup")) (zrm 0 0 0 0) (zN (zE (some (.ref (s + (3 + 4 * i)))) L nx (G))) 0 0 L nx 0 [some (.ref s), some (.int (nI i))] [] (G)
  refine zv_iload_n dX5_cupAt_0 rfl ?_
  refine zv_if_lt (tgt := 26) dX5_cupAt_1 (by decide) (fun h => absurd h (nI_pos (by omega))) (fun _ => ?_)
  refine zv_iload_n dX5_cupAt_4 rfl ?_
  refine zv_aload_n dX5_cupAt_5 rfl ?_
  refine zv_getI hs.1 rfl fl_X5_26 rfl dX5_cupAt_6 ?_
  refine zv_icmp_ge (tgt := 26) dX5_cupAt_9 (by decide) (fun h => absurd h (by rw [hn]; exact nI_ge hi (by omega))) (fun _ => ?_)
  refine zv_iload_n dX5_cupAt_12 rfl ?_
  refine zv_iconst (v := 3) dX5_cupAt_13 (by decide) ?_
  refine zv_icmp_ge (tgt := 26) dX5_cupAt_14 (by decide) (fun h => absurd h (nI_ge (b := 3) (by omega) (by decide))) (fun _ => ?_)
  refine zv_aload_n dX5_cupAt_17 rfl ?_
  refine zv_getS (r := 2) hs.1 rfl fl_X5_21 rfl dX5_cupAt_18 ?_
  refine zv_iload_n dX5_cupAt_21 rfl ?_
  refine zv_aaldS (i := 2) (by omega) (by omega) hs.1 rfl (zix_nI (by omega) (by decide)) dX5_cupAt_22 ?_
  refine zv_goto (tgt := 27) dX5_cupAt_23 (by decide) ?_
  exact zv_aretE dX5_cupAt_27 rfl (Or.inr ⟨_, rfl⟩) rfl rfl

set_option maxRecDepth 100000 in
set_option maxHeartbeats 4000000 in
theorem m_X5_cupAt_no (l : Launch) (D : zD) (B : Nat) {L : zL} {nx : Nat} {G : zG} {s cn : Nat} {x : Int32} (hs : zSt L s) (hn : G s 3 = nI cn) (hcn : cn ≤ 3) (hx : ¬ ∃ i, i < cn ∧ x = nI i) : zMet l D B yX5_cupAt cX5_cupAt 2 (some (.object "BookDroplets$Cup")) 0 0 0 0 [.ref s, .int x] L nx G (zE (some .null) L nx (G)) := by
  refine zMet_of (own := RX5) (mn := "cupAt") [some (.ref s), some (.int x)] (by decide +kernel) rfl rfl rfl (Nat.le_of_ble_eq_true rfl) ?_
  show zV l (fun _ => True) D B RX5 "cupAt" cX5_cupAt 2 (some (.object "BookDroplets$Cup")) (zrm 0 0 0 0) (zN (zE (some .null) L nx (G))) 0 0 L nx 0 [some (.ref s), some (.int x)] [] (G)
  refine zv_iload_n dX5_cupAt_0 rfl ?_
  refine zv_if_lt (tgt := 26) dX5_cupAt_1 (by decide) (fun c1 => ?_) (fun c1 => ?_)
  · refine zv_null dX5_cupAt_26 ?_
    exact zv_aretE dX5_cupAt_27 rfl (Or.inl rfl) rfl rfl
  · refine zv_iload_n dX5_cupAt_4 rfl ?_
    refine zv_aload_n dX5_cupAt_5 rfl ?_
    refine zv_getI hs.1 rfl fl_X5_26 rfl dX5_cupAt_6 ?_
    rw [hn]
    refine zv_icmp_ge (tgt := 26) dX5_cupAt_9 (by decide) (fun c9 => ?_) (fun c9 => ?_)
    · refine zv_null dX5_cupAt_26 ?_
      exact zv_aretE dX5_cupAt_27 rfl (Or.inl rfl) rfl rfl
    · exfalso
      obtain ⟨j, hj, rfl⟩ := nI_of c1
      refine hx ⟨j, ?_, rfl⟩
      rcases Nat.lt_or_ge j cn with h | h
      · exact h
      · exact absurd (nI_le h hj) c9

set_option maxRecDepth 100000 in
set_option maxHeartbeats 4000000 in
theorem lp_X5_copyFrom (l : Launch) (D : zD) (B : Nat) {L : zL} {nx : Nat} {G : zG} {s p : Nat} {r r2 : Nat → Int32} (hs : zSt L s) (hp : zSt L p) (ha : apart s p) (h1 : stOK G s r) (h2 : stOK G p r2) : ∀ i : Nat, i ≤ 3 → ∀ b c : Option Value, zV l (fun _ => True) D B RX5 "copyFrom" cX5_copyFrom 5 none (zrm 2 61 0 0) (zN (zE none L nx (stPut G s r2))) 0 0 L nx 57 [some (.ref s), some (.ref p), some (.int (nI i)), b, c] [] (stPutI G s r2 i) := by
  refine zloop 3 (fun i hi ih b c => ?_)
  refine zv_iload_n dX5_copyFrom_57 rfl ?_
  refine zv_iconst (v := 3) dX5_copyFrom_58 (by decide) ?_
  refine zv_icmp_ge (tgt := 98) dX5_copyFrom_59 (by decide) (fun c59 => ?_) (fun c59 => ?_)
  · have e : i = 3 := by have := zge_of (N := 3) (by decide) (by omega) rfl c59; omega
    subst e
    refine zv_vretE dX5_copyFrom_98 rfl ?_
    rfl
  · have hlt : i < 3 := zlt_of (N := 3) (by decide) (by omega) rfl c59
    have hap := ha
    unfold apart at hap
    refine zv_aload_n dX5_copyFrom_62 rfl ?_
    refine zv_getS (r := 2) hs.1 rfl fl_X5_21 rfl dX5_copyFrom_63 ?_
    refine zv_iload_n dX5_copyFrom_66 rfl ?_
    refine zv_aaldS (i := 2) (by omega) (by omega) hs.1 rfl (zix_nI (by omega) (by decide)) dX5_copyFrom_67 ?_
    refine zv_astore_n dX5_copyFrom_68 (by decide) rfl ?_
    refine zv_aload_n dX5_copyFrom_69 rfl ?_
    refine zv_getS (r := 2) hp.1 rfl fl_X5_21 rfl dX5_copyFrom_70 ?_
    refine zv_iload_n dX5_copyFrom_73 rfl ?_
    refine zv_aaldS (i := 2) (by omega) (by omega) hp.1 rfl (zix_nI (by omega) (by decide)) dX5_copyFrom_74 ?_
    refine zv_astore dX5_copyFrom_75 (by decide) rfl ?_
    refine zv_aload_n dX5_copyFrom_77 rfl ?_
    refine zv_ifnull_r dX5_copyFrom_78 ?_
    refine zv_aload dX5_copyFrom_81 rfl ?_
    refine zv_ifnull_r dX5_copyFrom_83 ?_
    refine zv_aload_n dX5_copyFrom_86 rfl ?_
    refine zv_aload dX5_copyFrom_87 rfl ?_
    refine zv_callV (m_X0_copyFrom l D B (hs.2 i hlt) (hp.2 i hlt) (by omega)) ml_X5_44 in_X0_copyFrom sel_X0_copyFrom (hs.2 i hlt) rfl rfl rfl rfl (Nat.le_of_ble_eq_true rfl) dX5_copyFrom_89 ⟨Nat.le_of_ble_eq_true rfl, Nat.le_of_ble_eq_true rfl⟩ ⟨Nat.le_refl _, Nat.le_refl _⟩ (zk_v ?_)
    rw [stPutI_ne (x := s + (3 + 4 * i)) (Or.inr (Or.inr ⟨i, Nat.le_refl _, hlt, rfl⟩)), stPutI_ne (x := p + (3 + 4 * i)) (by omega), h1.2 i hlt, h2.2 i hlt, cpP_cup, stPutI_s hlt]
    refine zv_iinc1 dX5_copyFrom_92 rfl (by decide) rfl ?_
    refine zv_goto (tgt := 57) dX5_copyFrom_95 (by decide) ?_
    rw [nI_1]
    exact ih hlt _ _

set_option maxRecDepth 100000 in
set_option maxHeartbeats 4000000 in
theorem m_X5_copyFrom (l : Launch) (D : zD) (B : Nat) {L : zL} {nx : Nat} {G : zG} {s p : Nat} {r r2 : Nat → Int32} (hs : zSt L s) (hp : zSt L p) (ha : apart s p) (h1 : stOK G s r) (h2 : stOK G p r2) : zMet l D B yX5_copyFrom cX5_copyFrom 5 none 2 61 0 0 [.ref s, .ref p] L nx G (zE none L nx (stPut G s r2)) := by
  refine zMet_of (own := RX5) (mn := "copyFrom") [some (.ref s), some (.ref p), none, none, none] (by decide +kernel) rfl rfl rfl (Nat.le_of_ble_eq_true rfl) ?_
  show zV l (fun _ => True) D B RX5 "copyFrom" cX5_copyFrom 5 none (zrm 2 61 0 0) (zN (zE none L nx (stPut G s r2))) 0 0 L nx 0 [some (.ref s), some (.ref p), none, none, none] [] (G)
  refine zv_aload_n dX5_copyFrom_0 rfl ?_
  refine zv_aload_n dX5_copyFrom_1 rfl ?_
  refine zv_getI hp.1 rfl fl_X5_9 rfl dX5_copyFrom_2 ?_
  refine zv_putI (t := 2) hs.1 rfl fl_X5_9 ft_X5_0 rfl dX5_copyFrom_5 ?_
  refine zv_aload_n dX5_copyFrom_8 rfl ?_
  refine zv_aload_n dX5_copyFrom_9 rfl ?_
  refine zv_getI hp.1 rfl fl_X5_32 rfl dX5_copyFrom_10 ?_
  refine zv_putI (t := 2) hs.1 rfl fl_X5_32 ft_X5_1 rfl dX5_copyFrom_13 ?_
  refine zv_aload_n dX5_copyFrom_16 rfl ?_
  refine zv_aload_n dX5_copyFrom_17 rfl ?_
  refine zv_getI hp.1 rfl fl_X5_29 rfl dX5_copyFrom_18 ?_
  refine zv_putI (t := 2) hs.1 rfl fl_X5_29 ft_X5_2 rfl dX5_copyFrom_21 ?_
  refine zv_aload_n dX5_copyFrom_24 rfl ?_
  refine zv_aload_n dX5_copyFrom_25 rfl ?_
  refine zv_getI hp.1 rfl fl_X5_26 rfl dX5_copyFrom_26 ?_
  refine zv_putI (t := 2) hs.1 rfl fl_X5_26 ft_X5_3 rfl dX5_copyFrom_29 ?_
  refine zv_aload_n dX5_copyFrom_32 rfl ?_
  refine zv_aload_n dX5_copyFrom_33 rfl ?_
  refine zv_getI hp.1 rfl fl_X5_35 rfl dX5_copyFrom_34 ?_
  refine zv_putI (t := 2) hs.1 rfl fl_X5_35 ft_X5_4 rfl dX5_copyFrom_37 ?_
  refine zv_aload_n dX5_copyFrom_40 rfl ?_
  refine zv_getS (r := 1) hp.1 rfl fl_X5_15 rfl dX5_copyFrom_41 ?_
  refine zv_iconst (v := 0) dX5_copyFrom_44 (by decide) ?_
  refine zv_aload_n dX5_copyFrom_45 rfl ?_
  refine zv_getS (r := 1) hs.1 rfl fl_X5_15 rfl dX5_copyFrom_46 ?_
  refine zv_iconst (v := 0) dX5_copyFrom_49 (by decide) ?_
  refine zv_bipush (v := 16) dX5_copyFrom_50 (by decide) ?_
  refine zv_copy cl_X5_38 znat_copy zst_copy zini_sys (i0 := 1) hp.1 rfl (i := 1) hs.1 rfl (by decide) rfl (by decide) (by decide) (by decide) (by decide) dX5_copyFrom_52 ?_
  refine zv_iconst (v := 0) dX5_copyFrom_55 (by decide) ?_
  refine zv_istore_n dX5_copyFrom_56 (by decide) rfl ?_
  refine zv_eqG ?_ (lp_X5_copyFrom l D B hs hp ha h1 h2 0 (by omega) _ _)
  have hne : p ≠ s := by unfold apart at ha; omega
  simp only [zst_same, zst_zst, zst_ne _ _ hne]
  rw [h1.1, h2.1, ← stPutI_0]
  exact congrArg (zst G s) cpH_hd

set_option maxRecDepth 100000 in
set_option maxHeartbeats 4000000 in
theorem m_X2_placeBehindLast (l : Launch) (D : zD) (B : Nat) {L : zL} {nx : Nat} {G : zG} {h f c : Nat} (hh : zHi L h) (hf : G h 1 = nI f) (hf7 : f < 7) (hc : G h 2 = nI c) (hc6 : c ≤ 6) : zMet l D B yX2_placeBehindLast cX2_placeBehindLast 1 (some .int) 1 22 0 0 [.ref h] L nx G (zE (some (.int (nI ((f + c) % 7)))) L nx (G)) := by
  refine zMet_of (own := RX2) (mn := "placeBehindLast") [some (.ref h)] (by decide +kernel) rfl rfl rfl (Nat.le_of_ble_eq_true rfl) ?_
  show zV l (fun _ => True) D B RX2 "placeBehindLast" cX2_placeBehindLast 1 (some .int) (zrm 1 22 0 0) (zN (zE (some (.int (nI ((f + c) % 7)))) L nx (G))) 0 0 L nx 0 [some (.ref h)] [] (G)
  refine zv_aload_n dX2_placeBehindLast_0 rfl ?_
  refine zv_getI hh.1 rfl fl_X2_30 rfl dX2_placeBehindLast_1 ?_
  refine zv_aload_n dX2_placeBehindLast_4 rfl ?_
  refine zv_getI hh.1 rfl fl_X2_26 rfl dX2_placeBehindLast_5 ?_
  refine zv_iadd dX2_placeBehindLast_8 ?_
  refine zv_bipush (v := 7) dX2_placeBehindLast_9 (by decide) ?_
  rw [hf, hc, nI_add]
  refine zv_callS (m_J9_floorMod_7cf53 l D B (f + c) 7 (by omega) (by omega) (by omega) rfl rfl) ml_X2_33 st_J9_floorMod_7cf53 rfl rfl (Nat.le_of_ble_eq_true rfl) dX2_placeBehindLast_11 ⟨Nat.le_of_ble_eq_true rfl, Nat.le_of_ble_eq_true rfl⟩ ⟨Nat.le_refl _, Nat.le_refl _⟩ (zk_i ?_)
  refine zv_iretE dX2_placeBehindLast_14 rfl (rfl) ?_ ?_
  · rfl
  · rfl

set_option maxRecDepth 100000 in
set_option maxHeartbeats 4000000 in
theorem m_X2_note (l : Launch) (D : zD) (B : Nat) {L : zL} {nx : Nat} {G : zG} {h f c : Nat} (hh : zHi L h) (hf : G h 1 = nI f) (hf7 : f < 7) (hc : G h 2 = nI c) (hc6 : c ≤ 6) {s : Nat} {r r2 : Nat → Int32} (hs : zSt L s) (ha : apart (h + (2 + 15 * ((f + c) % 7))) s) (h1 : stOK G (h + (2 + 15 * ((f + c) % 7))) r) (h2 : stOK G s r2) : zMet l D B yX2_note cX2_note 3 none 3 85 0 0 [.ref h, .ref s] L nx G (zE none L nx (stPut G (h + (2 + 15 * ((f + c) % 7))) r2)) := by
  refine zMet_of (own := RX2) (mn := "note") [some (.ref h), some (.ref s), none] (by decide +kernel) rfl rfl rfl (Nat.le_of_ble_eq_true rfl) ?_
  show zV l (fun _ => True) D B RX2 "note" cX2_note 3 none (zrm 3 85 0 0) (zN (zE none L nx (stPut G (h + (2 + 15 * ((f + c) % 7))) r2))) 0 0 L nx 0 [some (.ref h), some (.ref s), none] [] (G)
  refine zv_aload_n dX2_note_0 rfl ?_
  refine zv_getS (r := 1) hh.1 rfl fl_X2_13 rfl dX2_note_1 ?_
  refine zv_aload_n dX2_note_4 rfl ?_
  refine zv_callV (m_X2_placeBehindLast l D B hh hf hf7 hc hc6) ml_X2_18 in_X2_placeBehindLast sel_X2_placeBehindLast hh.1 rfl rfl rfl rfl (Nat.le_of_ble_eq_true rfl) dX2_note_5 ⟨Nat.le_of_ble_eq_true rfl, Nat.le_of_ble_eq_true rfl⟩ ⟨Nat.le_refl _, Nat.le_refl _⟩ (zk_i ?_)
  refine zv_aaldS (i := 1) (by omega) (by omega) hh.1 rfl (zix_nI (show (f + c) % 7 < 7 by omega) (by decide)) dX2_note_8 ?_
  refine zv_astore_n dX2_note_9 (by decide) rfl ?_
  refine zv_aload_n dX2_note_10 rfl ?_
  refine zv_ifnull_r dX2_note_11 ?_
  refine zv_aload_n dX2_note_14 rfl ?_
  refine zv_aload_n dX2_note_15 rfl ?_
  refine zv_callV (m_X5_copyFrom l D B (hh.2 ((f + c) % 7) (by omega)) hs ha h1 h2) ml_X2_22 in_X5_copyFrom sel_X5_copyFrom (hh.2 ((f + c) % 7) (by omega)).1 rfl rfl rfl rfl (Nat.le_of_ble_eq_true rfl) dX2_note_16 ⟨Nat.le_of_ble_eq_true rfl, Nat.le_of_ble_eq_true rfl⟩ ⟨Nat.le_refl _, Nat.le_refl _⟩ (zk_v ?_)
  refine zv_vretE dX2_note_19 rfl ?_
  rfl

def keepH (g : Nat → Int32) (f c : Nat) : Nat → Int32 := if c < 6 then upd g 2 (nI (c + 1)) else upd g 1 (nI ((f + 1) % 7))

set_option maxRecDepth 100000 in
set_option maxHeartbeats 4000000 in
theorem m_X2_keepUnlessError_e (l : Launch) (D : zD) (B : Nat) {L : zL} {nx : Nat} {G : zG} {h : Nat} {x : Int32} (hh : (h, 6) ∈ L) (hx : x < 0) : zMet l D B yX2_keepUnlessError cX2_keepUnlessError 2 (some .int) 1 22 0 0 [.ref h, .int x] L nx G (zE (some (.int x)) L nx (G)) := by
  refine zMet_of (own := RX2) (mn := "keepUnlessError") [some (.ref h), some (.int x)] (by decide +kernel) rfl rfl rfl (Nat.le_of_ble_eq_true rfl) ?_
  show zV l (fun _ => True) D B RX2 "keepUnlessError" cX2_keepUnlessError 2 (some .int) (zrm 1 22 0 0) (zN (zE (some (.int x)) L nx (G))) 0 0 L nx 0 [some (.ref h), some (.int x)] [] (G)
  refine zv_iload_n dX2_keepUnlessError_0 rfl ?_
  refine zv_if_ge (tgt := 6) dX2_keepUnlessError_1 (by decide) (fun h => absurd h (i32_nle.mpr hx)) (fun _ => ?_)
  refine zv_iload_n dX2_keepUnlessError_4 rfl ?_
  refine zv_iretE dX2_keepUnlessError_5 rfl (rfl) ?_ ?_
  · rfl
  · rfl

set_option maxRecDepth 100000 in
set_option maxHeartbeats 4000000 in
theorem m_X2_keepUnlessError (l : Launch) (D : zD) (B : Nat) {L : zL} {nx : Nat} {G : zG} {h f c : Nat} (hh : zHi L h) (hf : G h 1 = nI f) (hf7 : f < 7) (hc : G h 2 = nI c) (hc6 : c ≤ 6) {x : Int32} (hx : ¬ x < 0) : zMet l D B yX2_keepUnlessError cX2_keepUnlessError 2 (some .int) 1 22 0 0 [.ref h, .int x] L nx G (zE (some (.int x)) L nx (zst G h (keepH (G h) f c))) := by
  refine zMet_of (own := RX2) (mn := "keepUnlessError") [some (.ref h), some (.int x)] (by decide +kernel) rfl rfl rfl (Nat.le_of_ble_eq_true rfl) ?_
  show zV l (fun _ => True) D B RX2 "keepUnlessError" cX2_keepUnlessError 2 (some .int) (zrm 1 22 0 0) (zN (zE (some (.int x)) L nx (zst G h (keepH (G h) f c)))) 0 0 L nx 0 [some (.ref h), some (.int x)] [] (G)
  refine zv_iload_n dX2_keepUnlessError_0 rfl ?_
  refine zv_if_ge (tgt := 6) dX2_keepUnlessError_1 (by decide) (fun _ => ?_) (fun h => absurd (i32_nlt.mp hx) h)
  refine zv_aload_n dX2_keepUnlessError_6 rfl ?_
  refine zv_getI hh.1 rfl fl_X2_26 rfl dX2_keepUnlessError_7 ?_
  refine zv_bipush (v := 6) dX2_keepUnlessError_10 (by decide) ?_
  rw [hc]
  refine zv_icmp_ge (tgt := 28) dX2_keepUnlessError_12 (by decide) (fun c12 => ?_) (fun c12 => ?_)
  · have k : ¬ c < 6 := by have := zge_of (N := 6) (by decide) (by omega) rfl c12; omega
    refine zv_aload_n dX2_keepUnlessError_28 rfl ?_
    refine zv_aload_n dX2_keepUnlessError_29 rfl ?_
    refine zv_getI hh.1 rfl fl_X2_30 rfl dX2_keepUnlessError_30 ?_
    refine zv_iconst (v := 1) dX2_keepUnlessError_33 (by decide) ?_
    refine zv_iadd dX2_keepUnlessError_34 ?_
    refine zv_bipush (v := 7) dX2_keepUnlessError_35 (by decide) ?_
    rw [hf, nI_1]
    refine zv_callS (m_J9_floorMod_7cf53 l D B (f + 1) 7 (by omega) (by omega) (by omega) rfl rfl) ml_X2_33 st_J9_floorMod_7cf53 rfl rfl (Nat.le_of_ble_eq_true rfl) dX2_keepUnlessError_37 ⟨Nat.le_of_ble_eq_true rfl, Nat.le_of_ble_eq_true rfl⟩ ⟨Nat.le_refl _, Nat.le_refl _⟩ (zk_i ?_)
    refine zv_putI (t := 6) hh.1 rfl fl_X2_30 ft_X2_1 rfl dX2_keepUnlessError_40 ?_
    refine zv_iload_n dX2_keepUnlessError_43 rfl ?_
    refine zv_iretE dX2_keepUnlessError_44 rfl (rfl) ?_ ?_
    · rfl
    · unfold keepH
      first
        | rw [if_pos k]
        | rw [if_neg k]
  · have k : c < 6 := zlt_of (N := 6) (by decide) (by omega) rfl c12
    refine zv_aload_n dX2_keepUnlessError_15 rfl ?_
    refine zv_dup dX2_keepUnlessError_16 rfl ?_
    refine zv_getI hh.1 rfl fl_X2_26 rfl dX2_keepUnlessError_17 ?_
    refine zv_iconst (v := 1) dX2_keepUnlessError_20 (by decide) ?_
    refine zv_iadd dX2_keepUnlessError_21 ?_
    rw [hc, nI_1]
    refine zv_putI (t := 6) hh.1 rfl fl_X2_26 ft_X2_2 rfl dX2_keepUnlessError_22 ?_
    refine zv_goto (tgt := 43) dX2_keepUnlessError_25 (by decide) ?_
    refine zv_iload_n dX2_keepUnlessError_43 rfl ?_
    refine zv_iretE dX2_keepUnlessError_44 rfl (rfl) ?_ ?_
    · rfl
    · unfold keepH
      first
        | rw [if_pos k]
        | rw [if_neg k]
end
section
/-- a text: n codes; beyond it nothing stands -/
def sg (T : Nat → Nat) (n i : Nat) : Nat := if i < n then T i else 0
def zdg (T : Nat → Nat) (n i : Nat) : Bool := decide (48 ≤ sg T n i) && decide (sg T n i ≤ 57)
/-- a number goes on: its value and the place behind it -/
def numL (T : Nat → Nat) (n : Nat) : Nat → Nat → Nat → Nat × Nat
  | v, q, 0 => (v, q)
  | v, q, k + 1 => if 0 < v ∧ zdg T n q = true ∧ 10 * v + (sg T n q - 48) ≤ 65535 then numL T n (10 * v + (sg T n q - 48)) (q + 1) k else (v, q)
def rdN (T : Nat → Nat) (n q : Nat) : Nat × Nat := numL T n (sg T n q - 48) (q + 1) 80
theorem numL_le {T : Nat → Nat} {n : Nat} : ∀ {k v q : Nat}, v ≤ 65535 → q ≤ n → (numL T n v q k).1 ≤ 65535 ∧ q ≤ (numL T n v q k).2 ∧ (numL T n v q k).2 ≤ n
  | 0, v, q, h, hq => ⟨h, Nat.le_refl _, hq⟩
  | k + 1, v, q, h, hq => by
    unfold numL
    split
    · rename_i hc
      have hqn : q < n := by
        rcases Nat.lt_or_ge q n with g | g
        · exact g
        · have h2 := hc.2.1
          simp only [zdg, sg, if_neg (Nat.not_lt.mpr g)] at h2
          simp at h2
      have := numL_le (T := T) (k := k) hc.2.2 (show q + 1 ≤ n by omega)
      exact ⟨this.1, by omega, this.2.2⟩
    · exact ⟨h, Nat.le_refl _, hq⟩
theorem zdg_lt {T : Nat → Nat} {n q : Nat} (h : zdg T n q = true) : q < n ∧ 48 ≤ sg T n q ∧ sg T n q ≤ 57 := by
  simp only [zdg, Bool.and_eq_true, decide_eq_true_eq] at h
  refine ⟨?_, h⟩
  rcases Nat.lt_or_ge q n with g | g
  · exact g
  · simp only [sg, if_neg (Nat.not_lt.mpr g)] at h
    omega
theorem rdN_le {T : Nat → Nat} {n q : Nat} (h : zdg T n q = true) : (rdN T n q).1 ≤ 65535 ∧ q + 1 ≤ (rdN T n q).2 ∧ (rdN T n q).2 ≤ n := by
  obtain ⟨h1, h2, h3⟩ := zdg_lt h
  exact numL_le (by omega) h1
/-- more steps change nothing once the text is at its end -/
theorem numL_more {T : Nat → Nat} {n : Nat} : ∀ {k v q : Nat}, n ≤ q + k → ∀ j, numL T n v q (k + j) = numL T n v q k
  | 0, v, q, h, j => by
    cases j with
    | zero => rfl
    | succ j =>
      have hz : zdg T n q = false := by
        cases e : zdg T n q with
        | false => rfl
        | true => have := (zdg_lt e).1; omega
      simp [numL, hz]
  | k + 1, v, q, h, j => by
    rw [show k + 1 + j = (k + j) + 1 by omega]
    conv => lhs; unfold numL
    conv => rhs; unfold numL
    rw [numL_more (k := k) (q := q + 1) (by omega) j]
/-- an order at a place: whether it can be read, where the reader stands then, cup, number, many -/
def rdO (T : Nat → Nat) (n p : Nat) : Bool × Nat × Nat × Nat × Nat :=
  if sg T n p = 99 then (if zdg T n (p + 1) then (true, (rdN T n (p + 1)).2, 0, (rdN T n (p + 1)).1, 1) else (false, p + 1, 0, 0, 1))
  else if sg T n p = 117 then (true, p + 1, 0, 0, 1)
  else if sg T n p = 115 then (if zdg T n (p + 1) then (true, p + 2, sg T n (p + 1) - 48, 0, 1) else (false, p + 1, 0, 0, 1))
  else if sg T n p = 112 then
    (if zdg T n (p + 1) then
      (if sg T n (p + 2) = 46 then
        (if zdg T n (p + 3) then
          (if sg T n (rdN T n (p + 3)).2 = 42 then
            (if zdg T n ((rdN T n (p + 3)).2 + 1) then (true, (rdN T n ((rdN T n (p + 3)).2 + 1)).2, sg T n (p + 1) - 48, (rdN T n (p + 3)).1, (rdN T n ((rdN T n (p + 3)).2 + 1)).1)
             else (false, (rdN T n (p + 3)).2 + 1, 0, 0, 1))
           else (true, (rdN T n (p + 3)).2, sg T n (p + 1) - 48, (rdN T n (p + 3)).1, 1))
         else (false, p + 3, 0, 0, 1))
       else (false, p + 2, 0, 0, 1))
     else (false, p + 1, 0, 0, 1))
  else (false, p, 0, 0, 1)
/-- the pad holds a text -/
def zPT (L : zL) (G : zG) (p : Nat) (T : Nat → Nat) (n : Nat) : Prop := (p, 7) ∈ L ∧ n ≤ 80 ∧ G p 1 = nI n ∧ ∀ i, i < n → G p (7 + i) = nI (T i) ∧ T i < 128
theorem zPT_upd {L : zL} {G : zG} {p : Nat} {T : Nat → Nat} {n : Nat} {g : Nat → Int32} (h : zPT L G p T n) (h1 : g 1 = G p 1) (h7 : ∀ j, 7 ≤ j → g j = G p j) : zPT L (zst G p g) p T n := by
  obtain ⟨a1, a2, a3, a4⟩ := h
  refine ⟨a1, a2, by rw [zst_same, h1]; exact a3, fun i hi => ?_⟩
  rw [zst_same, h7 _ (by omega)]
  exact a4 i hi
theorem sg_lt {L : zL} {G : zG} {p : Nat} {T : Nat → Nat} {n : Nat} (h : zPT L G p T n) (i : Nat) : sg T n i < 128 := by
  unfold sg
  split
  · exact (h.2.2.2 i (by assumption)).2
  · omega
section ZPC
variable {l : Launch} {X0 : State → Prop} {D : zD} {B : Nat} {own mn : String} {cc : ByteArray} {nL : Nat} {ret : Option FieldType} {R : Room} {post : zP} {k n : Nat} {L : zL} {nx : Nat} {pc : Nat} {lv : List (Option Value)} {st : List Value} {G : zG}
theorem zv_putC {q t ci ix f w : Nat} {fks : List Nat} (hq : (q, t) ∈ L) (ho : (zbT t)[0]? = some (0, .inl (ci, fks))) (fl : zFL own ix ci f) {ow2 : String} (ft : zFT ow2 ci f .char false) (hk : fks[f]? = some 0) (hw : w < 65536) (hd : decode cc pc = .ok (.putfield ix, 3))
    (kk : zV l X0 D B own mn cc nL ret R post k n L nx (pc + 3) lv st (zst G q (upd (G q) f (nI w)))) : zV l X0 D B own mn cc nL ret R post k n L nx pc lv (.int (nI w) :: .ref q :: st) G :=
  zv_put hq ho fl ft hk (by omega) (by simp [zfv, upd]) (pk_charN hw).1 (pk_charN hw).2 hd kk
/-- the end with more to say -/
theorem zv_iretP {x : Int32} {ty : FieldType} {q : zQ} (hd : decode cc pc = .ok (.ireturn, 1)) (hr : ret = some ty) (hn : narrow ty (.int x) = .int x) (hp : q (some (.int x)) L nx G) : zV l X0 D B own mn cc nL ret R (zN q) 0 0 L nx pc lv [.int x] G :=
  zv_iret hd hr hn ⟨hp, Nat.le_refl _, Nat.le_refl _⟩
end ZPC
def dgV (T : Nat → Nat) (n i : Nat) : Int32 := if zdg T n i then nI (sg T n i - 48) else -6
theorem rdO_le {T : Nat → Nat} {n p : Nat} (hp : p ≤ n) : (rdO T n p).2.1 ≤ n ∧ p ≤ (rdO T n p).2.1 ∧ ((rdO T n p).1 = true → p + 1 ≤ (rdO T n p).2.1) := by
  have hlt : ∀ {i}, sg T n i ≠ 0 → i < n := fun {i} h => by
    rcases Nat.lt_or_ge i n with g | g
    · exact g
    · exact absurd (by simp only [sg, if_neg (Nat.not_lt.mpr g)]) h
  unfold rdO
  by_cases h1 : sg T n p = 99
  · rw [if_pos h1]
    have := hlt (i := p) (by omega)
    cases h2 : zdg T n (p + 1) with
    | true => have := rdN_le h2; simp only [if_true]; exact ⟨this.2.2, by omega, fun _ => by omega⟩
    | false => simp; omega
  rw [if_neg h1]
  by_cases h2 : sg T n p = 117
  · rw [if_pos h2]
    have := hlt (i := p) (by omega)
    exact ⟨this, Nat.le_succ _, fun _ => Nat.le_refl _⟩
  rw [if_neg h2]
  by_cases h3 : sg T n p = 115
  · rw [if_pos h3]
    have := hlt (i := p) (by omega)
    cases h4 : zdg T n (p + 1) with
    | true => have := zdg_lt h4; simp only [if_true]; exact ⟨by omega, by omega, fun _ => by omega⟩
    | false => simp; omega
  rw [if_neg h3]
  by_cases h4 : sg T n p = 112
  · rw [if_pos h4]
    have := hlt (i := p) (by omega)
    cases h5 : zdg T n (p + 1) with
    | false => simp; omega
    | true =>
      have := zdg_lt h5
      simp only [if_true]
      by_cases h6 : sg T n (p + 2) = 46
      · rw [if_pos h6]
        have := hlt (i := p + 2) (by omega)
        cases h7 : zdg T n (p + 3) with
        | false => simp; omega
        | true =>
          have h9 := rdN_le h7
          simp only [if_true]
          by_cases h8 : sg T n (rdN T n (p + 3)).2 = 42
          · rw [if_pos h8]
            have := hlt (i := (rdN T n (p + 3)).2) (by omega)
            cases h10 : zdg T n ((rdN T n (p + 3)).2 + 1) with
            | false => simp; omega
            | true => have := rdN_le h10; simp only [if_true]; exact ⟨this.2.2, by omega, fun _ => by omega⟩
          · rw [if_neg h8]
            dsimp only
            exact ⟨h9.2.2, by omega, fun _ => by omega⟩
      · rw [if_neg h6]; simp; omega
  rw [if_neg h4]
  exact ⟨hp, Nat.le_refl _, fun h => by cases h⟩
/-- the fault of a text from a place on -/
def ffL (T : Nat → Nat) (n : Nat) : Nat → Nat → Int32
  | p, 0 => nI p
  | p, k + 1 => if (rdO T n p).1 = false then nI (rdO T n p).2.1 else if n ≤ (rdO T n p).2.1 then -6 else if sg T n (rdO T n p).2.1 = 59 then ffL T n ((rdO T n p).2.1 + 1) k else nI (rdO T n p).2.1
def roOK (T : Nat → Nat) (n p : Nat) (g g' : Nat → Int32) : Prop := g' 1 = g 1 ∧ (∀ j, 7 ≤ j → g' j = g j) ∧ g' 2 = nI (rdO T n p).2.1 ∧
  ((rdO T n p).1 = true → g' 3 = nI (sg T n p) ∧ (sg T n p = 99 → g' 5 = nI (rdO T n p).2.2.2.1) ∧ (sg T n p = 115 → g' 4 = nI (rdO T n p).2.2.1) ∧
    (sg T n p = 112 → g' 4 = nI (rdO T n p).2.2.1 ∧ g' 5 = nI (rdO T n p).2.2.2.1 ∧ g' 6 = nI (rdO T n p).2.2.2.2))
theorem upd_4 {f : Nat → Int32} {a b c d : Int32} {i j : Nat} (h : i ≠ j) : upd (upd (upd (upd f i a) j b) i c) j d = upd (upd f i c) j d := by
  funext y
  simp only [upd]
  by_cases h1 : y = j <;> by_cases h2 : y = i <;> simp [h1, h2]
/-- an answer, and something of the blobs behind it -/
def zI (x : Int32) (L : zL) (nx : Nat) (Q : zG → Prop) : zQ := fun v L' nx' G' => v = some (.int x) ∧ L' = L ∧ nx' = nx ∧ Q G'
def zU (L : zL) (nx : Nat) (Q : zG → Prop) : zQ := fun v L' nx' G' => v = none ∧ L' = L ∧ nx' = nx ∧ Q G'
section ZPK
variable {l : Launch} {X0 : State → Prop} {D : zD} {B : Nat} {own mn : String} {cc : ByteArray} {nL : Nat} {ret : Option FieldType} {R : Room} {post : zP} {k n : Nat} {L : zL} {nx : Nat} {pc : Nat} {lv : List (Option Value)} {st : List Value} {G : zG}
theorem zk_p {x : Int32} {Q : zG → Prop} (kk : ∀ G1, Q G1 → zV l X0 D B own mn cc nL ret R post k n L nx (pc + 3) lv (.int x :: st) G1) : ∀ (v : Option Value) (L' : zL) (nx' : Nat) (G' : zG), zI x L nx Q v L' nx' G' → zV l X0 D B own mn cc nL ret R post (k + 0) (n + 0) L' nx' (pc + 3) lv (v.toList ++ st) G' := by
  rintro _ _ _ _ ⟨rfl, rfl, rfl, h⟩
  exact kk _ h
theorem zk_u {Q : zG → Prop} (kk : ∀ G1, Q G1 → zV l X0 D B own mn cc nL ret R post k n L nx (pc + 3) lv st G1) : ∀ (v : Option Value) (L' : zL) (nx' : Nat) (G' : zG), zU L nx Q v L' nx' G' → zV l X0 D B own mn cc nL ret R post (k + 0) (n + 0) L' nx' (pc + 3) lv (v.toList ++ st) G' := by
  rintro _ _ _ _ ⟨rfl, rfl, rfl, h⟩
  exact kk _ h
theorem zv_iretI {x r : Int32} {ty : FieldType} {Q : zG → Prop} (hd : decode cc pc = .ok (.ireturn, 1)) (hr : ret = some ty) (hn : narrow ty (.int x) = .int x) (hx : x = r) (hq : Q G) : zV l X0 D B own mn cc nL ret R (zN (zI r L nx Q)) 0 0 L nx pc lv [.int x] G :=
  zv_iret hd hr hn ⟨⟨by rw [hx], rfl, rfl, hq⟩, Nat.le_refl _, Nat.le_refl _⟩
theorem zv_vretU {Q : zG → Prop} (hd : decode cc pc = .ok (.return_, 1)) (hr : ret = none) (hq : Q G) : zV l X0 D B own mn cc nL ret R (zN (zU L nx Q)) 0 0 L nx pc lv [] G :=
  zv_vret hd hr ⟨⟨rfl, rfl, rfl, hq⟩, Nat.le_refl _, Nat.le_refl _⟩
end ZPK
theorem rm_y {f : Nat → Int32} {a b c : Int32} : upd (upd (upd (upd (upd f 2 a) 5 b) 2 c) 6 b) 5 (f 5) = upd (upd f 2 c) 6 b := by
  funext y
  simp only [upd]
  by_cases h5 : y = 5
  · subst h5; simp
  · by_cases h6 : y = 6
    · subst h6; simp
    · by_cases h2 : y = 2 <;> simp [h2, h5, h6]
theorem rm_n {f : Nat → Int32} {a : Int32} : upd (upd (upd f 2 a) 6 (f 5)) 5 (f 5) = upd (upd f 2 a) 6 (f 5) := by
  funext y
  simp only [upd]
  by_cases h5 : y = 5
  · subst h5; simp
  · simp [h5]
end
section
def putC (r : Nat → Int32) (i : Nat) (f : Nat → Int32) : Nat → Int32 := fun j => if 21 + 69 * i ≤ j ∧ j < 21 + 69 * i + 69 then f (j - (21 + 69 * i)) else r j
theorem hdR_upd {r : Nat → Int32} {k : Nat} {v : Int32} (hk : k < 21) : hdR (upd r k v) = upd (hdR r) k v := by
  funext j; simp only [hdR, upd]; grind
theorem cupR_upd {r : Nat → Int32} {k i : Nat} {v : Int32} (hk : k < 21) : cupR (upd r k v) i = cupR r i := by
  funext j
  simp only [cupR, upd]
  split
  · rw [if_neg (by omega)]
  · rfl
theorem hdR_putC {r f : Nat → Int32} {i : Nat} : hdR (putC r i f) = hdR r := by
  funext j
  simp only [hdR, putC]
  split
  · rw [if_neg (by omega)]
  · rfl
theorem cupR_putC {r f : Nat → Int32} {i : Nat} (hf : ∀ j, 69 ≤ j → f j = 0) : cupR (putC r i f) i = f := by
  funext j
  simp only [cupR, putC]
  split
  · rw [if_pos (by omega)]
    congr 1
    omega
  · exact (hf j (by omega)).symm
theorem cupR_putC_ne {r f : Nat → Int32} {i k : Nat} (h : k ≠ i) : cupR (putC r i f) k = cupR r k := by
  funext j
  simp only [cupR, putC]
  split
  · rw [if_neg (by omega)]
  · rfl
theorem cupR_hi (r : Nat → Int32) (i : Nat) : ∀ j, 69 ≤ j → cupR r i j = 0 := fun j hj => by simp only [cupR]; rw [if_neg (by omega)]
/-- the class's object, with all that it holds -/
def zBD (L : zL) (x : Nat) : Prop := (x, 1) ∈ L ∧ zSt L (x + 1) ∧ zHi L (x + 16) ∧ (x + 123, 30102) ∈ L ∧ (x + 124, 7) ∈ L ∧ (x + 126, 4) ∈ L ∧ (x + 127, 3) ∈ L ∧ (x + 131, 5) ∈ L
/-- the state that is now, and what is tried on -/
def CR (x : Nat) (r : Nat → Int32) (G : zG) : Prop := stOK G (x + 1) r ∧ (∀ j, 69 ≤ j → G (x + 127) j = 0) ∧ ∀ j, 48 ≤ j → G (x + 131) j = 0
/-- what a change leaves -/
def zFr (x : Nat) (G G' : zG) : Prop := ∀ y, (y < x + 1 ∨ (x + 16 ≤ y ∧ y < x + 126) ∨ x + 134 ≤ y) → G' y = G y
theorem zFr_rf {x : Nat} {G : zG} : zFr x G G := fun _ _ => rfl
theorem zFr_tr {x : Nat} {G G1 G2 : zG} (h1 : zFr x G G1) (h2 : zFr x G1 G2) : zFr x G G2 := fun y hy => (h2 y hy).trans (h1 y hy)
theorem zFr_zst {x q : Nat} {G : zG} {f : Nat → Int32} (h : (x + 1 ≤ q ∧ q < x + 16) ∨ (x + 126 ≤ q ∧ q < x + 134)) : zFr x G (zst G q f) := fun y hy => zst_ne _ _ (by omega)
theorem CR_head {x k : Nat} {r : Nat → Int32} {G : zG} {v : Int32} (h : CR x r G) (hk : k < 21) : CR x (upd r k v) (zst G (x + 1) (upd (G (x + 1)) k v)) := by
  obtain ⟨⟨h1, h2⟩, h3, h4⟩ := h
  refine ⟨⟨by rw [zst_same, h1, hdR_upd hk], fun i hi => ?_⟩, fun j hj => ?_, fun j hj => ?_⟩
  · rw [zst_ne _ _ (by omega), cupR_upd hk]; exact h2 i hi
  · rw [zst_ne _ _ (by omega)]; exact h3 j hj
  · rw [zst_ne _ _ (by omega)]; exact h4 j hj
theorem CR_cup {x i : Nat} {r f : Nat → Int32} {G : zG} (h : CR x r G) (hi : i < 3) (hf : ∀ j, 69 ≤ j → f j = 0) : CR x (putC r i f) (zst G (x + 1 + (3 + 4 * i)) f) := by
  obtain ⟨⟨h1, h2⟩, h3, h4⟩ := h
  refine ⟨⟨by rw [zst_ne _ _ (by omega), hdR_putC]; exact h1, fun k hk => ?_⟩, fun j hj => ?_, fun j hj => ?_⟩
  · by_cases e : k = i
    · subst e; rw [zst_same, cupR_putC hf]
    · rw [zst_ne _ _ (by omega), cupR_putC_ne e]; exact h2 k hk
  · rw [zst_ne _ _ (by omega)]; exact h3 j hj
  · rw [zst_ne _ _ (by omega)]; exact h4 j hj
theorem CR_fal {x : Nat} {r d : Nat → Int32} {G : zG} (h : CR x r G) : CR x r (zst G (x + 126) d) := by
  obtain ⟨⟨h1, h2⟩, h3, h4⟩ := h
  exact ⟨⟨by rw [zst_ne _ _ (by omega)]; exact h1, fun k hk => by rw [zst_ne _ _ (by omega)]; exact h2 k hk⟩, fun j hj => by rw [zst_ne _ _ (by omega)]; exact h3 j hj, fun j hj => by rw [zst_ne _ _ (by omega)]; exact h4 j hj⟩
theorem CR_tri {x : Nat} {r d : Nat → Int32} {G : zG} (h : CR x r G) (hd : ∀ j, 69 ≤ j → d j = 0) : CR x r (zst G (x + 127) d) := by
  obtain ⟨⟨h1, h2⟩, h3, h4⟩ := h
  exact ⟨⟨by rw [zst_ne _ _ (by omega)]; exact h1, fun k hk => by rw [zst_ne _ _ (by omega)]; exact h2 k hk⟩, fun j hj => by rw [zst_same]; exact hd j hj, fun j hj => by rw [zst_ne _ _ (by omega)]; exact h4 j hj⟩
theorem CR_row {x : Nat} {r d : Nat → Int32} {G : zG} (h : CR x r G) (hd : ∀ j, 48 ≤ j → d j = 0) : CR x r (zst G (x + 131) d) := by
  obtain ⟨⟨h1, h2⟩, h3, h4⟩ := h
  exact ⟨⟨by rw [zst_ne _ _ (by omega)]; exact h1, fun k hk => by rw [zst_ne _ _ (by omega)]; exact h2 k hk⟩, fun j hj => by rw [zst_ne _ _ (by omega)]; exact h3 j hj, fun j hj => by rw [zst_same]; exact hd j hj⟩
/-- the book's numbers -/
def chR (r : Nat → Int32) : Nat → Int32 := fun k => hdR r (5 + k)
/-- what holds of every state: b bounds the useless droplets -/
def SI (b : Nat) (r : Nat → Int32) : Prop := ∃ w ls n cn : Nat, r 0 = nI w ∧ w ≤ 2 ∧ r 1 = nI ls ∧ ls ≤ 99 ∧ r 2 = nI n ∧ n ≤ 16 ∧ r 3 = nI cn ∧ cn ≤ 3 ∧
  (∀ i, i < 3 → zCI n (chR r) (cupR r i)) ∧ (∀ i, cn ≤ i → i < 3 → cupR r i = fun _ => 0) ∧ ∀ i, i < 3 → ∃ u, cupR r i 4 = nI u ∧ u ≤ b
/-- the cup of a number -/
def cpI (r : Nat → Int32) (x : Int32) : Option Nat := zfind (fun i => decide (x = nI i)) (r 3).toNatClampNeg
theorem cpI_some {r : Nat → Int32} {x : Int32} {cn i : Nat} (h3 : r 3 = nI cn) (hcn : cn ≤ 3) (h : cpI r x = some i) : i < cn ∧ x = nI i := by
  unfold cpI at h
  rw [h3, nI_clamp (by omega)] at h
  obtain ⟨h1, h2, -⟩ := zfind_some h
  exact ⟨h1, by simpa using h2⟩
theorem cpI_none {r : Nat → Int32} {x : Int32} {cn : Nat} (h3 : r 3 = nI cn) (hcn : cn ≤ 3) (h : cpI r x = none) : ¬ ∃ i, i < cn ∧ x = nI i := by
  unfold cpI at h
  rw [h3, nI_clamp (by omega)] at h
  rintro ⟨i, hi, e⟩
  have := zfind_none h i hi
  simp [e] at this
def opSet (r : Nat → Int32) (s v : Int32) : Int32 × (Nat → Int32) := if s = 0 ∧ zin3 v 0 2 = true then (r 0, upd r 0 v) else if s = 1 ∧ zin3 v 0 99 = true then (r 1, upd r 1 v) else (-2, r)
def opChapter (r : Nat → Int32) (v : Int32) : Int32 × (Nat → Int32) := if zin3 v 0 65535 = false then (-2, r) else if 0 < r 3 then (-5, r) else if r 2 = 16 then (-4, r) else (r 2, upd (upd r (5 + (r 2).toNatClampNeg) v) 2 (r 2 + 1))
def opCup (r : Nat → Int32) : Int32 × (Nat → Int32) := if r 3 = 3 then (-4, r) else (r 3, upd r 3 (r 3 + 1))
def opEmpty (r : Nat → Int32) (x : Int32) : Int32 × (Nat → Int32) := match cpI r x with
  | none => (-1, r)
  | some i => (nI (zcnt (zb (cupR r i 0)) 16), putC r i (fun _ => 0))
def errD (r : Nat → Int32) (sd mn : Int32) : Int32 := if (zin3 sd 0 65535 && zin3 mn 1 99) = false then -2 else if r 2 = 0 then -5 else 0
/-- the droplet of a seed, by a row -/
def dPR (r : Nat → Int32) (sd : Nat) : Nat → Int32 := mkP (fun _ => 0) (r 0).toNatClampNeg (r 1) (r 2).toNatClampNeg (chR r) sd
def prF (r : Nat → Int32) (f : Nat → Int32) (sd : Nat) : Nat → (Nat → Int32)
  | 0 => f
  | k + 1 => recvP (prF r f sd k) (dPR r ((sd + k) % 65536))
def prR (r : Nat → Int32) (f : Nat → Int32) (sd : Nat) : Nat → Int32
  | 0 => 0
  | k + 1 => prR r f sd k + recvR (prF r f sd k) (dPR r ((sd + k) % 65536))
def opPour (r : Nat → Int32) (x sd mn : Int32) : Int32 × (Nat → Int32) := match cpI r x with
  | none => (-1, r)
  | some i => if errD r sd mn < 0 then (errD r sd mn, r) else (prR r (cupR r i) sd.toNatClampNeg mn.toNatClampNeg, upd (putC r i (prF r (cupR r i) sd.toNatClampNeg mn.toNatClampNeg)) 4 (r 4 + mn))
/-- sums of rows -/
def inSp (g : Nat → Int32) (N : Nat) (s : Int32) : Prop := ∀ P : Int32 → Prop, P 0 → (∀ a b, P a → P b → P (a ^^^ b)) → (∀ i, i < N → P (g i)) → P s
noncomputable def folB (f : Nat → Int32) (k : Nat) : Bool := @decide (inSp (fun i => f (21 + i)) 24 (bt k)) (Classical.propDecidable _)
/-- a mask of the places below n that hold -/
def mskOf (p : Nat → Bool) : Nat → Int32
  | 0 => 0
  | k + 1 => if p k then mskOf p k ||| bt k else mskOf p k
/-- chapters of a mask known, all at once -/
def knowAll (f ch : Nat → Int32) (M : Int32) : Nat → Int32 := fun j =>
  if j = 0 then f 0 ||| M else if 5 ≤ j ∧ j < 21 then (if zb M (j - 5) then ch (j - 5) else f j)
  else if 21 ≤ j ∧ j < 45 then f j ^^^ (f j &&& M) else if 45 ≤ j ∧ j < 69 then f j ^^^ xs ch (f (j - 24) &&& M) else f j
noncomputable def folM (f : Nat → Int32) : Int32 := mskOf (folB f) 16
noncomputable def slvP (f ch : Nat → Int32) : Nat → Int32 := peelP 24 (knowAll f ch (folM f))
noncomputable def opSolve (r : Nat → Int32) (x : Int32) : Int32 × (Nat → Int32) := match cpI r x with
  | none => (-1, r)
  | some i => (nI (zcnt (zb (slvP (cupR r i) (chR r) 0)) 16) - nI (zcnt (zb (cupR r i 0)) 16), putC r i (slvP (cupR r i) (chR r)))
theorem recvP_congr {f d e : Nat → Int32} (h0 : d 0 = e 0) (h2 : d 2 = e 2) (h3 : d 3 = e 3) : recvP f d = recvP f e ∧ recvR f d = recvR f e := by
  have hS : recvS f d = recvS f e := by unfold recvS; rw [h2]
  have hV : recvV f d = recvV f e := by unfold recvV; rw [h2, h3]
  have hP : recvP f d = recvP f e := by unfold recvP; rw [h0, hS, hV]
  exact ⟨hP, by unfold recvR; rw [h0, hP]⟩
theorem knowP_hi {f : Nat → Int32} {c : Nat} {v : Int32} (hc : c < 16) : ∀ j, 69 ≤ j → knowP f c v j = f j := fun j hj => by simp only [knowP, knowA]; grind
theorem takeP_hi {f : Nat → Int32} {r : Nat} : ∀ j, 69 ≤ j → takeP f r j = f j := fun j hj => by simp only [takeP, takeA]; grind
theorem peelS_hi {n : Nat} {ch f : Nat → Int32} {m r : Nat} (h : zCJ n ch f m) (hr : zfind (zsmall f) m = some r) : ∀ j, 69 ≤ j → peelS f r j = f j := fun j hj => by
  unfold peelS
  split
  · exact takeP_hi j hj
  · rename_i h0
    obtain ⟨e1, e2, -⟩ := (zCJ_peelS h hr).2 h0
    have := h.1
    rw [knowP_hi (by omega) j hj, takeP_hi j hj]
theorem peelP_hi {n : Nat} {ch : Nat → Int32} : ∀ (k : Nat) (f : Nat → Int32) (m : Nat), zCJ n ch f m → ∀ j, 69 ≤ j → peelP k f j = f j
  | 0, f, m, h, j, hj => rfl
  | k + 1, f, m, h, j, hj => by
    have hc : (f 1).toNatClampNeg = m := by rw [h.2.2.1, nI_clamp (by have := h.2.1; omega)]
    unfold peelP
    rw [hc]
    cases hz : zfind (zsmall f) m with
    | none => rfl
    | some r => exact (peelP_hi k (peelS f r) (m - 1) (zCJ_peelS h hz).1 j hj).trans (peelS_hi h hz j hj)
theorem recvP_hi {n : Nat} {ch f d : Nat → Int32} (h : zCI n ch f) (hD : zDO n ch d) : ∀ j, 69 ≤ j → recvP f d j = f j := by
  obtain ⟨m, hJ, hs⟩ := h
  intro j hj
  have hJ1 : zCJ n ch (upd f 2 (f 2 + 1)) m := zCJ_congr hJ rfl rfl (fun j h1 h2 => by simp only [upd]; rw [if_neg (by omega)])
  have hn := hJ.1
  have hm := hJ.2.1
  have e2 : upd f 2 (f 2 + 1) j = f j := by simp only [upd]; rw [if_neg (by omega)]
  unfold recvP
  split
  · simp only [upd]; rw [if_neg (by omega), if_neg (by omega)]
  · split
    · rename_i h1
      obtain ⟨e1, e3, e4, e5⟩ := recv_one hJ hD h1
      rw [e5, peelP_hi 24 _ m (zCJ_know hJ1 e3 e4) j hj, knowP_hi (by omega) j hj, e2]
    · split
      · simp only [upd]; rw [if_neg (by omega), if_neg (by omega)]
      · rename_i h2
        have hm24 : m < 24 := by
          rcases Nat.lt_or_ge m 24 with g | g
          · exact g
          · exfalso
            apply h2
            right
            rw [hJ.2.2.1, show m = 24 by omega]
            rfl
        rw [hJ.2.2.1, nI_clamp (by omega)]
        simp only [keepP]
        simp only [upd]
        rw [if_neg (by omega), if_neg (by omega), if_neg (by omega), if_neg (by omega)]

theorem dPR_DO {r : Nat → Int32} {n sd : Nat} (hn : r 2 = nI n) (hn0 : 0 < n) (hn16 : n ≤ 16) : zDO n (chR r) (dPR r sd) := by
  unfold dPR
  rw [hn, nI_clamp (by omega)]
  exact mkP_DO hn0 hn16
theorem prF_CI {r f : Nat → Int32} {n sd : Nat} (hn : r 2 = nI n) (hn0 : 0 < n) (hn16 : n ≤ 16) (h : zCI n (chR r) f) : ∀ k, zCI n (chR r) (prF r f sd k)
  | 0 => h
  | k + 1 => zCI_recv (prF_CI hn hn0 hn16 h k) (dPR_DO hn hn0 hn16)
theorem prF_hi {r f : Nat → Int32} {n sd : Nat} (hn : r 2 = nI n) (hn0 : 0 < n) (hn16 : n ≤ 16) (h : zCI n (chR r) f) (hf : ∀ j, 69 ≤ j → f j = 0) : ∀ k j, 69 ≤ j → prF r f sd k j = 0
  | 0, j, hj => hf j hj
  | k + 1, j, hj => (recvP_hi (prF_CI hn hn0 hn16 h k) (dPR_DO hn hn0 hn16) j hj).trans (prF_hi hn hn0 hn16 h hf k j hj)
def fullB (r f : Nat → Int32) : Bool := decide (f 0 = 1 <<< (r 2 &&& 31) - 1)
def fcN (r : Nat → Int32) (cn : Nat) : Nat → Int32
  | 0 => 0
  | i + 1 => if i < cn ∧ fullB r (cupR r i) = true then fcN r cn i ||| bt i else fcN r cn i
end
section
theorem errD_ok {r : Nat → Int32} {n : Nat} {sd mn : Int32} (i2 : r 2 = nI n) (i3 : n ≤ 16) (h : ¬ errD r sd mn < 0) : ∃ a b : Nat, a < 65536 ∧ 1 ≤ b ∧ b < 100 ∧ sd = nI a ∧ mn = nI b ∧ 0 < n := by
  unfold errD at h
  cases h1 : zin3 sd 0 65535 with
  | false => rw [h1] at h; exact absurd (by rw [if_pos (by simp)]; decide) h
  | true =>
    cases h2 : zin3 mn 1 99 with
    | false => rw [h1, h2] at h; exact absurd (by rw [if_pos (by simp)]; decide) h
    | true =>
      rw [h1, h2, if_neg (by simp)] at h
      obtain ⟨a, ha, e1⟩ := (zin3_iff (m := 65535) (by decide)).mp h1
      obtain ⟨b, hb0, hb, e2⟩ := (zin3_iff2 (l := 1) (m := 99) (by decide) (by decide)).mp h2
      refine ⟨a, b, by omega, hb0, by omega, e1, e2, ?_⟩
      rcases Nat.eq_zero_or_pos n with g | g
      · rw [i2, g] at h; exact absurd (by decide) h
      · exact g
set_option maxRecDepth 100000 in
set_option maxHeartbeats 4000000 in
theorem m_X6_errorOfDroplets (l : Launch) (D : zD) (B : Nat) {L : zL} {nx : Nat} {G : zG} {x : Nat} {r : Nat → Int32} (hb : zBD L x) (hC : stOK G (x + 1) r) (sd mn : Int32) : zMet l D B yX6_errorOfDroplets cX6_errorOfDroplets 3 (some .int) 1 22 0 0 [.ref x, .int sd, .int mn] L nx G (zE (some (.int (errD r sd mn))) L nx (G)) := by
  refine zMet_of (own := RX6) (mn := "errorOfDroplets") [some (.ref x), some (.int sd), some (.int mn)] (by decide +kernel) rfl rfl rfl (Nat.le_of_ble_eq_true rfl) ?_
  show zV l (fun _ => True) D B RX6 "errorOfDroplets" cX6_errorOfDroplets 3 (some .int) (zrm 1 22 0 0) (zN (zE (some (.int (errD r sd mn))) L nx (G))) 0 0 L nx 0 [some (.ref x), some (.int sd), some (.int mn)] [] (G)
  refine zv_iload_n dX6_errorOfDroplets_0 rfl ?_
  refine zv_iconst (v := 0) dX6_errorOfDroplets_1 (by decide) ?_
  refine zv_ldc dX6_errorOfDroplets_2 kc_X6_84 ?_
  refine zv_callS (m_X6_isWithin l D B sd 0 65535) ml_X6_85 st_X6_isWithin rfl rfl (Nat.le_of_ble_eq_true rfl) dX6_errorOfDroplets_4 ⟨Nat.le_of_ble_eq_true rfl, Nat.le_of_ble_eq_true rfl⟩ ⟨Nat.le_refl _, Nat.le_refl _⟩ (zk_i ?_)
  refine zv_if_eq (tgt := 20) dX6_errorOfDroplets_7 (by decide) (fun c7 => ?_) (fun c7 => ?_)
  · have h1 := bI_eq0.mp c7
    refine zv_bipush (v := (-2)) dX6_errorOfDroplets_20 (by decide) ?_
    refine zv_iretE dX6_errorOfDroplets_22 rfl (rfl) ?_ ?_
    · unfold errD
      first
        | rw [h1, Bool.false_and, if_pos rfl]
        | rw [h2, Bool.and_false, if_pos rfl]
    · rfl
  · have h1 := bI_ne0.mp c7
    refine zv_iload_n dX6_errorOfDroplets_10 rfl ?_
    refine zv_iconst (v := 1) dX6_errorOfDroplets_11 (by decide) ?_
    refine zv_bipush (v := 99) dX6_errorOfDroplets_12 (by decide) ?_
    refine zv_callS (m_X6_isWithin l D B mn 1 99) ml_X6_85 st_X6_isWithin rfl rfl (Nat.le_of_ble_eq_true rfl) dX6_errorOfDroplets_14 ⟨Nat.le_of_ble_eq_true rfl, Nat.le_of_ble_eq_true rfl⟩ ⟨Nat.le_refl _, Nat.le_refl _⟩ (zk_i ?_)
    refine zv_if_ne (tgt := 23) dX6_errorOfDroplets_17 (by decide) (fun c17 => ?_) (fun c17 => ?_)
    · have h2 := bI_ne0.mp c17
      refine zv_aload_n dX6_errorOfDroplets_23 rfl ?_
      refine zv_getS (r := 1) hb.1 rfl fl_X6_10 rfl dX6_errorOfDroplets_24 ?_
      refine zv_getI hb.2.1.1 rfl fl_X6_89 rfl dX6_errorOfDroplets_27 ?_
      rw [show G (x + 1) 2 = r 2 by rw [hC.1]; rfl]
      refine zv_if_ne (tgt := 38) dX6_errorOfDroplets_30 (by decide) (fun c30 => ?_) (fun c30 => ?_)
      · refine zv_iconst (v := 0) dX6_errorOfDroplets_38 (by decide) ?_
        refine zv_iretE dX6_errorOfDroplets_39 rfl (rfl) ?_ ?_
        · unfold errD
          rw [h1, h2]
          first
            | (rw [if_neg (by simp), if_neg c30])
            | (rw [if_neg (by simp), if_pos c30])
        · rfl
      · refine zv_bipush (v := (-5)) dX6_errorOfDroplets_33 (by decide) ?_
        refine zv_goto (tgt := 39) dX6_errorOfDroplets_35 (by decide) ?_
        refine zv_iretE dX6_errorOfDroplets_39 rfl (rfl) ?_ ?_
        · unfold errD
          rw [h1, h2]
          first
            | (rw [if_neg (by simp), if_neg c30])
            | (rw [if_neg (by simp), if_pos c30])
        · rfl
    · have h2 := bI_eq0.mp c17
      refine zv_bipush (v := (-2)) dX6_errorOfDroplets_20 (by decide) ?_
      refine zv_iretE dX6_errorOfDroplets_22 rfl (rfl) ?_ ?_
      · unfold errD
        first
          | rw [h1, Bool.false_and, if_pos rfl]
          | rw [h2, Bool.and_false, if_pos rfl]
      · rfl

set_option maxRecDepth 100000 in
set_option maxHeartbeats 4000000 in
theorem m_X6_isFull (l : Launch) (D : zD) (B : Nat) {L : zL} {nx : Nat} {G : zG} {x q : Nat} {r : Nat → Int32} (hb : zBD L x) (hC : stOK G (x + 1) r) (hq : (q, 3) ∈ L) : zMet l D B yX6_isFull cX6_isFull 2 (some .boolean) 1 20 0 0 [.ref x, .ref q] L nx G (zE (some (.int (bI (fullB r (G q))))) L nx (G)) := by
  refine zMet_of (own := RX6) (mn := "isFull") [some (.ref x), some (.ref q)] (by decide +kernel) rfl rfl rfl (Nat.le_of_ble_eq_true rfl) ?_
  show zV l (fun _ => True) D B RX6 "isFull" cX6_isFull 2 (some .boolean) (zrm 1 20 0 0) (zN (zE (some (.int (bI (fullB r (G q))))) L nx (G))) 0 0 L nx 0 [some (.ref x), some (.ref q)] [] (G)
  refine zv_aload_n dX6_isFull_0 rfl ?_
  refine zv_getI hq rfl fl_X6_114 rfl dX6_isFull_1 ?_
  refine zv_aload_n dX6_isFull_4 rfl ?_
  refine zv_getS (r := 1) hb.1 rfl fl_X6_10 rfl dX6_isFull_5 ?_
  refine zv_callV (m_X5_allChapters l D B hb.2.1.1) ml_X6_241 in_X5_allChapters sel_X5_allChapters hb.2.1.1 rfl rfl rfl rfl (Nat.le_of_ble_eq_true rfl) dX6_isFull_8 ⟨Nat.le_of_ble_eq_true rfl, Nat.le_of_ble_eq_true rfl⟩ ⟨Nat.le_refl _, Nat.le_refl _⟩ (zk_i ?_)
  rw [show G (x + 1) 2 = r 2 by rw [hC.1]; rfl]
  refine zv_icmp_ne (tgt := 18) dX6_isFull_11 (by decide) (fun c11 => ?_) (fun c11 => ?_)
  · refine zv_iconst (v := 0) dX6_isFull_18 (by decide) ?_
    refine zv_iretE dX6_isFull_19 rfl (by first | rfl | exact bI_nar _) ?_ ?_
    · unfold fullB
      first
        | (rw [show decide (G q 0 = 1 <<< (r 2 &&& 31) - 1) = true by simp; exact c11]; rfl)
        | (rw [show decide (G q 0 = 1 <<< (r 2 &&& 31) - 1) = false by simp; exact c11]; rfl)
    · rfl
  · refine zv_iconst (v := 1) dX6_isFull_14 (by decide) ?_
    refine zv_goto (tgt := 19) dX6_isFull_15 (by decide) ?_
    refine zv_iretE dX6_isFull_19 rfl (by first | rfl | exact bI_nar _) ?_ ?_
    · unfold fullB
      first
        | (rw [show decide (G q 0 = 1 <<< (r 2 &&& 31) - 1) = true by simp; exact c11]; rfl)
        | (rw [show decide (G q 0 = 1 <<< (r 2 &&& 31) - 1) = false by simp; exact c11]; rfl)
    · rfl

set_option maxRecDepth 100000 in
set_option maxHeartbeats 4000000 in
theorem lp_X6_fullCups (l : Launch) (D : zD) (B : Nat) {L : zL} {nx : Nat} {G : zG} {x cn : Nat} {r : Nat → Int32} (hb : zBD L x) (hC : stOK G (x + 1) r) (e3 : G (x + 1) 3 = nI cn) (i5 : cn ≤ 3) : ∀ i : Nat, i ≤ 3 → ∀ a : Option Value, zV l (fun _ => True) D B RX6 "fullCups" cX6_fullCups 4 (some .int) (zrm 2 41 0 0) (zN (zE (some (.int (fcN r cn 3))) L nx G)) 0 0 L nx 4 [some (.ref x), some (.int (fcN r cn i)), some (.int (nI i)), a] [] (G) := by
  refine zloop 3 (fun i hi ih a => ?_)
  refine zv_iload_n dX6_fullCups_4 rfl ?_
  refine zv_iconst (v := 3) dX6_fullCups_5 (by decide) ?_
  refine zv_icmp_ge (tgt := 42) dX6_fullCups_6 (by decide) (fun c6 => ?_) (fun c6 => ?_)
  · have e : i = 3 := by have := zge_of (N := 3) (by decide) (by omega) rfl c6; omega
    subst e
    refine zv_iload_n dX6_fullCups_42 rfl ?_
    refine zv_iretE dX6_fullCups_43 rfl (rfl) ?_ ?_
    · rfl
    · rfl
  · have hlt : i < 3 := zlt_of (N := 3) (by decide) (by omega) rfl c6
    refine zv_aload_n dX6_fullCups_9 rfl ?_
    refine zv_getS (r := 1) hb.1 rfl fl_X6_10 rfl dX6_fullCups_10 ?_
    refine zv_iload_n dX6_fullCups_13 rfl ?_
    rcases Nat.lt_or_ge i cn with hcn | hcn
    · refine zv_callV (m_X5_cupAt l D B hb.2.1 e3 i5 hcn) ml_X6_110 in_X5_cupAt sel_X5_cupAt hb.2.1.1 rfl rfl rfl rfl (Nat.le_of_ble_eq_true rfl) dX6_fullCups_14 ⟨Nat.le_of_ble_eq_true rfl, Nat.le_of_ble_eq_true rfl⟩ ⟨Nat.le_refl _, Nat.le_refl _⟩ (zk_r ?_)
      refine zv_astore_n dX6_fullCups_17 (by decide) rfl ?_
      refine zv_aload_n dX6_fullCups_18 rfl ?_
      refine zv_ifnull_r dX6_fullCups_19 ?_
      refine zv_aload_n dX6_fullCups_22 rfl ?_
      refine zv_aload_n dX6_fullCups_23 rfl ?_
      refine zv_callV (m_X6_isFull l D B hb hC (hb.2.1.2 i hlt)) ml_X6_128 in_X6_isFull sel_X6_isFull hb.1 rfl rfl rfl rfl (Nat.le_of_ble_eq_true rfl) dX6_fullCups_24 ⟨Nat.le_of_ble_eq_true rfl, Nat.le_of_ble_eq_true rfl⟩ ⟨Nat.le_refl _, Nat.le_refl _⟩ (zk_i ?_)
      rw [hC.2 i hlt]
      refine zv_if_eq (tgt := 36) dX6_fullCups_27 (by decide) (fun c27 => ?_) (fun c27 => ?_)
      · have hfc : fcN r cn (i + 1) = fcN r cn i := by
          conv => lhs; unfold fcN
          rw [if_neg (fun h => by rw [bI_eq0.mp c27] at h; exact absurd h.2 (by simp))]
        refine zv_iinc1 dX6_fullCups_36 rfl (by decide) rfl ?_
        refine zv_goto (tgt := 4) dX6_fullCups_39 (by decide) ?_
        have ih1 := ih hlt
        rw [hfc] at ih1
        rw [nI_1]
        exact ih1 _
      · have hfc : fcN r cn (i + 1) = fcN r cn i ||| bt i := by
          conv => lhs; unfold fcN
          rw [if_pos ⟨hcn, bI_ne0.mp c27⟩]
        refine zv_iload_n dX6_fullCups_30 rfl ?_
        refine zv_iconst (v := 1) dX6_fullCups_31 (by decide) ?_
        refine zv_iload_n dX6_fullCups_32 rfl ?_
        refine zv_ishl dX6_fullCups_33 ?_
        refine zv_ior dX6_fullCups_34 ?_
        refine zv_istore_n dX6_fullCups_35 (by decide) rfl ?_
        refine zv_iinc1 dX6_fullCups_36 rfl (by decide) rfl ?_
        refine zv_goto (tgt := 4) dX6_fullCups_39 (by decide) ?_
        have ih1 := ih hlt
        rw [hfc] at ih1
        rw [nI_1]
        exact ih1 _
    · have hfc : fcN r cn (i + 1) = fcN r cn i := by
        conv => lhs; unfold fcN
        rw [if_neg (fun h => by omega)]
      refine zv_callV (m_X5_cupAt_no l D B hb.2.1 e3 i5 (fun h => by obtain ⟨j, hj, e⟩ := h; have := (nI_eq (by omega) (by omega)).mp e; omega)) ml_X6_110 in_X5_cupAt sel_X5_cupAt hb.2.1.1 rfl rfl rfl rfl (Nat.le_of_ble_eq_true rfl) dX6_fullCups_14 ⟨Nat.le_of_ble_eq_true rfl, Nat.le_of_ble_eq_true rfl⟩ ⟨Nat.le_refl _, Nat.le_refl _⟩ (zk_w ?_)
      refine zv_astore_nN dX6_fullCups_17 (by decide) rfl ?_
      refine zv_aload_nN dX6_fullCups_18 rfl ?_
      refine zv_ifnull_n (tgt := 36) dX6_fullCups_19 (by decide) ?_
      refine zv_iinc1 dX6_fullCups_36 rfl (by decide) rfl ?_
      refine zv_goto (tgt := 4) dX6_fullCups_39 (by decide) ?_
      have ih1 := ih hlt
      rw [hfc] at ih1
      rw [nI_1]
      exact ih1 _

set_option maxRecDepth 100000 in
set_option maxHeartbeats 4000000 in
theorem m_X6_fullCups (l : Launch) (D : zD) (B : Nat) {L : zL} {nx : Nat} {G : zG} {x cn : Nat} {r : Nat → Int32} (hb : zBD L x) (hC : stOK G (x + 1) r) (e3 : G (x + 1) 3 = nI cn) (i5 : cn ≤ 3) : zMet l D B yX6_fullCups cX6_fullCups 4 (some .int) 2 41 0 0 [.ref x] L nx G (zE (some (.int (fcN r cn 3))) L nx (G)) := by
  refine zMet_of (own := RX6) (mn := "fullCups") [some (.ref x), none, none, none] (by decide +kernel) rfl rfl rfl (Nat.le_of_ble_eq_true rfl) ?_
  show zV l (fun _ => True) D B RX6 "fullCups" cX6_fullCups 4 (some .int) (zrm 2 41 0 0) (zN (zE (some (.int (fcN r cn 3))) L nx (G))) 0 0 L nx 0 [some (.ref x), none, none, none] [] (G)
  refine zv_iconst (v := 0) dX6_fullCups_0 (by decide) ?_
  refine zv_istore_n dX6_fullCups_1 (by decide) rfl ?_
  refine zv_iconst (v := 0) dX6_fullCups_2 (by decide) ?_
  refine zv_istore_n dX6_fullCups_3 (by decide) rfl ?_
  exact lp_X6_fullCups l D B hb hC e3 i5 0 (by omega) _

set_option maxRecDepth 100000 in
set_option maxHeartbeats 4000000 in
theorem m_X6_changeSetting (l : Launch) (D : zD) (B : Nat) {L : zL} {nx : Nat} {G : zG} {x b : Nat} {r : Nat → Int32} (hb : zBD L x) (hC : CR x r G) (hS : SI b r) (s v : Int32) : zMet l D B yX6_changeSetting cX6_changeSetting 4 (some .int) 1 22 0 0 [.ref x, .int s, .int v] L nx G (zI (opSet r s v).1 L nx (fun G1 => CR x ((opSet r s v).2) G1 ∧ zFr x G G1)) := by
  refine zMet_of (own := RX6) (mn := "changeSetting") [some (.ref x), some (.int s), some (.int v), none] (by decide +kernel) rfl rfl rfl (Nat.le_of_ble_eq_true rfl) ?_
  show zV l (fun _ => True) D B RX6 "changeSetting" cX6_changeSetting 4 (some .int) (zrm 1 22 0 0) (zN (zI (opSet r s v).1 L nx (fun G1 => CR x ((opSet r s v).2) G1 ∧ zFr x G G1))) 0 0 L nx 0 [some (.ref x), some (.int s), some (.int v), none] [] (G)
  refine zv_iload_n dX6_changeSetting_0 rfl ?_
  refine zv_if_ne (tgt := 31) dX6_changeSetting_1 (by decide) (fun c1 => ?_) (fun c1 => ?_)
  · refine zv_iload_n dX6_changeSetting_31 rfl ?_
    refine zv_iconst (v := 1) dX6_changeSetting_32 (by decide) ?_
    refine zv_icmp_ne (tgt := 64) dX6_changeSetting_33 (by decide) (fun c33 => ?_) (fun c33 => ?_)
    · have hop : opSet r s v = (-2, r) := by
        unfold opSet
        rw [if_neg, if_neg (fun h => c33 h.1)]
        rintro ⟨h, h2⟩
        first
          | exact absurd h c1
          | (rw [h1] at h2; cases h2)
      refine zv_bipush (v := (-2)) dX6_changeSetting_64 (by decide) ?_
      rw [hop]
      exact zv_iretI dX6_changeSetting_66 rfl rfl rfl ⟨hC, zFr_rf⟩
    · refine zv_iload_n dX6_changeSetting_36 rfl ?_
      refine zv_iconst (v := 0) dX6_changeSetting_37 (by decide) ?_
      refine zv_bipush (v := 99) dX6_changeSetting_38 (by decide) ?_
      refine zv_callS (m_X6_isWithin l D B v 0 99) ml_X6_85 st_X6_isWithin rfl rfl (Nat.le_of_ble_eq_true rfl) dX6_changeSetting_40 ⟨Nat.le_of_ble_eq_true rfl, Nat.le_of_ble_eq_true rfl⟩ ⟨Nat.le_refl _, Nat.le_refl _⟩ (zk_i ?_)
      refine zv_if_eq (tgt := 64) dX6_changeSetting_43 (by decide) (fun c43 => ?_) (fun c43 => ?_)
      · have h2 := bI_eq0.mp c43
        have hop : opSet r s v = (-2, r) := by
          unfold opSet
          rw [if_neg, if_neg (fun h => by rw [h2] at h; exact absurd h.2 (by simp))]
          rintro ⟨h, h3⟩
          rw [c33] at h
          exact absurd h (by decide)
        refine zv_bipush (v := (-2)) dX6_changeSetting_64 (by decide) ?_
        rw [hop]
        exact zv_iretI dX6_changeSetting_66 rfl rfl rfl ⟨hC, zFr_rf⟩
      · have h2 := bI_ne0.mp c43
        have hop : opSet r s v = (r 1, upd r 1 v) := by
          unfold opSet
          rw [if_neg (fun h => by rw [c33] at h; exact absurd h.1 (by decide)), if_pos ⟨c33, h2⟩]
        refine zv_aload_n dX6_changeSetting_46 rfl ?_
        refine zv_getS (r := 1) hb.1 rfl fl_X6_10 rfl dX6_changeSetting_47 ?_
        refine zv_getI hb.2.1.1 rfl fl_X6_162 rfl dX6_changeSetting_50 ?_
        refine zv_istore_n dX6_changeSetting_53 (by decide) rfl ?_
        refine zv_aload_n dX6_changeSetting_54 rfl ?_
        refine zv_getS (r := 1) hb.1 rfl fl_X6_10 rfl dX6_changeSetting_55 ?_
        refine zv_iload_n dX6_changeSetting_58 rfl ?_
        refine zv_putI (t := 2) hb.2.1.1 rfl fl_X6_162 ft_X5_1 rfl dX6_changeSetting_59 ?_
        refine zv_iload_n dX6_changeSetting_62 rfl ?_
        rw [hop]
        exact zv_iretI dX6_changeSetting_63 rfl rfl (by rw [hC.1.1]; rfl) ⟨CR_head hC (by omega), zFr_zst (by omega)⟩
  · refine zv_iload_n dX6_changeSetting_4 rfl ?_
    refine zv_iconst (v := 0) dX6_changeSetting_5 (by decide) ?_
    refine zv_iconst (v := 2) dX6_changeSetting_6 (by decide) ?_
    refine zv_callS (m_X6_isWithin l D B v 0 2) ml_X6_85 st_X6_isWithin rfl rfl (Nat.le_of_ble_eq_true rfl) dX6_changeSetting_7 ⟨Nat.le_of_ble_eq_true rfl, Nat.le_of_ble_eq_true rfl⟩ ⟨Nat.le_refl _, Nat.le_refl _⟩ (zk_i ?_)
    refine zv_if_eq (tgt := 31) dX6_changeSetting_10 (by decide) (fun c10 => ?_) (fun c10 => ?_)
    · have h1 := bI_eq0.mp c10
      refine zv_iload_n dX6_changeSetting_31 rfl ?_
      refine zv_iconst (v := 1) dX6_changeSetting_32 (by decide) ?_
      refine zv_icmp_ne (tgt := 64) dX6_changeSetting_33 (by decide) (fun c33 => ?_) (fun c33 => ?_)
      · have hop : opSet r s v = (-2, r) := by
          unfold opSet
          rw [if_neg, if_neg (fun h => c33 h.1)]
          rintro ⟨h, h2⟩
          first
            | exact absurd h c1
            | (rw [h1] at h2; cases h2)
        refine zv_bipush (v := (-2)) dX6_changeSetting_64 (by decide) ?_
        rw [hop]
        exact zv_iretI dX6_changeSetting_66 rfl rfl rfl ⟨hC, zFr_rf⟩
      · refine zv_iload_n dX6_changeSetting_36 rfl ?_
        refine zv_iconst (v := 0) dX6_changeSetting_37 (by decide) ?_
        refine zv_bipush (v := 99) dX6_changeSetting_38 (by decide) ?_
        refine zv_callS (m_X6_isWithin l D B v 0 99) ml_X6_85 st_X6_isWithin rfl rfl (Nat.le_of_ble_eq_true rfl) dX6_changeSetting_40 ⟨Nat.le_of_ble_eq_true rfl, Nat.le_of_ble_eq_true rfl⟩ ⟨Nat.le_refl _, Nat.le_refl _⟩ (zk_i ?_)
        refine zv_if_eq (tgt := 64) dX6_changeSetting_43 (by decide) (fun c43 => ?_) (fun c43 => ?_)
        · have h2 := bI_eq0.mp c43
          have hop : opSet r s v = (-2, r) := by
            unfold opSet
            rw [if_neg, if_neg (fun h => by rw [h2] at h; exact absurd h.2 (by simp))]
            rintro ⟨h, h3⟩
            rw [c33] at h
            exact absurd h (by decide)
          refine zv_bipush (v := (-2)) dX6_changeSetting_64 (by decide) ?_
          rw [hop]
          exact zv_iretI dX6_changeSetting_66 rfl rfl rfl ⟨hC, zFr_rf⟩
        · have h2 := bI_ne0.mp c43
          have hop : opSet r s v = (r 1, upd r 1 v) := by
            unfold opSet
            rw [if_neg (fun h => by rw [c33] at h; exact absurd h.1 (by decide)), if_pos ⟨c33, h2⟩]
          refine zv_aload_n dX6_changeSetting_46 rfl ?_
          refine zv_getS (r := 1) hb.1 rfl fl_X6_10 rfl dX6_changeSetting_47 ?_
          refine zv_getI hb.2.1.1 rfl fl_X6_162 rfl dX6_changeSetting_50 ?_
          refine zv_istore_n dX6_changeSetting_53 (by decide) rfl ?_
          refine zv_aload_n dX6_changeSetting_54 rfl ?_
          refine zv_getS (r := 1) hb.1 rfl fl_X6_10 rfl dX6_changeSetting_55 ?_
          refine zv_iload_n dX6_changeSetting_58 rfl ?_
          refine zv_putI (t := 2) hb.2.1.1 rfl fl_X6_162 ft_X5_1 rfl dX6_changeSetting_59 ?_
          refine zv_iload_n dX6_changeSetting_62 rfl ?_
          rw [hop]
          exact zv_iretI dX6_changeSetting_63 rfl rfl (by rw [hC.1.1]; rfl) ⟨CR_head hC (by omega), zFr_zst (by omega)⟩
    · have h1 := bI_ne0.mp c10
      have hop : opSet r s v = (r 0, upd r 0 v) := by unfold opSet; rw [if_pos ⟨c1, h1⟩]
      refine zv_aload_n dX6_changeSetting_13 rfl ?_
      refine zv_getS (r := 1) hb.1 rfl fl_X6_10 rfl dX6_changeSetting_14 ?_
      refine zv_getI hb.2.1.1 rfl fl_X6_159 rfl dX6_changeSetting_17 ?_
      refine zv_istore_n dX6_changeSetting_20 (by decide) rfl ?_
      refine zv_aload_n dX6_changeSetting_21 rfl ?_
      refine zv_getS (r := 1) hb.1 rfl fl_X6_10 rfl dX6_changeSetting_22 ?_
      refine zv_iload_n dX6_changeSetting_25 rfl ?_
      refine zv_putI (t := 2) hb.2.1.1 rfl fl_X6_159 ft_X5_0 rfl dX6_changeSetting_26 ?_
      refine zv_iload_n dX6_changeSetting_29 rfl ?_
      rw [hop]
      exact zv_iretI dX6_changeSetting_30 rfl rfl (by rw [hC.1.1]; rfl) ⟨CR_head hC (by omega), zFr_zst (by omega)⟩

set_option maxRecDepth 100000 in
set_option maxHeartbeats 4000000 in
theorem m_X6_addChapter (l : Launch) (D : zD) (B : Nat) {L : zL} {nx : Nat} {G : zG} {x b : Nat} {r : Nat → Int32} (hb : zBD L x) (hC : CR x r G) (hS : SI b r) (v : Int32) : zMet l D B yX6_addChapter cX6_addChapter 3 (some .int) 1 22 0 0 [.ref x, .int v] L nx G (zI (opChapter r v).1 L nx (fun G1 => CR x ((opChapter r v).2) G1 ∧ zFr x G G1)) := by
  refine zMet_of (own := RX6) (mn := "addChapter") [some (.ref x), some (.int v), none] (by decide +kernel) rfl rfl rfl (Nat.le_of_ble_eq_true rfl) ?_
  show zV l (fun _ => True) D B RX6 "addChapter" cX6_addChapter 3 (some .int) (zrm 1 22 0 0) (zN (zI (opChapter r v).1 L nx (fun G1 => CR x ((opChapter r v).2) G1 ∧ zFr x G G1))) 0 0 L nx 0 [some (.ref x), some (.int v), none] [] (G)
  obtain ⟨w, ls, n, cn, i0, iw, i1, il, i2, i3, i4, i5, i6, i7, i8⟩ := id hS
  have e3 : G (x + 1) 3 = nI cn := by rw [hC.1.1]; exact i4
  have e2 : G (x + 1) 2 = nI n := by rw [hC.1.1]; exact i2
  have e0 : G (x + 1) 0 = nI w := by rw [hC.1.1]; exact i0
  have e1 : G (x + 1) 1 = nI ls := by rw [hC.1.1]; exact i1
  refine zv_iload_n dX6_addChapter_0 rfl ?_
  refine zv_iconst (v := 0) dX6_addChapter_1 (by decide) ?_
  refine zv_ldc dX6_addChapter_2 kc_X6_84 ?_
  refine zv_callS (m_X6_isWithin l D B v 0 65535) ml_X6_85 st_X6_isWithin rfl rfl (Nat.le_of_ble_eq_true rfl) dX6_addChapter_4 ⟨Nat.le_of_ble_eq_true rfl, Nat.le_of_ble_eq_true rfl⟩ ⟨Nat.le_refl _, Nat.le_refl _⟩ (zk_i ?_)
  refine zv_if_ne (tgt := 13) dX6_addChapter_7 (by decide) (fun c7 => ?_) (fun c7 => ?_)
  · have h1 := bI_ne0.mp c7
    refine zv_aload_n dX6_addChapter_13 rfl ?_
    refine zv_getS (r := 1) hb.1 rfl fl_X6_10 rfl dX6_addChapter_14 ?_
    refine zv_getI hb.2.1.1 rfl fl_X6_152 rfl dX6_addChapter_17 ?_
    rw [show G (x + 1) 3 = r 3 by rw [hC.1.1]; rfl]
    refine zv_if_le (tgt := 26) dX6_addChapter_20 (by decide) (fun c20 => ?_) (fun c20 => ?_)
    · have h2 : ¬ 0 < r 3 := i32_nlt.mpr c20
      refine zv_aload_n dX6_addChapter_26 rfl ?_
      refine zv_getS (r := 1) hb.1 rfl fl_X6_10 rfl dX6_addChapter_27 ?_
      refine zv_getI hb.2.1.1 rfl fl_X6_89 rfl dX6_addChapter_30 ?_
      rw [e2]
      refine zv_istore_n dX6_addChapter_33 (by decide) rfl ?_
      refine zv_iload_n dX6_addChapter_34 rfl ?_
      refine zv_iconst (v := 0) dX6_addChapter_35 (by decide) ?_
      refine zv_bipush (v := 15) dX6_addChapter_36 (by decide) ?_
      refine zv_callS (m_X6_isWithin l D B _ 0 15) ml_X6_85 st_X6_isWithin rfl rfl (Nat.le_of_ble_eq_true rfl) dX6_addChapter_38 ⟨Nat.le_of_ble_eq_true rfl, Nat.le_of_ble_eq_true rfl⟩ ⟨Nat.le_refl _, Nat.le_refl _⟩ (zk_i ?_)
      refine zv_if_ne (tgt := 47) dX6_addChapter_41 (by decide) (fun c41 => ?_) (fun c41 => ?_)
      · have h3 : n < 16 := by
          obtain ⟨j, hj, e⟩ := (zin3_iff (m := 15) (by decide)).mp (bI_ne0.mp c41)
          have := (nI_eq (by omega) (by omega)).mp e
          omega
        have hop : opChapter r v = (nI n, upd (upd r (5 + n) v) 2 (nI (n + 1))) := by
          unfold opChapter
          rw [if_neg (by rw [h1]; simp), if_neg h2, i2, if_neg (fun e => by have := (nI_eq (by omega) (by decide)).mp (show nI n = nI 16 from e); omega), nI_clamp (by omega), nI_1]
        refine zv_aload_n dX6_addChapter_47 rfl ?_
        refine zv_getS (r := 1) hb.1 rfl fl_X6_10 rfl dX6_addChapter_48 ?_
        refine zv_getS (r := 1) hb.2.1.1 rfl fl_X6_220 rfl dX6_addChapter_51 ?_
        refine zv_iload_n dX6_addChapter_54 rfl ?_
        refine zv_iload_n dX6_addChapter_55 rfl ?_
        refine zv_iast (i := 1) hb.2.1.1 rfl (zix_nI (by omega) (by decide)) dX6_addChapter_56 ?_
        refine zv_aload_n dX6_addChapter_57 rfl ?_
        refine zv_getS (r := 1) hb.1 rfl fl_X6_10 rfl dX6_addChapter_58 ?_
        refine zv_dup dX6_addChapter_61 rfl ?_
        refine zv_getI hb.2.1.1 rfl fl_X6_89 rfl dX6_addChapter_62 ?_
        refine zv_iconst (v := 1) dX6_addChapter_65 (by decide) ?_
        refine zv_iadd dX6_addChapter_66 ?_
        rw [show zst G (x + 1) (upd (G (x + 1)) (5 + n) v) (x + 1) 2 = nI n by rw [zst_same]; simp only [upd]; rw [if_neg (by omega)]; exact e2, nI_1]
        refine zv_putI (t := 2) hb.2.1.1 rfl fl_X6_89 ft_X5_2 rfl dX6_addChapter_67 ?_
        refine zv_iload_n dX6_addChapter_70 rfl ?_
        rw [hop]
        exact zv_iretI dX6_addChapter_71 rfl rfl rfl ⟨CR_head (CR_head hC (by omega)) (by omega), zFr_tr (zFr_zst (by omega)) (zFr_zst (by omega))⟩
      · have h3 : n = 16 := by
          rcases Nat.lt_or_ge n 16 with g | g
          · exact absurd ((zin3_iff (m := 15) (by decide)).mpr ⟨n, by omega, rfl⟩) (by rw [show zin3 (nI n) 0 (nI 15) = false from bI_eq0.mp c41]; simp)
          · omega
        have hop : opChapter r v = (-4, r) := by
          unfold opChapter
          rw [if_neg (by rw [h1]; simp), if_neg h2, i2, if_pos (by rw [h3]; rfl)]
        refine zv_bipush (v := (-4)) dX6_addChapter_44 (by decide) ?_
        rw [hop]
        exact zv_iretI dX6_addChapter_46 rfl rfl rfl ⟨hC, zFr_rf⟩
    · have h2 : 0 < r 3 := i32_nle.mp c20
      have hop : opChapter r v = (-5, r) := by unfold opChapter; rw [if_neg (by rw [h1]; simp), if_pos h2]
      refine zv_bipush (v := (-5)) dX6_addChapter_23 (by decide) ?_
      rw [hop]
      exact zv_iretI dX6_addChapter_25 rfl rfl rfl ⟨hC, zFr_rf⟩
  · have h1 := bI_eq0.mp c7
    have hop : opChapter r v = (-2, r) := by unfold opChapter; rw [if_pos h1]
    refine zv_bipush (v := (-2)) dX6_addChapter_10 (by decide) ?_
    rw [hop]
    exact zv_iretI dX6_addChapter_12 rfl rfl rfl ⟨hC, zFr_rf⟩

set_option maxRecDepth 100000 in
set_option maxHeartbeats 4000000 in
theorem m_X6_addCup (l : Launch) (D : zD) (B : Nat) {L : zL} {nx : Nat} {G : zG} {x b : Nat} {r : Nat → Int32} (hb : zBD L x) (hC : CR x r G) (hS : SI b r) : zMet l D B yX6_addCup cX6_addCup 2 (some .int) 0 0 0 0 [.ref x] L nx G (zI (opCup r).1 L nx (fun G1 => CR x ((opCup r).2) G1 ∧ zFr x G G1)) := by
  refine zMet_of (own := RX6) (mn := "addCup") [some (.ref x), none] (by decide +kernel) rfl rfl rfl (Nat.le_of_ble_eq_true rfl) ?_
  show zV l (fun _ => True) D B RX6 "addCup" cX6_addCup 2 (some .int) (zrm 0 0 0 0) (zN (zI (opCup r).1 L nx (fun G1 => CR x ((opCup r).2) G1 ∧ zFr x G G1))) 0 0 L nx 0 [some (.ref x), none] [] (G)
  obtain ⟨w, ls, n, cn, i0, iw, i1, il, i2, i3, i4, i5, i6, i7, i8⟩ := id hS
  have e3 : G (x + 1) 3 = nI cn := by rw [hC.1.1]; exact i4
  have e2 : G (x + 1) 2 = nI n := by rw [hC.1.1]; exact i2
  have e0 : G (x + 1) 0 = nI w := by rw [hC.1.1]; exact i0
  have e1 : G (x + 1) 1 = nI ls := by rw [hC.1.1]; exact i1
  refine zv_aload_n dX6_addCup_0 rfl ?_
  refine zv_getS (r := 1) hb.1 rfl fl_X6_10 rfl dX6_addCup_1 ?_
  refine zv_getI hb.2.1.1 rfl fl_X6_152 rfl dX6_addCup_4 ?_
  refine zv_iconst (v := 3) dX6_addCup_7 (by decide) ?_
  rw [e3]
  refine zv_icmp_lt (tgt := 14) dX6_addCup_8 (by decide) (fun c8 => ?_) (fun c8 => ?_)
  · have h1 : cn < 3 := (nI_ltI (b := 3) (by omega) (by decide)).mp c8
    have hop : opCup r = (nI cn, upd r 3 (nI (cn + 1))) := by
      unfold opCup
      rw [i4, if_neg (fun e => by have := (nI_eq (by omega) (by decide)).mp (show nI cn = nI 3 from e); omega), nI_1]
    refine zv_aload_n dX6_addCup_14 rfl ?_
    refine zv_getS (r := 1) hb.1 rfl fl_X6_10 rfl dX6_addCup_15 ?_
    refine zv_getI hb.2.1.1 rfl fl_X6_152 rfl dX6_addCup_18 ?_
    rw [e3]
    refine zv_istore_n dX6_addCup_21 (by decide) rfl ?_
    refine zv_aload_n dX6_addCup_22 rfl ?_
    refine zv_getS (r := 1) hb.1 rfl fl_X6_10 rfl dX6_addCup_23 ?_
    refine zv_dup dX6_addCup_26 rfl ?_
    refine zv_getI hb.2.1.1 rfl fl_X6_152 rfl dX6_addCup_27 ?_
    refine zv_iconst (v := 1) dX6_addCup_30 (by decide) ?_
    refine zv_iadd dX6_addCup_31 ?_
    rw [e3, nI_1]
    refine zv_putI (t := 2) hb.2.1.1 rfl fl_X6_152 ft_X5_3 rfl dX6_addCup_32 ?_
    refine zv_iload_n dX6_addCup_35 rfl ?_
    rw [hop]
    exact zv_iretI dX6_addCup_36 rfl rfl rfl ⟨CR_head hC (by omega), zFr_zst (by omega)⟩
  · have h1 : cn = 3 := by
      rcases Nat.lt_or_ge cn 3 with g | g
      · exact absurd (nI_lt g (by decide)) c8
      · omega
    have hop : opCup r = (-4, r) := by
      unfold opCup
      rw [i4, if_pos (by rw [h1]; rfl)]
    refine zv_bipush (v := (-4)) dX6_addCup_11 (by decide) ?_
    rw [hop]
    exact zv_iretI dX6_addCup_13 rfl rfl rfl ⟨hC, zFr_rf⟩

set_option maxRecDepth 100000 in
set_option maxHeartbeats 4000000 in
theorem m_X6_emptyCup (l : Launch) (D : zD) (B : Nat) {L : zL} {nx : Nat} {G : zG} {x b : Nat} {r : Nat → Int32} (hb : zBD L x) (hC : CR x r G) (hS : SI b r) (y : Int32) : zMet l D B yX6_emptyCup cX6_emptyCup 4 (some .int) 2 40 0 0 [.ref x, .int y] L nx G (zI (opEmpty r y).1 L nx (fun G1 => CR x ((opEmpty r y).2) G1 ∧ zFr x G G1)) := by
  refine zMet_of (own := RX6) (mn := "emptyCup") [some (.ref x), some (.int y), none, none] (by decide +kernel) rfl rfl rfl (Nat.le_of_ble_eq_true rfl) ?_
  show zV l (fun _ => True) D B RX6 "emptyCup" cX6_emptyCup 4 (some .int) (zrm 2 40 0 0) (zN (zI (opEmpty r y).1 L nx (fun G1 => CR x ((opEmpty r y).2) G1 ∧ zFr x G G1))) 0 0 L nx 0 [some (.ref x), some (.int y), none, none] [] (G)
  obtain ⟨w, ls, n, cn, i0, iw, i1, il, i2, i3, i4, i5, i6, i7, i8⟩ := id hS
  have e3 : G (x + 1) 3 = nI cn := by rw [hC.1.1]; exact i4
  have e2 : G (x + 1) 2 = nI n := by rw [hC.1.1]; exact i2
  have e0 : G (x + 1) 0 = nI w := by rw [hC.1.1]; exact i0
  have e1 : G (x + 1) 1 = nI ls := by rw [hC.1.1]; exact i1
  refine zv_aload_n dX6_emptyCup_0 rfl ?_
  refine zv_getS (r := 1) hb.1 rfl fl_X6_10 rfl dX6_emptyCup_1 ?_
  refine zv_iload_n dX6_emptyCup_4 rfl ?_
  rcases hz : cpI r y with _ | i
  · have hno := cpI_none i4 i5 hz
    have hop : opEmpty r y = (-1, r) := by unfold opEmpty; rw [hz]
    refine zv_callV (m_X5_cupAt_no l D B hb.2.1 e3 i5 hno) ml_X6_110 in_X5_cupAt sel_X5_cupAt hb.2.1.1 rfl rfl rfl rfl (Nat.le_of_ble_eq_true rfl) dX6_emptyCup_5 ⟨Nat.le_of_ble_eq_true rfl, Nat.le_of_ble_eq_true rfl⟩ ⟨Nat.le_refl _, Nat.le_refl _⟩ (zk_w ?_)
    refine zv_astore_nN dX6_emptyCup_8 (by decide) rfl ?_
    refine zv_aload_nN dX6_emptyCup_9 rfl ?_
    refine zv_ifnonnull_n dX6_emptyCup_10 ?_
    refine zv_iconst (v := (-1)) dX6_emptyCup_13 (by decide) ?_
    rw [hop]
    exact zv_iretI dX6_emptyCup_14 rfl rfl rfl ⟨hC, zFr_rf⟩
  · obtain ⟨hi, rfl⟩ := cpI_some i4 i5 hz
    have hi3 : i < 3 := by omega
    have hci := hC.1.2 i hi3
    have hop : opEmpty r (nI i) = (nI (zcnt (zb (cupR r i 0)) 16), putC r i (fun _ => 0)) := by unfold opEmpty; rw [hz]
    obtain ⟨m, hJ, -⟩ := i6 i hi3
    refine zv_callV (m_X5_cupAt l D B hb.2.1 e3 i5 hi) ml_X6_110 in_X5_cupAt sel_X5_cupAt hb.2.1.1 rfl rfl rfl rfl (Nat.le_of_ble_eq_true rfl) dX6_emptyCup_5 ⟨Nat.le_of_ble_eq_true rfl, Nat.le_of_ble_eq_true rfl⟩ ⟨Nat.le_refl _, Nat.le_refl _⟩ (zk_r ?_)
    refine zv_astore_n dX6_emptyCup_8 (by decide) rfl ?_
    refine zv_aload_n dX6_emptyCup_9 rfl ?_
    refine zv_ifnonnull_r (tgt := 15) dX6_emptyCup_10 (by decide) ?_
    refine zv_aload_n dX6_emptyCup_15 rfl ?_
    refine zv_callV (m_knownCount l D B (hb.2.1.2 i hi3) (by rw [hci]; exact zlim_zm hJ.1 hJ.2.2.2.1)) ml_X6_136 in_X0_knownCount sel_X0_knownCount (hb.2.1.2 i hi3) rfl rfl rfl rfl (Nat.le_of_ble_eq_true rfl) dX6_emptyCup_16 ⟨Nat.le_of_ble_eq_true rfl, Nat.le_of_ble_eq_true rfl⟩ ⟨Nat.le_refl _, Nat.le_refl _⟩ (zk_i ?_)
    rw [hci]
    refine zv_istore_n dX6_emptyCup_19 (by decide) rfl ?_
    refine zv_aload_n dX6_emptyCup_20 rfl ?_
    refine zv_callV (m_X0_clear l D B (hb.2.1.2 i hi3)) ml_X6_223 in_X0_clear sel_X0_clear (hb.2.1.2 i hi3) rfl rfl rfl rfl (Nat.le_of_ble_eq_true rfl) dX6_emptyCup_21 ⟨Nat.le_of_ble_eq_true rfl, Nat.le_of_ble_eq_true rfl⟩ ⟨Nat.le_refl _, Nat.le_refl _⟩ (zk_v ?_)
    rw [hci, show clearP (cupR r i) = fun _ => 0 by funext j; simp only [clearP, clearA, cupR]; grind]
    refine zv_iload_n dX6_emptyCup_24 rfl ?_
    rw [hop]
    exact zv_iretI dX6_emptyCup_25 rfl rfl rfl ⟨CR_cup hC hi3 (fun _ _ => rfl), zFr_zst (by omega)⟩

set_option maxRecDepth 100000 in
set_option maxHeartbeats 4000000 in
theorem lp_X6_pourDroplets (l : Launch) (D : zD) (B : Nat) {L : zL} {nx : Nat} {G : zG} {x b : Nat} {r : Nat → Int32} (hb : zBD L x) (hC : CR x r G) (hS : SI b r) {i sd mn n w : Nat} {a : Option Value} {c : Int32} (hi : i < 3) (hsd : sd < 65536) (hmn : mn < 100) (i0 : r 0 = nI w) (iw : w ≤ 2) (i2 : r 2 = nI n) (i3 : n ≤ 16) (hn0 : 0 < n) (i6 : zCI n (chR r) (cupR r i)) : ∀ k : Nat, k ≤ mn → ∀ d : Nat → Int32, zV l (fun _ => True) D B RX6 "pourDroplets" cX6_pourDroplets 8 (some .int) (zrm 4 90 0 0) (zN (zI (prR r (cupR r i) sd mn) L nx (fun G1 => CR x (upd (putC r i (prF r (cupR r i) sd mn)) 4 (r 4 + nI mn)) G1 ∧ zFr x G G1))) 0 0 L nx 39 [some (.ref x), a, some (.int (nI sd)), some (.int (nI mn)), some (.ref (x + 1 + (3 + 4 * i))), some (.int c), some (.int (prR r (cupR r i) sd k)), some (.int (nI k))] [] (zst (zst G (x + 1 + (3 + 4 * i)) (prF r (cupR r i) sd k)) (x + 126) d) := by
  refine zloop mn (fun k hk ih d => ?_)
  have hCI := prF_CI (sd := sd) i2 hn0 i3 i6
  have hhi := prF_hi (sd := sd) i2 hn0 i3 i6 (cupR_hi r i)
  refine zv_iload dX6_pourDroplets_39 rfl ?_
  refine zv_iload_n dX6_pourDroplets_41 rfl ?_
  refine zv_icmp_ge (tgt := 83) dX6_pourDroplets_42 (by decide) (fun c42 => ?_) (fun c42 => ?_)
  · have e : k = mn := by have := (nI_leI (by omega) (by omega)).mp c42; omega
    subst e
    have hC2 : CR x (putC r i (prF r (cupR r i) sd k)) (zst (zst G (x + 1 + (3 + 4 * i)) (prF r (cupR r i) sd k)) (x + 126) d) := CR_fal (CR_cup hC hi (hhi k))
    have hd1 : (zst (zst G (x + 1 + (3 + 4 * i)) (prF r (cupR r i) sd k)) (x + 126) d) (x + 1) = hdR r := by rw [zst_ne _ _ (by omega), zst_ne _ _ (by omega)]; exact hC.1.1
    refine zv_aload_n dX6_pourDroplets_83 rfl ?_
    refine zv_getS (r := 1) hb.1 rfl fl_X6_10 rfl dX6_pourDroplets_84 ?_
    refine zv_dup dX6_pourDroplets_87 rfl ?_
    refine zv_getI hb.2.1.1 rfl fl_X6_158 rfl dX6_pourDroplets_88 ?_
    refine zv_iload_n dX6_pourDroplets_91 rfl ?_
    refine zv_iadd dX6_pourDroplets_92 ?_
    rw [show (zst (zst G (x + 1 + (3 + 4 * i)) (prF r (cupR r i) sd k)) (x + 126) d) (x + 1) 4 = r 4 by rw [hd1]; rfl]
    refine zv_putI (t := 2) hb.2.1.1 rfl fl_X6_158 ft_X5_4 rfl dX6_pourDroplets_93 ?_
    refine zv_iload dX6_pourDroplets_96 rfl ?_
    exact zv_iretI dX6_pourDroplets_98 rfl rfl rfl ⟨CR_head hC2 (by omega), zFr_tr (zFr_zst (by omega)) (zFr_tr (zFr_zst (by omega)) (zFr_zst (by omega)))⟩
  · have hlt : k < mn := by
      rcases Nat.lt_or_ge k mn with h | h
      · exact h
      · exact absurd (nI_le h (by omega)) c42
    obtain ⟨m, hJ, hs⟩ := hCI k
    have hd1 : (zst (zst G (x + 1 + (3 + 4 * i)) (prF r (cupR r i) sd k)) (x + 126) d) (x + 1) = hdR r := by rw [zst_ne _ _ (by omega), zst_ne _ _ (by omega)]; exact hC.1.1
    refine zv_aload_n dX6_pourDroplets_45 rfl ?_
    refine zv_getS (r := 126) hb.1 rfl fl_X6_37 rfl dX6_pourDroplets_46 ?_
    refine zv_aload_n dX6_pourDroplets_49 rfl ?_
    refine zv_getS (r := 1) hb.1 rfl fl_X6_10 rfl dX6_pourDroplets_50 ?_
    refine zv_iload_n dX6_pourDroplets_53 rfl ?_
    refine zv_iload dX6_pourDroplets_54 rfl ?_
    refine zv_iadd dX6_pourDroplets_56 ?_
    refine zv_callS (m_X6_wrappedSeed l D B _) ml_X6_181 st_X6_wrappedSeed rfl rfl (Nat.le_of_ble_eq_true rfl) dX6_pourDroplets_57 ⟨Nat.le_of_ble_eq_true rfl, Nat.le_of_ble_eq_true rfl⟩ ⟨Nat.le_refl _, Nat.le_refl _⟩ (zk_i ?_)
    rw [nI_add, show nI (sd + k) &&& 65535 = nI ((sd + k) % 65536) from pk_andN (by omega) 16 (by decide)]
    refine zv_callV (m_X1_makeFrom l D B (w := w) (n := n) hb.2.2.2.2.2.1 hb.2.1.1 (by omega) (by rw [hd1]; exact i2) hn0 i3 (by rw [hd1]; exact i0) iw (by omega)) ml_X6_93 in_X1_makeFrom sel_X1_makeFrom hb.2.2.2.2.2.1 rfl rfl rfl rfl (Nat.le_of_ble_eq_true rfl) dX6_pourDroplets_60 ⟨Nat.le_of_ble_eq_true rfl, Nat.le_of_ble_eq_true rfl⟩ ⟨Nat.le_refl _, Nat.le_refl _⟩ (zk_v ?_)
    rw [zst_same, zst_zst, hd1]
    have hD : zDO n (chR r) (mkP d w (hdR r 1) n (chR r) ((sd + k) % 65536)) := mkP_DO hn0 i3
    have hdd : dPR r ((sd + k) % 65536) = mkP (fun _ => 0) w (hdR r 1) n (chR r) ((sd + k) % 65536) := by unfold dPR; rw [i0, i2, nI_clamp (by omega), nI_clamp (by omega)]; rfl
    obtain ⟨hcP, hcR⟩ := recvP_congr (f := prF r (cupR r i) sd k) (d := mkP d w (hdR r 1) n (chR r) ((sd + k) % 65536)) (e := dPR r ((sd + k) % 65536)) (by rw [hdd]; rfl) (by rw [hdd]; rfl) (by rw [hdd]; rfl)
    change zV _ _ _ _ _ _ _ _ _ _ _ _ _ _ _ _ _ _ (zst (zst G (x + 1 + (3 + 4 * i)) (prF r (cupR r i) sd k)) (x + 126) (mkP d w (hdR r 1) n (chR r) ((sd + k) % 65536)))
    have hg1 : (zst (zst G (x + 1 + (3 + 4 * i)) (prF r (cupR r i) sd k)) (x + 126) (mkP d w (hdR r 1) n (chR r) ((sd + k) % 65536))) (x + 1 + (3 + 4 * i)) = prF r (cupR r i) sd k := by rw [zst_ne _ _ (by omega), zst_same]
    refine zv_iload dX6_pourDroplets_63 rfl ?_
    refine zv_aload dX6_pourDroplets_65 rfl ?_
    refine zv_aload_n dX6_pourDroplets_67 rfl ?_
    refine zv_getS (r := 126) hb.1 rfl fl_X6_37 rfl dX6_pourDroplets_68 ?_
    refine zv_callV (m_X0_receive l D B (n := n) (m := m) (ch := chR r) (hb.2.1.2 i hi) hb.2.2.2.2.2.1 (by omega) (by rw [hg1]; exact hJ) (by rw [hg1]; exact hs) (by rw [zst_same]; exact hD)) ml_X6_177 in_X0_receive sel_X0_receive (hb.2.1.2 i hi) rfl rfl rfl rfl (Nat.le_of_ble_eq_true rfl) dX6_pourDroplets_71 ⟨Nat.le_of_ble_eq_true rfl, Nat.le_of_ble_eq_true rfl⟩ ⟨Nat.le_refl _, Nat.le_refl _⟩ (zk_i ?_)
    rw [hg1, zst_same, hcP, hcR]
    refine zv_iadd dX6_pourDroplets_74 ?_
    refine zv_istore dX6_pourDroplets_75 (by decide) rfl ?_
    refine zv_iinc1 dX6_pourDroplets_77 rfl (by decide) rfl ?_
    refine zv_goto (tgt := 39) dX6_pourDroplets_80 (by decide) ?_
    rw [nI_1]
    refine zv_eqG ?_ (ih hlt (mkP d w (hdR r 1) n (chR r) ((sd + k) % 65536)))
    rw [zst_comm _ _ _ (show x + 126 ≠ x + 1 + (3 + 4 * i) by omega), zst_zst]
    rfl

set_option maxRecDepth 100000 in
set_option maxHeartbeats 4000000 in
theorem m_X6_pourDroplets (l : Launch) (D : zD) (B : Nat) {L : zL} {nx : Nat} {G : zG} {x b : Nat} {r : Nat → Int32} (hb : zBD L x) (hC : CR x r G) (hS : SI b r) (y sd mn : Int32) : zMet l D B yX6_pourDroplets cX6_pourDroplets 8 (some .int) 4 90 0 0 [.ref x, .int y, .int sd, .int mn] L nx G (zI (opPour r y sd mn).1 L nx (fun G1 => CR x ((opPour r y sd mn).2) G1 ∧ zFr x G G1)) := by
  refine zMet_of (own := RX6) (mn := "pourDroplets") [some (.ref x), some (.int y), some (.int sd), some (.int mn), none, none, none, none] (by decide +kernel) rfl rfl rfl (Nat.le_of_ble_eq_true rfl) ?_
  show zV l (fun _ => True) D B RX6 "pourDroplets" cX6_pourDroplets 8 (some .int) (zrm 4 90 0 0) (zN (zI (opPour r y sd mn).1 L nx (fun G1 => CR x ((opPour r y sd mn).2) G1 ∧ zFr x G G1))) 0 0 L nx 0 [some (.ref x), some (.int y), some (.int sd), some (.int mn), none, none, none, none] [] (G)
  obtain ⟨w, ls, n, cn, i0, iw, i1, il, i2, i3, i4, i5, i6, i7, i8⟩ := id hS
  have e3 : G (x + 1) 3 = nI cn := by rw [hC.1.1]; exact i4
  have e2 : G (x + 1) 2 = nI n := by rw [hC.1.1]; exact i2
  have e0 : G (x + 1) 0 = nI w := by rw [hC.1.1]; exact i0
  have e1 : G (x + 1) 1 = nI ls := by rw [hC.1.1]; exact i1
  refine zv_aload_n dX6_pourDroplets_0 rfl ?_
  refine zv_getS (r := 1) hb.1 rfl fl_X6_10 rfl dX6_pourDroplets_1 ?_
  refine zv_iload_n dX6_pourDroplets_4 rfl ?_
  rcases hz : cpI r y with _ | i
  · have hno := cpI_none i4 i5 hz
    have hop : opPour r y sd mn = (-1, r) := by unfold opPour; rw [hz]
    refine zv_callV (m_X5_cupAt_no l D B hb.2.1 e3 i5 hno) ml_X6_110 in_X5_cupAt sel_X5_cupAt hb.2.1.1 rfl rfl rfl rfl (Nat.le_of_ble_eq_true rfl) dX6_pourDroplets_5 ⟨Nat.le_of_ble_eq_true rfl, Nat.le_of_ble_eq_true rfl⟩ ⟨Nat.le_refl _, Nat.le_refl _⟩ (zk_w ?_)
    refine zv_astoreN dX6_pourDroplets_8 (by decide) rfl ?_
    refine zv_aloadN dX6_pourDroplets_10 rfl ?_
    refine zv_ifnonnull_n dX6_pourDroplets_12 ?_
    refine zv_iconst (v := (-1)) dX6_pourDroplets_15 (by decide) ?_
    rw [hop]
    exact zv_iretI dX6_pourDroplets_16 rfl rfl rfl ⟨hC, zFr_rf⟩
  · obtain ⟨hi, rfl⟩ := cpI_some i4 i5 hz
    have hi3 : i < 3 := by omega
    have hci := hC.1.2 i hi3
    refine zv_callV (m_X5_cupAt l D B hb.2.1 e3 i5 hi) ml_X6_110 in_X5_cupAt sel_X5_cupAt hb.2.1.1 rfl rfl rfl rfl (Nat.le_of_ble_eq_true rfl) dX6_pourDroplets_5 ⟨Nat.le_of_ble_eq_true rfl, Nat.le_of_ble_eq_true rfl⟩ ⟨Nat.le_refl _, Nat.le_refl _⟩ (zk_r ?_)
    refine zv_astore dX6_pourDroplets_8 (by decide) rfl ?_
    refine zv_aload dX6_pourDroplets_10 rfl ?_
    refine zv_ifnonnull_r (tgt := 17) dX6_pourDroplets_12 (by decide) ?_
    refine zv_aload_n dX6_pourDroplets_17 rfl ?_
    refine zv_iload_n dX6_pourDroplets_18 rfl ?_
    refine zv_iload_n dX6_pourDroplets_19 rfl ?_
    refine zv_callV (m_X6_errorOfDroplets l D B hb hC.1 sd mn) ml_X6_171 in_X6_errorOfDroplets sel_X6_errorOfDroplets hb.1 rfl rfl rfl rfl (Nat.le_of_ble_eq_true rfl) dX6_pourDroplets_20 ⟨Nat.le_of_ble_eq_true rfl, Nat.le_of_ble_eq_true rfl⟩ ⟨Nat.le_refl _, Nat.le_refl _⟩ (zk_i ?_)
    refine zv_istore dX6_pourDroplets_23 (by decide) rfl ?_
    refine zv_iload dX6_pourDroplets_25 rfl ?_
    refine zv_if_ge (tgt := 33) dX6_pourDroplets_27 (by decide) (fun c27 => ?_) (fun c27 => ?_)
    · have he : ¬ errD r sd mn < 0 := i32_nlt.mpr c27
      have hop : opPour r (nI i) sd mn = (prR r (cupR r i) sd.toNatClampNeg mn.toNatClampNeg, upd (putC r i (prF r (cupR r i) sd.toNatClampNeg mn.toNatClampNeg)) 4 (r 4 + mn)) := by unfold opPour; rw [hz]; dsimp only; rw [if_neg he]
      obtain ⟨sd', mn', hsd, hmn0, hmn, rfl, rfl, hn0⟩ := errD_ok i2 i3 he
      rw [nI_clamp (by omega), nI_clamp (by omega)] at hop
      rw [hop]
      refine zv_iconst (v := 0) dX6_pourDroplets_33 (by decide) ?_
      refine zv_istore dX6_pourDroplets_34 (by decide) rfl ?_
      refine zv_iconst (v := 0) dX6_pourDroplets_36 (by decide) ?_
      refine zv_istore dX6_pourDroplets_37 (by decide) rfl ?_
      refine zv_eqG ?_ (lp_X6_pourDroplets l D B hb hC hS hi3 hsd (by omega) i0 iw i2 i3 hn0 (i6 i hi3) 0 (by omega) (G (x + 126)))
      show G = zst (zst G (x + 1 + (3 + 4 * i)) (cupR r i)) (x + 126) (G (x + 126))
      rw [← hci, zst_self, zst_self]
    · have he : errD r sd mn < 0 := i32_nle.mp c27
      have hop : opPour r (nI i) sd mn = (errD r sd mn, r) := by unfold opPour; rw [hz]; dsimp only; rw [if_pos he]
      rw [hop]
      refine zv_iload dX6_pourDroplets_30 rfl ?_
      exact zv_iretI dX6_pourDroplets_32 rfl rfl rfl ⟨hC, zFr_rf⟩
end
section
theorem inSp_row {g : Nat → Int32} {N i : Nat} (hi : i < N) : inSp g N (g i) := fun _ _ _ h => h i hi
theorem inSp_xor {g : Nat → Int32} {N : Nat} {a b : Int32} (ha : inSp g N a) (hb : inSp g N b) : inSp g N (a ^^^ b) := fun P h0 hx h => hx _ _ (ha P h0 hx h) (hb P h0 hx h)
theorem inSp_zero {g : Nat → Int32} {N : Nat} : inSp g N 0 := fun _ h0 _ _ => h0
theorem inSp_of {g g' : Nat → Int32} {N N' : Nat} (h : ∀ i, i < N → inSp g' N' (g i)) {s : Int32} (hs : inSp g N s) : inSp g' N' s := hs (inSp g' N') inSp_zero (fun _ _ => inSp_xor) h
def comb (R : Nat → Int32) (o : Nat → Nat) (x : Int32) : Nat → Int32
  | 0 => 0
  | a + 1 => comb R o x a ^^^ (if R a ≠ 0 ∧ zb x (o a) = true then R a else 0)
theorem comb_xor (R : Nat → Int32) (o : Nat → Nat) (x y : Int32) : ∀ N, comb R o (x ^^^ y) N = comb R o x N ^^^ comb R o y N
  | 0 => (i32_xor_self 0).symm
  | a + 1 => by
    simp only [comb, comb_xor R o x y a, zb_xor]
    by_cases hR : R a = 0
    · simp [hR, i32_xor_zero]
    · apply zb_ext
      intro k _
      cases zb x (o a) <;> cases zb y (o a) <;> simp [hR, zb_xor, zb_zero] <;> cases zb (comb R o x a) k <;> cases zb (comb R o y a) k <;> cases zb (R a) k <;> rfl
theorem comb_none {R : Nat → Int32} {o : Nat → Nat} {x : Int32} : ∀ {N : Nat}, (∀ a, a < N → R a ≠ 0 → zb x (o a) = false) → comb R o x N = 0
  | 0, _ => rfl
  | a + 1, h => by
    simp only [comb]
    rw [comb_none (N := a) (fun b hb => h b (by omega)), if_neg (fun e => by rw [h a (by omega) e.1] at e; exact absurd e.2 (by simp)), i32_xor_zero]
theorem comb_one {R : Nat → Int32} {o : Nat → Nat} {x : Int32} {t : Nat} (ht : R t ≠ 0 → zb x (o t) = true) : ∀ {N : Nat}, (∀ a, a < N → a ≠ t → R a ≠ 0 → zb x (o a) = false) → comb R o x N = if t < N then R t else 0
  | 0, _ => rfl
  | a + 1, h => by
    simp only [comb]
    rcases Nat.lt_trichotomy t a with g | g | g
    · rw [comb_one ht (N := a) (fun b hb => h b (by omega)), if_pos g, if_pos (show t < a + 1 by omega), if_neg (fun e => by rw [h a (by omega) (by omega) e.1] at e; exact absurd e.2 (by simp)), i32_xor_zero]
    · subst g
      rw [comb_none (N := t) (fun b hb => h b (by omega) (by omega)), if_pos (show t < t + 1 by omega), i32_zero_xor]
      by_cases hR : R t = 0
      · rw [if_neg (fun e => e.1 hR), hR]
      · rw [if_pos ⟨hR, ht hR⟩]
    · rw [comb_none (N := a) (fun b hb => h b (by omega) (by omega)), if_neg (show ¬ t < a + 1 by omega), if_neg (fun e => by rw [h a (by omega) (by omega) e.1] at e; exact absurd e.2 (by simp)), i32_xor_zero]
/-- each row that isn't empty has a place of its own -/
def ownR (R : Nat → Int32) (N : Nat) (o : Nat → Nat) : Prop := ∀ a, a < N → R a ≠ 0 → zb (R a) (o a) = true ∧ ∀ i, i < N → i ≠ a → zb (R i) (o a) = false
theorem unit_row {R : Nat → Int32} {N c : Nat} {o : Nat → Nat} (hown : ownR R N o) (hc : c < 32) (h : inSp R N (bt c)) : ∃ a, a < N ∧ R a = bt c := by
  have hP : comb R o (bt c) N = bt c := by
    refine h (fun x => comb R o x N = x) (comb_none (fun a _ _ => zb_zero _)) (fun a b ha hb => by rw [comb_xor, ha, hb]) (fun i hi => ?_)
    rw [comb_one (t := i) (fun hR => (hown i hi hR).1) (fun a ha hne hR => (hown a ha hR).2 i hi (fun e => hne e.symm)), if_pos hi]
  have hne : bt c ≠ 0 := fun e => by
    have := zb_bt hc c
    rw [e, zb_zero] at this
    simp at this
  apply Classical.byContradiction
  intro hno
  by_cases hex : ∃ a, a < N ∧ R a ≠ 0 ∧ o a = c
  · obtain ⟨a, ha, hR, ho⟩ := hex
    have : comb R o (bt c) N = if a < N then R a else 0 := by
      refine comb_one (t := a) (fun _ => by rw [ho, zb_bt hc]; simp) (fun b hb hne2 hRb => ?_)
      rw [zb_bt hc]
      simp only [decide_eq_false_iff_not]
      intro e
      have h1 := (hown b hb hRb).2 a ha (fun e2 => hne2 e2.symm)
      have h2 := (hown a ha hR).1
      rw [ho] at h2
      rw [e, h2] at h1
      cases h1
    rw [if_pos ha, hP] at this
    exact hno ⟨a, ha, this.symm⟩
  · rw [comb_none (fun a ha hR => by
      rw [zb_bt hc]
      simp only [decide_eq_false_iff_not]
      exact fun e => hex ⟨a, ha, hR, e⟩)] at hP
    exact hne hP.symm
theorem zb_own {s : Int32} {k : Nat} (hk : k < 32) : zb (s &&& -s) k = (zb s k && !decide (∃ j, j < k ∧ zb s j = true)) := by
  rw [zb_and, zb_neg _ hk]
  cases zb s k <;> simp
/-- a row that leads has its lowest place for its own mark -/
theorem own_bt {s : Int32} (h : s ≠ 0) : ∃ p, p < 32 ∧ zb s p = true ∧ s &&& -s = bt p := by
  have hex : ∃ p, p < 32 ∧ zb s p = true ∧ ∀ j, j < p → zb s j = false := by
    cases e : zfind (zb s) 32 with
    | none => exact absurd (zb_ext (fun k hk => by rw [zfind_none e k hk, zb_zero])) h
    | some p =>
      obtain ⟨h1, h2, h3⟩ := zfind_some e
      exact ⟨p, h1, h2, h3⟩
  obtain ⟨p, h1, h2, h3⟩ := hex
  refine ⟨p, h1, h2, zb_ext (fun k hk => ?_)⟩
  rw [zb_own hk, zb_bt h1]
  rcases Nat.lt_trichotomy k p with g | g | g
  · rw [h3 k g]; simp; omega
  · subst g
    have : decide (∃ j, j < k ∧ zb s j = true) = false := by
      simp only [decide_eq_false_iff_not]
      rintro ⟨j, hj, e⟩
      rw [h3 j hj] at e; cases e
    rw [h2, this]; simp
  · have : decide (∃ j, j < k ∧ zb s j = true) = true := by
      simp only [decide_eq_true_eq]
      exact ⟨p, g, h2⟩
    rw [this]
    simp; omega
theorem red1_at {f : Nat → Int32} {a i : Nat} (hi : i < 24) : red1 f a i = (if i ≠ a ∧ ¬ f i &&& (f a &&& -f a) = 0 then f i ^^^ f a else f i) ∧ red1 f a (24 + i) = (if i ≠ a ∧ ¬ f i &&& (f a &&& -f a) = 0 then f (24 + i) ^^^ f (24 + a) else f (24 + i)) := by
  simp only [red1, redI]
  refine ⟨by rw [if_pos hi], ?_⟩
  rw [if_neg (by omega), if_pos (by omega), show 24 + i - 24 = i by omega]
  by_cases h : i = a
  · subst h; simp
  · have : 24 + i ≠ 24 + a := by omega
    simp [h]
theorem red1_own {f : Nat → Int32} {k : Nat} {o : Nat → Nat} (hk : k < 24) (h : ∀ a, a < k → f a ≠ 0 → zb (f a) (o a) = true ∧ ∀ i, i < 24 → i ≠ a → zb (f i) (o a) = false) :
    ∃ o' : Nat → Nat, ∀ a, a < k + 1 → red1 f k a ≠ 0 → zb (red1 f k a) (o' a) = true ∧ ∀ i, i < 24 → i ≠ a → zb (red1 f k i) (o' a) = false := by
  by_cases hs : f k = 0
  · have hsame : ∀ i, i < 24 → red1 f k i = f i := fun i hi => by
      rw [(red1_at hi).1, if_neg]
      rintro ⟨-, h2⟩
      apply h2
      rw [hs]
      apply zb_ext
      intro j _
      simp [zb_and, zb_zero]
    refine ⟨o, fun a ha hne => ?_⟩
    rw [hsame a (by omega)] at hne ⊢
    have hak : a < k := by
      rcases Nat.lt_or_ge a k with g | g
      · exact g
      · exact absurd (by rw [show a = k by omega]; exact hs) hne
    refine ⟨(h a hak hne).1, fun i hi hia => ?_⟩
    rw [hsame i hi]
    exact (h a hak hne).2 i hi hia
  · obtain ⟨p, hp, hp1, hp2⟩ := own_bt hs
    have hR : ∀ i, i < 24 → red1 f k i = if i ≠ k ∧ zb (f i) p = true then f i ^^^ f k else f i := fun i hi => by
      rw [(red1_at hi).1, hp2]
      have : (f i &&& bt p = 0) ↔ zb (f i) p = false := zb_and_bt _ hp
      cases e : zb (f i) p with
      | true =>
        have h2 : ¬ f i &&& bt p = 0 := fun h => by rw [this.mp h] at e; cases e
        by_cases hik : i = k
        · rw [if_neg (fun h => h.1 hik), if_neg (fun h => h.1 hik)]
        · rw [if_pos ⟨hik, h2⟩, if_pos ⟨hik, rfl⟩]
      | false => rw [if_neg (fun h => h.2 (this.mpr e)), if_neg (fun h => by cases h.2)]
    refine ⟨fun a => if a = k then p else o a, fun a ha hne => ?_⟩
    by_cases hak : a = k
    · subst hak
      simp only [if_true]
      refine ⟨by rw [hR a hk, if_neg (fun h => h.1 rfl)]; exact hp1, fun i hi hia => ?_⟩
      rw [hR i hi]
      cases e : zb (f i) p with
      | true => rw [if_pos ⟨hia, rfl⟩, zb_xor, e, hp1]; rfl
      | false => rw [if_neg (by simp)]; exact e
    · simp only [if_neg hak]
      have hfa : f a ≠ 0 := fun e => hne (by rw [hR a (by omega), if_neg (by rw [e, zb_zero]; simp)]; exact e)
      obtain ⟨g1, g2⟩ := h a (by omega) hfa
      have hk0 := g2 k hk (fun e => hak e.symm)
      have hz : ∀ i, i < 24 → zb (red1 f k i) (o a) = zb (f i) (o a) := fun i hi => by
        rw [hR i hi]
        split
        · rw [zb_xor, hk0, Bool.xor_false]
        · rfl
      exact ⟨by rw [hz a (by omega)]; exact g1, fun i hi hia => by rw [hz i hi]; exact g2 i hi hia⟩
theorem redN_own {f : Nat → Int32} : ∀ k, k ≤ 24 → ∃ o : Nat → Nat, ∀ a, a < k → redN f k a ≠ 0 → zb (redN f k a) (o a) = true ∧ ∀ i, i < 24 → i ≠ a → zb (redN f k i) (o a) = false
  | 0, _ => ⟨fun _ => 0, fun a ha => by omega⟩
  | k + 1, hk => by
    obtain ⟨o, h⟩ := redN_own (f := f) k (by omega)
    exact red1_own (by omega) h
theorem red1_sp {f : Nat → Int32} {k : Nat} (hk : k < 24) : (∀ i, i < 24 → inSp f 24 (red1 f k i)) ∧ ∀ i, i < 24 → inSp (red1 f k) 24 (f i) := by
  have hkk : red1 f k k = f k := by rw [(red1_at hk).1, if_neg (fun h => h.1 rfl)]
  refine ⟨fun i hi => ?_, fun i hi => ?_⟩
  · rw [(red1_at hi).1]
    split
    · exact inSp_xor (inSp_row hi) (inSp_row hk)
    · exact inSp_row hi
  · by_cases h : i ≠ k ∧ ¬ f i &&& (f k &&& -f k) = 0
    · have e : f i = red1 f k i ^^^ red1 f k k := by
        rw [hkk, (red1_at hi).1, if_pos h, i32_xor_assoc, i32_xor_self, i32_xor_zero]
      rw [e]
      exact inSp_xor (inSp_row hi) (inSp_row hk)
    · have e : f i = red1 f k i := by rw [(red1_at hi).1, if_neg h]
      rw [e]
      exact inSp_row hi
theorem redN_sp {f : Nat → Int32} : ∀ k, k ≤ 24 → ∀ s, inSp (redN f k) 24 s ↔ inSp f 24 s
  | 0, _, s => Iff.rfl
  | k + 1, hk, s => by
    have h1 := red1_sp (f := redN f k) (k := k) (by omega)
    have h2 := redN_sp (f := f) k (by omega) s
    exact ⟨fun h => h2.mp (inSp_of h1.1 h), fun h => inSp_of h1.2 (h2.mpr h)⟩
/-- what holds of rows and stays: within n, apart from what is known, numbers as they are -/
def rowsOK (n : Nat) (ch f g : Nat → Int32) : Prop := ∀ i, i < 24 → zlim n (g i) ∧ (∀ k, zb (f 0) k = true → zb (g i) k = false) ∧ g (24 + i) = xs ch (g i)
theorem red1_OK {n : Nat} {ch f g : Nat → Int32} {k : Nat} (hk : k < 24) (h : rowsOK n ch f g) : rowsOK n ch f (red1 g k) := by
  intro i hi
  obtain ⟨a1, a2⟩ := red1_at (f := g) (a := k) hi
  obtain ⟨b1, b2, b3⟩ := h i hi
  obtain ⟨c1, c2, c3⟩ := h k hk
  rw [a1, a2]
  split
  · exact ⟨zlim_xor b1 c1, fun j hj => by rw [zb_xor, b2 j hj, c2 j hj]; rfl, by rw [xs_xor, b3, c3]⟩
  · exact ⟨b1, b2, b3⟩
theorem redN_OK {n : Nat} {ch f g : Nat → Int32} (h : rowsOK n ch f g) : ∀ k, k ≤ 24 → rowsOK n ch f (redN g k)
  | 0, _ => h
  | k + 1, hk => red1_OK (by omega) (redN_OK h k (by omega))
theorem redN_hi {g : Nat → Int32} : ∀ k j, 48 ≤ j → redN g k j = g j
  | 0, _, _ => rfl
  | k + 1, j, hj => by
    simp only [redN, red1, redI]
    rw [if_neg (by omega), if_neg (by omega)]
    exact redN_hi k j hj

theorem zb_mskOf {p : Nat → Bool} : ∀ {n : Nat}, n ≤ 32 → ∀ k, zb (mskOf p n) k = (decide (k < n) && p k)
  | 0, _, k => by simp [mskOf, zb_zero]
  | n + 1, hn, k => by
    unfold mskOf
    have ih := zb_mskOf (p := p) (n := n) (by omega) k
    rcases Nat.lt_trichotomy k n with g | g | g
    · split
      · rw [zb_or, ih, zb_bt (by omega)]
        have e1 : decide (k = n) = false := by simp; omega
        have e2 : decide (k < n) = true := by simp; omega
        have e3 : decide (k < n + 1) = true := by simp; omega
        rw [e1, e2, e3]; simp
      · rw [ih]
        have e2 : decide (k < n) = true := by simp; omega
        have e3 : decide (k < n + 1) = true := by simp; omega
        rw [e2, e3]
    · subst g
      split
      · rename_i h
        rw [zb_or, ih, zb_bt (by omega), h]; simp
      · rename_i h
        rw [ih]
        have h' : p k = false := by simpa using h
        rw [h']; simp
    · have e2 : decide (k < n) = false := by simp; omega
      have e3 : decide (k < n + 1) = false := by simp; omega
      rw [e3]
      split
      · rw [zb_or, ih, zb_bt (by omega), e2]
        simp; omega
      · rw [ih, e2]
theorem knowAll_0 {f ch : Nat → Int32} : knowAll f ch 0 = f := by
  have h0 : ∀ a : Int32, a &&& 0 = 0 := fun a => zb_ext (fun k _ => by rw [zb_and, zb_zero]; simp)
  have h1 : ∀ a : Int32, a ||| 0 = a := fun a => zb_ext (fun k _ => by rw [zb_or, zb_zero]; simp)
  funext j
  simp only [knowAll, h0, h1, xs_zero, i32_xor_zero, zb_zero]
  by_cases hj : j = 0
  · subst hj; simp
  · simp [hj]
theorem xs_and_bt {ch : Nat → Int32} {s M : Int32} {c : Nat} (hc : c < 16) (hM : zb M c = false) : xs ch (s &&& (M ||| bt c)) = xs ch (s &&& M) ^^^ (if zb s c then ch c else 0) := by
  have e : s &&& (M ||| bt c) = (s &&& M) ^^^ (if zb s c then bt c else 0) := by
    apply zb_ext
    intro k hk
    rw [zb_and, zb_or, zb_bt (by omega), zb_xor, zb_and]
    by_cases hkc : k = c
    · subst hkc
      rw [hM]
      cases h : zb s k with
      | true => simp [zb_bt hk]
      | false => simp [zb_zero]
    · cases h : zb s c with
      | true => simp [zb_bt (show c < 32 by omega), hkc]
      | false => simp [zb_zero, hkc]
  rw [e, xs_xor]
  congr 1
  cases zb s c with
  | true => simp [xs_bt ch hc]
  | false => simp [xs_zero]
theorem knowAll_s {f ch : Nat → Int32} {M : Int32} {c : Nat} (hc : c < 16) (hM : zb M c = false) : knowP (knowAll f ch M) c (ch c) = knowAll f ch (M ||| bt c) := by
  obtain ⟨a1, a2, a3, a4, a5⟩ := knowP_at (f := knowAll f ch M) (v := ch c) hc
  funext j
  by_cases h0 : j = 0
  · subst h0
    rw [a1]
    show (f 0 ||| M) ||| bt c = f 0 ||| (M ||| bt c)
    apply zb_ext
    intro k _
    simp only [zb_or, Bool.or_assoc]
  by_cases h5 : 5 ≤ j ∧ j < 21
  · obtain ⟨k, rfl⟩ : ∃ k, j = 5 + k := ⟨j - 5, by omega⟩
    have e1 : ∀ M', knowAll f ch M' (5 + k) = if zb M' k then ch k else f (5 + k) := fun M' => by
      simp only [knowAll]
      rw [if_neg (by omega), if_pos (by omega), show 5 + k - 5 = k by omega]
    by_cases hk : k = c
    · subst hk
      rw [a3, e1, zb_or, zb_bt (by omega)]
      simp
    · rw [a4 k (by omega) hk, e1, e1, zb_or, zb_bt (by omega)]
      simp [hk]
  by_cases h21 : 21 ≤ j ∧ j < 45
  · obtain ⟨r, rfl⟩ : ∃ r, j = 21 + r := ⟨j - 21, by omega⟩
    have e1 : ∀ M', knowAll f ch M' (21 + r) = f (21 + r) ^^^ (f (21 + r) &&& M') := fun M' => by
      simp only [knowAll]
      rw [if_neg (by omega), if_neg (by omega), if_pos (by omega)]
    rw [(a5 r (by omega)).1, e1, e1]
    have hz : zb (f (21 + r) ^^^ (f (21 + r) &&& M)) c = zb (f (21 + r)) c := by rw [zb_xor, zb_and, hM]; simp
    rw [hz]
    apply zb_ext
    intro k hk
    cases h : zb (f (21 + r)) c with
    | true =>
      simp only [if_true, zb_xor, zb_and, zb_or, zb_bt (show c < 32 by omega)]
      by_cases e : k = c
      · subst e; simp [h, hM]
      · simp [e]
    | false =>
      simp only [Bool.false_eq_true, if_false, zb_xor, zb_and, zb_or, zb_bt (show c < 32 by omega)]
      by_cases e : k = c
      · subst e; simp [h]
      · simp [e]
  by_cases h45 : 45 ≤ j ∧ j < 69
  · obtain ⟨r, rfl⟩ : ∃ r, j = 45 + r := ⟨j - 45, by omega⟩
    have e1 : ∀ M', knowAll f ch M' (45 + r) = f (45 + r) ^^^ xs ch (f (21 + r) &&& M') := fun M' => by
      simp only [knowAll]
      rw [if_neg (by omega), if_neg (by omega), if_neg (by omega), if_pos (by omega), show 45 + r - 24 = 21 + r by omega]
    have e2 : knowAll f ch M (21 + r) = f (21 + r) ^^^ (f (21 + r) &&& M) := by
      simp only [knowAll]
      rw [if_neg (by omega), if_neg (by omega), if_pos (by omega)]
    rw [(a5 r (by omega)).2, e1, e1, e2]
    have hz : zb (f (21 + r) ^^^ (f (21 + r) &&& M)) c = zb (f (21 + r)) c := by rw [zb_xor, zb_and, hM]; simp
    rw [hz, xs_and_bt hc hM]
    cases h : zb (f (21 + r)) c with
    | true => simp [i32_xor_assoc]
    | false => simp [i32_xor_zero]
  · have e1 : ∀ M', knowAll f ch M' j = f j := fun M' => by
      simp only [knowAll]
      rw [if_neg h0, if_neg h5, if_neg h21, if_neg h45]
    rw [e1]
    have : knowP (knowAll f ch M) c (ch c) j = knowAll f ch M j := by
      simp only [knowP, knowA]
      rw [if_neg h0, if_neg (by omega), if_neg (by omega), if_neg (by omega)]
    rw [this, e1]
/-- the mask of the single places among the rows ahead of i -/
def mskR (R : Nat → Int32) : Nat → Int32
  | 0 => 0
  | i + 1 => if isSg (R i) then mskR R i ||| R i else mskR R i
theorem solve_rows {n : Nat} {ch f R : Nat → Int32} {m : Nat} (hJ : zCJ n ch f m) (hR : zRW n ch f R) : ∀ i, i ≤ 24 → lsP f R i = knowAll f ch (mskR R i) ∧ zcnt (zb (mskR R i)) 16 = zcnt (fun j => isSg (R j)) i ∧
    ∀ k, zb (mskR R i) k = true ↔ ∃ j, j < i ∧ isSg (R j) = true ∧ R j = bt k ∧ k < n
  | 0, _ => ⟨knowAll_0.symm, by show zcnt (zb 0) 16 = 0; decide, fun k => by simp [mskR, zb_zero]⟩
  | i + 1, hi => by
    obtain ⟨h1, h2, h3⟩ := solve_rows hJ hR i (by omega)
    cases hs : isSg (R i) with
    | false =>
      have e1 : lsP f R (i + 1) = lsP f R i := by simp [lsP, hs]
      have e2 : mskR R (i + 1) = mskR R i := by simp [mskR, hs]
      have e3 : zcnt (fun j => isSg (R j)) (i + 1) = zcnt (fun j => isSg (R j)) i := by simp [zcnt, hs]
      refine ⟨by rw [e1, e2]; exact h1, by rw [e2, e3]; exact h2, fun k => ?_⟩
      rw [e2, h3 k]
      constructor
      · rintro ⟨j, a, b⟩; exact ⟨j, by omega, b⟩
      · rintro ⟨j, a, b, c⟩
        rcases Nat.lt_or_ge j i with g | g
        · exact ⟨j, g, b, c⟩
        · rw [show j = i by omega, hs] at b; cases b
    | true =>
      obtain ⟨g1, g2, g3⟩ := hR.1 i (by omega)
      obtain ⟨s1, s2, s3⟩ := sg_one hJ.1 g1 hs
      have hn := hJ.1
      have hv : R (24 + i) = ch (zlow (R i)) := by
        rw [g3]
        conv => lhs; rw [s1]
        exact xs_bt ch (by omega)
      have hno : zb (mskR R i) (zlow (R i)) = false := by
        cases hz : zb (mskR R i) (zlow (R i)) with
        | false => rfl
        | true =>
          obtain ⟨j, a, b, c, -⟩ := (h3 _).mp hz
          exact absurd (c.trans s1.symm) (hR.2 j i a (by omega) b hs)
      have e1 : lsP f R (i + 1) = knowP (lsP f R i) (zlow (R i)) (R (24 + i)) := by simp [lsP, hs]
      have e2 : mskR R (i + 1) = mskR R i ||| bt (zlow (R i)) := by
        simp only [mskR, hs, if_true]
        rw [← s1]
      have e3 : zcnt (fun j => isSg (R j)) (i + 1) = zcnt (fun j => isSg (R j)) i + 1 := by simp [zcnt, hs]
      refine ⟨by rw [e1, e2, hv, h1, knowAll_s (by omega) hno], by rw [e2, e3, zcnt_or_bt (by omega) hno, h2], fun k => ?_⟩
      rw [e2, zb_or, zb_bt (by omega)]
      constructor
      · intro h
        by_cases e : k = zlow (R i)
        · subst e; exact ⟨i, by omega, hs, s1, s2⟩
        · simp [e] at h
          obtain ⟨j, a, b⟩ := (h3 k).mp h
          exact ⟨j, by omega, b⟩
      · rintro ⟨j, a, b, c, d⟩
        rcases Nat.lt_or_ge j i with g | g
        · rw [(h3 k).mpr ⟨j, g, b, c, d⟩]; rfl
        · have hji : j = i := by omega
          subst hji
          have : zlow (R j) = k := by rw [c]; exact zlow_bt (by omega)
          rw [this]; simp

/-- the rows that a cup's droplets are brought to -/
def rowsOf (f : Nat → Int32) : Nat → Int32 := fun j => if j < 48 then f (21 + j) else 0
def redF (f : Nat → Int32) : Nat → Int32 := redN (rowsOf f) 24
theorem isSg_bt {c : Nat} (hc : c < 16) : isSg (bt c) = true := by simp [isSg, zcnt_bt hc]
theorem rows_OK {n : Nat} {ch f : Nat → Int32} {m : Nat} (hJ : zCJ n ch f m) : rowsOK n ch f (rowsOf f) := by
  intro i hi
  obtain ⟨a1, a2, a3, -⟩ := hJ.2.2.2.2.2 i hi
  have e1 : rowsOf f i = f (21 + i) := by simp only [rowsOf]; rw [if_pos (by omega)]
  have e2 : rowsOf f (24 + i) = f (45 + i) := by simp only [rowsOf]; rw [if_pos (by omega)]; congr 1; omega
  rw [e1, e2]
  exact ⟨a1, a2, a3⟩
theorem folB_iff {f : Nat → Int32} {k : Nat} : folB f k = true ↔ inSp (fun i => f (21 + i)) 24 (bt k) := by
  unfold folB
  exact @decide_eq_true_iff _ (Classical.propDecidable _)
theorem rows_sp {f : Nat → Int32} {s : Int32} : inSp (rowsOf f) 24 s ↔ inSp (fun i => f (21 + i)) 24 s := by
  have e : ∀ i, i < 24 → rowsOf f i = f (21 + i) := fun i hi => by simp only [rowsOf]; rw [if_pos (by omega)]
  constructor
  · intro h
    refine inSp_of (fun i hi => ?_) h
    rw [e i hi]
    exact inSp_row (g := fun i => f (21 + i)) hi
  · intro h
    refine inSp_of (fun i hi => ?_) h
    show inSp (rowsOf f) 24 (f (21 + i))
    rw [← e i hi]
    exact inSp_row hi
theorem class_solve {n : Nat} {ch f : Nat → Int32} {m : Nat} (hJ : zCJ n ch f m) : zRW n ch f (redF f) ∧ solP f (redF f) = slvP f ch ∧ zcnt (fun i => isSg (redF f i)) 24 = zcnt (zb (folM f)) 16 := by
  have hOK : rowsOK n ch f (redF f) := redN_OK (rows_OK hJ) 24 (by omega)
  obtain ⟨o, ho⟩ := redN_own (f := rowsOf f) 24 (by omega)
  have hown : ownR (redF f) 24 o := ho
  have hsp : ∀ s, inSp (redF f) 24 s ↔ inSp (fun i => f (21 + i)) 24 s := fun s => (redN_sp 24 (by omega) s).trans rows_sp
  have hn := hJ.1
  have hRW : zRW n ch f (redF f) := by
    refine ⟨hOK, fun i j hij hj hi1 hj1 e => ?_⟩
    have hne : redF f i ≠ 0 := fun e0 => by
      rw [e0] at hi1
      exact absurd hi1 (by decide)
    have h1 := hown i (by omega) hne
    have h2 := h1.2 j hj (by omega)
    rw [← e, h1.1] at h2
    cases h2
  obtain ⟨s1, s2, s3⟩ := solve_rows hJ hRW 24 (by omega)
  have hM : folM f = mskR (redF f) 24 := by
    apply zb_ext
    intro k hk
    unfold folM
    rw [zb_mskOf (by omega)]
    cases hz : zb (mskR (redF f) 24) k with
    | true =>
      obtain ⟨j, hj, hs, e, hkn⟩ := (s3 k).mp hz
      have : folB f k = true := folB_iff.mpr ((hsp _).mp (by rw [← e]; exact inSp_row hj))
      rw [this]
      simp; omega
    | false =>
      cases hk16 : decide (k < 16) with
      | false => rfl
      | true =>
        have hk16' : k < 16 := by simpa using hk16
        cases hB : folB f k with
        | false => rfl
        | true =>
          exfalso
          obtain ⟨a, ha, e⟩ := unit_row hown (by omega) ((hsp _).mpr (folB_iff.mp hB))
          have hkn : k < n := by
            rcases Nat.lt_or_ge k n with g | g
            · exact g
            · have h1 := (hOK a ha).1 k g
              rw [e, zb_bt hk] at h1
              simp at h1
          have := (s3 k).mpr ⟨a, ha, by rw [e]; exact isSg_bt hk16', e, hkn⟩
          rw [hz] at this
          cases this
  refine ⟨hRW, ?_, by rw [hM, s2]⟩
  unfold solP slvP
  rw [s1, hM]
theorem folM_lim {n : Nat} {ch f : Nat → Int32} {m : Nat} (hJ : zCJ n ch f m) : zlim n (folM f) ∧ ∀ k, zb (f 0) k = true → zb (folM f) k = false := by
  obtain ⟨hRW, -, -⟩ := class_solve hJ
  have hOK := hRW.1
  have hsp : ∀ s, inSp (redF f) 24 s ↔ inSp (fun i => f (21 + i)) 24 s := fun s => (redN_sp 24 (by omega) s).trans rows_sp
  have key : ∀ k, zb (folM f) k = true → k < 16 ∧ inSp (redF f) 24 (bt k) := fun k h => by
    unfold folM at h
    rw [zb_mskOf (by omega)] at h
    simp at h
    exact ⟨h.1, (hsp _).mpr (folB_iff.mp h.2)⟩
  refine ⟨fun k hk => ?_, fun k hk => ?_⟩
  · cases hz : zb (folM f) k with
    | false => rfl
    | true =>
      obtain ⟨h1, h2⟩ := key k hz
      have := h2 (zlim n) (zlim_zero n) (fun a b => zlim_xor) (fun i hi => (hOK i hi).1) k hk
      rw [zb_bt (by omega)] at this
      simp at this
  · cases hz : zb (folM f) k with
    | false => rfl
    | true =>
      obtain ⟨h1, h2⟩ := key k hz
      have := h2 (fun s => zb s k = false) (zb_zero k) (fun a b ha hb => by rw [zb_xor, ha, hb]; rfl) (fun i hi => (hOK i hi).2.1 k hk)
      rw [zb_bt (by omega)] at this
      simp at this
/-- what a cup is behind solving -/
theorem zCJ_all {n : Nat} {ch f : Nat → Int32} {m : Nat} (hJ : zCJ n ch f m) : zCJ n ch (knowAll f ch (folM f)) m ∧ zCI n ch (slvP f ch) := by
  obtain ⟨hRW, h2, -⟩ := class_solve hJ
  have h3 := lsP_J hJ hRW 24 (by omega)
  have hOK := hRW.1
  have e : knowAll f ch (folM f) = lsP f (redF f) 24 := by
    obtain ⟨o, ho⟩ := redN_own (f := rowsOf f) 24 (by omega)
    obtain ⟨s1, s2, s3⟩ := solve_rows hJ hRW 24 (by omega)
    have : folM f = mskR (redF f) 24 := by
      apply zb_ext
      intro k hk
      have hsp : ∀ s, inSp (redF f) 24 s ↔ inSp (fun i => f (21 + i)) 24 s := fun s => (redN_sp 24 (by omega) s).trans rows_sp
      unfold folM
      rw [zb_mskOf (by omega)]
      cases hz : zb (mskR (redF f) 24) k with
      | true =>
        obtain ⟨j, hj, hs, e, hkn⟩ := (s3 k).mp hz
        have : folB f k = true := folB_iff.mpr ((hsp _).mp (by rw [← e]; exact inSp_row hj))
        have hn := hJ.1
        rw [this]
        simp; omega
      | false =>
        cases hk16 : decide (k < 16) with
        | false => rfl
        | true =>
          have hk16' : k < 16 := by simpa using hk16
          cases hB : folB f k with
          | false => rfl
          | true =>
            exfalso
            obtain ⟨a, ha, e⟩ := unit_row (show ownR (redF f) 24 o from ho) (by omega) ((hsp _).mpr (folB_iff.mp hB))
            have hkn : k < n := by
              rcases Nat.lt_or_ge k n with g | g
              · exact g
              · have h1 := (hOK a ha).1 k g
                rw [e, zb_bt hk] at h1
                simp at h1
            have := (s3 k).mpr ⟨a, ha, by rw [e]; exact isSg_bt hk16', e, hkn⟩
            rw [hz] at this
            cases this
    rw [this, ← s1]
  rw [e]
  refine ⟨h3.1, ?_⟩
  unfold slvP
  rw [e]
  exact zCI_peelP 24 _ m hJ.2.1 h3.1
theorem slvP_hi {n : Nat} {ch f : Nat → Int32} {m : Nat} (hJ : zCJ n ch f m) : ∀ j, 69 ≤ j → slvP f ch j = f j := fun j hj => by
  unfold slvP
  rw [peelP_hi 24 _ m (zCJ_all hJ).1 j hj]
  simp only [knowAll]
  rw [if_neg (by omega), if_neg (by omega), if_neg (by omega), if_neg (by omega)]
end
section
theorem zsw_in {w : Int32} {N : Nat} (hN : N < 2 ^ 31) (h1 : ¬ w.toInt < 0) (h2 : ¬ (N : Int) < w.toInt) : ∃ k, k ≤ N ∧ w = nI k := by
  refine ⟨w.toInt.toNat, by omega, ?_⟩
  apply Int32.toInt_inj.mp
  rw [nI_toInt (by omega)]
  omega
theorem zsw2 (w : Int32) : w = 0 ∨ w = 1 ∨ w = 2 ∨ (w.toInt < 0 ∨ 2 < w.toInt) := by
  by_cases h1 : w.toInt < 0
  · exact Or.inr (Or.inr (Or.inr (Or.inl h1)))
  by_cases h2 : 2 < w.toInt
  · exact Or.inr (Or.inr (Or.inr (Or.inr h2)))
  obtain ⟨k, hk, rfl⟩ := zsw_in (N := 2) (by decide) h1 h2
  rcases (show k = 0 ∨ k = 1 ∨ k = 2 by omega) with rfl | rfl | rfl
  · exact Or.inl rfl
  · exact Or.inr (Or.inl rfl)
  · exact Or.inr (Or.inr (Or.inl rfl))
theorem zsw6 (w : Int32) : w = 0 ∨ w = 1 ∨ w = 2 ∨ w = 3 ∨ w = 4 ∨ w = 5 ∨ w = 6 ∨ (w.toInt < 0 ∨ 6 < w.toInt) := by
  by_cases h1 : w.toInt < 0
  · simp [h1]
  by_cases h2 : 6 < w.toInt
  · simp [h2]
  obtain ⟨k, hk, rfl⟩ := zsw_in (N := 6) (by decide) h1 h2
  rcases (show k = 0 ∨ k = 1 ∨ k = 2 ∨ k = 3 ∨ k = 4 ∨ k = 5 ∨ k = 6 by omega) with rfl | rfl | rfl | rfl | rfl | rfl | rfl
  · exact Or.inl rfl
  · exact Or.inr (Or.inl rfl)
  · exact Or.inr (Or.inr (Or.inl rfl))
  · exact Or.inr (Or.inr (Or.inr (Or.inl rfl)))
  · exact Or.inr (Or.inr (Or.inr (Or.inr (Or.inl rfl))))
  · exact Or.inr (Or.inr (Or.inr (Or.inr (Or.inr (Or.inl rfl)))))
  · exact Or.inr (Or.inr (Or.inr (Or.inr (Or.inr (Or.inr (Or.inl rfl))))))
theorem zsw7 (w : Int32) : w = 0 ∨ w = 1 ∨ w = 2 ∨ w = 3 ∨ w = 4 ∨ w = 5 ∨ w = 6 ∨ w = 7 ∨ (w.toInt < 0 ∨ 7 < w.toInt) := by
  by_cases h1 : w.toInt < 0
  · simp [h1]
  by_cases h2 : 7 < w.toInt
  · simp [h2]
  obtain ⟨k, hk, rfl⟩ := zsw_in (N := 7) (by decide) h1 h2
  rcases (show k = 0 ∨ k = 1 ∨ k = 2 ∨ k = 3 ∨ k = 4 ∨ k = 5 ∨ k = 6 ∨ k = 7 by omega) with rfl | rfl | rfl | rfl | rfl | rfl | rfl | rfl
  · exact Or.inl rfl
  · exact Or.inr (Or.inl rfl)
  · exact Or.inr (Or.inr (Or.inl rfl))
  · exact Or.inr (Or.inr (Or.inr (Or.inl rfl)))
  · exact Or.inr (Or.inr (Or.inr (Or.inr (Or.inl rfl))))
  · exact Or.inr (Or.inr (Or.inr (Or.inr (Or.inr (Or.inl rfl)))))
  · exact Or.inr (Or.inr (Or.inr (Or.inr (Or.inr (Or.inr (Or.inl rfl))))))
  · exact Or.inr (Or.inr (Or.inr (Or.inr (Or.inr (Or.inr (Or.inr (Or.inl rfl)))))))
def qDrop (r : Nat → Int32) (sd w : Int32) : Int32 := if (zin3 sd 0 65535 && zin3 w 0 3) = false then -2 else if r 2 = 0 then -5 else
  if w = 0 then dPR r sd.toNatClampNeg 1 else if w = 1 then dPR r sd.toNatClampNeg 2 else if w = 2 then dPR r sd.toNatClampNeg 3 else dPR r sd.toNatClampNeg 0
def qOfV (r f : Nat → Int32) (w : Int32) (fol : Int32) : Int32 := if w = 0 then f 0 else if w = 1 then f 1 else if w = 2 then f 2 else if w = 3 then f 3 else if w = 4 then f 4 else if w = 5 then bI (fullB r f) else
  if w = 6 then nI (zcnt (zb (f 0)) 16) + nI (zcnt (zb fol) 16) else -2
noncomputable def qOfCup (r : Nat → Int32) (y w : Int32) : Int32 := match cpI r y with
  | none => -1
  | some i => qOfV r (cupR r i) w (folM (cupR r i))
def qKnown (r : Nat → Int32) (y c : Int32) : Int32 := match cpI r y with
  | none => -1
  | some i => if zin3 c 0 15 = true ∧ c < r 2 then (if zb (cupR r i 0) c.toNatClampNeg then cupR r i (5 + c.toNatClampNeg) else -6) else -1
def qKept (r : Nat → Int32) (y k w : Int32) : Int32 := match cpI r y with
  | none => -1
  | some i => if zin3 k 0 23 = true ∧ k < cupR r i 1 then (if w = 0 then cupR r i (21 + k.toNatClampNeg) else if w = 1 then cupR r i (45 + k.toNatClampNeg) else -2) else -1
def qCount (r : Nat → Int32) (tn hc w : Int32) : Int32 := if w = 0 then r 2 else if w = 1 then r 3 else if w = 2 then fcN r (r 3).toNatClampNeg 3 else if w = 3 then r 4 else if w = 4 then r 0 else if w = 5 then r 1 else if w = 6 then tn else if w = 7 then hc else -2
def qWould (r : Nat → Int32) (y sd : Int32) : Int32 := match cpI r y with
  | none => -1
  | some i => if errD r sd 1 < 0 then errD r sd 1 else if ¬ dPR r sd.toNatClampNeg 0 = 0 then 0 else
    if 0 < recvR (cupR r i) (dPR r sd.toNatClampNeg) then 2 + recvR (cupR r i) (dPR r sd.toNatClampNeg) else
    if cupR r i 4 < recvP (cupR r i) (dPR r sd.toNatClampNeg) 4 then 1 else 2
def ndV (P : Nat → Bool) (N : Nat) : Int32 := match zfind P N with
  | none => -6
  | some k => nI k
theorem ndV_none {P : Nat → Bool} {N : Nat} (h : ∀ k, k < N → P k = false) : ndV P N = -6 := by unfold ndV; rw [zfind_of_none h]
theorem ndV_some {P : Nat → Bool} {N k : Nat} (hk : k < N) (h1 : P k = true) (h : ∀ j, j < k → P j = false) : ndV P N = nI k := by unfold ndV; rw [zfind_of hk h1 h]
def qNeeds (r : Nat → Int32) (y sd : Int32) : Int32 := match cpI r y with
  | none => -1
  | some i => if errD r sd 1 < 0 then errD r sd 1 else ndV (fun k => fullB r (prF r (cupR r i) sd.toNatClampNeg k)) 501
def degB (r : Nat → Int32) (sd : Nat) (dg : Int32) (k : Nat) : Bool := decide (nI (zdeg (r 0).toNatClampNeg (zdw (zdw ((sd + k) % 65536))) (r 2).toNatClampNeg) = dg)
def qDeg (r : Nat → Int32) (sd mn dg : Int32) : Int32 := if (zin3 sd 0 65535 && (zin3 mn 1 999 && zin3 dg 1 16)) = false then -2 else if r 2 = 0 then -5 else nI (zcnt (degB r sd.toNatClampNeg dg) mn.toNatClampNeg)
theorem zSI_CJ {b : Nat} {r : Nat → Int32} {n i : Nat} (h : ∀ i, i < 3 → zCI n (chR r) (cupR r i)) (hi : i < 3) : ∃ m, zCJ n (chR r) (cupR r i) m ∧ zsz (cupR r i) m := h i hi
end
section
set_option maxRecDepth 100000 in
set_option maxHeartbeats 4000000 in
theorem m_X6_solveCup (l : Launch) (D : zD) (B : Nat) {L : zL} {nx : Nat} {G : zG} {x b : Nat} {r : Nat → Int32} (hb : zBD L x) (hC : CR x r G) (hS : SI b r) (y : Int32) : zMet l D B yX6_solveCup cX6_solveCup 3 (some .int) 4 88 0 0 [.ref x, .int y] L nx G (zI (opSolve r y).1 L nx (fun G1 => CR x ((opSolve r y).2) G1 ∧ zFr x G G1)) := by
  refine zMet_of (own := RX6) (mn := "solveCup") [some (.ref x), some (.int y), none] (by decide +kernel) rfl rfl rfl (Nat.le_of_ble_eq_true rfl) ?_
  show zV l (fun _ => True) D B RX6 "solveCup" cX6_solveCup 3 (some .int) (zrm 4 88 0 0) (zN (zI (opSolve r y).1 L nx (fun G1 => CR x ((opSolve r y).2) G1 ∧ zFr x G G1))) 0 0 L nx 0 [some (.ref x), some (.int y), none] [] (G)
  obtain ⟨w, ls, n, cn, i0, iw, i1, il, i2, i3, i4, i5, i6, i7, i8⟩ := id hS
  have e3 : G (x + 1) 3 = nI cn := by rw [hC.1.1]; exact i4
  have e2 : G (x + 1) 2 = nI n := by rw [hC.1.1]; exact i2
  have e0 : G (x + 1) 0 = nI w := by rw [hC.1.1]; exact i0
  have e1 : G (x + 1) 1 = nI ls := by rw [hC.1.1]; exact i1
  refine zv_aload_n dX6_solveCup_0 rfl ?_
  refine zv_getS (r := 1) hb.1 rfl fl_X6_10 rfl dX6_solveCup_1 ?_
  refine zv_iload_n dX6_solveCup_4 rfl ?_
  rcases hz : cpI r y with _ | i
  · have hno := cpI_none i4 i5 hz
    have hop : opSolve r y = (-1, r) := by unfold opSolve; rw [hz]
    refine zv_callV (m_X5_cupAt_no l D B hb.2.1 e3 i5 hno) ml_X6_110 in_X5_cupAt sel_X5_cupAt hb.2.1.1 rfl rfl rfl rfl (Nat.le_of_ble_eq_true rfl) dX6_solveCup_5 ⟨Nat.le_of_ble_eq_true rfl, Nat.le_of_ble_eq_true rfl⟩ ⟨Nat.le_refl _, Nat.le_refl _⟩ (zk_w ?_)
    refine zv_astore_nN dX6_solveCup_8 (by decide) rfl ?_
    refine zv_aload_nN dX6_solveCup_9 rfl ?_
    refine zv_ifnonnull_n dX6_solveCup_10 ?_
    refine zv_iconst (v := (-1)) dX6_solveCup_13 (by decide) ?_
    rw [hop]
    exact zv_iretI dX6_solveCup_14 rfl rfl rfl ⟨hC, zFr_rf⟩
  · obtain ⟨hi, rfl⟩ := cpI_some i4 i5 hz
    have hi3 : i < 3 := by omega
    have hci := hC.1.2 i hi3
    obtain ⟨m, hJ, hsz⟩ := i6 i hi3
    obtain ⟨hRW, hsol, -⟩ := class_solve hJ
    have hop : opSolve r (nI i) = (nI (zcnt (zb (slvP (cupR r i) (chR r) 0)) 16) - nI (zcnt (zb (cupR r i 0)) 16), putC r i (slvP (cupR r i) (chR r))) := by unfold opSolve; rw [hz]
    refine zv_callV (m_X5_cupAt l D B hb.2.1 e3 i5 hi) ml_X6_110 in_X5_cupAt sel_X5_cupAt hb.2.1.1 rfl rfl rfl rfl (Nat.le_of_ble_eq_true rfl) dX6_solveCup_5 ⟨Nat.le_of_ble_eq_true rfl, Nat.le_of_ble_eq_true rfl⟩ ⟨Nat.le_refl _, Nat.le_refl _⟩ (zk_r ?_)
    refine zv_astore_n dX6_solveCup_8 (by decide) rfl ?_
    refine zv_aload_n dX6_solveCup_9 rfl ?_
    refine zv_ifnonnull_r (tgt := 15) dX6_solveCup_10 (by decide) ?_
    refine zv_aload_n dX6_solveCup_15 rfl ?_
    refine zv_getS (r := 131) hb.1 rfl fl_X6_51 rfl dX6_solveCup_16 ?_
    refine zv_aload_n dX6_solveCup_19 rfl ?_
    refine zv_callV (m_X4_reduce l D B (q := x + 131) (p := x + 1 + (3 + 4 * i)) hb.2.2.2.2.2.2.2 (hb.2.1.2 i hi3) (by omega) hC.2.2) ml_X6_132 in_X4_reduce sel_X4_reduce hb.2.2.2.2.2.2.2 rfl rfl rfl rfl (Nat.le_of_ble_eq_true rfl) dX6_solveCup_20 ⟨Nat.le_of_ble_eq_true rfl, Nat.le_of_ble_eq_true rfl⟩ ⟨Nat.le_refl _, Nat.le_refl _⟩ (zk_v ?_)
    rw [show redN (fun j => if j < 48 then G (x + 1 + (3 + 4 * i)) (21 + j) else 0) 24 = redF (cupR r i) by rw [hci]; rfl]
    have hC2 : CR x r (zst G (x + 131) (redF (cupR r i))) := CR_row hC (fun j hj => (redN_hi 24 j hj).trans (by simp only [rowsOf]; rw [if_neg (by omega)]))
    have hg1 : (zst G (x + 131) (redF (cupR r i))) (x + 1 + (3 + 4 * i)) = cupR r i := by rw [zst_ne _ _ (by omega)]; exact hci
    refine zv_aload_n dX6_solveCup_23 rfl ?_
    refine zv_aload_n dX6_solveCup_24 rfl ?_
    refine zv_getS (r := 131) hb.1 rfl fl_X6_51 rfl dX6_solveCup_25 ?_
    refine zv_callV (m_X0_learnSingles l D B (q := x + 1 + (3 + 4 * i)) (r := x + 131) (n := n) (m := m) (ch := chR r) (hb.2.1.2 i hi3) hb.2.2.2.2.2.2.2 (by omega) (by rw [hg1]; exact hJ) (by rw [hg1, zst_same]; exact hRW)) ml_X6_226 in_X0_learnSingles sel_X0_learnSingles (hb.2.1.2 i hi3) rfl rfl rfl rfl (Nat.le_of_ble_eq_true rfl) dX6_solveCup_28 ⟨Nat.le_of_ble_eq_true rfl, Nat.le_of_ble_eq_true rfl⟩ ⟨Nat.le_refl _, Nat.le_refl _⟩ (zk_i ?_)
    rw [hg1, zst_same, hsol]
    rw [hop]
    exact zv_iretI dX6_solveCup_31 rfl rfl rfl ⟨CR_cup hC2 hi3 (fun j hj => (slvP_hi hJ j hj).trans (cupR_hi r i j hj)), zFr_tr (zFr_zst (by omega)) (zFr_zst (by omega))⟩

set_option maxRecDepth 100000 in
set_option maxHeartbeats 4000000 in
theorem m_X6_droplet (l : Launch) (D : zD) (B : Nat) {L : zL} {nx : Nat} {G : zG} {x b : Nat} {r : Nat → Int32} (hb : zBD L x) (hC : CR x r G) (hS : SI b r) (sd v : Int32) : zMet l D B yX6_droplet cX6_droplet 3 (some .int) 3 71 0 0 [.ref x, .int sd, .int v] L nx G (zI (qDrop r sd v) L nx (fun G1 => CR x (r) G1 ∧ zFr x G G1)) := by
  refine zMet_of (own := RX6) (mn := "droplet") [some (.ref x), some (.int sd), some (.int v)] (by decide +kernel) rfl rfl rfl (Nat.le_of_ble_eq_true rfl) ?_
  show zV l (fun _ => True) D B RX6 "droplet" cX6_droplet 3 (some .int) (zrm 3 71 0 0) (zN (zI (qDrop r sd v) L nx (fun G1 => CR x (r) G1 ∧ zFr x G G1))) 0 0 L nx 0 [some (.ref x), some (.int sd), some (.int v)] [] (G)
  obtain ⟨w, ls, n, cn, i0, iw, i1, il, i2, i3, i4, i5, i6, i7, i8⟩ := id hS
  have e3 : G (x + 1) 3 = nI cn := by rw [hC.1.1]; exact i4
  have e2 : G (x + 1) 2 = nI n := by rw [hC.1.1]; exact i2
  have e0 : G (x + 1) 0 = nI w := by rw [hC.1.1]; exact i0
  have e1 : G (x + 1) 1 = nI ls := by rw [hC.1.1]; exact i1
  refine zv_iload_n dX6_droplet_0 rfl ?_
  refine zv_iconst (v := 0) dX6_droplet_1 (by decide) ?_
  refine zv_ldc dX6_droplet_2 kc_X6_84 ?_
  refine zv_callS (m_X6_isWithin l D B sd 0 65535) ml_X6_85 st_X6_isWithin rfl rfl (Nat.le_of_ble_eq_true rfl) dX6_droplet_4 ⟨Nat.le_of_ble_eq_true rfl, Nat.le_of_ble_eq_true rfl⟩ ⟨Nat.le_refl _, Nat.le_refl _⟩ (zk_i ?_)
  refine zv_if_eq (tgt := 19) dX6_droplet_7 (by decide) (fun c7 => ?_) (fun c7 => ?_)
  · have h1 := bI_eq0.mp c7
    have hq : qDrop r sd v = -2 := by unfold qDrop; rw [h1, if_pos (by simp)]
    refine zv_bipush (v := (-2)) dX6_droplet_19 (by decide) ?_
    rw [hq]
    exact zv_iretI dX6_droplet_21 rfl rfl rfl ⟨hC, zFr_rf⟩
  · have h1 := bI_ne0.mp c7
    refine zv_iload_n dX6_droplet_10 rfl ?_
    refine zv_iconst (v := 0) dX6_droplet_11 (by decide) ?_
    refine zv_iconst (v := 3) dX6_droplet_12 (by decide) ?_
    refine zv_callS (m_X6_isWithin l D B v 0 3) ml_X6_85 st_X6_isWithin rfl rfl (Nat.le_of_ble_eq_true rfl) dX6_droplet_13 ⟨Nat.le_of_ble_eq_true rfl, Nat.le_of_ble_eq_true rfl⟩ ⟨Nat.le_refl _, Nat.le_refl _⟩ (zk_i ?_)
    refine zv_if_ne (tgt := 22) dX6_droplet_16 (by decide) (fun c16 => ?_) (fun c16 => ?_)
    · have h2 := bI_ne0.mp c16
      refine zv_aload_n dX6_droplet_22 rfl ?_
      refine zv_getS (r := 1) hb.1 rfl fl_X6_10 rfl dX6_droplet_23 ?_
      refine zv_getI hb.2.1.1 rfl fl_X6_89 rfl dX6_droplet_26 ?_
      rw [e2]
      refine zv_if_ne (tgt := 35) dX6_droplet_29 (by decide) (fun c29 => ?_) (fun c29 => ?_)
      · have hn0 : 0 < n := by
          rcases Nat.eq_zero_or_pos n with g | g
          · exact absurd (by rw [g]; rfl) c29
          · exact g
        obtain ⟨s0, hs0, rfl⟩ := (zin3_iff (m := 65535) (by decide)).mp h1
        have hq : qDrop r (nI s0) v = if v = 0 then dPR r s0 1 else if v = 1 then dPR r s0 2 else if v = 2 then dPR r s0 3 else dPR r s0 0 := by
          unfold qDrop
          rw [h1, h2, if_neg (by simp), if_neg (by rw [i2]; exact nI_ne0 hn0 (by omega)), nI_clamp (by omega)]
        rw [hq]
        refine zv_aload_n dX6_droplet_35 rfl ?_
        refine zv_getS (r := 126) hb.1 rfl fl_X6_37 rfl dX6_droplet_36 ?_
        refine zv_aload_n dX6_droplet_39 rfl ?_
        refine zv_getS (r := 1) hb.1 rfl fl_X6_10 rfl dX6_droplet_40 ?_
        refine zv_iload_n dX6_droplet_43 rfl ?_
        refine zv_callV (m_X1_makeFrom l D B (q := x + 126) (s := x + 1) (w := w) (n := n) (sd := s0) hb.2.2.2.2.2.1 hb.2.1.1 (by omega) e2 hn0 i3 e0 iw (by omega)) ml_X6_93 in_X1_makeFrom sel_X1_makeFrom hb.2.2.2.2.2.1 rfl rfl rfl rfl (Nat.le_of_ble_eq_true rfl) dX6_droplet_44 ⟨Nat.le_of_ble_eq_true rfl, Nat.le_of_ble_eq_true rfl⟩ ⟨Nat.le_refl _, Nat.le_refl _⟩ (zk_v ?_)
        have hdd : mkP (G (x + 126)) w (G (x + 1) 1) n (fun k => G (x + 1) (5 + k)) (s0) 0 = dPR r (s0) 0 ∧ mkP (G (x + 126)) w (G (x + 1) 1) n (fun k => G (x + 1) (5 + k)) (s0) 1 = dPR r (s0) 1 ∧ mkP (G (x + 126)) w (G (x + 1) 1) n (fun k => G (x + 1) (5 + k)) (s0) 2 = dPR r (s0) 2 ∧ mkP (G (x + 126)) w (G (x + 1) 1) n (fun k => G (x + 1) (5 + k)) (s0) 3 = dPR r (s0) 3 := by
          unfold dPR
          rw [i0, i2, nI_clamp (by omega), nI_clamp (by omega), hC.1.1]
          exact ⟨rfl, rfl, rfl, rfl⟩
        generalize mkP (G (x + 126)) w (G (x + 1) 1) n (fun k => G (x + 1) (5 + k)) (s0) = d at hdd ⊢
        obtain ⟨d0, d1, d2, d3⟩ := hdd
        refine zv_iload_n dX6_droplet_47 rfl ?_
        rcases zsw2 v with rfl | rfl | rfl | hout
        · refine zv_tableIn (off := 28) (tgt := 76) dX6_droplet_48 (by decide) (by decide) (by first | rfl | decide +kernel) (by decide) ?_
          refine zv_aload_n dX6_droplet_76 rfl ?_
          refine zv_getS (r := 126) hb.1 rfl fl_X6_37 rfl dX6_droplet_77 ?_
          refine zv_getI hb.2.2.2.2.2.1 rfl fl_X6_97 rfl dX6_droplet_80 ?_
          exact zv_iretI dX6_droplet_83 rfl rfl (by rw [zst_same, d1]; rfl) ⟨CR_fal hC, zFr_zst (by omega)⟩
        · refine zv_tableIn (off := 36) (tgt := 84) dX6_droplet_48 (by decide) (by decide) (by first | rfl | decide +kernel) (by decide) ?_
          refine zv_aload_n dX6_droplet_84 rfl ?_
          refine zv_getS (r := 126) hb.1 rfl fl_X6_37 rfl dX6_droplet_85 ?_
          refine zv_getI hb.2.2.2.2.2.1 rfl fl_X6_100 rfl dX6_droplet_88 ?_
          exact zv_iretI dX6_droplet_91 rfl rfl (by rw [zst_same, d2]; rfl) ⟨CR_fal hC, zFr_zst (by omega)⟩
        · refine zv_tableIn (off := 44) (tgt := 92) dX6_droplet_48 (by decide) (by decide) (by first | rfl | decide +kernel) (by decide) ?_
          refine zv_aload_n dX6_droplet_92 rfl ?_
          refine zv_getS (r := 126) hb.1 rfl fl_X6_37 rfl dX6_droplet_93 ?_
          refine zv_getI hb.2.2.2.2.2.1 rfl fl_X6_103 rfl dX6_droplet_96 ?_
          exact zv_iretI dX6_droplet_99 rfl rfl (by rw [zst_same, d3]; rfl) ⟨CR_fal hC, zFr_zst (by omega)⟩
        · have hv : ∀ k : Int32, (k = 0 ∨ k = 1 ∨ k = 2) → ¬ v = k := by
            rintro k hk rfl
            rcases hk with rfl | rfl | rfl <;> (revert hout; decide)
          refine zv_tableOut (tgt := 100) dX6_droplet_48 (hout) (by decide) ?_
          refine zv_aload_n dX6_droplet_100 rfl ?_
          refine zv_getS (r := 126) hb.1 rfl fl_X6_37 rfl dX6_droplet_101 ?_
          refine zv_getI hb.2.2.2.2.2.1 rfl fl_X6_106 rfl dX6_droplet_104 ?_
          rw [zst_same, d0]
          have hD01 := (dPR_DO (sd := s0) i2 hn0 i3).1
          refine zv_if_eq (tgt := 114) dX6_droplet_107 (by decide) (fun c107 => ?_) (fun c107 => ?_)
          · refine zv_iconst (v := 0) dX6_droplet_114 (by decide) ?_
            rw [if_neg (hv 0 (by simp)), if_neg (hv 1 (by simp)), if_neg (hv 2 (by simp))]
            first
              | exact zv_iretI dX6_droplet_115 rfl rfl c107.symm ⟨CR_fal hC, zFr_zst (by omega)⟩
              | exact zv_iretI dX6_droplet_115 rfl rfl (hD01.resolve_left c107).symm ⟨CR_fal hC, zFr_zst (by omega)⟩
          · refine zv_iconst (v := 1) dX6_droplet_110 (by decide) ?_
            refine zv_goto (tgt := 115) dX6_droplet_111 (by decide) ?_
            rw [if_neg (hv 0 (by simp)), if_neg (hv 1 (by simp)), if_neg (hv 2 (by simp))]
            first
              | exact zv_iretI dX6_droplet_115 rfl rfl c107.symm ⟨CR_fal hC, zFr_zst (by omega)⟩
              | exact zv_iretI dX6_droplet_115 rfl rfl (hD01.resolve_left c107).symm ⟨CR_fal hC, zFr_zst (by omega)⟩
      · have hq : qDrop r sd v = -5 := by unfold qDrop; rw [h1, h2, if_neg (by simp), if_pos (by rw [i2]; exact c29)]
        refine zv_bipush (v := (-5)) dX6_droplet_32 (by decide) ?_
        rw [hq]
        exact zv_iretI dX6_droplet_34 rfl rfl rfl ⟨hC, zFr_rf⟩
    · have h2 := bI_eq0.mp c16
      have hq : qDrop r sd v = -2 := by unfold qDrop; rw [h2, if_pos (by simp)]
      refine zv_bipush (v := (-2)) dX6_droplet_19 (by decide) ?_
      rw [hq]
      exact zv_iretI dX6_droplet_21 rfl rfl rfl ⟨hC, zFr_rf⟩

set_option maxRecDepth 100000 in
set_option maxHeartbeats 4000000 in
theorem m_X6_ofCup (l : Launch) (D : zD) (B : Nat) {L : zL} {nx : Nat} {G : zG} {x b : Nat} {r : Nat → Int32} (hb : zBD L x) (hC : CR x r G) (hS : SI b r) (y v : Int32) : zMet l D B yX6_ofCup cX6_ofCup 4 (some .int) 3 64 0 0 [.ref x, .int y, .int v] L nx G (zI (qOfCup r y v) L nx (fun G1 => CR x (r) G1 ∧ zFr x G G1)) := by
  refine zMet_of (own := RX6) (mn := "ofCup") [some (.ref x), some (.int y), some (.int v), none] (by decide +kernel) rfl rfl rfl (Nat.le_of_ble_eq_true rfl) ?_
  show zV l (fun _ => True) D B RX6 "ofCup" cX6_ofCup 4 (some .int) (zrm 3 64 0 0) (zN (zI (qOfCup r y v) L nx (fun G1 => CR x (r) G1 ∧ zFr x G G1))) 0 0 L nx 0 [some (.ref x), some (.int y), some (.int v), none] [] (G)
  obtain ⟨w, ls, n, cn, i0, iw, i1, il, i2, i3, i4, i5, i6, i7, i8⟩ := id hS
  have e3 : G (x + 1) 3 = nI cn := by rw [hC.1.1]; exact i4
  have e2 : G (x + 1) 2 = nI n := by rw [hC.1.1]; exact i2
  have e0 : G (x + 1) 0 = nI w := by rw [hC.1.1]; exact i0
  have e1 : G (x + 1) 1 = nI ls := by rw [hC.1.1]; exact i1
  refine zv_aload_n dX6_ofCup_0 rfl ?_
  refine zv_getS (r := 1) hb.1 rfl fl_X6_10 rfl dX6_ofCup_1 ?_
  refine zv_iload_n dX6_ofCup_4 rfl ?_
  rcases hz : cpI r y with _ | i
  · have hno := cpI_none i4 i5 hz
    have hop : qOfCup r y v = -1 := by unfold qOfCup; rw [hz]
    refine zv_callV (m_X5_cupAt_no l D B hb.2.1 e3 i5 hno) ml_X6_110 in_X5_cupAt sel_X5_cupAt hb.2.1.1 rfl rfl rfl rfl (Nat.le_of_ble_eq_true rfl) dX6_ofCup_5 ⟨Nat.le_of_ble_eq_true rfl, Nat.le_of_ble_eq_true rfl⟩ ⟨Nat.le_refl _, Nat.le_refl _⟩ (zk_w ?_)
    refine zv_astore_nN dX6_ofCup_8 (by decide) rfl ?_
    refine zv_aload_nN dX6_ofCup_9 rfl ?_
    refine zv_ifnonnull_n dX6_ofCup_10 ?_
    refine zv_iconst (v := (-1)) dX6_ofCup_13 (by decide) ?_
    rw [hop]
    exact zv_iretI dX6_ofCup_14 rfl rfl rfl ⟨hC, zFr_rf⟩
  · obtain ⟨hi, rfl⟩ := cpI_some i4 i5 hz
    have hi3 : i < 3 := by omega
    have hci := hC.1.2 i hi3
    obtain ⟨m, hJ, hsz⟩ := i6 i hi3
    obtain ⟨hRW, hsol, hcnt⟩ := class_solve hJ
    refine zv_callV (m_X5_cupAt l D B hb.2.1 e3 i5 hi) ml_X6_110 in_X5_cupAt sel_X5_cupAt hb.2.1.1 rfl rfl rfl rfl (Nat.le_of_ble_eq_true rfl) dX6_ofCup_5 ⟨Nat.le_of_ble_eq_true rfl, Nat.le_of_ble_eq_true rfl⟩ ⟨Nat.le_refl _, Nat.le_refl _⟩ (zk_r ?_)
    refine zv_astore_n dX6_ofCup_8 (by decide) rfl ?_
    refine zv_aload_n dX6_ofCup_9 rfl ?_
    refine zv_ifnonnull_r (tgt := 15) dX6_ofCup_10 (by decide) ?_
    refine zv_iload_n dX6_ofCup_15 rfl ?_
    rcases zsw6 v with rfl | rfl | rfl | rfl | rfl | rfl | rfl | hout
    · have hq : qOfCup r (nI i) 0 = qOfV r (cupR r i) 0 (folM (cupR r i)) := by unfold qOfCup; rw [hz]
      rw [hq]
      refine zv_tableIn (off := 44) (tgt := 60) dX6_ofCup_16 (by decide) (by decide) (by first | rfl | decide +kernel) (by decide) ?_
      refine zv_aload_n dX6_ofCup_60 rfl ?_
      refine zv_getI (hb.2.1.2 i hi3) rfl fl_X6_114 rfl dX6_ofCup_61 ?_
      exact zv_iretI dX6_ofCup_64 rfl rfl (by rw [hci]; rfl) ⟨hC, zFr_rf⟩
    · have hq : qOfCup r (nI i) 1 = qOfV r (cupR r i) 1 (folM (cupR r i)) := by unfold qOfCup; rw [hz]
      rw [hq]
      refine zv_tableIn (off := 49) (tgt := 65) dX6_ofCup_16 (by decide) (by decide) (by first | rfl | decide +kernel) (by decide) ?_
      refine zv_aload_n dX6_ofCup_65 rfl ?_
      refine zv_getI (hb.2.1.2 i hi3) rfl fl_X6_117 rfl dX6_ofCup_66 ?_
      exact zv_iretI dX6_ofCup_69 rfl rfl (by rw [hci]; rfl) ⟨hC, zFr_rf⟩
    · have hq : qOfCup r (nI i) 2 = qOfV r (cupR r i) 2 (folM (cupR r i)) := by unfold qOfCup; rw [hz]
      rw [hq]
      refine zv_tableIn (off := 54) (tgt := 70) dX6_ofCup_16 (by decide) (by decide) (by first | rfl | decide +kernel) (by decide) ?_
      refine zv_aload_n dX6_ofCup_70 rfl ?_
      refine zv_getI (hb.2.1.2 i hi3) rfl fl_X6_120 rfl dX6_ofCup_71 ?_
      exact zv_iretI dX6_ofCup_74 rfl rfl (by rw [hci]; rfl) ⟨hC, zFr_rf⟩
    · have hq : qOfCup r (nI i) 3 = qOfV r (cupR r i) 3 (folM (cupR r i)) := by unfold qOfCup; rw [hz]
      rw [hq]
      refine zv_tableIn (off := 59) (tgt := 75) dX6_ofCup_16 (by decide) (by decide) (by first | rfl | decide +kernel) (by decide) ?_
      refine zv_aload_n dX6_ofCup_75 rfl ?_
      refine zv_getI (hb.2.1.2 i hi3) rfl fl_X6_123 rfl dX6_ofCup_76 ?_
      exact zv_iretI dX6_ofCup_79 rfl rfl (by rw [hci]; rfl) ⟨hC, zFr_rf⟩
    · have hq : qOfCup r (nI i) 4 = qOfV r (cupR r i) 4 (folM (cupR r i)) := by unfold qOfCup; rw [hz]
      rw [hq]
      refine zv_tableIn (off := 64) (tgt := 80) dX6_ofCup_16 (by decide) (by decide) (by first | rfl | decide +kernel) (by decide) ?_
      refine zv_aload_n dX6_ofCup_80 rfl ?_
      refine zv_getI (hb.2.1.2 i hi3) rfl fl_X6_125 rfl dX6_ofCup_81 ?_
      exact zv_iretI dX6_ofCup_84 rfl rfl (by rw [hci]; rfl) ⟨hC, zFr_rf⟩
    · have hq : qOfCup r (nI i) 5 = qOfV r (cupR r i) 5 (folM (cupR r i)) := by unfold qOfCup; rw [hz]
      rw [hq]
      refine zv_tableIn (off := 69) (tgt := 85) dX6_ofCup_16 (by decide) (by decide) (by first | rfl | decide +kernel) (by decide) ?_
      refine zv_aload_n dX6_ofCup_85 rfl ?_
      refine zv_aload_n dX6_ofCup_86 rfl ?_
      refine zv_callV (m_X6_isFull l D B hb hC.1 (hb.2.1.2 i hi3)) ml_X6_128 in_X6_isFull sel_X6_isFull hb.1 rfl rfl rfl rfl (Nat.le_of_ble_eq_true rfl) dX6_ofCup_87 ⟨Nat.le_of_ble_eq_true rfl, Nat.le_of_ble_eq_true rfl⟩ ⟨Nat.le_refl _, Nat.le_refl _⟩ (zk_i ?_)
      rw [hci]
      refine zv_if_eq (tgt := 97) dX6_ofCup_90 (by decide) (fun c90 => ?_) (fun c90 => ?_)
      · refine zv_iconst (v := 0) dX6_ofCup_97 (by decide) ?_
        first
          | exact zv_iretI dX6_ofCup_98 rfl rfl (by rw [show qOfV r (cupR r i) 5 (folM (cupR r i)) = bI (fullB r (cupR r i)) from rfl, bI_eq0.mp c90]; rfl) ⟨hC, zFr_rf⟩
          | exact zv_iretI dX6_ofCup_98 rfl rfl (by rw [show qOfV r (cupR r i) 5 (folM (cupR r i)) = bI (fullB r (cupR r i)) from rfl, bI_ne0.mp c90]; rfl) ⟨hC, zFr_rf⟩
      · refine zv_iconst (v := 1) dX6_ofCup_93 (by decide) ?_
        refine zv_goto (tgt := 98) dX6_ofCup_94 (by decide) ?_
        first
          | exact zv_iretI dX6_ofCup_98 rfl rfl (by rw [show qOfV r (cupR r i) 5 (folM (cupR r i)) = bI (fullB r (cupR r i)) from rfl, bI_eq0.mp c90]; rfl) ⟨hC, zFr_rf⟩
          | exact zv_iretI dX6_ofCup_98 rfl rfl (by rw [show qOfV r (cupR r i) 5 (folM (cupR r i)) = bI (fullB r (cupR r i)) from rfl, bI_ne0.mp c90]; rfl) ⟨hC, zFr_rf⟩
    · have hq : qOfCup r (nI i) 6 = qOfV r (cupR r i) 6 (folM (cupR r i)) := by unfold qOfCup; rw [hz]
      rw [hq]
      refine zv_tableIn (off := 83) (tgt := 99) dX6_ofCup_16 (by decide) (by decide) (by first | rfl | decide +kernel) (by decide) ?_
      refine zv_aload_n dX6_ofCup_99 rfl ?_
      refine zv_getS (r := 131) hb.1 rfl fl_X6_51 rfl dX6_ofCup_100 ?_
      refine zv_aload_n dX6_ofCup_103 rfl ?_
      refine zv_callV (m_X4_reduce l D B (q := x + 131) (p := x + 1 + (3 + 4 * i)) hb.2.2.2.2.2.2.2 (hb.2.1.2 i hi3) (by omega) hC.2.2) ml_X6_132 in_X4_reduce sel_X4_reduce hb.2.2.2.2.2.2.2 rfl rfl rfl rfl (Nat.le_of_ble_eq_true rfl) dX6_ofCup_104 ⟨Nat.le_of_ble_eq_true rfl, Nat.le_of_ble_eq_true rfl⟩ ⟨Nat.le_refl _, Nat.le_refl _⟩ (zk_v ?_)
      rw [show redN (fun j => if j < 48 then G (x + 1 + (3 + 4 * i)) (21 + j) else 0) 24 = redF (cupR r i) by rw [hci]; rfl]
      have hC2 : CR x r (zst G (x + 131) (redF (cupR r i))) := CR_row hC (fun j hj => (redN_hi 24 j hj).trans (by simp only [rowsOf]; rw [if_neg (by omega)]))
      have hg1 : (zst G (x + 131) (redF (cupR r i))) (x + 1 + (3 + 4 * i)) = cupR r i := by rw [zst_ne _ _ (by omega)]; exact hci
      refine zv_aload_n dX6_ofCup_107 rfl ?_
      refine zv_callV (m_knownCount l D B (hb.2.1.2 i hi3) (by rw [hg1]; exact zlim_zm hJ.1 hJ.2.2.2.1)) ml_X6_136 in_X0_knownCount sel_X0_knownCount (hb.2.1.2 i hi3) rfl rfl rfl rfl (Nat.le_of_ble_eq_true rfl) dX6_ofCup_108 ⟨Nat.le_of_ble_eq_true rfl, Nat.le_of_ble_eq_true rfl⟩ ⟨Nat.le_refl _, Nat.le_refl _⟩ (zk_i ?_)
      rw [hg1]
      refine zv_aload_n dX6_ofCup_111 rfl ?_
      refine zv_getS (r := 131) hb.1 rfl fl_X6_51 rfl dX6_ofCup_112 ?_
      refine zv_callV (m_X4_singleCount l D B hb.2.2.2.2.2.2.2 (fun j hj => by rw [zst_same]; exact zlim_zm hJ.1 (hRW.1 j hj).1)) ml_X6_139 in_X4_singleCount sel_X4_singleCount hb.2.2.2.2.2.2.2 rfl rfl rfl rfl (Nat.le_of_ble_eq_true rfl) dX6_ofCup_115 ⟨Nat.le_of_ble_eq_true rfl, Nat.le_of_ble_eq_true rfl⟩ ⟨Nat.le_refl _, Nat.le_refl _⟩ (zk_i ?_)
      rw [zst_same, hcnt]
      refine zv_iadd dX6_ofCup_118 ?_
      exact zv_iretI dX6_ofCup_119 rfl rfl rfl ⟨hC2, zFr_zst (by omega)⟩
    · have hv : ∀ k : Int32, (k = 0 ∨ k = 1 ∨ k = 2 ∨ k = 3 ∨ k = 4 ∨ k = 5 ∨ k = 6) → ¬ v = k := by
        rintro k hk rfl
        rcases hk with rfl | rfl | rfl | rfl | rfl | rfl | rfl <;> (revert hout; decide)
      have hq : qOfCup r (nI i) v = -2 := by
        unfold qOfCup
        rw [hz]
        unfold qOfV
        dsimp only
        rw [if_neg (hv 0 (by simp)), if_neg (hv 1 (by simp)), if_neg (hv 2 (by simp)), if_neg (hv 3 (by simp)), if_neg (hv 4 (by simp)), if_neg (hv 5 (by simp)), if_neg (hv 6 (by simp))]
      refine zv_tableOut (tgt := 120) dX6_ofCup_16 (hout) (by decide) ?_
      refine zv_bipush (v := (-2)) dX6_ofCup_120 (by decide) ?_
      rw [hq]
      exact zv_iretI dX6_ofCup_122 rfl rfl rfl ⟨hC, zFr_rf⟩

set_option maxRecDepth 100000 in
set_option maxHeartbeats 4000000 in
theorem m_X6_known (l : Launch) (D : zD) (B : Nat) {L : zL} {nx : Nat} {G : zG} {x b : Nat} {r : Nat → Int32} (hb : zBD L x) (hC : CR x r G) (hS : SI b r) (y c : Int32) : zMet l D B yX6_known cX6_known 4 (some .int) 1 22 0 0 [.ref x, .int y, .int c] L nx G (zI (qKnown r y c) L nx (fun G1 => CR x (r) G1 ∧ zFr x G G1)) := by
  refine zMet_of (own := RX6) (mn := "known") [some (.ref x), some (.int y), some (.int c), none] (by decide +kernel) rfl rfl rfl (Nat.le_of_ble_eq_true rfl) ?_
  show zV l (fun _ => True) D B RX6 "known" cX6_known 4 (some .int) (zrm 1 22 0 0) (zN (zI (qKnown r y c) L nx (fun G1 => CR x (r) G1 ∧ zFr x G G1))) 0 0 L nx 0 [some (.ref x), some (.int y), some (.int c), none] [] (G)
  obtain ⟨w, ls, n, cn, i0, iw, i1, il, i2, i3, i4, i5, i6, i7, i8⟩ := id hS
  have e3 : G (x + 1) 3 = nI cn := by rw [hC.1.1]; exact i4
  have e2 : G (x + 1) 2 = nI n := by rw [hC.1.1]; exact i2
  have e0 : G (x + 1) 0 = nI w := by rw [hC.1.1]; exact i0
  have e1 : G (x + 1) 1 = nI ls := by rw [hC.1.1]; exact i1
  refine zv_aload_n dX6_known_0 rfl ?_
  refine zv_getS (r := 1) hb.1 rfl fl_X6_10 rfl dX6_known_1 ?_
  refine zv_iload_n dX6_known_4 rfl ?_
  rcases hz : cpI r y with _ | i
  · have hno := cpI_none i4 i5 hz
    have hop : qKnown r y c = -1 := by unfold qKnown; rw [hz]
    refine zv_callV (m_X5_cupAt_no l D B hb.2.1 e3 i5 hno) ml_X6_110 in_X5_cupAt sel_X5_cupAt hb.2.1.1 rfl rfl rfl rfl (Nat.le_of_ble_eq_true rfl) dX6_known_5 ⟨Nat.le_of_ble_eq_true rfl, Nat.le_of_ble_eq_true rfl⟩ ⟨Nat.le_refl _, Nat.le_refl _⟩ (zk_w ?_)
    refine zv_astore_nN dX6_known_8 (by decide) rfl ?_
    refine zv_aload_nN dX6_known_9 rfl ?_
    refine zv_ifnull_n (tgt := 34) dX6_known_10 (by decide) ?_
    refine zv_iconst (v := (-1)) dX6_known_34 (by decide) ?_
    rw [hop]
    exact zv_iretI dX6_known_35 rfl rfl rfl ⟨hC, zFr_rf⟩
  · obtain ⟨hi, rfl⟩ := cpI_some i4 i5 hz
    have hi3 : i < 3 := by omega
    have hci := hC.1.2 i hi3
    refine zv_callV (m_X5_cupAt l D B hb.2.1 e3 i5 hi) ml_X6_110 in_X5_cupAt sel_X5_cupAt hb.2.1.1 rfl rfl rfl rfl (Nat.le_of_ble_eq_true rfl) dX6_known_5 ⟨Nat.le_of_ble_eq_true rfl, Nat.le_of_ble_eq_true rfl⟩ ⟨Nat.le_refl _, Nat.le_refl _⟩ (zk_r ?_)
    refine zv_astore_n dX6_known_8 (by decide) rfl ?_
    refine zv_aload_n dX6_known_9 rfl ?_
    refine zv_ifnull_r dX6_known_10 ?_
    refine zv_iload_n dX6_known_13 rfl ?_
    refine zv_iconst (v := 0) dX6_known_14 (by decide) ?_
    refine zv_bipush (v := 15) dX6_known_15 (by decide) ?_
    refine zv_callS (m_X6_isWithin l D B c 0 15) ml_X6_85 st_X6_isWithin rfl rfl (Nat.le_of_ble_eq_true rfl) dX6_known_17 ⟨Nat.le_of_ble_eq_true rfl, Nat.le_of_ble_eq_true rfl⟩ ⟨Nat.le_refl _, Nat.le_refl _⟩ (zk_i ?_)
    refine zv_if_eq (tgt := 34) dX6_known_20 (by decide) (fun c20 => ?_) (fun c20 => ?_)
    · have h1 := bI_eq0.mp c20
      have hq : qKnown r (nI i) c = -1 := by unfold qKnown; rw [hz]; dsimp only; rw [if_neg (fun h => by rw [h1] at h; cases h.1)]
      refine zv_iconst (v := (-1)) dX6_known_34 (by decide) ?_
      rw [hq]
      exact zv_iretI dX6_known_35 rfl rfl rfl ⟨hC, zFr_rf⟩
    · have h1 := bI_ne0.mp c20
      obtain ⟨k, hk, rfl⟩ := (zin3_iff (m := 15) (by decide)).mp h1
      refine zv_iload_n dX6_known_23 rfl ?_
      refine zv_aload_n dX6_known_24 rfl ?_
      refine zv_getS (r := 1) hb.1 rfl fl_X6_10 rfl dX6_known_25 ?_
      refine zv_getI hb.2.1.1 rfl fl_X6_89 rfl dX6_known_28 ?_
      rw [e2]
      refine zv_icmp_lt (tgt := 36) dX6_known_31 (by decide) (fun c31 => ?_) (fun c31 => ?_)
      · have h2 : nI k < r 2 := by rw [i2]; exact c31
        have hq : qKnown r (nI i) (nI k) = if zb (cupR r i 0) k then cupR r i (5 + k) else -6 := by unfold qKnown; rw [hz]; dsimp only; rw [if_pos ⟨h1, h2⟩, nI_clamp (by omega)]
        refine zv_aload_n dX6_known_36 rfl ?_
        refine zv_getI (hb.2.1.2 i hi3) rfl fl_X6_114 rfl dX6_known_37 ?_
        refine zv_iconst (v := 1) dX6_known_40 (by decide) ?_
        refine zv_iload_n dX6_known_41 rfl ?_
        refine zv_ishl dX6_known_42 ?_
        refine zv_iand dX6_known_43 ?_
        rw [hci]
        refine zv_if_ne (tgt := 52) dX6_known_44 (by decide) (fun c44 => ?_) (fun c44 => ?_)
        · have hb1 : zb (cupR r i 0) k = true := by
            cases h : zb (cupR r i 0) k with
            | true => rfl
            | false => exact absurd ((zb_and_bt _ (show k < 32 by omega)).mpr h) c44
          refine zv_aload_n dX6_known_52 rfl ?_
          refine zv_getS (r := 1) (hb.2.1.2 i hi3) rfl fl_X6_142 rfl dX6_known_53 ?_
          refine zv_iload_n dX6_known_56 rfl ?_
          refine zv_iald (i := 1) (hb.2.1.2 i hi3) rfl (zix_nI (by omega) (by decide)) dX6_known_57 ?_
          rw [hq, hb1]
          first
            | exact zv_iretI dX6_known_58 rfl rfl rfl ⟨hC, zFr_rf⟩
            | exact zv_iretI dX6_known_58 rfl rfl (by rw [hci]; rfl) ⟨hC, zFr_rf⟩
        · have hb1 : zb (cupR r i 0) k = false := (zb_and_bt _ (show k < 32 by omega)).mp c44
          refine zv_bipush (v := (-6)) dX6_known_47 (by decide) ?_
          refine zv_goto (tgt := 58) dX6_known_49 (by decide) ?_
          rw [hq, hb1]
          first
            | exact zv_iretI dX6_known_58 rfl rfl rfl ⟨hC, zFr_rf⟩
            | exact zv_iretI dX6_known_58 rfl rfl (by rw [hci]; rfl) ⟨hC, zFr_rf⟩
      · have hq : qKnown r (nI i) (nI k) = -1 := by unfold qKnown; rw [hz]; dsimp only; rw [if_neg (fun h => c31 (by rw [← i2]; exact h.2))]
        refine zv_iconst (v := (-1)) dX6_known_34 (by decide) ?_
        rw [hq]
        exact zv_iretI dX6_known_35 rfl rfl rfl ⟨hC, zFr_rf⟩

set_option maxRecDepth 100000 in
set_option maxHeartbeats 4000000 in
theorem m_X6_kept (l : Launch) (D : zD) (B : Nat) {L : zL} {nx : Nat} {G : zG} {x b : Nat} {r : Nat → Int32} (hb : zBD L x) (hC : CR x r G) (hS : SI b r) (y c v : Int32) : zMet l D B yX6_kept cX6_kept 5 (some .int) 1 22 0 0 [.ref x, .int y, .int c, .int v] L nx G (zI (qKept r y c v) L nx (fun G1 => CR x (r) G1 ∧ zFr x G G1)) := by
  refine zMet_of (own := RX6) (mn := "kept") [some (.ref x), some (.int y), some (.int c), some (.int v), none] (by decide +kernel) rfl rfl rfl (Nat.le_of_ble_eq_true rfl) ?_
  show zV l (fun _ => True) D B RX6 "kept" cX6_kept 5 (some .int) (zrm 1 22 0 0) (zN (zI (qKept r y c v) L nx (fun G1 => CR x (r) G1 ∧ zFr x G G1))) 0 0 L nx 0 [some (.ref x), some (.int y), some (.int c), some (.int v), none] [] (G)
  obtain ⟨w, ls, n, cn, i0, iw, i1, il, i2, i3, i4, i5, i6, i7, i8⟩ := id hS
  have e3 : G (x + 1) 3 = nI cn := by rw [hC.1.1]; exact i4
  have e2 : G (x + 1) 2 = nI n := by rw [hC.1.1]; exact i2
  have e0 : G (x + 1) 0 = nI w := by rw [hC.1.1]; exact i0
  have e1 : G (x + 1) 1 = nI ls := by rw [hC.1.1]; exact i1
  refine zv_aload_n dX6_kept_0 rfl ?_
  refine zv_getS (r := 1) hb.1 rfl fl_X6_10 rfl dX6_kept_1 ?_
  refine zv_iload_n dX6_kept_4 rfl ?_
  rcases hz : cpI r y with _ | i
  · have hno := cpI_none i4 i5 hz
    have hop : qKept r y c v = -1 := by unfold qKept; rw [hz]
    refine zv_callV (m_X5_cupAt_no l D B hb.2.1 e3 i5 hno) ml_X6_110 in_X5_cupAt sel_X5_cupAt hb.2.1.1 rfl rfl rfl rfl (Nat.le_of_ble_eq_true rfl) dX6_kept_5 ⟨Nat.le_of_ble_eq_true rfl, Nat.le_of_ble_eq_true rfl⟩ ⟨Nat.le_refl _, Nat.le_refl _⟩ (zk_w ?_)
    refine zv_astoreN dX6_kept_8 (by decide) rfl ?_
    refine zv_aloadN dX6_kept_10 rfl ?_
    refine zv_ifnull_n (tgt := 34) dX6_kept_12 (by decide) ?_
    refine zv_iconst (v := (-1)) dX6_kept_34 (by decide) ?_
    rw [hop]
    exact zv_iretI dX6_kept_35 rfl rfl rfl ⟨hC, zFr_rf⟩
  · obtain ⟨hi, rfl⟩ := cpI_some i4 i5 hz
    have hi3 : i < 3 := by omega
    have hci := hC.1.2 i hi3
    obtain ⟨m, hJ, hsz⟩ := i6 i hi3
    refine zv_callV (m_X5_cupAt l D B hb.2.1 e3 i5 hi) ml_X6_110 in_X5_cupAt sel_X5_cupAt hb.2.1.1 rfl rfl rfl rfl (Nat.le_of_ble_eq_true rfl) dX6_kept_5 ⟨Nat.le_of_ble_eq_true rfl, Nat.le_of_ble_eq_true rfl⟩ ⟨Nat.le_refl _, Nat.le_refl _⟩ (zk_r ?_)
    refine zv_astore dX6_kept_8 (by decide) rfl ?_
    refine zv_aload dX6_kept_10 rfl ?_
    refine zv_ifnull_r dX6_kept_12 ?_
    refine zv_iload_n dX6_kept_15 rfl ?_
    refine zv_iconst (v := 0) dX6_kept_16 (by decide) ?_
    refine zv_bipush (v := 23) dX6_kept_17 (by decide) ?_
    refine zv_callS (m_X6_isWithin l D B c 0 23) ml_X6_85 st_X6_isWithin rfl rfl (Nat.le_of_ble_eq_true rfl) dX6_kept_19 ⟨Nat.le_of_ble_eq_true rfl, Nat.le_of_ble_eq_true rfl⟩ ⟨Nat.le_refl _, Nat.le_refl _⟩ (zk_i ?_)
    refine zv_if_eq (tgt := 34) dX6_kept_22 (by decide) (fun c22 => ?_) (fun c22 => ?_)
    · have h1 := bI_eq0.mp c22
      have hq : qKept r (nI i) c v = -1 := by unfold qKept; rw [hz]; dsimp only; rw [if_neg (fun h => by rw [h1] at h; cases h.1)]
      refine zv_iconst (v := (-1)) dX6_kept_34 (by decide) ?_
      rw [hq]
      exact zv_iretI dX6_kept_35 rfl rfl rfl ⟨hC, zFr_rf⟩
    · have h1 := bI_ne0.mp c22
      obtain ⟨k, hk, rfl⟩ := (zin3_iff (m := 23) (by decide)).mp h1
      refine zv_iload_n dX6_kept_25 rfl ?_
      refine zv_aload dX6_kept_26 rfl ?_
      refine zv_getI (hb.2.1.2 i hi3) rfl fl_X6_117 rfl dX6_kept_28 ?_
      rw [hci]
      refine zv_icmp_lt (tgt := 36) dX6_kept_31 (by decide) (fun c31 => ?_) (fun c31 => ?_)
      · have hq : qKept r (nI i) (nI k) v = if v = 0 then cupR r i (21 + k) else if v = 1 then cupR r i (45 + k) else -2 := by unfold qKept; rw [hz]; dsimp only; rw [if_pos ⟨h1, c31⟩, nI_clamp (by omega)]
        refine zv_iload_n dX6_kept_36 rfl ?_
        rcases (show v = 0 ∨ v = 1 ∨ (¬ v = 0 ∧ ¬ v = 1) from by by_cases h0 : v = 0; exact Or.inl h0; by_cases h1 : v = 1; exact Or.inr (Or.inl h1); exact Or.inr (Or.inr ⟨h0, h1⟩)) with rfl | rfl | ⟨v0, v1⟩
        · refine zv_lookup (off := 27) (tgt := 64) dX6_kept_37 (by decide +kernel) (by decide +kernel) (by decide) ?_
          refine zv_aload dX6_kept_64 rfl ?_
          refine zv_getS (r := 2) (hb.2.1.2 i hi3) rfl fl_X6_146 rfl dX6_kept_66 ?_
          refine zv_iload_n dX6_kept_69 rfl ?_
          refine zv_iald (i := 2) (hb.2.1.2 i hi3) rfl (zix_nI (by omega) (by decide)) dX6_kept_70 ?_
          rw [hq]
          exact zv_iretI dX6_kept_71 rfl rfl (by rw [hci]; rfl) ⟨hC, zFr_rf⟩
        · refine zv_lookup (off := 35) (tgt := 72) dX6_kept_37 (by decide +kernel) (by decide +kernel) (by decide) ?_
          refine zv_aload dX6_kept_72 rfl ?_
          refine zv_getS (r := 3) (hb.2.1.2 i hi3) rfl fl_X6_149 rfl dX6_kept_74 ?_
          refine zv_iload_n dX6_kept_77 rfl ?_
          refine zv_iald (i := 3) (hb.2.1.2 i hi3) rfl (zix_nI (by omega) (by decide)) dX6_kept_78 ?_
          rw [hq]
          exact zv_iretI dX6_kept_79 rfl rfl (by rw [hci]; rfl) ⟨hC, zFr_rf⟩
        · refine zv_lookup (off := 43) (tgt := 80) dX6_kept_37 (by decide +kernel) ((lv_osw (k := 0) v0 rfl).trans ((lv_osw (k := 1) v1 rfl).trans rfl)) (by decide) ?_
          refine zv_bipush (v := (-2)) dX6_kept_80 (by decide) ?_
          rw [hq, if_neg v0, if_neg v1]
          exact zv_iretI dX6_kept_82 rfl rfl rfl ⟨hC, zFr_rf⟩
      · have hq : qKept r (nI i) (nI k) v = -1 := by unfold qKept; rw [hz]; dsimp only; rw [if_neg (fun h => c31 h.2)]
        refine zv_iconst (v := (-1)) dX6_kept_34 (by decide) ?_
        rw [hq]
        exact zv_iretI dX6_kept_35 rfl rfl rfl ⟨hC, zFr_rf⟩

set_option maxRecDepth 100000 in
set_option maxHeartbeats 4000000 in
theorem m_X6_count (l : Launch) (D : zD) (B : Nat) {L : zL} {nx : Nat} {G : zG} {x b : Nat} {r : Nat → Int32} (hb : zBD L x) (hC : CR x r G) (hS : SI b r) (v tn hc : Int32) (ht : G (x + 124) 1 = tn) (hh : G (x + 16) 2 = hc) : zMet l D B yX6_count cX6_count 2 (some .int) 3 64 0 0 [.ref x, .int v] L nx G (zI (qCount r tn hc v) L nx (fun G1 => CR x (r) G1 ∧ zFr x G G1)) := by
  refine zMet_of (own := RX6) (mn := "count") [some (.ref x), some (.int v)] (by decide +kernel) rfl rfl rfl (Nat.le_of_ble_eq_true rfl) ?_
  show zV l (fun _ => True) D B RX6 "count" cX6_count 2 (some .int) (zrm 3 64 0 0) (zN (zI (qCount r tn hc v) L nx (fun G1 => CR x (r) G1 ∧ zFr x G G1))) 0 0 L nx 0 [some (.ref x), some (.int v)] [] (G)
  obtain ⟨w, ls, n, cn, i0, iw, i1, il, i2, i3, i4, i5, i6, i7, i8⟩ := id hS
  have e3 : G (x + 1) 3 = nI cn := by rw [hC.1.1]; exact i4
  have e2 : G (x + 1) 2 = nI n := by rw [hC.1.1]; exact i2
  have e0 : G (x + 1) 0 = nI w := by rw [hC.1.1]; exact i0
  have e1 : G (x + 1) 1 = nI ls := by rw [hC.1.1]; exact i1
  refine zv_iload_n dX6_count_0 rfl ?_
  rcases zsw7 v with rfl | rfl | rfl | rfl | rfl | rfl | rfl | rfl | hout
  · refine zv_tableIn (off := 47) (tgt := 48) dX6_count_1 (by decide) (by decide) (by first | rfl | decide +kernel) (by decide) ?_
    refine zv_aload_n dX6_count_48 rfl ?_
    refine zv_getS (r := 1) hb.1 rfl fl_X6_10 rfl dX6_count_49 ?_
    refine zv_getI hb.2.1.1 rfl fl_X6_89 rfl dX6_count_52 ?_
    exact zv_iretI dX6_count_55 rfl rfl (by rw [hC.1.1]; rfl) ⟨hC, zFr_rf⟩
  · refine zv_tableIn (off := 55) (tgt := 56) dX6_count_1 (by decide) (by decide) (by first | rfl | decide +kernel) (by decide) ?_
    refine zv_aload_n dX6_count_56 rfl ?_
    refine zv_getS (r := 1) hb.1 rfl fl_X6_10 rfl dX6_count_57 ?_
    refine zv_getI hb.2.1.1 rfl fl_X6_152 rfl dX6_count_60 ?_
    exact zv_iretI dX6_count_63 rfl rfl (by rw [hC.1.1]; rfl) ⟨hC, zFr_rf⟩
  · refine zv_tableIn (off := 63) (tgt := 64) dX6_count_1 (by decide) (by decide) (by first | rfl | decide +kernel) (by decide) ?_
    refine zv_aload_n dX6_count_64 rfl ?_
    refine zv_callV (m_X6_fullCups l D B hb hC.1 e3 i5) ml_X6_155 in_X6_fullCups sel_X6_fullCups hb.1 rfl rfl rfl rfl (Nat.le_of_ble_eq_true rfl) dX6_count_65 ⟨Nat.le_of_ble_eq_true rfl, Nat.le_of_ble_eq_true rfl⟩ ⟨Nat.le_refl _, Nat.le_refl _⟩ (zk_i ?_)
    exact zv_iretI dX6_count_68 rfl rfl (by rw [show qCount r tn hc 2 = fcN r (r 3).toNatClampNeg 3 from rfl, i4, nI_clamp (by omega)]) ⟨hC, zFr_rf⟩
  · refine zv_tableIn (off := 68) (tgt := 69) dX6_count_1 (by decide) (by decide) (by first | rfl | decide +kernel) (by decide) ?_
    refine zv_aload_n dX6_count_69 rfl ?_
    refine zv_getS (r := 1) hb.1 rfl fl_X6_10 rfl dX6_count_70 ?_
    refine zv_getI hb.2.1.1 rfl fl_X6_158 rfl dX6_count_73 ?_
    exact zv_iretI dX6_count_76 rfl rfl (by rw [hC.1.1]; rfl) ⟨hC, zFr_rf⟩
  · refine zv_tableIn (off := 76) (tgt := 77) dX6_count_1 (by decide) (by decide) (by first | rfl | decide +kernel) (by decide) ?_
    refine zv_aload_n dX6_count_77 rfl ?_
    refine zv_getS (r := 1) hb.1 rfl fl_X6_10 rfl dX6_count_78 ?_
    refine zv_getI hb.2.1.1 rfl fl_X6_159 rfl dX6_count_81 ?_
    exact zv_iretI dX6_count_84 rfl rfl (by rw [hC.1.1]; rfl) ⟨hC, zFr_rf⟩
  · refine zv_tableIn (off := 84) (tgt := 85) dX6_count_1 (by decide) (by decide) (by first | rfl | decide +kernel) (by decide) ?_
    refine zv_aload_n dX6_count_85 rfl ?_
    refine zv_getS (r := 1) hb.1 rfl fl_X6_10 rfl dX6_count_86 ?_
    refine zv_getI hb.2.1.1 rfl fl_X6_162 rfl dX6_count_89 ?_
    exact zv_iretI dX6_count_92 rfl rfl (by rw [hC.1.1]; rfl) ⟨hC, zFr_rf⟩
  · refine zv_tableIn (off := 92) (tgt := 93) dX6_count_1 (by decide) (by decide) (by first | rfl | decide +kernel) (by decide) ?_
    refine zv_aload_n dX6_count_93 rfl ?_
    refine zv_getS (r := 124) hb.1 rfl fl_X6_30 rfl dX6_count_94 ?_
    refine zv_getI hb.2.2.2.2.1 rfl fl_X6_165 rfl dX6_count_97 ?_
    exact zv_iretI dX6_count_100 rfl rfl (ht) ⟨hC, zFr_rf⟩
  · refine zv_tableIn (off := 100) (tgt := 101) dX6_count_1 (by decide) (by decide) (by first | rfl | decide +kernel) (by decide) ?_
    refine zv_aload_n dX6_count_101 rfl ?_
    refine zv_getS (r := 16) hb.1 rfl fl_X6_19 rfl dX6_count_102 ?_
    refine zv_getIN hb.2.2.1.1 rfl fl_X6_168 rfl dX6_count_105 ?_
    exact zv_iretI dX6_count_108 rfl rfl (hh) ⟨hC, zFr_rf⟩
  · have hv : ∀ k : Int32, (k = 0 ∨ k = 1 ∨ k = 2 ∨ k = 3 ∨ k = 4 ∨ k = 5 ∨ k = 6 ∨ k = 7) → ¬ v = k := by
      rintro k hk rfl
      rcases hk with rfl | rfl | rfl | rfl | rfl | rfl | rfl | rfl <;> (revert hout; decide)
    have hq : qCount r tn hc v = -2 := by
      unfold qCount
      rw [if_neg (hv 0 (by simp)), if_neg (hv 1 (by simp)), if_neg (hv 2 (by simp)), if_neg (hv 3 (by simp)), if_neg (hv 4 (by simp)), if_neg (hv 5 (by simp)), if_neg (hv 6 (by simp)), if_neg (hv 7 (by simp))]
    refine zv_tableOut (tgt := 109) dX6_count_1 (hout) (by decide) ?_
    refine zv_bipush (v := (-2)) dX6_count_109 (by decide) ?_
    rw [hq]
    exact zv_iretI dX6_count_111 rfl rfl rfl ⟨hC, zFr_rf⟩
end
section
set_option maxRecDepth 100000 in
set_option maxHeartbeats 4000000 in
theorem m_X6_would (l : Launch) (D : zD) (B : Nat) {L : zL} {nx : Nat} {G : zG} {x b : Nat} {r : Nat → Int32} (hb : zBD L x) (hC : CR x r G) (hS : SI b r) (y sd : Int32) : zMet l D B yX6_would cX6_would 6 (some .int) 4 90 0 0 [.ref x, .int y, .int sd] L nx G (zI (qWould r y sd) L nx (fun G1 => CR x (r) G1 ∧ zFr x G G1)) := by
  refine zMet_of (own := RX6) (mn := "would") [some (.ref x), some (.int y), some (.int sd), none, none, none] (by decide +kernel) rfl rfl rfl (Nat.le_of_ble_eq_true rfl) ?_
  show zV l (fun _ => True) D B RX6 "would" cX6_would 6 (some .int) (zrm 4 90 0 0) (zN (zI (qWould r y sd) L nx (fun G1 => CR x (r) G1 ∧ zFr x G G1))) 0 0 L nx 0 [some (.ref x), some (.int y), some (.int sd), none, none, none] [] (G)
  obtain ⟨w, ls, n, cn, i0, iw, i1, il, i2, i3, i4, i5, i6, i7, i8⟩ := id hS
  have e3 : G (x + 1) 3 = nI cn := by rw [hC.1.1]; exact i4
  have e2 : G (x + 1) 2 = nI n := by rw [hC.1.1]; exact i2
  have e0 : G (x + 1) 0 = nI w := by rw [hC.1.1]; exact i0
  have e1 : G (x + 1) 1 = nI ls := by rw [hC.1.1]; exact i1
  refine zv_aload_n dX6_would_0 rfl ?_
  refine zv_getS (r := 1) hb.1 rfl fl_X6_10 rfl dX6_would_1 ?_
  refine zv_iload_n dX6_would_4 rfl ?_
  rcases hz : cpI r y with _ | i
  · have hno := cpI_none i4 i5 hz
    have hop : qWould r y sd = -1 := by unfold qWould; rw [hz]
    refine zv_callV (m_X5_cupAt_no l D B hb.2.1 e3 i5 hno) ml_X6_110 in_X5_cupAt sel_X5_cupAt hb.2.1.1 rfl rfl rfl rfl (Nat.le_of_ble_eq_true rfl) dX6_would_5 ⟨Nat.le_of_ble_eq_true rfl, Nat.le_of_ble_eq_true rfl⟩ ⟨Nat.le_refl _, Nat.le_refl _⟩ (zk_w ?_)
    refine zv_astore_nN dX6_would_8 (by decide) rfl ?_
    refine zv_aload_nN dX6_would_9 rfl ?_
    refine zv_ifnonnull_n dX6_would_10 ?_
    refine zv_iconst (v := (-1)) dX6_would_13 (by decide) ?_
    rw [hop]
    exact zv_iretI dX6_would_14 rfl rfl rfl ⟨hC, zFr_rf⟩
  · obtain ⟨hi, rfl⟩ := cpI_some i4 i5 hz
    have hi3 : i < 3 := by omega
    have hci := hC.1.2 i hi3
    have hq : qWould r (nI i) sd = (if errD r sd 1 < 0 then errD r sd 1 else if ¬ dPR r sd.toNatClampNeg 0 = 0 then 0 else if 0 < recvR (cupR r i) (dPR r sd.toNatClampNeg) then 2 + recvR (cupR r i) (dPR r sd.toNatClampNeg) else if cupR r i 4 < recvP (cupR r i) (dPR r sd.toNatClampNeg) 4 then 1 else 2) := by unfold qWould; rw [hz]
    rw [hq]
    obtain ⟨m, hJ, hsz⟩ := i6 i hi3
    refine zv_callV (m_X5_cupAt l D B hb.2.1 e3 i5 hi) ml_X6_110 in_X5_cupAt sel_X5_cupAt hb.2.1.1 rfl rfl rfl rfl (Nat.le_of_ble_eq_true rfl) dX6_would_5 ⟨Nat.le_of_ble_eq_true rfl, Nat.le_of_ble_eq_true rfl⟩ ⟨Nat.le_refl _, Nat.le_refl _⟩ (zk_r ?_)
    refine zv_astore_n dX6_would_8 (by decide) rfl ?_
    refine zv_aload_n dX6_would_9 rfl ?_
    refine zv_ifnonnull_r (tgt := 15) dX6_would_10 (by decide) ?_
    refine zv_aload_n dX6_would_15 rfl ?_
    refine zv_iload_n dX6_would_16 rfl ?_
    refine zv_iconst (v := 1) dX6_would_17 (by decide) ?_
    refine zv_callV (m_X6_errorOfDroplets l D B hb hC.1 sd 1) ml_X6_171 in_X6_errorOfDroplets sel_X6_errorOfDroplets hb.1 rfl rfl rfl rfl (Nat.le_of_ble_eq_true rfl) dX6_would_18 ⟨Nat.le_of_ble_eq_true rfl, Nat.le_of_ble_eq_true rfl⟩ ⟨Nat.le_refl _, Nat.le_refl _⟩ (zk_i ?_)
    refine zv_istore dX6_would_21 (by decide) rfl ?_
    refine zv_iload dX6_would_23 rfl ?_
    refine zv_if_ge (tgt := 31) dX6_would_25 (by decide) (fun c25 => ?_) (fun c25 => ?_)
    · have he : ¬ errD r sd 1 < 0 := i32_nlt.mpr c25
      rw [if_neg he]
      obtain ⟨s0, b0, hs0, -, -, rfl, -, hn0⟩ := errD_ok i2 i3 he
      rw [nI_clamp (by omega)]
      refine zv_aload_n dX6_would_31 rfl ?_
      refine zv_getS (r := 126) hb.1 rfl fl_X6_37 rfl dX6_would_32 ?_
      refine zv_aload_n dX6_would_35 rfl ?_
      refine zv_getS (r := 1) hb.1 rfl fl_X6_10 rfl dX6_would_36 ?_
      refine zv_iload_n dX6_would_39 rfl ?_
      refine zv_callV (m_X1_makeFrom l D B (q := x + 126) (s := x + 1) (w := w) (n := n) (sd := s0) hb.2.2.2.2.2.1 hb.2.1.1 (by omega) e2 hn0 i3 e0 iw (by omega)) ml_X6_93 in_X1_makeFrom sel_X1_makeFrom hb.2.2.2.2.2.1 rfl rfl rfl rfl (Nat.le_of_ble_eq_true rfl) dX6_would_40 ⟨Nat.le_of_ble_eq_true rfl, Nat.le_of_ble_eq_true rfl⟩ ⟨Nat.le_refl _, Nat.le_refl _⟩ (zk_v ?_)
      have hdd : mkP (G (x + 126)) w (G (x + 1) 1) n (fun k => G (x + 1) (5 + k)) (s0) 0 = dPR r (s0) 0 ∧ mkP (G (x + 126)) w (G (x + 1) 1) n (fun k => G (x + 1) (5 + k)) (s0) 1 = dPR r (s0) 1 ∧ mkP (G (x + 126)) w (G (x + 1) 1) n (fun k => G (x + 1) (5 + k)) (s0) 2 = dPR r (s0) 2 ∧ mkP (G (x + 126)) w (G (x + 1) 1) n (fun k => G (x + 1) (5 + k)) (s0) 3 = dPR r (s0) 3 := by
        unfold dPR
        rw [i0, i2, nI_clamp (by omega), nI_clamp (by omega), hC.1.1]
        exact ⟨rfl, rfl, rfl, rfl⟩
      generalize mkP (G (x + 126)) w (G (x + 1) 1) n (fun k => G (x + 1) (5 + k)) (s0) = d at hdd ⊢
      obtain ⟨d0, d1, d2, d3⟩ := hdd
      refine zv_aload_n dX6_would_43 rfl ?_
      refine zv_getS (r := 126) hb.1 rfl fl_X6_37 rfl dX6_would_44 ?_
      refine zv_getI hb.2.2.2.2.2.1 rfl fl_X6_106 rfl dX6_would_47 ?_
      rw [zst_same, d0]
      refine zv_if_eq (tgt := 55) dX6_would_50 (by decide) (fun c50 => ?_) (fun c50 => ?_)
      · rw [if_neg (by rw [c50]; simp)]
        refine zv_aload_n dX6_would_55 rfl ?_
        refine zv_getS (r := 127) hb.1 rfl fl_X6_44 rfl dX6_would_56 ?_
        refine zv_aload_n dX6_would_59 rfl ?_
        have hcp : cpP (G (x + 127)) (cupR r i) = cupR r i := by
          funext j
          simp only [cpP]
          split
          · rfl
          · rw [hC.2.1 j (by omega), cupR_hi r i j (by omega)]
        refine zv_callV (m_X0_copyFrom l D B (q := x + 127) (p := x + 1 + (3 + 4 * i)) hb.2.2.2.2.2.2.1 (hb.2.1.2 i hi3) (by omega)) ml_X6_174 in_X0_copyFrom sel_X0_copyFrom hb.2.2.2.2.2.2.1 rfl rfl rfl rfl (Nat.le_of_ble_eq_true rfl) dX6_would_60 ⟨Nat.le_of_ble_eq_true rfl, Nat.le_of_ble_eq_true rfl⟩ ⟨Nat.le_refl _, Nat.le_refl _⟩ (zk_v ?_)
        rw [zst_ne _ _ (show x + 127 ≠ x + 126 by omega), zst_ne _ _ (show x + 1 + (3 + 4 * i) ≠ x + 126 by omega), hci, hcp]
        have hD : zDO n (chR r) d := by
          have := dPR_DO (sd := s0) i2 hn0 i3
          unfold zDO at this ⊢
          rw [d0, d2, d3]
          exact this
        obtain ⟨hcP, hcR⟩ := recvP_congr (f := cupR r i) d0 d2 d3
        have hg126 : (zst (zst G (x + 126) d) (x + 127) (cupR r i)) (x + 126) = d := by rw [zst_ne _ _ (by omega), zst_same]
        refine zv_aload_n dX6_would_63 rfl ?_
        refine zv_getS (r := 127) hb.1 rfl fl_X6_44 rfl dX6_would_64 ?_
        refine zv_aload_n dX6_would_67 rfl ?_
        refine zv_getS (r := 126) hb.1 rfl fl_X6_37 rfl dX6_would_68 ?_
        refine zv_callV (m_X0_receive l D B (q := x + 127) (r := x + 126) (n := n) (m := m) (ch := chR r) hb.2.2.2.2.2.2.1 hb.2.2.2.2.2.1 (by omega) (by rw [zst_same]; exact hJ) (by rw [zst_same]; exact hsz) (by rw [hg126]; exact hD)) ml_X6_177 in_X0_receive sel_X0_receive hb.2.2.2.2.2.2.1 rfl rfl rfl rfl (Nat.le_of_ble_eq_true rfl) dX6_would_71 ⟨Nat.le_of_ble_eq_true rfl, Nat.le_of_ble_eq_true rfl⟩ ⟨Nat.le_refl _, Nat.le_refl _⟩ (zk_i ?_)
        rw [zst_same, hg126, hcP, hcR, zst_zst]
        have hC3 : CR x r (zst (zst G (x + 126) d) (x + 127) (recvP (cupR r i) (dPR r s0))) := CR_tri (CR_fal hC) (fun j hj => by rw [← hcP]; exact (recvP_hi (i6 i hi3) hD j hj).trans (cupR_hi r i j hj))
        have hF3 : zFr x G (zst (zst G (x + 126) d) (x + 127) (recvP (cupR r i) (dPR r s0))) := zFr_tr (zFr_zst (by omega)) (zFr_zst (by omega))
        refine zv_istore dX6_would_74 (by decide) rfl ?_
        refine zv_iload dX6_would_76 rfl ?_
        refine zv_if_le (tgt := 86) dX6_would_78 (by decide) (fun c78 => ?_) (fun c78 => ?_)
        · rw [if_neg (i32_nlt.mpr c78)]
          refine zv_aload_n dX6_would_86 rfl ?_
          refine zv_getS (r := 127) hb.1 rfl fl_X6_44 rfl dX6_would_87 ?_
          refine zv_getI hb.2.2.2.2.2.2.1 rfl fl_X6_125 rfl dX6_would_90 ?_
          refine zv_aload_n dX6_would_93 rfl ?_
          refine zv_getI (hb.2.1.2 i hi3) rfl fl_X6_125 rfl dX6_would_94 ?_
          rw [zst_same, zst_ne _ _ (show x + 1 + (3 + 4 * i) ≠ x + 127 by omega), zst_ne _ _ (show x + 1 + (3 + 4 * i) ≠ x + 126 by omega), hci]
          refine zv_icmp_le (tgt := 104) dX6_would_97 (by decide) (fun c97 => ?_) (fun c97 => ?_)
          · rw [if_neg (i32_nlt.mpr c97)]
            refine zv_iconst (v := 2) dX6_would_104 (by decide) ?_
            exact zv_iretI dX6_would_105 rfl rfl rfl ⟨hC3, hF3⟩
          · rw [if_pos (i32_nle.mp c97)]
            refine zv_iconst (v := 1) dX6_would_100 (by decide) ?_
            refine zv_goto (tgt := 105) dX6_would_101 (by decide) ?_
            exact zv_iretI dX6_would_105 rfl rfl rfl ⟨hC3, hF3⟩
        · rw [if_pos (i32_nle.mp c78)]
          refine zv_iconst (v := 2) dX6_would_81 (by decide) ?_
          refine zv_iload dX6_would_82 rfl ?_
          refine zv_iadd dX6_would_84 ?_
          exact zv_iretI dX6_would_85 rfl rfl rfl ⟨hC3, hF3⟩
      · rw [if_pos c50]
        refine zv_iconst (v := 0) dX6_would_53 (by decide) ?_
        exact zv_iretI dX6_would_54 rfl rfl rfl ⟨CR_fal hC, zFr_zst (by omega)⟩
    · have he : errD r sd 1 < 0 := i32_nle.mp c25
      rw [if_pos he]
      refine zv_iload dX6_would_28 rfl ?_
      exact zv_iretI dX6_would_30 rfl rfl rfl ⟨hC, zFr_rf⟩

set_option maxRecDepth 100000 in
set_option maxHeartbeats 4000000 in
theorem lp_X6_degrees (l : Launch) (D : zD) (B : Nat) {L : zL} {nx : Nat} {G : zG} {x b : Nat} {r : Nat → Int32} (hb : zBD L x) (hC : CR x r G) (hS : SI b r) {s0 mn n w : Nat} {dg : Int32} (hs0 : s0 < 65536) (hmn : mn < 1000) (i0 : r 0 = nI w) (iw : w ≤ 2) (i2 : r 2 = nI n) (i3 : n ≤ 16) (hn0 : 0 < n) : ∀ k : Nat, k ≤ mn → ∀ d : Nat → Int32, zV l (fun _ => True) D B RX6 "degrees" cX6_degrees 6 (some .int) (zrm 3 71 0 0) (zN (zI (nI (zcnt (degB r s0 dg) mn)) L nx (fun G1 => CR x r G1 ∧ zFr x G G1))) 0 0 L nx 53 [some (.ref x), some (.int (nI s0)), some (.int (nI mn)), some (.int dg), some (.int (nI (zcnt (degB r s0 dg) k))), some (.int (nI k))] [] (zst G (x + 126) d) := by
  refine zloop mn (fun k hk ih d => ?_)
  have hC2 : CR x r (zst G (x + 126) d) := CR_fal hC
  have e2 : (zst G (x + 126) d) (x + 1) 2 = nI n := by rw [hC2.1.1]; exact i2
  have e0 : (zst G (x + 126) d) (x + 1) 0 = nI w := by rw [hC2.1.1]; exact i0
  refine zv_iload dX6_degrees_53 rfl ?_
  refine zv_iload_n dX6_degrees_55 rfl ?_
  refine zv_icmp_ge (tgt := 97) dX6_degrees_56 (by decide) (fun c56 => ?_) (fun c56 => ?_)
  · have e : k = mn := by have := (nI_leI (by omega) (by omega)).mp c56; omega
    subst e
    refine zv_iload dX6_degrees_97 rfl ?_
    exact zv_iretI dX6_degrees_99 rfl rfl rfl ⟨hC2, zFr_zst (by omega)⟩
  · have hlt : k < mn := by
      rcases Nat.lt_or_ge k mn with h | h
      · exact h
      · exact absurd (nI_le h (by omega)) c56
    refine zv_aload_n dX6_degrees_59 rfl ?_
    refine zv_getS (r := 126) hb.1 rfl fl_X6_37 rfl dX6_degrees_60 ?_
    refine zv_aload_n dX6_degrees_63 rfl ?_
    refine zv_getS (r := 1) hb.1 rfl fl_X6_10 rfl dX6_degrees_64 ?_
    refine zv_iload_n dX6_degrees_67 rfl ?_
    refine zv_iload dX6_degrees_68 rfl ?_
    refine zv_iadd dX6_degrees_70 ?_
    refine zv_callS (m_X6_wrappedSeed l D B _) ml_X6_181 st_X6_wrappedSeed rfl rfl (Nat.le_of_ble_eq_true rfl) dX6_degrees_71 ⟨Nat.le_of_ble_eq_true rfl, Nat.le_of_ble_eq_true rfl⟩ ⟨Nat.le_refl _, Nat.le_refl _⟩ (zk_i ?_)
    rw [nI_add, show nI (s0 + k) &&& 65535 = nI ((s0 + k) % 65536) from pk_andN (by omega) 16 (by decide)]
    refine zv_callV (m_X1_makeFrom l D B (q := x + 126) (s := x + 1) (w := w) (n := n) (sd := (s0 + k) % 65536) hb.2.2.2.2.2.1 hb.2.1.1 (by omega) e2 hn0 i3 e0 iw (by omega)) ml_X6_93 in_X1_makeFrom sel_X1_makeFrom hb.2.2.2.2.2.1 rfl rfl rfl rfl (Nat.le_of_ble_eq_true rfl) dX6_degrees_74 ⟨Nat.le_of_ble_eq_true rfl, Nat.le_of_ble_eq_true rfl⟩ ⟨Nat.le_refl _, Nat.le_refl _⟩ (zk_v ?_)
    rw [zst_zst]
    refine zv_aload_n dX6_degrees_77 rfl ?_
    refine zv_getS (r := 126) hb.1 rfl fl_X6_37 rfl dX6_degrees_78 ?_
    refine zv_getI hb.2.2.2.2.2.1 rfl fl_X6_97 rfl dX6_degrees_81 ?_
    refine zv_iload_n dX6_degrees_84 rfl ?_
    rw [zst_same, mkP_at.2.1]
    have hdb : degB r s0 dg k = decide (nI (zdeg w (zdw (zdw ((s0 + k) % 65536))) n) = dg) := by unfold degB; rw [i0, i2, nI_clamp (by omega), nI_clamp (by omega)]
    refine zv_icmp_ne (tgt := 91) dX6_degrees_85 (by decide) (fun c85 => ?_) (fun c85 => ?_)
    · have hcc : zcnt (degB r s0 dg) (k + 1) = zcnt (degB r s0 dg) k := by simp [zcnt, hdb, c85]
      refine zv_iinc1 dX6_degrees_91 rfl (by decide) rfl ?_
      refine zv_goto (tgt := 53) dX6_degrees_94 (by decide) ?_
      have ih1 := ih hlt
      rw [hcc] at ih1
      first
        | (rw [nI_1, nI_1]; exact ih1 _)
        | (rw [nI_1]; exact ih1 _)
    · have hcc : zcnt (degB r s0 dg) (k + 1) = zcnt (degB r s0 dg) k + 1 := by simp [zcnt, hdb, c85]
      refine zv_iinc1 dX6_degrees_88 rfl (by decide) rfl ?_
      refine zv_iinc1 dX6_degrees_91 rfl (by decide) rfl ?_
      refine zv_goto (tgt := 53) dX6_degrees_94 (by decide) ?_
      have ih1 := ih hlt
      rw [hcc] at ih1
      first
        | (rw [nI_1, nI_1]; exact ih1 _)
        | (rw [nI_1]; exact ih1 _)

set_option maxRecDepth 100000 in
set_option maxHeartbeats 4000000 in
theorem m_X6_degrees (l : Launch) (D : zD) (B : Nat) {L : zL} {nx : Nat} {G : zG} {x b : Nat} {r : Nat → Int32} (hb : zBD L x) (hC : CR x r G) (hS : SI b r) (sd mn dg : Int32) : zMet l D B yX6_degrees cX6_degrees 6 (some .int) 3 71 0 0 [.ref x, .int sd, .int mn, .int dg] L nx G (zI (qDeg r sd mn dg) L nx (fun G1 => CR x (r) G1 ∧ zFr x G G1)) := by
  refine zMet_of (own := RX6) (mn := "degrees") [some (.ref x), some (.int sd), some (.int mn), some (.int dg), none, none] (by decide +kernel) rfl rfl rfl (Nat.le_of_ble_eq_true rfl) ?_
  show zV l (fun _ => True) D B RX6 "degrees" cX6_degrees 6 (some .int) (zrm 3 71 0 0) (zN (zI (qDeg r sd mn dg) L nx (fun G1 => CR x (r) G1 ∧ zFr x G G1))) 0 0 L nx 0 [some (.ref x), some (.int sd), some (.int mn), some (.int dg), none, none] [] (G)
  obtain ⟨w, ls, n, cn, i0, iw, i1, il, i2, i3, i4, i5, i6, i7, i8⟩ := id hS
  have e3 : G (x + 1) 3 = nI cn := by rw [hC.1.1]; exact i4
  have e2 : G (x + 1) 2 = nI n := by rw [hC.1.1]; exact i2
  have e0 : G (x + 1) 0 = nI w := by rw [hC.1.1]; exact i0
  have e1 : G (x + 1) 1 = nI ls := by rw [hC.1.1]; exact i1
  refine zv_iload_n dX6_degrees_0 rfl ?_
  refine zv_iconst (v := 0) dX6_degrees_1 (by decide) ?_
  refine zv_ldc dX6_degrees_2 kc_X6_84 ?_
  refine zv_callS (m_X6_isWithin l D B sd 0 65535) ml_X6_85 st_X6_isWithin rfl rfl (Nat.le_of_ble_eq_true rfl) dX6_degrees_4 ⟨Nat.le_of_ble_eq_true rfl, Nat.le_of_ble_eq_true rfl⟩ ⟨Nat.le_refl _, Nat.le_refl _⟩ (zk_i ?_)
  refine zv_if_eq (tgt := 31) dX6_degrees_7 (by decide) (fun c7 => ?_) (fun c7 => ?_)
  · have h1 := bI_eq0.mp c7
    have hq : qDeg r sd mn dg = -2 := by unfold qDeg; rw [h1, if_pos (by simp)]
    refine zv_bipush (v := (-2)) dX6_degrees_31 (by decide) ?_
    rw [hq]
    exact zv_iretI dX6_degrees_33 rfl rfl rfl ⟨hC, zFr_rf⟩
  · have h1 := bI_ne0.mp c7
    refine zv_iload_n dX6_degrees_10 rfl ?_
    refine zv_iconst (v := 1) dX6_degrees_11 (by decide) ?_
    refine zv_sipush (v := 999) dX6_degrees_12 (by decide) ?_
    refine zv_callS (m_X6_isWithin l D B mn 1 999) ml_X6_85 st_X6_isWithin rfl rfl (Nat.le_of_ble_eq_true rfl) dX6_degrees_15 ⟨Nat.le_of_ble_eq_true rfl, Nat.le_of_ble_eq_true rfl⟩ ⟨Nat.le_refl _, Nat.le_refl _⟩ (zk_i ?_)
    refine zv_if_eq (tgt := 31) dX6_degrees_18 (by decide) (fun c18 => ?_) (fun c18 => ?_)
    · have h2 := bI_eq0.mp c18
      have hq : qDeg r sd mn dg = -2 := by unfold qDeg; rw [h2, if_pos (by simp)]
      refine zv_bipush (v := (-2)) dX6_degrees_31 (by decide) ?_
      rw [hq]
      exact zv_iretI dX6_degrees_33 rfl rfl rfl ⟨hC, zFr_rf⟩
    · have h2 := bI_ne0.mp c18
      refine zv_iload_n dX6_degrees_21 rfl ?_
      refine zv_iconst (v := 1) dX6_degrees_22 (by decide) ?_
      refine zv_bipush (v := 16) dX6_degrees_23 (by decide) ?_
      refine zv_callS (m_X6_isWithin l D B dg 1 16) ml_X6_85 st_X6_isWithin rfl rfl (Nat.le_of_ble_eq_true rfl) dX6_degrees_25 ⟨Nat.le_of_ble_eq_true rfl, Nat.le_of_ble_eq_true rfl⟩ ⟨Nat.le_refl _, Nat.le_refl _⟩ (zk_i ?_)
      refine zv_if_ne (tgt := 34) dX6_degrees_28 (by decide) (fun c28 => ?_) (fun c28 => ?_)
      · have h3 := bI_ne0.mp c28
        refine zv_aload_n dX6_degrees_34 rfl ?_
        refine zv_getS (r := 1) hb.1 rfl fl_X6_10 rfl dX6_degrees_35 ?_
        refine zv_getI hb.2.1.1 rfl fl_X6_89 rfl dX6_degrees_38 ?_
        rw [e2]
        refine zv_if_ne (tgt := 47) dX6_degrees_41 (by decide) (fun c41 => ?_) (fun c41 => ?_)
        · have hn0 : 0 < n := by
            rcases Nat.eq_zero_or_pos n with g | g
            · exact absurd (by rw [g]; rfl) c41
            · exact g
          obtain ⟨s0, hs0, rfl⟩ := (zin3_iff (m := 65535) (by decide)).mp h1
          obtain ⟨m0, hm1, hm0, rfl⟩ := (zin3_iff2 (l := 1) (m := 999) (by decide) (by decide)).mp h2
          have hq : qDeg r (nI s0) (nI m0) dg = nI (zcnt (degB r s0 dg) m0) := by unfold qDeg; rw [h1, h2, h3, if_neg (by simp), if_neg (by rw [i2]; exact c41), nI_clamp (by omega), nI_clamp (by omega)]
          rw [hq]
          refine zv_iconst (v := 0) dX6_degrees_47 (by decide) ?_
          refine zv_istore dX6_degrees_48 (by decide) rfl ?_
          refine zv_iconst (v := 0) dX6_degrees_50 (by decide) ?_
          refine zv_istore dX6_degrees_51 (by decide) rfl ?_
          refine zv_eqG ?_ (lp_X6_degrees l D B hb hC hS (by omega) (by omega) i0 iw i2 i3 hn0 0 (by omega) (G (x + 126)))
          rw [zst_self]
        · have hq : qDeg r sd mn dg = -5 := by unfold qDeg; rw [h1, h2, h3, if_neg (by simp), if_pos (by rw [i2]; exact c41)]
          refine zv_bipush (v := (-5)) dX6_degrees_44 (by decide) ?_
          rw [hq]
          exact zv_iretI dX6_degrees_46 rfl rfl rfl ⟨hC, zFr_rf⟩
      · have h3 := bI_eq0.mp c28
        have hq : qDeg r sd mn dg = -2 := by unfold qDeg; rw [h3, if_pos (by simp)]
        refine zv_bipush (v := (-2)) dX6_degrees_31 (by decide) ?_
        rw [hq]
        exact zv_iretI dX6_degrees_33 rfl rfl rfl ⟨hC, zFr_rf⟩
end
section
theorem SI_mono {b b' : Nat} {r : Nat → Int32} (h : SI b r) (hb : b ≤ b') : SI b' r := by
  obtain ⟨w, ls, n, cn, i0, iw, i1, il, i2, i3, i4, i5, i6, i7, i8⟩ := h
  exact ⟨w, ls, n, cn, i0, iw, i1, il, i2, i3, i4, i5, i6, i7, fun i hi => by obtain ⟨u, h1, h2⟩ := i8 i hi; exact ⟨u, h1, by omega⟩⟩
theorem chR_upd {r : Nat → Int32} {k : Nat} {v : Int32} (h : k < 5) : chR (upd r k v) = chR r := by
  funext j
  simp only [chR, hdR, upd]
  split
  · rw [if_neg (by omega)]
  · rfl
theorem chR_putC {r f : Nat → Int32} {i : Nat} : chR (putC r i f) = chR r := by
  unfold chR
  rw [hdR_putC]
theorem putC_lo {r f : Nat → Int32} {i j : Nat} (h : j < 21) : putC r i f j = r j := by simp only [putC]; rw [if_neg (by omega)]
theorem zCI_zero {n : Nat} {ch : Nat → Int32} (hn : n ≤ 16) : zCI n ch (fun _ => 0) := by
  refine ⟨0, ⟨hn, by omega, rfl, zlim_zero n, fun k _ h => ?_, fun r _ => ⟨zlim_zero n, fun k h => ?_, (xs_zero ch).symm, fun _ => rfl⟩⟩, fun r hr => by omega⟩
  · have h' : zb 0 k = true := h
    rw [zb_zero] at h'; cases h'
  · have h' : zb 0 k = true := h
    rw [zb_zero] at h'; cases h'
theorem SI_set {b : Nat} {r : Nat → Int32} {s v : Int32} (h : SI b r) : SI b (opSet r s v).2 := by
  obtain ⟨w, ls, n, cn, i0, iw, i1, il, i2, i3, i4, i5, i6, i7, i8⟩ := id h
  unfold opSet
  split
  · rename_i hc
    obtain ⟨k, hk, rfl⟩ := (zin3_iff (m := 2) (by decide)).mp hc.2
    refine ⟨k, ls, n, cn, rfl, hk, i1, il, i2, i3, i4, i5, ?_, ?_, ?_⟩
    · intro i hi; rw [cupR_upd (by omega), chR_upd (by omega)]; exact i6 i hi
    · intro i h1 h2; rw [cupR_upd (by omega)]; exact i7 i h1 h2
    · intro i hi; rw [cupR_upd (by omega)]; exact i8 i hi
  · split
    · rename_i hc
      obtain ⟨k, hk, rfl⟩ := (zin3_iff (m := 99) (by decide)).mp hc.2
      refine ⟨w, k, n, cn, i0, iw, rfl, hk, i2, i3, i4, i5, ?_, ?_, ?_⟩
      · intro i hi; rw [cupR_upd (by omega), chR_upd (by omega)]; exact i6 i hi
      · intro i h1 h2; rw [cupR_upd (by omega)]; exact i7 i h1 h2
      · intro i hi; rw [cupR_upd (by omega)]; exact i8 i hi
    · exact h
theorem SI_chapter {b : Nat} {r : Nat → Int32} {v : Int32} (h : SI b r) : SI b (opChapter r v).2 := by
  obtain ⟨w, ls, n, cn, i0, iw, i1, il, i2, i3, i4, i5, i6, i7, i8⟩ := id h
  unfold opChapter
  split
  · exact h
  · split
    · exact h
    · rename_i h3
      split
      · exact h
      · rename_i h2
        have hcn : cn = 0 := by
          rcases Nat.eq_zero_or_pos cn with g | g
          · exact g
          · exact absurd (by rw [i4]; exact nI_lt (a := 0) g (by omega)) h3
        have hn : n < 16 := by
          rcases Nat.lt_or_ge n 16 with g | g
          · exact g
          · exact absurd (by rw [i2, show n = 16 by omega]; rfl) h2
        have hcu : ∀ i, cupR (upd (upd r (5 + (r 2).toNatClampNeg) v) 2 (r 2 + 1)) i = cupR r i := fun i => by
          rw [cupR_upd (by omega), cupR_upd (by rw [i2, nI_clamp (by omega)]; omega)]
        refine ⟨w, ls, n + 1, cn, ?_, iw, ?_, il, ?_, by omega, ?_, i5, ?_, ?_, ?_⟩
        · show (upd (upd r (5 + (r 2).toNatClampNeg) v) 2 (r 2 + 1)) 0 = nI w
          simp only [upd]; rw [if_neg (by omega), if_neg (by omega)]; exact i0
        · show (upd (upd r (5 + (r 2).toNatClampNeg) v) 2 (r 2 + 1)) 1 = nI ls
          simp only [upd]; rw [if_neg (by omega), if_neg (by omega)]; exact i1
        · show (upd (upd r (5 + (r 2).toNatClampNeg) v) 2 (r 2 + 1)) 2 = nI (n + 1)
          simp only [upd, if_true]; rw [i2, nI_1]
        · show (upd (upd r (5 + (r 2).toNatClampNeg) v) 2 (r 2 + 1)) 3 = nI cn
          simp only [upd]; rw [if_neg (by omega), if_neg (by omega)]; exact i4
        · intro i hi; rw [hcu, i7 i (by omega) hi]; exact zCI_zero (by omega)
        · intro i h1 h2; rw [hcu]; exact i7 i h1 h2
        · intro i hi; rw [hcu]; exact i8 i hi
theorem SI_cup {b : Nat} {r : Nat → Int32} (h : SI b r) : SI b (opCup r).2 := by
  obtain ⟨w, ls, n, cn, i0, iw, i1, il, i2, i3, i4, i5, i6, i7, i8⟩ := id h
  unfold opCup
  split
  · exact h
  · rename_i h3
    have hcn : cn < 3 := by
      rcases Nat.lt_or_ge cn 3 with g | g
      · exact g
      · exact absurd (by rw [i4, show cn = 3 by omega]; rfl) h3
    refine ⟨w, ls, n, cn + 1, i0, iw, i1, il, i2, i3, ?_, by omega, ?_, ?_, ?_⟩
    · show upd r 3 (r 3 + 1) 3 = nI (cn + 1)
      simp only [upd, if_true]; rw [i4, nI_1]
    · intro i hi; rw [cupR_upd (by omega), chR_upd (by omega)]; exact i6 i hi
    · intro i h1 h2; rw [cupR_upd (by omega)]; exact i7 i (by omega) h2
    · intro i hi; rw [cupR_upd (by omega)]; exact i8 i hi
theorem SI_putC {b b' : Nat} {r f : Nat → Int32} {i cn n : Nat} (h : SI b r) (hb : b ≤ b') (i2 : r 2 = nI n) (i3 : n ≤ 16) (i4 : r 3 = nI cn) (i5 : cn ≤ 3) (hi : i < cn) (hf : ∀ j, 69 ≤ j → f j = 0) (hC : zCI n (chR r) f) (hu : ∃ u, f 4 = nI u ∧ u ≤ b') : SI b' (putC r i f) := by
  obtain ⟨w, ls, n', cn', i0, iw, i1, il, j2, j3, j4, j5, i6, i7, i8⟩ := id h
  have e1 : n' = n := (nI_eq (by omega) (by omega)).mp (j2.symm.trans i2)
  have e2 : cn' = cn := (nI_eq (by omega) (by omega)).mp (j4.symm.trans i4)
  subst e1; subst e2
  refine ⟨w, ls, n', cn', by rw [putC_lo (by omega)]; exact i0, iw, by rw [putC_lo (by omega)]; exact i1, il, by rw [putC_lo (by omega)]; exact i2, i3, by rw [putC_lo (by omega)]; exact i4, i5, ?_, ?_, ?_⟩
  · intro k hk
    rw [chR_putC]
    by_cases e : k = i
    · subst e; rw [cupR_putC hf]; exact hC
    · rw [cupR_putC_ne e]; exact i6 k hk
  · intro k h1 h2
    rw [cupR_putC_ne (by omega)]; exact i7 k h1 h2
  · intro k hk
    by_cases e : k = i
    · subst e; rw [cupR_putC hf]; exact hu
    · rw [cupR_putC_ne e]; obtain ⟨u, g1, g2⟩ := i8 k hk; exact ⟨u, g1, by omega⟩
theorem SI_empty {b : Nat} {r : Nat → Int32} {y : Int32} (h : SI b r) : SI b (opEmpty r y).2 := by
  obtain ⟨w, ls, n, cn, i0, iw, i1, il, i2, i3, i4, i5, i6, i7, i8⟩ := id h
  unfold opEmpty
  cases hz : cpI r y with
  | none => exact h
  | some i =>
    obtain ⟨hi, -⟩ := cpI_some i4 i5 hz
    exact SI_putC h (Nat.le_refl _) i2 i3 i4 i5 hi (fun _ _ => rfl) (zCI_zero i3) ⟨0, rfl, by omega⟩
theorem knowP_4 {f : Nat → Int32} {c : Nat} {v : Int32} (k : Nat) (hk : 1 ≤ k ∧ k < 5) : knowP f c v k = f k := by simp only [knowP, knowA]; grind
theorem takeP_4 {f : Nat → Int32} {r k : Nat} (hk : 2 ≤ k ∧ k < 5) : takeP f r k = f k := by simp only [takeP, takeA]; grind
theorem peelP_4 {k : Nat} (hk : 2 ≤ k ∧ k < 5) : ∀ (t : Nat) (f : Nat → Int32), peelP t f k = f k
  | 0, f => rfl
  | t + 1, f => by
    unfold peelP
    cases zfind (zsmall f) (f 1).toNatClampNeg with
    | none => rfl
    | some r =>
      refine (peelP_4 hk t (peelS f r)).trans ?_
      unfold peelS
      split
      · exact takeP_4 hk
      · rw [knowP_4 k (by omega), takeP_4 hk]
theorem recvP_4 {n : Nat} {ch f d : Nat → Int32} (h : zCI n ch f) : recvP f d 4 = f 4 ∨ recvP f d 4 = f 4 + 1 := by
  obtain ⟨m, hJ, hs⟩ := h
  have hm := hJ.2.1
  unfold recvP
  split
  · left; simp only [upd]; rw [if_neg (by omega), if_neg (by omega)]
  · split
    · left; rw [peelP_4 (by omega), knowP_4 4 (by omega)]; simp only [upd]; rw [if_neg (by omega)]
    · split
      · right; simp only [upd, if_true]
      · left
        rw [hJ.2.2.1, nI_clamp (by omega)]
        simp only [keepP]
        simp only [upd]
        rw [if_neg (by omega), if_neg (by omega), if_neg (by omega), if_neg (by omega)]
theorem prF_4 {r f : Nat → Int32} {n sd u : Nat} (hn : r 2 = nI n) (hn0 : 0 < n) (hn16 : n ≤ 16) (h : zCI n (chR r) f) (hu : f 4 = nI u) : ∀ k, ∃ u', prF r f sd k 4 = nI u' ∧ u' ≤ u + k
  | 0 => ⟨u, hu, Nat.le_refl _⟩
  | k + 1 => by
    obtain ⟨u', g1, g2⟩ := prF_4 (sd := sd) hn hn0 hn16 h hu k
    rcases recvP_4 (d := dPR r ((sd + k) % 65536)) (prF_CI (sd := sd) hn hn0 hn16 h k) with e | e
    · exact ⟨u', by rw [← g1]; exact e, by omega⟩
    · exact ⟨u' + 1, by rw [← nI_1, ← g1]; exact e, by omega⟩
theorem SI_pour {b : Nat} {r : Nat → Int32} {y sd mn : Int32} (h : SI b r) : SI (b + 99) (opPour r y sd mn).2 := by
  obtain ⟨w, ls, n, cn, i0, iw, i1, il, i2, i3, i4, i5, i6, i7, i8⟩ := id h
  unfold opPour
  cases hz : cpI r y with
  | none => exact SI_mono h (by omega)
  | some i =>
    obtain ⟨hi, -⟩ := cpI_some i4 i5 hz
    dsimp only
    split
    · exact SI_mono h (by omega)
    · rename_i he
      obtain ⟨s0, m0, hs, hm0, hm, rfl, rfl, hn0⟩ := errD_ok i2 i3 he
      rw [nI_clamp (by omega), nI_clamp (by omega)]
      obtain ⟨u, u1, u2⟩ := i8 i (by omega)
      obtain ⟨u', v1, v2⟩ := prF_4 (sd := s0) i2 hn0 i3 (i6 i (by omega)) u1 m0
      have h1 : SI (b + 99) (putC r i (prF r (cupR r i) s0 m0)) := SI_putC h (by omega) i2 i3 i4 i5 hi (prF_hi i2 hn0 i3 (i6 i (by omega)) (cupR_hi r i) m0) (prF_CI i2 hn0 i3 (i6 i (by omega)) m0) ⟨u', v1, by omega⟩
      obtain ⟨w', ls', n', cn', k0, kw, k1, kl, k2, k3, k4, k5, k6, k7, k8⟩ := h1
      refine ⟨w', ls', n', cn', k0, kw, k1, kl, k2, k3, k4, k5, ?_, ?_, ?_⟩
      · intro i hi; rw [cupR_upd (by omega), chR_upd (by omega)]; exact k6 i hi
      · intro i h1 h2; rw [cupR_upd (by omega)]; exact k7 i h1 h2
      · intro i hi; rw [cupR_upd (by omega)]; exact k8 i hi
theorem SI_solve {b : Nat} {r : Nat → Int32} {y : Int32} (h : SI b r) : SI b (opSolve r y).2 := by
  obtain ⟨w, ls, n, cn, i0, iw, i1, il, i2, i3, i4, i5, i6, i7, i8⟩ := id h
  unfold opSolve
  cases hz : cpI r y with
  | none => exact h
  | some i =>
    obtain ⟨hi, -⟩ := cpI_some i4 i5 hz
    obtain ⟨m, hJ, hs⟩ := i6 i (by omega)
    obtain ⟨u, u1, u2⟩ := i8 i (by omega)
    refine SI_putC h (Nat.le_refl _) i2 i3 i4 i5 hi (fun j hj => (slvP_hi hJ j hj).trans (cupR_hi r i j hj)) (zCJ_all hJ).2 ⟨u, ?_, u2⟩
    unfold slvP
    rw [peelP_4 (by omega), ← u1]
    rfl
/-- an order of a text carried out -/
noncomputable def opOrd (r : Nat → Int32) (T : Nat → Nat) (n p : Nat) : Int32 × (Nat → Int32) :=
  if sg T n p = 99 then opChapter r (nI (rdO T n p).2.2.2.1) else if sg T n p = 117 then opCup r
  else if sg T n p = 112 then opPour r (nI (rdO T n p).2.2.1) (nI (rdO T n p).2.2.2.1) (nI (rdO T n p).2.2.2.2) else opSolve r (nI (rdO T n p).2.2.1)
theorem SI_ord {b : Nat} {r : Nat → Int32} {T : Nat → Nat} {n p : Nat} (h : SI b r) : SI (b + 99) (opOrd r T n p).2 := by
  unfold opOrd
  split
  · exact SI_mono (SI_chapter h) (by omega)
  · split
    · exact SI_mono (SI_cup h) (by omega)
    · split
      · exact SI_pour h
      · exact SI_mono (SI_solve h) (by omega)
/-- an error changes nothing -/
theorem opSet_neg {b : Nat} {r : Nat → Int32} {s v : Int32} (h : SI b r) (hn : (opSet r s v).1 < 0) : (opSet r s v).2 = r := by
  obtain ⟨w, ls, n, cn, i0, iw, i1, il, -⟩ := h
  unfold opSet at hn ⊢
  split
  · rename_i hc
    rw [if_pos hc] at hn
    exact absurd hn (by show ¬ r 0 < 0; rw [i0]; exact nI_pos (by omega))
  · rename_i hc
    rw [if_neg hc] at hn
    split
    · rename_i hc2
      rw [if_pos hc2] at hn
      exact absurd hn (by show ¬ r 1 < 0; rw [i1]; exact nI_pos (by omega))
    · rfl
theorem opChapter_neg {b : Nat} {r : Nat → Int32} {v : Int32} (h : SI b r) (hn : (opChapter r v).1 < 0) : (opChapter r v).2 = r := by
  obtain ⟨w, ls, n, cn, i0, iw, i1, il, i2, i3, -⟩ := h
  unfold opChapter at hn ⊢
  by_cases h1 : zin3 v 0 65535 = false
  · rw [if_pos h1]
  · rw [if_neg h1] at hn ⊢
    by_cases h2 : 0 < r 3
    · rw [if_pos h2]
    · rw [if_neg h2] at hn ⊢
      by_cases h3 : r 2 = 16
      · rw [if_pos h3]
      · rw [if_neg h3] at hn
        exact absurd hn (by show ¬ r 2 < 0; rw [i2]; exact nI_pos (by omega))
theorem opCup_neg {b : Nat} {r : Nat → Int32} (h : SI b r) (hn : (opCup r).1 < 0) : (opCup r).2 = r := by
  obtain ⟨w, ls, n, cn, i0, iw, i1, il, i2, i3, i4, i5, -⟩ := h
  unfold opCup at hn ⊢
  by_cases h1 : r 3 = 3
  · rw [if_pos h1]
  · rw [if_neg h1] at hn
    exact absurd hn (by show ¬ r 3 < 0; rw [i4]; exact nI_pos (by omega))
theorem opEmpty_neg {r : Nat → Int32} {y : Int32} (hn : (opEmpty r y).1 < 0) : (opEmpty r y).2 = r := by
  unfold opEmpty at hn ⊢
  cases hz : cpI r y with
  | none => rfl
  | some i =>
    rw [hz] at hn
    have := zcnt_le (zb (cupR r i 0)) 16
    exact absurd hn (nI_pos (by omega))
end
section
theorem zcnt_sub {f g : Nat → Bool} : ∀ {n : Nat}, (∀ k, k < n → f k = true → g k = true) → zcnt f n ≤ zcnt g n
  | 0, _ => Nat.le_refl _
  | n + 1, h => by
    have h1 := zcnt_sub (n := n) (fun k hk => h k (by omega))
    simp only [zcnt]
    cases hf : f n with
    | true => rw [h n (by omega) hf]; simp; exact h1
    | false => simp; omega
def grows (f g : Nat → Int32) : Prop := ∀ k, zb (f 0) k = true → zb (g 0) k = true
theorem grows_cnt {f g : Nat → Int32} (h : grows f g) : zcnt (zb (f 0)) 16 ≤ zcnt (zb (g 0)) 16 := zcnt_sub (fun k _ => h k)
theorem grows_know {f : Nat → Int32} {c : Nat} {v : Int32} : grows f (knowP f c v) := fun k hk => by
  have : knowP f c v 0 = f 0 ||| bt c := by simp only [knowP, knowA]; grind
  rw [this, zb_or, hk]; rfl
theorem takeP_0 {f : Nat → Int32} {r : Nat} : takeP f r 0 = f 0 := by simp only [takeP, takeA]; grind
theorem grows_peel : ∀ (t : Nat) (f : Nat → Int32), grows f (peelP t f)
  | 0, f => fun _ h => h
  | t + 1, f => fun k hk => by
    unfold peelP
    cases zfind (zsmall f) (f 1).toNatClampNeg with
    | none => exact hk
    | some r =>
      refine grows_peel t (peelS f r) k ?_
      unfold peelS
      split
      · rw [takeP_0]; exact hk
      · exact grows_know k (by rw [takeP_0]; exact hk)
theorem keepP_0 {f : Nat → Int32} {m : Nat} {s v : Int32} : keepP f m s v 0 = f 0 := by simp only [keepP, upd]; grind
theorem grows_recv {f d : Nat → Int32} : grows f (recvP f d) := fun k hk => by
  have e0 : ∀ v, (upd f 2 v) 0 = f 0 := fun v => by simp only [upd]; rw [if_neg (by omega)]
  unfold recvP
  split
  · exact hk
  · split
    · exact grows_peel 24 _ k (grows_know k (by rw [e0]; exact hk))
    · split
      · exact hk
      · rw [keepP_0, e0]; exact hk
theorem recvR_eq {f d : Nat → Int32} : recvR f d = nI (zcnt (zb (recvP f d 0)) 16 - zcnt (zb (f 0)) 16) := by
  have h := grows_cnt (grows_recv (f := f) (d := d))
  unfold recvR
  split
  · rename_i h0
    have : recvP f d 0 = f 0 := by
      unfold recvP
      rw [if_pos h0]
      simp only [upd]
      rw [if_neg (by omega), if_neg (by omega)]
    rw [this, Nat.sub_self]
    rfl
  · exact pk_sub h
theorem grows_prF {r f : Nat → Int32} {sd : Nat} : ∀ k, grows f (prF r f sd k)
  | 0 => fun _ h => h
  | k + 1 => fun j hj => grows_recv j (grows_prF k j hj)
theorem prR_eq {r f : Nat → Int32} {sd : Nat} : ∀ k, prR r f sd k = nI (zcnt (zb (prF r f sd k 0)) 16 - zcnt (zb (f 0)) 16)
  | 0 => by simp only [prR, prF, Nat.sub_self]; rfl
  | k + 1 => by
    have h1 := grows_cnt (grows_prF (r := r) (f := f) (sd := sd) k)
    have h2 := grows_cnt (grows_recv (f := prF r f sd k) (d := dPR r ((sd + k) % 65536)))
    simp only [prR, prF]
    rw [prR_eq k, recvR_eq, nI_add]
    congr 1
    omega
theorem grows_all {f ch : Nat → Int32} : grows f (slvP f ch) := fun k hk => by
  unfold slvP
  refine grows_peel 24 _ k ?_
  show zb (f 0 ||| folM f) k = true
  rw [zb_or, hk]; rfl
theorem opPour_neg {b : Nat} {r : Nat → Int32} {y sd mn : Int32} (h : SI b r) (hn : (opPour r y sd mn).1 < 0) : (opPour r y sd mn).2 = r := by
  obtain ⟨w, ls, n, cn, i0, iw, i1, il, i2, i3, i4, i5, i6, i7, i8⟩ := id h
  unfold opPour at hn ⊢
  cases hz : cpI r y with
  | none => rfl
  | some i =>
    rw [hz] at hn
    dsimp only at hn ⊢
    by_cases he : errD r sd mn < 0
    · rw [if_pos he]
    · rw [if_neg he] at hn
      rw [prR_eq] at hn
      have := zcnt_le (zb (prF r (cupR r i) sd.toNatClampNeg mn.toNatClampNeg 0)) 16
      exact absurd hn (nI_pos (by omega))
theorem opSolve_neg {r : Nat → Int32} {y : Int32} (hn : (opSolve r y).1 < 0) : (opSolve r y).2 = r := by
  unfold opSolve at hn ⊢
  cases hz : cpI r y with
  | none => rfl
  | some i =>
    rw [hz] at hn
    have h1 := grows_cnt (grows_all (f := cupR r i) (ch := chR r))
    have := zcnt_le (zb (slvP (cupR r i) (chR r) 0)) 16
    dsimp only at hn
    rw [pk_sub h1] at hn
    exact absurd hn (nI_pos (by omega))
theorem opOrd_neg {b : Nat} {r : Nat → Int32} {T : Nat → Nat} {n p : Nat} (h : SI b r) (hn : (opOrd r T n p).1 < 0) : (opOrd r T n p).2 = r := by
  unfold opOrd at hn ⊢
  split
  · rename_i h1; rw [if_pos h1] at hn; exact opChapter_neg h hn
  · rename_i h1
    rw [if_neg h1] at hn
    split
    · rename_i h2; rw [if_pos h2] at hn; exact opCup_neg h hn
    · rename_i h2
      rw [if_neg h2] at hn
      split
      · rename_i h3; rw [if_pos h3] at hn; exact opPour_neg h hn
      · rename_i h3; rw [if_neg h3] at hn; exact opSolve_neg hn
/-- the orders of a text carried out: how many, and the row then -/
noncomputable def exL (T : Nat → Nat) (n : Nat) : Nat → Nat → (Nat → Int32) → Nat → Nat × (Nat → Int32)
  | 0, _, r, c => (c, r)
  | k + 1, p, r, c => if (rdO T n p).1 = false then (c, r) else if (opOrd r T n p).1 < 0 then (c, r) else
    exL T n k ((rdO T n p).2.1 + (if sg T n (rdO T n p).2.1 = 59 then 1 else 0)) (opOrd r T n p).2 (c + 1)
theorem exL_SI {T : Nat → Nat} {n : Nat} : ∀ (k p : Nat) (r : Nat → Int32) (c b : Nat), SI b r → SI (b + 99 * k) (exL T n k p r c).2 ∧ c ≤ (exL T n k p r c).1 ∧ (exL T n k p r c).1 ≤ c + k
  | 0, p, r, c, b, h => ⟨h, Nat.le_refl _, Nat.le_refl _⟩
  | k + 1, p, r, c, b, h => by
    unfold exL
    split
    · exact ⟨SI_mono h (by omega), Nat.le_refl _, by omega⟩
    · split
      · exact ⟨SI_mono h (by omega), Nat.le_refl _, by omega⟩
      · obtain ⟨g1, g2, g3⟩ := exL_SI k ((rdO T n p).2.1 + (if sg T n (rdO T n p).2.1 = 59 then 1 else 0)) (opOrd r T n p).2 (c + 1) (b + 99) (SI_ord h)
        exact ⟨SI_mono g1 (by omega), by omega, by omega⟩
end
section
def zHs (x : Nat) (G : zG) (h : Nat → (Nat → Int32)) (c f : Nat) : Prop := f < 7 ∧ G (x + 16) 1 = nI f ∧ G (x + 16) 2 = nI c ∧ c ≤ 6 ∧ (∀ j, j < 7 → ∃ r, stOK G (x + 16 + (2 + 15 * j)) r) ∧ ∀ k, k < c → stOK G (x + 16 + (2 + 15 * ((f + k) % 7))) (h k)
def zSl (L : zL) (x nx : Nat) (G : zG) (sl : Nat → Option (Nat → Int32)) (ad : Nat → Nat) : Prop :=
  (∀ j, j < 2 → (sl j = none ∧ G (x + 123) j = 0) ∨ ∃ r, sl j = some r ∧ x + 146 ≤ ad j ∧ ad j + 15 ≤ nx ∧ ad j - (x + 123) < 2 ^ 31 ∧ G (x + 123) j = nI (ad j - (x + 123)) ∧ zSt L (ad j) ∧ stOK G (ad j) r) ∧
  ∀ r0 r1, sl 0 = some r0 → sl 1 = some r1 → apart (ad 0) (ad 1)
/-- the class's object holds: row, past, slots, pad -/
def zRC (L : zL) (x nx : Nat) (G : zG) (r : Nat → Int32) (h : Nat → (Nat → Int32)) (c : Nat) (sl : Nat → Option (Nat → Int32)) (T : Nat → Nat) (tn : Nat) : Prop :=
  zBD L x ∧ CR x r G ∧ (∃ f, zHs x G h c f) ∧ (∃ ad, zSl L x nx G sl ad) ∧ zPT L G (x + 124) T tn
def pushH (h : Nat → (Nat → Int32)) (c : Nat) (r : Nat → Int32) : (Nat → (Nat → Int32)) × Nat :=
  if c < 6 then (fun k => if k = c then r else h k, c + 1) else (fun k => if k = 5 then r else h (k + 1), 6)
theorem zSl_of {L : zL} {x nx : Nat} {G G' : zG} {sl : Nat → Option (Nat → Int32)} {ad : Nat → Nat} (h : zSl L x nx G sl ad) (h1 : G' (x + 123) = G (x + 123)) (h2 : ∀ y, x + 146 ≤ y → G' y = G y) : zSl L x nx G' sl ad := by
  refine ⟨fun j hj => ?_, h.2⟩
  rcases h.1 j hj with ⟨a, b⟩ | ⟨r, a, b, b2, c, d, e, f⟩
  · exact Or.inl ⟨a, by rw [h1]; exact b⟩
  · exact Or.inr ⟨r, a, b, b2, c, by rw [h1]; exact d, e, stOK_of f (fun y g1 g2 => h2 y (by omega))⟩
theorem zPT_of {L : zL} {G G' : zG} {p : Nat} {T : Nat → Nat} {n : Nat} (h : zPT L G p T n) (h1 : G' p = G p) : zPT L G' p T n := by
  unfold zPT at h ⊢
  rw [h1]
  exact h
/-- a read, or what is tried: only scratch is touched -/
theorem zRC_fr {L : zL} {x nx : Nat} {G G' : zG} {r r' : Nat → Int32} {h : Nat → (Nat → Int32)} {c : Nat} {sl : Nat → Option (Nat → Int32)} {T : Nat → Nat} {tn : Nat} (hR : zRC L x nx G r h c sl T tn) (hC : CR x r' G') (hF : zFr x G G') : zRC L x nx G' r' h c sl T tn ∧ ∀ y, x + 134 ≤ y → G' y = G y := by
  obtain ⟨a1, a2, ⟨f, b1, b2, b3, b4, b5, b6⟩, ⟨ad, a4⟩, a5⟩ := hR
  refine ⟨⟨a1, hC, ⟨f, b1, by rw [hF _ (by omega)]; exact b2, by rw [hF _ (by omega)]; exact b3, b4, fun j hj => ?_, fun k hk => ?_⟩, ⟨ad, zSl_of a4 (hF _ (by omega)) (fun y hy => hF _ (by omega))⟩, zPT_of a5 (hF _ (by omega))⟩, fun y hy => hF _ (by omega)⟩
  · obtain ⟨q, hq⟩ := b5 j hj
    exact ⟨q, stOK_of hq (fun y g1 g2 => hF _ (by omega))⟩
  · exact stOK_of (b6 k hk) (fun y g1 g2 => hF _ (by omega))
/-- a state is noted, then changed: nothing is kept of it where the answer is an error -/
theorem zRC_neg {L : zL} {x nx f : Nat} {G G2 : zG} {r r0 : Nat → Int32} {h : Nat → (Nat → Int32)} {c : Nat} {sl : Nat → Option (Nat → Int32)} {T : Nat → Nat} {tn : Nat} (hb : zBD L x) (hh : zHs x G h c f) (hs : ∃ ad, zSl L x nx G sl ad) (hp : zPT L G (x + 124) T tn) (hC : CR x r G2) (hF : zFr x (stPut G (x + 16 + (2 + 15 * ((f + c) % 7))) r0) G2) : zRC L x nx G2 r h c sl T tn ∧ ∀ y, x + 134 ≤ y → G2 y = G y := by
  obtain ⟨b1, b2, b3, b4, b5, b6⟩ := hh
  obtain ⟨ad, a4⟩ := hs
  have hK : (f + c) % 7 < 7 := by omega
  have hq : ∀ y, (y = x + 16 ∨ x + 122 < y) → (y < x + 126 ∨ x + 134 ≤ y) → G2 y = G y := fun y h1 h2 => by
    rw [hF y (by omega), stPut_ne _ _ (by omega)]
  refine ⟨⟨hb, hC, ⟨f, b1, by rw [hq _ (by omega) (by omega)]; exact b2, by rw [hq _ (by omega) (by omega)]; exact b3, b4, fun j hj => ?_, fun k hk => ?_⟩, ⟨ad, zSl_of a4 (hq _ (by omega) (by omega)) (fun y hy => hq _ (by omega) (by omega))⟩, zPT_of hp (hq _ (by omega) (by omega))⟩, fun y hy => hq _ (by omega) (by omega)⟩
  · by_cases e : j = (f + c) % 7
    · subst e
      exact ⟨r0, stOK_of (stPut_OK G _ r0) (fun y g1 g2 => hF _ (by omega))⟩
    · obtain ⟨q, hq1⟩ := b5 j hj
      exact ⟨q, stOK_of (stOK_put (r := r0) hq1 (by unfold apart; omega)) (fun y g1 g2 => hF _ (by omega))⟩
  · refine stOK_of (stOK_put (r := r0) (b6 k hk) (by unfold apart; omega)) (fun y g1 g2 => hF _ (by omega))
theorem zRC_pos {L : zL} {x nx f : Nat} {G G2 : zG} {r r0 : Nat → Int32} {h : Nat → (Nat → Int32)} {c : Nat} {sl : Nat → Option (Nat → Int32)} {T : Nat → Nat} {tn : Nat} (hb : zBD L x) (hh : zHs x G h c f) (hs : ∃ ad, zSl L x nx G sl ad) (hp : zPT L G (x + 124) T tn) (hC : CR x r G2) (hF : zFr x (stPut G (x + 16 + (2 + 15 * ((f + c) % 7))) r0) G2) :
    zRC L x nx (zst G2 (x + 16) (keepH (G2 (x + 16)) f c)) r (pushH h c r0).1 (pushH h c r0).2 sl T tn ∧ ∀ y, x + 134 ≤ y → (zst G2 (x + 16) (keepH (G2 (x + 16)) f c)) y = G y := by
  obtain ⟨b1, b2, b3, b4, b5, b6⟩ := id hh
  obtain ⟨ad, a4⟩ := hs
  have hK : (f + c) % 7 < 7 := by omega
  have hq : ∀ y, (y = x + 16 ∨ x + 122 < y) → (y < x + 126 ∨ x + 134 ≤ y) → G2 y = G y := fun y h1 h2 => by
    rw [hF y (by omega), stPut_ne _ _ (by omega)]
  have hz : ∀ y, y ≠ x + 16 → (zst G2 (x + 16) (keepH (G2 (x + 16)) f c)) y = G2 y := fun y hy => zst_ne _ _ hy
  have e16 : G2 (x + 16) = G (x + 16) := hq _ (by omega) (by omega)
  have hst : ∀ j q, j < 7 → stOK (stPut G (x + 16 + (2 + 15 * ((f + c) % 7))) r0) (x + 16 + (2 + 15 * j)) q → stOK (zst G2 (x + 16) (keepH (G2 (x + 16)) f c)) (x + 16 + (2 + 15 * j)) q := fun j q hj hq1 =>
    stOK_of hq1 (fun y g1 g2 => by rw [hz _ (by omega)]; exact hF _ (by omega))
  have hnew : stOK (stPut G (x + 16 + (2 + 15 * ((f + c) % 7))) r0) (x + 16 + (2 + 15 * ((f + c) % 7))) r0 := stPut_OK G _ r0
  have hold : ∀ k, k < c → stOK (stPut G (x + 16 + (2 + 15 * ((f + c) % 7))) r0) (x + 16 + (2 + 15 * ((f + k) % 7))) (h k) := fun k hk => stOK_put (r := r0) (b6 k hk) (by unfold apart; omega)
  refine ⟨⟨hb, ?_, ?_, ⟨ad, zSl_of a4 (by rw [hz _ (by omega)]; exact hq _ (by omega) (by omega)) (fun y hy => by rw [hz _ (by omega)]; exact hq _ (by omega) (by omega))⟩, zPT_of hp (by rw [hz _ (by omega)]; exact hq _ (by omega) (by omega))⟩, fun y hy => by rw [hz _ (by omega)]; exact hq _ (by omega) (by omega)⟩
  · obtain ⟨⟨h1, h2⟩, h3, h4⟩ := hC
    exact ⟨⟨by rw [hz _ (by omega)]; exact h1, fun k hk => by rw [hz _ (by omega)]; exact h2 k hk⟩, fun j hj => by rw [hz _ (by omega)]; exact h3 j hj, fun j hj => by rw [hz _ (by omega)]; exact h4 j hj⟩
  · have hany : ∀ j, j < 7 → ∃ q, stOK (zst G2 (x + 16) (keepH (G2 (x + 16)) f c)) (x + 16 + (2 + 15 * j)) q := fun j hj => by
      by_cases e : j = (f + c) % 7
      · subst e; exact ⟨r0, hst _ _ hj hnew⟩
      · obtain ⟨q, hq1⟩ := b5 j hj
        exact ⟨q, hst j q hj (stOK_put (r := r0) hq1 (by unfold apart; omega))⟩
    by_cases hc : c < 6
    · have e1 : pushH h c r0 = (fun k => if k = c then r0 else h k, c + 1) := by unfold pushH; rw [if_pos hc]
      have e2 : keepH (G2 (x + 16)) f c = upd (G2 (x + 16)) 2 (nI (c + 1)) := by unfold keepH; rw [if_pos hc]
      rw [e1]
      refine ⟨f, b1, ?_, ?_, by show c + 1 ≤ 6; omega, hany, fun k hk => ?_⟩
      · rw [zst_same, e2, e16]
        show upd (G (x + 16)) 2 _ 1 = _
        simp only [upd]; rw [if_neg (by omega)]; exact b2
      · rw [zst_same, e2]
        show upd (G2 (x + 16)) 2 _ 2 = _
        simp only [upd, if_true]
      · show stOK _ _ (if k = c then r0 else h k)
        by_cases e : k = c
        · subst e; rw [if_pos rfl]; exact hst _ _ hK hnew
        · have hk' : k < c + 1 := hk
          rw [if_neg e]; exact hst _ _ (by omega) (hold k (by omega))
    · have hc6 : c = 6 := by omega
      have e1 : pushH h c r0 = (fun k => if k = 5 then r0 else h (k + 1), 6) := by unfold pushH; rw [if_neg hc]
      have e2 : keepH (G2 (x + 16)) f c = upd (G2 (x + 16)) 1 (nI ((f + 1) % 7)) := by unfold keepH; rw [if_neg hc]
      rw [e1]
      refine ⟨(f + 1) % 7, by omega, ?_, ?_, by show 6 ≤ 6; omega, hany, fun k hk => ?_⟩
      · rw [zst_same, e2]
        show upd (G2 (x + 16)) 1 _ 1 = _
        simp only [upd, if_true]
      · rw [zst_same, e2, e16]
        show upd (G (x + 16)) 1 _ 2 = _
        simp only [upd]; rw [if_neg (by omega), b3, hc6]
      · have hk' : k < 6 := hk
        show stOK _ _ (if k = 5 then r0 else h (k + 1))
        have em : ((f + 1) % 7 + k) % 7 = (f + (k + 1)) % 7 := by omega
        rw [em]
        by_cases e : k = 5
        · subst e
          rw [if_pos rfl]
          subst hc6
          exact hst _ _ hK hnew
        · rw [if_neg e]; exact hst _ _ (by omega) (hold (k + 1) (by omega))
/-- what a change does of row and past -/
def chg (r : Nat → Int32) (h : Nat → (Nat → Int32)) (c : Nat) (o : Int32 × (Nat → Int32)) : (Nat → Int32) × (Nat → (Nat → Int32)) × Nat :=
  if o.1 < 0 then (r, h, c) else (o.2, (pushH h c r).1, (pushH h c r).2)
theorem CR_note {x j : Nat} {r r0 : Nat → Int32} {G : zG} (h : CR x r G) (hj : j < 7) : CR x r (stPut G (x + 16 + (2 + 15 * j)) r0) := by
  obtain ⟨⟨h1, h2⟩, h3, h4⟩ := h
  exact ⟨⟨by rw [stPut_ne _ _ (by omega)]; exact h1, fun k hk => by rw [stPut_ne _ _ (by omega)]; exact h2 k hk⟩, fun j hj => by rw [stPut_ne _ _ (by omega)]; exact h3 j hj, fun j hj => by rw [stPut_ne _ _ (by omega)]; exact h4 j hj⟩
theorem chg_neg {r : Nat → Int32} {h : Nat → (Nat → Int32)} {c : Nat} {o : Int32 × (Nat → Int32)} (hn : o.1 < 0) : chg r h c o = (r, h, c) := if_pos hn
theorem chg_pos {r : Nat → Int32} {h : Nat → (Nat → Int32)} {c : Nat} {o : Int32 × (Nat → Int32)} (hn : ¬ o.1 < 0) : chg r h c o = (o.2, (pushH h c r).1, (pushH h c r).2) := if_neg hn
theorem zHs_fr {x c f : Nat} {G G2 : zG} {r0 : Nat → Int32} {h : Nat → (Nat → Int32)} (hh : zHs x G h c f) (hF : zFr x (stPut G (x + 16 + (2 + 15 * ((f + c) % 7))) r0) G2) : G2 (x + 16) 1 = nI f ∧ G2 (x + 16) 2 = nI c := by
  have : G2 (x + 16) = G (x + 16) := by rw [hF _ (by omega), stPut_ne _ _ (by omega)]
  rw [this]
  exact ⟨hh.2.1, hh.2.2.1⟩
end
section
set_option maxRecDepth 100000 in
set_option maxHeartbeats 4000000 in
theorem m_X6_set (l : Launch) (D : zD) (B : Nat) {L : zL} {nx : Nat} {G : zG} {x b c tn : Nat} {r : Nat → Int32} {h : Nat → (Nat → Int32)} {sl : Nat → Option (Nat → Int32)} {T : Nat → Nat} (hR : zRC L x nx G r h c sl T tn) (hS : SI b r) (s v : Int32) : zMet l D B yX6_set cX6_set 3 (some .int) 4 107 0 0 [.ref x, .int s, .int v] L nx G (zI (opSet r s v).1 L nx (fun G1 => zRC L x nx G1 (chg r h c (opSet r s v)).1 (chg r h c (opSet r s v)).2.1 (chg r h c (opSet r s v)).2.2 sl T tn ∧ ∀ y, x + 134 ≤ y → G1 y = G y)) := by
  refine zMet_of (own := RX6) (mn := "set") [some (.ref x), some (.int s), some (.int v)] (by decide +kernel) rfl rfl rfl (Nat.le_of_ble_eq_true rfl) ?_
  show zV l (fun _ => True) D B RX6 "set" cX6_set 3 (some .int) (zrm 4 107 0 0) (zN (zI (opSet r s v).1 L nx (fun G1 => zRC L x nx G1 (chg r h c (opSet r s v)).1 (chg r h c (opSet r s v)).2.1 (chg r h c (opSet r s v)).2.2 sl T tn ∧ ∀ y, x + 134 ≤ y → G1 y = G y))) 0 0 L nx 0 [some (.ref x), some (.int s), some (.int v)] [] (G)
  obtain ⟨hb, hC, ⟨f, hh⟩, hs, hp⟩ := id hR
  have hK : (f + c) % 7 < 7 := by omega
  obtain ⟨f1, f2, f3, f4, f5, f6⟩ := id hh
  obtain ⟨rK, hrK⟩ := f5 _ hK
  refine zv_aload_n dX6_set_0 rfl ?_
  refine zv_getS (r := 16) hR.1.1 rfl fl_X6_19 rfl dX6_set_1 ?_
  refine zv_aload_n dX6_set_4 rfl ?_
  refine zv_getS (r := 1) hR.1.1 rfl fl_X6_10 rfl dX6_set_5 ?_
  refine zv_callV (m_X2_note l D B (f := f) (c := c) hb.2.2.1 f2 f1 f3 f4 hb.2.1 (by unfold apart; omega) hrK hC.1) ml_X6_55 in_X2_note sel_X2_note hb.2.2.1.1 rfl rfl rfl rfl (Nat.le_of_ble_eq_true rfl) dX6_set_8 ⟨Nat.le_of_ble_eq_true rfl, Nat.le_of_ble_eq_true rfl⟩ ⟨Nat.le_refl _, Nat.le_refl _⟩ (zk_v ?_)
  have hC1 := CR_note (r0 := r) hC hK
  refine zv_aload_n dX6_set_11 rfl ?_
  refine zv_getS (r := 16) hR.1.1 rfl fl_X6_19 rfl dX6_set_12 ?_
  refine zv_aload_n dX6_set_15 rfl ?_
  refine zv_iload_n dX6_set_16 rfl ?_
  refine zv_iload_n dX6_set_17 rfl ?_
  refine zv_callV (m_X6_changeSetting l D B hb hC1 hS s v) ml_X6_59 in_X6_changeSetting sel_X6_changeSetting hR.1.1 rfl rfl rfl rfl (Nat.le_of_ble_eq_true rfl) dX6_set_18 ⟨Nat.le_of_ble_eq_true rfl, Nat.le_of_ble_eq_true rfl⟩ ⟨Nat.le_refl _, Nat.le_refl _⟩ (zk_p fun G2 hG2 => ?_)
  obtain ⟨hC2, hF2⟩ := hG2
  by_cases hn : (opSet r s v).1 < 0
  · rw [opSet_neg hS hn] at hC2
    refine zv_callV (m_X2_keepUnlessError_e l D B hb.2.2.1.1 hn) ml_X6_63 in_X2_keepUnlessError sel_X2_keepUnlessError hb.2.2.1.1 rfl rfl rfl rfl (Nat.le_of_ble_eq_true rfl) dX6_set_21 ⟨Nat.le_of_ble_eq_true rfl, Nat.le_of_ble_eq_true rfl⟩ ⟨Nat.le_refl _, Nat.le_refl _⟩ (zk_i ?_)
    rw [chg_neg hn]
    exact zv_iretI dX6_set_24 rfl rfl rfl (zRC_neg hb hh hs hp hC2 hF2)
  · obtain ⟨g1, g2⟩ := zHs_fr hh hF2
    refine zv_callV (m_X2_keepUnlessError l D B hb.2.2.1 g1 f1 g2 f4 hn) ml_X6_63 in_X2_keepUnlessError sel_X2_keepUnlessError hb.2.2.1.1 rfl rfl rfl rfl (Nat.le_of_ble_eq_true rfl) dX6_set_21 ⟨Nat.le_of_ble_eq_true rfl, Nat.le_of_ble_eq_true rfl⟩ ⟨Nat.le_refl _, Nat.le_refl _⟩ (zk_i ?_)
    rw [chg_pos hn]
    exact zv_iretI dX6_set_24 rfl rfl rfl (zRC_pos hb hh hs hp hC2 hF2)

set_option maxRecDepth 100000 in
set_option maxHeartbeats 4000000 in
theorem m_X6_chapter (l : Launch) (D : zD) (B : Nat) {L : zL} {nx : Nat} {G : zG} {x b c tn : Nat} {r : Nat → Int32} {h : Nat → (Nat → Int32)} {sl : Nat → Option (Nat → Int32)} {T : Nat → Nat} (hR : zRC L x nx G r h c sl T tn) (hS : SI b r) (v : Int32) : zMet l D B yX6_chapter cX6_chapter 2 (some .int) 4 107 0 0 [.ref x, .int v] L nx G (zI (opChapter r v).1 L nx (fun G1 => zRC L x nx G1 (chg r h c (opChapter r v)).1 (chg r h c (opChapter r v)).2.1 (chg r h c (opChapter r v)).2.2 sl T tn ∧ ∀ y, x + 134 ≤ y → G1 y = G y)) := by
  refine zMet_of (own := RX6) (mn := "chapter") [some (.ref x), some (.int v)] (by decide +kernel) rfl rfl rfl (Nat.le_of_ble_eq_true rfl) ?_
  show zV l (fun _ => True) D B RX6 "chapter" cX6_chapter 2 (some .int) (zrm 4 107 0 0) (zN (zI (opChapter r v).1 L nx (fun G1 => zRC L x nx G1 (chg r h c (opChapter r v)).1 (chg r h c (opChapter r v)).2.1 (chg r h c (opChapter r v)).2.2 sl T tn ∧ ∀ y, x + 134 ≤ y → G1 y = G y))) 0 0 L nx 0 [some (.ref x), some (.int v)] [] (G)
  obtain ⟨hb, hC, ⟨f, hh⟩, hs, hp⟩ := id hR
  have hK : (f + c) % 7 < 7 := by omega
  obtain ⟨f1, f2, f3, f4, f5, f6⟩ := id hh
  obtain ⟨rK, hrK⟩ := f5 _ hK
  refine zv_aload_n dX6_chapter_0 rfl ?_
  refine zv_getS (r := 16) hR.1.1 rfl fl_X6_19 rfl dX6_chapter_1 ?_
  refine zv_aload_n dX6_chapter_4 rfl ?_
  refine zv_getS (r := 1) hR.1.1 rfl fl_X6_10 rfl dX6_chapter_5 ?_
  refine zv_callV (m_X2_note l D B (f := f) (c := c) hb.2.2.1 f2 f1 f3 f4 hb.2.1 (by unfold apart; omega) hrK hC.1) ml_X6_55 in_X2_note sel_X2_note hb.2.2.1.1 rfl rfl rfl rfl (Nat.le_of_ble_eq_true rfl) dX6_chapter_8 ⟨Nat.le_of_ble_eq_true rfl, Nat.le_of_ble_eq_true rfl⟩ ⟨Nat.le_refl _, Nat.le_refl _⟩ (zk_v ?_)
  have hC1 := CR_note (r0 := r) hC hK
  refine zv_aload_n dX6_chapter_11 rfl ?_
  refine zv_getS (r := 16) hR.1.1 rfl fl_X6_19 rfl dX6_chapter_12 ?_
  refine zv_aload_n dX6_chapter_15 rfl ?_
  refine zv_iload_n dX6_chapter_16 rfl ?_
  refine zv_callV (m_X6_addChapter l D B hb hC1 hS v) ml_X6_67 in_X6_addChapter sel_X6_addChapter hR.1.1 rfl rfl rfl rfl (Nat.le_of_ble_eq_true rfl) dX6_chapter_17 ⟨Nat.le_of_ble_eq_true rfl, Nat.le_of_ble_eq_true rfl⟩ ⟨Nat.le_refl _, Nat.le_refl _⟩ (zk_p fun G2 hG2 => ?_)
  obtain ⟨hC2, hF2⟩ := hG2
  by_cases hn : (opChapter r v).1 < 0
  · rw [opChapter_neg hS hn] at hC2
    refine zv_callV (m_X2_keepUnlessError_e l D B hb.2.2.1.1 hn) ml_X6_63 in_X2_keepUnlessError sel_X2_keepUnlessError hb.2.2.1.1 rfl rfl rfl rfl (Nat.le_of_ble_eq_true rfl) dX6_chapter_20 ⟨Nat.le_of_ble_eq_true rfl, Nat.le_of_ble_eq_true rfl⟩ ⟨Nat.le_refl _, Nat.le_refl _⟩ (zk_i ?_)
    rw [chg_neg hn]
    exact zv_iretI dX6_chapter_23 rfl rfl rfl (zRC_neg hb hh hs hp hC2 hF2)
  · obtain ⟨g1, g2⟩ := zHs_fr hh hF2
    refine zv_callV (m_X2_keepUnlessError l D B hb.2.2.1 g1 f1 g2 f4 hn) ml_X6_63 in_X2_keepUnlessError sel_X2_keepUnlessError hb.2.2.1.1 rfl rfl rfl rfl (Nat.le_of_ble_eq_true rfl) dX6_chapter_20 ⟨Nat.le_of_ble_eq_true rfl, Nat.le_of_ble_eq_true rfl⟩ ⟨Nat.le_refl _, Nat.le_refl _⟩ (zk_i ?_)
    rw [chg_pos hn]
    exact zv_iretI dX6_chapter_23 rfl rfl rfl (zRC_pos hb hh hs hp hC2 hF2)

set_option maxRecDepth 100000 in
set_option maxHeartbeats 4000000 in
theorem m_X6_cup (l : Launch) (D : zD) (B : Nat) {L : zL} {nx : Nat} {G : zG} {x b c tn : Nat} {r : Nat → Int32} {h : Nat → (Nat → Int32)} {sl : Nat → Option (Nat → Int32)} {T : Nat → Nat} (hR : zRC L x nx G r h c sl T tn) (hS : SI b r) : zMet l D B yX6_cup cX6_cup 1 (some .int) 4 107 0 0 [.ref x] L nx G (zI (opCup r).1 L nx (fun G1 => zRC L x nx G1 (chg r h c (opCup r)).1 (chg r h c (opCup r)).2.1 (chg r h c (opCup r)).2.2 sl T tn ∧ ∀ y, x + 134 ≤ y → G1 y = G y)) := by
  refine zMet_of (own := RX6) (mn := "cup") [some (.ref x)] (by decide +kernel) rfl rfl rfl (Nat.le_of_ble_eq_true rfl) ?_
  show zV l (fun _ => True) D B RX6 "cup" cX6_cup 1 (some .int) (zrm 4 107 0 0) (zN (zI (opCup r).1 L nx (fun G1 => zRC L x nx G1 (chg r h c (opCup r)).1 (chg r h c (opCup r)).2.1 (chg r h c (opCup r)).2.2 sl T tn ∧ ∀ y, x + 134 ≤ y → G1 y = G y))) 0 0 L nx 0 [some (.ref x)] [] (G)
  obtain ⟨hb, hC, ⟨f, hh⟩, hs, hp⟩ := id hR
  have hK : (f + c) % 7 < 7 := by omega
  obtain ⟨f1, f2, f3, f4, f5, f6⟩ := id hh
  obtain ⟨rK, hrK⟩ := f5 _ hK
  refine zv_aload_n dX6_cup_0 rfl ?_
  refine zv_getS (r := 16) hR.1.1 rfl fl_X6_19 rfl dX6_cup_1 ?_
  refine zv_aload_n dX6_cup_4 rfl ?_
  refine zv_getS (r := 1) hR.1.1 rfl fl_X6_10 rfl dX6_cup_5 ?_
  refine zv_callV (m_X2_note l D B (f := f) (c := c) hb.2.2.1 f2 f1 f3 f4 hb.2.1 (by unfold apart; omega) hrK hC.1) ml_X6_55 in_X2_note sel_X2_note hb.2.2.1.1 rfl rfl rfl rfl (Nat.le_of_ble_eq_true rfl) dX6_cup_8 ⟨Nat.le_of_ble_eq_true rfl, Nat.le_of_ble_eq_true rfl⟩ ⟨Nat.le_refl _, Nat.le_refl _⟩ (zk_v ?_)
  have hC1 := CR_note (r0 := r) hC hK
  refine zv_aload_n dX6_cup_11 rfl ?_
  refine zv_getS (r := 16) hR.1.1 rfl fl_X6_19 rfl dX6_cup_12 ?_
  refine zv_aload_n dX6_cup_15 rfl ?_
  refine zv_callV (m_X6_addCup l D B hb hC1 hS ) ml_X6_70 in_X6_addCup sel_X6_addCup hR.1.1 rfl rfl rfl rfl (Nat.le_of_ble_eq_true rfl) dX6_cup_16 ⟨Nat.le_of_ble_eq_true rfl, Nat.le_of_ble_eq_true rfl⟩ ⟨Nat.le_refl _, Nat.le_refl _⟩ (zk_p fun G2 hG2 => ?_)
  obtain ⟨hC2, hF2⟩ := hG2
  by_cases hn : (opCup r).1 < 0
  · rw [opCup_neg hS hn] at hC2
    refine zv_callV (m_X2_keepUnlessError_e l D B hb.2.2.1.1 hn) ml_X6_63 in_X2_keepUnlessError sel_X2_keepUnlessError hb.2.2.1.1 rfl rfl rfl rfl (Nat.le_of_ble_eq_true rfl) dX6_cup_19 ⟨Nat.le_of_ble_eq_true rfl, Nat.le_of_ble_eq_true rfl⟩ ⟨Nat.le_refl _, Nat.le_refl _⟩ (zk_i ?_)
    rw [chg_neg hn]
    exact zv_iretI dX6_cup_22 rfl rfl rfl (zRC_neg hb hh hs hp hC2 hF2)
  · obtain ⟨g1, g2⟩ := zHs_fr hh hF2
    refine zv_callV (m_X2_keepUnlessError l D B hb.2.2.1 g1 f1 g2 f4 hn) ml_X6_63 in_X2_keepUnlessError sel_X2_keepUnlessError hb.2.2.1.1 rfl rfl rfl rfl (Nat.le_of_ble_eq_true rfl) dX6_cup_19 ⟨Nat.le_of_ble_eq_true rfl, Nat.le_of_ble_eq_true rfl⟩ ⟨Nat.le_refl _, Nat.le_refl _⟩ (zk_i ?_)
    rw [chg_pos hn]
    exact zv_iretI dX6_cup_22 rfl rfl rfl (zRC_pos hb hh hs hp hC2 hF2)

set_option maxRecDepth 100000 in
set_option maxHeartbeats 4000000 in
theorem m_X6_empty (l : Launch) (D : zD) (B : Nat) {L : zL} {nx : Nat} {G : zG} {x b c tn : Nat} {r : Nat → Int32} {h : Nat → (Nat → Int32)} {sl : Nat → Option (Nat → Int32)} {T : Nat → Nat} (hR : zRC L x nx G r h c sl T tn) (hS : SI b r) (y : Int32) : zMet l D B yX6_empty cX6_empty 2 (some .int) 4 107 0 0 [.ref x, .int y] L nx G (zI (opEmpty r y).1 L nx (fun G1 => zRC L x nx G1 (chg r h c (opEmpty r y)).1 (chg r h c (opEmpty r y)).2.1 (chg r h c (opEmpty r y)).2.2 sl T tn ∧ ∀ y, x + 134 ≤ y → G1 y = G y)) := by
  refine zMet_of (own := RX6) (mn := "empty") [some (.ref x), some (.int y)] (by decide +kernel) rfl rfl rfl (Nat.le_of_ble_eq_true rfl) ?_
  show zV l (fun _ => True) D B RX6 "empty" cX6_empty 2 (some .int) (zrm 4 107 0 0) (zN (zI (opEmpty r y).1 L nx (fun G1 => zRC L x nx G1 (chg r h c (opEmpty r y)).1 (chg r h c (opEmpty r y)).2.1 (chg r h c (opEmpty r y)).2.2 sl T tn ∧ ∀ y, x + 134 ≤ y → G1 y = G y))) 0 0 L nx 0 [some (.ref x), some (.int y)] [] (G)
  obtain ⟨hb, hC, ⟨f, hh⟩, hs, hp⟩ := id hR
  have hK : (f + c) % 7 < 7 := by omega
  obtain ⟨f1, f2, f3, f4, f5, f6⟩ := id hh
  obtain ⟨rK, hrK⟩ := f5 _ hK
  refine zv_aload_n dX6_empty_0 rfl ?_
  refine zv_getS (r := 16) hR.1.1 rfl fl_X6_19 rfl dX6_empty_1 ?_
  refine zv_aload_n dX6_empty_4 rfl ?_
  refine zv_getS (r := 1) hR.1.1 rfl fl_X6_10 rfl dX6_empty_5 ?_
  refine zv_callV (m_X2_note l D B (f := f) (c := c) hb.2.2.1 f2 f1 f3 f4 hb.2.1 (by unfold apart; omega) hrK hC.1) ml_X6_55 in_X2_note sel_X2_note hb.2.2.1.1 rfl rfl rfl rfl (Nat.le_of_ble_eq_true rfl) dX6_empty_8 ⟨Nat.le_of_ble_eq_true rfl, Nat.le_of_ble_eq_true rfl⟩ ⟨Nat.le_refl _, Nat.le_refl _⟩ (zk_v ?_)
  have hC1 := CR_note (r0 := r) hC hK
  refine zv_aload_n dX6_empty_11 rfl ?_
  refine zv_getS (r := 16) hR.1.1 rfl fl_X6_19 rfl dX6_empty_12 ?_
  refine zv_aload_n dX6_empty_15 rfl ?_
  refine zv_iload_n dX6_empty_16 rfl ?_
  refine zv_callV (m_X6_emptyCup l D B hb hC1 hS y) ml_X6_74 in_X6_emptyCup sel_X6_emptyCup hR.1.1 rfl rfl rfl rfl (Nat.le_of_ble_eq_true rfl) dX6_empty_17 ⟨Nat.le_of_ble_eq_true rfl, Nat.le_of_ble_eq_true rfl⟩ ⟨Nat.le_refl _, Nat.le_refl _⟩ (zk_p fun G2 hG2 => ?_)
  obtain ⟨hC2, hF2⟩ := hG2
  by_cases hn : (opEmpty r y).1 < 0
  · rw [opEmpty_neg hn] at hC2
    refine zv_callV (m_X2_keepUnlessError_e l D B hb.2.2.1.1 hn) ml_X6_63 in_X2_keepUnlessError sel_X2_keepUnlessError hb.2.2.1.1 rfl rfl rfl rfl (Nat.le_of_ble_eq_true rfl) dX6_empty_20 ⟨Nat.le_of_ble_eq_true rfl, Nat.le_of_ble_eq_true rfl⟩ ⟨Nat.le_refl _, Nat.le_refl _⟩ (zk_i ?_)
    rw [chg_neg hn]
    exact zv_iretI dX6_empty_23 rfl rfl rfl (zRC_neg hb hh hs hp hC2 hF2)
  · obtain ⟨g1, g2⟩ := zHs_fr hh hF2
    refine zv_callV (m_X2_keepUnlessError l D B hb.2.2.1 g1 f1 g2 f4 hn) ml_X6_63 in_X2_keepUnlessError sel_X2_keepUnlessError hb.2.2.1.1 rfl rfl rfl rfl (Nat.le_of_ble_eq_true rfl) dX6_empty_20 ⟨Nat.le_of_ble_eq_true rfl, Nat.le_of_ble_eq_true rfl⟩ ⟨Nat.le_refl _, Nat.le_refl _⟩ (zk_i ?_)
    rw [chg_pos hn]
    exact zv_iretI dX6_empty_23 rfl rfl rfl (zRC_pos hb hh hs hp hC2 hF2)

set_option maxRecDepth 100000 in
set_option maxHeartbeats 4000000 in
theorem m_X6_pour (l : Launch) (D : zD) (B : Nat) {L : zL} {nx : Nat} {G : zG} {x b c tn : Nat} {r : Nat → Int32} {h : Nat → (Nat → Int32)} {sl : Nat → Option (Nat → Int32)} {T : Nat → Nat} (hR : zRC L x nx G r h c sl T tn) (hS : SI b r) (y sd mn : Int32) : zMet l D B yX6_pour cX6_pour 4 (some .int) 5 117 0 0 [.ref x, .int y, .int sd, .int mn] L nx G (zI (opPour r y sd mn).1 L nx (fun G1 => zRC L x nx G1 (chg r h c (opPour r y sd mn)).1 (chg r h c (opPour r y sd mn)).2.1 (chg r h c (opPour r y sd mn)).2.2 sl T tn ∧ ∀ y, x + 134 ≤ y → G1 y = G y)) := by
  refine zMet_of (own := RX6) (mn := "pour") [some (.ref x), some (.int y), some (.int sd), some (.int mn)] (by decide +kernel) rfl rfl rfl (Nat.le_of_ble_eq_true rfl) ?_
  show zV l (fun _ => True) D B RX6 "pour" cX6_pour 4 (some .int) (zrm 5 117 0 0) (zN (zI (opPour r y sd mn).1 L nx (fun G1 => zRC L x nx G1 (chg r h c (opPour r y sd mn)).1 (chg r h c (opPour r y sd mn)).2.1 (chg r h c (opPour r y sd mn)).2.2 sl T tn ∧ ∀ y, x + 134 ≤ y → G1 y = G y))) 0 0 L nx 0 [some (.ref x), some (.int y), some (.int sd), some (.int mn)] [] (G)
  obtain ⟨hb, hC, ⟨f, hh⟩, hs, hp⟩ := id hR
  have hK : (f + c) % 7 < 7 := by omega
  obtain ⟨f1, f2, f3, f4, f5, f6⟩ := id hh
  obtain ⟨rK, hrK⟩ := f5 _ hK
  refine zv_aload_n dX6_pour_0 rfl ?_
  refine zv_getS (r := 16) hR.1.1 rfl fl_X6_19 rfl dX6_pour_1 ?_
  refine zv_aload_n dX6_pour_4 rfl ?_
  refine zv_getS (r := 1) hR.1.1 rfl fl_X6_10 rfl dX6_pour_5 ?_
  refine zv_callV (m_X2_note l D B (f := f) (c := c) hb.2.2.1 f2 f1 f3 f4 hb.2.1 (by unfold apart; omega) hrK hC.1) ml_X6_55 in_X2_note sel_X2_note hb.2.2.1.1 rfl rfl rfl rfl (Nat.le_of_ble_eq_true rfl) dX6_pour_8 ⟨Nat.le_of_ble_eq_true rfl, Nat.le_of_ble_eq_true rfl⟩ ⟨Nat.le_refl _, Nat.le_refl _⟩ (zk_v ?_)
  have hC1 := CR_note (r0 := r) hC hK
  refine zv_aload_n dX6_pour_11 rfl ?_
  refine zv_getS (r := 16) hR.1.1 rfl fl_X6_19 rfl dX6_pour_12 ?_
  refine zv_aload_n dX6_pour_15 rfl ?_
  refine zv_iload_n dX6_pour_16 rfl ?_
  refine zv_iload_n dX6_pour_17 rfl ?_
  refine zv_iload_n dX6_pour_18 rfl ?_
  refine zv_callV (m_X6_pourDroplets l D B hb hC1 hS y sd mn) ml_X6_77 in_X6_pourDroplets sel_X6_pourDroplets hR.1.1 rfl rfl rfl rfl (Nat.le_of_ble_eq_true rfl) dX6_pour_19 ⟨Nat.le_of_ble_eq_true rfl, Nat.le_of_ble_eq_true rfl⟩ ⟨Nat.le_refl _, Nat.le_refl _⟩ (zk_p fun G2 hG2 => ?_)
  obtain ⟨hC2, hF2⟩ := hG2
  by_cases hn : (opPour r y sd mn).1 < 0
  · rw [opPour_neg hS hn] at hC2
    refine zv_callV (m_X2_keepUnlessError_e l D B hb.2.2.1.1 hn) ml_X6_63 in_X2_keepUnlessError sel_X2_keepUnlessError hb.2.2.1.1 rfl rfl rfl rfl (Nat.le_of_ble_eq_true rfl) dX6_pour_22 ⟨Nat.le_of_ble_eq_true rfl, Nat.le_of_ble_eq_true rfl⟩ ⟨Nat.le_refl _, Nat.le_refl _⟩ (zk_i ?_)
    rw [chg_neg hn]
    exact zv_iretI dX6_pour_25 rfl rfl rfl (zRC_neg hb hh hs hp hC2 hF2)
  · obtain ⟨g1, g2⟩ := zHs_fr hh hF2
    refine zv_callV (m_X2_keepUnlessError l D B hb.2.2.1 g1 f1 g2 f4 hn) ml_X6_63 in_X2_keepUnlessError sel_X2_keepUnlessError hb.2.2.1.1 rfl rfl rfl rfl (Nat.le_of_ble_eq_true rfl) dX6_pour_22 ⟨Nat.le_of_ble_eq_true rfl, Nat.le_of_ble_eq_true rfl⟩ ⟨Nat.le_refl _, Nat.le_refl _⟩ (zk_i ?_)
    rw [chg_pos hn]
    exact zv_iretI dX6_pour_25 rfl rfl rfl (zRC_pos hb hh hs hp hC2 hF2)

set_option maxRecDepth 100000 in
set_option maxHeartbeats 4000000 in
theorem m_X6_solve (l : Launch) (D : zD) (B : Nat) {L : zL} {nx : Nat} {G : zG} {x b c tn : Nat} {r : Nat → Int32} {h : Nat → (Nat → Int32)} {sl : Nat → Option (Nat → Int32)} {T : Nat → Nat} (hR : zRC L x nx G r h c sl T tn) (hS : SI b r) (y : Int32) : zMet l D B yX6_solve cX6_solve 2 (some .int) 5 110 0 0 [.ref x, .int y] L nx G (zI (opSolve r y).1 L nx (fun G1 => zRC L x nx G1 (chg r h c (opSolve r y)).1 (chg r h c (opSolve r y)).2.1 (chg r h c (opSolve r y)).2.2 sl T tn ∧ ∀ y, x + 134 ≤ y → G1 y = G y)) := by
  refine zMet_of (own := RX6) (mn := "solve") [some (.ref x), some (.int y)] (by decide +kernel) rfl rfl rfl (Nat.le_of_ble_eq_true rfl) ?_
  show zV l (fun _ => True) D B RX6 "solve" cX6_solve 2 (some .int) (zrm 5 110 0 0) (zN (zI (opSolve r y).1 L nx (fun G1 => zRC L x nx G1 (chg r h c (opSolve r y)).1 (chg r h c (opSolve r y)).2.1 (chg r h c (opSolve r y)).2.2 sl T tn ∧ ∀ y, x + 134 ≤ y → G1 y = G y))) 0 0 L nx 0 [some (.ref x), some (.int y)] [] (G)
  obtain ⟨hb, hC, ⟨f, hh⟩, hs, hp⟩ := id hR
  have hK : (f + c) % 7 < 7 := by omega
  obtain ⟨f1, f2, f3, f4, f5, f6⟩ := id hh
  obtain ⟨rK, hrK⟩ := f5 _ hK
  refine zv_aload_n dX6_solve_0 rfl ?_
  refine zv_getS (r := 16) hR.1.1 rfl fl_X6_19 rfl dX6_solve_1 ?_
  refine zv_aload_n dX6_solve_4 rfl ?_
  refine zv_getS (r := 1) hR.1.1 rfl fl_X6_10 rfl dX6_solve_5 ?_
  refine zv_callV (m_X2_note l D B (f := f) (c := c) hb.2.2.1 f2 f1 f3 f4 hb.2.1 (by unfold apart; omega) hrK hC.1) ml_X6_55 in_X2_note sel_X2_note hb.2.2.1.1 rfl rfl rfl rfl (Nat.le_of_ble_eq_true rfl) dX6_solve_8 ⟨Nat.le_of_ble_eq_true rfl, Nat.le_of_ble_eq_true rfl⟩ ⟨Nat.le_refl _, Nat.le_refl _⟩ (zk_v ?_)
  have hC1 := CR_note (r0 := r) hC hK
  refine zv_aload_n dX6_solve_11 rfl ?_
  refine zv_getS (r := 16) hR.1.1 rfl fl_X6_19 rfl dX6_solve_12 ?_
  refine zv_aload_n dX6_solve_15 rfl ?_
  refine zv_iload_n dX6_solve_16 rfl ?_
  refine zv_callV (m_X6_solveCup l D B hb hC1 hS y) ml_X6_81 in_X6_solveCup sel_X6_solveCup hR.1.1 rfl rfl rfl rfl (Nat.le_of_ble_eq_true rfl) dX6_solve_17 ⟨Nat.le_of_ble_eq_true rfl, Nat.le_of_ble_eq_true rfl⟩ ⟨Nat.le_refl _, Nat.le_refl _⟩ (zk_p fun G2 hG2 => ?_)
  obtain ⟨hC2, hF2⟩ := hG2
  by_cases hn : (opSolve r y).1 < 0
  · rw [opSolve_neg hn] at hC2
    refine zv_callV (m_X2_keepUnlessError_e l D B hb.2.2.1.1 hn) ml_X6_63 in_X2_keepUnlessError sel_X2_keepUnlessError hb.2.2.1.1 rfl rfl rfl rfl (Nat.le_of_ble_eq_true rfl) dX6_solve_20 ⟨Nat.le_of_ble_eq_true rfl, Nat.le_of_ble_eq_true rfl⟩ ⟨Nat.le_refl _, Nat.le_refl _⟩ (zk_i ?_)
    rw [chg_neg hn]
    exact zv_iretI dX6_solve_23 rfl rfl rfl (zRC_neg hb hh hs hp hC2 hF2)
  · obtain ⟨g1, g2⟩ := zHs_fr hh hF2
    refine zv_callV (m_X2_keepUnlessError l D B hb.2.2.1 g1 f1 g2 f4 hn) ml_X6_63 in_X2_keepUnlessError sel_X2_keepUnlessError hb.2.2.1.1 rfl rfl rfl rfl (Nat.le_of_ble_eq_true rfl) dX6_solve_20 ⟨Nat.le_of_ble_eq_true rfl, Nat.le_of_ble_eq_true rfl⟩ ⟨Nat.le_refl _, Nat.le_refl _⟩ (zk_i ?_)
    rw [chg_pos hn]
    exact zv_iretI dX6_solve_23 rfl rfl rfl (zRC_pos hb hh hs hp hC2 hF2)
end
section
section ZFRESH
variable {l : Launch} {X0 : State → Prop} {D : zD} {B : Nat} {own mn : String} {cc : ByteArray} {nL : Nat} {ret : Option FieldType} {R : Room} {post : zP} {k n : Nat} {L : zL} {nx : Nat} {pc : Nat} {lv : List (Option Value)} {st : List Value} {G : zG}
/-- what is listed lies below -/
theorem zv_fresh (kk : (∀ b ∈ L, b.1 < nx) → zV l X0 D B own mn cc nL ret R post k n L nx pc lv st G) : zV l X0 D B own mn cc nL ret R post k n L nx pc lv st G :=
  fun p e s m args below meth c H locs ls Q hX hR hl hW hS => kk hW.2.2.2.2 p e s m args below meth c H locs ls Q hX hR hl hW hS
theorem zcs_app {D : zD} {L X : zL} {G : zG} : zcs D (L ++ X) G = zcs D L G ++ zcs D X G := by simp [zcs, zpl]
theorem zcs_cg {D : zD} {L : zL} {G G' : zG} (h : ∀ b ∈ L, G b.1 = G' b.1) : zcs D L G = zcs D L G' := by
  apply List.map_congr_left
  rintro ⟨q, r, cd⟩ hp
  obtain ⟨t, ht, -⟩ := zpl_mem hp
  rw [h _ ht]
theorem zcs_cons {D : zD} {q t : Nat} {X : zL} {G : zG} : zcs D ((q, t) :: X) G = (zbT t).map (fun c => (q + c.1, zce D q (G q) c.2)) ++ zcs D X G := by simp [zcs, zpl]
theorem zcs_nil {D : zD} {G : zG} : zcs D [] G = [] := rfl
/-- what was laid cell by cell is read as blobs -/
theorem zv_lay {L0 X Y : zL} {q : Nat} {G' : zG} (hL : ∀ b ∈ L0, b.1 < q) (e : L = L0 ++ X) (hG : ∀ y, y < q → G y = G' y) (hX : ∀ D : zD, zcs D X G = zcs D Y G') (hY : zfun Y nx) (hq : ∀ b ∈ Y, q ≤ b.1) (hnx : q ≤ nx)
    (kk : zV l X0 D B own mn cc nL ret R post k n (L0 ++ Y) nx pc lv st G') : zV l X0 D B own mn cc nL ret R post k n L nx pc lv st G := by
  subst e
  refine zv_relay (fun D => ?_) (fun hf => ?_) kk
  · rw [zcs_app, zcs_app, hX D, zcs_cg (G' := G') (fun b hb => hG _ (hL b hb))]
  · refine ⟨fun y t u h1 h2 => ?_, fun b hb => ?_⟩
    · rcases List.mem_append.mp h1 with h1 | h1 <;> rcases List.mem_append.mp h2 with h2 | h2
      · exact hf.1 _ _ _ (List.mem_append_left _ h1) (List.mem_append_left _ h2)
      · have := hL _ h1; have := hq _ h2; simp only at *; omega
      · have := hL _ h2; have := hq _ h1; simp only at *; omega
      · exact hY.1 _ _ _ h1 h2
    · rcases List.mem_append.mp hb with hb | hb
      · have := hL _ hb; omega
      · exact hY.2 _ hb
theorem zk_c {k1 n1 : Nat} {L1 : zL} {nx1 : Nat} {G1 : zG} {mc ms : Nat} (kk : zV l X0 D B own mn cc nL ret R post (k1 + mc) (n1 + ms) L1 nx1 (pc + 3) lv st G1) : ∀ (v : Option Value) (L' : zL) (nx' : Nat) (G' : zG), zE none L1 nx1 G1 v L' nx' G' → zV l X0 D B own mn cc nL ret R post (k1 + mc) (n1 + ms) L' nx' (pc + 3) lv (v.toList ++ st) G' := by
  rintro _ _ _ _ ⟨rfl, rfl, rfl, rfl⟩
  exact kk
theorem zv_vretC {mc ms : Nat} {L1 : zL} {nx1 : Nat} {G1 : zG} (hd : decode cc pc = .ok (.return_, 1)) (hr : ret = none) (hk : k ≤ mc) (hn : n ≤ ms) (hL : L = L1) (hx : nx = nx1) (hG : G = G1) : zV l X0 D B own mn cc nL ret R (fun v L' nx' G' k n => zE none L1 nx1 G1 v L' nx' G' ∧ k ≤ mc ∧ n ≤ ms) k n L nx pc lv [] G :=
  zv_vret hd hr ⟨⟨rfl, hL, hx, hG⟩, hk, hn⟩
theorem zv_eqL {L' : zL} (h : L = L') (kk : zV l X0 D B own mn cc nL ret R post k n L' nx pc lv st G) : zV l X0 D B own mn cc nL ret R post k n L nx pc lv st G := h ▸ kk
end ZFRESH
theorem hfs_X0 : ∀ q j, j < 8 → defaultValue (tyX0 j) = vp_V (zfl q (fun _ => 0) 0 [0, 0, 0, 0, 0, 1, 1, 1]) j := fun q j hj => by
  match j, hj with
  | 0, _ => rfl
  | 1, _ => rfl
  | 2, _ => rfl
  | 3, _ => rfl
  | 4, _ => rfl
  | 5, _ => rfl
  | 6, _ => rfl
  | 7, _ => rfl
theorem hfs_X1 : ∀ q j, j < 4 → defaultValue (tyX1 j) = vp_V (zfl q (fun _ => 0) 0 [0, 0, 0, 0]) j := fun q j hj => by
  match j, hj with
  | 0, _ => rfl
  | 1, _ => rfl
  | 2, _ => rfl
  | 3, _ => rfl
theorem hfs_X2 : ∀ q j, j < 3 → defaultValue (tyX2 j) = vp_V (zfl q (fun _ => 0) 0 [1, 0, 0]) j := fun q j hj => by
  match j, hj with
  | 0, _ => rfl
  | 1, _ => rfl
  | 2, _ => rfl
theorem hfs_X3 : ∀ q j, j < 7 → defaultValue (tyX3 j) = vp_V (zfl q (fun _ => 0) 0 [1, 0, 0, 0, 0, 0, 0]) j := fun q j hj => by
  match j, hj with
  | 0, _ => rfl
  | 1, _ => rfl
  | 2, _ => rfl
  | 3, _ => rfl
  | 4, _ => rfl
  | 5, _ => rfl
  | 6, _ => rfl
theorem hfs_X4 : ∀ q j, j < 2 → defaultValue (tyX4 j) = vp_V (zfl q (fun _ => 0) 0 [1, 1]) j := fun q j hj => by
  match j, hj with
  | 0, _ => rfl
  | 1, _ => rfl
theorem hfs_X5 : ∀ q j, j < 7 → defaultValue (tyX5 j) = vp_V (zfl q (fun _ => 0) 0 [0, 0, 0, 0, 0, 1, 1]) j := fun q j hj => by
  match j, hj with
  | 0, _ => rfl
  | 1, _ => rfl
  | 2, _ => rfl
  | 3, _ => rfl
  | 4, _ => rfl
  | 5, _ => rfl
  | 6, _ => rfl
theorem hfs_X6 : ∀ q j, j < 7 → defaultValue (tyX6 j) = vp_V (zfl q (fun _ => 0) 0 [1, 1, 1, 1, 1, 1, 1]) j := fun q j hj => by
  match j, hj with
  | 0, _ => rfl
  | 1, _ => rfl
  | 2, _ => rfl
  | 3, _ => rfl
  | 4, _ => rfl
  | 5, _ => rfl
  | 6, _ => rfl
theorem zfun_1 {q t nx : Nat} (h : q < nx) : zfun [(q, t)] nx := ⟨fun y a b h1 h2 => by
  have e1 := List.mem_singleton.mp h1
  have e2 := List.mem_singleton.mp h2
  rw [Prod.mk.injEq] at e1 e2
  rw [e1.2, e2.2], fun b hb => by rw [List.mem_singleton.mp hb]; exact h⟩
theorem nI_d1 {q : Nat} : zdr q (nI (q + 1 - q)) = some (q + 1) := zdr_nI (by omega) (by omega)
theorem zdr_l {q k : Nat} (h : 0 < k) (h2 : k < 2147483648) : zdr q (nI k) = some (q + k) := by
  have := zdr_nI (q := q) (a := q + k) (by omega) (by omega)
  rwa [show q + k - q = k by omega] at this
theorem zdr_0 {q : Nat} : zdr q 0 = none := by unfold zdr; rw [if_pos rfl]
theorem zai_0 {n off : Nat} : zai n off (fun _ => 0) = fun _ => 0 := by funext j; simp [zai]
theorem lt_app {L : zL} {q a t : Nat} (h : ∀ b ∈ L, b.1 < q) (ha : a < q) : ∀ b ∈ L ++ [(a, t)], b.1 < q := by
  intro b hb
  rcases List.mem_append.mp hb with hb | hb
  · exact h b hb
  · rw [List.mem_singleton.mp hb]; exact ha
theorem lt_ge {L : zL} {q q' : Nat} (h : ∀ b ∈ L, b.1 < q) (ha : q ≤ q') : ∀ b ∈ L, b.1 < q' := fun b hb => Nat.lt_of_lt_of_le (h b hb) ha
/-- a new state's row -/
def initR : Nat → Int32 := fun j => if j = 0 then 1 else 0
theorem zar_cups {q : Nat} {g : Nat → Int32} : zar (q + 2) 3 0 0 0 (upd (upd (upd (fun _ => 0) 0 (nI 1)) 1 (nI 5)) 2 (nI 9)) = zar q 3 21 3 4 g := by
  funext j
  unfold zar
  by_cases h : j < 3
  · rw [if_pos h, if_pos h, if_pos rfl, if_neg (by decide)]
    match j, h with
    | 0, _ => exact zdr_l (by decide) (by decide)
    | 1, _ => exact zdr_l (by decide) (by decide)
    | 2, _ => exact zdr_l (by decide) (by decide)
  · rw [if_neg h, if_neg h]
theorem zai_init : (zai 16 0 fun _ => 0) = zai 16 5 (hdR initR) := by
  funext j
  simp only [zai, hdR, initR]
  grind
theorem zai_in2 : zai 16 5 (hdR initR) = fun _ => 0 := by rw [← zai_init, zai_0]
theorem hdR_in0 : hdR initR 0 = 1 := rfl
theorem hdR_inS {k : Nat} : hdR initR (k + 1) = 0 := by simp [hdR, initR]
theorem cupR_in {i : Nat} : cupR initR i = fun _ => 0 := by funext j; simp [cupR, initR]
theorem in_0 {G : zG} {q : Nat} : stPut G q initR q = hdR initR := (stPut_OK G q initR).1
theorem in_3 {G : zG} {q : Nat} : stPut G q initR (q + 3) = fun _ => 0 := by rw [← cupR_in (i := 0)]; exact (stPut_OK G q initR).2 0 (by decide)
theorem in_7 {G : zG} {q : Nat} : stPut G q initR (q + 7) = fun _ => 0 := by rw [← cupR_in (i := 1)]; exact (stPut_OK G q initR).2 1 (by decide)
theorem in_11 {G : zG} {q : Nat} : stPut G q initR (q + 11) = fun _ => 0 := by rw [← cupR_in (i := 2)]; exact (stPut_OK G q initR).2 2 (by decide)
theorem hd_1 : hdR initR 1 = 0 := rfl
theorem hd_2 : hdR initR 2 = 0 := rfl
theorem hd_3 : hdR initR 3 = 0 := rfl
theorem hd_4 : hdR initR 4 = 0 := rfl
end
section
set_option maxRecDepth 100000 in
set_option maxHeartbeats 4000000 in
theorem m_X1_init (l : Launch) (D : zD) (B : Nat) {L : zL} {G : zG} {q : Nat} (hB : B ≤ q) (hL : ∀ b ∈ L, b.1 < q) (h0 : G q = fun _ => 0) : zMet l D B yX1_init cX1_init 1 none 1 12 0 0 [.ref q] (L ++ [(q, 11)]) (q + 1) G (zE none (L ++ [(q, 4)]) (q + 1) (G)) := by
  refine zMet_of (own := RX1) (mn := "<init>") [some (.ref q)] (by decide +kernel) rfl rfl rfl (Nat.le_of_ble_eq_true rfl) ?_
  show zV l (fun _ => True) D B RX1 "<init>" cX1_init 1 none (zrm 1 12 0 0) (fun v L' nx' G' k n => (zE none (L ++ [(q, 4)]) (q + 1) (G)) v L' nx' G' ∧ k ≤ 0 ∧ n ≤ 0) 0 0 (L ++ [(q, 11)]) (q + 1) 0 [some (.ref q)] [] G
  refine zv_aload_n dX1_init_0 rfl ?_
  refine zv_objInit ol_X1_3 zobj_in zobj_code dX1_init_1 (by decide) (by decide) ?_
  refine zv_lay (L0 := L) (X := [(q, 11)]) (Y := [(q, 4)]) (q := q) (G' := G) hL (by simp) (fun y hy => ?_) (fun D => ?_) (zfun_1 (by omega)) (fun b hb => by rw [List.mem_singleton.mp hb]; exact Nat.le_refl _) (by omega) ?_
  · simp only [zst]; repeat rw [if_neg (by omega)]
  · simp [zcs, zpl, zbT, zce, zfl, zfv, zac, zst, upd, h0, zdr_l, zdr_0, va_rf, zai_0, Nat.add_assoc]
  · exact zv_vretC dX1_init_4 rfl (by decide) (by decide) rfl (by omega) rfl

set_option maxRecDepth 100000 in
set_option maxHeartbeats 4000000 in
theorem m_X0_init (l : Launch) (D : zD) (B : Nat) {L : zL} {G : zG} {q : Nat} (hB : B ≤ q) (hL : ∀ b ∈ L, b.1 < q) (h0 : G q = fun _ => 0) : zMet l D B yX0_init cX0_init 1 none 1 12 3 64 [.ref q] (L ++ [(q, 10)]) (q + 1) G (zE none (L ++ [(q, 3)]) (q + 4) (G)) := by
  refine zMet_of (own := RX0) (mn := "<init>") [some (.ref q)] (by decide +kernel) rfl rfl rfl (Nat.le_of_ble_eq_true rfl) ?_
  show zV l (fun _ => True) D B RX0 "<init>" cX0_init 1 none (zrm 1 12 3 64) (fun v L' nx' G' k n => (zE none (L ++ [(q, 3)]) (q + 4) (G)) v L' nx' G' ∧ k ≤ 3 ∧ n ≤ 64) 0 0 (L ++ [(q, 10)]) (q + 1) 0 [some (.ref q)] [] G
  refine zv_aload_n dX0_init_0 rfl ?_
  refine zv_objInit ol_X0_3 zobj_in zobj_code dX0_init_1 (by decide) (by decide) ?_
  refine zv_aload_n dX0_init_4 rfl ?_
  refine zv_bipush (v := 16) dX0_init_5 (by decide) ?_
  refine zv_newarray (N := 16) (t := 116) (ta := 0) (by omega) rfl (by decide) zac_int (by decide) (by decide) (by decide) rfl (Nat.le_of_ble_eq_true rfl) (Nat.le_of_ble_eq_true rfl) dX0_init_7 ?_
  refine zv_putF (t := 10) (C2 := "") (by simp) rfl fl_X0_9 ft_X0_5 rfl rfl (by first | exact Or.inr ⟨_, rfl⟩ | exact Or.inl ⟨_, rfl⟩) (by omega) (by omega) dX0_init_9 ?_
  refine zv_aload_n dX0_init_12 rfl ?_
  refine zv_bipush (v := 24) dX0_init_13 (by decide) ?_
  refine zv_newarray (N := 24) (t := 124) (ta := 0) (by omega) rfl (by decide) zac_int (by decide) (by decide) (by decide) rfl (Nat.le_of_ble_eq_true rfl) (Nat.le_of_ble_eq_true rfl) dX0_init_15 ?_
  refine zv_putF (t := 10) (C2 := "") (by simp) rfl fl_X0_15 ft_X0_6 rfl rfl (by first | exact Or.inr ⟨_, rfl⟩ | exact Or.inl ⟨_, rfl⟩) (by omega) (by omega) dX0_init_17 ?_
  refine zv_aload_n dX0_init_20 rfl ?_
  refine zv_bipush (v := 24) dX0_init_21 (by decide) ?_
  refine zv_newarray (N := 24) (t := 124) (ta := 0) (by omega) rfl (by decide) zac_int (by decide) (by decide) (by decide) rfl (Nat.le_of_ble_eq_true rfl) (Nat.le_of_ble_eq_true rfl) dX0_init_23 ?_
  refine zv_putF (t := 10) (C2 := "") (by simp) rfl fl_X0_18 ft_X0_7 rfl rfl (by first | exact Or.inr ⟨_, rfl⟩ | exact Or.inl ⟨_, rfl⟩) (by omega) (by omega) dX0_init_25 ?_
  refine zv_lay (L0 := L) (X := [(q, 10), (q + 1, 116), (q + 1 + 1, 124), (q + 1 + 1 + 1, 124)]) (Y := [(q, 3)]) (q := q) (G' := G) hL (by simp) (fun y hy => ?_) (fun D => ?_) (zfun_1 (by omega)) (fun b hb => by rw [List.mem_singleton.mp hb]; exact Nat.le_refl _) (by omega) ?_
  · simp only [zst]; repeat rw [if_neg (by omega)]
  · simp [zcs, zpl, zbT, zce, zfl, zfv, zac, zst, upd, h0, zdr_l, zdr_0, va_rf, zai_0, Nat.add_assoc]
  · exact zv_vretC dX0_init_28 rfl (by decide) (by decide) rfl (by omega) rfl

set_option maxRecDepth 100000 in
set_option maxHeartbeats 4000000 in
theorem m_X3_init (l : Launch) (D : zD) (B : Nat) {L : zL} {G : zG} {q : Nat} (hB : B ≤ q) (hL : ∀ b ∈ L, b.1 < q) (h0 : G q = fun _ => 0) : zMet l D B yX3_init cX3_init 1 none 1 12 1 80 [.ref q] (L ++ [(q, 13)]) (q + 1) G (zE none (L ++ [(q, 7)]) (q + 2) (G)) := by
  refine zMet_of (own := RX3) (mn := "<init>") [some (.ref q)] (by decide +kernel) rfl rfl rfl (Nat.le_of_ble_eq_true rfl) ?_
  show zV l (fun _ => True) D B RX3 "<init>" cX3_init 1 none (zrm 1 12 1 80) (fun v L' nx' G' k n => (zE none (L ++ [(q, 7)]) (q + 2) (G)) v L' nx' G' ∧ k ≤ 1 ∧ n ≤ 80) 0 0 (L ++ [(q, 13)]) (q + 1) 0 [some (.ref q)] [] G
  refine zv_aload_n dX3_init_0 rfl ?_
  refine zv_objInit ol_X3_3 zobj_in zobj_code dX3_init_1 (by decide) (by decide) ?_
  refine zv_aload_n dX3_init_4 rfl ?_
  refine zv_bipush (v := 80) dX3_init_5 (by decide) ?_
  refine zv_newarray (N := 80) (t := 10180) (ta := 1) (by omega) rfl (by decide) zac_char (by decide) (by decide) (by decide) rfl (Nat.le_of_ble_eq_true rfl) (Nat.le_of_ble_eq_true rfl) dX3_init_7 ?_
  refine zv_putF (t := 13) (C2 := "") (by simp) rfl fl_X3_9 ft_X3_0 rfl rfl (by first | exact Or.inr ⟨_, rfl⟩ | exact Or.inl ⟨_, rfl⟩) (by omega) (by omega) dX3_init_9 ?_
  refine zv_lay (L0 := L) (X := [(q, 13), (q + 1, 10180)]) (Y := [(q, 7)]) (q := q) (G' := G) hL (by simp) (fun y hy => ?_) (fun D => ?_) (zfun_1 (by omega)) (fun b hb => by rw [List.mem_singleton.mp hb]; exact Nat.le_refl _) (by omega) ?_
  · simp only [zst]; repeat rw [if_neg (by omega)]
  · simp [zcs, zpl, zbT, zce, zfl, zfv, zac, zst, upd, h0, zdr_l, zdr_0, va_rf, zai_0, Nat.add_assoc]
  · exact zv_vretC dX3_init_12 rfl (by decide) (by decide) rfl (by omega) rfl

set_option maxRecDepth 100000 in
set_option maxHeartbeats 4000000 in
theorem m_X4_init (l : Launch) (D : zD) (B : Nat) {L : zL} {G : zG} {q : Nat} (hB : B ≤ q) (hL : ∀ b ∈ L, b.1 < q) (h0 : G q = fun _ => 0) : zMet l D B yX4_init cX4_init 1 none 1 12 2 48 [.ref q] (L ++ [(q, 14)]) (q + 1) G (zE none (L ++ [(q, 5)]) (q + 3) (G)) := by
  refine zMet_of (own := RX4) (mn := "<init>") [some (.ref q)] (by decide +kernel) rfl rfl rfl (Nat.le_of_ble_eq_true rfl) ?_
  show zV l (fun _ => True) D B RX4 "<init>" cX4_init 1 none (zrm 1 12 2 48) (fun v L' nx' G' k n => (zE none (L ++ [(q, 5)]) (q + 3) (G)) v L' nx' G' ∧ k ≤ 2 ∧ n ≤ 48) 0 0 (L ++ [(q, 14)]) (q + 1) 0 [some (.ref q)] [] G
  refine zv_aload_n dX4_init_0 rfl ?_
  refine zv_objInit ol_X4_3 zobj_in zobj_code dX4_init_1 (by decide) (by decide) ?_
  refine zv_aload_n dX4_init_4 rfl ?_
  refine zv_bipush (v := 24) dX4_init_5 (by decide) ?_
  refine zv_newarray (N := 24) (t := 124) (ta := 0) (by omega) rfl (by decide) zac_int (by decide) (by decide) (by decide) rfl (Nat.le_of_ble_eq_true rfl) (Nat.le_of_ble_eq_true rfl) dX4_init_7 ?_
  refine zv_putF (t := 14) (C2 := "") (by simp) rfl fl_X4_9 ft_X4_0 rfl rfl (by first | exact Or.inr ⟨_, rfl⟩ | exact Or.inl ⟨_, rfl⟩) (by omega) (by omega) dX4_init_9 ?_
  refine zv_aload_n dX4_init_12 rfl ?_
  refine zv_bipush (v := 24) dX4_init_13 (by decide) ?_
  refine zv_newarray (N := 24) (t := 124) (ta := 0) (by omega) rfl (by decide) zac_int (by decide) (by decide) (by decide) rfl (Nat.le_of_ble_eq_true rfl) (Nat.le_of_ble_eq_true rfl) dX4_init_15 ?_
  refine zv_putF (t := 14) (C2 := "") (by simp) rfl fl_X4_15 ft_X4_1 rfl rfl (by first | exact Or.inr ⟨_, rfl⟩ | exact Or.inl ⟨_, rfl⟩) (by omega) (by omega) dX4_init_17 ?_
  refine zv_lay (L0 := L) (X := [(q, 14), (q + 1, 124), (q + 1 + 1, 124)]) (Y := [(q, 5)]) (q := q) (G' := G) hL (by simp) (fun y hy => ?_) (fun D => ?_) (zfun_1 (by omega)) (fun b hb => by rw [List.mem_singleton.mp hb]; exact Nat.le_refl _) (by omega) ?_
  · simp only [zst]; repeat rw [if_neg (by omega)]
  · simp [zcs, zpl, zbT, zce, zfl, zfv, zac, zst, upd, h0, zdr_l, zdr_0, va_rf, zai_0, Nat.add_assoc]
  · exact zv_vretC dX4_init_20 rfl (by decide) (by decide) rfl (by omega) rfl

set_option maxRecDepth 100000 in
set_option maxHeartbeats 4000000 in
theorem m_X5_init (l : Launch) (D : zD) (B : Nat) {L : zL} {G : zG} {q : Nat} (hB : B ≤ q) (hL : ∀ b ∈ L, b.1 < q) (h0 : G q = fun _ => 0) : zMet l D B yX5_init cX5_init 2 none 2 32 14 235 [.ref q] (L ++ [(q, 15)]) (q + 1) G (zE none (L ++ [(q, 2), (q + 3, 3), (q + 7, 3), (q + 11, 3)]) (q + 15) (stPut G q initR)) := by
  refine zMet_of (own := RX5) (mn := "<init>") [some (.ref q), none] (by decide +kernel) rfl rfl rfl (Nat.le_of_ble_eq_true rfl) ?_
  show zV l (fun _ => True) D B RX5 "<init>" cX5_init 2 none (zrm 2 32 14 235) (fun v L' nx' G' k n => (zE none (L ++ [(q, 2), (q + 3, 3), (q + 7, 3), (q + 11, 3)]) (q + 15) (stPut G q initR)) v L' nx' G' ∧ k ≤ 14 ∧ n ≤ 235) 0 0 (L ++ [(q, 15)]) (q + 1) 0 [some (.ref q), none] [] G
  refine zv_aload_n dX5_init_0 rfl ?_
  refine zv_objInit ol_X5_3 zobj_in zobj_code dX5_init_1 (by decide) (by decide) ?_
  refine zv_aload_n dX5_init_4 rfl ?_
  refine zv_iconst (v := 1) dX5_init_5 (by decide) ?_
  refine zv_putI (t := 15) (by simp) rfl fl_X5_9 ft_X5_0 rfl dX5_init_6 ?_
  refine zv_aload_n dX5_init_9 rfl ?_
  refine zv_bipush (v := 16) dX5_init_10 (by decide) ?_
  refine zv_newarray (N := 16) (t := 116) (ta := 0) (by omega) rfl (by decide) zac_int (by decide) (by decide) (by decide) rfl (Nat.le_of_ble_eq_true rfl) (Nat.le_of_ble_eq_true rfl) dX5_init_12 ?_
  refine zv_putF (t := 15) (C2 := "") (by simp) rfl fl_X5_15 ft_X5_5 rfl rfl (by first | exact Or.inr ⟨_, rfl⟩ | exact Or.inl ⟨_, rfl⟩) (by omega) (by omega) dX5_init_14 ?_
  refine zv_aload_n dX5_init_17 rfl ?_
  refine zv_iconst (v := 3) dX5_init_18 (by decide) ?_
  refine zv_anew (N := 3) (t := 40103) (ta := 4) (by omega) rfl (by decide) (by decide) kl_X5_19 zao_X0 (by decide) (by decide) (by decide) rfl (Nat.le_of_ble_eq_true rfl) (Nat.le_of_ble_eq_true rfl) dX5_init_19 ?_
  refine zv_putF (t := 15) (C2 := "") (by simp) rfl fl_X5_21 ft_X5_6 rfl rfl (by first | exact Or.inr ⟨_, rfl⟩ | exact Or.inl ⟨_, rfl⟩) (by omega) (by omega) dX5_init_22 ?_
  refine zv_iconst (v := 0) dX5_init_25 (by decide) ?_
  refine zv_istore_n dX5_init_26 (by decide) rfl ?_
  refine zv_iload_n dX5_init_27 rfl ?_
  refine zv_iconst (v := 3) dX5_init_28 (by decide) ?_
  refine zv_icmp_ge (tgt := 51) dX5_init_29 (by decide) (fun h => absurd h (by decide)) (fun _ => ?_)
  refine zv_aload_n dX5_init_32 rfl ?_
  refine zv_getD (t := 15) (a := q + 2) (by simp) rfl fl_X5_21 rfl (by simp [zst, upd, h0, zdr_l, Nat.add_assoc]) dX5_init_33 ?_
  refine zv_iload_n dX5_init_36 rfl ?_
  refine zv_new (t := 10) (by omega) kl_X5_19 inst_X0 ini_X0 rfl iwX0 tyX0_ok rfl hfs_X0 (Nat.le_of_ble_eq_true rfl) (Nat.le_of_ble_eq_true rfl) dX5_init_37 ?_
  refine zv_dup dX5_init_40 rfl ?_
  refine zv_callIN (m_X0_init l D B (by omega) (by repeat first | exact lt_ge hL (by omega) | refine lt_app ?_ (by omega)) (by rw [zst_same])) ml_X5_25 in_X0_init rfl rfl rfl (Nat.le_of_ble_eq_true rfl) dX5_init_41 ⟨Nat.le_of_ble_eq_true rfl, Nat.le_of_ble_eq_true rfl⟩ ⟨Nat.le_of_ble_eq_true rfl, Nat.le_of_ble_eq_true rfl⟩ (zk_c ?_)
  refine zv_aast (q := q + 2) (r := 0) (i := 0) (j0 := 0) (t := 40103) (tx := 3) (by decide) (by decide) (by simp [Nat.add_assoc]) rfl ⟨by decide, by decide, by decide⟩ (by simp) rfl rfl rfl (by omega) (by omega) dX5_init_44 ?_
  refine zv_iinc1 dX5_init_45 rfl (by decide) rfl ?_
  refine zv_goto (tgt := 27) dX5_init_48 (by decide) ?_
  refine zv_iload_n dX5_init_27 rfl ?_
  refine zv_iconst (v := 3) dX5_init_28 (by decide) ?_
  refine zv_icmp_ge (tgt := 51) dX5_init_29 (by decide) (fun h => absurd h (by decide)) (fun _ => ?_)
  refine zv_aload_n dX5_init_32 rfl ?_
  refine zv_getD (t := 15) (a := q + 2) (by simp) rfl fl_X5_21 rfl (by simp [zst, upd, h0, zdr_l, Nat.add_assoc]) dX5_init_33 ?_
  refine zv_iload_n dX5_init_36 rfl ?_
  refine zv_new (t := 10) (by omega) kl_X5_19 inst_X0 ini_X0 rfl iwX0 tyX0_ok rfl hfs_X0 (Nat.le_of_ble_eq_true rfl) (Nat.le_of_ble_eq_true rfl) dX5_init_37 ?_
  refine zv_dup dX5_init_40 rfl ?_
  refine zv_callIN (m_X0_init l D B (by omega) (by repeat first | exact lt_ge hL (by omega) | refine lt_app ?_ (by omega)) (by rw [zst_same])) ml_X5_25 in_X0_init rfl rfl rfl (Nat.le_of_ble_eq_true rfl) dX5_init_41 ⟨Nat.le_of_ble_eq_true rfl, Nat.le_of_ble_eq_true rfl⟩ ⟨Nat.le_of_ble_eq_true rfl, Nat.le_of_ble_eq_true rfl⟩ (zk_c ?_)
  refine zv_aast (q := q + 2) (r := 0) (i := 0) (j0 := 1) (t := 40103) (tx := 3) (by decide) (by decide) (by simp [Nat.add_assoc]) rfl ⟨by decide, by decide, by decide⟩ (by simp) rfl rfl rfl (by omega) (by omega) dX5_init_44 ?_
  refine zv_iinc1 dX5_init_45 rfl (by decide) rfl ?_
  refine zv_goto (tgt := 27) dX5_init_48 (by decide) ?_
  refine zv_iload_n dX5_init_27 rfl ?_
  refine zv_iconst (v := 3) dX5_init_28 (by decide) ?_
  refine zv_icmp_ge (tgt := 51) dX5_init_29 (by decide) (fun h => absurd h (by decide)) (fun _ => ?_)
  refine zv_aload_n dX5_init_32 rfl ?_
  refine zv_getD (t := 15) (a := q + 2) (by simp) rfl fl_X5_21 rfl (by simp [zst, upd, h0, zdr_l, Nat.add_assoc]) dX5_init_33 ?_
  refine zv_iload_n dX5_init_36 rfl ?_
  refine zv_new (t := 10) (by omega) kl_X5_19 inst_X0 ini_X0 rfl iwX0 tyX0_ok rfl hfs_X0 (Nat.le_of_ble_eq_true rfl) (Nat.le_of_ble_eq_true rfl) dX5_init_37 ?_
  refine zv_dup dX5_init_40 rfl ?_
  refine zv_callIN (m_X0_init l D B (by omega) (by repeat first | exact lt_ge hL (by omega) | refine lt_app ?_ (by omega)) (by rw [zst_same])) ml_X5_25 in_X0_init rfl rfl rfl (Nat.le_of_ble_eq_true rfl) dX5_init_41 ⟨Nat.le_of_ble_eq_true rfl, Nat.le_of_ble_eq_true rfl⟩ ⟨Nat.le_of_ble_eq_true rfl, Nat.le_of_ble_eq_true rfl⟩ (zk_c ?_)
  refine zv_aast (q := q + 2) (r := 0) (i := 0) (j0 := 2) (t := 40103) (tx := 3) (by decide) (by decide) (by simp [Nat.add_assoc]) rfl ⟨by decide, by decide, by decide⟩ (by simp) rfl rfl rfl (by omega) (by omega) dX5_init_44 ?_
  refine zv_iinc1 dX5_init_45 rfl (by decide) rfl ?_
  refine zv_goto (tgt := 27) dX5_init_48 (by decide) ?_
  refine zv_iload_n dX5_init_27 rfl ?_
  refine zv_iconst (v := 3) dX5_init_28 (by decide) ?_
  refine zv_icmp_ge (tgt := 51) dX5_init_29 (by decide) (fun _ => ?_) (fun h => absurd (by decide) h)
  refine zv_lay (L0 := L) (X := [(q, 15), (q + 1, 116), (q + 1 + 1, 40103), (q + 3, 3), (q + 7, 3), (q + 11, 3)]) (Y := [(q, 2), (q + 3, 3), (q + 7, 3), (q + 11, 3)]) (q := q) (G' := stPut G q initR) hL (by simp) (fun y hy => ?_) (fun D => ?_) ⟨fun y t u h1 h2 => by simp at h1 h2; omega, fun b hb => by simp at hb; rcases hb with hb | hb | hb | hb <;> subst hb <;> dsimp only <;> omega⟩ (fun b hb => by simp at hb; rcases hb with hb | hb | hb | hb <;> subst hb <;> dsimp only <;> omega) (by omega) ?_
  · rw [stPut_ne _ _ (by omega)]; simp only [zst]; repeat rw [if_neg (by omega)]
  · simp [zcs, zpl, zbT, zce, zfl, zfv, zac, zst, upd, h0, zdr_l, zdr_0, va_rf, zai_0, Nat.add_assoc, in_0, in_3, in_7, in_11, zai_in2, hdR_in0, hd_1, hd_2, hd_3, hd_4, zar_cups (q := q) (g := hdR initR)]
  · exact zv_vretC dX5_init_51 rfl (by decide) (by decide) rfl (by omega) rfl
end
section
section ZHIST
variable {l : Launch} {X0 : State → Prop} {D : zD} {B : Nat} {own mn : String} {cc : ByteArray} {nL : Nat} {ret : Option FieldType} {R : Room} {post : zP} {k n : Nat} {L : zL} {nx : Nat} {pc : Nat} {lv : List (Option Value)} {st : List Value} {G : zG}
theorem zv_eqN {nx' : Nat} (h : nx = nx') (kk : zV l X0 D B own mn cc nL ret R post k n L nx' pc lv st G) : zV l X0 D B own mn cc nL ret R post k n L nx pc lv st G := h ▸ kk
theorem zk_cu {k1 n1 : Nat} {L1 : zL} {nx1 : Nat} {Q : zG → Prop} {mc ms : Nat} (kk : ∀ G1, Q G1 → zV l X0 D B own mn cc nL ret R post (k1 + mc) (n1 + ms) L1 nx1 (pc + 3) lv st G1) : ∀ (v : Option Value) (L' : zL) (nx' : Nat) (G' : zG), zU L1 nx1 Q v L' nx' G' → zV l X0 D B own mn cc nL ret R post (k1 + mc) (n1 + ms) L' nx' (pc + 3) lv (v.toList ++ st) G' := by
  rintro _ _ _ _ ⟨rfl, rfl, rfl, h⟩
  exact kk _ h
end ZHIST
/-- k states in a row -/
def zsL (s : Nat) : Nat → zL
  | 0 => []
  | k + 1 => zsL s k ++ [(s + 15 * k, 2), (s + 15 * k + 3, 3), (s + 15 * k + 7, 3), (s + 15 * k + 11, 3)]
theorem mem_zsL {s y t : Nat} : ∀ {k : Nat}, (y, t) ∈ zsL s k ↔ ∃ j, j < k ∧ ((y = s + 15 * j ∧ t = 2) ∨ (t = 3 ∧ (y = s + 15 * j + 3 ∨ y = s + 15 * j + 7 ∨ y = s + 15 * j + 11)))
  | 0 => by simp [zsL]
  | k + 1 => by
    unfold zsL
    rw [List.mem_append, mem_zsL (k := k)]
    simp only [List.mem_cons, Prod.mk.injEq, List.not_mem_nil, or_false]
    constructor
    · rintro (⟨j, hj, h⟩ | h | h | h | h)
      · exact ⟨j, by omega, h⟩
      · exact ⟨k, by omega, Or.inl h⟩
      · exact ⟨k, by omega, Or.inr ⟨h.2, Or.inl h.1⟩⟩
      · exact ⟨k, by omega, Or.inr ⟨h.2, Or.inr (Or.inl h.1)⟩⟩
      · exact ⟨k, by omega, Or.inr ⟨h.2, Or.inr (Or.inr h.1)⟩⟩
    · rintro ⟨j, hj, h⟩
      by_cases e : j = k
      · subst e
        rcases h with h | ⟨h1, h | h | h⟩
        · exact Or.inr (Or.inl h)
        · exact Or.inr (Or.inr (Or.inl ⟨h, h1⟩))
        · exact Or.inr (Or.inr (Or.inr (Or.inl ⟨h, h1⟩)))
        · exact Or.inr (Or.inr (Or.inr (Or.inr ⟨h, h1⟩)))
      · exact Or.inl ⟨j, by omega, h⟩
theorem zsL_lt {s k : Nat} : ∀ b ∈ zsL s k, s ≤ b.1 ∧ b.1 < s + 15 * k := by
  rintro ⟨y, t⟩ hb
  obtain ⟨j, hj, h⟩ := mem_zsL.mp hb
  dsimp only
  omega
theorem zsL_fun {s k y t u : Nat} (h1 : (y, t) ∈ zsL s k) (h2 : (y, u) ∈ zsL s k) : t = u := by
  obtain ⟨j, hj, a⟩ := mem_zsL.mp h1
  obtain ⟨i, hi, b⟩ := mem_zsL.mp h2
  omega
theorem zsL_St {s k j : Nat} {L : zL} (h : ∀ b ∈ zsL s k, b ∈ L) (hj : j < k) : zSt L (s + 15 * j) := by
  refine ⟨h _ (mem_zsL.mpr ⟨j, hj, Or.inl ⟨rfl, rfl⟩⟩), fun i hi => h _ (mem_zsL.mpr ⟨j, hj, Or.inr ⟨rfl, ?_⟩⟩)⟩
  omega
theorem zar_hist {h : Nat} {f g : Nat → Int32} (hf : f = fun j => if j < 7 then nI (1 + 15 * j) else 0) : zar (h + 1) 7 0 0 0 f = zar h 7 3 2 15 g := by
  subst hf
  funext j
  unfold zar
  by_cases hj : j < 7
  · rw [if_pos hj, if_pos hj, if_pos rfl, if_neg (by decide), Nat.zero_add]
    dsimp only
    rw [if_pos hj, zdr_l (by omega) (by omega)]
    congr 1
    omega
  · rw [if_neg hj, if_neg hj]
/-- the heap while a history's states are laid: i of them stand -/
def zHP (G0 : zG) (h i : Nat) (G : zG) : Prop := G h = upd (fun _ => 0) 0 (nI 1) ∧ (G (h + 1) = fun j => if j < i then nI (1 + 15 * j) else 0) ∧ (∀ j, j < i → stOK G (h + 2 + 15 * j) initR) ∧ ∀ y, y < h → G y = G0 y
def zHQ (G0 : zG) (h : Nat) (G : zG) : Prop := G h 1 = 0 ∧ G h 2 = 0 ∧ (∀ j, j < 7 → stOK G (h + (2 + 15 * j)) initR) ∧ ∀ y, y < h → G y = G0 y
theorem zHP_s {G0 G : zG} {h i : Nat} (hp : zHP G0 h i G) (hi : i < 7) : zHP G0 h (i + 1) (zst (stPut (zst G (h + 2 + 15 * i) fun _ => 0) (h + 2 + 15 * i) initR) (h + 1) (upd (stPut (zst G (h + 2 + 15 * i) fun _ => 0) (h + 2 + 15 * i) initR (h + 1)) i (nI (h + 2 + 15 * i - (h + 1))))) := by
  obtain ⟨p1, p2, p3, p4⟩ := hp
  have hF : ∀ y, y < h + 2 + 15 * i → stPut (zst G (h + 2 + 15 * i) fun _ => 0) (h + 2 + 15 * i) initR y = G y := fun y hy => by rw [stPut_ne _ _ (by omega), zst_ne _ _ (by omega)]
  refine ⟨by rw [zst_ne _ _ (by omega), hF _ (by omega)]; exact p1, ?_, fun j hj => ?_, fun y hy => by rw [zst_ne _ _ (by omega), hF _ (by omega)]; exact p4 y hy⟩
  · rw [zst_same, hF _ (by omega), p2]
    funext j
    simp only [upd]
    by_cases e : j = i
    · subst e
      rw [if_pos rfl, if_pos (by omega), show h + 2 + 15 * j - (h + 1) = 1 + 15 * j by omega]
    · rw [if_neg e]
      by_cases e2 : j < i
      · rw [if_pos e2, if_pos (by omega)]
      · rw [if_neg e2, if_neg (by omega)]
  · by_cases e : j = i
    · subst e
      exact stOK_of (stPut_OK _ _ _) (fun y g1 g2 => zst_ne _ _ (by omega))
    · exact stOK_of (p3 j (by omega)) (fun y g1 g2 => by rw [zst_ne _ _ (by omega), hF _ (by omega)])
theorem zHP_end {G0 G : zG} {h : Nat} (hp : zHP G0 h 7 G) : zHQ G0 h G := by
  obtain ⟨p1, p2, p3, p4⟩ := hp
  exact ⟨by rw [p1]; rfl, by rw [p1]; rfl, fun j hj => by rw [← Nat.add_assoc]; exact p3 j hj, p4⟩
def zhL (h : Nat) : zL := (h, 6) :: zsL (h + 2) 7
theorem zhL_fun {h nx : Nat} (hn : h + 107 ≤ nx) : zfun (zhL h) nx := by
  refine ⟨fun y t u h1 h2 => ?_, fun b hb => ?_⟩
  · rcases List.mem_cons.mp h1 with h1 | h1 <;> rcases List.mem_cons.mp h2 with h2 | h2
    · rw [Prod.mk.injEq] at h1 h2; omega
    · have := zsL_lt _ h2; rw [Prod.mk.injEq] at h1; dsimp only at this; omega
    · have := zsL_lt _ h1; rw [Prod.mk.injEq] at h2; dsimp only at this; omega
    · exact zsL_fun h1 h2
  · rcases List.mem_cons.mp hb with hb | hb
    · rw [hb]; dsimp only; omega
    · have := zsL_lt _ hb; omega
theorem zhL_ge {h : Nat} : ∀ b ∈ zhL h, h ≤ b.1 := fun b hb => by
  rcases List.mem_cons.mp hb with hb | hb
  · rw [hb]; exact Nat.le_refl _
  · have := zsL_lt _ hb; omega
theorem zhL_lt {h : Nat} : ∀ b ∈ zhL h, b.1 < h + 107 := fun b hb => (zhL_fun (Nat.le_refl _)).2 b hb
theorem zhL_Hi {h : Nat} {L : zL} (hs : ∀ b ∈ zhL h, b ∈ L) : zHi L h := ⟨hs _ List.mem_cons_self, fun j hj => by
  have := zsL_St (s := h + 2) (k := 7) (L := L) (fun b hb => hs _ (List.mem_cons_of_mem _ hb)) hj
  rwa [Nat.add_assoc] at this⟩
end
section
set_option maxRecDepth 100000 in
set_option maxHeartbeats 4000000 in
theorem lp_X2_init (l : Launch) (D : zD) (B : Nat) {L0 : zL} {G0 : zG} {h : Nat} (hB : B ≤ h) (hL : ∀ b ∈ L0, b.1 < h) : ∀ i : Nat, i ≤ 7 → ∀ (G : zG) (nx : Nat), nx = h + 2 + 15 * i → zHP G0 h i G → zV l (fun _ => True) D B RX2 "<init>" cX2_init 2 none (zrm 3 53 106 1701) (fun v L' nx' G' k n => (zU (L0 ++ zhL h) (h + 107) (zHQ G0 h)) v L' nx' G' ∧ k ≤ 106 ∧ n ≤ 1701) (1 + 15 * i) (7 + 242 * i) (L0 ++ [(h, 12), (h + 1, 30107)] ++ zsL (h + 2) i) nx 15 [some (.ref h), some (.int (nI i))] [] G := by
  refine zloop 7 (fun i hi ih G nx hnx hp => ?_)
  subst hnx
  have hm1 : (h, 12) ∈ (L0 ++ [(h, 12), (h + 1, 30107)] ++ zsL (h + 2) i) := by simp
  have hm2 : (h + 1, 30107) ∈ (L0 ++ [(h, 12), (h + 1, 30107)] ++ zsL (h + 2) i) := by simp
  have hfr : ∀ b ∈ (L0 ++ [(h, 12), (h + 1, 30107)] ++ zsL (h + 2) i), b.1 < h + 2 + 15 * i := by
    intro b hb
    rcases List.mem_append.mp hb with hb | hb
    · rcases List.mem_append.mp hb with hb | hb
      · have := hL b hb; omega
      · simp at hb
        rcases hb with hb | hb <;> subst hb <;> dsimp only <;> omega
    · exact (zsL_lt b hb).2
  refine zv_iload_n dX2_init_15 rfl ?_
  refine zv_bipush (v := 7) dX2_init_16 (by decide) ?_
  refine zv_icmp_ge (tgt := 40) dX2_init_18 (by decide) (fun c18 => ?_) (fun c18 => ?_)
  · have e : i = 7 := by have := zge_of (N := 7) (by decide) (by omega) rfl c18; omega
    subst e
    refine zv_lay (L0 := L0) (X := (h, 12) :: (h + 1, 30107) :: zsL (h + 2) 7) (Y := zhL h) (q := h) (G' := G) hL (by simp) (fun y hy => rfl) (fun D => ?_) (zhL_fun (by omega)) zhL_ge (by omega) ?_
    · obtain ⟨p1, p2, p3, p4⟩ := hp
      unfold zhL
      rw [zcs_cons, zcs_cons, zcs_cons]
      simp [zbT, zce, zfl, zfv, zac, p1, upd, zdr_l, zdr_0, va_rf, Nat.add_assoc, zar_hist (h := h) (g := upd (fun _ => 0) 0 (nI 1)) p2]
    · exact zv_vret dX2_init_40 rfl ⟨⟨rfl, rfl, by omega, zHP_end hp⟩, by omega, by omega⟩
  · have hlt : i < 7 := zlt_of (N := 7) (by decide) (by omega) rfl c18
    refine zv_aload_n dX2_init_21 rfl ?_
    refine zv_getD (t := 12) (a := h + 1) hm1 rfl fl_X2_13 rfl (by rw [hp.1]; exact zdr_l (by decide) (by decide)) dX2_init_22 ?_
    refine zv_iload_n dX2_init_25 rfl ?_
    refine zv_new (t := 15) (by omega) kl_X2_11 inst_X5 ini_X5 rfl iwX5 tyX5_ok rfl hfs_X5 (by show _ ≤ 106; omega) (by show _ ≤ 1701; omega) dX2_init_26 ?_
    refine zv_dup dX2_init_29 rfl ?_
    refine zv_callI (m_X5_init l D B (by omega) hfr (by rw [zst_same])) ml_X2_17 in_X5_init rfl rfl rfl (Nat.le_of_ble_eq_true rfl) dX2_init_30 ⟨Nat.le_of_ble_eq_true rfl, Nat.le_of_ble_eq_true rfl⟩ ⟨by show _ ≤ 106; omega, by show _ ≤ 1701; omega⟩ (zk_c ?_)
    refine zv_aast (q := h + 1) (r := 0) (i := 0) (j0 := i) (t := 30107) (tx := 2) (by decide) (by decide) (List.mem_append_left _ hm2) rfl (zix_nI (by omega) (by decide)) (by simp) rfl rfl rfl (by omega) (by omega) dX2_init_33 ?_
    rw [show 0 + i = i from Nat.zero_add i]
    refine zv_iinc1 dX2_init_34 rfl (by decide) rfl ?_
    refine zv_goto (tgt := 15) dX2_init_37 (by decide) ?_
    rw [nI_1]
    refine zv_eqL (L' := L0 ++ [(h, 12), (h + 1, 30107)] ++ zsL (h + 2) (i + 1)) (by simp [zsL]) ?_
    exact zv_widen (by omega) (by omega) (ih hlt _ _ (by omega) (zHP_s hp hlt))

set_option maxRecDepth 100000 in
set_option maxHeartbeats 4000000 in
theorem m_X2_init (l : Launch) (D : zD) (B : Nat) {L0 : zL} {G : zG} {h : Nat} (hB : B ≤ h) (hL : ∀ b ∈ L0, b.1 < h) (h0 : G h = fun _ => 0) : zMet l D B yX2_init cX2_init 2 none 3 53 106 1701 [.ref h] (L0 ++ [(h, 12)]) (h + 1) G (zU (L0 ++ zhL h) (h + 107) (zHQ G h)) := by
  refine zMet_of (own := RX2) (mn := "<init>") [some (.ref h), none] (by decide +kernel) rfl rfl rfl (Nat.le_of_ble_eq_true rfl) ?_
  show zV l (fun _ => True) D B RX2 "<init>" cX2_init 2 none (zrm 3 53 106 1701) (fun v L' nx' G' k n => (zU (L0 ++ zhL h) (h + 107) (zHQ G h)) v L' nx' G' ∧ k ≤ 106 ∧ n ≤ 1701) 0 0 (L0 ++ [(h, 12)]) (h + 1) 0 [some (.ref h), none] [] G
  refine zv_aload_n dX2_init_0 rfl ?_
  refine zv_objInit ol_X2_3 zobj_in zobj_code dX2_init_1 (by decide) (by decide) ?_
  refine zv_aload_n dX2_init_4 rfl ?_
  refine zv_bipush (v := 7) dX2_init_5 (by decide) ?_
  refine zv_anew (N := 7) (t := 30107) (ta := 3) (by omega) rfl (by decide) (by decide) kl_X2_11 zao_X5 (by decide) (by decide) (by decide) rfl (Nat.le_of_ble_eq_true rfl) (Nat.le_of_ble_eq_true rfl) dX2_init_7 ?_
  refine zv_putF (t := 12) (C2 := "") (by simp) rfl fl_X2_13 ft_X2_0 rfl rfl (by first | exact Or.inr ⟨_, rfl⟩ | exact Or.inl ⟨_, rfl⟩) (by omega) (by omega) dX2_init_10 ?_
  refine zv_iconst (v := 0) dX2_init_13 (by decide) ?_
  refine zv_istore_n dX2_init_14 (by decide) rfl ?_
  refine zv_eqL (L' := L0 ++ [(h, 12), (h + 1, 30107)] ++ zsL (h + 2) 0) (by simp [zsL]) ?_
  exact lp_X2_init l D B hB hL 0 (by omega) _ _ rfl ⟨by simp [zst, h0], by simp [zst], fun j hj => by omega, fun y hy => by simp only [zst]; repeat rw [if_neg (by omega)]⟩
end
section
section ZBORN
variable {l : Launch} {X0 : State → Prop} {D : zD} {B : Nat} {own mn : String} {cc : ByteArray} {nL : Nat} {ret : Option FieldType} {R : Room} {post : zP} {k n : Nat} {L : zL} {nx : Nat} {pc : Nat} {lv : List (Option Value)} {st : List Value} {G : zG}
theorem zv_abs {P : zG → Prop} (h : P G) (kk : ∀ G', P G' → zV l X0 D B own mn cc nL ret R post k n L nx pc lv st G') : zV l X0 D B own mn cc nL ret R post k n L nx pc lv st G := kk G h
end ZBORN
theorem lt_app2 {A Y : zL} {q : Nat} (h : ∀ b ∈ A, b.1 < q) (h2 : ∀ b ∈ Y, b.1 < q) : ∀ b ∈ A ++ Y, b.1 < q := by
  intro b hb
  rcases List.mem_append.mp hb with hb | hb
  · exact h b hb
  · exact h2 b hb
theorem lt_1 {a t q : Nat} (h : a < q) : ∀ b ∈ [(a, t)], b.1 < q := by
  intro b hb
  rw [List.mem_singleton.mp hb]
  exact h
theorem lt_4 {q : Nat} : ∀ b ∈ [(q, 2), (q + 3, 3), (q + 7, 3), (q + 11, 3)], b.1 < q + 15 := by
  intro b hb
  simp at hb
  rcases hb with hb | hb | hb | hb <;> subst hb <;> dsimp only <;> omega
theorem zfun_4 {q nx : Nat} (h : q + 15 ≤ nx) : zfun [(q, 2), (q + 3, 3), (q + 7, 3), (q + 11, 3)] nx := by
  refine ⟨fun y t u h1 h2 => ?_, fun b hb => ?_⟩
  · simp at h1 h2; omega
  · have := lt_4 b hb; omega
theorem zfun_app {A Y : zL} {m nx : Nat} (h1 : zfun A nx) (h2 : zfun Y nx) (h3 : ∀ a ∈ A, a.1 < m) (h4 : ∀ b ∈ Y, m ≤ b.1) : zfun (A ++ Y) nx := by
  refine ⟨fun y t u g1 g2 => ?_, fun b hb => ?_⟩
  · rcases List.mem_append.mp g1 with g1 | g1 <;> rcases List.mem_append.mp g2 with g2 | g2
    · exact h1.1 _ _ _ g1 g2
    · have := h3 _ g1; have := h4 _ g2; dsimp only at *; omega
    · have := h3 _ g2; have := h4 _ g1; dsimp only at *; omega
    · exact h2.1 _ _ _ g1 g2
  · rcases List.mem_append.mp hb with hb | hb
    · exact h1.2 _ hb
    · exact h2.2 _ hb
theorem ge_1 {a t q : Nat} (h : q ≤ a) : ∀ b ∈ [(a, t)], q ≤ b.1 := by
  intro b hb
  rw [List.mem_singleton.mp hb]
  exact h
/-- what a fresh object holds behind it -/
def zxT (x : Nat) : zL := [(x + 1, 2), (x + 1 + 3, 3), (x + 1 + 7, 3), (x + 1 + 11, 3)] ++ zhL (x + 16) ++ [(x + 123, 30102)] ++ [(x + 124, 7)] ++ [(x + 126, 4)] ++ [(x + 127, 3)] ++ [(x + 131, 5)]
def zxL (x : Nat) : zL := [(x, 1)] ++ zxT x
theorem zxT_ge {x : Nat} : ∀ b ∈ zxT x, x + 1 ≤ b.1 := by
  intro b hb
  simp only [zxT, List.mem_append] at hb
  rcases hb with (((((hb | hb) | hb) | hb) | hb) | hb) | hb
  · simp at hb
    rcases hb with hb | hb | hb | hb <;> subst hb <;> dsimp only <;> omega
  · have := zhL_ge b hb; omega
  all_goals (rw [List.mem_singleton.mp hb]; dsimp only; omega)
theorem zxT_fun {x nx : Nat} (hn : x + 134 ≤ nx) : zfun (zxT x) nx := by
  unfold zxT
  refine zfun_app (m := x + 131) (zfun_app (m := x + 127) (zfun_app (m := x + 126) (zfun_app (m := x + 124) (zfun_app (m := x + 123) (zfun_app (m := x + 16) (zfun_4 (by omega)) (zhL_fun (by omega)) (lt_ge lt_4 (by omega)) zhL_ge) (zfun_1 (by omega)) ?_ (ge_1 (by omega))) (zfun_1 (by omega)) ?_ (ge_1 (by omega))) (zfun_1 (by omega)) ?_ (ge_1 (by omega))) (zfun_1 (by omega)) ?_ (ge_1 (by omega))) (zfun_1 (by omega)) ?_ (ge_1 (by omega))
  all_goals repeat first | exact lt_1 (by omega) | exact lt_ge lt_4 (by omega) | exact lt_ge zhL_lt (by omega) | refine lt_app2 ?_ ?_
theorem zxL_fun {x nx : Nat} (hn : x + 134 ≤ nx) : zfun (zxL x) nx := zfun_app (m := x + 1) (zfun_1 (by omega)) (zxT_fun hn) (lt_1 (by omega)) zxT_ge
theorem zxL_ge {x : Nat} : ∀ b ∈ zxL x, x ≤ b.1 := by
  intro b hb
  rcases List.mem_append.mp hb with hb | hb
  · rw [List.mem_singleton.mp hb]; exact Nat.le_refl _
  · have := zxT_ge b hb; omega
theorem zxL_BD {L : zL} {x : Nat} (h : ∀ b ∈ zxL x, b ∈ L) : zBD L x := by
  have hT : ∀ b ∈ zxT x, b ∈ L := fun b hb => h b (List.mem_append_right _ hb)
  refine ⟨h _ (by simp [zxL]), ⟨hT _ (by simp [zxT]), fun i hi => hT _ ?_⟩, zhL_Hi (fun b hb => hT _ (by simp [zxT, hb])), hT _ (by simp [zxT]), hT _ (by simp [zxT]), hT _ (by simp [zxT]), hT _ (by simp [zxT]), hT _ (by simp [zxT])⟩
  match i, hi with
  | 0, _ => simp [zxT]
  | 1, _ => simp [zxT]
  | 2, _ => simp [zxT]
/-- the places where its parts begin -/
def bsX : Nat → Nat
  | 0 => 1
  | 1 => 16
  | 2 => 123
  | 3 => 124
  | 4 => 126
  | 5 => 127
  | 6 => 131
  | _ => 134
def blkX (x : Nat) (G : zG) : Nat → Prop
  | 0 => stOK G (x + 1) initR
  | 1 => G (x + 16) 1 = 0 ∧ G (x + 16) 2 = 0 ∧ ∀ j, j < 7 → stOK G (x + 16 + (2 + 15 * j)) initR
  | 2 => G (x + 123) = fun _ => 0
  | 3 => G (x + 124) = fun _ => 0
  | 4 => True
  | 5 => G (x + 127) = fun _ => 0
  | 6 => G (x + 131) = fun _ => 0
  | _ => True
theorem blkX_cg {x i : Nat} {G G' : zG} (h : ∀ y, x + bsX i ≤ y → y < x + bsX (i + 1) → G' y = G y) (hb : blkX x G i) : blkX x G' i := by
  match i with
  | 0 =>
    have h : ∀ y, x + 1 ≤ y → y < x + 16 → G' y = G y := h
    exact stOK_of hb (fun y g1 g2 => h y (by omega) (by omega))
  | 1 =>
    have h : ∀ y, x + 16 ≤ y → y < x + 123 → G' y = G y := h
    exact ⟨by rw [h _ (by omega) (by omega)]; exact hb.1, by rw [h _ (by omega) (by omega)]; exact hb.2.1, fun j hj => stOK_of (hb.2.2 j hj) (fun y g1 g2 => h y (by omega) (by omega))⟩
  | 2 =>
    have h : ∀ y, x + 123 ≤ y → y < x + 124 → G' y = G y := h
    exact (h _ (by omega) (by omega)).trans hb
  | 3 =>
    have h : ∀ y, x + 124 ≤ y → y < x + 126 → G' y = G y := h
    exact (h _ (by omega) (by omega)).trans hb
  | 4 => trivial
  | 5 =>
    have h : ∀ y, x + 127 ≤ y → y < x + 131 → G' y = G y := h
    exact (h _ (by omega) (by omega)).trans hb
  | 6 =>
    have h : ∀ y, x + 131 ≤ y → y < x + 134 → G' y = G y := h
    exact (h _ (by omega) (by omega)).trans hb
  | _ + 7 => trivial
def zXP (x : Nat) (G0 : zG) (k : Nat) (G : zG) : Prop := (∀ y, y < x → G y = G0 y) ∧ (G x = fun j => if j < k then nI (bsX j) else 0) ∧ ∀ i, i < k → blkX x G i
theorem bsX_le : ∀ k, k < 7 → ∀ i, i < k → bsX (i + 1) ≤ bsX k ∧ 0 < bsX i := by decide
theorem bsX_0 : ∀ k, k < 7 → 0 < bsX k := by decide
theorem zXP_step {x k : Nat} {G0 G G1 : zG} (h : zXP x G0 k G) (hk : k < 7) (hF : ∀ y, y < x + bsX k → G1 y = G y) (hb : blkX x G1 k) : zXP x G0 (k + 1) (zst G1 x (upd (G1 x) k (nI (bsX k)))) := by
  obtain ⟨h1, h2, h3⟩ := h
  have hk0 := bsX_0 k hk
  refine ⟨fun y hy => by rw [zst_ne _ _ (by omega), hF _ (by omega)]; exact h1 y hy, ?_, fun i hi => ?_⟩
  · rw [zst_same, hF _ (by omega), h2]
    funext j
    simp only [upd]
    by_cases e : j = k
    · subst e; rw [if_pos rfl, if_pos (by omega)]
    · rw [if_neg e]
      by_cases e2 : j < k
      · rw [if_pos e2, if_pos (by omega)]
      · rw [if_neg e2, if_neg (by omega)]
  · by_cases e : i = k
    · subst e
      exact blkX_cg (fun y g1 g2 => zst_ne _ _ (by omega)) hb
    · have := bsX_le k hk i (by omega)
      exact blkX_cg (fun y g1 g2 => by rw [zst_ne _ _ (by omega), hF _ (by omega)]) (h3 i (by omega))
/-- a fresh object is what it ought to be -/
theorem zXP_RC {L : zL} {x nx : Nat} {G0 G : zG} (h : zXP x G0 7 G) (hb : ∀ b ∈ zxL x, b ∈ L) : zRC L x nx G initR (fun _ => initR) 0 (fun _ => none) (fun _ => 0) 0 := by
  have hB := zxL_BD hb
  have b0 := h.2.2 0 (by decide)
  have b1 := h.2.2 1 (by decide)
  have b2 := h.2.2 2 (by decide)
  have b3 := h.2.2 3 (by decide)
  have b5 := h.2.2 5 (by decide)
  have b6 := h.2.2 6 (by decide)
  refine ⟨hB, ⟨b0, fun j hj => by rw [show G (x + 127) = fun _ => 0 from b5], fun j hj => by rw [show G (x + 131) = fun _ => 0 from b6]⟩, ⟨0, by decide, b1.1, b1.2.1, by decide, fun j hj => ⟨_, b1.2.2 j hj⟩, fun k hk => absurd hk (by omega)⟩, ⟨fun _ => 0, fun j hj => Or.inl ⟨rfl, by rw [show G (x + 123) = fun _ => 0 from b2]⟩, fun r0 r1 h0 => by cases h0⟩, ⟨hB.2.2.2.2.1, by omega, by rw [show G (x + 124) = fun _ => 0 from b3]; rfl, fun i hi => absurd hi (by omega)⟩⟩
def initM : Nat → Int32 := fun j => if j = 18 then 1 else 0
theorem zai_M : zai 228 0 (upd (fun _ => 0) 0 1) = zai 228 18 initM := by
  funext j
  simp only [zai, upd, initM]
  grind
theorem zai_M2 {n off : Nat} (h : 18 < off) : zai n off initM = fun _ => 0 := by
  funext j
  simp only [zai, initM]
  grind
theorem inM (k : Nat) (h : k < 18) : initM k = 0 := by simp only [initM]; rw [if_neg (by omega)]
end
section
set_option maxRecDepth 100000 in
set_option maxHeartbeats 4000000 in
theorem m_X6_init (l : Launch) (D : zD) (B : Nat) {L : zL} {G : zG} {x : Nat} (hB : B ≤ x) (hL : ∀ b ∈ L, b.1 < x) (h0 : G x = fun _ => 0) : zMet l D B yX6_init cX6_init 1 none 4 74 133 2161 [.ref x] (L ++ [(x, 16)]) (x + 1) G (zU (L ++ zxL x) (x + 134) (zXP x G 7)) := by
  refine zMet_of (own := RX6) (mn := "<init>") [some (.ref x)] (by decide +kernel) rfl rfl rfl (Nat.le_of_ble_eq_true rfl) ?_
  show zV l (fun _ => True) D B RX6 "<init>" cX6_init 1 none (zrm 4 74 133 2161) (fun v L' nx' G' k n => (zU (L ++ zxL x) (x + 134) (zXP x G 7)) v L' nx' G' ∧ k ≤ 133 ∧ n ≤ 2161) 0 0 (L ++ [(x, 16)]) (x + 1) 0 [some (.ref x)] [] G
  have hG : zXP x G 0 G := ⟨fun y _ => rfl, by rw [h0]; funext j; rw [if_neg (by omega)], fun i hi => by omega⟩
  refine zv_aload_n dX6_init_0 rfl ?_
  refine zv_objInit ol_X6_1 zobj_in zobj_code dX6_init_1 (by decide) (by decide) ?_
  generalize hP : zU (L ++ zxL x) (x + 134) (zXP x G 7) = P
  refine zv_aload_n dX6_init_4 rfl ?_
  refine zv_new (t := 15) (by omega) kl_X6_7 inst_X5 ini_X5 rfl iwX5 tyX5_ok rfl hfs_X5 (Nat.le_of_ble_eq_true rfl) (Nat.le_of_ble_eq_true rfl) dX6_init_5 ?_
  refine zv_dup dX6_init_8 rfl ?_
  refine zv_callI (m_X5_init l D B (by omega) (by repeat first | exact lt_ge hL (by omega) | exact lt_1 (by omega) | exact lt_ge lt_4 (by omega) | exact lt_ge zhL_lt (by omega) | refine lt_app2 ?_ ?_) (by rw [zst_same])) ml_X6_9 in_X5_init rfl rfl rfl (Nat.le_of_ble_eq_true rfl) dX6_init_9 ⟨Nat.le_of_ble_eq_true rfl, Nat.le_of_ble_eq_true rfl⟩ (by exact ⟨Nat.le_of_ble_eq_true rfl, Nat.le_of_ble_eq_true rfl⟩) (zk_c ?_)
  refine zv_putF (t := 16) (C2 := "") (by simp) rfl fl_X6_10 ft_X6_0 rfl rfl (by first | exact Or.inr ⟨_, rfl⟩ | exact Or.inl ⟨_, rfl⟩) (by omega) (by omega) dX6_init_12 ?_
  rw [show x + 1 - x = 1 by omega]
  refine zv_eqN (show x + 1 + 15 = x + 16 from rfl) ?_
  refine zv_abs (zXP_step hG (k := 0) (by decide) (fun y (hy : y < x + 1) => by rw [stPut_ne _ _ (by omega), zst_ne _ _ (by omega)]) (stPut_OK _ _ _)) fun G hG => ?_
  refine zv_aload_n dX6_init_15 rfl ?_
  refine zv_new (t := 12) (by omega) kl_X6_16 inst_X2 ini_X2 rfl iwX2 tyX2_ok rfl hfs_X2 (Nat.le_of_ble_eq_true rfl) (Nat.le_of_ble_eq_true rfl) dX6_init_16 ?_
  refine zv_dup dX6_init_19 rfl ?_
  refine zv_callI (m_X2_init l D B (by omega) (by repeat first | exact lt_ge hL (by omega) | exact lt_1 (by omega) | exact lt_ge lt_4 (by omega) | exact lt_ge zhL_lt (by omega) | refine lt_app2 ?_ ?_) (by rw [zst_same])) ml_X6_18 in_X2_init rfl rfl rfl (Nat.le_of_ble_eq_true rfl) dX6_init_20 ⟨Nat.le_of_ble_eq_true rfl, Nat.le_of_ble_eq_true rfl⟩ (by exact ⟨Nat.le_of_ble_eq_true rfl, Nat.le_of_ble_eq_true rfl⟩) (zk_cu fun G1 hQ => ?_)
  refine zv_putF (t := 16) (C2 := "") (by simp) rfl fl_X6_19 ft_X6_1 rfl rfl (by first | exact Or.inr ⟨_, rfl⟩ | exact Or.inl ⟨_, rfl⟩) (by omega) (by omega) dX6_init_23 ?_
  rw [show x + 16 - x = 16 by omega]
  refine zv_eqN (show x + 16 + 107 = x + 123 from rfl) ?_
  refine zv_abs (zXP_step hG (k := 1) (by decide) (fun y (hy : y < x + 16) => by rw [hQ.2.2.2 _ hy, zst_ne _ _ (by omega)]) (⟨hQ.1, hQ.2.1, hQ.2.2.1⟩)) fun G hG => ?_
  refine zv_aload_n dX6_init_26 rfl ?_
  refine zv_iconst (v := 2) dX6_init_27 (by decide) ?_
  refine zv_anew (N := 2) (t := 30102) (ta := 3) (by omega) rfl (by decide) (by decide) kl_X6_7 zao_X5 (by decide) (by decide) (by decide) rfl (Nat.le_of_ble_eq_true rfl) (Nat.le_of_ble_eq_true rfl) dX6_init_28 ?_
  refine zv_putF (t := 16) (C2 := "") (by simp) rfl fl_X6_23 ft_X6_2 rfl rfl (by first | exact Or.inr ⟨_, rfl⟩ | exact Or.inl ⟨_, rfl⟩) (by omega) (by omega) dX6_init_31 ?_
  rw [show x + 123 - x = 123 by omega]
  refine zv_eqN (show x + 123 + 1 = x + 124 from rfl) ?_
  refine zv_abs (zXP_step hG (k := 2) (by decide) (fun y (hy : y < x + 123) => zst_ne _ _ (by omega)) (zst_same _ _ _)) fun G hG => ?_
  refine zv_aload_n dX6_init_34 rfl ?_
  refine zv_new (t := 13) (by omega) kl_X6_27 inst_X3 ini_X3 rfl iwX3 tyX3_ok rfl hfs_X3 (Nat.le_of_ble_eq_true rfl) (Nat.le_of_ble_eq_true rfl) dX6_init_35 ?_
  refine zv_dup dX6_init_38 rfl ?_
  refine zv_callIN (m_X3_init l D B (by omega) (by repeat first | exact lt_ge hL (by omega) | exact lt_1 (by omega) | exact lt_ge lt_4 (by omega) | exact lt_ge zhL_lt (by omega) | refine lt_app2 ?_ ?_) (by rw [zst_same])) ml_X6_29 in_X3_init rfl rfl rfl (Nat.le_of_ble_eq_true rfl) dX6_init_39 ⟨Nat.le_of_ble_eq_true rfl, Nat.le_of_ble_eq_true rfl⟩ (by exact ⟨Nat.le_of_ble_eq_true rfl, Nat.le_of_ble_eq_true rfl⟩) (zk_c ?_)
  refine zv_putF (t := 16) (C2 := "") (by simp) rfl fl_X6_30 ft_X6_3 rfl rfl (by first | exact Or.inr ⟨_, rfl⟩ | exact Or.inl ⟨_, rfl⟩) (by omega) (by omega) dX6_init_42 ?_
  rw [show x + 124 - x = 124 by omega]
  refine zv_eqN (show x + 124 + 2 = x + 126 from rfl) ?_
  refine zv_abs (zXP_step hG (k := 3) (by decide) (fun y (hy : y < x + 124) => zst_ne _ _ (by omega)) (zst_same _ _ _)) fun G hG => ?_
  refine zv_aload_n dX6_init_45 rfl ?_
  refine zv_new (t := 11) (by omega) kl_X6_34 inst_X1 ini_X1 rfl iwX1 tyX1_ok rfl hfs_X1 (Nat.le_of_ble_eq_true rfl) (Nat.le_of_ble_eq_true rfl) dX6_init_46 ?_
  refine zv_dup dX6_init_49 rfl ?_
  refine zv_callIN (m_X1_init l D B (by omega) (by repeat first | exact lt_ge hL (by omega) | exact lt_1 (by omega) | exact lt_ge lt_4 (by omega) | exact lt_ge zhL_lt (by omega) | refine lt_app2 ?_ ?_) (by rw [zst_same])) ml_X6_36 in_X1_init rfl rfl rfl (Nat.le_of_ble_eq_true rfl) dX6_init_50 ⟨Nat.le_of_ble_eq_true rfl, Nat.le_of_ble_eq_true rfl⟩ (by exact ⟨Nat.le_of_ble_eq_true rfl, Nat.le_of_ble_eq_true rfl⟩) (zk_c ?_)
  refine zv_putF (t := 16) (C2 := "") (by simp) rfl fl_X6_37 ft_X6_4 rfl rfl (by first | exact Or.inr ⟨_, rfl⟩ | exact Or.inl ⟨_, rfl⟩) (by omega) (by omega) dX6_init_53 ?_
  rw [show x + 126 - x = 126 by omega]
  refine zv_eqN (show x + 126 + 1 = x + 127 from rfl) ?_
  refine zv_abs (zXP_step hG (k := 4) (by decide) (fun y (hy : y < x + 126) => zst_ne _ _ (by omega)) (trivial)) fun G hG => ?_
  refine zv_aload_n dX6_init_56 rfl ?_
  refine zv_new (t := 10) (by omega) kl_X6_41 inst_X0 ini_X0 rfl iwX0 tyX0_ok rfl hfs_X0 (Nat.le_of_ble_eq_true rfl) (Nat.le_of_ble_eq_true rfl) dX6_init_57 ?_
  refine zv_dup dX6_init_60 rfl ?_
  refine zv_callIN (m_X0_init l D B (by omega) (by repeat first | exact lt_ge hL (by omega) | exact lt_1 (by omega) | exact lt_ge lt_4 (by omega) | exact lt_ge zhL_lt (by omega) | refine lt_app2 ?_ ?_) (by rw [zst_same])) ml_X6_43 in_X0_init rfl rfl rfl (Nat.le_of_ble_eq_true rfl) dX6_init_61 ⟨Nat.le_of_ble_eq_true rfl, Nat.le_of_ble_eq_true rfl⟩ (by exact ⟨Nat.le_of_ble_eq_true rfl, Nat.le_of_ble_eq_true rfl⟩) (zk_c ?_)
  refine zv_putF (t := 16) (C2 := "") (by simp) rfl fl_X6_44 ft_X6_5 rfl rfl (by first | exact Or.inr ⟨_, rfl⟩ | exact Or.inl ⟨_, rfl⟩) (by omega) (by omega) dX6_init_64 ?_
  rw [show x + 127 - x = 127 by omega]
  refine zv_eqN (show x + 127 + 4 = x + 131 from rfl) ?_
  refine zv_abs (zXP_step hG (k := 5) (by decide) (fun y (hy : y < x + 127) => zst_ne _ _ (by omega)) (zst_same _ _ _)) fun G hG => ?_
  refine zv_aload_n dX6_init_67 rfl ?_
  refine zv_new (t := 14) (by omega) kl_X6_48 inst_X4 ini_X4 rfl iwX4 tyX4_ok rfl hfs_X4 (Nat.le_of_ble_eq_true rfl) (Nat.le_of_ble_eq_true rfl) dX6_init_68 ?_
  refine zv_dup dX6_init_71 rfl ?_
  refine zv_callIN (m_X4_init l D B (by omega) (by repeat first | exact lt_ge hL (by omega) | exact lt_1 (by omega) | exact lt_ge lt_4 (by omega) | exact lt_ge zhL_lt (by omega) | refine lt_app2 ?_ ?_) (by rw [zst_same])) ml_X6_50 in_X4_init rfl rfl rfl (Nat.le_of_ble_eq_true rfl) dX6_init_72 ⟨Nat.le_of_ble_eq_true rfl, Nat.le_of_ble_eq_true rfl⟩ (by exact ⟨Nat.le_of_ble_eq_true rfl, Nat.le_of_ble_eq_true rfl⟩) (zk_c ?_)
  refine zv_putF (t := 16) (C2 := "") (by simp) rfl fl_X6_51 ft_X6_6 rfl rfl (by first | exact Or.inr ⟨_, rfl⟩ | exact Or.inl ⟨_, rfl⟩) (by omega) (by omega) dX6_init_75 ?_
  rw [show x + 131 - x = 131 by omega]
  refine zv_eqN (show x + 131 + 3 = x + 134 from rfl) ?_
  refine zv_abs (zXP_step hG (k := 6) (by decide) (fun y (hy : y < x + 131) => zst_ne _ _ (by omega)) (zst_same _ _ _)) fun G hG => ?_
  refine zv_lay (L0 := L) (X := (x, 16) :: zxT x) (Y := zxL x) (q := x) (G' := G) hL (by simp [zxT]) (fun y hy => rfl) (fun D => ?_) (zxL_fun (by omega)) zxL_ge (by omega) ?_
  · show zcs D ((x, 16) :: zxT x) G = zcs D ((x, 1) :: zxT x) G
    rw [zcs_cons, zcs_cons]
    congr 1
    simp [zbT, zce, zfl, zfv, hG.2.1, bsX, zdr_l, va_rf]
  · rw [← hP]
    exact zv_vret dX6_init_78 rfl ⟨⟨rfl, rfl, rfl, hG⟩, by decide, by decide⟩
end
section
/-! the law's own methods: the script is read by one of them -/
theorem cnt_s {z : Int32} {i : Nat} (h : i < 32) : nI (zcnt (zb z) i) + ((z >>> (nI i &&& 31)) &&& 1) = nI (zcnt (zb z) (i + 1)) := by
  rw [zb_test z h, bI_cnt, nI_add]
  rfl
def lX (B b S : Nat) (xs : Nat → Int32) : State → Prop := fun s => va_X b S xs s s.heap ∧ b < s.heap.size ∧ b < B
/-- some number of a kind is answered, nothing changes -/
def zEx (P : Int32 → Prop) (L : zL) (nx : Nat) (G : zG) : zQ := fun v L' nx' G' => ∃ z, v = some (.int z) ∧ P z ∧ L' = L ∧ nx' = nx ∧ G' = G
/-- a contract of a method that gets the script, too -/
def zMetS (l : Launch) (D : zD) (B : Nat) (y : MethodName) (cc : ByteArray) (nL : Nat) (ret : Option FieldType) (fr lo : Nat) (b S : Nat) (xs : Nat → Int32) (av : List Value) (L : zL) (nx : Nat) (G : zG) (post : zQ) : Prop :=
  Met l y (zws y cc nL ret) (zrm fr lo 0 0) (fun v U => v = av.toArray ∧ zW D B L nx G U.heap ∧ va_K D.1 vwCl (ztys D) U ∧ zNw U ∧ lX B b S xs U) (fun _ st o t => zQc D B post st o t) 0 0 (fun q => B ≤ q)
section ZLAW
variable {l : Launch} {D : zD} {B : Nat} {own mn : String} {cc : ByteArray} {nL : Nat} {ret : Option FieldType} {R : Room} {post : zP} {k n : Nat} {L : zL} {nx : Nat} {pc : Nat} {lv : List (Option Value)} {st : List Value} {G : zG} {b S : Nat} {xs : Nat → Int32}
theorem zv_sld {i : Nat} (hi : i < S) (hS : S < 2 ^ 31) (hd : decode cc pc = .ok (.iaload, 1)) (kk : zV l (lX B b S xs) D B own mn cc nL ret R post k n L nx (pc + 1) lv (.int (xs i) :: st) G) : zV l (lX B b S xs) D B own mn cc nL ret R post k n L nx pc lv (.int (nI i) :: .ref b :: st) G := by
  intro p e s m args below meth c H locs ls Q hX hR hl hW hSS
  obtain ⟨hXX, hbl, hbB⟩ := hX.2.2.2.2.2.2.2.2
  refine va_sld hX.1 hX.2.1 hXX hbl (show ¬ B ≤ b by omega) hSS (vp_in_nI hi hS) hd ?_
  rw [nI_clamp (by omega)]
  exact kk p e s m args below meth c H locs ls Q hX hR hl hW hSS
theorem zv_slen (hd : decode cc pc = .ok (.arraylength, 1)) (kk : zV l (lX B b S xs) D B own mn cc nL ret R post k n L nx (pc + 1) lv (.int (nI S) :: st) G) : zV l (lX B b S xs) D B own mn cc nL ret R post k n L nx pc lv (.ref b :: st) G := by
  intro p e s m args below meth c H locs ls Q hX hR hl hW hSS
  obtain ⟨hXX, hbl, hbB⟩ := hX.2.2.2.2.2.2.2.2
  refine va_slen hX.1 hX.2.1 hXX hbl (show ¬ B ≤ b by omega) hSS hd ?_
  exact kk p e s m args below meth c H locs ls Q hX hR hl hW hSS
theorem zk_x {X0 : State → Prop} {P : Int32 → Prop} (kk : ∀ z, P z → zV l X0 D B own mn cc nL ret R post k n L nx (pc + 3) lv (.int z :: st) G) : ∀ (v : Option Value) (L' : zL) (nx' : Nat) (G' : zG), zEx P L nx G v L' nx' G' → zV l X0 D B own mn cc nL ret R post (k + 0) (n + 0) L' nx' (pc + 3) lv (v.toList ++ st) G' := by
  rintro _ _ _ _ ⟨z, rfl, h, rfl, rfl, rfl⟩
  exact kk z h
theorem zMetS_of {y : MethodName} {fr lo : Nat} {av : List Value} {q : zQ} (lv0 : List (Option Value))
    (hy : plainFor y = true) (hown : y.cls = own) (hmn : y.name = mn) (hlv : zen av ++ List.replicate (nL - (zen av).length) none = lv0) (hlen : (zen av).length ≤ nL)
    (body : zV l (lX B b S xs) D B own mn cc nL ret (zrm fr lo 0 0) (fun v L' nx' G' k n => q v L' nx' G' ∧ k ≤ 0 ∧ n ≤ 0) 0 0 L nx 0 lv0 [] G) : zMetS l D B y cc nL ret fr lo b S xs av L nx G q := by
  refine va_MetF (cc := cc) (maxL := nL) (ret := ret) hy rfl ?_
  intro p e s m args below meth c s₁ Bo hml hv
  obtain ⟨rfl, hW, hK, hN, hlX⟩ := hv
  have hts := atoms_spec (ws := zws y cc nL ret) Bo.pre
  have hr := Bo.returns
  have hlocks := Bo.notSynchronized
  have hown' : s.vm.findClass own = some m.cls := by rw [← hown]; exact findClass_of_methodNamed Bo.named
  have hname : meth.name = mn := by rw [← hmn]; exact (name_of_methodNamed Bo.named Bo.method).1
  have hl0 := lv_entry av (n := nL) (by rw [← zen_len]; exact hlen)
  rw [lg_entry_eq]
  have hl : zlv ((lg_sl av ++ List.replicate (nL - (lg_sl av).length) Slot.unset).toArray) nL lv0 := by
    refine ⟨by rw [← hlv]; simp; omega, hl0.1, hl0.2.1, fun i v h => ?_⟩
    rw [← hlv] at h
    by_cases hi : i < (zen av).length
    · rw [List.getElem?_append_left hi] at h
      have := zen_args av 0 i v h
      rw [Nat.zero_add] at this
      exact hl0.2.2 (i, v) this
    · rw [List.getElem?_append_right (by omega), List.getElem?_replicate] at h
      split at h <;> cases h
  have hX : zX (lX B b S xs) D own mn cc nL p s m av.toArray meth c := ⟨Bo.exec, Bo.bytes, hml, hown', fun w hw => hts w (List.mem_cons_of_mem _ hw), hK, hname, hN, hlX⟩
  refine body p e s m av.toArray below meth c s.heap [] _ _ hX ?_ hl hW va_S.rf
  intro H' locs' ls' pc' v L' nx' G' k' n' hret hW' hS' hpost
  refine W.widen hpost.2.1 hpost.2.2 ?_
  have hfin : ∀ t : State, t.heap = H' → s.WarmedH t.vm → zQc D B q s (.returned v) t := fun t ht hw => ⟨⟨v, L', nx', G', rfl, by rw [ht]; exact hW', hpost.1⟩, hS'.F ht⟩
  rcases hret with ⟨x, ty, rfl, e1, e2, e3⟩ | ⟨rfl, e1, e3⟩ | ⟨w, C, rfl, e1, e2, e3⟩
  · exact W.zret Bo.exec Bo.bytes (hr.trans e1) e2 hfin hS'.2.2 e3 hlocks
  · exact W.vret Bo.exec Bo.bytes (hr.trans e1) hfin hS'.2.2 e3 hlocks
  · exact W.aret Bo.exec Bo.bytes (hr.trans e1) (Or.inl ⟨C, rfl⟩) e2 hfin hS'.2.2 e3 hlocks
theorem lX_moved {s U : State} {H : Heap} {locs : List Loc} (h : lX B b S xs s) (hS : va_S (fun q => B ≤ q) s.heap H locs) (hU : U.heap = H) (hvm : s.vm.Alike U.vm) : lX B b S xs U := by
  obtain ⟨h1, h2, h3⟩ := h
  refine ⟨?_, ?_, h3⟩
  · rw [hU]
    exact va_X.moved hvm (h1.kept (hS.2.1 b h2 (show ¬ B ≤ b by omega)))
  · rw [hU]
    have := hS.1
    omega
theorem zblindS {av : List Value} : FrameBlind (fun v U => v = av.toArray ∧ zW D B L nx G U.heap ∧ va_K D.1 vwCl (ztys D) U ∧ zNw U ∧ lX B b S xs U) := by
  intro a U g mk h
  exact ⟨h.1, h.2.1, va_K.moved (u := U) (U := U.calling g mk a) (Vm.Alike.refl U.vm) h.2.2.1, zNw_same (u := U) (U := U.calling g mk a) rfl h.2.2.2.1, va_X.moved (u := U) (U := U.calling g mk a) (Vm.Alike.refl U.vm) h.2.2.2.2.1, h.2.2.2.2.2⟩
theorem zv_callSS {y : MethodName} {cc' : ByteArray} {nL' np : Nat} {ret' : Option FieldType} {fr lo ix : Nat} {As : List Value} {qq : zQ} (hM : zMetS l D B y cc' nL' ret' fr lo b S xs As L nx G qq) (hl0 : zML own ix y cc' nL' ret' np) (hst : Cond.static y ∈ zgw) (hnp : As.length = np)
    {stk : List Value} (hstk : stk = As.reverse ++ st) (hcat : (st.map fun v => v.category).sum ≤ 8) (hd : decode cc pc = .ok (.invokestatic ix, 3)) (hR : fr + 1 ≤ R.frames ∧ 8 + (nL' + 11) + lo ≤ R.locals) (hcs : k + 0 ≤ R.cells ∧ n + 0 ≤ R.slots)
    (kk : ∀ (v : Option Value) (L' : zL) (nx' : Nat) (G' : zG), qq v L' nx' G' → zV l (lX B b S xs) D B own mn cc nL ret R post (k + 0) (n + 0) L' nx' (pc + 3) lv (v.toList ++ st) G') : zV l (lX B b S xs) D B own mn cc nL ret R post k n L nx pc lv stk G := by
  intro p e s m args below meth c H locs ls Q hX hR0 hl hW hS
  have ok : ∀ w ∈ zgw, w.before args s = true := hX.2.2.2.2.1
  refine zrun (mc := 0) (ms := 0) (rest := st) (va_runS (As := As) ⟨hX.1, hX.2.1, hX.2.2.1, hX.2.2.2.1, ok⟩ hM ⟨callB_of np ok (zgood_ws hl0.2.1) rfl rfl rfl (ok _ hl0.2.2.1) (ok _ hl0.1) ⟨hl0.2.2.2.1, hl0.2.2.2.2.1, hl0.2.2.2.2.2⟩ hR, ok _ hst⟩ ⟨zblindS, fun U hU hWm => ⟨rfl, by rw [hU]; exact hW, va_K.moved hWm.alike hX.2.2.2.2.2.1, zNw_warm hWm hX.2.2.2.2.2.2.2.1, lX_moved hX.2.2.2.2.2.2.2.2 hS hU hWm.alike⟩⟩ rfl hnp hl.2.1 hstk (lv_room hcat) hd hcs) hS ?_
  intro v L' nx' G' H1 locs1 hW1 hq hS1
  exact kk v L' nx' G' hq p e s m args below meth c H1 locs1 ls Q hX hR0 hl hW1 hS1
/-- two ways that meet with one number on the stack -/
theorem zv_join {X0 : State → Prop} {st0 : List Value} (pcJ : Nat) (v : Int32) (P : zG → Prop) (h : (∀ G', P G' → zV l X0 D B own mn cc nL ret R post k n L nx pcJ lv (.int v :: st) G') → zV l X0 D B own mn cc nL ret R post k n L nx pc lv st0 G)
    (kk : ∀ G', P G' → zV l X0 D B own mn cc nL ret R post k n L nx pcJ lv (.int v :: st) G') : zV l X0 D B own mn cc nL ret R post k n L nx pc lv st0 G := h kk
end ZLAW
theorem low_eq (z : Int32) {d : Nat} (h0 : 0 < d) (hd : d < 2 ^ 31) : (z &&& 2147483647) - (z &&& 2147483647) / nI d * nI d = nI ((zm z &&& 2147483647) % d) := by
  have e : z &&& 2147483647 = nI (zm z &&& 2147483647) := by
    conv => lhs; rw [← nI_zm z]
    exact nI_and _ _ (zm_lt z) (by decide)
  rw [e]
  exact pk_rem (Nat.lt_of_le_of_lt Nat.and_le_right (by decide)) h0 hd
end
section
set_option maxRecDepth 100000 in
set_option maxHeartbeats 4000000 in
theorem m_L_cell (l : Launch) (D : zD) (B : Nat) {L : zL} {nx : Nat} {G : zG} {b S : Nat} {xs : Nat → Int32} {j : Nat} (hS : S < 2 ^ 31) (hj : j < 2 ^ 31) : zMetS l D B yL_cell cL_cell 2 (some .int) 0 0 b S xs [.ref b, .int (nI j)] L nx G (zEx (fun _ => True) L nx G) := by
  refine zMetS_of (own := RL) (mn := "cell") [some (.ref b), some (.int (nI j))] (by decide +kernel) rfl rfl rfl (Nat.le_of_ble_eq_true rfl) ?_
  show zV l (lX B b S xs) D B RL "cell" cL_cell 2 (some .int) (zrm 0 0 0 0) (zN (zEx (fun _ => True) L nx G)) 0 0 L nx 0 [some (.ref b), some (.int (nI j))] [] G
  refine zv_iload_n dL_cell_0 rfl ?_
  refine zv_aload_n dL_cell_1 rfl ?_
  refine zv_slen dL_cell_2 ?_
  refine zv_icmp_ge (tgt := 12) dL_cell_3 (by decide) (fun c3 => ?_) (fun c3 => ?_)
  · refine zv_ldc dL_cell_12 kc_L_7 ?_
    refine zv_iload_n dL_cell_14 rfl ?_
    refine zv_imul dL_cell_15 ?_
    refine zv_sipush (v := 24407) dL_cell_16 (by decide) ?_
    refine zv_iadd dL_cell_19 ?_
    exact zv_iret dL_cell_20 rfl rfl ⟨⟨_, rfl, trivial, rfl, rfl, rfl⟩, Nat.le_refl _, Nat.le_refl _⟩
  · have hlt : j < S := by
      rcases Nat.lt_or_ge j S with h | h
      · exact h
      · exact absurd (nI_le h hj) c3
    refine zv_aload_n dL_cell_6 rfl ?_
    refine zv_iload_n dL_cell_7 rfl ?_
    refine zv_sld hlt hS dL_cell_8 ?_
    refine zv_goto (tgt := 20) dL_cell_9 (by decide) ?_
    exact zv_iret dL_cell_20 rfl rfl ⟨⟨_, rfl, trivial, rfl, rfl, rfl⟩, Nat.le_refl _, Nat.le_refl _⟩

set_option maxRecDepth 100000 in
set_option maxHeartbeats 4000000 in
theorem m_L_low (l : Launch) (D : zD) (B : Nat) {L : zL} {nx : Nat} {G : zG} (z : Int32) {d : Nat} (h0 : 0 < d) (hd : d < 2 ^ 31) : zMet l D B yL_low cL_low 2 (some .int) 0 0 0 0 [.int z, .int (nI d)] L nx G (zEx (fun y => ∃ m, m < d ∧ y = nI m) L nx G) := by
  refine zMet_of (own := RL) (mn := "low") [some (.int z), some (.int (nI d))] (by decide +kernel) rfl rfl rfl (Nat.le_of_ble_eq_true rfl) ?_
  show zV l (fun _ => True) D B RL "low" cL_low 2 (some .int) (zrm 0 0 0 0) (zN (zEx (fun y => ∃ m, m < d ∧ y = nI m) L nx G)) 0 0 L nx 0 [some (.int z), some (.int (nI d))] [] (G)
  refine zv_iload_n dL_low_0 rfl ?_
  refine zv_ldc dL_low_1 kc_L_8 ?_
  refine zv_iand dL_low_3 ?_
  refine zv_iload_n dL_low_4 rfl ?_
  refine zv_irem dL_low_5 (nI_ne0 h0 hd) ?_
  rw [low_eq z h0 hd]
  exact zv_iret dL_low_6 rfl rfl ⟨⟨_, rfl, ⟨_, Nat.mod_lt _ h0, rfl⟩, rfl, rfl, rfl⟩, Nat.le_refl _, Nat.le_refl _⟩

set_option maxRecDepth 100000 in
set_option maxHeartbeats 4000000 in
theorem lp_L_size (l : Launch) (D : zD) (B : Nat) {L : zL} {nx : Nat} {G : zG} {z : Int32} : ∀ i : Nat, i ≤ 16 → zV l (fun _ => True) D B RL "size" cL_size 3 (some .int) (zrm 0 0 0 0) (zN (zE (some (.int (nI (zcnt (zb z) 16)))) L nx G)) 0 0 L nx 4 [some (.int z), some (.int (nI (zcnt (zb z) i))), some (.int (nI i))] [] (G) := by
  refine zloop 16 (fun i hi ih => ?_)
  refine zv_iload_n dL_size_4 rfl ?_
  refine zv_bipush (v := 16) dL_size_5 (by decide) ?_
  refine zv_icmp_ge (tgt := 24) dL_size_7 (by decide) (fun c7 => ?_) (fun c7 => ?_)
  · have e : i = 16 := by have := zge_of (N := 16) (by decide) (by omega) rfl c7; omega
    subst e
    refine zv_iload_n dL_size_24 rfl ?_
    refine zv_iretE dL_size_25 rfl (rfl) ?_ ?_
    · rfl
    · rfl
  · have hlt : i < 16 := zlt_of (N := 16) (by decide) (by omega) rfl c7
    refine zv_iload_n dL_size_10 rfl ?_
    refine zv_iload_n dL_size_11 rfl ?_
    refine zv_iload_n dL_size_12 rfl ?_
    refine zv_ishr dL_size_13 ?_
    refine zv_iconst (v := 1) dL_size_14 (by decide) ?_
    refine zv_iand dL_size_15 ?_
    refine zv_iadd dL_size_16 ?_
    rw [cnt_s (by omega)]
    refine zv_istore_n dL_size_17 (by decide) rfl ?_
    refine zv_iinc1 dL_size_18 rfl (by decide) rfl ?_
    refine zv_goto (tgt := 4) dL_size_21 (by decide) ?_
    rw [nI_1]
    exact ih hlt

set_option maxRecDepth 100000 in
set_option maxHeartbeats 4000000 in
theorem m_L_size (l : Launch) (D : zD) (B : Nat) {L : zL} {nx : Nat} {G : zG} (z : Int32) : zMet l D B yL_size cL_size 3 (some .int) 0 0 0 0 [.int z] L nx G (zE (some (.int (nI (zcnt (zb z) 16)))) L nx (G)) := by
  refine zMet_of (own := RL) (mn := "size") [some (.int z), none, none] (by decide +kernel) rfl rfl rfl (Nat.le_of_ble_eq_true rfl) ?_
  show zV l (fun _ => True) D B RL "size" cL_size 3 (some .int) (zrm 0 0 0 0) (zN (zE (some (.int (nI (zcnt (zb z) 16)))) L nx (G))) 0 0 L nx 0 [some (.int z), none, none] [] (G)
  refine zv_iconst (v := 0) dL_size_0 (by decide) ?_
  refine zv_istore_n dL_size_1 (by decide) rfl ?_
  refine zv_iconst (v := 0) dL_size_2 (by decide) ?_
  refine zv_istore_n dL_size_3 (by decide) rfl ?_
  exact lp_L_size l D B 0 (by omega)

set_option maxRecDepth 100000 in
set_option maxHeartbeats 4000000 in
theorem m_L_draw (l : Launch) (D : zD) (B : Nat) {L : zL} {nx : Nat} {G : zG} {a : Nat} (ha : a < 65537) : zMet l D B yL_draw cL_draw 1 (some .int) 0 0 0 0 [.int (nI a)] L nx G (zE (some (.int (nI (zdw a)))) L nx (G)) := by
  refine zMet_of (own := RL) (mn := "draw") [some (.int (nI a))] (by decide +kernel) rfl rfl rfl (Nat.le_of_ble_eq_true rfl) ?_
  show zV l (fun _ => True) D B RL "draw" cL_draw 1 (some .int) (zrm 0 0 0 0) (zN (zE (some (.int (nI (zdw a)))) L nx (G))) 0 0 L nx 0 [some (.int (nI a))] [] (G)
  refine zv_bipush (v := 75) dL_draw_0 (by decide) ?_
  refine zv_iload_n dL_draw_2 rfl ?_
  refine zv_imul dL_draw_3 ?_
  refine zv_bipush (v := 74) dL_draw_4 (by decide) ?_
  refine zv_iadd dL_draw_6 ?_
  refine zv_ldc dL_draw_7 kc_L_9 ?_
  refine zv_irem dL_draw_9 (by decide) ?_
  rw [zdw_eq ha]
  refine zv_iretE dL_draw_10 rfl (rfl) ?_ ?_
  · rfl
  · rfl
end
section
/-! what the law knows of the state: t acts behind it, a book bk of n chapters, cn cups -/
def LQ (t n cn : Nat) (bk : Nat → Int32) (r : Nat → Int32) : Prop :=
  ∃ w ls p : Nat, r 0 = nI w ∧ w ≤ 2 ∧ r 1 = nI ls ∧ ls ≤ 99 ∧ r 2 = nI n ∧ 0 < n ∧ n ≤ 16 ∧ r 3 = nI cn ∧ 0 < cn ∧ cn ≤ 3 ∧ r 4 = nI p ∧ p ≤ t ∧
  (∀ i, i < 3 → zCI n (chR r) (cupR r i)) ∧ (∀ i, cn ≤ i → i < 3 → cupR r i = fun _ => 0) ∧ (∀ c, c < n → chR r c = bk c) ∧
  ∀ i, i < 3 → ∃ a b d : Nat, cupR r i 2 = nI a ∧ cupR r i 3 = nI b ∧ cupR r i 4 = nI d ∧ b + d ≤ a ∧ a ≤ t
theorem LQ_SI {t n cn : Nat} {bk r : Nat → Int32} (h : LQ t n cn bk r) : SI t r := by
  obtain ⟨w, ls, p, h0, hw, h1, hl, h2, hn0, hn, h3, hc0, hc, h4, hp, hI, hz, hb, hk⟩ := h
  refine ⟨w, ls, n, cn, h0, hw, h1, hl, h2, hn, h3, hc, hI, hz, fun i hi => ?_⟩
  obtain ⟨a, b, d, g1, g2, g3, g4, g5⟩ := hk i hi
  exact ⟨d, g3, by omega⟩
theorem cpI_at {r : Nat → Int32} {cn i : Nat} (h3 : r 3 = nI cn) (hcn : cn ≤ 3) (hi : i < cn) : cpI r (nI i) = some i := by
  unfold cpI
  rw [h3, nI_clamp (by omega)]
  refine zfind_of hi (by simp) (fun k hk => ?_)
  simp only [decide_eq_false_iff_not]
  intro e
  have := (nI_eq (by omega) (by omega)).mp e
  omega
theorem qOf_at {r : Nat → Int32} {cn i : Nat} (h3 : r 3 = nI cn) (hcn : cn ≤ 3) (hi : i < cn) (w : Int32) : qOfCup r (nI i) w = qOfV r (cupR r i) w (folM (cupR r i)) := by
  unfold qOfCup
  rw [cpI_at h3 hcn hi]
theorem qOf_0 {r f : Nat → Int32} {z : Int32} : qOfV r f 0 z = f 0 := by simp [qOfV]
theorem qOf_1 {r f : Nat → Int32} {z : Int32} : qOfV r f 1 z = f 1 := by simp [qOfV]
theorem qOf_2 {r f : Nat → Int32} {z : Int32} : qOfV r f 2 z = f 2 := by simp [qOfV]
theorem qOf_3 {r f : Nat → Int32} {z : Int32} : qOfV r f 3 z = f 3 := by simp [qOfV]
theorem qOf_4 {r f : Nat → Int32} {z : Int32} : qOfV r f 4 z = f 4 := by simp [qOfV]
theorem qOf_5 {r f : Nat → Int32} {z : Int32} : qOfV r f 5 z = bI (fullB r f) := by simp [qOfV]
theorem qOf_6 {r f : Nat → Int32} {z : Int32} : qOfV r f 6 z = nI (zcnt (zb (f 0)) 16) + nI (zcnt (zb z) 16) := by simp [qOfV]
theorem qOf_7 {r f : Nat → Int32} {z : Int32} : qOfV r f 7 z = -2 := by simp [qOfV]
theorem qCo_0 {r : Nat → Int32} {a b : Int32} : qCount r a b 0 = r 2 := by simp [qCount]
theorem qCo_2 {r : Nat → Int32} {a b : Int32} : qCount r a b 2 = fcN r (r 3).toNatClampNeg 3 := by simp [qCount]
theorem qCo_3 {r : Nat → Int32} {a b : Int32} : qCount r a b 3 = r 4 := by simp [qCount]
theorem qCo_4 {r : Nat → Int32} {a b : Int32} : qCount r a b 4 = r 0 := by simp [qCount]
theorem qCo_5 {r : Nat → Int32} {a b : Int32} : qCount r a b 5 = r 1 := by simp [qCount]
theorem qCo_8 {r : Nat → Int32} {a b : Int32} : qCount r a b 8 = -2 := by simp [qCount]
theorem zin3_nI {a m : Nat} (ha : a ≤ m) (hm : m < 2 ^ 31) : zin3 (nI a) 0 (nI m) = true := (zin3_iff hm).mpr ⟨a, ha, rfl⟩
theorem qDr_at {r : Nat → Int32} {n sd : Nat} (h2 : r 2 = nI n) (hn0 : 0 < n) (hn : n ≤ 16) (hsd : sd < 65536) {w : Nat} (hw : w ≤ 3) : qDrop r (nI sd) (nI w) = if w = 0 then dPR r sd 1 else if w = 1 then dPR r sd 2 else if w = 2 then dPR r sd 3 else dPR r sd 0 := by
  unfold qDrop
  have e1 : zin3 (nI sd) 0 65535 = true := zin3_nI (m := 65535) (by omega) (by decide)
  have e2 : zin3 (nI w) 0 3 = true := zin3_nI (m := 3) hw (by decide)
  have e3 : ¬ nI n = 0 := nI_ne0 hn0 (by omega)
  rw [e1, e2, h2, nI_clamp (by omega)]
  simp only [Bool.and_self, Bool.true_eq_false, if_false, if_neg e3]
  rcases (show w = 0 ∨ w = 1 ∨ w = 2 ∨ w = 3 by omega) with rfl | rfl | rfl | rfl
  · exact if_pos rfl
  · exact (if_neg (by decide)).trans (if_pos rfl)
  · exact (if_neg (by decide)).trans ((if_neg (by decide)).trans (if_pos rfl))
  · exact (if_neg (by decide)).trans ((if_neg (by decide)).trans (if_neg (by decide)))
theorem qKn_at {r : Nat → Int32} {n cn i j : Nat} (h2 : r 2 = nI n) (hn : n ≤ 16) (h3 : r 3 = nI cn) (hcn : cn ≤ 3) (hi : i < cn) (hj : j < n) : qKnown r (nI i) (nI j) = if zb (cupR r i 0) j then cupR r i (5 + j) else -6 := by
  unfold qKnown
  rw [cpI_at h3 hcn hi]
  dsimp only
  rw [if_pos ⟨zin3_nI (m := 15) (by omega) (by decide), by rw [h2]; exact nI_lt hj (by omega)⟩, nI_clamp (by omega)]
theorem qKn_no {r : Nat → Int32} {n cn i : Nat} (h2 : r 2 = nI n) (hn : n ≤ 16) (h3 : r 3 = nI cn) (hcn : cn ≤ 3) (hi : i < cn) : qKnown r (nI i) (nI n) = -1 := by
  unfold qKnown
  rw [cpI_at h3 hcn hi]
  dsimp only
  rw [if_neg (fun h => by
    rw [h2] at h
    exact absurd h.2 (i32_nlt.mpr (Int32.le_refl _)))]
theorem qKe_at {r : Nat → Int32} {cn i m q : Nat} (h3 : r 3 = nI cn) (hcn : cn ≤ 3) (hi : i < cn) (h1 : cupR r i 1 = nI m) (hm : m ≤ 24) (hq : q < m) : qKept r (nI i) (nI q) 0 = cupR r i (21 + q) ∧ qKept r (nI i) (nI q) 1 = cupR r i (45 + q) := by
  unfold qKept
  rw [cpI_at h3 hcn hi]
  dsimp only
  have hC : zin3 (nI q) 0 23 = true ∧ nI q < cupR r i 1 := ⟨zin3_nI (m := 23) (by omega) (by decide), by rw [h1]; exact nI_lt hq (by omega)⟩
  refine ⟨?_, ?_⟩
  · rw [if_pos hC, nI_clamp (by omega)]
    exact if_pos rfl
  · rw [if_pos hC, nI_clamp (by omega)]
    exact (if_neg (by decide)).trans (if_pos rfl)
theorem qKe_no {r : Nat → Int32} {cn i m : Nat} (h3 : r 3 = nI cn) (hcn : cn ≤ 3) (hi : i < cn) (h1 : cupR r i 1 = nI m) (hm : m ≤ 24) : qKept r (nI i) (nI m) 0 = -1 := by
  unfold qKept
  rw [cpI_at h3 hcn hi]
  dsimp only
  rw [if_neg (fun h => by
    rw [h1] at h
    exact absurd h.2 (i32_nlt.mpr (Int32.le_refl _)))]
/-- the mask of a whole book -/
theorem msk_b : ∀ n, n ≤ 16 → ∀ k, k < 32 → zb (1 <<< (nI n &&& 31) - 1) k = decide (k < n) := by decide +kernel
theorem zcnt_all {p : Nat → Bool} : ∀ {n : Nat}, zcnt p n = n → ∀ k, k < n → p k = true
  | 0, _, k, h => by omega
  | n + 1, h, k, hk => by
    unfold zcnt at h
    have h1 := zcnt_le p n
    cases e : p n with
    | false => rw [e] at h; simp at h; omega
    | true =>
      rw [e] at h
      rcases Nat.lt_or_ge k n with g | g
      · exact zcnt_all (by simpa using h) k g
      · rw [show k = n by omega, e]
theorem zcnt_cut {p : Nat → Bool} {n : Nat} (h : ∀ k, n ≤ k → p k = false) : ∀ {m : Nat}, n ≤ m → zcnt p m = zcnt p n
  | 0, hm => by rw [show n = 0 by omega]
  | m + 1, hm => by
    rcases Nat.lt_or_ge n (m + 1) with g | g
    · show zcnt p m + (if p m = true then 1 else 0) = zcnt p n
      rw [zcnt_cut h (m := m) (by omega), h m (by omega)]
      simp
    · rw [show n = m + 1 by omega]
theorem full_eq {r f : Nat → Int32} {n : Nat} (h2 : r 2 = nI n) (hn : n ≤ 16) (hl : zlim n (f 0)) : fullB r f = decide (zcnt (zb (f 0)) 16 = n) := by
  unfold fullB
  rw [h2]
  have key : f 0 = 1 <<< (nI n &&& 31) - 1 ↔ zcnt (zb (f 0)) 16 = n := by
    rw [zcnt_cut hl hn]
    constructor
    · intro e
      refine zcnt_full (fun k hk => ?_)
      rw [e, msk_b n hn k (by omega)]
      simp [hk]
    · intro e
      have h := zcnt_all e
      apply zb_ext
      intro k hk
      rw [msk_b n hn k hk]
      rcases Nat.lt_or_ge k n with g | g
      · rw [h k g]; simp [g]
      · rw [hl k g]; simp; omega
  simp only [key]
theorem fcN_b {r : Nat → Int32} {cn : Nat} : ∀ {m : Nat}, m ≤ 3 → ∀ k, k < 32 → zb (fcN r cn m) k = (decide (k < m) && decide (k < cn) && fullB r (cupR r k))
  | 0, _, k, hk => by
    show zb 0 k = _
    rw [zb_zero]
    simp
  | m + 1, hm, k, hk => by
    have ih := fcN_b (r := r) (cn := cn) (m := m) (by omega) k hk
    unfold fcN
    by_cases hc : m < cn ∧ fullB r (cupR r m) = true
    · rw [if_pos hc, zb_or, ih, zb_bt (by omega)]
      rcases Nat.lt_trichotomy k m with g | g | g
      · have e1 : decide (k = m) = false := by simp; omega
        have e2 : decide (k < m) = true := by simp; omega
        have e3 : decide (k < m + 1) = true := by simp; omega
        rw [e1, e2, e3]; simp
      · subst g
        simp [hc.1, hc.2]
      · have e1 : decide (k = m) = false := by simp; omega
        have e2 : decide (k < m) = false := by simp; omega
        have e3 : decide (k < m + 1) = false := by simp; omega
        rw [e1, e2, e3]; simp
    · rw [if_neg hc, ih]
      rcases Nat.lt_trichotomy k m with g | g | g
      · have e2 : decide (k < m) = true := by simp; omega
        have e3 : decide (k < m + 1) = true := by simp; omega
        rw [e2, e3]
      · subst g
        have e2 : decide (k < k) = false := by simp
        have e3 : decide (k < k + 1) = true := by simp
        rw [e2, e3]
        simp only [Bool.false_and, Bool.true_and]
        cases h1 : fullB r (cupR r k) with
        | false => simp
        | true =>
          have : ¬ k < cn := fun h => hc ⟨h, h1⟩
          simp [this]
      · have e2 : decide (k < m) = false := by simp; omega
        have e3 : decide (k < m + 1) = false := by simp; omega
        rw [e2, e3]
theorem bI_sh {z : Int32} {i : Nat} (hi : i < 32) : (z >>> (nI i &&& 31)) &&& 1 = bI (zb z i) := zb_test z hi
theorem shr_lim {n : Nat} {s : Int32} (hn : n ≤ 16) (h : zlim n s) : s >>> (nI n &&& 31) = 0 := by
  have h1 : zm s < 65536 := zlim_zm hn h
  have h2 : zm s < 2 ^ n := by
    apply Nat.lt_pow_two_of_testBit
    intro k hk
    rw [← zb_zm]
    exact h k hk
  rw [nI_31 (by omega), ← nI_zm s, pk_shrN (by omega) (nI n) n (nI_smod (by omega)), Nat.div_eq_of_lt h2]
  rfl
theorem xsN_lim {ch : Nat → Int32} {n : Nat} {s : Int32} (h : zlim n s) : ∀ {m : Nat}, n ≤ m → xsN ch s m = xsN ch s n
  | 0, hm => by rw [show n = 0 by omega]
  | m + 1, hm => by
    rcases Nat.lt_or_ge n (m + 1) with g | g
    · simp only [xsN]
      rw [xsN_lim h (m := m) (by omega), h m (by omega)]
      simp [i32_xor_zero]
    · rw [show n = m + 1 by omega]
/-- of two sets that are apart the one that follows has no place beyond n -/
theorem fol_lim {n : Nat} {ch f : Nat → Int32} {m : Nat} (hJ : zCJ n ch f m) : (∀ k, folB f k = true → k < 16 → zb (f 0) k = false ∧ k < n) := by
  intro k hk hk16
  unfold folB at hk
  have hsp : inSp (fun i => f (21 + i)) 24 (bt k) := by
    have := @of_decide_eq_true _ (Classical.propDecidable _) hk
    exact this
  have h1 := hsp (fun s => ∀ j, (zb (f 0) j = true → zb s j = false) ∧ (n ≤ j → zb s j = false)) (fun j => ⟨fun _ => zb_zero _, fun _ => zb_zero _⟩) (fun a b ha hb j => ⟨fun h => by rw [zb_xor, (ha j).1 h, (hb j).1 h]; rfl, fun h => by rw [zb_xor, (ha j).2 h, (hb j).2 h]; rfl⟩)
    (fun i hi j => ⟨fun h => (hJ.2.2.2.2.2 i hi).2.1 j h, fun h => (hJ.2.2.2.2.2 i hi).1 j h⟩) k
  have hself : zb (bt k) k = true := by rw [zb_bt (by omega)]; simp
  refine ⟨?_, ?_⟩
  · cases hz : zb (f 0) k with
    | false => rfl
    | true => rw [h1.1 hz] at hself; cases hself
  · rcases Nat.lt_or_ge k n with g | g
    · exact g
    · rw [h1.2 g] at hself; cases hself
theorem folM_b {f : Nat → Int32} (k : Nat) : zb (folM f) k = (decide (k < 16) && folB f k) := zb_mskOf (by omega) k
/-- counts of sets that are apart add up -/
theorem zcnt_disj {p q : Nat → Bool} : ∀ {n : Nat}, (∀ k, k < n → p k = true → q k = false) → zcnt (fun k => p k || q k) n = zcnt p n + zcnt q n
  | 0, _ => rfl
  | n + 1, h => by
    have ih := zcnt_disj (p := p) (q := q) (n := n) (fun k hk => h k (by omega))
    have h1 := h n (by omega)
    unfold zcnt
    rw [ih]
    cases e : p n with
    | false => cases e2 : q n <;> simp <;> omega
    | true => rw [h1 e]; simp; omega
theorem could_le {n : Nat} {ch f : Nat → Int32} {m : Nat} (hJ : zCJ n ch f m) : zcnt (zb (f 0)) 16 + zcnt (zb (folM f)) 16 ≤ n := by
  have hn := hJ.1
  have h0 := fol_lim hJ
  rw [← zcnt_disj (p := zb (f 0)) (q := zb (folM f)) (fun k hk h => by
    rw [folM_b]
    cases e : folB f k with
    | false => simp
    | true => rw [(h0 k e hk).1] at h; cases h)]
  rw [zcnt_cut (n := n) (fun k hk => by
    rw [hJ.2.2.2.1 k hk, folM_b]
    cases e : folB f k with
    | false => simp
    | true =>
      by_cases g : k < 16
      · have := (h0 k e g).2; omega
      · simp [g]) hn]
  exact zcnt_le _ _
/-- a cup that knows all keeps nothing -/
theorem full_none {n : Nat} {ch f : Nat → Int32} {m : Nat} (hJ : zCJ n ch f m) (hs : zsz f m) (hf : zcnt (zb (f 0)) 16 = n) : m = 0 := by
  have hn := hJ.1
  rw [zcnt_cut hJ.2.2.2.1 hn] at hf
  have hall := zcnt_all hf
  rcases Nat.eq_zero_or_pos m with h | h
  · exact h
  · exfalso
    have h2 := hs 0 h
    obtain ⟨g1, g2, -, -⟩ := hJ.2.2.2.2.2 0 (by omega)
    have : zcnt (zb (f (21 + 0))) 16 = 0 := by
      rw [show (0 : Nat) = zcnt (fun _ => false) 16 from by decide]
      refine zcnt_congr (fun k hk => ?_)
      rcases Nat.lt_or_ge k n with g | g
      · exact g2 k (hall k g)
      · exact g1 k g
    omega
theorem frT {x : Nat} {G0 G G1 : zG} (h : ∀ y, x + 134 ≤ y → G y = G0 y) (h1 : zFr x G G1) : ∀ y, x + 134 ≤ y → G1 y = G0 y := fun y hy => (h1 y (by omega)).trans (h y hy)
theorem frU {x : Nat} {G0 G G1 : zG} (h : ∀ y, x + 134 ≤ y → G y = G0 y) (h1 : ∀ y, x + 134 ≤ y → G1 y = G y) : ∀ y, x + 134 ≤ y → G1 y = G0 y := fun y hy => (h1 y hy).trans (h y hy)
theorem mkNum_congr {a b : Nat → Int32} {n x0 : Nat} (hn : 0 < n) (h : ∀ c, c < n → a c = b c) : ∀ i, mkNum a n x0 i = mkNum b n x0 i
  | 0 => rfl
  | i + 1 => by
    simp only [mkNum]
    rw [mkNum_congr hn h i, h _ (mkC_lt hn)]
theorem dPR_at {r bk : Nat → Int32} {w ls n sd : Nat} (h0 : r 0 = nI w) (hw : w ≤ 2) (h1 : r 1 = nI ls) (h2 : r 2 = nI n) (hn0 : 0 < n) (hn : n ≤ 16) (hb : ∀ c, c < n → chR r c = bk c) :
    dPR r sd 0 = bI (decide (nI (zdw sd % 100) < nI ls)) ∧ dPR r sd 1 = nI (zdeg w (zdw (zdw sd)) n) ∧ dPR r sd 2 = mkSet n (zdw (zdw sd)) (zdeg w (zdw (zdw sd)) n) ∧ dPR r sd 3 = mkNum bk n (zdw (zdw sd)) (zdeg w (zdw (zdw sd)) n) := by
  unfold dPR
  rw [h0, h1, h2, nI_clamp (by omega), nI_clamp (by omega)]
  obtain ⟨a0, a1, a2, a3⟩ := mkP_at (f := fun _ => 0) (w := w) (loss := nI ls) (n := n) (ch := chR r) (sd := sd)
  exact ⟨a0, a1, a2, a3.trans (mkNum_congr hn0 hb _)⟩
theorem nf_more {s : Int32} {n : Nat} : ∀ {f c : Nat} (g : Nat), zb s (nf s n c f) = false → nf s n c (f + g) = nf s n c f
  | 0, c, g, h => by
    have h' : zb s c = false := h
    cases g with
    | zero => rfl
    | succ g =>
      show nf s n c (0 + (g + 1)) = c
      rw [Nat.zero_add]
      unfold nf
      rw [if_neg (by rw [h']; simp)]
  | f + 1, c, g, h => by
    rw [show f + 1 + g = (f + g) + 1 by omega]
    unfold nf at h ⊢
    split
    · rename_i hc
      rw [if_pos hc] at h
      exact nf_more g h
    · rfl
theorem mkC_n {n x0 i : Nat} (hn0 : 0 < n) (hn : n ≤ 16) (hi : i < n) : nf (mkSet n x0 i) n (mkX x0 (i + 1) % n) n = mkC n x0 i := by
  have hf := (mk_inv (x0 := x0) hn0 hn i (by omega)).2.2 hi
  have hc0 := Nat.mod_lt (mkX x0 (i + 1)) hn0
  have hC := mkC_lt (n := n) (x0 := x0) (i := i) hn0
  have := nf_more (s := mkSet n x0 i) (n := n) (f := n) (c := mkX x0 (i + 1) % n) (16 - n) (nf_free hC hf hc0 (by split <;> omega))
  rw [show n + (16 - n) = 16 by omega] at this
  exact this.symm
theorem nx_eq {c n : Nat} (hc : c < n) : (c + 1) % n = if c + 1 < n then c + 1 else 0 := by
  split
  · rw [Nat.mod_eq_of_lt (by omega)]
  · rw [show c + 1 = n by omega, Nat.mod_self]
end
section
set_option maxRecDepth 100000 in
set_option maxHeartbeats 4000000 in
theorem lp_dr_in (l : Launch) (D : zD) (B : Nat) {L : zL} {nx : Nat} {G : zG} {q : zP} {R : Room} {n C : Nat} {s : Int32} {l0 l1 l2 l4 l5 l6 l7 l8 l10 : Option Value} {k11 : Int32} (hn0 : 0 < n) (hn : n ≤ 16) (kk : ∀ b : Option Value, zV l (fun _ => True) D B RL "droplet" cL_droplet 14 (some .boolean) R q 0 0 L nx 199 [l0, l1, l2, some (.int (nI n)), l4, l5, l6, l7, l8, some (.int s), l10, some (.int k11), some (.int (nI C)), b] [] G) : ∀ i : Nat, i ≤ n → ∀ c0, c0 < n → nf s n c0 (n - i) = C → zV l (fun _ => True) D B RL "droplet" cL_droplet 14 (some .boolean) R q 0 0 L nx 168 [l0, l1, l2, some (.int (nI n)), l4, l5, l6, l7, l8, some (.int s), l10, some (.int k11), some (.int (nI c0)), some (.int (nI i))] [] G := by
  refine zloop n (fun i hi ih c0 hc0 hC => ?_)
  refine zv_iload dL_droplet_168 rfl ?_
  refine zv_iload_n dL_droplet_170 rfl ?_
  refine zv_icmp_ge (tgt := 199) dL_droplet_171 (by decide) (fun c171 => ?_) (fun c171 => ?_)
  · have e : i = n := by have := zge_of (N := n) (by omega) (by omega) rfl c171; omega
    subst e
    rw [Nat.sub_self] at hC
    have hC0 : c0 = C := hC
    subst hC0
    exact kk _
  · have hlt : i < n := zlt_of (N := n) (by omega) (by omega) rfl c171
    rw [show n - i = (n - (i + 1)) + 1 by omega] at hC
    unfold nf at hC
    refine zv_iload dL_droplet_174 rfl ?_
    refine zv_iload dL_droplet_176 rfl ?_
    refine zv_ishr dL_droplet_178 ?_
    refine zv_iconst (v := 1) dL_droplet_179 (by decide) ?_
    refine zv_iand dL_droplet_180 ?_
    refine zv_iconst (v := 1) dL_droplet_181 (by decide) ?_
    rw [bI_sh (by omega)]
    refine zv_icmp_ne (tgt := 199) dL_droplet_182 (by decide) (fun c182 => ?_) (fun c182 => ?_)
    · have hz : zb s c0 = false := by
        cases hz : zb s c0 with
        | false => rfl
        | true => rw [hz] at c182; exact absurd rfl c182
      rw [if_neg (by rw [hz]; simp)] at hC
      subst hC
      exact kk _
    · have hz : zb s c0 = true := by
        cases hz : zb s c0 with
        | true => rfl
        | false => rw [hz] at c182; exact absurd c182 (by decide)
      rw [if_pos hz] at hC
      refine zv_iload dL_droplet_185 rfl ?_
      refine zv_iconst (v := 1) dL_droplet_187 (by decide) ?_
      refine zv_iadd dL_droplet_188 ?_
      refine zv_iload_n dL_droplet_189 rfl ?_
      refine zv_irem dL_droplet_190 (nI_ne0 hn0 (by omega)) ?_
      rw [nI_1, pk_rem (by omega) hn0 (by omega), nx_eq hc0]
      refine zv_istore dL_droplet_191 (by decide) rfl ?_
      refine zv_iinc1 dL_droplet_193 rfl (by decide) rfl ?_
      refine zv_goto (tgt := 168) dL_droplet_196 (by decide) ?_
      rw [nI_1]
      exact ih hlt _ (by split <;> omega) hC

set_option maxRecDepth 100000 in
set_option maxHeartbeats 4000000 in
theorem lp_dr (l : Launch) (D : zD) (B : Nat) {L : zL} {nx : Nat} {G : zG} {x t n cn c tn : Nat} {r bk : Nat → Int32} {h : Nat → (Nat → Int32)} {sl : Nat → Option (Nat → Int32)} {T : Nat → Nat} {w ls sd : Nat} {e6 e7 : Int32} (hS : SI t r) (h0 : r 0 = nI w) (hw : w ≤ 2) (h1 : r 1 = nI ls) (h2 : r 2 = nI n) (hn0 : 0 < n) (hn : n ≤ 16) (hbk : ∀ c, c < n → chR r c = bk c) (hsd : sd < 65536) (hq : (x + 134, 116) ∈ L) (hb : ∀ i, i < n → G (x + 134) i = bk i) : ∀ k : Nat, k ≤ zdeg w (zdw (zdw sd)) n → ∀ (G1 : zG) (a b : Option Value), zRC L x nx G1 r h c sl T tn → (∀ y, x + 134 ≤ y → G1 y = G y) → zV l (fun _ => True) D B RL "droplet" cL_droplet 14 (some .boolean) (zrm 4 93 0 0) (zN (zI 1 L nx (fun G1 => zRC L x nx G1 r h c sl T tn ∧ ∀ y, x + 134 ≤ y → G1 y = G y))) 0 0 L nx 145 [some (.ref x), some (.ref (x + 134)), some (.int (nI sd)), some (.int (nI n)), some (.int (nI (mkX (zdw (zdw sd)) k))), some (.int (bI (decide (nI (zdw sd % 100) < nI ls)))), some (.int e6), some (.int e7), some (.int (nI (zdeg w (zdw (zdw sd)) n))), some (.int (mkSet n (zdw (zdw sd)) k)), some (.int (mkNum bk n (zdw (zdw sd)) k)), some (.int (nI k)), a, b] [] (G1) := by
  have hdeg := zdeg_b (w := w) (x := zdw (zdw sd)) hn0
  obtain ⟨d0, d1, d2, d3⟩ := dPR_at (sd := sd) h0 hw h1 h2 hn0 hn hbk
  refine zloop (zdeg w (zdw (zdw sd)) n) (fun k hk ih G1 a b hR hF => ?_)
  refine zv_iload dL_droplet_145 rfl ?_
  refine zv_iload dL_droplet_147 rfl ?_
  refine zv_icmp_ge (tgt := 223) dL_droplet_149 (by decide) (fun c149 => ?_) (fun c149 => ?_)
  · have e : k = zdeg w (zdw (zdw sd)) n := by have := zge_of (N := zdeg w (zdw (zdw sd)) n) (by omega) (by omega) rfl c149; omega
    subst e
    refine zv_aload_n dL_droplet_223 rfl ?_
    refine zv_iload_n dL_droplet_224 rfl ?_
    refine zv_iconst (v := 0) dL_droplet_225 (by decide) ?_
    refine zv_callV (m_X6_droplet l D B hR.1 hR.2.1 hS (nI sd) 0) ml_L_21 in_X6_droplet sel_X6_droplet hR.1.1 rfl rfl rfl rfl (Nat.le_of_ble_eq_true rfl) dL_droplet_226 ⟨Nat.le_of_ble_eq_true rfl, Nat.le_of_ble_eq_true rfl⟩ ⟨Nat.le_refl _, Nat.le_refl _⟩ (zk_p fun G1 hG1 => ?_)
    replace hF := frT hF hG1.2
    replace hR := (zRC_fr hR hG1.1 hG1.2).1
    clear hG1
    rw [show qDrop r (nI sd) 0 = dPR r sd 1 from qDr_at (w := 0) h2 hn0 hn hsd (by decide), d1]
    refine zv_iload dL_droplet_229 rfl ?_
    refine zv_icmp_ne (tgt := 281) dL_droplet_231 (by decide) (fun h => absurd (rfl) h) (fun _ => ?_)
    refine zv_aload_n dL_droplet_234 rfl ?_
    refine zv_iload_n dL_droplet_235 rfl ?_
    refine zv_iconst (v := 1) dL_droplet_236 (by decide) ?_
    refine zv_callV (m_X6_droplet l D B hR.1 hR.2.1 hS (nI sd) 1) ml_L_21 in_X6_droplet sel_X6_droplet hR.1.1 rfl rfl rfl rfl (Nat.le_of_ble_eq_true rfl) dL_droplet_237 ⟨Nat.le_of_ble_eq_true rfl, Nat.le_of_ble_eq_true rfl⟩ ⟨Nat.le_refl _, Nat.le_refl _⟩ (zk_p fun G1 hG1 => ?_)
    replace hF := frT hF hG1.2
    replace hR := (zRC_fr hR hG1.1 hG1.2).1
    clear hG1
    rw [show qDrop r (nI sd) 1 = dPR r sd 2 from qDr_at (w := 1) h2 hn0 hn hsd (by decide), d2]
    refine zv_iload dL_droplet_240 rfl ?_
    refine zv_icmp_ne (tgt := 281) dL_droplet_242 (by decide) (fun h => absurd (rfl) h) (fun _ => ?_)
    refine zv_aload_n dL_droplet_245 rfl ?_
    refine zv_iload_n dL_droplet_246 rfl ?_
    refine zv_iconst (v := 2) dL_droplet_247 (by decide) ?_
    refine zv_callV (m_X6_droplet l D B hR.1 hR.2.1 hS (nI sd) 2) ml_L_21 in_X6_droplet sel_X6_droplet hR.1.1 rfl rfl rfl rfl (Nat.le_of_ble_eq_true rfl) dL_droplet_248 ⟨Nat.le_of_ble_eq_true rfl, Nat.le_of_ble_eq_true rfl⟩ ⟨Nat.le_refl _, Nat.le_refl _⟩ (zk_p fun G1 hG1 => ?_)
    replace hF := frT hF hG1.2
    replace hR := (zRC_fr hR hG1.1 hG1.2).1
    clear hG1
    rw [show qDrop r (nI sd) 2 = dPR r sd 3 from qDr_at (w := 2) h2 hn0 hn hsd (by decide), d3]
    refine zv_iload dL_droplet_251 rfl ?_
    refine zv_icmp_ne (tgt := 281) dL_droplet_253 (by decide) (fun h => absurd (rfl) h) (fun _ => ?_)
    refine zv_aload_n dL_droplet_256 rfl ?_
    refine zv_iload_n dL_droplet_257 rfl ?_
    refine zv_iconst (v := 3) dL_droplet_258 (by decide) ?_
    refine zv_callV (m_X6_droplet l D B hR.1 hR.2.1 hS (nI sd) 3) ml_L_21 in_X6_droplet sel_X6_droplet hR.1.1 rfl rfl rfl rfl (Nat.le_of_ble_eq_true rfl) dL_droplet_259 ⟨Nat.le_of_ble_eq_true rfl, Nat.le_of_ble_eq_true rfl⟩ ⟨Nat.le_refl _, Nat.le_refl _⟩ (zk_p fun G1 hG1 => ?_)
    replace hF := frT hF hG1.2
    replace hR := (zRC_fr hR hG1.1 hG1.2).1
    clear hG1
    rw [show qDrop r (nI sd) 3 = dPR r sd 0 from qDr_at (w := 3) h2 hn0 hn hsd (by decide), d0]
    refine zv_iload dL_droplet_262 rfl ?_
    refine zv_icmp_ne (tgt := 281) dL_droplet_264 (by decide) (fun h => absurd (rfl) h) (fun _ => ?_)
    refine zv_iload dL_droplet_267 rfl ?_
    refine zv_callS (m_L_size l D B _) ml_L_25 st_L_size rfl rfl (Nat.le_of_ble_eq_true rfl) dL_droplet_269 ⟨Nat.le_of_ble_eq_true rfl, Nat.le_of_ble_eq_true rfl⟩ ⟨Nat.le_refl _, Nat.le_refl _⟩ (zk_i ?_)
    rw [(mk_inv hn0 hn _ hdeg.2).2.1]
    refine zv_iload dL_droplet_272 rfl ?_
    refine zv_icmp_ne (tgt := 281) dL_droplet_274 (by decide) (fun h => absurd (rfl) h) (fun _ => ?_)
    refine zv_iconst (v := 1) dL_droplet_277 (by decide) ?_
    refine zv_goto (tgt := 282) dL_droplet_278 (by decide) ?_
    exact zv_iretI dL_droplet_282 rfl rfl rfl ⟨hR, hF⟩
  · have hlt : k < zdeg w (zdw (zdw sd)) n := zlt_of (N := zdeg w (zdw (zdw sd)) n) (by omega) (by omega) rfl c149
    have hC := mkC_lt (n := n) (x0 := zdw (zdw sd)) (i := k) hn0
    refine zv_iload dL_droplet_152 rfl ?_
    refine zv_callS (m_L_draw l D B (mkX_lt (zdw_lt _) k)) ml_L_16 st_L_draw rfl rfl (Nat.le_of_ble_eq_true rfl) dL_droplet_154 ⟨Nat.le_of_ble_eq_true rfl, Nat.le_of_ble_eq_true rfl⟩ ⟨Nat.le_refl _, Nat.le_refl _⟩ (zk_i ?_)
    refine zv_istore dL_droplet_157 (by decide) rfl ?_
    refine zv_iload dL_droplet_159 rfl ?_
    refine zv_iload_n dL_droplet_161 rfl ?_
    refine zv_irem dL_droplet_162 (nI_ne0 hn0 (by omega)) ?_
    rw [pk_rem (by have := zdw_lt (mkX (zdw (zdw sd)) k); omega) hn0 (by omega)]
    refine zv_istore dL_droplet_163 (by decide) rfl ?_
    refine zv_iconst (v := 0) dL_droplet_165 (by decide) ?_
    refine zv_istore dL_droplet_166 (by decide) rfl ?_
    refine lp_dr_in l D B (s := mkSet n (zdw (zdw sd)) k) (C := mkC n (zdw (zdw sd)) k) hn0 hn (fun b => ?_) 0 (by omega) _ (Nat.mod_lt _ hn0) (mkC_n hn0 hn (by omega))
    refine zv_iload dL_droplet_199 rfl ?_
    refine zv_iconst (v := 1) dL_droplet_201 (by decide) ?_
    refine zv_iload dL_droplet_202 rfl ?_
    refine zv_ishl dL_droplet_204 ?_
    refine zv_ior dL_droplet_205 ?_
    refine zv_istore dL_droplet_206 (by decide) rfl ?_
    refine zv_iload dL_droplet_208 rfl ?_
    refine zv_aload_n dL_droplet_210 rfl ?_
    refine zv_iload dL_droplet_211 rfl ?_
    refine zv_iald (q := x + 134) (r := 0) (i := 0) hq rfl (zix_nI (show mkC n (zdw (zdw sd)) k < 16 by omega) (by decide)) dL_droplet_213 ?_
    rw [Nat.zero_add, hF _ (Nat.le_refl _), hb _ hC]
    refine zv_ixor dL_droplet_214 ?_
    refine zv_istore dL_droplet_215 (by decide) rfl ?_
    refine zv_iinc1 dL_droplet_217 rfl (by decide) rfl ?_
    refine zv_goto (tgt := 145) dL_droplet_220 (by decide) ?_
    rw [nI_1]
    exact ih hlt G1 _ _ hR hF

set_option maxRecDepth 100000 in
set_option maxHeartbeats 4000000 in
theorem m_L_droplet (l : Launch) (D : zD) (B : Nat) {L : zL} {nx : Nat} {G : zG} {x t n cn c tn : Nat} {r bk : Nat → Int32} {h : Nat → (Nat → Int32)} {sl : Nat → Option (Nat → Int32)} {T : Nat → Nat} {sd : Nat} (hR : zRC L x nx G r h c sl T tn) (hQ : LQ t n cn bk r) (hsd : sd < 65536) (hq : (x + 134, 116) ∈ L) (hb : ∀ i, i < n → G (x + 134) i = bk i) : zMet l D B yL_droplet cL_droplet 14 (some .boolean) 4 93 0 0 [.ref x, .ref (x + 134), .int (nI sd)] L nx G (zI 1 L nx (fun G1 => zRC L x nx G1 r h c sl T tn ∧ ∀ y, x + 134 ≤ y → G1 y = G y)) := by
  refine zMet_of (own := RL) (mn := "droplet") [some (.ref x), some (.ref (x + 134)), some (.int (nI sd)), none, none, none, none, none, none, none, none, none, none, none] (by decide +kernel) rfl rfl rfl (Nat.le_of_ble_eq_true rfl) ?_
  show zV l (fun _ => True) D B RL "droplet" cL_droplet 14 (some .boolean) (zrm 4 93 0 0) (zN (zI 1 L nx (fun G1 => zRC L x nx G1 r h c sl T tn ∧ ∀ y, x + 134 ≤ y → G1 y = G y))) 0 0 L nx 0 [some (.ref x), some (.ref (x + 134)), some (.int (nI sd)), none, none, none, none, none, none, none, none, none, none, none] [] (G)
  have hS := LQ_SI hQ
  obtain ⟨w, ls, p, h0, hw, h1, hl, h2, hn0, hn, h3, hc0, hc, h4, hp, hI, hz, hbk, hk⟩ := id hQ
  have hF : ∀ y, x + 134 ≤ y → G y = G y := fun _ _ => rfl
  refine zv_aload_n dL_droplet_0 rfl ?_
  refine zv_iconst (v := 0) dL_droplet_1 (by decide) ?_
  refine zv_callV (m_X6_count l D B hR.1 hR.2.1 hS 0 _ _ rfl rfl) ml_L_10 in_X6_count sel_X6_count hR.1.1 rfl rfl rfl rfl (Nat.le_of_ble_eq_true rfl) dL_droplet_2 ⟨Nat.le_of_ble_eq_true rfl, Nat.le_of_ble_eq_true rfl⟩ ⟨Nat.le_refl _, Nat.le_refl _⟩ (zk_p fun G1 hG1 => ?_)
  replace hF := frT hF hG1.2
  replace hR := (zRC_fr hR hG1.1 hG1.2).1
  clear hG1
  rw [qCo_0, h2]
  refine zv_istore_n dL_droplet_5 (by decide) rfl ?_
  refine zv_iload_n dL_droplet_6 rfl ?_
  refine zv_callS (m_L_draw l D B (a := sd) (by omega)) ml_L_16 st_L_draw rfl rfl (Nat.le_of_ble_eq_true rfl) dL_droplet_7 ⟨Nat.le_of_ble_eq_true rfl, Nat.le_of_ble_eq_true rfl⟩ ⟨Nat.le_refl _, Nat.le_refl _⟩ (zk_i ?_)
  refine zv_istore dL_droplet_10 (by decide) rfl ?_
  refine zv_iload dL_droplet_12 rfl ?_
  refine zv_bipush (v := 100) dL_droplet_14 (by decide) ?_
  refine zv_irem dL_droplet_16 (by decide) ?_
  refine zv_aload_n dL_droplet_17 rfl ?_
  refine zv_iconst (v := 5) dL_droplet_18 (by decide) ?_
  refine zv_callV (m_X6_count l D B hR.1 hR.2.1 hS 5 _ _ rfl rfl) ml_L_10 in_X6_count sel_X6_count hR.1.1 rfl rfl rfl rfl (Nat.le_of_ble_eq_true rfl) dL_droplet_19 ⟨Nat.le_of_ble_eq_true rfl, Nat.le_of_ble_eq_true rfl⟩ ⟨Nat.le_refl _, Nat.le_refl _⟩ (zk_p fun G1 hG1 => ?_)
  replace hF := frT hF hG1.2
  replace hR := (zRC_fr hR hG1.1 hG1.2).1
  clear hG1
  rw [qCo_5, h1]
  have hx1 := zdw_lt sd
  rw [show (100 : Int32) = nI 100 from rfl, pk_rem (by omega) (by decide) (by decide)]
  refine zv_join (st := []) 30 (bI (decide (nI (zdw sd % 100) < nI ls))) (fun G' => zRC L x nx G' r h c sl T tn ∧ ∀ y, x + 134 ≤ y → G' y = G y) (fun kk => ?_) ?_
  · refine zv_icmp_ge (tgt := 29) dL_droplet_22 (by decide) (fun c22 => ?_) (fun c22 => ?_)
    · refine zv_iconst (v := 0) dL_droplet_29 (by decide) ?_
      have e : bI (decide (nI (zdw sd % 100) < nI ls)) = 0 := by rw [decide_eq_false (i32_nlt.mpr c22)]; rfl
      rw [e] at kk
      exact kk _ ⟨hR, hF⟩
    · refine zv_iconst (v := 1) dL_droplet_25 (by decide) ?_
      refine zv_goto (tgt := 30) dL_droplet_26 (by decide) ?_
      have e : bI (decide (nI (zdw sd % 100) < nI ls)) = 1 := by rw [decide_eq_true (i32_nle.mp c22)]; rfl
      rw [e] at kk
      exact kk _ ⟨hR, hF⟩
  rintro G1 ⟨hR, hF⟩
  refine zv_istore dL_droplet_30 (by decide) rfl ?_
  refine zv_iload dL_droplet_32 rfl ?_
  refine zv_callS (m_L_draw l D B (zdw_lt sd)) ml_L_16 st_L_draw rfl rfl (Nat.le_of_ble_eq_true rfl) dL_droplet_34 ⟨Nat.le_of_ble_eq_true rfl, Nat.le_of_ble_eq_true rfl⟩ ⟨Nat.le_refl _, Nat.le_refl _⟩ (zk_i ?_)
  refine zv_istore dL_droplet_37 (by decide) rfl ?_
  refine zv_iload dL_droplet_39 rfl ?_
  refine zv_bipush (v := 24) dL_droplet_41 (by decide) ?_
  refine zv_irem dL_droplet_43 (by decide) ?_
  have hx2 := zdw_lt (zdw sd)
  have hY : zdw (zdw sd) % 24 < 24 := Nat.mod_lt _ (by decide)
  rw [show (24 : Int32) = nI 24 from rfl, pk_rem (by omega) (by decide) (by decide)]
  refine zv_istore dL_droplet_44 (by decide) rfl ?_
  refine zv_join (st := []) 79 (nI (cdeg (zdw (zdw sd) % 24))) (fun G' => zRC L x nx G' r h c sl T tn ∧ ∀ y, x + 134 ≤ y → G' y = G y) (fun kk => ?_) ?_
  · refine zv_iload dL_droplet_46 rfl ?_
    refine zv_iconst (v := 4) dL_droplet_48 (by decide) ?_
    refine zv_icmp_ge (tgt := 56) dL_droplet_49 (by decide) (fun c49 => ?_) (fun c49 => ?_)
    · have k49 : 4 ≤ zdw (zdw sd) % 24 := (nI_leI (a := 4) (by omega) (by omega)).mp c49
      refine zv_iload dL_droplet_56 rfl ?_
      refine zv_bipush (v := 16) dL_droplet_58 (by decide) ?_
      refine zv_icmp_ge (tgt := 67) dL_droplet_60 (by decide) (fun c60 => ?_) (fun c60 => ?_)
      · have k60 : 16 ≤ zdw (zdw sd) % 24 := (nI_leI (a := 16) (by omega) (by omega)).mp c60
        refine zv_iload dL_droplet_67 rfl ?_
        refine zv_bipush (v := 20) dL_droplet_69 (by decide) ?_
        refine zv_icmp_ge (tgt := 78) dL_droplet_71 (by decide) (fun c71 => ?_) (fun c71 => ?_)
        · have k71 : 20 ≤ zdw (zdw sd) % 24 := (nI_leI (a := 20) (by omega) (by omega)).mp c71
          refine zv_iconst (v := 4) dL_droplet_78 (by decide) ?_
          first
            | (rw [show cdeg (zdw (zdw sd) % 24) = 1 by unfold cdeg; repeat (first | rw [if_pos (by omega)] | rw [if_neg (by omega)])] at kk; exact kk _ ⟨hR, hF⟩)
            | (rw [show cdeg (zdw (zdw sd) % 24) = 2 by unfold cdeg; repeat (first | rw [if_pos (by omega)] | rw [if_neg (by omega)])] at kk; exact kk _ ⟨hR, hF⟩)
            | (rw [show cdeg (zdw (zdw sd) % 24) = 3 by unfold cdeg; repeat (first | rw [if_pos (by omega)] | rw [if_neg (by omega)])] at kk; exact kk _ ⟨hR, hF⟩)
            | (rw [show cdeg (zdw (zdw sd) % 24) = 4 by unfold cdeg; repeat (first | rw [if_pos (by omega)] | rw [if_neg (by omega)])] at kk; exact kk _ ⟨hR, hF⟩)
        · have k71 : ¬ 20 ≤ zdw (zdw sd) % 24 := fun hh => c71 (nI_le (a := 20) hh (by omega))
          refine zv_iconst (v := 3) dL_droplet_74 (by decide) ?_
          refine zv_goto (tgt := 79) dL_droplet_75 (by decide) ?_
          first
            | (rw [show cdeg (zdw (zdw sd) % 24) = 1 by unfold cdeg; repeat (first | rw [if_pos (by omega)] | rw [if_neg (by omega)])] at kk; exact kk _ ⟨hR, hF⟩)
            | (rw [show cdeg (zdw (zdw sd) % 24) = 2 by unfold cdeg; repeat (first | rw [if_pos (by omega)] | rw [if_neg (by omega)])] at kk; exact kk _ ⟨hR, hF⟩)
            | (rw [show cdeg (zdw (zdw sd) % 24) = 3 by unfold cdeg; repeat (first | rw [if_pos (by omega)] | rw [if_neg (by omega)])] at kk; exact kk _ ⟨hR, hF⟩)
            | (rw [show cdeg (zdw (zdw sd) % 24) = 4 by unfold cdeg; repeat (first | rw [if_pos (by omega)] | rw [if_neg (by omega)])] at kk; exact kk _ ⟨hR, hF⟩)
      · have k60 : ¬ 16 ≤ zdw (zdw sd) % 24 := fun hh => c60 (nI_le (a := 16) hh (by omega))
        refine zv_iconst (v := 2) dL_droplet_63 (by decide) ?_
        refine zv_goto (tgt := 79) dL_droplet_64 (by decide) ?_
        first
          | (rw [show cdeg (zdw (zdw sd) % 24) = 1 by unfold cdeg; repeat (first | rw [if_pos (by omega)] | rw [if_neg (by omega)])] at kk; exact kk _ ⟨hR, hF⟩)
          | (rw [show cdeg (zdw (zdw sd) % 24) = 2 by unfold cdeg; repeat (first | rw [if_pos (by omega)] | rw [if_neg (by omega)])] at kk; exact kk _ ⟨hR, hF⟩)
          | (rw [show cdeg (zdw (zdw sd) % 24) = 3 by unfold cdeg; repeat (first | rw [if_pos (by omega)] | rw [if_neg (by omega)])] at kk; exact kk _ ⟨hR, hF⟩)
          | (rw [show cdeg (zdw (zdw sd) % 24) = 4 by unfold cdeg; repeat (first | rw [if_pos (by omega)] | rw [if_neg (by omega)])] at kk; exact kk _ ⟨hR, hF⟩)
    · have k49 : ¬ 4 ≤ zdw (zdw sd) % 24 := fun hh => c49 (nI_le (a := 4) hh (by omega))
      refine zv_iconst (v := 1) dL_droplet_52 (by decide) ?_
      refine zv_goto (tgt := 79) dL_droplet_53 (by decide) ?_
      first
        | (rw [show cdeg (zdw (zdw sd) % 24) = 1 by unfold cdeg; repeat (first | rw [if_pos (by omega)] | rw [if_neg (by omega)])] at kk; exact kk _ ⟨hR, hF⟩)
        | (rw [show cdeg (zdw (zdw sd) % 24) = 2 by unfold cdeg; repeat (first | rw [if_pos (by omega)] | rw [if_neg (by omega)])] at kk; exact kk _ ⟨hR, hF⟩)
        | (rw [show cdeg (zdw (zdw sd) % 24) = 3 by unfold cdeg; repeat (first | rw [if_pos (by omega)] | rw [if_neg (by omega)])] at kk; exact kk _ ⟨hR, hF⟩)
        | (rw [show cdeg (zdw (zdw sd) % 24) = 4 by unfold cdeg; repeat (first | rw [if_pos (by omega)] | rw [if_neg (by omega)])] at kk; exact kk _ ⟨hR, hF⟩)
  rintro G1 ⟨hR, hF⟩
  refine zv_istore dL_droplet_79 (by decide) rfl ?_
  refine zv_join (st := []) 134 (nI (zdeg w (zdw (zdw sd)) n)) (fun G' => zRC L x nx G' r h c sl T tn ∧ ∀ y, x + 134 ≤ y → G' y = G y) (fun kk => ?_) ?_
  · refine zv_aload_n dL_droplet_81 rfl ?_
    refine zv_iconst (v := 4) dL_droplet_82 (by decide) ?_
    refine zv_callV (m_X6_count l D B hR.1 hR.2.1 hS 4 _ _ rfl rfl) ml_L_10 in_X6_count sel_X6_count hR.1.1 rfl rfl rfl rfl (Nat.le_of_ble_eq_true rfl) dL_droplet_83 ⟨Nat.le_of_ble_eq_true rfl, Nat.le_of_ble_eq_true rfl⟩ ⟨Nat.le_refl _, Nat.le_refl _⟩ (zk_p fun G1 hG1 => ?_)
    replace hF := frT hF hG1.2
    replace hR := (zRC_fr hR hG1.1 hG1.2).1
    clear hG1
    rw [qCo_4, h0]
    refine zv_if_ne (tgt := 98) dL_droplet_86 (by decide) (fun c86 => ?_) (fun c86 => ?_)
    · have k86 : ¬ w = 0 := fun hh => c86 (by rw [hh]; rfl)
      refine zv_aload_n dL_droplet_98 rfl ?_
      refine zv_iconst (v := 4) dL_droplet_99 (by decide) ?_
      refine zv_callV (m_X6_count l D B hR.1 hR.2.1 hS 4 _ _ rfl rfl) ml_L_10 in_X6_count sel_X6_count hR.1.1 rfl rfl rfl rfl (Nat.le_of_ble_eq_true rfl) dL_droplet_100 ⟨Nat.le_of_ble_eq_true rfl, Nat.le_of_ble_eq_true rfl⟩ ⟨Nat.le_refl _, Nat.le_refl _⟩ (zk_p fun G1 hG1 => ?_)
      replace hF := frT hF hG1.2
      replace hR := (zRC_fr hR hG1.1 hG1.2).1
      clear hG1
      rw [qCo_4, h0]
      refine zv_iconst (v := 1) dL_droplet_103 (by decide) ?_
      refine zv_icmp_ne (tgt := 122) dL_droplet_104 (by decide) (fun c104 => ?_) (fun c104 => ?_)
      · have k104 : ¬ w = 1 := fun hh => c104 (by rw [hh]; rfl)
        refine zv_iload dL_droplet_122 rfl ?_
        refine zv_iconst (v := 4) dL_droplet_124 (by decide) ?_
        refine zv_irem dL_droplet_125 (by decide) ?_
        rw [show (4 : Int32) = nI 4 from rfl, pk_rem (by omega) (by decide) (by decide)]
        refine zv_if_ne (tgt := 133) dL_droplet_126 (by decide) (fun c126 => ?_) (fun c126 => ?_)
        · have k126 : ¬ zdw (zdw sd) % 4 = 0 := fun hh => c126 (by rw [hh]; rfl)
          refine zv_iload_n dL_droplet_133 rfl ?_
          have e : zdeg w (zdw (zdw sd)) n = n := by
            unfold zdeg
            rw [if_neg k104, if_pos (by omega), if_neg k126]
          rw [e] at kk
          exact kk _ ⟨hR, hF⟩
        · have k126 : zdw (zdw sd) % 4 = 0 := (nI_eq (b := 0) (by omega) (by decide)).mp c126
          refine zv_iconst (v := 1) dL_droplet_129 (by decide) ?_
          refine zv_goto (tgt := 134) dL_droplet_130 (by decide) ?_
          have e : zdeg w (zdw (zdw sd)) n = 1 := by
            unfold zdeg
            rw [if_neg k104, if_pos (by omega), if_pos k126]
          rw [e] at kk
          exact kk _ ⟨hR, hF⟩
      · have k104 : w = 1 := (nI_eq (b := 1) (by omega) (by decide)).mp c104
        refine zv_iload dL_droplet_107 rfl ?_
        refine zv_iload_n dL_droplet_109 rfl ?_
        have hcd := cdeg_b (zdw (zdw sd) % 24)
        refine zv_icmp_ge (tgt := 118) dL_droplet_110 (by decide) (fun c110 => ?_) (fun c110 => ?_)
        · have k110 : n ≤ cdeg (zdw (zdw sd) % 24) := (nI_leI (by omega) (by omega)).mp c110
          refine zv_iload_n dL_droplet_118 rfl ?_
          refine zv_goto (tgt := 134) dL_droplet_119 (by decide) ?_
          have e : zdeg w (zdw (zdw sd)) n = n := by
            unfold zdeg
            rw [if_pos k104]
            split <;> omega
          rw [e] at kk
          exact kk _ ⟨hR, hF⟩
        · have k110 : ¬ n ≤ cdeg (zdw (zdw sd) % 24) := fun hh => c110 (nI_le hh (by omega))
          refine zv_iload dL_droplet_113 rfl ?_
          refine zv_goto (tgt := 134) dL_droplet_115 (by decide) ?_
          have e : zdeg w (zdw (zdw sd)) n = cdeg (zdw (zdw sd) % 24) := by
            unfold zdeg
            rw [if_pos k104, if_pos (by omega)]
          rw [e] at kk
          exact kk _ ⟨hR, hF⟩
    · have k86 : w = 0 := (nI_eq (b := 0) (by omega) (by decide)).mp c86
      refine zv_iconst (v := 1) dL_droplet_89 (by decide) ?_
      refine zv_iload dL_droplet_90 rfl ?_
      refine zv_iload_n dL_droplet_92 rfl ?_
      refine zv_irem dL_droplet_93 (nI_ne0 hn0 (by omega)) ?_
      refine zv_iadd dL_droplet_94 ?_
      rw [pk_rem (by omega) hn0 (by omega), show (1 : Int32) = nI 1 from rfl, nI_add]
      refine zv_goto (tgt := 134) dL_droplet_95 (by decide) ?_
      have e : zdeg w (zdw (zdw sd)) n = 1 + zdw (zdw sd) % n := by
        unfold zdeg
        rw [if_neg (by omega), if_neg (by omega)]
      rw [e] at kk
      exact kk _ ⟨hR, hF⟩
  rintro G1 ⟨hR, hF⟩
  refine zv_istore dL_droplet_134 (by decide) rfl ?_
  refine zv_iconst (v := 0) dL_droplet_136 (by decide) ?_
  refine zv_istore dL_droplet_137 (by decide) rfl ?_
  refine zv_iconst (v := 0) dL_droplet_139 (by decide) ?_
  refine zv_istore dL_droplet_140 (by decide) rfl ?_
  refine zv_iconst (v := 0) dL_droplet_142 (by decide) ?_
  refine zv_istore dL_droplet_143 (by decide) rfl ?_
  exact lp_dr (cn := cn) l D B hS h0 hw h1 h2 hn0 hn hbk hsd hq hb 0 (Nat.zero_le _) G1 _ _ hR hF
end
section
theorem nJ_nlt {a b : Nat} (h : b ≤ a) (ha : a < 2 ^ 31) : ¬ nI a < nI b := i32_nlt.mpr (nI_le h ha)

set_option maxRecDepth 100000 in
set_option maxHeartbeats 4000000 in
theorem ep_cup2 (l : Launch) (D : zD) (B : Nat) {L : zL} {nx : Nat} {G : zG} {x t n cn c tn : Nat} {r bk : Nat → Int32} {h : Nat → (Nat → Int32)} {sl : Nat → Option (Nat → Int32)} {T : Nat → Nat} {i : Nat} {a5 a6 a7 a8 a9 : Option Value} {G1 : zG} (hR : zRC L x nx G1 r h c sl T tn) (hF : ∀ y, x + 134 ≤ y → G1 y = G y) (hS : SI t r) (h2 : r 2 = nI n) (hn0 : 0 < n) (hn : n ≤ 16) (h3 : r 3 = nI cn) (hc : cn ≤ 3) (hi : i < cn) (hbk : ∀ c, c < n → chR r c = bk c) (hq : (x + 134, 116) ∈ L) (hb : ∀ i, i < n → G (x + 134) i = bk i) (hk : ∃ a b d : Nat, cupR r i 2 = nI a ∧ cupR r i 3 = nI b ∧ cupR r i 4 = nI d ∧ b + d ≤ a ∧ a ≤ t) (ht : t < 2 ^ 30) : zV l (fun _ => True) D B RL "cup" cL_cup 10 (some .boolean) (zrm 4 87 0 0) (zN (zI 1 L nx (fun G1 => zRC L x nx G1 r h c sl T tn ∧ ∀ y, x + 134 ≤ y → G1 y = G y))) 0 0 L nx 288 [some (.ref x), some (.ref (x + 134)), some (.int (nI i)), some (.int (cupR r i 0)), some (.int (nI n)), a5, a6, a7, a8, a9] [] (G1) := by
  obtain ⟨ka, kb, kd, k2, k3, k4, k5, k6⟩ := hk
  refine zv_aload_n dL_cup_288 rfl ?_
  refine zv_iload_n dL_cup_289 rfl ?_
  refine zv_iconst (v := 3) dL_cup_290 (by decide) ?_
  refine zv_callV (m_X6_ofCup l D B hR.1 hR.2.1 hS (nI i) 3) ml_L_28 in_X6_ofCup sel_X6_ofCup hR.1.1 rfl rfl rfl rfl (Nat.le_of_ble_eq_true rfl) dL_cup_291 ⟨Nat.le_of_ble_eq_true rfl, Nat.le_of_ble_eq_true rfl⟩ ⟨Nat.le_refl _, Nat.le_refl _⟩ (zk_p fun G1 hG1 => ?_)
  replace hF := frT hF hG1.2
  replace hR := (zRC_fr hR hG1.1 hG1.2).1
  clear hG1
  rw [qOf_at h3 hc hi, qOf_3, k3]
  refine zv_aload_n dL_cup_294 rfl ?_
  refine zv_iload_n dL_cup_295 rfl ?_
  refine zv_iconst (v := 4) dL_cup_296 (by decide) ?_
  refine zv_callV (m_X6_ofCup l D B hR.1 hR.2.1 hS (nI i) 4) ml_L_28 in_X6_ofCup sel_X6_ofCup hR.1.1 rfl rfl rfl rfl (Nat.le_of_ble_eq_true rfl) dL_cup_297 ⟨Nat.le_of_ble_eq_true rfl, Nat.le_of_ble_eq_true rfl⟩ ⟨Nat.le_refl _, Nat.le_refl _⟩ (zk_p fun G1 hG1 => ?_)
  replace hF := frT hF hG1.2
  replace hR := (zRC_fr hR hG1.1 hG1.2).1
  clear hG1
  rw [qOf_at h3 hc hi, qOf_4, k4]
  refine zv_iadd dL_cup_300 ?_
  refine zv_aload_n dL_cup_301 rfl ?_
  refine zv_iload_n dL_cup_302 rfl ?_
  refine zv_iconst (v := 2) dL_cup_303 (by decide) ?_
  refine zv_callV (m_X6_ofCup l D B hR.1 hR.2.1 hS (nI i) 2) ml_L_28 in_X6_ofCup sel_X6_ofCup hR.1.1 rfl rfl rfl rfl (Nat.le_of_ble_eq_true rfl) dL_cup_304 ⟨Nat.le_of_ble_eq_true rfl, Nat.le_of_ble_eq_true rfl⟩ ⟨Nat.le_refl _, Nat.le_refl _⟩ (zk_p fun G1 hG1 => ?_)
  replace hF := frT hF hG1.2
  replace hR := (zRC_fr hR hG1.1 hG1.2).1
  clear hG1
  rw [qOf_at h3 hc hi, qOf_2, k2]
  rw [nI_add]
  refine zv_icmp_gt (tgt := 314) dL_cup_307 (by decide) (fun h => absurd h (nJ_nlt (by omega) (by omega))) (fun _ => ?_)
  refine zv_iconst (v := 1) dL_cup_310 (by decide) ?_
  refine zv_goto (tgt := 315) dL_cup_311 (by decide) ?_
  exact zv_iretI dL_cup_315 rfl rfl rfl ⟨hR, hF⟩

set_option maxRecDepth 100000 in
set_option maxHeartbeats 4000000 in
theorem ep_cup (l : Launch) (D : zD) (B : Nat) {L : zL} {nx : Nat} {G : zG} {x t n cn c tn : Nat} {r bk : Nat → Int32} {h : Nat → (Nat → Int32)} {sl : Nat → Option (Nat → Int32)} {T : Nat → Nat} {i m : Nat} {a6 a7 a8 a9 : Option Value} {G1 : zG} (hR : zRC L x nx G1 r h c sl T tn) (hF : ∀ y, x + 134 ≤ y → G1 y = G y) (hS : SI t r) (h2 : r 2 = nI n) (hn0 : 0 < n) (hn : n ≤ 16) (h3 : r 3 = nI cn) (hc : cn ≤ 3) (hi : i < cn) (hbk : ∀ c, c < n → chR r c = bk c) (hq : (x + 134, 116) ∈ L) (hb : ∀ i, i < n → G (x + 134) i = bk i) (hJ : zCJ n (chR r) (cupR r i) m) (hs : zsz (cupR r i) m) (hk : ∃ a b d : Nat, cupR r i 2 = nI a ∧ cupR r i 3 = nI b ∧ cupR r i 4 = nI d ∧ b + d ≤ a ∧ a ≤ t) (ht : t < 2 ^ 30) : zV l (fun _ => True) D B RL "cup" cL_cup 10 (some .boolean) (zrm 4 87 0 0) (zN (zI 1 L nx (fun G1 => zRC L x nx G1 r h c sl T tn ∧ ∀ y, x + 134 ≤ y → G1 y = G y))) 0 0 L nx 177 [some (.ref x), some (.ref (x + 134)), some (.int (nI i)), some (.int (cupR r i 0)), some (.int (nI n)), some (.int (nI m)), a6, a7, a8, a9] [] (G1) := by
  have hm := hJ.2.1
  have hcl := could_le hJ
  have hfu := full_eq (r := r) h2 hn hJ.2.2.2.1
  refine zv_iload_n dL_cup_177 rfl ?_
  refine zv_callS (m_L_size l D B _) ml_L_25 st_L_size rfl rfl (Nat.le_of_ble_eq_true rfl) dL_cup_178 ⟨Nat.le_of_ble_eq_true rfl, Nat.le_of_ble_eq_true rfl⟩ ⟨Nat.le_refl _, Nat.le_refl _⟩ (zk_i ?_)
  refine zv_iload dL_cup_181 rfl ?_
  refine zv_join (st := []) 191 (bI (decide (zcnt (zb (cupR r i 0)) 16 = n))) (fun G' => zRC L x nx G' r h c sl T tn ∧ ∀ y, x + 134 ≤ y → G' y = G y) (fun kk => ?_) ?_
  · refine zv_icmp_ne (tgt := 190) dL_cup_183 (by decide) (fun c183 => ?_) (fun c183 => ?_)
    · have k : ¬ zcnt (zb (cupR r i 0)) 16 = n := fun hh => c183 (by rw [hh])
      refine zv_iconst (v := 0) dL_cup_190 (by decide) ?_
      rw [decide_eq_false k] at kk
      exact kk _ ⟨hR, hF⟩
    · have k : zcnt (zb (cupR r i 0)) 16 = n := (nI_eq (by omega) (by omega)).mp c183
      refine zv_iconst (v := 1) dL_cup_186 (by decide) ?_
      refine zv_goto (tgt := 191) dL_cup_187 (by decide) ?_
      rw [decide_eq_true k] at kk
      exact kk _ ⟨hR, hF⟩
  rintro G1 ⟨hR, hF⟩
  refine zv_istore dL_cup_191 (by decide) rfl ?_
  refine zv_aload_n dL_cup_193 rfl ?_
  refine zv_iload_n dL_cup_194 rfl ?_
  refine zv_bipush (v := 6) dL_cup_195 (by decide) ?_
  refine zv_callV (m_X6_ofCup l D B hR.1 hR.2.1 hS (nI i) 6) ml_L_28 in_X6_ofCup sel_X6_ofCup hR.1.1 rfl rfl rfl rfl (Nat.le_of_ble_eq_true rfl) dL_cup_197 ⟨Nat.le_of_ble_eq_true rfl, Nat.le_of_ble_eq_true rfl⟩ ⟨Nat.le_refl _, Nat.le_refl _⟩ (zk_p fun G1 hG1 => ?_)
  replace hF := frT hF hG1.2
  replace hR := (zRC_fr hR hG1.1 hG1.2).1
  clear hG1
  rw [qOf_at h3 hc hi, qOf_6, nI_add]
  refine zv_istore dL_cup_200 (by decide) rfl ?_
  refine zv_iload dL_cup_202 rfl ?_
  refine zv_bipush (v := 24) dL_cup_204 (by decide) ?_
  refine zv_icmp_gt (tgt := 314) dL_cup_206 (by decide) (fun h => absurd h (nJ_nlt (a := 24) hm (by decide))) (fun _ => ?_)
  refine zv_aload_n dL_cup_209 rfl ?_
  refine zv_iload_n dL_cup_210 rfl ?_
  refine zv_iload dL_cup_211 rfl ?_
  refine zv_iconst (v := 0) dL_cup_213 (by decide) ?_
  refine zv_callV (m_X6_kept l D B hR.1 hR.2.1 hS (nI i) (nI m) 0) ml_L_34 in_X6_kept sel_X6_kept hR.1.1 rfl rfl rfl rfl (Nat.le_of_ble_eq_true rfl) dL_cup_214 ⟨Nat.le_of_ble_eq_true rfl, Nat.le_of_ble_eq_true rfl⟩ ⟨Nat.le_refl _, Nat.le_refl _⟩ (zk_p fun G1 hG1 => ?_)
  replace hF := frT hF hG1.2
  replace hR := (zRC_fr hR hG1.1 hG1.2).1
  clear hG1
  rw [qKe_no h3 hc hi hJ.2.2.1 hm]
  refine zv_iconst (v := (-1)) dL_cup_217 (by decide) ?_
  refine zv_icmp_ne (tgt := 314) dL_cup_218 (by decide) (fun h => absurd (rfl) h) (fun _ => ?_)
  refine zv_aload_n dL_cup_221 rfl ?_
  refine zv_iload_n dL_cup_222 rfl ?_
  refine zv_iconst (v := 5) dL_cup_223 (by decide) ?_
  refine zv_callV (m_X6_ofCup l D B hR.1 hR.2.1 hS (nI i) 5) ml_L_28 in_X6_ofCup sel_X6_ofCup hR.1.1 rfl rfl rfl rfl (Nat.le_of_ble_eq_true rfl) dL_cup_224 ⟨Nat.le_of_ble_eq_true rfl, Nat.le_of_ble_eq_true rfl⟩ ⟨Nat.le_refl _, Nat.le_refl _⟩ (zk_p fun G1 hG1 => ?_)
  replace hF := frT hF hG1.2
  replace hR := (zRC_fr hR hG1.1 hG1.2).1
  clear hG1
  rw [qOf_at h3 hc hi, qOf_5, hfu]
  refine zv_iload dL_cup_227 rfl ?_
  refine zv_join (st := [.int (bI (decide (zcnt (zb (cupR r i 0)) 16 = n)))]) 237 (bI (decide (zcnt (zb (cupR r i 0)) 16 = n))) (fun G' => zRC L x nx G' r h c sl T tn ∧ ∀ y, x + 134 ≤ y → G' y = G y) (fun kk => ?_) ?_
  · refine zv_if_eq (tgt := 236) dL_cup_229 (by decide) (fun c229 => ?_) (fun c229 => ?_)
    · have kf : bI (decide (zcnt (zb (cupR r i 0)) 16 = n)) = 0 := c229
      refine zv_iconst (v := 0) dL_cup_236 (by decide) ?_
      rw [kf] at kk ⊢
      exact kk _ ⟨hR, hF⟩
    · have kf : bI (decide (zcnt (zb (cupR r i 0)) 16 = n)) = 1 := by
        cases hd : decide (zcnt (zb (cupR r i 0)) 16 = n) with
        | false => rw [hd] at c229; exact absurd rfl c229
        | true => rfl
      refine zv_iconst (v := 1) dL_cup_232 (by decide) ?_
      refine zv_goto (tgt := 237) dL_cup_233 (by decide) ?_
      rw [kf] at kk ⊢
      exact kk _ ⟨hR, hF⟩
  rintro G1 ⟨hR, hF⟩
  refine zv_icmp_ne (tgt := 314) dL_cup_237 (by decide) (fun h => absurd (rfl) h) (fun _ => ?_)
  refine zv_aload_n dL_cup_240 rfl ?_
  refine zv_iconst (v := 2) dL_cup_241 (by decide) ?_
  refine zv_callV (m_X6_count l D B hR.1 hR.2.1 hS 2 _ _ rfl rfl) ml_L_10 in_X6_count sel_X6_count hR.1.1 rfl rfl rfl rfl (Nat.le_of_ble_eq_true rfl) dL_cup_242 ⟨Nat.le_of_ble_eq_true rfl, Nat.le_of_ble_eq_true rfl⟩ ⟨Nat.le_refl _, Nat.le_refl _⟩ (zk_p fun G1 hG1 => ?_)
  replace hF := frT hF hG1.2
  replace hR := (zRC_fr hR hG1.1 hG1.2).1
  clear hG1
  rw [qCo_2, h3, nI_clamp (by omega)]
  refine zv_iload_n dL_cup_245 rfl ?_
  refine zv_ishr dL_cup_246 ?_
  refine zv_iconst (v := 1) dL_cup_247 (by decide) ?_
  refine zv_iand dL_cup_248 ?_
  rw [bI_sh (by omega), fcN_b (by omega) i (by omega), decide_eq_true (show i < 3 by omega), decide_eq_true hi, Bool.true_and, Bool.true_and, hfu]
  refine zv_join (st := [.int (bI (decide (zcnt (zb (cupR r i 0)) 16 = n)))]) 259 (bI (decide (zcnt (zb (cupR r i 0)) 16 = n))) (fun G' => zRC L x nx G' r h c sl T tn ∧ ∀ y, x + 134 ≤ y → G' y = G y) (fun kk => ?_) ?_
  · refine zv_iload dL_cup_249 rfl ?_
    refine zv_if_eq (tgt := 258) dL_cup_251 (by decide) (fun c251 => ?_) (fun c251 => ?_)
    · have kf : bI (decide (zcnt (zb (cupR r i 0)) 16 = n)) = 0 := c251
      refine zv_iconst (v := 0) dL_cup_258 (by decide) ?_
      rw [kf] at kk ⊢
      exact kk _ ⟨hR, hF⟩
    · have kf : bI (decide (zcnt (zb (cupR r i 0)) 16 = n)) = 1 := by
        cases hd : decide (zcnt (zb (cupR r i 0)) 16 = n) with
        | false => rw [hd] at c251; exact absurd rfl c251
        | true => rfl
      refine zv_iconst (v := 1) dL_cup_254 (by decide) ?_
      refine zv_goto (tgt := 259) dL_cup_255 (by decide) ?_
      rw [kf] at kk ⊢
      exact kk _ ⟨hR, hF⟩
  rintro G1 ⟨hR, hF⟩
  refine zv_icmp_ne (tgt := 314) dL_cup_259 (by decide) (fun h => absurd (rfl) h) (fun _ => ?_)
  refine zv_iload dL_cup_262 rfl ?_
  refine zv_iload_n dL_cup_264 rfl ?_
  refine zv_callS (m_L_size l D B _) ml_L_25 st_L_size rfl rfl (Nat.le_of_ble_eq_true rfl) dL_cup_265 ⟨Nat.le_of_ble_eq_true rfl, Nat.le_of_ble_eq_true rfl⟩ ⟨Nat.le_refl _, Nat.le_refl _⟩ (zk_i ?_)
  refine zv_icmp_lt (tgt := 314) dL_cup_268 (by decide) (fun h => absurd h (nJ_nlt (by omega) (by omega))) (fun _ => ?_)
  refine zv_iload dL_cup_271 rfl ?_
  refine zv_iload dL_cup_273 rfl ?_
  refine zv_icmp_gt (tgt := 314) dL_cup_275 (by decide) (fun h => absurd h (nJ_nlt (by omega) (by omega))) (fun _ => ?_)
  refine zv_iload dL_cup_278 rfl ?_
  refine zv_if_eq (tgt := 288) dL_cup_280 (by decide) (fun c280 => ?_) (fun c280 => ?_)
  · exact ep_cup2 l D B (cn := cn) (bk := bk) hR hF hS h2 hn0 hn h3 hc hi hbk hq hb hk ht
  · have kf : zcnt (zb (cupR r i 0)) 16 = n := by
      cases hd : decide (zcnt (zb (cupR r i 0)) 16 = n) with
      | false => rw [hd] at c280; exact absurd rfl c280
      | true => exact of_decide_eq_true hd
    have hm0 := full_none hJ hs kf
    subst hm0
    refine zv_iload dL_cup_283 rfl ?_
    refine zv_if_ne (tgt := 314) dL_cup_285 (by decide) (fun h => absurd (rfl) h) (fun _ => ?_)
    exact ep_cup2 l D B (cn := cn) (bk := bk) hR hF hS h2 hn0 hn h3 hc hi hbk hq hb hk ht

set_option maxRecDepth 100000 in
set_option maxHeartbeats 4000000 in
theorem lp_cup1 (l : Launch) (D : zD) (B : Nat) {L : zL} {nx : Nat} {G : zG} {x t n cn c tn : Nat} {r bk : Nat → Int32} {h : Nat → (Nat → Int32)} {sl : Nat → Option (Nat → Int32)} {T : Nat → Nat} {i m : Nat} (hS : SI t r) (h2 : r 2 = nI n) (hn0 : 0 < n) (hn : n ≤ 16) (h3 : r 3 = nI cn) (hc : cn ≤ 3) (hi : i < cn) (hbk : ∀ c, c < n → chR r c = bk c) (hq : (x + 134, 116) ∈ L) (hb : ∀ i, i < n → G (x + 134) i = bk i) (hJ : zCJ n (chR r) (cupR r i) m) (kk : ∀ G1, zRC L x nx G1 r h c sl T tn → (∀ y, x + 134 ≤ y → G1 y = G y) → zV l (fun _ => True) D B RL "cup" cL_cup 10 (some .boolean) (zrm 4 87 0 0) (zN (zI 1 L nx (fun G1 => zRC L x nx G1 r h c sl T tn ∧ ∀ y, x + 134 ≤ y → G1 y = G y))) 0 0 L nx 61 [some (.ref x), some (.ref (x + 134)), some (.int (nI i)), some (.int (cupR r i 0)), some (.int (nI n)), some (.int (nI n)), none, none, none, none] [] (G1)) : ∀ j : Nat, j ≤ n → ∀ G1, zRC L x nx G1 r h c sl T tn → (∀ y, x + 134 ≤ y → G1 y = G y) → zV l (fun _ => True) D B RL "cup" cL_cup 10 (some .boolean) (zrm 4 87 0 0) (zN (zI 1 L nx (fun G1 => zRC L x nx G1 r h c sl T tn ∧ ∀ y, x + 134 ≤ y → G1 y = G y))) 0 0 L nx 17 [some (.ref x), some (.ref (x + 134)), some (.int (nI i)), some (.int (cupR r i 0)), some (.int (nI n)), some (.int (nI j)), none, none, none, none] [] (G1) := by
  refine zloop n (fun j hj ih G1 hR hF => ?_)
  refine zv_iload dL_cup_17 rfl ?_
  refine zv_iload dL_cup_19 rfl ?_
  refine zv_icmp_ge (tgt := 61) dL_cup_21 (by decide) (fun c21 => ?_) (fun c21 => ?_)
  · have e : j = n := by have := zge_of (N := n) (by omega) (by omega) rfl c21; omega
    subst e
    exact kk _ hR hF
  · have hlt : j < n := zlt_of (N := n) (by omega) (by omega) rfl c21
    refine zv_aload_n dL_cup_24 rfl ?_
    refine zv_iload_n dL_cup_25 rfl ?_
    refine zv_iload dL_cup_26 rfl ?_
    refine zv_callV (m_X6_known l D B hR.1 hR.2.1 hS (nI i) (nI j)) ml_L_31 in_X6_known sel_X6_known hR.1.1 rfl rfl rfl rfl (Nat.le_of_ble_eq_true rfl) dL_cup_28 ⟨Nat.le_of_ble_eq_true rfl, Nat.le_of_ble_eq_true rfl⟩ ⟨Nat.le_refl _, Nat.le_refl _⟩ (zk_p fun G1 hG1 => ?_)
    replace hF := frT hF hG1.2
    replace hR := (zRC_fr hR hG1.1 hG1.2).1
    clear hG1
    rw [qKn_at h2 hn h3 hc hi hlt]
    cases hz : zb (cupR r i 0) j
    · simp only [Bool.false_eq_true, if_false]
      refine zv_iload_n dL_cup_31 rfl ?_
      refine zv_iload dL_cup_32 rfl ?_
      refine zv_ishr dL_cup_34 ?_
      refine zv_iconst (v := 1) dL_cup_35 (by decide) ?_
      refine zv_iand dL_cup_36 ?_
      refine zv_iconst (v := 1) dL_cup_37 (by decide) ?_
      rw [bI_sh (by omega), hz]
      refine zv_icmp_ne (tgt := 48) dL_cup_38 (by decide) (fun _ => ?_) (fun h => absurd h (by decide))
      refine zv_bipush (v := (-6)) dL_cup_48 (by decide) ?_
      refine zv_icmp_eq (tgt := 55) dL_cup_50 (by decide) (fun _ => ?_) (fun h => absurd (rfl) h)
      refine zv_iinc1 dL_cup_55 rfl (by decide) rfl ?_
      refine zv_goto (tgt := 17) dL_cup_58 (by decide) ?_
      rw [nI_1]
      exact ih hlt _ hR hF
    · simp only [if_true]
      rw [hJ.2.2.2.2.1 j hlt hz, hbk j hlt]
      refine zv_iload_n dL_cup_31 rfl ?_
      refine zv_iload dL_cup_32 rfl ?_
      refine zv_ishr dL_cup_34 ?_
      refine zv_iconst (v := 1) dL_cup_35 (by decide) ?_
      refine zv_iand dL_cup_36 ?_
      refine zv_iconst (v := 1) dL_cup_37 (by decide) ?_
      rw [bI_sh (by omega), hz]
      refine zv_icmp_ne (tgt := 48) dL_cup_38 (by decide) (fun h => absurd (rfl) h) (fun _ => ?_)
      refine zv_aload_n dL_cup_41 rfl ?_
      refine zv_iload dL_cup_42 rfl ?_
      refine zv_iald (q := x + 134) (r := 0) (i := 0) hq rfl (zix_nI (show j < 16 by omega) (by decide)) dL_cup_44 ?_
      rw [Nat.zero_add, hF _ (Nat.le_refl _), hb _ (by omega)]
      refine zv_goto (tgt := 50) dL_cup_45 (by decide) ?_
      refine zv_icmp_eq (tgt := 55) dL_cup_50 (by decide) (fun _ => ?_) (fun h => absurd (rfl) h)
      refine zv_iinc1 dL_cup_55 rfl (by decide) rfl ?_
      refine zv_goto (tgt := 17) dL_cup_58 (by decide) ?_
      rw [nI_1]
      exact ih hlt _ hR hF

set_option maxRecDepth 100000 in
set_option maxHeartbeats 4000000 in
theorem lp_cup3 (l : Launch) (D : zD) (B : Nat) {L : zL} {nx : Nat} {G : zG} {x t n cn c tn : Nat} {r bk : Nat → Int32} {h : Nat → (Nat → Int32)} {sl : Nat → Option (Nat → Int32)} {T : Nat → Nat} {i m q : Nat} {G1 : zG} (hR : zRC L x nx G1 r h c sl T tn) (hF : ∀ y, x + 134 ≤ y → G1 y = G y) (hS : SI t r) (h2 : r 2 = nI n) (hn0 : 0 < n) (hn : n ≤ 16) (h3 : r 3 = nI cn) (hc : cn ≤ 3) (hi : i < cn) (hbk : ∀ c, c < n → chR r c = bk c) (hq : (x + 134, 116) ∈ L) (hb : ∀ i, i < n → G (x + 134) i = bk i) (kk : zV l (fun _ => True) D B RL "cup" cL_cup 10 (some .boolean) (zrm 4 87 0 0) (zN (zI 1 L nx (fun G1 => zRC L x nx G1 r h c sl T tn ∧ ∀ y, x + 134 ≤ y → G1 y = G y))) 0 0 L nx 132 [some (.ref x), some (.ref (x + 134)), some (.int (nI i)), some (.int (cupR r i 0)), some (.int (nI n)), some (.int (nI m)), some (.int (nI q)), some (.int (cupR r i (21 + q))), some (.int (xsN bk (cupR r i (21 + q)) n)), some (.int (nI n))] [] (G1)) : ∀ j : Nat, j ≤ n → zV l (fun _ => True) D B RL "cup" cL_cup 10 (some .boolean) (zrm 4 87 0 0) (zN (zI 1 L nx (fun G1 => zRC L x nx G1 r h c sl T tn ∧ ∀ y, x + 134 ≤ y → G1 y = G y))) 0 0 L nx 95 [some (.ref x), some (.ref (x + 134)), some (.int (nI i)), some (.int (cupR r i 0)), some (.int (nI n)), some (.int (nI m)), some (.int (nI q)), some (.int (cupR r i (21 + q))), some (.int (xsN bk (cupR r i (21 + q)) j)), some (.int (nI j))] [] (G1) := by
  refine zloop n (fun j hj ih => ?_)
  refine zv_iload dL_cup_95 rfl ?_
  refine zv_iload dL_cup_97 rfl ?_
  refine zv_icmp_ge (tgt := 132) dL_cup_99 (by decide) (fun c99 => ?_) (fun c99 => ?_)
  · have e : j = n := by have := zge_of (N := n) (by omega) (by omega) rfl c99; omega
    subst e
    exact kk
  · have hlt : j < n := zlt_of (N := n) (by omega) (by omega) rfl c99
    cases hz : zb (cupR r i (21 + q)) j
    · refine zv_iload dL_cup_102 rfl ?_
      refine zv_iload dL_cup_104 rfl ?_
      refine zv_iload dL_cup_106 rfl ?_
      refine zv_ishr dL_cup_108 ?_
      refine zv_iconst (v := 1) dL_cup_109 (by decide) ?_
      refine zv_iand dL_cup_110 ?_
      refine zv_iconst (v := 1) dL_cup_111 (by decide) ?_
      rw [bI_sh (by omega), hz]
      refine zv_icmp_ne (tgt := 122) dL_cup_112 (by decide) (fun _ => ?_) (fun h => absurd h (by decide))
      refine zv_iconst (v := 0) dL_cup_122 (by decide) ?_
      refine zv_ixor dL_cup_123 ?_
      rw [show xsN bk (cupR r i (21 + q)) j ^^^ 0 = xsN bk (cupR r i (21 + q)) (j + 1) by simp only [xsN]; rw [hz]; rfl]
      refine zv_istore dL_cup_124 (by decide) rfl ?_
      refine zv_iinc1 dL_cup_126 rfl (by decide) rfl ?_
      refine zv_goto (tgt := 95) dL_cup_129 (by decide) ?_
      rw [nI_1]
      exact ih hlt
    · refine zv_iload dL_cup_102 rfl ?_
      refine zv_iload dL_cup_104 rfl ?_
      refine zv_iload dL_cup_106 rfl ?_
      refine zv_ishr dL_cup_108 ?_
      refine zv_iconst (v := 1) dL_cup_109 (by decide) ?_
      refine zv_iand dL_cup_110 ?_
      refine zv_iconst (v := 1) dL_cup_111 (by decide) ?_
      rw [bI_sh (by omega), hz]
      refine zv_icmp_ne (tgt := 122) dL_cup_112 (by decide) (fun h => absurd (rfl) h) (fun _ => ?_)
      refine zv_aload_n dL_cup_115 rfl ?_
      refine zv_iload dL_cup_116 rfl ?_
      refine zv_iald (q := x + 134) (r := 0) (i := 0) hq rfl (zix_nI (show j < 16 by omega) (by decide)) dL_cup_118 ?_
      rw [Nat.zero_add, hF _ (Nat.le_refl _), hb _ (by omega)]
      refine zv_goto (tgt := 123) dL_cup_119 (by decide) ?_
      refine zv_ixor dL_cup_123 ?_
      rw [show xsN bk (cupR r i (21 + q)) j ^^^ bk j = xsN bk (cupR r i (21 + q)) (j + 1) by simp only [xsN]; rw [hz]; rfl]
      refine zv_istore dL_cup_124 (by decide) rfl ?_
      refine zv_iinc1 dL_cup_126 rfl (by decide) rfl ?_
      refine zv_goto (tgt := 95) dL_cup_129 (by decide) ?_
      rw [nI_1]
      exact ih hlt

set_option maxRecDepth 100000 in
set_option maxHeartbeats 4000000 in
theorem lp_cup2 (l : Launch) (D : zD) (B : Nat) {L : zL} {nx : Nat} {G : zG} {x t n cn c tn : Nat} {r bk : Nat → Int32} {h : Nat → (Nat → Int32)} {sl : Nat → Option (Nat → Int32)} {T : Nat → Nat} {i m : Nat} (hS : SI t r) (h2 : r 2 = nI n) (hn0 : 0 < n) (hn : n ≤ 16) (h3 : r 3 = nI cn) (hc : cn ≤ 3) (hi : i < cn) (hbk : ∀ c, c < n → chR r c = bk c) (hq : (x + 134, 116) ∈ L) (hb : ∀ i, i < n → G (x + 134) i = bk i) (hJ : zCJ n (chR r) (cupR r i) m) (hs : zsz (cupR r i) m) (kk : ∀ G1 (a6 a7 a8 a9 : Option Value), zRC L x nx G1 r h c sl T tn → (∀ y, x + 134 ≤ y → G1 y = G y) → zV l (fun _ => True) D B RL "cup" cL_cup 10 (some .boolean) (zrm 4 87 0 0) (zN (zI 1 L nx (fun G1 => zRC L x nx G1 r h c sl T tn ∧ ∀ y, x + 134 ≤ y → G1 y = G y))) 0 0 L nx 177 [some (.ref x), some (.ref (x + 134)), some (.int (nI i)), some (.int (cupR r i 0)), some (.int (nI n)), some (.int (nI m)), a6, a7, a8, a9] [] (G1)) : ∀ q : Nat, q ≤ m → ∀ G1 (a7 a8 a9 : Option Value), zRC L x nx G1 r h c sl T tn → (∀ y, x + 134 ≤ y → G1 y = G y) → zV l (fun _ => True) D B RL "cup" cL_cup 10 (some .boolean) (zrm 4 87 0 0) (zN (zI 1 L nx (fun G1 => zRC L x nx G1 r h c sl T tn ∧ ∀ y, x + 134 ≤ y → G1 y = G y))) 0 0 L nx 72 [some (.ref x), some (.ref (x + 134)), some (.int (nI i)), some (.int (cupR r i 0)), some (.int (nI n)), some (.int (nI m)), some (.int (nI q)), a7, a8, a9] [] (G1) := by
  have hm := hJ.2.1
  refine zloop m (fun q hqm0 ih G1 a7 a8 a9 hR hF => ?_)
  refine zv_iload dL_cup_72 rfl ?_
  refine zv_iload dL_cup_74 rfl ?_
  refine zv_icmp_ge (tgt := 177) dL_cup_76 (by decide) (fun c76 => ?_) (fun c76 => ?_)
  · have e : q = m := by have := zge_of (N := m) (by omega) (by omega) rfl c76; omega
    subst e
    exact kk _ _ _ _ _ hR hF
  · have hqm : q < m := zlt_of (N := m) (by omega) (by omega) rfl c76
    obtain ⟨g1, g2, g3, g4⟩ := hJ.2.2.2.2.2 q (by omega)
    refine zv_aload_n dL_cup_79 rfl ?_
    refine zv_iload_n dL_cup_80 rfl ?_
    refine zv_iload dL_cup_81 rfl ?_
    refine zv_iconst (v := 0) dL_cup_83 (by decide) ?_
    refine zv_callV (m_X6_kept l D B hR.1 hR.2.1 hS (nI i) (nI q) 0) ml_L_34 in_X6_kept sel_X6_kept hR.1.1 rfl rfl rfl rfl (Nat.le_of_ble_eq_true rfl) dL_cup_84 ⟨Nat.le_of_ble_eq_true rfl, Nat.le_of_ble_eq_true rfl⟩ ⟨Nat.le_refl _, Nat.le_refl _⟩ (zk_p fun G1 hG1 => ?_)
    replace hF := frT hF hG1.2
    replace hR := (zRC_fr hR hG1.1 hG1.2).1
    clear hG1
    rw [(qKe_at h3 hc hi hJ.2.2.1 hJ.2.1 hqm).1]
    refine zv_istore dL_cup_87 (by decide) rfl ?_
    refine zv_iconst (v := 0) dL_cup_89 (by decide) ?_
    refine zv_istore dL_cup_90 (by decide) rfl ?_
    refine zv_iconst (v := 0) dL_cup_92 (by decide) ?_
    refine zv_istore dL_cup_93 (by decide) rfl ?_
    refine lp_cup3 l D B (cn := cn) (n := n) hR hF hS h2 hn0 hn h3 hc hi hbk hq hb ?_ 0 (Nat.zero_le _)
    refine zv_iload dL_cup_132 rfl ?_
    refine zv_callS (m_L_size l D B _) ml_L_25 st_L_size rfl rfl (Nat.le_of_ble_eq_true rfl) dL_cup_134 ⟨Nat.le_of_ble_eq_true rfl, Nat.le_of_ble_eq_true rfl⟩ ⟨Nat.le_refl _, Nat.le_refl _⟩ (zk_i ?_)
    refine zv_iconst (v := 2) dL_cup_137 (by decide) ?_
    refine zv_icmp_lt (tgt := 169) dL_cup_138 (by decide) (fun h => absurd h (nJ_nlt (b := 2) (hs q hqm) (by have := zcnt_le (zb (cupR r i (21 + q))) 16; omega))) (fun _ => ?_)
    refine zv_iload dL_cup_141 rfl ?_
    refine zv_iload_n dL_cup_143 rfl ?_
    refine zv_iand dL_cup_144 ?_
    rw [show cupR r i (21 + q) &&& cupR r i 0 = 0 from zb_ext (fun k hk => by rw [zb_and, zb_zero]; cases hz : zb (cupR r i 0) k with
      | false => simp
      | true => rw [g2 k hz]; rfl)]
    refine zv_if_ne (tgt := 169) dL_cup_145 (by decide) (fun h => absurd (rfl) h) (fun _ => ?_)
    refine zv_iload dL_cup_148 rfl ?_
    refine zv_iload dL_cup_150 rfl ?_
    refine zv_ishr dL_cup_152 ?_
    rw [shr_lim hn g1]
    refine zv_if_ne (tgt := 169) dL_cup_153 (by decide) (fun h => absurd (rfl) h) (fun _ => ?_)
    refine zv_aload_n dL_cup_156 rfl ?_
    refine zv_iload_n dL_cup_157 rfl ?_
    refine zv_iload dL_cup_158 rfl ?_
    refine zv_iconst (v := 1) dL_cup_160 (by decide) ?_
    refine zv_callV (m_X6_kept l D B hR.1 hR.2.1 hS (nI i) (nI q) 1) ml_L_34 in_X6_kept sel_X6_kept hR.1.1 rfl rfl rfl rfl (Nat.le_of_ble_eq_true rfl) dL_cup_161 ⟨Nat.le_of_ble_eq_true rfl, Nat.le_of_ble_eq_true rfl⟩ ⟨Nat.le_refl _, Nat.le_refl _⟩ (zk_p fun G1 hG1 => ?_)
    replace hF := frT hF hG1.2
    replace hR := (zRC_fr hR hG1.1 hG1.2).1
    clear hG1
    rw [(qKe_at h3 hc hi hJ.2.2.1 hJ.2.1 hqm).2]
    refine zv_iload dL_cup_164 rfl ?_
    rw [g3, show xs (chR r) (cupR r i (21 + q)) = xsN bk (cupR r i (21 + q)) n from (xsN_lim g1 hn).trans (xsN_congr (fun j hj _ => hbk j hj))]
    refine zv_icmp_eq (tgt := 171) dL_cup_166 (by decide) (fun _ => ?_) (fun h => absurd (rfl) h)
    refine zv_iinc1 dL_cup_171 rfl (by decide) rfl ?_
    refine zv_goto (tgt := 72) dL_cup_174 (by decide) ?_
    rw [nI_1]
    exact ih hqm _ _ _ _ hR hF

set_option maxRecDepth 100000 in
set_option maxHeartbeats 4000000 in
theorem m_L_cup (l : Launch) (D : zD) (B : Nat) {L : zL} {nx : Nat} {G : zG} {x t n cn c tn : Nat} {r bk : Nat → Int32} {h : Nat → (Nat → Int32)} {sl : Nat → Option (Nat → Int32)} {T : Nat → Nat} {i : Nat} (hR : zRC L x nx G r h c sl T tn) (hQ : LQ t n cn bk r) (ht : t < 2 ^ 30) (hi : i < cn) (hq : (x + 134, 116) ∈ L) (hb : ∀ i, i < n → G (x + 134) i = bk i) : zMet l D B yL_cup cL_cup 10 (some .boolean) 4 87 0 0 [.ref x, .ref (x + 134), .int (nI i)] L nx G (zI 1 L nx (fun G1 => zRC L x nx G1 r h c sl T tn ∧ ∀ y, x + 134 ≤ y → G1 y = G y)) := by
  refine zMet_of (own := RL) (mn := "cup") [some (.ref x), some (.ref (x + 134)), some (.int (nI i)), none, none, none, none, none, none, none] (by decide +kernel) rfl rfl rfl (Nat.le_of_ble_eq_true rfl) ?_
  show zV l (fun _ => True) D B RL "cup" cL_cup 10 (some .boolean) (zrm 4 87 0 0) (zN (zI 1 L nx (fun G1 => zRC L x nx G1 r h c sl T tn ∧ ∀ y, x + 134 ≤ y → G1 y = G y))) 0 0 L nx 0 [some (.ref x), some (.ref (x + 134)), some (.int (nI i)), none, none, none, none, none, none, none] [] (G)
  have hS := LQ_SI hQ
  obtain ⟨w, ls, p, h0, hw, h1, hl, h2, hn0, hn, h3, hc0, hc, h4, hp, hI, hz, hbk, hk⟩ := id hQ
  have hF : ∀ y, x + 134 ≤ y → G y = G y := fun _ _ => rfl
  refine zv_aload_n dL_cup_0 rfl ?_
  refine zv_iload_n dL_cup_1 rfl ?_
  refine zv_iconst (v := 0) dL_cup_2 (by decide) ?_
  refine zv_callV (m_X6_ofCup l D B hR.1 hR.2.1 hS (nI i) 0) ml_L_28 in_X6_ofCup sel_X6_ofCup hR.1.1 rfl rfl rfl rfl (Nat.le_of_ble_eq_true rfl) dL_cup_3 ⟨Nat.le_of_ble_eq_true rfl, Nat.le_of_ble_eq_true rfl⟩ ⟨Nat.le_refl _, Nat.le_refl _⟩ (zk_p fun G1 hG1 => ?_)
  replace hF := frT hF hG1.2
  replace hR := (zRC_fr hR hG1.1 hG1.2).1
  clear hG1
  rw [qOf_at h3 hc hi, qOf_0]
  refine zv_istore_n dL_cup_6 (by decide) rfl ?_
  refine zv_aload_n dL_cup_7 rfl ?_
  refine zv_iconst (v := 0) dL_cup_8 (by decide) ?_
  refine zv_callV (m_X6_count l D B hR.1 hR.2.1 hS 0 _ _ rfl rfl) ml_L_10 in_X6_count sel_X6_count hR.1.1 rfl rfl rfl rfl (Nat.le_of_ble_eq_true rfl) dL_cup_9 ⟨Nat.le_of_ble_eq_true rfl, Nat.le_of_ble_eq_true rfl⟩ ⟨Nat.le_refl _, Nat.le_refl _⟩ (zk_p fun G1 hG1 => ?_)
  replace hF := frT hF hG1.2
  replace hR := (zRC_fr hR hG1.1 hG1.2).1
  clear hG1
  rw [qCo_0, h2]
  refine zv_istore dL_cup_12 (by decide) rfl ?_
  refine zv_iconst (v := 0) dL_cup_14 (by decide) ?_
  refine zv_istore dL_cup_15 (by decide) rfl ?_
  obtain ⟨m, hJ, hs⟩ := hI i (by omega)
  refine lp_cup1 l D B (cn := cn) (n := n) hS h2 hn0 hn h3 hc hi hbk hq hb hJ (fun G1 hR hF => ?_) 0 (Nat.zero_le _) _ hR hF
  refine zv_aload_n dL_cup_61 rfl ?_
  refine zv_iload_n dL_cup_62 rfl ?_
  refine zv_iconst (v := 1) dL_cup_63 (by decide) ?_
  refine zv_callV (m_X6_ofCup l D B hR.1 hR.2.1 hS (nI i) 1) ml_L_28 in_X6_ofCup sel_X6_ofCup hR.1.1 rfl rfl rfl rfl (Nat.le_of_ble_eq_true rfl) dL_cup_64 ⟨Nat.le_of_ble_eq_true rfl, Nat.le_of_ble_eq_true rfl⟩ ⟨Nat.le_refl _, Nat.le_refl _⟩ (zk_p fun G1 hG1 => ?_)
  replace hF := frT hF hG1.2
  replace hR := (zRC_fr hR hG1.1 hG1.2).1
  clear hG1
  rw [qOf_at h3 hc hi, qOf_1, hJ.2.2.1]
  refine zv_istore dL_cup_67 (by decide) rfl ?_
  refine zv_iconst (v := 0) dL_cup_69 (by decide) ?_
  refine zv_istore dL_cup_70 (by decide) rfl ?_
  exact lp_cup2 l D B (cn := cn) (n := n) hS h2 hn0 hn h3 hc hi hbk hq hb hJ hs (fun G1 a6 a7 a8 a9 hR hF => ep_cup l D B (cn := cn) (n := n) hR hF hS h2 hn0 hn h3 hc hi hbk hq hb hJ hs (hk i (by omega)) ht) 0 (Nat.zero_le _) _ _ _ _ hR hF
end
section
/-! the law's sets: what is left of each is what the cup keeps, in order; a set that is taken away is 0 -/
def nzS (g : Nat → Int32) : Nat → Bool := fun k => decide (g k ≠ 0)
def lft (g : Nat → Int32) (a : Int32) (k : Nat) : Int32 := g k &&& (a ^^^ (-1))
def Rl (g f : Nat → Int32) (m : Nat) : Prop := g 24 = 0 ∧ zcnt (nzS g) 24 = m ∧ ∀ k, k < 24 → g k ≠ 0 → f (21 + zcnt (nzS g) k) = lft g (f 0) k
theorem zcnt_lt {p : Nat → Bool} {k : Nat} (hp : p k = true) : ∀ {n : Nat}, k < n → zcnt p k < zcnt p n
  | 0, h => by omega
  | n + 1, h => by
    show zcnt p k < zcnt p n + (if p n = true then 1 else 0)
    rcases Nat.lt_or_ge k n with g | g
    · have := zcnt_lt hp g
      omega
    · have e : k = n := by omega
      subst e
      rw [if_pos hp]
      omega
theorem zcnt_surj {p : Nat → Bool} : ∀ {n r : Nat}, r < zcnt p n → ∃ k, k < n ∧ p k = true ∧ zcnt p k = r
  | 0, r, h => by simp [zcnt] at h
  | n + 1, r, h => by
    have h' : r < zcnt p n + (if p n = true then 1 else 0) := h
    rcases Nat.lt_or_ge r (zcnt p n) with g | g
    · obtain ⟨k, h1, h2, h3⟩ := zcnt_surj g
      exact ⟨k, by omega, h2, h3⟩
    · by_cases e : p n = true
      · rw [if_pos e] at h'
        exact ⟨n, by omega, e, by omega⟩
      · rw [if_neg e] at h'
        omega
theorem zcnt_rem {p q : Nat → Bool} {k0 : Nat} (h0 : p k0 = true) (h1 : q k0 = false) (h : ∀ k, k ≠ k0 → q k = p k) : ∀ n, zcnt q n = zcnt p n - (if k0 < n then 1 else 0) ∧ (k0 < n → 1 ≤ zcnt p n)
  | 0 => ⟨rfl, fun h => by omega⟩
  | n + 1 => by
    obtain ⟨ih1, ih2⟩ := zcnt_rem h0 h1 h n
    show zcnt q n + (if q n = true then 1 else 0) = zcnt p n + (if p n = true then 1 else 0) - (if k0 < n + 1 then 1 else 0) ∧ (k0 < n + 1 → 1 ≤ zcnt p n + (if p n = true then 1 else 0))
    rcases Nat.lt_trichotomy k0 n with g | g | g
    · rw [if_pos g] at ih1
      have := ih2 g
      rw [if_pos (show k0 < n + 1 by omega), h n (by omega), ih1]
      exact ⟨by split <;> omega, fun _ => by omega⟩
    · subst g
      rw [if_neg (by omega)] at ih1
      rw [if_pos (show k0 < k0 + 1 by omega), h1, h0, ih1]
      exact ⟨by simp, fun _ => by simp⟩
    · rw [if_neg (by omega)] at ih1
      rw [if_neg (show ¬ k0 < n + 1 by omega), h n (by omega), ih1]
      exact ⟨by omega, fun h => by omega⟩
theorem Rl_row {g f : Nat → Int32} {m r : Nat} (hR : Rl g f m) (hr : r < m) : ∃ k, k < 24 ∧ g k ≠ 0 ∧ zcnt (nzS g) k = r ∧ f (21 + r) = lft g (f 0) k := by
  obtain ⟨-, h1, h2⟩ := hR
  obtain ⟨k, a, b, c⟩ := zcnt_surj (p := nzS g) (n := 24) (r := r) (by omega)
  have b' : g k ≠ 0 := by simpa [nzS] using b
  exact ⟨k, a, b', c, by rw [← c]; exact h2 k a b'⟩
theorem Rl_none {g f : Nat → Int32} {m : Nat} (hR : Rl g f m) (h : ∀ k, k < 24 → g k ≠ 0 → ¬ zcnt (zb (lft g (f 0) k)) 16 < 2) : zfind (zsmall f) m = none := by
  refine zfind_of_none (fun r hr => ?_)
  obtain ⟨k, a, b, -, e⟩ := Rl_row hR hr
  have := h k a b
  rw [← e] at this
  simpa [zsmall] using this
theorem Rl_some {g f : Nat → Int32} {m k0 : Nat} (hR : Rl g f m) (hk : k0 < 24) (hg : g k0 ≠ 0) (hs : zcnt (zb (lft g (f 0) k0)) 16 < 2) (h : ∀ k, k < k0 → g k ≠ 0 → ¬ zcnt (zb (lft g (f 0) k)) 16 < 2) : zfind (zsmall f) m = some (zcnt (nzS g) k0) := by
  have hz : nzS g k0 = true := by simp [nzS, hg]
  refine zfind_of ?_ ?_ (fun r hr => ?_)
  · rw [← hR.2.1]
    exact zcnt_lt hz hk
  · have := hR.2.2 k0 hk hg
    simp only [zsmall, decide_eq_true_eq]
    rw [this]
    exact hs
  · obtain ⟨k, a, b, c⟩ := zcnt_surj (p := nzS g) hr
    have b' : g k ≠ 0 := by simpa [nzS] using b
    have := h k a b'
    rw [← hR.2.2 k (by omega) b', c] at this
    simpa [zsmall] using this
theorem Rl_step {n : Nat} {ch g f : Nat → Int32} {m k0 : Nat} (hJ : zCJ n ch f m) (hR : Rl g f m) (hk : k0 < 24) (hg : g k0 ≠ 0) (hfd : zfind (zsmall f) m = some (zcnt (nzS g) k0)) :
    Rl (upd g k0 0) (peelS f (zcnt (nzS g) k0)) (m - 1) ∧ peelS f (zcnt (nzS g) k0) 0 = f 0 ||| lft g (f 0) k0 := by
  obtain ⟨R0, R1, R2⟩ := id hR
  have hrow := R2 k0 hk hg
  generalize hr : zcnt (nzS g) k0 = r at hrow hfd ⊢
  have hrm := (zfind_some hfd).1
  have hm := hJ.2.1
  have hn := hJ.1
  have hkey := (zCJ_peelS hJ hfd).2
  have hz : nzS g k0 = true := by simp [nzS, hg]
  have e0 : takeP f r 0 = f 0 := by simp only [takeP, takeA]; grind
  have hrem := zcnt_rem (p := nzS g) (q := nzS (upd g k0 0)) (k0 := k0) hz (by simp [nzS, upd]) (fun k hk => by simp [nzS, upd, hk])
  have h0 : peelS f r 0 = f 0 ||| lft g (f 0) k0 := by
    rw [← hrow]
    unfold peelS
    by_cases hz0 : f (21 + r) = 0
    · rw [if_pos hz0, e0, hz0]
      apply zb_ext; intro k _; rw [zb_or, zb_zero]; simp
    · rw [if_neg hz0]
      obtain ⟨e1, e2, e3, e4⟩ := hkey hz0
      rw [(knowP_at (f := takeP f r) (v := f (45 + r)) (show zlow (f (21 + r)) < 16 by omega)).1, e0, ← e1]
  refine ⟨⟨?_, ?_, ?_⟩, h0⟩
  · simp only [upd]; rw [if_neg (by omega)]; exact R0
  · rw [(hrem 24).1, if_pos hk, R1]
  · intro k hk24 hgk
    have hkk : k ≠ k0 := fun e => hgk (by simp [upd, e])
    have hgk' : g k ≠ 0 := by simpa [upd, hkk] using hgk
    have hzk : nzS g k = true := by simp [nzS, hgk']
    have hrk := R2 k hk24 hgk'
    have hle : zcnt (nzS g) k ≤ k := zcnt_le _ _
    have hrank : takeP f r (21 + zcnt (nzS (upd g k0 0)) k) = lft g (f 0) k := by
      rw [(hrem k).1, ← hrk]
      rcases Nat.lt_or_ge k0 k with h | h
      · have h2 := zcnt_lt hz h
        rw [hr] at h2
        rw [if_pos h]
        simp only [takeP, takeA]
        rw [if_neg (by omega), if_neg (by omega), if_pos (by omega)]
        congr 1
        omega
      · have h2 := zcnt_lt hzk (show k < k0 by omega)
        rw [hr] at h2
        rw [if_neg (by omega)]
        simp only [takeP, takeA]
        rw [if_neg (by omega), if_neg (by omega), if_neg (by omega), if_neg (by omega)]
        rfl
    have hlt : zcnt (nzS (upd g k0 0)) k < 24 := by
      have := zcnt_le (nzS (upd g k0 0)) k
      omega
    have hlf : lft (upd g k0 0) (peelS f r 0) k = g k &&& ((f 0 ||| lft g (f 0) k0) ^^^ (-1)) := by
      unfold lft
      rw [h0]
      simp only [upd]
      rw [if_neg hkk]
      rfl
    rw [hlf]
    unfold peelS
    by_cases hz0 : f (21 + r) = 0
    · rw [if_pos hz0, hrank, ← hrow, hz0]
      unfold lft
      apply zb_ext
      intro j hj
      simp only [zb_and, zb_not _ hj, zb_or, zb_zero, Bool.or_false]
    · rw [if_neg hz0]
      obtain ⟨e1, e2, e3, e4⟩ := hkey hz0
      rw [((knowP_at (f := takeP f r) (v := f (45 + r)) (show zlow (f (21 + r)) < 16 by omega)).2.2.2.2 _ hlt).1, hrank, ← hrow]
      generalize hc : zlow (f (21 + r)) = c at e1 e2 ⊢
      rw [e1]
      unfold lft
      apply zb_ext
      intro j hj
      cases hb : zb (g k &&& (f 0 ^^^ (-1))) c with
      | true =>
        rw [if_pos rfl]
        simp only [zb_xor, zb_and, zb_not _ hj, zb_or, zb_bt (show c < 32 by omega)]
        by_cases e : j = c
        · subst e
          simp only [zb_and, zb_not _ hj] at hb
          simp [hb]
        · simp [e]
      | false =>
        rw [if_neg (by simp)]
        simp only [zb_and, zb_not _ hj, zb_or, zb_bt (show c < 32 by omega)]
        by_cases e : j = c
        · subst e
          simp only [zb_and, zb_not _ hj] at hb
          simp [hb]
        · simp [e]
theorem zst_eta {G : zG} {p : Nat} : zst G p (G p) = G := by
  funext y
  simp only [zst]
  split
  · rename_i h; rw [h]
  · rfl
/-- what the law lays for a cup before it peels -/
theorem Rl_kept {n : Nat} {ch g f : Nat → Int32} {m : Nat} (hJ : zCJ n ch f m) (hs : zsz f m) (hg : ∀ k, k < 25 → g k = if k < m then f (21 + k) else 0) : Rl g f m := by
  have hm := hJ.2.1
  have hne : ∀ k, k < m → g k ≠ 0 := fun k hk e => by
    rw [hg k (by omega), if_pos hk] at e
    have := hs k hk
    rw [e] at this
    have h0 : zcnt (zb 0) 16 = 0 := by decide
    omega
  have hcnt : ∀ k, k ≤ 24 → zcnt (nzS g) k = if k < m then k else m := by
    intro k
    induction k with
    | zero => intro _; show 0 = _; split <;> omega
    | succ k ih =>
      intro hk
      show zcnt (nzS g) k + (if nzS g k = true then 1 else 0) = _
      rw [ih (by omega)]
      by_cases e : k < m
      · have : nzS g k = true := by simp [nzS, hne k e]
        rw [if_pos e, if_pos this]
        split <;> omega
      · have : ¬ nzS g k = true := by simp [nzS, hg k (by omega), e]
        rw [if_neg e, if_neg this, if_neg (by omega)]
        omega
  refine ⟨by rw [hg 24 (by omega), if_neg (by omega)], by rw [hcnt 24 (by omega)]; split <;> omega, fun k hk hgk => ?_⟩
  have hkm : k < m := by
    rcases Nat.lt_or_ge k m with h | h
    · exact h
    · exact absurd (by rw [hg k (by omega), if_neg (by omega)]) hgk
  rw [hcnt k (by omega), if_pos hkm]
  unfold lft
  rw [hg k (by omega), if_pos hkm]
  apply zb_ext
  intro j hj
  rw [zb_and, zb_not _ hj]
  cases h1 : zb (f 0) j with
  | false => simp
  | true => rw [(hJ.2.2.2.2.2 k (by omega)).2.1 j h1]; rfl
/-- the same sets against a cup that has learnt more, with what it keeps less that -/
theorem Rl_know {n : Nat} {ch g f : Nat → Int32} {m c : Nat} {v : Int32} (hJ : zCJ n ch f m) (hR : Rl g f m) (hc : c < n) : Rl g (knowP f c v) m := by
  obtain ⟨R0, R1, R2⟩ := hR
  have hn := hJ.1
  obtain ⟨a1, -, -, -, a5⟩ := knowP_at (f := f) (v := v) (show c < 16 by omega)
  refine ⟨R0, R1, fun k hk hgk => ?_⟩
  have hle : zcnt (nzS g) k ≤ k := zcnt_le _ _
  rw [(a5 _ (by omega)).1, R2 k hk hgk, a1]
  unfold lft
  apply zb_ext
  intro j hj
  cases hb : zb (g k &&& (f 0 ^^^ (-1))) c with
  | true =>
    rw [if_pos rfl]
    simp only [zb_xor, zb_and, zb_not _ hj, zb_or, zb_bt (show c < 32 by omega)]
    by_cases e : j = c
    · subst e
      simp only [zb_and, zb_not _ hj] at hb
      simp [hb]
    · simp [e]
  | false =>
    rw [if_neg (by simp)]
    simp only [zb_and, zb_not _ hj, zb_or, zb_bt (show c < 32 by omega)]
    by_cases e : j = c
    · subst e
      simp only [zb_and, zb_not _ hj] at hb
      simp [hb]
    · simp [e]
theorem Rl_congr {g f f' : Nat → Int32} {m : Nat} (hR : Rl g f m) (h0 : f' 0 = f 0) (hv : ∀ j, 21 ≤ j → j < 45 → f' j = f j) : Rl g f' m := by
  obtain ⟨R0, R1, R2⟩ := hR
  refine ⟨R0, R1, fun k hk hgk => ?_⟩
  have hle : zcnt (nzS g) k ≤ k := zcnt_le _ _
  rw [hv _ (by omega) (by omega), h0]
  exact R2 k hk hgk
end
section
set_option maxRecDepth 100000 in
set_option maxHeartbeats 4000000 in
theorem lp_pe_scan (l : Launch) (D : zD) (B : Nat) {L : zL} {nx : Nat} {G : zG} {p n m : Nat} {ch F : Nat → Int32} {a0 a1 : Int32} {f g : Nat → Int32} (hp : (p, 125) ∈ L) (hJ : zCJ n ch f m) (hR : Rl g f m) (hN : (∀ k, k < 24 → g k ≠ 0 → ¬ zcnt (zb (lft g (f 0) k)) 16 < 2) → F = f) (kkF : ∀ k, k < 24 → g k ≠ 0 → zcnt (zb (lft g (f 0) k)) 16 < 2 → (∀ k2, k2 < k → g k2 ≠ 0 → ¬ zcnt (zb (lft g (f 0) k2)) 16 < 2) → ∀ l5 l6 : Option Value, zV l (fun _ => True) D B RL "peeled" cL_peeled 7 (some .int) (zrm 1 22 0 0) (zN (zI (F 0) L nx (fun G' => ∃ g' m', G' = zst G p g' ∧ zCJ n ch F m' ∧ Rl g' F m'))) 0 0 L nx 9 [some (.ref p), some (.int a0), some (.int a1), some (.int (f 0 ||| lft g (f 0) k)), some (.int 1), l5, l6] [] (zst G p (upd g k 0))) : ∀ k : Nat, k ≤ 24 → (∀ k2, k2 < k → g k2 ≠ 0 → ¬ zcnt (zb (lft g (f 0) k2)) 16 < 2) → ∀ l6 : Option Value, zV l (fun _ => True) D B RL "peeled" cL_peeled 7 (some .int) (zrm 1 22 0 0) (zN (zI (F 0) L nx (fun G' => ∃ g' m', G' = zst G p g' ∧ zCJ n ch F m' ∧ Rl g' F m'))) 0 0 L nx 20 [some (.ref p), some (.int a0), some (.int a1), some (.int (f 0)), some (.int 0), some (.int (nI k)), l6] [] (zst G p g) := by
  refine zloop 24 (fun k hk ih hmin l6 => ?_)
  refine zv_iload dL_peeled_20 rfl ?_
  refine zv_bipush (v := 24) dL_peeled_22 (by decide) ?_
  refine zv_icmp_ge (tgt := 77) dL_peeled_24 (by decide) (fun c24 => ?_) (fun c24 => ?_)
  · have e : k = 24 := by have := zge_of (N := 24) (by decide) (by omega) rfl c24; omega
    subst e
    have hFf := hN hmin
    subst hFf
    refine zv_goto (tgt := 9) dL_peeled_77 (by decide) ?_
    refine zv_iload dL_peeled_9 rfl ?_
    refine zv_if_eq (tgt := 80) dL_peeled_11 (by decide) (fun _ => ?_) (fun h => absurd (rfl) h)
    refine zv_iload_n dL_peeled_80 rfl ?_
    exact zv_iretI dL_peeled_81 rfl rfl rfl ⟨g, m, rfl, hJ, hR⟩
  · have hlt : k < 24 := zlt_of (N := 24) (by decide) (by omega) rfl c24
    refine zv_iload dL_peeled_27 rfl ?_
    refine zv_if_ne (tgt := 77) dL_peeled_29 (by decide) (fun h => absurd (rfl) h) (fun _ => ?_)
    refine zv_aload_n dL_peeled_32 rfl ?_
    refine zv_iload dL_peeled_33 rfl ?_
    refine zv_iald (q := p) (r := 0) (i := 0) hp rfl (zix_nI (show k < 25 by omega) (by decide)) dL_peeled_35 ?_
    rw [Nat.zero_add, zst_same]
    refine zv_iload_n dL_peeled_36 rfl ?_
    refine zv_iconst (v := (-1)) dL_peeled_37 (by decide) ?_
    refine zv_ixor dL_peeled_38 ?_
    refine zv_iand dL_peeled_39 ?_
    refine zv_istore dL_peeled_40 (by decide) rfl ?_
    refine zv_aload_n dL_peeled_42 rfl ?_
    refine zv_iload dL_peeled_43 rfl ?_
    refine zv_iald (q := p) (r := 0) (i := 0) hp rfl (zix_nI (show k < 25 by omega) (by decide)) dL_peeled_45 ?_
    rw [Nat.zero_add, zst_same]
    refine zv_if_eq (tgt := 71) dL_peeled_46 (by decide) (fun c46 => ?_) (fun c46 => ?_)
    · refine zv_iinc1 dL_peeled_71 rfl (by decide) rfl ?_
      refine zv_goto (tgt := 20) dL_peeled_74 (by decide) ?_
      rw [nI_1]
      refine ih hlt (fun k2 h2 hg2 => ?_) _
      rcases Nat.lt_or_ge k2 k with h | h
      · exact hmin k2 h hg2
      · exact absurd c46 (by rw [← show k2 = k by omega]; exact hg2)
    · refine zv_iload dL_peeled_49 rfl ?_
      refine zv_callS (m_L_size l D B _) ml_L_25 st_L_size rfl rfl (Nat.le_of_ble_eq_true rfl) dL_peeled_51 ⟨Nat.le_of_ble_eq_true rfl, Nat.le_of_ble_eq_true rfl⟩ ⟨Nat.le_refl _, Nat.le_refl _⟩ (zk_i ?_)
      refine zv_iconst (v := 2) dL_peeled_54 (by decide) ?_
      have hcl := zcnt_le (zb (g k &&& (f 0 ^^^ (-1)))) 16
      refine zv_icmp_ge (tgt := 71) dL_peeled_55 (by decide) (fun c55 => ?_) (fun c55 => ?_)
      · have ksm : ¬ zcnt (zb (lft g (f 0) k)) 16 < 2 := fun hh => by
          have h2 := (nI_leI (a := 2) (by decide) (by omega)).mp c55
          unfold lft at hh
          omega
        refine zv_iinc1 dL_peeled_71 rfl (by decide) rfl ?_
        refine zv_goto (tgt := 20) dL_peeled_74 (by decide) ?_
        rw [nI_1]
        refine ih hlt (fun k2 h2 hg2 => ?_) _
        rcases Nat.lt_or_ge k2 k with h | h
        · exact hmin k2 h hg2
        · rw [show k2 = k by omega]; exact ksm
      · have ksm : zcnt (zb (lft g (f 0) k)) 16 < 2 := by
          unfold lft
          rcases Nat.lt_or_ge (zcnt (zb (g k &&& (f 0 ^^^ (-1)))) 16) 2 with h | h
          · exact h
          · exact absurd (nI_le (a := 2) h (by omega)) c55
        refine zv_aload_n dL_peeled_58 rfl ?_
        refine zv_iload dL_peeled_59 rfl ?_
        refine zv_iconst (v := 0) dL_peeled_61 (by decide) ?_
        refine zv_iast (q := p) (r := 0) (i := 0) hp rfl (zix_nI (show k < 25 by omega) (by decide)) dL_peeled_62 ?_
        rw [Nat.zero_add, zst_same, zst_zst]
        refine zv_iload_n dL_peeled_63 rfl ?_
        refine zv_iload dL_peeled_64 rfl ?_
        refine zv_ior dL_peeled_66 ?_
        refine zv_istore_n dL_peeled_67 (by decide) rfl ?_
        refine zv_iconst (v := 1) dL_peeled_68 (by decide) ?_
        refine zv_istore dL_peeled_69 (by decide) rfl ?_
        refine zv_iinc1 dL_peeled_71 rfl (by decide) rfl ?_
        refine zv_goto (tgt := 20) dL_peeled_74 (by decide) ?_
        refine zv_iload dL_peeled_20 rfl ?_
        refine zv_bipush (v := 24) dL_peeled_22 (by decide) ?_
        refine zv_icmp_ge (tgt := 77) dL_peeled_24 (by decide) (fun c24 => ?_) (fun c24 => ?_)
        · refine zv_goto (tgt := 9) dL_peeled_77 (by decide) ?_
          exact kkF k hlt c46 ksm hmin _ _
        · refine zv_iload dL_peeled_27 rfl ?_
          refine zv_if_ne (tgt := 77) dL_peeled_29 (by decide) (fun _ => ?_) (fun h => absurd h (by decide))
          refine zv_goto (tgt := 9) dL_peeled_77 (by decide) ?_
          exact kkF k hlt c46 ksm hmin _ _

set_option maxRecDepth 100000 in
set_option maxHeartbeats 4000000 in
theorem lp_pe (l : Launch) (D : zD) (B : Nat) {L : zL} {nx : Nat} {G : zG} {p n : Nat} {ch F : Nat → Int32} {a0 a1 : Int32} (hp : (p, 125) ∈ L) : ∀ (K m : Nat) (f g : Nat → Int32) (l5 l6 : Option Value), m ≤ K → zCJ n ch f m → Rl g f m → peelP K f = F → zV l (fun _ => True) D B RL "peeled" cL_peeled 7 (some .int) (zrm 1 22 0 0) (zN (zI (F 0) L nx (fun G' => ∃ g' m', G' = zst G p g' ∧ zCJ n ch F m' ∧ Rl g' F m'))) 0 0 L nx 9 [some (.ref p), some (.int a0), some (.int a1), some (.int (f 0)), some (.int 1), l5, l6] [] (zst G p g) := by
  intro K
  induction K with
  | zero =>
    intro m f g l5 l6 hm hJ hR hF
    refine zv_iload dL_peeled_9 rfl ?_
    refine zv_if_eq (tgt := 80) dL_peeled_11 (by decide) (fun h => absurd h (by decide)) (fun _ => ?_)
    refine zv_iconst (v := 0) dL_peeled_14 (by decide) ?_
    refine zv_istore dL_peeled_15 (by decide) rfl ?_
    refine zv_iconst (v := 0) dL_peeled_17 (by decide) ?_
    refine zv_istore dL_peeled_18 (by decide) rfl ?_
    have hcl : (f 1).toNatClampNeg = m := by rw [hJ.2.2.1, nI_clamp (by have := hJ.2.1; omega)]
    refine lp_pe_scan l D B (m := m) (n := n) (ch := ch) hp hJ hR (fun hno => ?_) (fun k hk hgk hsm hmin l5 l6 => ?_) 0 (by omega) (fun k2 h => by omega) _
    · exact hF.symm
    · exfalso
      have h1 := hR.2.1
      have hz : nzS g k = true := by simp [nzS, hgk]
      have := zcnt_lt hz hk
      omega
  | succ K ih =>
    intro m f g l5 l6 hm hJ hR hF
    refine zv_iload dL_peeled_9 rfl ?_
    refine zv_if_eq (tgt := 80) dL_peeled_11 (by decide) (fun h => absurd h (by decide)) (fun _ => ?_)
    refine zv_iconst (v := 0) dL_peeled_14 (by decide) ?_
    refine zv_istore dL_peeled_15 (by decide) rfl ?_
    refine zv_iconst (v := 0) dL_peeled_17 (by decide) ?_
    refine zv_istore dL_peeled_18 (by decide) rfl ?_
    have hcl : (f 1).toNatClampNeg = m := by rw [hJ.2.2.1, nI_clamp (by have := hJ.2.1; omega)]
    refine lp_pe_scan l D B (m := m) (n := n) (ch := ch) hp hJ hR (fun hno => ?_) (fun k hk hgk hsm hmin l5 l6 => ?_) 0 (by omega) (fun k2 h => by omega) _
    · rw [← hF]
      unfold peelP
      rw [hcl, Rl_none hR hno]
    · have hfd := Rl_some hR hk hgk hsm hmin
      obtain ⟨s1, s2⟩ := Rl_step hJ hR hk hgk hfd
      rw [← s2]
      refine ih (m - 1) (peelS f (zcnt (nzS g) k)) _ _ _ (by omega) (zCJ_peelS hJ hfd).1 s1 ?_
      rw [← hF]
      conv => rhs; unfold peelP
      rw [hcl, hfd]

set_option maxRecDepth 100000 in
set_option maxHeartbeats 4000000 in
theorem m_L_peeled (l : Launch) (D : zD) (B : Nat) {L : zL} {nx : Nat} {G : zG} {p n m k : Nat} {ch f : Nat → Int32} {a0 : Int32} (hp : (p, 125) ∈ L) (hJ : zCJ n ch f m) (hR : Rl (G p) f m) (ha : f 0 = a0 ||| bt k) : zMet l D B yL_peeled cL_peeled 7 (some .int) 1 22 0 0 [.ref p, .int a0, .int (nI k)] L nx G (zI (peelP 24 f 0) L nx (fun G' => ∃ g' m', G' = zst G p g' ∧ zCJ n ch (peelP 24 f) m' ∧ Rl g' (peelP 24 f) m')) := by
  refine zMet_of (own := RL) (mn := "peeled") [some (.ref p), some (.int a0), some (.int (nI k)), none, none, none, none] (by decide +kernel) rfl rfl rfl (Nat.le_of_ble_eq_true rfl) ?_
  show zV l (fun _ => True) D B RL "peeled" cL_peeled 7 (some .int) (zrm 1 22 0 0) (zN (zI (peelP 24 f 0) L nx (fun G' => ∃ g' m', G' = zst G p g' ∧ zCJ n ch (peelP 24 f) m' ∧ Rl g' (peelP 24 f) m'))) 0 0 L nx 0 [some (.ref p), some (.int a0), some (.int (nI k)), none, none, none, none] [] (G)
  refine zv_iload_n dL_peeled_0 rfl ?_
  refine zv_iconst (v := 1) dL_peeled_1 (by decide) ?_
  refine zv_iload_n dL_peeled_2 rfl ?_
  refine zv_ishl dL_peeled_3 ?_
  refine zv_ior dL_peeled_4 ?_
  refine zv_istore_n dL_peeled_5 (by decide) rfl ?_
  refine zv_iconst (v := 1) dL_peeled_6 (by decide) ?_
  refine zv_istore dL_peeled_7 (by decide) rfl ?_
  rw [show a0 ||| 1 <<< (nI k &&& 31) = f 0 from ha.symm]
  have h := lp_pe l D B (nx := nx) (G := G) (a0 := a0) (a1 := nI k) hp 24 m f (G p) none none hJ.2.1 hJ hR rfl
  rw [zst_eta] at h
  exact h
end
section
/-! one droplet poured: what the cup holds then, and what the law has laid of it -/
theorem zRC_to {L L' : zL} {x nx nx' : Nat} {G G' : zG} {r : Nat → Int32} {h : Nat → (Nat → Int32)} {c : Nat} {sl : Nat → Option (Nat → Int32)} {T : Nat → Nat} {tn : Nat} (hR : zRC L x nx G r h c sl T tn) (hsl : ∀ j, j < 2 → sl j = none) (hL : ∀ b ∈ L, b ∈ L') (hG : ∀ y, y < x + 134 → G' y = G y) : zRC L' x nx' G' r h c sl T tn := by
  obtain ⟨⟨g1, g2, g3, g4, g5, g6, g7, g8⟩, ⟨⟨c1, c2⟩, c3, c4⟩, ⟨f, b1, b2, b3, b4, b5, b6⟩, ⟨ad, a4⟩, a5⟩ := hR
  have hSt : ∀ s, zSt L s → zSt L' s := fun s hs => ⟨hL _ hs.1, fun i hi => hL _ (hs.2 i hi)⟩
  refine ⟨⟨hL _ g1, hSt _ g2, ⟨hL _ g3.1, fun j hj => hSt _ (g3.2 j hj)⟩, hL _ g4, hL _ g5, hL _ g6, hL _ g7, hL _ g8⟩,
    ⟨⟨by rw [hG _ (by omega)]; exact c1, fun k hk => by rw [hG _ (by omega)]; exact c2 k hk⟩, fun j hj => by rw [hG _ (by omega)]; exact c3 j hj, fun j hj => by rw [hG _ (by omega)]; exact c4 j hj⟩,
    ⟨f, b1, by rw [hG _ (by omega)]; exact b2, by rw [hG _ (by omega)]; exact b3, b4, fun j hj => ?_, fun k hk => ?_⟩, ⟨ad, fun j hj => Or.inl ⟨hsl j hj, ?_⟩, fun r0 r1 e0 => ?_⟩, ?_⟩
  · obtain ⟨q, hq⟩ := b5 j hj
    exact ⟨q, stOK_of hq (fun y g1 g2 => hG _ (by omega))⟩
  · exact stOK_of (b6 k hk) (fun y g1 g2 => hG _ (by omega))
  · rw [hG _ (by omega)]
    rcases a4.1 j hj with ⟨-, e⟩ | ⟨r', e, -⟩
    · exact e
    · rw [hsl j hj] at e; cases e
  · rw [hsl 0 (by omega)] at e0; cases e0
  · obtain ⟨p1, p2, p3, p4⟩ := a5
    exact ⟨hL _ p1, p2, by rw [hG _ (by omega)]; exact p3, fun i hi => by rw [hG _ (by omega)]; exact p4 i hi⟩
theorem errD_0 {r : Nat → Int32} {n sd : Nat} (h2 : r 2 = nI n) (hn0 : 0 < n) (hn : n ≤ 16) (hsd : sd < 65536) : errD r (nI sd) 1 = 0 := by
  unfold errD
  rw [show zin3 (nI sd) 0 65535 = true from zin3_nI (m := 65535) (show sd ≤ 65535 by omega) (by decide), show zin3 1 1 99 = true by decide, h2]
  rw [if_neg (by simp), if_neg (nI_ne0 hn0 (by omega))]
theorem opPour_1 {r : Nat → Int32} {n cn i sd : Nat} (h2 : r 2 = nI n) (hn0 : 0 < n) (hn : n ≤ 16) (h3 : r 3 = nI cn) (hc : cn ≤ 3) (hi : i < cn) (hsd : sd < 65536) : opPour r (nI i) (nI sd) 1 = (recvR (cupR r i) (dPR r sd), upd (putC r i (recvP (cupR r i) (dPR r sd))) 4 (r 4 + 1)) := by
  unfold opPour
  rw [cpI_at h3 hc hi]
  dsimp only
  rw [errD_0 h2 hn0 hn hsd, if_neg (by decide), nI_clamp (by omega), show (1 : Int32).toNatClampNeg = 0 + 1 by decide]
  have e : (sd + 0) % 65536 = sd := by omega
  simp only [prR, prF, e]
  rw [Int32.zero_add]
theorem qWould_at {r : Nat → Int32} {n cn i sd : Nat} (h2 : r 2 = nI n) (hn0 : 0 < n) (hn : n ≤ 16) (h3 : r 3 = nI cn) (hc : cn ≤ 3) (hi : i < cn) (hsd : sd < 65536) : qWould r (nI i) (nI sd) = if ¬ dPR r sd 0 = 0 then 0 else if 0 < recvR (cupR r i) (dPR r sd) then 2 + recvR (cupR r i) (dPR r sd) else if cupR r i 4 < recvP (cupR r i) (dPR r sd) 4 then 1 else 2 := by
  unfold qWould
  rw [cpI_at h3 hc hi]
  dsimp only
  rw [errD_0 h2 hn0 hn hsd, if_neg (by decide), nI_clamp (by omega)]
def wouldV (f d : Nat → Int32) : Int32 := if ¬ d 0 = 0 then 0 else if 0 < recvR f d then 2 + recvR f d else if f 4 < recvP f d 4 then 1 else 2
/-- all that the law looks at behind a pour -/
def PO (n : Nat) (ch f d g : Nat → Int32) (m' : Nat) (V LO : Int32) : Prop :=
  zCJ n ch (recvP f d) m' ∧ zsz (recvP f d) m' ∧ Rl g (recvP f d) m' ∧ recvR f d = nI (zcnt (zb (recvP f d 0)) 16) - nI (zcnt (zb (f 0)) 16) ∧ zcnt (zb (f 0)) 16 ≤ zcnt (zb (recvP f d 0)) 16 ∧
  wouldV f d = V ∧ recvP f d 2 = f 2 + 1 ∧ recvP f d 3 = f 3 + LO ∧ recvP f d 4 = f 4 + (if V = 1 then 1 else 0) ∧ (LO = 0 ∨ LO = 1) ∧ (LO = 1 → V ≠ 1)
theorem zcnt_sb {p q : Nat → Bool} : ∀ {n : Nat}, (∀ k, k < n → p k = true → q k = true) → zcnt p n ≤ zcnt q n
  | 0, _ => Nat.le_refl _
  | n + 1, h => by
    have ih := zcnt_sb (p := p) (q := q) (n := n) (fun k hk => h k (by omega))
    show zcnt p n + (if p n = true then 1 else 0) ≤ zcnt q n + (if q n = true then 1 else 0)
    by_cases e : p n = true
    · rw [if_pos e, if_pos (h n (by omega) e)]; omega
    · rw [if_neg e]; omega
theorem peelS_0 {f : Nat → Int32} {r j : Nat} (h : zb (f 0) j = true) : zb (peelS f r 0) j = true := by
  have e0 : takeP f r 0 = f 0 := by simp only [takeP, takeA]; grind
  unfold peelS
  split
  · rw [e0]; exact h
  · have e1 : knowP (takeP f r) (zlow (f (21 + r))) (f (45 + r)) 0 = takeP f r 0 ||| bt (zlow (f (21 + r))) := by simp only [knowP, knowA]; simp
    rw [e1, zb_or, e0, h]
    rfl
theorem peelP_0 {j : Nat} : ∀ (k : Nat) (f : Nat → Int32), zb (f 0) j = true → zb (peelP k f 0) j = true
  | 0, f, h => h
  | k + 1, f, h => by
    unfold peelP
    cases zfind (zsmall f) (f 1).toNatClampNeg with
    | none => exact h
    | some r => exact peelP_0 k _ (peelS_0 h)
theorem PO_A {n : Nat} {ch f d g : Nat → Int32} {m : Nat} (hJ : zCJ n ch f m) (hs : zsz f m) (hd : d 0 = 1) (hg : ∀ k, k < 25 → g k = if k < m then f (21 + k) else 0) : PO n ch f d g m 0 1 ∧ recvP f d 0 = f 0 := by
  have hd0 : ¬ d 0 = 0 := by rw [hd]; decide
  have e : recvP f d = upd (upd f 2 (f 2 + 1)) 3 (f 3 + 1) := by unfold recvP; rw [if_pos hd0]
  have e0 : recvP f d 0 = f 0 := by rw [e]; rfl
  have ej : ∀ j, 5 ≤ j → recvP f d j = f j := fun j hj => by rw [e]; simp only [upd]; rw [if_neg (by omega), if_neg (by omega)]
  have e1 : recvP f d 1 = f 1 := by rw [e]; rfl
  refine ⟨⟨zCJ_congr hJ e0 e1 (fun j h1 _ => ej j h1), fun r hr => by rw [ej _ (by omega)]; exact hs r hr, Rl_congr (Rl_kept hJ hs hg) e0 (fun j h1 _ => ej j (by omega)), ?_, by rw [e0]; exact Nat.le_refl _, ?_, by rw [e]; rfl, by rw [e]; rfl, ?_, Or.inr rfl, fun _ => by decide⟩, e0⟩
  · rw [e0, Int32.sub_self]
    unfold recvR
    rw [if_pos hd0]
  · unfold wouldV
    rw [if_pos hd0]
  · rw [if_neg (by decide), Int32.add_zero, e]
    rfl
theorem PO_D {n : Nat} {ch f d g : Nat → Int32} {m u : Nat} (hJ : zCJ n ch f m) (hs : zsz f m) (hd : d 0 = 0) (h1 : ¬ zcnt (zb (recvS f d)) 16 = 1) (h2 : zcnt (zb (recvS f d)) 16 = 0 ∨ m = 24) (hu : f 4 = nI u) (hu2 : u < 2 ^ 30) (hg : ∀ k, k < 25 → g k = if k < m then f (21 + k) else 0) : PO n ch f d g m 1 0 ∧ recvP f d 0 = f 0 := by
  have hd0 : ¬ ¬ d 0 = 0 := fun h => h hd
  have e : recvP f d = upd (upd f 2 (f 2 + 1)) 4 (f 4 + 1) := by
    unfold recvP
    rw [if_neg hd0, if_neg h1, if_pos (h2.imp id (fun h => by rw [hJ.2.2.1, h]; rfl))]
  have e0 : recvP f d 0 = f 0 := by rw [e]; rfl
  have e1 : recvP f d 1 = f 1 := by rw [e]; rfl
  have e4 : recvP f d 4 = f 4 + 1 := by rw [e]; rfl
  have ej : ∀ j, 5 ≤ j → recvP f d j = f j := fun j hj => by rw [e]; simp only [upd]; rw [if_neg (by omega), if_neg (by omega)]
  have er : recvR f d = nI (zcnt (zb (recvP f d 0)) 16) - nI (zcnt (zb (f 0)) 16) := by unfold recvR; rw [if_neg hd0]
  refine ⟨⟨zCJ_congr hJ e0 e1 (fun j h1 _ => ej j h1), fun r hr => by rw [ej _ (by omega)]; exact hs r hr, Rl_congr (Rl_kept hJ hs hg) e0 (fun j h1 _ => ej j (by omega)), er, by rw [e0]; exact Nat.le_refl _, ?_, by rw [e]; rfl, ?_, ?_, Or.inl rfl, fun h => by cases h⟩, e0⟩
  · unfold wouldV
    rw [if_neg hd0, er, e0, Int32.sub_self, if_neg (by decide), e4, hu, nI_1, if_pos (nI_lt (by omega) (by omega))]
  · rw [Int32.add_zero, e]; rfl
  · rw [if_pos rfl]; exact e4
theorem PO_C {n : Nat} {ch f d g : Nat → Int32} {m : Nat} (hJ : zCJ n ch f m) (hs : zsz f m) (hD : zDO n ch d) (hd : d 0 = 0) (h1 : ¬ zcnt (zb (recvS f d)) 16 = 1) (h2 : ¬ zcnt (zb (recvS f d)) 16 = 0) (hm : m < 24) (hg : ∀ k, k < 25 → g k = if k < m then f (21 + k) else if k = m then recvS f d else 0) : PO n ch f d g (m + 1) 2 0 ∧ recvP f d 0 = f 0 := by
  have hd0 : ¬ ¬ d 0 = 0 := fun h => h hd
  have h24 : ¬ (zcnt (zb (recvS f d)) 16 = 0 ∨ f 1 = 24) := fun h => h.elim h2 (fun h => by
    rw [hJ.2.2.1] at h
    have := (nI_eq (b := 24) (by omega) (by decide)).mp h
    omega)
  have e : recvP f d = keepP (upd f 2 (f 2 + 1)) m (recvS f d) (recvV f d) := by
    unfold recvP
    rw [if_neg hd0, if_neg h1, if_neg h24, hJ.2.2.1, nI_clamp (by omega)]
  have hI : zCI n ch (recvP f d) := zCI_recv ⟨m, hJ, hs⟩ hD
  obtain ⟨m2, hJ2, hs2⟩ := hI
  have e0 : recvP f d 0 = f 0 := by rw [e]; simp only [keepP, upd]; grind
  have e1 : recvP f d 1 = nI (m + 1) := by rw [e]; simp [keepP, upd]
  have em : m2 = m + 1 := (nI_eq (by have := hJ2.2.1; omega) (by omega)).mp (hJ2.2.2.1.symm.trans e1)
  subst em
  have er : recvR f d = nI (zcnt (zb (recvP f d 0)) 16) - nI (zcnt (zb (f 0)) 16) := by unfold recvR; rw [if_neg hd0]
  have e21 : ∀ r, r < 24 → recvP f d (21 + r) = if r = m then recvS f d else f (21 + r) := fun r hr => by rw [e]; simp only [keepP, upd]; grind
  have hgs : ∀ k, k < 25 → g k = if k < m + 1 then recvP f d (21 + k) else 0 := fun k hk => by
    rw [hg k hk]
    by_cases e1 : k < m
    · rw [if_pos e1, if_pos (by omega), e21 k (by omega), if_neg (by omega)]
    · rw [if_neg e1]
      by_cases e2 : k = m
      · rw [if_pos e2, if_pos (by omega), e21 k (by omega), if_pos e2]
      · rw [if_neg e2, if_neg (by omega)]
  have e4 : recvP f d 4 = f 4 := by rw [e]; simp only [keepP, upd]; grind
  have hnl : ¬ f 4 < f 4 := i32_nlt.mpr (Int32.le_refl _)
  refine ⟨⟨hJ2, hs2, Rl_kept hJ2 hs2 hgs, er, by rw [e0]; exact Nat.le_refl _, ?_, ?_, ?_, ?_, Or.inl rfl, fun h => by cases h⟩, e0⟩
  · unfold wouldV
    rw [if_neg hd0, er, e0, Int32.sub_self, if_neg (by decide), e4, if_neg hnl]
  · rw [e]; simp only [keepP, upd]; grind
  · rw [Int32.add_zero, e]; simp only [keepP, upd]; grind
  · rw [if_neg (by decide), Int32.add_zero]; exact e4
theorem PO_B {n : Nat} {ch f d g : Nat → Int32} {m m' : Nat} (hJ : zCJ n ch f m) (hs : zsz f m) (hD : zDO n ch d) (hd : d 0 = 0) (h1 : zcnt (zb (recvS f d)) 16 = 1)
    (hJ' : zCJ n ch (peelP 24 (knowP (upd f 2 (f 2 + 1)) (zlow (recvS f d)) (recvV f d))) m') (hR : Rl g (peelP 24 (knowP (upd f 2 (f 2 + 1)) (zlow (recvS f d)) (recvV f d))) m') :
    PO n ch f d g m' (2 + nI (zcnt (zb (recvP f d 0)) 16) - nI (zcnt (zb (f 0)) 16)) 0 ∧ recvP f d = peelP 24 (knowP (upd f 2 (f 2 + 1)) (zlow (recvS f d)) (recvV f d)) := by
  have hd0 : ¬ ¬ d 0 = 0 := fun h => h hd
  obtain ⟨c1, c2, c3, c4⟩ := recv_one hJ hD h1
  have hn := hJ.1
  have e : recvP f d = peelP 24 (knowP (upd f 2 (f 2 + 1)) (zlow (recvS f d)) (recvV f d)) := by
    unfold recvP
    rw [if_neg hd0, if_pos h1]
  rw [← e] at hJ' hR
  have hI : zCI n ch (recvP f d) := zCI_recv ⟨m, hJ, hs⟩ hD
  obtain ⟨m2, hJ2, hs2⟩ := hI
  have em : m2 = m' := (nI_eq (by have := hJ2.2.1; omega) (by have := hJ'.2.1; omega)).mp (hJ2.2.2.1.symm.trans hJ'.2.2.1)
  subst em
  have er : recvR f d = nI (zcnt (zb (recvP f d 0)) 16) - nI (zcnt (zb (f 0)) 16) := by unfold recvR; rw [if_neg hd0]
  have h0 : knowP (upd f 2 (f 2 + 1)) (zlow (recvS f d)) (recvV f d) 0 = f 0 ||| bt (zlow (recvS f d)) := (knowP_at (f := upd f 2 (f 2 + 1)) (v := recvV f d) (show zlow (recvS f d) < 16 by omega)).1
  have hlt : zcnt (zb (f 0)) 16 + 1 ≤ zcnt (zb (recvP f d 0)) 16 := by
    rw [← zcnt_or_bt (show zlow (recvS f d) < 16 by omega) c3, ← h0, e]
    exact zcnt_sb (fun k _ hk => peelP_0 24 _ hk)
  have hA := zcnt_le (zb (recvP f d 0)) 16
  have e24 : ∀ k, 2 ≤ k → k < 5 → recvP f d k = upd f 2 (f 2 + 1) k := fun k a b => by
    rw [e, peelP_4 ⟨a, b⟩, knowP_4 k ⟨by omega, b⟩]
  have hV : (2 : Int32) + nI (zcnt (zb (recvP f d 0)) 16) - nI (zcnt (zb (f 0)) 16) = nI (2 + zcnt (zb (recvP f d 0)) 16 - zcnt (zb (f 0)) 16) := by
    rw [show (2 : Int32) = nI 2 from rfl, nI_add, pk_sub (by omega)]
  have hV1 : ¬ (2 : Int32) + nI (zcnt (zb (recvP f d 0)) 16) - nI (zcnt (zb (f 0)) 16) = 1 := fun h => by
    rw [hV] at h
    have := (nI_eq (b := 1) (by omega) (by decide)).mp h
    omega
  refine ⟨⟨hJ2, hs2, hR, er, by omega, ?_, by rw [e24 2 (by omega) (by omega)]; rfl, by rw [e24 3 (by omega) (by omega), Int32.add_zero]; rfl, ?_, Or.inl rfl, fun h => by cases h⟩, e⟩
  · unfold wouldV
    rw [if_neg hd0, er, pk_sub (by omega), if_pos (show (0 : Int32) < nI (zcnt (zb (recvP f d 0)) 16 - zcnt (zb (f 0)) 16) from nI_lt (a := 0) (by omega) (by omega)), hV, show (2 : Int32) = nI 2 from rfl, nI_add]
    congr 1
    omega
  · rw [if_neg hV1, Int32.add_zero, e24 4 (by omega) (by omega)]
    rfl
theorem cupR_up4 {r f : Nat → Int32} {i : Nat} {v : Int32} (hf : ∀ j, 69 ≤ j → f j = 0) : cupR (upd (putC r i f) 4 v) i = f := by
  rw [cupR_upd (by omega), cupR_putC hf]
theorem LQ_pour {t n cn : Nat} {bk r g : Nat → Int32} {i sd m' : Nat} {V LO : Int32} (hQ : LQ t n cn bk r) (ht : t < 2 ^ 29) (hi : i < cn) (hPO : PO n (chR r) (cupR r i) (dPR r sd) g m' V LO) : LQ (t + 1) n cn bk (upd (putC r i (recvP (cupR r i) (dPR r sd))) 4 (r 4 + 1)) := by
  obtain ⟨w, ls, p, h0, hw, h1, hl, h2, hn0, hn, h3, hc0, hc, h4, hp, hI, hz, hbk, hk⟩ := id hQ
  have hD : zDO n (chR r) (dPR r sd) := dPR_DO h2 hn0 hn
  have hhi : ∀ j, 69 ≤ j → recvP (cupR r i) (dPR r sd) j = 0 := fun j hj => (recvP_hi (hI i (by omega)) hD j hj).trans (cupR_hi r i j hj)
  have hup : ∀ j, j < 21 → j ≠ 4 → upd (putC r i (recvP (cupR r i) (dPR r sd))) 4 (r 4 + 1) j = r j := fun j hj h => by
    simp only [upd]
    rw [if_neg h, putC_lo hj]
  have hch : chR (upd (putC r i (recvP (cupR r i) (dPR r sd))) 4 (r 4 + 1)) = chR r := by rw [chR_upd (by omega), chR_putC]
  obtain ⟨a1, a2, a3, a4, a5, a6, a7, a8, a9, a10, a11⟩ := hPO
  refine ⟨w, ls, p + 1, by rw [hup 0 (by omega) (by omega)]; exact h0, hw, by rw [hup 1 (by omega) (by omega)]; exact h1, hl, by rw [hup 2 (by omega) (by omega)]; exact h2, hn0, hn, by rw [hup 3 (by omega) (by omega)]; exact h3, hc0, hc, ?_, by omega, ?_, ?_, ?_, ?_⟩
  · simp only [upd, if_true]
    rw [h4, nI_1]
  · intro k hk3
    rw [hch]
    by_cases e : k = i
    · subst e; rw [cupR_up4 hhi]; exact ⟨m', a1, a2⟩
    · rw [cupR_upd (by omega), cupR_putC_ne e]; exact hI k hk3
  · intro k g1 g2
    rw [cupR_upd (by omega), cupR_putC_ne (by omega)]; exact hz k g1 g2
  · rw [hch]; exact hbk
  · intro k hk3
    by_cases e : k = i
    · subst e
      rw [cupR_up4 hhi]
      obtain ⟨a, b, d, g1, g2, g3, g4, g5⟩ := hk k hk3
      rw [a7, a8, a9, g1, g2, g3, nI_1]
      rcases a10 with e | e
      · subst e
        rw [Int32.add_zero]
        by_cases eV : V = 1
        · rw [if_pos eV, nI_1]
          exact ⟨a + 1, b, d + 1, rfl, rfl, rfl, by omega, by omega⟩
        · rw [if_neg eV, Int32.add_zero]
          exact ⟨a + 1, b, d, rfl, rfl, rfl, by omega, by omega⟩
      · have := a11 e
        subst e
        rw [if_neg this, Int32.add_zero, nI_1]
        exact ⟨a + 1, b + 1, d, rfl, rfl, rfl, by omega, by omega⟩
    · rw [cupR_upd (by omega), cupR_putC_ne e]
      obtain ⟨a, b, d, g1, g2, g3, g4, g5⟩ := hk k hk3
      exact ⟨a, b, d, g1, g2, g3, g4, by omega⟩
theorem zcnt_s0 {p : Nat → Bool} {k : Nat} (h : p k = false) : zcnt p (k + 1) = zcnt p k := by
  show zcnt p k + (if p k = true then 1 else 0) = zcnt p k
  rw [h]; simp
theorem zcnt_s1 {p : Nat → Bool} {k : Nat} (h : p k = true) : zcnt p (k + 1) = zcnt p k + 1 := by
  show zcnt p k + (if p k = true then 1 else 0) = zcnt p k + 1
  rw [h]; simp
theorem nz_on {g f : Nat → Int32} {m k : Nat} (hR : Rl g f m) (hk : k < 25) (h : ¬ lft g (f 0) k = 0) : nzS g k = true ∧ k < 24 ∧ zcnt (nzS g) k < m ∧ f (21 + zcnt (nzS g) k) = lft g (f 0) k := by
  have hg : g k ≠ 0 := fun e => h (by unfold lft; rw [e]; apply zb_ext; intro j _; rw [zb_and, zb_zero]; rfl)
  have hz : nzS g k = true := by simp [nzS, hg]
  have h24 : k < 24 := by
    rcases Nat.lt_or_ge k 24 with g1 | g1
    · exact g1
    · exact absurd (by rw [show k = 24 by omega]; exact hR.1) hg
  exact ⟨hz, h24, by rw [← hR.2.1]; exact zcnt_lt hz h24, hR.2.2 k h24 hg⟩
theorem nz_off {g f : Nat → Int32} {m k : Nat} (hR : Rl g f m) (hs : zsz f m) (hk : k < 25) (h : lft g (f 0) k = 0) : nzS g k = false := by
  cases hz : nzS g k with
  | false => rfl
  | true =>
    exfalso
    have hg : g k ≠ 0 := by simpa [nzS] using hz
    have h24 : k < 24 := by
      rcases Nat.lt_or_ge k 24 with g1 | g1
      · exact g1
      · exact absurd (by rw [show k = 24 by omega]; exact hR.1) hg
    have h1 := hR.2.2 k h24 hg
    have h2 := hs (zcnt (nzS g) k) (by rw [← hR.2.1]; exact zcnt_lt hz h24)
    rw [h1, h] at h2
    have h0 : zcnt (zb 0) 16 = 0 := by decide
    omega
theorem nz_all {g f : Nat → Int32} {m : Nat} (hR : Rl g f m) : zcnt (nzS g) 25 = m := by
  have : nzS g 24 = false := by simp [nzS, hR.1]
  rw [zcnt_s0 this, hR.2.1]
theorem frP {x p : Nat} {G0 G G1 : zG} (h : ∀ y, x + 134 ≤ y → y ≠ p → G y = G0 y) (h1 : zFr x G G1) : ∀ y, x + 134 ≤ y → y ≠ p → G1 y = G0 y := fun y hy hn => (h1 y (by omega)).trans (h y hy hn)
theorem frG {x p : Nat} {G G1 : zG} {g : Nat → Int32} (hx : x + 135 ≤ p) (h : G p = g) (h1 : zFr x G G1) : G1 p = g := (h1 p (by omega)).trans h
end
section
set_option maxRecDepth 100000 in
set_option maxHeartbeats 4000000 in
theorem lp_po3 (l : Launch) (D : zD) (B : Nat) {L : zL} {nx : Nat} {G : zG} {x p t n cn c tn i sd m2 : Nat} {r2 f f2 ch g : Nat → Int32} {h : Nat → (Nat → Int32)} {sl : Nat → Option (Nat → Int32)} {T : Nat → Nat} {q : zQ} {r4 V LO RV : Int32} {l4 l11 : Option Value} (hS2 : SI t r2) (h23 : r2 3 = nI cn) (hc : cn ≤ 3) (hi : i < cn) (hcu : cupR r2 i = f2) (hp : (p, 125) ∈ L) (hxp : x + 135 ≤ p) (hJ2 : zCJ n ch f2 m2) (hs2 : zsz f2 m2) (hRl : Rl g f2 m2) (kk : ∀ G1 (l18 : Option Value), zRC L x nx G1 r2 h c sl T tn → (∀ y, x + 134 ≤ y → y ≠ p → G1 y = G y) → G1 p = g → zV l (fun _ => True) D B RL "poured" cL_poured 19 (some .boolean) (zrm 6 140 1 25) (fun v L' nx' G' k n => q v L' nx' G' ∧ k ≤ 1 ∧ n ≤ 25) 1 25 L nx 330 [some (.ref x), some (.int (nI i)), some (.int (nI sd)), some (.int (f 0)), l4, some (.int (f 2)), some (.int (f 3)), some (.int (f 4)), some (.int r4), some (.int V), some (.int LO), l11, some (.ref p), some (.int (f2 0)), some (.int V), some (.int RV), some (.int (nI m2)), some (.int (nI 25)), l18] [] G1) : ∀ k : Nat, k ≤ 25 → ∀ G1 (l18 : Option Value), zRC L x nx G1 r2 h c sl T tn → (∀ y, x + 134 ≤ y → y ≠ p → G1 y = G y) → G1 p = g → zV l (fun _ => True) D B RL "poured" cL_poured 19 (some .boolean) (zrm 6 140 1 25) (fun v L' nx' G' k n => q v L' nx' G' ∧ k ≤ 1 ∧ n ≤ 25) 1 25 L nx 282 [some (.ref x), some (.int (nI i)), some (.int (nI sd)), some (.int (f 0)), l4, some (.int (f 2)), some (.int (f 3)), some (.int (f 4)), some (.int r4), some (.int V), some (.int LO), l11, some (.ref p), some (.int (f2 0)), some (.int V), some (.int RV), some (.int (nI (zcnt (nzS g) k))), some (.int (nI k)), l18] [] G1 := by
  refine zloop 25 (fun k hk ih G1 l18 hR hF hgp => ?_)
  refine zv_iload dL_poured_282 rfl ?_
  refine zv_bipush (v := 25) dL_poured_284 (by decide) ?_
  refine zv_icmp_ge (tgt := 330) dL_poured_286 (by decide) (fun c286 => ?_) (fun c286 => ?_)
  · have e : k = 25 := by have := zge_of (N := 25) (by decide) (by omega) rfl c286; omega
    subst e
    rw [nz_all hRl]
    exact kk _ _ hR hF hgp
  · have hlt : k < 25 := zlt_of (N := 25) (by decide) (by omega) rfl c286
    refine zv_aload dL_poured_289 rfl ?_
    refine zv_iload dL_poured_291 rfl ?_
    refine zv_iald (q := p) (r := 0) (i := 0) hp rfl (zix_nI (show k < 25 by omega) (by decide)) dL_poured_293 ?_
    rw [Nat.zero_add, hgp]
    refine zv_iload dL_poured_294 rfl ?_
    refine zv_iconst (v := (-1)) dL_poured_296 (by decide) ?_
    refine zv_ixor dL_poured_297 ?_
    refine zv_iand dL_poured_298 ?_
    refine zv_istore dL_poured_299 (by decide) rfl ?_
    refine zv_iload dL_poured_301 rfl ?_
    refine zv_if_eq (tgt := 324) dL_poured_303 (by decide) (fun c303 => ?_) (fun c303 => ?_)
    · have hz := nz_off hRl hs2 hlt c303
      refine zv_iinc1 dL_poured_324 rfl (by decide) rfl ?_
      refine zv_goto (tgt := 282) dL_poured_327 (by decide) ?_
      rw [nI_1, ← zcnt_s0 hz]
      exact ih hlt _ _ hR hF hgp
    · obtain ⟨hz, h24, hrk, hrow⟩ := nz_on hRl hlt c303
      refine zv_aload_n dL_poured_306 rfl ?_
      refine zv_iload_n dL_poured_307 rfl ?_
      refine zv_iload dL_poured_308 rfl ?_
      refine zv_iconst (v := 0) dL_poured_310 (by decide) ?_
      refine zv_callV (m_X6_kept l D B hR.1 hR.2.1 hS2 (nI i) (nI (zcnt (nzS g) k)) 0) ml_L_34 in_X6_kept sel_X6_kept hR.1.1 rfl rfl rfl rfl (Nat.le_of_ble_eq_true rfl) dL_poured_311 ⟨Nat.le_of_ble_eq_true rfl, Nat.le_of_ble_eq_true rfl⟩ ⟨Nat.le_refl _, Nat.le_refl _⟩ (zk_p fun G1 hG1 => ?_)
      replace hF := frP hF hG1.2
      replace hgp := frG hxp hgp hG1.2
      replace hR := (zRC_fr hR hG1.1 hG1.2).1
      clear hG1
      rw [(qKe_at h23 hc hi (by rw [hcu]; exact hJ2.2.2.1) hJ2.2.1 hrk).1, hcu]
      refine zv_iload dL_poured_314 rfl ?_
      refine zv_icmp_eq (tgt := 321) dL_poured_316 (by decide) (fun _ => ?_) (fun h => absurd (hrow) h)
      refine zv_iinc1 dL_poured_321 rfl (by decide) rfl ?_
      refine zv_iinc1 dL_poured_324 rfl (by decide) rfl ?_
      refine zv_goto (tgt := 282) dL_poured_327 (by decide) ?_
      rw [nI_1, nI_1, ← zcnt_s1 hz]
      exact ih hlt _ _ hR hF hgp

set_option maxRecDepth 100000 in
set_option maxHeartbeats 4000000 in
theorem ep_po3 (l : Launch) (D : zD) (B : Nat) {L : zL} {nx : Nat} {G : zG} {x p t n cn c tn i sd m2 : Nat} {r2 f f2 ch g : Nat → Int32} {h : Nat → (Nat → Int32)} {sl : Nat → Option (Nat → Int32)} {T : Nat → Nat} {q : zQ} {r4 V LO RV : Int32} {l4 l11 : Option Value} {G1 : zG} {l16 l17 l18 : Option Value} (hR : zRC L x nx G1 r2 h c sl T tn) (hF : ∀ y, x + 134 ≤ y → y ≠ p → G1 y = G y) (hgp : G1 p = g) (hS2 : SI t r2) (h23 : r2 3 = nI cn) (hc : cn ≤ 3) (hi : i < cn) (hcu : cupR r2 i = f2) (hp : (p, 125) ∈ L) (hxp : x + 135 ≤ p) (hJ2 : zCJ n ch f2 m2) (hs2 : zsz f2 m2) (hRl : Rl g f2 m2) (a7 : f2 2 = f 2 + 1) (a8 : f2 3 = f 3 + LO) (a9 : f2 4 = f 4 + (if V = 1 then 1 else 0)) (hLO : LO = 0 ∨ LO = 1) (h24 : r2 4 = r4 + 1) (hRV : RV = nI (zcnt (zb (f2 0)) 16) - nI (zcnt (zb (f 0)) 16)) (kfin : ∀ G1, zRC L x nx G1 r2 h c sl T tn → (∀ y, x + 134 ≤ y → y ≠ p → G1 y = G y) → q (some (.int 1)) L nx G1) : zV l (fun _ => True) D B RL "poured" cL_poured 19 (some .boolean) (zrm 6 140 1 25) (fun v L' nx' G' k n => q v L' nx' G' ∧ k ≤ 1 ∧ n ≤ 25) 1 25 L nx 229 [some (.ref x), some (.int (nI i)), some (.int (nI sd)), some (.int (f 0)), l4, some (.int (f 2)), some (.int (f 3)), some (.int (f 4)), some (.int r4), some (.int V), some (.int LO), l11, some (.ref p), some (.int (f2 0)), some (.int V), some (.int RV), l16, l17, l18] [] G1 := by
  refine zv_iload dL_poured_229 rfl ?_
  refine zv_iload dL_poured_231 rfl ?_
  refine zv_icmp_ne (tgt := 274) dL_poured_233 (by decide) (fun h => absurd (rfl) h) (fun _ => ?_)
  refine zv_iload dL_poured_236 rfl ?_
  refine zv_iload dL_poured_238 rfl ?_
  refine zv_callS (m_L_size l D B _) ml_L_25 st_L_size rfl rfl (Nat.le_of_ble_eq_true rfl) dL_poured_240 ⟨Nat.le_of_ble_eq_true rfl, Nat.le_of_ble_eq_true rfl⟩ ⟨Nat.le_refl _, Nat.le_refl _⟩ (zk_i ?_)
  refine zv_iload_n dL_poured_243 rfl ?_
  refine zv_callS (m_L_size l D B _) ml_L_25 st_L_size rfl rfl (Nat.le_of_ble_eq_true rfl) dL_poured_244 ⟨Nat.le_of_ble_eq_true rfl, Nat.le_of_ble_eq_true rfl⟩ ⟨Nat.le_refl _, Nat.le_refl _⟩ (zk_i ?_)
  refine zv_isub dL_poured_247 ?_
  refine zv_icmp_ne (tgt := 274) dL_poured_248 (by decide) (fun h => absurd (hRV) h) (fun _ => ?_)
  refine zv_aload_n dL_poured_251 rfl ?_
  refine zv_iload_n dL_poured_252 rfl ?_
  refine zv_iconst (v := 0) dL_poured_253 (by decide) ?_
  refine zv_callV (m_X6_ofCup l D B hR.1 hR.2.1 hS2 (nI i) 0) ml_L_28 in_X6_ofCup sel_X6_ofCup hR.1.1 rfl rfl rfl rfl (Nat.le_of_ble_eq_true rfl) dL_poured_254 ⟨Nat.le_of_ble_eq_true rfl, Nat.le_of_ble_eq_true rfl⟩ ⟨Nat.le_refl _, Nat.le_refl _⟩ (zk_p fun G1 hG1 => ?_)
  replace hF := frP hF hG1.2
  replace hgp := frG hxp hgp hG1.2
  replace hR := (zRC_fr hR hG1.1 hG1.2).1
  clear hG1
  rw [qOf_at h23 hc hi, qOf_0, hcu]
  refine zv_iload dL_poured_257 rfl ?_
  refine zv_icmp_ne (tgt := 274) dL_poured_259 (by decide) (fun h => absurd (rfl) h) (fun _ => ?_)
  refine zv_aload_n dL_poured_262 rfl ?_
  refine zv_iconst (v := 3) dL_poured_263 (by decide) ?_
  refine zv_callV (m_X6_count l D B hR.1 hR.2.1 hS2 3 _ _ rfl rfl) ml_L_10 in_X6_count sel_X6_count hR.1.1 rfl rfl rfl rfl (Nat.le_of_ble_eq_true rfl) dL_poured_264 ⟨Nat.le_of_ble_eq_true rfl, Nat.le_of_ble_eq_true rfl⟩ ⟨Nat.le_refl _, Nat.le_refl _⟩ (zk_p fun G1 hG1 => ?_)
  replace hF := frP hF hG1.2
  replace hgp := frG hxp hgp hG1.2
  replace hR := (zRC_fr hR hG1.1 hG1.2).1
  clear hG1
  rw [qCo_3, h24]
  refine zv_iload dL_poured_267 rfl ?_
  refine zv_iconst (v := 1) dL_poured_269 (by decide) ?_
  refine zv_iadd dL_poured_270 ?_
  refine zv_icmp_eq (tgt := 276) dL_poured_271 (by decide) (fun _ => ?_) (fun h => absurd (rfl) h)
  refine zv_iconst (v := 0) dL_poured_276 (by decide) ?_
  refine zv_istore dL_poured_277 (by decide) rfl ?_
  refine zv_iconst (v := 0) dL_poured_279 (by decide) ?_
  refine zv_istore dL_poured_280 (by decide) rfl ?_
  refine lp_po3 l D B hS2 h23 hc hi hcu hp hxp hJ2 hs2 hRl (fun G1 l18 hR hF hgp => ?_) 0 (Nat.zero_le _) _ _ hR hF hgp
  refine zv_aload_n dL_poured_330 rfl ?_
  refine zv_iload_n dL_poured_331 rfl ?_
  refine zv_iconst (v := 1) dL_poured_332 (by decide) ?_
  refine zv_callV (m_X6_ofCup l D B hR.1 hR.2.1 hS2 (nI i) 1) ml_L_28 in_X6_ofCup sel_X6_ofCup hR.1.1 rfl rfl rfl rfl (Nat.le_of_ble_eq_true rfl) dL_poured_333 ⟨Nat.le_of_ble_eq_true rfl, Nat.le_of_ble_eq_true rfl⟩ ⟨Nat.le_refl _, Nat.le_refl _⟩ (zk_p fun G1 hG1 => ?_)
  replace hF := frP hF hG1.2
  replace hgp := frG hxp hgp hG1.2
  replace hR := (zRC_fr hR hG1.1 hG1.2).1
  clear hG1
  rw [qOf_at h23 hc hi, qOf_1, hcu]
  refine zv_iload dL_poured_336 rfl ?_
  refine zv_icmp_ne (tgt := 403) dL_poured_338 (by decide) (fun h => absurd (hJ2.2.2.1) h) (fun _ => ?_)
  refine zv_aload_n dL_poured_341 rfl ?_
  refine zv_iload_n dL_poured_342 rfl ?_
  refine zv_iconst (v := 2) dL_poured_343 (by decide) ?_
  refine zv_callV (m_X6_ofCup l D B hR.1 hR.2.1 hS2 (nI i) 2) ml_L_28 in_X6_ofCup sel_X6_ofCup hR.1.1 rfl rfl rfl rfl (Nat.le_of_ble_eq_true rfl) dL_poured_344 ⟨Nat.le_of_ble_eq_true rfl, Nat.le_of_ble_eq_true rfl⟩ ⟨Nat.le_refl _, Nat.le_refl _⟩ (zk_p fun G1 hG1 => ?_)
  replace hF := frP hF hG1.2
  replace hgp := frG hxp hgp hG1.2
  replace hR := (zRC_fr hR hG1.1 hG1.2).1
  clear hG1
  rw [qOf_at h23 hc hi, qOf_2, hcu]
  refine zv_iload dL_poured_347 rfl ?_
  refine zv_iconst (v := 1) dL_poured_349 (by decide) ?_
  refine zv_iadd dL_poured_350 ?_
  refine zv_icmp_ne (tgt := 403) dL_poured_351 (by decide) (fun h => absurd (a7) h) (fun _ => ?_)
  refine zv_aload_n dL_poured_354 rfl ?_
  refine zv_iload_n dL_poured_355 rfl ?_
  refine zv_iconst (v := 3) dL_poured_356 (by decide) ?_
  refine zv_callV (m_X6_ofCup l D B hR.1 hR.2.1 hS2 (nI i) 3) ml_L_28 in_X6_ofCup sel_X6_ofCup hR.1.1 rfl rfl rfl rfl (Nat.le_of_ble_eq_true rfl) dL_poured_357 ⟨Nat.le_of_ble_eq_true rfl, Nat.le_of_ble_eq_true rfl⟩ ⟨Nat.le_refl _, Nat.le_refl _⟩ (zk_p fun G1 hG1 => ?_)
  replace hF := frP hF hG1.2
  replace hgp := frG hxp hgp hG1.2
  replace hR := (zRC_fr hR hG1.1 hG1.2).1
  clear hG1
  rw [qOf_at h23 hc hi, qOf_3, hcu]
  rcases hLO with hLO | hLO
  · subst hLO
    refine zv_iload dL_poured_360 rfl ?_
    refine zv_iload dL_poured_362 rfl ?_
    refine zv_if_eq (tgt := 371) dL_poured_364 (by decide) (fun _ => ?_) (fun h => absurd (rfl) h)
    refine zv_iconst (v := 0) dL_poured_371 (by decide) ?_
    refine zv_iadd dL_poured_372 ?_
    refine zv_icmp_ne (tgt := 403) dL_poured_373 (by decide) (fun h => absurd (a8) h) (fun _ => ?_)
    refine zv_aload_n dL_poured_376 rfl ?_
    refine zv_iload_n dL_poured_377 rfl ?_
    refine zv_iconst (v := 4) dL_poured_378 (by decide) ?_
    refine zv_callV (m_X6_ofCup l D B hR.1 hR.2.1 hS2 (nI i) 4) ml_L_28 in_X6_ofCup sel_X6_ofCup hR.1.1 rfl rfl rfl rfl (Nat.le_of_ble_eq_true rfl) dL_poured_379 ⟨Nat.le_of_ble_eq_true rfl, Nat.le_of_ble_eq_true rfl⟩ ⟨Nat.le_refl _, Nat.le_refl _⟩ (zk_p fun G1 hG1 => ?_)
    replace hF := frP hF hG1.2
    replace hgp := frG hxp hgp hG1.2
    replace hR := (zRC_fr hR hG1.1 hG1.2).1
    clear hG1
    rw [qOf_at h23 hc hi, qOf_4, hcu]
    refine zv_iload dL_poured_382 rfl ?_
    refine zv_iload dL_poured_384 rfl ?_
    refine zv_iconst (v := 1) dL_poured_386 (by decide) ?_
    refine zv_icmp_ne (tgt := 394) dL_poured_387 (by decide) (fun c387 => ?_) (fun c387 => ?_)
    · refine zv_iconst (v := 0) dL_poured_394 (by decide) ?_
      refine zv_iadd dL_poured_395 ?_
      refine zv_icmp_ne (tgt := 403) dL_poured_396 (by decide) (fun h => absurd (a9.trans (by rw [if_neg c387])) h) (fun _ => ?_)
      refine zv_iconst (v := 1) dL_poured_399 (by decide) ?_
      refine zv_goto (tgt := 404) dL_poured_400 (by decide) ?_
      exact zv_iret dL_poured_404 rfl rfl ⟨kfin _ hR hF, Nat.le_refl _, Nat.le_refl _⟩
    · refine zv_iconst (v := 1) dL_poured_390 (by decide) ?_
      refine zv_goto (tgt := 395) dL_poured_391 (by decide) ?_
      refine zv_iadd dL_poured_395 ?_
      refine zv_icmp_ne (tgt := 403) dL_poured_396 (by decide) (fun h => absurd (a9.trans (by rw [if_pos c387])) h) (fun _ => ?_)
      refine zv_iconst (v := 1) dL_poured_399 (by decide) ?_
      refine zv_goto (tgt := 404) dL_poured_400 (by decide) ?_
      exact zv_iret dL_poured_404 rfl rfl ⟨kfin _ hR hF, Nat.le_refl _, Nat.le_refl _⟩
  · subst hLO
    refine zv_iload dL_poured_360 rfl ?_
    refine zv_iload dL_poured_362 rfl ?_
    refine zv_if_eq (tgt := 371) dL_poured_364 (by decide) (fun h => absurd h (by decide)) (fun _ => ?_)
    refine zv_iconst (v := 1) dL_poured_367 (by decide) ?_
    refine zv_goto (tgt := 372) dL_poured_368 (by decide) ?_
    refine zv_iadd dL_poured_372 ?_
    refine zv_icmp_ne (tgt := 403) dL_poured_373 (by decide) (fun h => absurd (a8) h) (fun _ => ?_)
    refine zv_aload_n dL_poured_376 rfl ?_
    refine zv_iload_n dL_poured_377 rfl ?_
    refine zv_iconst (v := 4) dL_poured_378 (by decide) ?_
    refine zv_callV (m_X6_ofCup l D B hR.1 hR.2.1 hS2 (nI i) 4) ml_L_28 in_X6_ofCup sel_X6_ofCup hR.1.1 rfl rfl rfl rfl (Nat.le_of_ble_eq_true rfl) dL_poured_379 ⟨Nat.le_of_ble_eq_true rfl, Nat.le_of_ble_eq_true rfl⟩ ⟨Nat.le_refl _, Nat.le_refl _⟩ (zk_p fun G1 hG1 => ?_)
    replace hF := frP hF hG1.2
    replace hgp := frG hxp hgp hG1.2
    replace hR := (zRC_fr hR hG1.1 hG1.2).1
    clear hG1
    rw [qOf_at h23 hc hi, qOf_4, hcu]
    refine zv_iload dL_poured_382 rfl ?_
    refine zv_iload dL_poured_384 rfl ?_
    refine zv_iconst (v := 1) dL_poured_386 (by decide) ?_
    refine zv_icmp_ne (tgt := 394) dL_poured_387 (by decide) (fun c387 => ?_) (fun c387 => ?_)
    · refine zv_iconst (v := 0) dL_poured_394 (by decide) ?_
      refine zv_iadd dL_poured_395 ?_
      refine zv_icmp_ne (tgt := 403) dL_poured_396 (by decide) (fun h => absurd (a9.trans (by rw [if_neg c387])) h) (fun _ => ?_)
      refine zv_iconst (v := 1) dL_poured_399 (by decide) ?_
      refine zv_goto (tgt := 404) dL_poured_400 (by decide) ?_
      exact zv_iret dL_poured_404 rfl rfl ⟨kfin _ hR hF, Nat.le_refl _, Nat.le_refl _⟩
    · refine zv_iconst (v := 1) dL_poured_390 (by decide) ?_
      refine zv_goto (tgt := 395) dL_poured_391 (by decide) ?_
      refine zv_iadd dL_poured_395 ?_
      refine zv_icmp_ne (tgt := 403) dL_poured_396 (by decide) (fun h => absurd (a9.trans (by rw [if_pos c387])) h) (fun _ => ?_)
      refine zv_iconst (v := 1) dL_poured_399 (by decide) ?_
      refine zv_goto (tgt := 404) dL_poured_400 (by decide) ?_
      exact zv_iret dL_poured_404 rfl rfl ⟨kfin _ hR hF, Nat.le_refl _, Nat.le_refl _⟩

set_option maxRecDepth 100000 in
set_option maxHeartbeats 4000000 in
theorem ep_po2 (l : Launch) (D : zD) (B : Nat) {L : zL} {nx : Nat} {G : zG} {x p t n cn c tn i sd m2 : Nat} {r bk g : Nat → Int32} {h : Nat → (Nat → Int32)} {sl : Nat → Option (Nat → Int32)} {T : Nat → Nat} {q : zQ} {V LO th : Int32} {l4 l11 l15 l16 l17 l18 : Option Value} {G1 : zG} (hR : zRC L x nx G1 r h c sl T tn) (hF : ∀ y, x + 134 ≤ y → y ≠ p → G1 y = G y) (hgp : G1 p = g) (hQ : LQ t n cn bk r) (ht : t < 2 ^ 29) (hi : i < cn) (hsd : sd < 65536) (hp : (p, 125) ∈ L) (hxp : x + 135 ≤ p) (hPO : PO n (chR r) (cupR r i) (dPR r sd) g m2 V LO) (hth : recvP (cupR r i) (dPR r sd) 0 = th) (kfin : ∀ G1 r' h' c', zRC L x nx G1 r' h' c' sl T tn → (∀ y, x + 134 ≤ y → y ≠ p → G1 y = G y) → LQ (t + 1) n cn bk r' → q (some (.int 1)) L nx G1) : zV l (fun _ => True) D B RL "poured" cL_poured 19 (some .boolean) (zrm 6 140 1 25) (fun v L' nx' G' k n => q v L' nx' G' ∧ k ≤ 1 ∧ n ≤ 25) 1 25 L nx 220 [some (.ref x), some (.int (nI i)), some (.int (nI sd)), some (.int (cupR r i 0)), l4, some (.int (cupR r i 2)), some (.int (cupR r i 3)), some (.int (cupR r i 4)), some (.int (r 4)), some (.int (wouldV (cupR r i) (dPR r sd))), some (.int LO), l11, some (.ref p), some (.int th), some (.int V), l15, l16, l17, l18] [] G1 := by
  have hS := LQ_SI hQ
  obtain ⟨w, ls, pp, h0, hw, h1, hl, h2, hn0, hn, h3, hc0, hc, h4, hpp, hI, hz, hbk, hk⟩ := id hQ
  have hQ2 := LQ_pour hQ ht hi hPO
  obtain ⟨a1, a2, a3, a4, a5, a6, a7, a8, a9, a10, a11⟩ := id hPO
  have hD : zDO n (chR r) (dPR r sd) := dPR_DO h2 hn0 hn
  have hcu : cupR (upd (putC r i (recvP (cupR r i) (dPR r sd))) 4 (r 4 + 1)) i = recvP (cupR r i) (dPR r sd) := cupR_up4 (fun j hj => (recvP_hi (hI i (by omega)) hD j hj).trans (cupR_hi r i j hj))
  have h23 : upd (putC r i (recvP (cupR r i) (dPR r sd))) 4 (r 4 + 1) 3 = nI cn := by
    simp only [upd]
    rw [if_neg (by omega), putC_lo (by omega)]
    exact h3
  have h24 : upd (putC r i (recvP (cupR r i) (dPR r sd))) 4 (r 4 + 1) 4 = r 4 + 1 := by simp only [upd, if_true]
  have hA := zcnt_le (zb (recvP (cupR r i) (dPR r sd) 0)) 16
  have hnn : ¬ (recvR (cupR r i) (dPR r sd), upd (putC r i (recvP (cupR r i) (dPR r sd))) 4 (r 4 + 1)).1 < 0 := by
    show ¬ recvR (cupR r i) (dPR r sd) < 0
    rw [a4, pk_sub a5]
    exact nI_pos (by omega)
  subst hth
  rw [a6]
  refine zv_aload_n dL_poured_220 rfl ?_
  refine zv_iload_n dL_poured_221 rfl ?_
  refine zv_iload_n dL_poured_222 rfl ?_
  refine zv_iconst (v := 1) dL_poured_223 (by decide) ?_
  refine zv_callV (m_X6_pour l D B hR hS (nI i) (nI sd) 1) ml_L_45 in_X6_pour sel_X6_pour hR.1.1 rfl rfl rfl rfl (Nat.le_of_ble_eq_true rfl) dL_poured_224 ⟨Nat.le_of_ble_eq_true rfl, Nat.le_of_ble_eq_true rfl⟩ ⟨Nat.le_refl _, Nat.le_refl _⟩ (zk_p fun G1 hG1 => ?_)
  rw [opPour_1 h2 hn0 hn h3 hc hi hsd] at hG1 ⊢
  rw [chg_pos hnn] at hG1
  dsimp only at hG1 ⊢
  obtain ⟨hR, hFp⟩ := hG1
  replace hgp := (hFp p (by omega)).trans hgp
  replace hF : (∀ y, x + 134 ≤ y → y ≠ p → G1 y = G y) := fun y hy hn => (hFp y hy).trans (hF y hy hn)
  refine zv_istore dL_poured_227 (by decide) rfl ?_
  exact ep_po3 l D B (t := t + 1) hR hF hgp (LQ_SI hQ2) h23 hc hi hcu hp hxp a1 a2 a3 a7 a8 a9 a10 h24 a4 (fun G1 hR hF => kfin G1 _ _ _ hR hF hQ2)

set_option maxRecDepth 100000 in
set_option maxHeartbeats 4000000 in
theorem lp_po2 (l : Launch) (D : zD) (B : Nat) {L : zL} {nx : Nat} {G : zG} {q : zQ} {s : Int32} {ci : Nat} {l0 l1 l2 l3 l4 l5 l6 l7 l8 l9 l10 l12 l13 l16 l17 l18 : Option Value} {v14 : Int32} (hs : ∀ j, j < 32 → zb s j = decide (j = ci)) (hci : ci < 16) (kk : zV l (fun _ => True) D B RL "poured" cL_poured 19 (some .boolean) (zrm 6 140 1 25) (fun v L' nx' G' k n => q v L' nx' G' ∧ k ≤ 1 ∧ n ≤ 25) 1 25 L nx 166 [l0, l1, l2, l3, l4, l5, l6, l7, l8, l9, l10, some (.int s), l12, l13, some (.int v14), some (.int (nI ci)), l16, l17, l18] [] G) : ∀ j : Nat, j ≤ ci → zV l (fun _ => True) D B RL "poured" cL_poured 19 (some .boolean) (zrm 6 140 1 25) (fun v L' nx' G' k n => q v L' nx' G' ∧ k ≤ 1 ∧ n ≤ 25) 1 25 L nx 150 [l0, l1, l2, l3, l4, l5, l6, l7, l8, l9, l10, some (.int s), l12, l13, some (.int v14), some (.int (nI j)), l16, l17, l18] [] G := by
  refine zloop ci (fun j hj ih => ?_)
  refine zv_iload dL_poured_150 rfl ?_
  refine zv_iload dL_poured_152 rfl ?_
  refine zv_ishr dL_poured_154 ?_
  refine zv_iconst (v := 1) dL_poured_155 (by decide) ?_
  refine zv_iand dL_poured_156 ?_
  rw [bI_sh (by omega), hs j (by omega)]
  refine zv_if_ne (tgt := 166) dL_poured_157 (by decide) (fun c157 => ?_) (fun c157 => ?_)
  · have e : j = ci := by
      rcases Nat.decEq j ci with h | h
      · exact absurd (by rw [decide_eq_false h]; rfl) c157
      · exact h
    subst e
    exact kk
  · have hlt : j < ci := by
      rcases Nat.decEq j ci with h | h
      · omega
      · rw [decide_eq_true h] at c157; exact absurd c157 (by decide)
    refine zv_iinc1 dL_poured_160 rfl (by decide) rfl ?_
    refine zv_goto (tgt := 150) dL_poured_163 (by decide) ?_
    rw [nI_1]
    exact ih hlt

set_option maxRecDepth 100000 in
set_option maxHeartbeats 4000000 in
theorem lp_po1 (l : Launch) (D : zD) (B : Nat) {L : zL} {nx : Nat} {G : zG} {x p t n cn c tn i sd m : Nat} {r bk g : Nat → Int32} {h : Nat → (Nat → Int32)} {sl : Nat → Option (Nat → Int32)} {T : Nat → Nat} {q : zQ} {l13 : Option Value} (hS : SI t r) (h3 : r 3 = nI cn) (hc : cn ≤ 3) (hi : i < cn) (hsl : ∀ j, j < 2 → sl j = none) (h1 : cupR r i 1 = nI m) (hm : m ≤ 24) (hp : (p, 125) ∈ L) (hxp : x + 135 ≤ p) (kk : ∀ G1, zRC L x nx G1 r h c sl T tn → (∀ y, x + 134 ≤ y → y ≠ p → G1 y = G y) → (∀ k, k < 25 → G1 p k = if k < m then cupR r i (21 + k) else 0) → zV l (fun _ => True) D B RL "poured" cL_poured 19 (some .boolean) (zrm 6 140 1 25) (fun v L' nx' G' k n => q v L' nx' G' ∧ k ≤ 1 ∧ n ≤ 25) 1 25 L nx 118 [some (.ref x), some (.int (nI i)), some (.int (nI sd)), some (.int (cupR r i 0)), some (.int (nI m)), some (.int (cupR r i 2)), some (.int (cupR r i 3)), some (.int (cupR r i 4)), some (.int (r 4)), some (.int (wouldV (cupR r i) (dPR r sd))), some (.int (bI (decide (dPR r sd 0 = 1)))), some (.int (recvS (cupR r i) (dPR r sd))), some (.ref p), some (.int (nI m)), none, none, none, none, none] [] G1) : ∀ j : Nat, j ≤ m → ∀ G1, zRC L x nx G1 r h c sl T tn → (∀ y, x + 134 ≤ y → y ≠ p → G1 y = G y) → (∀ k, k < 25 → G1 p k = if k < j then cupR r i (21 + k) else 0) → zV l (fun _ => True) D B RL "poured" cL_poured 19 (some .boolean) (zrm 6 140 1 25) (fun v L' nx' G' k n => q v L' nx' G' ∧ k ≤ 1 ∧ n ≤ 25) 1 25 L nx 92 [some (.ref x), some (.int (nI i)), some (.int (nI sd)), some (.int (cupR r i 0)), some (.int (nI m)), some (.int (cupR r i 2)), some (.int (cupR r i 3)), some (.int (cupR r i 4)), some (.int (r 4)), some (.int (wouldV (cupR r i) (dPR r sd))), some (.int (bI (decide (dPR r sd 0 = 1)))), some (.int (recvS (cupR r i) (dPR r sd))), some (.ref p), some (.int (nI j)), none, none, none, none, none] [] G1 := by
  refine zloop m (fun j hj ih G1 hR hF hg => ?_)
  refine zv_iload dL_poured_92 rfl ?_
  refine zv_iload dL_poured_94 rfl ?_
  refine zv_icmp_ge (tgt := 118) dL_poured_96 (by decide) (fun c96 => ?_) (fun c96 => ?_)
  · have e : j = m := by have := zge_of (N := m) (by omega) (by omega) rfl c96; omega
    subst e
    exact kk _ hR hF hg
  · have hlt : j < m := zlt_of (N := m) (by omega) (by omega) rfl c96
    have hgp : G1 p = G1 p := rfl
    generalize hgg : G1 p = gg at hg hgp
    replace hgp := hgg
    clear hgg
    refine zv_aload dL_poured_99 rfl ?_
    refine zv_iload dL_poured_101 rfl ?_
    refine zv_aload_n dL_poured_103 rfl ?_
    refine zv_iload_n dL_poured_104 rfl ?_
    refine zv_iload dL_poured_105 rfl ?_
    refine zv_iconst (v := 0) dL_poured_107 (by decide) ?_
    refine zv_callV (m_X6_kept l D B hR.1 hR.2.1 hS (nI i) (nI j) 0) ml_L_34 in_X6_kept sel_X6_kept hR.1.1 rfl rfl rfl rfl (Nat.le_of_ble_eq_true rfl) dL_poured_108 ⟨Nat.le_of_ble_eq_true rfl, Nat.le_of_ble_eq_true rfl⟩ ⟨Nat.le_refl _, Nat.le_refl _⟩ (zk_p fun G1 hG1 => ?_)
    replace hF := frP hF hG1.2
    replace hgp := frG hxp hgp hG1.2
    replace hR := (zRC_fr hR hG1.1 hG1.2).1
    clear hG1
    rw [(qKe_at h3 hc hi h1 hm hlt).1]
    refine zv_iast (q := p) (r := 0) (i := 0) hp rfl (zix_nI (show j < 25 by omega) (by decide)) dL_poured_111 ?_
    rw [Nat.zero_add, hgp]
    refine zv_iinc1 dL_poured_112 rfl (by decide) rfl ?_
    refine zv_goto (tgt := 92) dL_poured_115 (by decide) ?_
    rw [nI_1]
    refine ih hlt _ (zRC_to hR hsl (fun b hb => hb) (fun y hy => zst_ne _ _ (by omega))) (fun y hy hn => (zst_ne _ _ hn).trans (hF y hy hn)) (fun k hk => ?_)
    rw [zst_same]
    simp only [upd]
    by_cases ek : k = j
    · subst ek
      rw [if_pos rfl, if_pos (by omega)]
    · rw [if_neg ek, hg k hk]
      by_cases e2 : k < j
      · rw [if_pos e2, if_pos (by omega)]
      · rw [if_neg e2, if_neg (by omega)]

set_option maxRecDepth 100000 in
set_option maxHeartbeats 4000000 in
theorem ep_po1 (l : Launch) (D : zD) (B : Nat) {L : zL} {nx : Nat} {G : zG} {x p t n cn c tn i sd m : Nat} {r bk g : Nat → Int32} {h : Nat → (Nat → Int32)} {sl : Nat → Option (Nat → Int32)} {T : Nat → Nat} {q : zQ} {l13 : Option Value} {G1 : zG} (hR : zRC L x nx G1 r h c sl T tn) (hF : ∀ y, x + 134 ≤ y → y ≠ p → G1 y = G y) (hg : ∀ k, k < 25 → G1 p k = if k < m then cupR r i (21 + k) else 0) (hsl : ∀ j, j < 2 → sl j = none) (hQ : LQ t n cn bk r) (ht : t < 2 ^ 29) (hi : i < cn) (hsd : sd < 65536) (hp : (p, 125) ∈ L) (hxp : x + 135 ≤ p) (hJ : zCJ n (chR r) (cupR r i) m) (hs : zsz (cupR r i) m) (kfin : ∀ G1 r' h' c', zRC L x nx G1 r' h' c' sl T tn → (∀ y, x + 134 ≤ y → y ≠ p → G1 y = G y) → LQ (t + 1) n cn bk r' → q (some (.int 1)) L nx G1) : zV l (fun _ => True) D B RL "poured" cL_poured 19 (some .boolean) (zrm 6 140 1 25) (fun v L' nx' G' k n => q v L' nx' G' ∧ k ≤ 1 ∧ n ≤ 25) 1 25 L nx 118 [some (.ref x), some (.int (nI i)), some (.int (nI sd)), some (.int (cupR r i 0)), some (.int (nI m)), some (.int (cupR r i 2)), some (.int (cupR r i 3)), some (.int (cupR r i 4)), some (.int (r 4)), some (.int (wouldV (cupR r i) (dPR r sd))), some (.int (bI (decide (dPR r sd 0 = 1)))), some (.int (recvS (cupR r i) (dPR r sd))), some (.ref p), l13, none, none, none, none, none] [] G1 := by
  obtain ⟨w, ls, pp, h0, hw, h1, hl, h2, hn0, hn, h3, hc0, hc, h4, hpp, hI, hz, hbk, hk⟩ := id hQ
  have hD : zDO n (chR r) (dPR r sd) := dPR_DO h2 hn0 hn
  have hm := hJ.2.1
  obtain ⟨ka, kb, ku, k2, k3, k4, k5, k6⟩ := hk i (by omega)
  have hcl := zcnt_le (zb (recvS (cupR r i) (dPR r sd))) 16
  refine zv_iload_n dL_poured_118 rfl ?_
  refine zv_istore dL_poured_119 (by decide) rfl ?_
  rcases id hD.1 with hd0 | hd0
  · rw [hd0, show bI (decide ((0 : Int32) = 1)) = 0 by decide]
    refine zv_iload dL_poured_121 rfl ?_
    refine zv_if_eq (tgt := 130) dL_poured_123 (by decide) (fun _ => ?_) (fun h => absurd (rfl) h)
    refine zv_iconst (v := 1) dL_poured_130 (by decide) ?_
    refine zv_istore dL_poured_131 (by decide) rfl ?_
    refine zv_iload dL_poured_133 rfl ?_
    refine zv_if_ne (tgt := 193) dL_poured_135 (by decide) (fun h => absurd (rfl) h) (fun _ => ?_)
    refine zv_iload dL_poured_138 rfl ?_
    refine zv_callS (m_L_size l D B _) ml_L_25 st_L_size rfl rfl (Nat.le_of_ble_eq_true rfl) dL_poured_140 ⟨Nat.le_of_ble_eq_true rfl, Nat.le_of_ble_eq_true rfl⟩ ⟨Nat.le_refl _, Nat.le_refl _⟩ (zk_i ?_)
    refine zv_iconst (v := 1) dL_poured_143 (by decide) ?_
    refine zv_icmp_ne (tgt := 193) dL_poured_144 (by decide) (fun c144 => ?_) (fun c144 => ?_)
    · have k144 : ¬ zcnt (zb (recvS (cupR r i) (dPR r sd))) 16 = 1 := fun hh => c144 (by rw [hh]; rfl)
      refine zv_iload dL_poured_193 rfl ?_
      refine zv_if_ne (tgt := 220) dL_poured_195 (by decide) (fun h => absurd (rfl) h) (fun _ => ?_)
      refine zv_iload dL_poured_198 rfl ?_
      refine zv_if_eq (tgt := 220) dL_poured_200 (by decide) (fun c200 => ?_) (fun c200 => ?_)
      · have k200 : zcnt (zb (recvS (cupR r i) (dPR r sd))) 16 = 0 := by rw [c200]; decide
        exact ep_po2 l D B hR hF rfl hQ ht hi hsd hp hxp (PO_D (g := G1 p) hJ hs hd0 k144 (Or.inl k200) k4 (by omega) hg).1 ((PO_D (g := G1 p) hJ hs hd0 k144 (Or.inl k200) k4 (by omega) hg).2) kfin
      · have k200 : ¬ zcnt (zb (recvS (cupR r i) (dPR r sd))) 16 = 0 := fun hh => c200 (zb_ext (fun j hj => by
          rw [zb_zero]
          rcases Nat.lt_or_ge j 16 with g1 | g1
          · exact zcnt_zero hh j g1
          · exact recvS_lim (f := cupR r i) hD j (by omega)))
        refine zv_iload dL_poured_203 rfl ?_
        refine zv_bipush (v := 24) dL_poured_205 (by decide) ?_
        refine zv_icmp_ge (tgt := 220) dL_poured_207 (by decide) (fun c207 => ?_) (fun c207 => ?_)
        · have k207 : m = 24 := by have := (nI_leI (a := 24) (by decide) (by omega)).mp c207; omega
          exact ep_po2 l D B hR hF rfl hQ ht hi hsd hp hxp (PO_D (g := G1 p) hJ hs hd0 k144 (Or.inr k207) k4 (by omega) hg).1 ((PO_D (g := G1 p) hJ hs hd0 k144 (Or.inr k207) k4 (by omega) hg).2) kfin
        · have k207 : m < 24 := by
            rcases Nat.lt_or_ge m 24 with g1 | g1
            · exact g1
            · exact absurd (nI_le (a := 24) g1 (by omega)) c207
          refine zv_aload dL_poured_210 rfl ?_
          refine zv_iload dL_poured_212 rfl ?_
          refine zv_iload dL_poured_214 rfl ?_
          refine zv_iast (q := p) (r := 0) (i := 0) hp rfl (zix_nI (show m < 25 by omega) (by decide)) dL_poured_216 ?_
          rw [Nat.zero_add]
          refine zv_iconst (v := 2) dL_poured_217 (by decide) ?_
          refine zv_istore dL_poured_218 (by decide) rfl ?_
          have hC := PO_C (g := upd (G1 p) m (recvS (cupR r i) (dPR r sd))) hJ hs hD hd0 k144 k200 k207 (fun k hk => by
            simp only [upd]
            by_cases ek : k = m
            · rw [if_pos ek, if_neg (by omega), if_pos ek]
            · rw [if_neg ek, if_neg ek, hg k hk])
          exact ep_po2 l D B (zRC_to hR hsl (fun b hb => hb) (fun y hy => zst_ne _ _ (by omega))) (fun y hy hn => (zst_ne _ _ hn).trans (hF y hy hn)) (zst_same _ _ _) hQ ht hi hsd hp hxp hC.1 hC.2 kfin
    · have k144 : zcnt (zb (recvS (cupR r i) (dPR r sd))) 16 = 1 := (nI_eq (b := 1) (by omega) (by decide)).mp c144
      refine zv_iconst (v := 0) dL_poured_147 (by decide) ?_
      refine zv_istore dL_poured_148 (by decide) rfl ?_
      obtain ⟨q1, q2, q3, q4⟩ := recv_one hJ hD k144
      refine lp_po2 l D B (s := recvS (cupR r i) (dPR r sd)) (ci := zlow (recvS (cupR r i) (dPR r sd))) (fun j hj => by
        conv => lhs; rw [q1]
        exact zb_bt (by omega) j) (by omega) ?_ 0 (Nat.zero_le _)
      refine zv_aload dL_poured_166 rfl ?_
      refine zv_iload_n dL_poured_168 rfl ?_
      refine zv_iload dL_poured_169 rfl ?_
      have hJ1 : zCJ n (chR r) (knowP (upd (cupR r i) 2 ((cupR r i) 2 + 1)) (zlow (recvS (cupR r i) (dPR r sd))) (recvV (cupR r i) (dPR r sd))) m := by
        rw [q4]
        exact zCJ_know (zCJ_congr hJ rfl rfl (fun j h1 h2 => by simp only [upd]; rw [if_neg (by omega)])) q2 q3
      have hR1 : Rl (G1 p) (knowP (upd (cupR r i) 2 ((cupR r i) 2 + 1)) (zlow (recvS (cupR r i) (dPR r sd))) (recvV (cupR r i) (dPR r sd))) m :=
        Rl_know (zCJ_congr (g := upd (cupR r i) 2 ((cupR r i) 2 + 1)) hJ rfl rfl (fun j h1 h2 => by simp only [upd]; rw [if_neg (by omega)])) (Rl_congr (Rl_kept hJ hs hg) rfl (fun j h1 h2 => by simp only [upd]; rw [if_neg (by omega)])) q2
      refine zv_callS (m_L_peeled l D B (k := zlow (recvS (cupR r i) (dPR r sd))) (a0 := cupR r i 0) hp hJ1 hR1 (knowP_at (f := upd (cupR r i) 2 ((cupR r i) 2 + 1)) (v := recvV (cupR r i) (dPR r sd)) (show zlow (recvS (cupR r i) (dPR r sd)) < 16 by omega)).1) ml_L_41 st_L_peeled rfl rfl (Nat.le_of_ble_eq_true rfl) dL_poured_171 ⟨Nat.le_of_ble_eq_true rfl, Nat.le_of_ble_eq_true rfl⟩ ⟨Nat.le_refl _, Nat.le_refl _⟩ (zk_p fun G2 hG2 => ?_)
      obtain ⟨g2, m3, rfl, hJ2, hR2⟩ := hG2
      refine zv_istore dL_poured_174 (by decide) rfl ?_
      refine zv_iconst (v := 2) dL_poured_176 (by decide) ?_
      refine zv_iload dL_poured_177 rfl ?_
      refine zv_callS (m_L_size l D B _) ml_L_25 st_L_size rfl rfl (Nat.le_of_ble_eq_true rfl) dL_poured_179 ⟨Nat.le_of_ble_eq_true rfl, Nat.le_of_ble_eq_true rfl⟩ ⟨Nat.le_refl _, Nat.le_refl _⟩ (zk_i ?_)
      refine zv_iadd dL_poured_182 ?_
      refine zv_iload_n dL_poured_183 rfl ?_
      refine zv_callS (m_L_size l D B _) ml_L_25 st_L_size rfl rfl (Nat.le_of_ble_eq_true rfl) dL_poured_184 ⟨Nat.le_of_ble_eq_true rfl, Nat.le_of_ble_eq_true rfl⟩ ⟨Nat.le_refl _, Nat.le_refl _⟩ (zk_i ?_)
      refine zv_isub dL_poured_187 ?_
      refine zv_istore dL_poured_188 (by decide) rfl ?_
      refine zv_goto (tgt := 220) dL_poured_190 (by decide) ?_
      have hB := PO_B hJ hs hD hd0 k144 hJ2 hR2
      rw [← hB.2]
      exact ep_po2 l D B (zRC_to hR hsl (fun b hb => hb) (fun y hy => zst_ne _ _ (by omega))) (fun y hy hn => (zst_ne _ _ hn).trans (hF y hy hn)) (zst_same _ _ _) hQ ht hi hsd hp hxp hB.1 rfl kfin
  · rw [hd0, show bI (decide ((1 : Int32) = 1)) = 1 by decide]
    refine zv_iload dL_poured_121 rfl ?_
    refine zv_if_eq (tgt := 130) dL_poured_123 (by decide) (fun h => absurd h (by decide)) (fun _ => ?_)
    refine zv_iconst (v := 0) dL_poured_126 (by decide) ?_
    refine zv_goto (tgt := 131) dL_poured_127 (by decide) ?_
    refine zv_istore dL_poured_131 (by decide) rfl ?_
    refine zv_iload dL_poured_133 rfl ?_
    refine zv_if_ne (tgt := 193) dL_poured_135 (by decide) (fun _ => ?_) (fun h => absurd h (by decide))
    refine zv_iload dL_poured_193 rfl ?_
    refine zv_if_ne (tgt := 220) dL_poured_195 (by decide) (fun _ => ?_) (fun h => absurd h (by decide))
    exact ep_po2 l D B hR hF rfl hQ ht hi hsd hp hxp (PO_A (g := G1 p) hJ hs hd0 hg).1 ((PO_A (g := G1 p) hJ hs hd0 hg).2) kfin

set_option maxRecDepth 100000 in
set_option maxHeartbeats 4000000 in
theorem m_L_poured (l : Launch) (D : zD) (B : Nat) {L : zL} {nx : Nat} {G : zG} {x t n cn c tn : Nat} {r bk : Nat → Int32} {h : Nat → (Nat → Int32)} {sl : Nat → Option (Nat → Int32)} {T : Nat → Nat} {i sd : Nat} (hR : zRC L x nx G r h c sl T tn) (hsl : ∀ j, j < 2 → sl j = none) (hQ : LQ t n cn bk r) (ht : t < 2 ^ 29) (hi : i < cn) (hsd : sd < 65536) (hB : B ≤ nx) (hx : x + 135 ≤ nx) : zMet l D B yL_poured cL_poured 19 (some .boolean) 6 140 1 25 [.ref x, .int (nI i), .int (nI sd)] L (nx) G ((fun v L' nx' G' => v = some (.int 1) ∧ L' = L ++ [(nx, 125)] ∧ nx' = nx + 1 ∧ ∃ r' h' c', zRC L' x nx' G' r' h' c' sl T tn ∧ (∀ y, x + 134 ≤ y → y < nx → G' y = G y) ∧ LQ (t + 1) n cn bk r')) := by
  refine zMet_of (own := RL) (mn := "poured") [some (.ref x), some (.int (nI i)), some (.int (nI sd)), none, none, none, none, none, none, none, none, none, none, none, none, none, none, none, none] (by decide +kernel) rfl rfl rfl (Nat.le_of_ble_eq_true rfl) ?_
  show zV l (fun _ => True) D B RL "poured" cL_poured 19 (some .boolean) (zrm 6 140 1 25) (fun v L' nx' G' k9 n9 => ((fun v L' nx' G' => v = some (.int 1) ∧ L' = L ++ [(nx, 125)] ∧ nx' = nx + 1 ∧ ∃ r' h' c', zRC L' x nx' G' r' h' c' sl T tn ∧ (∀ y, x + 134 ≤ y → y < nx → G' y = G y) ∧ LQ (t + 1) n cn bk r')) v L' nx' G' ∧ k9 ≤ 1 ∧ n9 ≤ 25) 0 0 L (nx) 0 [some (.ref x), some (.int (nI i)), some (.int (nI sd)), none, none, none, none, none, none, none, none, none, none, none, none, none, none, none, none] [] G
  have hS := LQ_SI hQ
  obtain ⟨w, ls, p, h0, hw, h1, hl, h2, hn0, hn, h3, hc0, hc, h4, hp, hI, hz, hbk, hk⟩ := id hQ
  have hF : ∀ y, x + 134 ≤ y → G y = G y := fun _ _ => rfl
  obtain ⟨m, hJ, hs⟩ := hI i (by omega)
  refine zv_aload_n dL_poured_0 rfl ?_
  refine zv_iload_n dL_poured_1 rfl ?_
  refine zv_iconst (v := 0) dL_poured_2 (by decide) ?_
  refine zv_callV (m_X6_ofCup l D B hR.1 hR.2.1 hS (nI i) 0) ml_L_28 in_X6_ofCup sel_X6_ofCup hR.1.1 rfl rfl rfl rfl (Nat.le_of_ble_eq_true rfl) dL_poured_3 ⟨Nat.le_of_ble_eq_true rfl, Nat.le_of_ble_eq_true rfl⟩ ⟨Nat.zero_le _, Nat.zero_le _⟩ (zk_p fun G1 hG1 => ?_)
  replace hF := frT hF hG1.2
  replace hR := (zRC_fr hR hG1.1 hG1.2).1
  clear hG1
  rw [qOf_at h3 hc hi, qOf_0]
  refine zv_istore_n dL_poured_6 (by decide) rfl ?_
  refine zv_aload_n dL_poured_7 rfl ?_
  refine zv_iload_n dL_poured_8 rfl ?_
  refine zv_iconst (v := 1) dL_poured_9 (by decide) ?_
  refine zv_callV (m_X6_ofCup l D B hR.1 hR.2.1 hS (nI i) 1) ml_L_28 in_X6_ofCup sel_X6_ofCup hR.1.1 rfl rfl rfl rfl (Nat.le_of_ble_eq_true rfl) dL_poured_10 ⟨Nat.le_of_ble_eq_true rfl, Nat.le_of_ble_eq_true rfl⟩ ⟨Nat.zero_le _, Nat.zero_le _⟩ (zk_p fun G1 hG1 => ?_)
  replace hF := frT hF hG1.2
  replace hR := (zRC_fr hR hG1.1 hG1.2).1
  clear hG1
  rw [qOf_at h3 hc hi, qOf_1, hJ.2.2.1]
  refine zv_istore dL_poured_13 (by decide) rfl ?_
  refine zv_aload_n dL_poured_15 rfl ?_
  refine zv_iload_n dL_poured_16 rfl ?_
  refine zv_iconst (v := 2) dL_poured_17 (by decide) ?_
  refine zv_callV (m_X6_ofCup l D B hR.1 hR.2.1 hS (nI i) 2) ml_L_28 in_X6_ofCup sel_X6_ofCup hR.1.1 rfl rfl rfl rfl (Nat.le_of_ble_eq_true rfl) dL_poured_18 ⟨Nat.le_of_ble_eq_true rfl, Nat.le_of_ble_eq_true rfl⟩ ⟨Nat.zero_le _, Nat.zero_le _⟩ (zk_p fun G1 hG1 => ?_)
  replace hF := frT hF hG1.2
  replace hR := (zRC_fr hR hG1.1 hG1.2).1
  clear hG1
  rw [qOf_at h3 hc hi, qOf_2]
  refine zv_istore dL_poured_21 (by decide) rfl ?_
  refine zv_aload_n dL_poured_23 rfl ?_
  refine zv_iload_n dL_poured_24 rfl ?_
  refine zv_iconst (v := 3) dL_poured_25 (by decide) ?_
  refine zv_callV (m_X6_ofCup l D B hR.1 hR.2.1 hS (nI i) 3) ml_L_28 in_X6_ofCup sel_X6_ofCup hR.1.1 rfl rfl rfl rfl (Nat.le_of_ble_eq_true rfl) dL_poured_26 ⟨Nat.le_of_ble_eq_true rfl, Nat.le_of_ble_eq_true rfl⟩ ⟨Nat.zero_le _, Nat.zero_le _⟩ (zk_p fun G1 hG1 => ?_)
  replace hF := frT hF hG1.2
  replace hR := (zRC_fr hR hG1.1 hG1.2).1
  clear hG1
  rw [qOf_at h3 hc hi, qOf_3]
  refine zv_istore dL_poured_29 (by decide) rfl ?_
  refine zv_aload_n dL_poured_31 rfl ?_
  refine zv_iload_n dL_poured_32 rfl ?_
  refine zv_iconst (v := 4) dL_poured_33 (by decide) ?_
  refine zv_callV (m_X6_ofCup l D B hR.1 hR.2.1 hS (nI i) 4) ml_L_28 in_X6_ofCup sel_X6_ofCup hR.1.1 rfl rfl rfl rfl (Nat.le_of_ble_eq_true rfl) dL_poured_34 ⟨Nat.le_of_ble_eq_true rfl, Nat.le_of_ble_eq_true rfl⟩ ⟨Nat.zero_le _, Nat.zero_le _⟩ (zk_p fun G1 hG1 => ?_)
  replace hF := frT hF hG1.2
  replace hR := (zRC_fr hR hG1.1 hG1.2).1
  clear hG1
  rw [qOf_at h3 hc hi, qOf_4]
  refine zv_istore dL_poured_37 (by decide) rfl ?_
  refine zv_aload_n dL_poured_39 rfl ?_
  refine zv_iconst (v := 3) dL_poured_40 (by decide) ?_
  refine zv_callV (m_X6_count l D B hR.1 hR.2.1 hS 3 _ _ rfl rfl) ml_L_10 in_X6_count sel_X6_count hR.1.1 rfl rfl rfl rfl (Nat.le_of_ble_eq_true rfl) dL_poured_41 ⟨Nat.le_of_ble_eq_true rfl, Nat.le_of_ble_eq_true rfl⟩ ⟨Nat.zero_le _, Nat.zero_le _⟩ (zk_p fun G1 hG1 => ?_)
  replace hF := frT hF hG1.2
  replace hR := (zRC_fr hR hG1.1 hG1.2).1
  clear hG1
  rw [qCo_3]
  refine zv_istore dL_poured_44 (by decide) rfl ?_
  refine zv_aload_n dL_poured_46 rfl ?_
  refine zv_iload_n dL_poured_47 rfl ?_
  refine zv_iload_n dL_poured_48 rfl ?_
  refine zv_callV (m_X6_would l D B hR.1 hR.2.1 hS (nI i) (nI sd)) ml_L_38 in_X6_would sel_X6_would hR.1.1 rfl rfl rfl rfl (Nat.le_of_ble_eq_true rfl) dL_poured_49 ⟨Nat.le_of_ble_eq_true rfl, Nat.le_of_ble_eq_true rfl⟩ ⟨Nat.zero_le _, Nat.zero_le _⟩ (zk_p fun G1 hG1 => ?_)
  replace hF := frT hF hG1.2
  replace hR := (zRC_fr hR hG1.1 hG1.2).1
  clear hG1
  rw [show qWould r (nI i) (nI sd) = wouldV (cupR r i) (dPR r sd) from qWould_at h2 hn0 hn h3 hc hi hsd]
  refine zv_istore dL_poured_52 (by decide) rfl ?_
  refine zv_aload_n dL_poured_54 rfl ?_
  refine zv_iload_n dL_poured_55 rfl ?_
  refine zv_iconst (v := 3) dL_poured_56 (by decide) ?_
  refine zv_callV (m_X6_droplet l D B hR.1 hR.2.1 hS (nI sd) 3) ml_L_21 in_X6_droplet sel_X6_droplet hR.1.1 rfl rfl rfl rfl (Nat.le_of_ble_eq_true rfl) dL_poured_57 ⟨Nat.le_of_ble_eq_true rfl, Nat.le_of_ble_eq_true rfl⟩ ⟨Nat.zero_le _, Nat.zero_le _⟩ (zk_p fun G1 hG1 => ?_)
  replace hF := frT hF hG1.2
  replace hR := (zRC_fr hR hG1.1 hG1.2).1
  clear hG1
  rw [show qDrop r (nI sd) 3 = dPR r sd 0 from qDr_at (w := 3) h2 hn0 hn hsd (by decide)]
  refine zv_iconst (v := 1) dL_poured_60 (by decide) ?_
  refine zv_join (st := []) 69 (bI (decide (dPR r sd 0 = 1))) (fun G' => zRC L x nx G' r h c sl T tn ∧ ∀ y, x + 134 ≤ y → G' y = G y) (fun kk => ?_) ?_
  · refine zv_icmp_ne (tgt := 68) dL_poured_61 (by decide) (fun c61 => ?_) (fun c61 => ?_)
    · refine zv_iconst (v := 0) dL_poured_68 (by decide) ?_
      rw [decide_eq_false c61] at kk
      exact kk _ ⟨hR, hF⟩
    · refine zv_iconst (v := 1) dL_poured_64 (by decide) ?_
      refine zv_goto (tgt := 69) dL_poured_65 (by decide) ?_
      rw [decide_eq_true c61] at kk
      exact kk _ ⟨hR, hF⟩
  rintro G1 ⟨hR, hF⟩
  refine zv_istore dL_poured_69 (by decide) rfl ?_
  refine zv_aload_n dL_poured_71 rfl ?_
  refine zv_iload_n dL_poured_72 rfl ?_
  refine zv_iconst (v := 1) dL_poured_73 (by decide) ?_
  refine zv_callV (m_X6_droplet l D B hR.1 hR.2.1 hS (nI sd) 1) ml_L_21 in_X6_droplet sel_X6_droplet hR.1.1 rfl rfl rfl rfl (Nat.le_of_ble_eq_true rfl) dL_poured_74 ⟨Nat.le_of_ble_eq_true rfl, Nat.le_of_ble_eq_true rfl⟩ ⟨Nat.zero_le _, Nat.zero_le _⟩ (zk_p fun G1 hG1 => ?_)
  replace hF := frT hF hG1.2
  replace hR := (zRC_fr hR hG1.1 hG1.2).1
  clear hG1
  rw [show qDrop r (nI sd) 1 = dPR r sd 2 from qDr_at (w := 1) h2 hn0 hn hsd (by decide)]
  refine zv_iload_n dL_poured_77 rfl ?_
  refine zv_iconst (v := (-1)) dL_poured_78 (by decide) ?_
  refine zv_ixor dL_poured_79 ?_
  refine zv_iand dL_poured_80 ?_
  rw [show dPR r sd 2 &&& (cupR r i 0 ^^^ -1) = recvS (cupR r i) (dPR r sd) from rfl]
  refine zv_istore dL_poured_81 (by decide) rfl ?_
  refine zv_bipush (v := 25) dL_poured_83 (by decide) ?_
  refine zv_newarray (N := 25) (t := 125) (ta := 0) (by omega) rfl (by decide) zac_int (by decide) (by decide) (by decide) rfl (Nat.le_of_ble_eq_true rfl) (Nat.le_of_ble_eq_true rfl) dL_poured_85 ?_
  refine zv_astore dL_poured_87 (by decide) rfl ?_
  refine zv_iconst (v := 0) dL_poured_89 (by decide) ?_
  refine zv_istore dL_poured_90 (by decide) rfl ?_
  have hpm : (nx, 125) ∈ L ++ [(nx, 125)] := by simp
  refine lp_po1 l D B (n := n) (bk := bk) (g := bk) (p := nx) (L := L ++ [(nx, 125)]) (nx := nx + 1) (G := G) (h := h) (c := c) (sl := sl) (T := T) (tn := tn) (l13 := none) hS h3 hc hi hsl hJ.2.2.1 hJ.2.1 hpm hx (fun G1 hR hF hg => ?_) 0 (Nat.zero_le _) _ (zRC_to hR hsl (fun b hb => List.mem_append_left _ hb) (fun y hy => zst_ne _ _ (by omega))) (fun y hy hn => (zst_ne _ _ hn).trans (hF y hy)) (fun k hk => by rw [zst_same, if_neg (by omega)])
  refine ep_po1 l D B (g := bk) (p := nx) (L := L ++ [(nx, 125)]) (nx := nx + 1) (G := G) hR hF hg hsl hQ ht hi hsd hpm hx hJ hs (fun G1 r' h' c' hR hF hQ2 => ?_)
  exact ⟨rfl, rfl, rfl, r', h', c', hR, fun y a b => hF y a (by omega), hQ2⟩
end
section
theorem zz_last : True := trivial
end
