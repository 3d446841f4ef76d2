section
-- ===== PART A: goes FIRST, ahead of the names: the tables' words, and 'selects' of the private methods out of them =====
/-- a private method of a class that the tables say can be made, by its rows of tables_1 -/
def lw_okq (q : MethodName × Nat) : Prop := (q.1.cls ≠ "java/lang/invoke/MethodHandle" ∧ q.1.cls ≠ "java/lang/invoke/VarHandle") ∧ Cond.instantiable q.1.cls q.2 ∈ tables_1 ∧ Cond.privateMethod q.1 ∈ tables_1 ∧ Cond.instanceMethod q.1 ∈ tables_1
theorem lw_p0 : lw_okq (⟨"BookDroplets$History", "placeBehindLast", "()I"⟩, 3) := ⟨⟨by decide +kernel, by decide +kernel⟩, List.mem_of_getElem? (i := 102) (by decide +kernel), List.mem_of_getElem? (i := 229) (by decide +kernel), List.mem_of_getElem? (i := 230) (by decide +kernel)⟩
theorem lw_p1 : lw_okq (⟨"BookDroplets", "changeSetting", "(II)I"⟩, 7) := ⟨⟨by decide +kernel, by decide +kernel⟩, List.mem_of_getElem? (i := 13) (by decide +kernel), List.mem_of_getElem? (i := 248) (by decide +kernel), List.mem_of_getElem? (i := 249) (by decide +kernel)⟩
theorem lw_p2 : lw_okq (⟨"BookDroplets", "addChapter", "(I)I"⟩, 7) := ⟨⟨by decide +kernel, by decide +kernel⟩, List.mem_of_getElem? (i := 13) (by decide +kernel), List.mem_of_getElem? (i := 263) (by decide +kernel), List.mem_of_getElem? (i := 264) (by decide +kernel)⟩
theorem lw_p3 : lw_okq (⟨"BookDroplets", "addCup", "()I"⟩, 7) := ⟨⟨by decide +kernel, by decide +kernel⟩, List.mem_of_getElem? (i := 13) (by decide +kernel), List.mem_of_getElem? (i := 272) (by decide +kernel), List.mem_of_getElem? (i := 273) (by decide +kernel)⟩
theorem lw_p4 : lw_okq (⟨"BookDroplets", "emptyCup", "(I)I"⟩, 7) := ⟨⟨by decide +kernel, by decide +kernel⟩, List.mem_of_getElem? (i := 13) (by decide +kernel), List.mem_of_getElem? (i := 280) (by decide +kernel), List.mem_of_getElem? (i := 281) (by decide +kernel)⟩
theorem lw_p5 : lw_okq (⟨"BookDroplets", "pourDroplets", "(III)I"⟩, 7) := ⟨⟨by decide +kernel, by decide +kernel⟩, List.mem_of_getElem? (i := 13) (by decide +kernel), List.mem_of_getElem? (i := 306) (by decide +kernel), List.mem_of_getElem? (i := 307) (by decide +kernel)⟩
theorem lw_p6 : lw_okq (⟨"BookDroplets", "errorOfDroplets", "(II)I"⟩, 7) := ⟨⟨by decide +kernel, by decide +kernel⟩, List.mem_of_getElem? (i := 13) (by decide +kernel), List.mem_of_getElem? (i := 310) (by decide +kernel), List.mem_of_getElem? (i := 311) (by decide +kernel)⟩
theorem lw_p7 : lw_okq (⟨"BookDroplets$Droplet", "addFrom", "(LBookDroplets$State;I)V"⟩, 4) := ⟨⟨by decide +kernel, by decide +kernel⟩, List.mem_of_getElem? (i := 156) (by decide +kernel), List.mem_of_getElem? (i := 334) (by decide +kernel), List.mem_of_getElem? (i := 335) (by decide +kernel)⟩
theorem lw_p8 : lw_okq (⟨"BookDroplets$Cup", "learn", "(II)V"⟩, 8) := ⟨⟨by decide +kernel, by decide +kernel⟩, List.mem_of_getElem? (i := 28) (by decide +kernel), List.mem_of_getElem? (i := 344) (by decide +kernel), List.mem_of_getElem? (i := 345) (by decide +kernel)⟩
theorem lw_p9 : lw_okq (⟨"BookDroplets$Cup", "peel", "()V"⟩, 8) := ⟨⟨by decide +kernel, by decide +kernel⟩, List.mem_of_getElem? (i := 28) (by decide +kernel), List.mem_of_getElem? (i := 348) (by decide +kernel), List.mem_of_getElem? (i := 349) (by decide +kernel)⟩
theorem lw_p10 : lw_okq (⟨"BookDroplets$Cup", "firstPeelable", "()I"⟩, 8) := ⟨⟨by decide +kernel, by decide +kernel⟩, List.mem_of_getElem? (i := 28) (by decide +kernel), List.mem_of_getElem? (i := 352) (by decide +kernel), List.mem_of_getElem? (i := 353) (by decide +kernel)⟩
theorem lw_p11 : lw_okq (⟨"BookDroplets$Cup", "removeKept", "(I)V"⟩, 8) := ⟨⟨by decide +kernel, by decide +kernel⟩, List.mem_of_getElem? (i := 28) (by decide +kernel), List.mem_of_getElem? (i := 357) (by decide +kernel), List.mem_of_getElem? (i := 358) (by decide +kernel)⟩
theorem lw_p12 : lw_okq (⟨"BookDroplets$Cup", "keepIfRoom", "(II)Z"⟩, 8) := ⟨⟨by decide +kernel, by decide +kernel⟩, List.mem_of_getElem? (i := 28) (by decide +kernel), List.mem_of_getElem? (i := 361) (by decide +kernel), List.mem_of_getElem? (i := 362) (by decide +kernel)⟩
theorem lw_p13 : lw_okq (⟨"BookDroplets", "solveCup", "(I)I"⟩, 7) := ⟨⟨by decide +kernel, by decide +kernel⟩, List.mem_of_getElem? (i := 13) (by decide +kernel), List.mem_of_getElem? (i := 369) (by decide +kernel), List.mem_of_getElem? (i := 370) (by decide +kernel)⟩
theorem lw_p14 : lw_okq (⟨"BookDroplets", "isFull", "(LBookDroplets$Cup;)Z"⟩, 7) := ⟨⟨by decide +kernel, by decide +kernel⟩, List.mem_of_getElem? (i := 13) (by decide +kernel), List.mem_of_getElem? (i := 395) (by decide +kernel), List.mem_of_getElem? (i := 396) (by decide +kernel)⟩
theorem lw_p15 : lw_okq (⟨"BookDroplets", "fullCups", "()I"⟩, 7) := ⟨⟨by decide +kernel, by decide +kernel⟩, List.mem_of_getElem? (i := 13) (by decide +kernel), List.mem_of_getElem? (i := 420) (by decide +kernel), List.mem_of_getElem? (i := 421) (by decide +kernel)⟩
def lw_privs_1 : List (MethodName × Nat) := [(⟨"BookDroplets$History", "placeBehindLast", "()I"⟩, 3), (⟨"BookDroplets", "changeSetting", "(II)I"⟩, 7), (⟨"BookDroplets", "addChapter", "(I)I"⟩, 7), (⟨"BookDroplets", "addCup", "()I"⟩, 7), (⟨"BookDroplets", "emptyCup", "(I)I"⟩, 7), (⟨"BookDroplets", "pourDroplets", "(III)I"⟩, 7), (⟨"BookDroplets", "errorOfDroplets", "(II)I"⟩, 7), (⟨"BookDroplets$Droplet", "addFrom", "(LBookDroplets$State;I)V"⟩, 4), (⟨"BookDroplets$Cup", "learn", "(II)V"⟩, 8), (⟨"BookDroplets$Cup", "peel", "()V"⟩, 8), (⟨"BookDroplets$Cup", "firstPeelable", "()I"⟩, 8), (⟨"BookDroplets$Cup", "removeKept", "(I)V"⟩, 8), (⟨"BookDroplets$Cup", "keepIfRoom", "(II)Z"⟩, 8), (⟨"BookDroplets", "solveCup", "(I)I"⟩, 7), (⟨"BookDroplets", "isFull", "(LBookDroplets$Cup;)Z"⟩, 7), (⟨"BookDroplets", "fullCups", "()I"⟩, 7)]
theorem lw_r1 : ∀ q ∈ lw_privs_1, lw_okq q := List.forall_mem_cons.mpr ⟨lw_p0, List.forall_mem_cons.mpr ⟨lw_p1, List.forall_mem_cons.mpr ⟨lw_p2, List.forall_mem_cons.mpr ⟨lw_p3, List.forall_mem_cons.mpr ⟨lw_p4, List.forall_mem_cons.mpr ⟨lw_p5, List.forall_mem_cons.mpr ⟨lw_p6, List.forall_mem_cons.mpr ⟨lw_p7, List.forall_mem_cons.mpr ⟨lw_p8, List.forall_mem_cons.mpr ⟨lw_p9, List.forall_mem_cons.mpr ⟨lw_p10, List.forall_mem_cons.mpr ⟨lw_p11, List.forall_mem_cons.mpr ⟨lw_p12, List.forall_mem_cons.mpr ⟨lw_p13, List.forall_mem_cons.mpr ⟨lw_p14, List.forall_mem_cons.mpr ⟨lw_p15, fun _ h => absurd h List.not_mem_nil⟩⟩⟩⟩⟩⟩⟩⟩⟩⟩⟩⟩⟩⟩⟩⟩
theorem lw_p16 : lw_okq (⟨"BookDroplets$Pad", "signHere", "()C"⟩, 7) := ⟨⟨by decide +kernel, by decide +kernel⟩, List.mem_of_getElem? (i := 122) (by decide +kernel), List.mem_of_getElem? (i := 469) (by decide +kernel), List.mem_of_getElem? (i := 470) (by decide +kernel)⟩
theorem lw_p17 : lw_okq (⟨"BookDroplets$Pad", "readNumber", "()Z"⟩, 7) := ⟨⟨by decide +kernel, by decide +kernel⟩, List.mem_of_getElem? (i := 122) (by decide +kernel), List.mem_of_getElem? (i := 473) (by decide +kernel), List.mem_of_getElem? (i := 474) (by decide +kernel)⟩
theorem lw_p18 : lw_okq (⟨"BookDroplets$Pad", "digitHere", "()I"⟩, 7) := ⟨⟨by decide +kernel, by decide +kernel⟩, List.mem_of_getElem? (i := 122) (by decide +kernel), List.mem_of_getElem? (i := 477) (by decide +kernel), List.mem_of_getElem? (i := 478) (by decide +kernel)⟩
theorem lw_p19 : lw_okq (⟨"BookDroplets$Pad", "readCup", "()Z"⟩, 7) := ⟨⟨by decide +kernel, by decide +kernel⟩, List.mem_of_getElem? (i := 122) (by decide +kernel), List.mem_of_getElem? (i := 482) (by decide +kernel), List.mem_of_getElem? (i := 483) (by decide +kernel)⟩
theorem lw_p20 : lw_okq (⟨"BookDroplets$Pad", "readMany", "()Z"⟩, 7) := ⟨⟨by decide +kernel, by decide +kernel⟩, List.mem_of_getElem? (i := 122) (by decide +kernel), List.mem_of_getElem? (i := 490) (by decide +kernel), List.mem_of_getElem? (i := 491) (by decide +kernel)⟩
theorem lw_p21 : lw_okq (⟨"BookDroplets", "carryOneOut", "()I"⟩, 7) := ⟨⟨by decide +kernel, by decide +kernel⟩, List.mem_of_getElem? (i := 13) (by decide +kernel), List.mem_of_getElem? (i := 500) (by decide +kernel), List.mem_of_getElem? (i := 501) (by decide +kernel)⟩
theorem lw_p22 : lw_okq (⟨"BookDroplets", "restoreFrom", "(I)I"⟩, 7) := ⟨⟨by decide +kernel, by decide +kernel⟩, List.mem_of_getElem? (i := 13) (by decide +kernel), List.mem_of_getElem? (i := 522) (by decide +kernel), List.mem_of_getElem? (i := 523) (by decide +kernel)⟩
theorem lw_p23 : lw_okq (⟨"BookDropletsModel", "remember", "()V"⟩, 18) := ⟨⟨by decide +kernel, by decide +kernel⟩, List.mem_of_getElem? (i := 526) (by decide +kernel), List.mem_of_getElem? (i := 603) (by decide +kernel), List.mem_of_getElem? (i := 604) (by decide +kernel)⟩
theorem lw_p24 : lw_okq (⟨"BookDropletsModel", "record", "(I)I"⟩, 18) := ⟨⟨by decide +kernel, by decide +kernel⟩, List.mem_of_getElem? (i := 526) (by decide +kernel), List.mem_of_getElem? (i := 607) (by decide +kernel), List.mem_of_getElem? (i := 608) (by decide +kernel)⟩
theorem lw_p25 : lw_okq (⟨"BookDropletsModel", "begins", "(I)I"⟩, 18) := ⟨⟨by decide +kernel, by decide +kernel⟩, List.mem_of_getElem? (i := 526) (by decide +kernel), List.mem_of_getElem? (i := 619) (by decide +kernel), List.mem_of_getElem? (i := 620) (by decide +kernel)⟩
theorem lw_p26 : lw_okq (⟨"BookDropletsModel", "cupComes", "()I"⟩, 18) := ⟨⟨by decide +kernel, by decide +kernel⟩, List.mem_of_getElem? (i := 526) (by decide +kernel), List.mem_of_getElem? (i := 628) (by decide +kernel), List.mem_of_getElem? (i := 629) (by decide +kernel)⟩
theorem lw_p27 : lw_okq (⟨"BookDropletsModel", "isCup", "(I)Z"⟩, 18) := ⟨⟨by decide +kernel, by decide +kernel⟩, List.mem_of_getElem? (i := 526) (by decide +kernel), List.mem_of_getElem? (i := 636) (by decide +kernel), List.mem_of_getElem? (i := 637) (by decide +kernel)⟩
theorem lw_p28 : lw_okq (⟨"BookDropletsModel", "its", "(II)I"⟩, 18) := ⟨⟨by decide +kernel, by decide +kernel⟩, List.mem_of_getElem? (i := 526) (by decide +kernel), List.mem_of_getElem? (i := 640) (by decide +kernel), List.mem_of_getElem? (i := 641) (by decide +kernel)⟩
theorem lw_p29 : lw_okq (⟨"BookDropletsModel", "lay", "(III)V"⟩, 18) := ⟨⟨by decide +kernel, by decide +kernel⟩, List.mem_of_getElem? (i := 526) (by decide +kernel), List.mem_of_getElem? (i := 647) (by decide +kernel), List.mem_of_getElem? (i := 648) (by decide +kernel)⟩
theorem lw_p30 : lw_okq (⟨"BookDropletsModel", "pours", "(III)I"⟩, 18) := ⟨⟨by decide +kernel, by decide +kernel⟩, List.mem_of_getElem? (i := 526) (by decide +kernel), List.mem_of_getElem? (i := 655) (by decide +kernel), List.mem_of_getElem? (i := 656) (by decide +kernel)⟩
theorem lw_p31 : lw_okq (⟨"BookDropletsModel", "drops", "(II)I"⟩, 18) := ⟨⟨by decide +kernel, by decide +kernel⟩, List.mem_of_getElem? (i := 526) (by decide +kernel), List.mem_of_getElem? (i := 660) (by decide +kernel), List.mem_of_getElem? (i := 661) (by decide +kernel)⟩
def lw_privs_2 : List (MethodName × Nat) := [(⟨"BookDroplets$Pad", "signHere", "()C"⟩, 7), (⟨"BookDroplets$Pad", "readNumber", "()Z"⟩, 7), (⟨"BookDroplets$Pad", "digitHere", "()I"⟩, 7), (⟨"BookDroplets$Pad", "readCup", "()Z"⟩, 7), (⟨"BookDroplets$Pad", "readMany", "()Z"⟩, 7), (⟨"BookDroplets", "carryOneOut", "()I"⟩, 7), (⟨"BookDroplets", "restoreFrom", "(I)I"⟩, 7), (⟨"BookDropletsModel", "remember", "()V"⟩, 18), (⟨"BookDropletsModel", "record", "(I)I"⟩, 18), (⟨"BookDropletsModel", "begins", "(I)I"⟩, 18), (⟨"BookDropletsModel", "cupComes", "()I"⟩, 18), (⟨"BookDropletsModel", "isCup", "(I)Z"⟩, 18), (⟨"BookDropletsModel", "its", "(II)I"⟩, 18), (⟨"BookDropletsModel", "lay", "(III)V"⟩, 18), (⟨"BookDropletsModel", "pours", "(III)I"⟩, 18), (⟨"BookDropletsModel", "drops", "(II)I"⟩, 18)]
theorem lw_r2 : ∀ q ∈ lw_privs_2, lw_okq q := List.forall_mem_cons.mpr ⟨lw_p16, List.forall_mem_cons.mpr ⟨lw_p17, List.forall_mem_cons.mpr ⟨lw_p18, List.forall_mem_cons.mpr ⟨lw_p19, List.forall_mem_cons.mpr ⟨lw_p20, List.forall_mem_cons.mpr ⟨lw_p21, List.forall_mem_cons.mpr ⟨lw_p22, List.forall_mem_cons.mpr ⟨lw_p23, List.forall_mem_cons.mpr ⟨lw_p24, List.forall_mem_cons.mpr ⟨lw_p25, List.forall_mem_cons.mpr ⟨lw_p26, List.forall_mem_cons.mpr ⟨lw_p27, List.forall_mem_cons.mpr ⟨lw_p28, List.forall_mem_cons.mpr ⟨lw_p29, List.forall_mem_cons.mpr ⟨lw_p30, List.forall_mem_cons.mpr ⟨lw_p31, fun _ h => absurd h List.not_mem_nil⟩⟩⟩⟩⟩⟩⟩⟩⟩⟩⟩⟩⟩⟩⟩⟩
theorem lw_p32 : lw_okq (⟨"BookDropletsModel", "make", "(I)V"⟩, 18) := ⟨⟨by decide +kernel, by decide +kernel⟩, List.mem_of_getElem? (i := 526) (by decide +kernel), List.mem_of_getElem? (i := 664) (by decide +kernel), List.mem_of_getElem? (i := 665) (by decide +kernel)⟩
theorem lw_p33 : lw_okq (⟨"BookDropletsModel", "degreeBy", "(I)I"⟩, 18) := ⟨⟨by decide +kernel, by decide +kernel⟩, List.mem_of_getElem? (i := 526) (by decide +kernel), List.mem_of_getElem? (i := 672) (by decide +kernel), List.mem_of_getElem? (i := 673) (by decide +kernel)⟩
theorem lw_p34 : lw_okq (⟨"BookDropletsModel", "comes", "(I)I"⟩, 18) := ⟨⟨by decide +kernel, by decide +kernel⟩, List.mem_of_getElem? (i := 526) (by decide +kernel), List.mem_of_getElem? (i := 676) (by decide +kernel), List.mem_of_getElem? (i := 677) (by decide +kernel)⟩
theorem lw_p35 : lw_okq (⟨"BookDropletsModel", "knows", "(III)V"⟩, 18) := ⟨⟨by decide +kernel, by decide +kernel⟩, List.mem_of_getElem? (i := 526) (by decide +kernel), List.mem_of_getElem? (i := 683) (by decide +kernel), List.mem_of_getElem? (i := 684) (by decide +kernel)⟩
theorem lw_p36 : lw_okq (⟨"BookDropletsModel", "peel", "(I)I"⟩, 18) := ⟨⟨by decide +kernel, by decide +kernel⟩, List.mem_of_getElem? (i := 526) (by decide +kernel), List.mem_of_getElem? (i := 687) (by decide +kernel), List.mem_of_getElem? (i := 688) (by decide +kernel)⟩
theorem lw_p37 : lw_okq (⟨"BookDropletsModel", "firstSmall", "(I)I"⟩, 18) := ⟨⟨by decide +kernel, by decide +kernel⟩, List.mem_of_getElem? (i := 526) (by decide +kernel), List.mem_of_getElem? (i := 691) (by decide +kernel), List.mem_of_getElem? (i := 692) (by decide +kernel)⟩
theorem lw_p38 : lw_okq (⟨"BookDropletsModel", "takeAway", "(II)V"⟩, 18) := ⟨⟨by decide +kernel, by decide +kernel⟩, List.mem_of_getElem? (i := 526) (by decide +kernel), List.mem_of_getElem? (i := 695) (by decide +kernel), List.mem_of_getElem? (i := 696) (by decide +kernel)⟩
theorem lw_p39 : lw_okq (⟨"BookDropletsModel", "solves", "(I)I"⟩, 18) := ⟨⟨by decide +kernel, by decide +kernel⟩, List.mem_of_getElem? (i := 526) (by decide +kernel), List.mem_of_getElem? (i := 703) (by decide +kernel), List.mem_of_getElem? (i := 704) (by decide +kernel)⟩
theorem lw_p40 : lw_okq (⟨"BookDropletsModel", "follow", "(I)I"⟩, 18) := ⟨⟨by decide +kernel, by decide +kernel⟩, List.mem_of_getElem? (i := 526) (by decide +kernel), List.mem_of_getElem? (i := 707) (by decide +kernel), List.mem_of_getElem? (i := 708) (by decide +kernel)⟩
theorem lw_p41 : lw_okq (⟨"BookDropletsModel", "isFull", "(I)Z"⟩, 18) := ⟨⟨by decide +kernel, by decide +kernel⟩, List.mem_of_getElem? (i := 526) (by decide +kernel), List.mem_of_getElem? (i := 719) (by decide +kernel), List.mem_of_getElem? (i := 720) (by decide +kernel)⟩
theorem lw_p42 : lw_okq (⟨"BookDropletsModel", "whole", "()I"⟩, 18) := ⟨⟨by decide +kernel, by decide +kernel⟩, List.mem_of_getElem? (i := 526) (by decide +kernel), List.mem_of_getElem? (i := 723) (by decide +kernel), List.mem_of_getElem? (i := 724) (by decide +kernel)⟩
theorem lw_p43 : lw_okq (⟨"BookDropletsModel", "fullCups", "()I"⟩, 18) := ⟨⟨by decide +kernel, by decide +kernel⟩, List.mem_of_getElem? (i := 526) (by decide +kernel), List.mem_of_getElem? (i := 739) (by decide +kernel), List.mem_of_getElem? (i := 740) (by decide +kernel)⟩
theorem lw_p44 : lw_okq (⟨"BookDropletsModel", "refusal", "(II)I"⟩, 18) := ⟨⟨by decide +kernel, by decide +kernel⟩, List.mem_of_getElem? (i := 526) (by decide +kernel), List.mem_of_getElem? (i := 747) (by decide +kernel), List.mem_of_getElem? (i := 748) (by decide +kernel)⟩
theorem lw_p45 : lw_okq (⟨"BookDropletsModel", "layAside", "()V"⟩, 18) := ⟨⟨by decide +kernel, by decide +kernel⟩, List.mem_of_getElem? (i := 526) (by decide +kernel), List.mem_of_getElem? (i := 751) (by decide +kernel), List.mem_of_getElem? (i := 752) (by decide +kernel)⟩
theorem lw_p46 : lw_okq (⟨"BookDropletsModel", "putBack", "()V"⟩, 18) := ⟨⟨by decide +kernel, by decide +kernel⟩, List.mem_of_getElem? (i := 526) (by decide +kernel), List.mem_of_getElem? (i := 755) (by decide +kernel), List.mem_of_getElem? (i := 756) (by decide +kernel)⟩
theorem lw_p47 : lw_okq (⟨"BookDropletsModel", "isWell", "()Z"⟩, 18) := ⟨⟨by decide +kernel, by decide +kernel⟩, List.mem_of_getElem? (i := 526) (by decide +kernel), List.mem_of_getElem? (i := 780) (by decide +kernel), List.mem_of_getElem? (i := 781) (by decide +kernel)⟩
def lw_privs_3 : List (MethodName × Nat) := [(⟨"BookDropletsModel", "make", "(I)V"⟩, 18), (⟨"BookDropletsModel", "degreeBy", "(I)I"⟩, 18), (⟨"BookDropletsModel", "comes", "(I)I"⟩, 18), (⟨"BookDropletsModel", "knows", "(III)V"⟩, 18), (⟨"BookDropletsModel", "peel", "(I)I"⟩, 18), (⟨"BookDropletsModel", "firstSmall", "(I)I"⟩, 18), (⟨"BookDropletsModel", "takeAway", "(II)V"⟩, 18), (⟨"BookDropletsModel", "solves", "(I)I"⟩, 18), (⟨"BookDropletsModel", "follow", "(I)I"⟩, 18), (⟨"BookDropletsModel", "isFull", "(I)Z"⟩, 18), (⟨"BookDropletsModel", "whole", "()I"⟩, 18), (⟨"BookDropletsModel", "fullCups", "()I"⟩, 18), (⟨"BookDropletsModel", "refusal", "(II)I"⟩, 18), (⟨"BookDropletsModel", "layAside", "()V"⟩, 18), (⟨"BookDropletsModel", "putBack", "()V"⟩, 18), (⟨"BookDropletsModel", "isWell", "()Z"⟩, 18)]
theorem lw_r3 : ∀ q ∈ lw_privs_3, lw_okq q := List.forall_mem_cons.mpr ⟨lw_p32, List.forall_mem_cons.mpr ⟨lw_p33, List.forall_mem_cons.mpr ⟨lw_p34, List.forall_mem_cons.mpr ⟨lw_p35, List.forall_mem_cons.mpr ⟨lw_p36, List.forall_mem_cons.mpr ⟨lw_p37, List.forall_mem_cons.mpr ⟨lw_p38, List.forall_mem_cons.mpr ⟨lw_p39, List.forall_mem_cons.mpr ⟨lw_p40, List.forall_mem_cons.mpr ⟨lw_p41, List.forall_mem_cons.mpr ⟨lw_p42, List.forall_mem_cons.mpr ⟨lw_p43, List.forall_mem_cons.mpr ⟨lw_p44, List.forall_mem_cons.mpr ⟨lw_p45, List.forall_mem_cons.mpr ⟨lw_p46, List.forall_mem_cons.mpr ⟨lw_p47, fun _ h => absurd h List.not_mem_nil⟩⟩⟩⟩⟩⟩⟩⟩⟩⟩⟩⟩⟩⟩⟩⟩
theorem lw_p48 : lw_okq (⟨"BookDropletsModel", "order", "(Z)I"⟩, 18) := ⟨⟨by decide +kernel, by decide +kernel⟩, List.mem_of_getElem? (i := 526) (by decide +kernel), List.mem_of_getElem? (i := 784) (by decide +kernel), List.mem_of_getElem? (i := 785) (by decide +kernel)⟩
theorem lw_p49 : lw_okq (⟨"BookDropletsModel", "reads", "(I)Z"⟩, 18) := ⟨⟨by decide +kernel, by decide +kernel⟩, List.mem_of_getElem? (i := 526) (by decide +kernel), List.mem_of_getElem? (i := 788) (by decide +kernel), List.mem_of_getElem? (i := 789) (by decide +kernel)⟩
theorem lw_p50 : lw_okq (⟨"BookDropletsModel", "number", "(I)Z"⟩, 18) := ⟨⟨by decide +kernel, by decide +kernel⟩, List.mem_of_getElem? (i := 526) (by decide +kernel), List.mem_of_getElem? (i := 792) (by decide +kernel), List.mem_of_getElem? (i := 793) (by decide +kernel)⟩
theorem lw_p51 : lw_okq (⟨"BookDropletsModel", "digit", "(I)Z"⟩, 18) := ⟨⟨by decide +kernel, by decide +kernel⟩, List.mem_of_getElem? (i := 526) (by decide +kernel), List.mem_of_getElem? (i := 796) (by decide +kernel), List.mem_of_getElem? (i := 797) (by decide +kernel)⟩
theorem lw_p52 : lw_okq (⟨"BookDropletsModel", "sees", "(II)Z"⟩, 18) := ⟨⟨by decide +kernel, by decide +kernel⟩, List.mem_of_getElem? (i := 526) (by decide +kernel), List.mem_of_getElem? (i := 800) (by decide +kernel), List.mem_of_getElem? (i := 801) (by decide +kernel)⟩
theorem lw_p53 : lw_okq (⟨"BookDropletsModel", "takes", "(I)Z"⟩, 18) := ⟨⟨by decide +kernel, by decide +kernel⟩, List.mem_of_getElem? (i := 526) (by decide +kernel), List.mem_of_getElem? (i := 804) (by decide +kernel), List.mem_of_getElem? (i := 805) (by decide +kernel)⟩
def lw_privs_4 : List (MethodName × Nat) := [(⟨"BookDropletsModel", "order", "(Z)I"⟩, 18), (⟨"BookDropletsModel", "reads", "(I)Z"⟩, 18), (⟨"BookDropletsModel", "number", "(I)Z"⟩, 18), (⟨"BookDropletsModel", "digit", "(I)Z"⟩, 18), (⟨"BookDropletsModel", "sees", "(II)Z"⟩, 18), (⟨"BookDropletsModel", "takes", "(I)Z"⟩, 18)]
theorem lw_r4 : ∀ q ∈ lw_privs_4, lw_okq q := List.forall_mem_cons.mpr ⟨lw_p48, List.forall_mem_cons.mpr ⟨lw_p49, List.forall_mem_cons.mpr ⟨lw_p50, List.forall_mem_cons.mpr ⟨lw_p51, List.forall_mem_cons.mpr ⟨lw_p52, List.forall_mem_cons.mpr ⟨lw_p53, fun _ h => absurd h List.not_mem_nil⟩⟩⟩⟩⟩⟩
def lw_privs : List (MethodName × Nat) := lw_privs_1 ++ (lw_privs_2 ++ (lw_privs_3 ++ (lw_privs_4)))
def lw_tbl : List Cond := k2_sels lw_privs ++ tables_1
theorem lw_privs_ok : ∀ q ∈ lw_privs, lw_okq q := by
  show ∀ q ∈ lw_privs_1 ++ (lw_privs_2 ++ (lw_privs_3 ++ (lw_privs_4))), lw_okq q
  exact List.forall_mem_append.mpr ⟨lw_r1, List.forall_mem_append.mpr ⟨lw_r2, List.forall_mem_append.mpr ⟨lw_r3, lw_r4⟩⟩⟩

def RX0 : String := "BookDroplets$Cup"
def TX0 : u_T := fun k => match k with
  | 0 => ("BookDroplets$Cup", "known", "I", false)
  | 1 => ("BookDroplets$Cup", "keptCount", "I", false)
  | 2 => ("BookDroplets$Cup", "poured", "I", false)
  | 3 => ("BookDroplets$Cup", "lost", "I", false)
  | 4 => ("BookDroplets$Cup", "useless", "I", false)
  | 5 => ("BookDroplets$Cup", "learnt", "[I", true)
  | 6 => ("BookDroplets$Cup", "sets", "[I", true)
  | _ => ("BookDroplets$Cup", "numbers", "[I", true)
def tyX0 : Nat → FieldType := fun k => match k with
  | 0 => .int
  | 1 => .int
  | 2 => .int
  | 3 => .int
  | 4 => .int
  | 5 => .array .int
  | 6 => .array .int
  | _ => .array .int
abbrev wsX00 : List Cond := u_ws RX0 TX0 8
theorem nmX0 : ∀ a, a < 8 → ∀ b, b < 8 → a ≠ b → (TX0 a).2.1 ≠ (TX0 b).2.1 := by decide +kernel
theorem tyX0_ok : ∀ k, k < 8 → parseFieldDescriptor (TX0 k).2.2.1 = some (tyX0 k) := by decide +kernel
abbrev cX0_init : ByteArray := prog_2_method_1_code
def yX0_init : MethodName := ⟨RX0, "<init>", "()V"⟩
abbrev cX0_clear : ByteArray := prog_2_method_2_code
def yX0_clear : MethodName := ⟨RX0, "clear", "()V"⟩
abbrev cX0_copyFrom : ByteArray := prog_2_method_3_code
def yX0_copyFrom : MethodName := ⟨RX0, "copyFrom", "(LBookDroplets$Cup;)V"⟩
abbrev cX0_knownCount : ByteArray := prog_2_method_4_code
def yX0_knownCount : MethodName := ⟨RX0, "knownCount", "()I"⟩
abbrev cX0_receive : ByteArray := prog_2_method_5_code
def yX0_receive : MethodName := ⟨RX0, "receive", "(LBookDroplets$Droplet;)I"⟩
abbrev cX0_learnSingles : ByteArray := prog_2_method_6_code
def yX0_learnSingles : MethodName := ⟨RX0, "learnSingles", "(LBookDroplets$Rows;)I"⟩
abbrev cX0_keepIfRoom : ByteArray := prog_2_method_7_code
def yX0_keepIfRoom : MethodName := ⟨RX0, "keepIfRoom", "(II)Z"⟩
abbrev cX0_learn : ByteArray := prog_2_method_8_code
def yX0_learn : MethodName := ⟨RX0, "learn", "(II)V"⟩
abbrev cX0_peel : ByteArray := prog_2_method_9_code
def yX0_peel : MethodName := ⟨RX0, "peel", "()V"⟩
abbrev cX0_firstPeelable : ByteArray := prog_2_method_10_code
def yX0_firstPeelable : MethodName := ⟨RX0, "firstPeelable", "()I"⟩
abbrev cX0_removeKept : ByteArray := prog_2_method_11_code
def yX0_removeKept : MethodName := ⟨RX0, "removeKept", "(I)V"⟩
def RX1 : String := "BookDroplets$Droplet"
def TX1 : u_T := fun k => match k with
  | 0 => ("BookDroplets$Droplet", "lost", "Z", false)
  | 1 => ("BookDroplets$Droplet", "degree", "I", false)
  | 2 => ("BookDroplets$Droplet", "set", "I", false)
  | _ => ("BookDroplets$Droplet", "number", "I", false)
def tyX1 : Nat → FieldType := fun k => match k with
  | 0 => .boolean
  | 1 => .int
  | 2 => .int
  | _ => .int
abbrev wsX10 : List Cond := u_ws RX1 TX1 4
theorem nmX1 : ∀ a, a < 4 → ∀ b, b < 4 → a ≠ b → (TX1 a).2.1 ≠ (TX1 b).2.1 := by decide +kernel
theorem tyX1_ok : ∀ k, k < 4 → parseFieldDescriptor (TX1 k).2.2.1 = some (tyX1 k) := by decide +kernel
abbrev cX1_init : ByteArray := prog_3_method_1_code
def yX1_init : MethodName := ⟨RX1, "<init>", "()V"⟩
abbrev cX1_makeFrom : ByteArray := prog_3_method_2_code
def yX1_makeFrom : MethodName := ⟨RX1, "makeFrom", "(LBookDroplets$State;I)V"⟩
abbrev cX1_addFrom : ByteArray := prog_3_method_3_code
def yX1_addFrom : MethodName := ⟨RX1, "addFrom", "(LBookDroplets$State;I)V"⟩
abbrev cX1_nextDraw : ByteArray := prog_3_method_4_code
def yX1_nextDraw : MethodName := ⟨RX1, "nextDraw", "(I)I"⟩
abbrev cX1_degreeBy : ByteArray := prog_3_method_5_code
def yX1_degreeBy : MethodName := ⟨RX1, "degreeBy", "(III)I"⟩
abbrev cX1_commonDegree : ByteArray := prog_3_method_6_code
def yX1_commonDegree : MethodName := ⟨RX1, "commonDegree", "(I)I"⟩
def RX2 : String := "BookDroplets$History"
def TX2 : u_T := fun k => match k with
  | 0 => ("BookDroplets$History", "states", "[LBookDroplets$State;", true)
  | 1 => ("BookDroplets$History", "first", "I", false)
  | _ => ("BookDroplets$History", "count", "I", false)
def tyX2 : Nat → FieldType := fun k => match k with
  | 0 => .array (.object "BookDroplets$State")
  | 1 => .int
  | _ => .int
abbrev wsX20 : List Cond := u_ws RX2 TX2 3
theorem nmX2 : ∀ a, a < 3 → ∀ b, b < 3 → a ≠ b → (TX2 a).2.1 ≠ (TX2 b).2.1 := by decide +kernel
theorem tyX2_ok : ∀ k, k < 3 → parseFieldDescriptor (TX2 k).2.2.1 = some (tyX2 k) := by decide +kernel
abbrev cX2_init : ByteArray := prog_4_method_1_code
def yX2_init : MethodName := ⟨RX2, "<init>", "()V"⟩
abbrev cX2_note : ByteArray := prog_4_method_2_code
def yX2_note : MethodName := ⟨RX2, "note", "(LBookDroplets$State;)V"⟩
abbrev cX2_keepUnlessError : ByteArray := prog_4_method_3_code
def yX2_keepUnlessError : MethodName := ⟨RX2, "keepUnlessError", "(I)I"⟩
abbrev cX2_takeBackInto : ByteArray := prog_4_method_4_code
def yX2_takeBackInto : MethodName := ⟨RX2, "takeBackInto", "(LBookDroplets$State;)Z"⟩
abbrev cX2_placeBehindLast : ByteArray := prog_4_method_5_code
def yX2_placeBehindLast : MethodName := ⟨RX2, "placeBehindLast", "()I"⟩
def RX3 : String := "BookDroplets$Pad"
def TX3 : u_T := fun k => match k with
  | 0 => ("BookDroplets$Pad", "signs", "[C", true)
  | 1 => ("BookDroplets$Pad", "length", "I", false)
  | 2 => ("BookDroplets$Pad", "place", "I", false)
  | 3 => ("BookDroplets$Pad", "kind", "C", false)
  | 4 => ("BookDroplets$Pad", "cup", "I", false)
  | 5 => ("BookDroplets$Pad", "number", "I", false)
  | _ => ("BookDroplets$Pad", "many", "I", false)
def tyX3 : Nat → FieldType := fun k => match k with
  | 0 => .array .char
  | 1 => .int
  | 2 => .int
  | 3 => .char
  | 4 => .int
  | 5 => .int
  | _ => .int
abbrev wsX30 : List Cond := u_ws RX3 TX3 7
theorem nmX3 : ∀ a, a < 7 → ∀ b, b < 7 → a ≠ b → (TX3 a).2.1 ≠ (TX3 b).2.1 := by decide +kernel
theorem tyX3_ok : ∀ k, k < 7 → parseFieldDescriptor (TX3 k).2.2.1 = some (tyX3 k) := by decide +kernel
abbrev cX3_init : ByteArray := prog_5_method_1_code
def yX3_init : MethodName := ⟨RX3, "<init>", "()V"⟩
abbrev cX3_append : ByteArray := prog_5_method_2_code
def yX3_append : MethodName := ⟨RX3, "append", "(C)V"⟩
abbrev cX3_goToStart : ByteArray := prog_5_method_3_code
def yX3_goToStart : MethodName := ⟨RX3, "goToStart", "()V"⟩
abbrev cX3_findFault : ByteArray := prog_5_method_4_code
def yX3_findFault : MethodName := ⟨RX3, "findFault", "()I"⟩
abbrev cX3_readOrder : ByteArray := prog_5_method_5_code
def yX3_readOrder : MethodName := ⟨RX3, "readOrder", "()Z"⟩
abbrev cX3_skip : ByteArray := prog_5_method_6_code
def yX3_skip : MethodName := ⟨RX3, "skip", "(C)Z"⟩
abbrev cX3_readCup : ByteArray := prog_5_method_7_code
def yX3_readCup : MethodName := ⟨RX3, "readCup", "()Z"⟩
abbrev cX3_readMany : ByteArray := prog_5_method_8_code
def yX3_readMany : MethodName := ⟨RX3, "readMany", "()Z"⟩
abbrev cX3_readNumber : ByteArray := prog_5_method_9_code
def yX3_readNumber : MethodName := ⟨RX3, "readNumber", "()Z"⟩
abbrev cX3_digitHere : ByteArray := prog_5_method_10_code
def yX3_digitHere : MethodName := ⟨RX3, "digitHere", "()I"⟩
abbrev cX3_signHere : ByteArray := prog_5_method_11_code
def yX3_signHere : MethodName := ⟨RX3, "signHere", "()C"⟩
def RX4 : String := "BookDroplets$Rows"
def TX4 : u_T := fun k => match k with
  | 0 => ("BookDroplets$Rows", "sets", "[I", true)
  | _ => ("BookDroplets$Rows", "numbers", "[I", true)
def tyX4 : Nat → FieldType := fun k => match k with
  | 0 => .array .int
  | _ => .array .int
abbrev wsX40 : List Cond := u_ws RX4 TX4 2
theorem nmX4 : ∀ a, a < 2 → ∀ b, b < 2 → a ≠ b → (TX4 a).2.1 ≠ (TX4 b).2.1 := by decide +kernel
theorem tyX4_ok : ∀ k, k < 2 → parseFieldDescriptor (TX4 k).2.2.1 = some (tyX4 k) := by decide +kernel
abbrev cX4_init : ByteArray := prog_6_method_1_code
def yX4_init : MethodName := ⟨RX4, "<init>", "()V"⟩
abbrev cX4_reduce : ByteArray := prog_6_method_2_code
def yX4_reduce : MethodName := ⟨RX4, "reduce", "(LBookDroplets$Cup;)V"⟩
abbrev cX4_isSingle : ByteArray := prog_6_method_3_code
def yX4_isSingle : MethodName := ⟨RX4, "isSingle", "(I)Z"⟩
abbrev cX4_singleCount : ByteArray := prog_6_method_4_code
def yX4_singleCount : MethodName := ⟨RX4, "singleCount", "()I"⟩
def RX5 : String := "BookDroplets$State"
def TX5 : u_T := fun k => match k with
  | 0 => ("BookDroplets$State", "way", "I", false)
  | 1 => ("BookDroplets$State", "loss", "I", false)
  | 2 => ("BookDroplets$State", "chapterCount", "I", false)
  | 3 => ("BookDroplets$State", "cupCount", "I", false)
  | 4 => ("BookDroplets$State", "poured", "I", false)
  | 5 => ("BookDroplets$State", "chapters", "[I", true)
  | _ => ("BookDroplets$State", "cups", "[LBookDroplets$Cup;", true)
def tyX5 : Nat → FieldType := fun k => match k with
  | 0 => .int
  | 1 => .int
  | 2 => .int
  | 3 => .int
  | 4 => .int
  | 5 => .array .int
  | _ => .array (.object "BookDroplets$Cup")
abbrev wsX50 : List Cond := u_ws RX5 TX5 7
theorem nmX5 : ∀ a, a < 7 → ∀ b, b < 7 → a ≠ b → (TX5 a).2.1 ≠ (TX5 b).2.1 := by decide +kernel
theorem tyX5_ok : ∀ k, k < 7 → parseFieldDescriptor (TX5 k).2.2.1 = some (tyX5 k) := by decide +kernel
abbrev cX5_init : ByteArray := prog_7_method_1_code
def yX5_init : MethodName := ⟨RX5, "<init>", "()V"⟩
abbrev cX5_cupAt : ByteArray := prog_7_method_2_code
def yX5_cupAt : MethodName := ⟨RX5, "cupAt", "(I)LBookDroplets$Cup;"⟩
abbrev cX5_allChapters : ByteArray := prog_7_method_3_code
def yX5_allChapters : MethodName := ⟨RX5, "allChapters", "()I"⟩
abbrev cX5_copyFrom : ByteArray := prog_7_method_4_code
def yX5_copyFrom : MethodName := ⟨RX5, "copyFrom", "(LBookDroplets$State;)V"⟩
def RX6 : String := "BookDroplets"
def TX6 : u_T := fun k => match k with
  | 0 => ("BookDroplets", "now", "LBookDroplets$State;", true)
  | 1 => ("BookDroplets", "history", "LBookDroplets$History;", true)
  | 2 => ("BookDroplets", "slots", "[LBookDroplets$State;", true)
  | 3 => ("BookDroplets", "pad", "LBookDroplets$Pad;", true)
  | 4 => ("BookDroplets", "fallen", "LBookDroplets$Droplet;", true)
  | 5 => ("BookDroplets", "trial", "LBookDroplets$Cup;", true)
  | _ => ("BookDroplets", "rows", "LBookDroplets$Rows;", true)
def tyX6 : Nat → FieldType := fun k => match k with
  | 0 => .object "BookDroplets$State"
  | 1 => .object "BookDroplets$History"
  | 2 => .array (.object "BookDroplets$State")
  | 3 => .object "BookDroplets$Pad"
  | 4 => .object "BookDroplets$Droplet"
  | 5 => .object "BookDroplets$Cup"
  | _ => .object "BookDroplets$Rows"
abbrev wsX60 : List Cond := u_ws RX6 TX6 7
theorem nmX6 : ∀ a, a < 7 → ∀ b, b < 7 → a ≠ b → (TX6 a).2.1 ≠ (TX6 b).2.1 := by decide +kernel
theorem tyX6_ok : ∀ k, k < 7 → parseFieldDescriptor (TX6 k).2.2.1 = some (tyX6 k) := by decide +kernel
abbrev cX6_init : ByteArray := prog_1_method_1_code
def yX6_init : MethodName := ⟨RX6, "<init>", "()V"⟩
abbrev cX6_set : ByteArray := prog_1_method_2_code
def yX6_set : MethodName := ⟨RX6, "set", "(II)I"⟩
abbrev cX6_chapter : ByteArray := prog_1_method_3_code
def yX6_chapter : MethodName := ⟨RX6, "chapter", "(I)I"⟩
abbrev cX6_cup : ByteArray := prog_1_method_4_code
def yX6_cup : MethodName := ⟨RX6, "cup", "()I"⟩
abbrev cX6_empty : ByteArray := prog_1_method_5_code
def yX6_empty : MethodName := ⟨RX6, "empty", "(I)I"⟩
abbrev cX6_pour : ByteArray := prog_1_method_6_code
def yX6_pour : MethodName := ⟨RX6, "pour", "(III)I"⟩
abbrev cX6_solve : ByteArray := prog_1_method_7_code
def yX6_solve : MethodName := ⟨RX6, "solve", "(I)I"⟩
abbrev cX6_droplet : ByteArray := prog_1_method_8_code
def yX6_droplet : MethodName := ⟨RX6, "droplet", "(II)I"⟩
abbrev cX6_ofCup : ByteArray := prog_1_method_9_code
def yX6_ofCup : MethodName := ⟨RX6, "ofCup", "(II)I"⟩
abbrev cX6_known : ByteArray := prog_1_method_10_code
def yX6_known : MethodName := ⟨RX6, "known", "(II)I"⟩
abbrev cX6_kept : ByteArray := prog_1_method_11_code
def yX6_kept : MethodName := ⟨RX6, "kept", "(III)I"⟩
abbrev cX6_count : ByteArray := prog_1_method_12_code
def yX6_count : MethodName := ⟨RX6, "count", "(I)I"⟩
abbrev cX6_would : ByteArray := prog_1_method_13_code
def yX6_would : MethodName := ⟨RX6, "would", "(II)I"⟩
abbrev cX6_needs : ByteArray := prog_1_method_14_code
def yX6_needs : MethodName := ⟨RX6, "needs", "(II)I"⟩
abbrev cX6_degrees : ByteArray := prog_1_method_15_code
def yX6_degrees : MethodName := ⟨RX6, "degrees", "(III)I"⟩
abbrev cX6_put : ByteArray := prog_1_method_16_code
def yX6_put : MethodName := ⟨RX6, "put", "(J)I"⟩
abbrev cX6_wipe : ByteArray := prog_1_method_17_code
def yX6_wipe : MethodName := ⟨RX6, "wipe", "()I"⟩
abbrev cX6_fault : ByteArray := prog_1_method_18_code
def yX6_fault : MethodName := ⟨RX6, "fault", "()I"⟩
abbrev cX6_carryOut : ByteArray := prog_1_method_19_code
def yX6_carryOut : MethodName := ⟨RX6, "carryOut", "()I"⟩
abbrev cX6_undo : ByteArray := prog_1_method_20_code
def yX6_undo : MethodName := ⟨RX6, "undo", "()I"⟩
abbrev cX6_save : ByteArray := prog_1_method_21_code
def yX6_save : MethodName := ⟨RX6, "save", "(I)I"⟩
abbrev cX6_restore : ByteArray := prog_1_method_22_code
def yX6_restore : MethodName := ⟨RX6, "restore", "(I)I"⟩
abbrev cX6_changeSetting : ByteArray := prog_1_method_23_code
def yX6_changeSetting : MethodName := ⟨RX6, "changeSetting", "(II)I"⟩
abbrev cX6_addChapter : ByteArray := prog_1_method_24_code
def yX6_addChapter : MethodName := ⟨RX6, "addChapter", "(I)I"⟩
abbrev cX6_addCup : ByteArray := prog_1_method_25_code
def yX6_addCup : MethodName := ⟨RX6, "addCup", "()I"⟩
abbrev cX6_emptyCup : ByteArray := prog_1_method_26_code
def yX6_emptyCup : MethodName := ⟨RX6, "emptyCup", "(I)I"⟩
abbrev cX6_pourDroplets : ByteArray := prog_1_method_27_code
def yX6_pourDroplets : MethodName := ⟨RX6, "pourDroplets", "(III)I"⟩
abbrev cX6_solveCup : ByteArray := prog_1_method_28_code
def yX6_solveCup : MethodName := ⟨RX6, "solveCup", "(I)I"⟩
abbrev cX6_restoreFrom : ByteArray := prog_1_method_29_code
def yX6_restoreFrom : MethodName := ⟨RX6, "restoreFrom", "(I)I"⟩
abbrev cX6_carryOneOut : ByteArray := prog_1_method_30_code
def yX6_carryOneOut : MethodName := ⟨RX6, "carryOneOut", "()I"⟩
abbrev cX6_errorOfDroplets : ByteArray := prog_1_method_31_code
def yX6_errorOfDroplets : MethodName := ⟨RX6, "errorOfDroplets", "(II)I"⟩
abbrev cX6_isFull : ByteArray := prog_1_method_32_code
def yX6_isFull : MethodName := ⟨RX6, "isFull", "(LBookDroplets$Cup;)Z"⟩
abbrev cX6_fullCups : ByteArray := prog_1_method_33_code
def yX6_fullCups : MethodName := ⟨RX6, "fullCups", "()I"⟩
abbrev cX6_isWithin : ByteArray := prog_1_method_34_code
def yX6_isWithin : MethodName := ⟨RX6, "isWithin", "(III)Z"⟩
abbrev cX6_wrappedSeed : ByteArray := prog_1_method_35_code
def yX6_wrappedSeed : MethodName := ⟨RX6, "wrappedSeed", "(I)I"⟩
abbrev cX6_charactersIn : ByteArray := prog_1_method_36_code
def yX6_charactersIn : MethodName := ⟨RX6, "charactersIn", "(J)I"⟩
def RX7 : String := "BookDropletsModel"
def TX7 : u_T := fun k => match k with
  | 0 => ("BookDropletsModel", "row", "[I", true)
  | 1 => ("BookDropletsModel", "past", "[I", true)
  | 2 => ("BookDropletsModel", "before", "[I", true)
  | 3 => ("BookDropletsModel", "aside", "[I", true)
  | 4 => ("BookDropletsModel", "slots", "[I", true)
  | 5 => ("BookDropletsModel", "isSaved", "[Z", true)
  | 6 => ("BookDropletsModel", "states", "I", false)
  | 7 => ("BookDropletsModel", "pad", "[I", true)
  | 8 => ("BookDropletsModel", "length", "I", false)
  | 9 => ("BookDropletsModel", "at", "I", false)
  | 10 => ("BookDropletsModel", "codes", "[I", true)
  | 11 => ("BookDropletsModel", "numbers", "[I", true)
  | 12 => ("BookDropletsModel", "isLost", "Z", false)
  | 13 => ("BookDropletsModel", "degree", "I", false)
  | 14 => ("BookDropletsModel", "set", "I", false)
  | 15 => ("BookDropletsModel", "number", "I", false)
  | 16 => ("BookDropletsModel", "sets", "[I", true)
  | _ => ("BookDropletsModel", "sums", "[I", true)
def tyX7 : Nat → FieldType := fun k => match k with
  | 0 => .array .int
  | 1 => .array .int
  | 2 => .array .int
  | 3 => .array .int
  | 4 => .array .int
  | 5 => .array .boolean
  | 6 => .int
  | 7 => .array .int
  | 8 => .int
  | 9 => .int
  | 10 => .array .int
  | 11 => .array .int
  | 12 => .boolean
  | 13 => .int
  | 14 => .int
  | 15 => .int
  | 16 => .array .int
  | _ => .array .int
abbrev wsX70 : List Cond := u_ws RX7 TX7 18
theorem nmX7 : ∀ a, a < 18 → ∀ b, b < 18 → a ≠ b → (TX7 a).2.1 ≠ (TX7 b).2.1 := by decide +kernel
theorem tyX7_ok : ∀ k, k < 18 → parseFieldDescriptor (TX7 k).2.2.1 = some (tyX7 k) := by decide +kernel
abbrev cX7_init : ByteArray := prog_9_method_1_code
def yX7_init : MethodName := ⟨RX7, "<init>", "()V"⟩
abbrev cX7_in : ByteArray := prog_9_method_2_code
def yX7_in : MethodName := ⟨RX7, "in", "(JII)Z"⟩
abbrev cX7_size : ByteArray := prog_9_method_3_code
def yX7_size : MethodName := ⟨RX7, "size", "(I)I"⟩
abbrev cX7_isCup : ByteArray := prog_9_method_4_code
def yX7_isCup : MethodName := ⟨RX7, "isCup", "(I)Z"⟩
abbrev cX7_its : ByteArray := prog_9_method_5_code
def yX7_its : MethodName := ⟨RX7, "its", "(II)I"⟩
abbrev cX7_lay : ByteArray := prog_9_method_6_code
def yX7_lay : MethodName := ⟨RX7, "lay", "(III)V"⟩
abbrev cX7_whole : ByteArray := prog_9_method_7_code
def yX7_whole : MethodName := ⟨RX7, "whole", "()I"⟩
abbrev cX7_isFull : ByteArray := prog_9_method_8_code
def yX7_isFull : MethodName := ⟨RX7, "isFull", "(I)Z"⟩
abbrev cX7_remember : ByteArray := prog_9_method_9_code
def yX7_remember : MethodName := ⟨RX7, "remember", "()V"⟩
abbrev cX7_record : ByteArray := prog_9_method_10_code
def yX7_record : MethodName := ⟨RX7, "record", "(I)I"⟩
abbrev cX7_undo : ByteArray := prog_9_method_11_code
def yX7_undo : MethodName := ⟨RX7, "undo", "()I"⟩
abbrev cX7_save : ByteArray := prog_9_method_12_code
def yX7_save : MethodName := ⟨RX7, "save", "(I)I"⟩
abbrev cX7_restore : ByteArray := prog_9_method_13_code
def yX7_restore : MethodName := ⟨RX7, "restore", "(I)I"⟩
abbrev cX7_layAside : ByteArray := prog_9_method_14_code
def yX7_layAside : MethodName := ⟨RX7, "layAside", "()V"⟩
abbrev cX7_putBack : ByteArray := prog_9_method_15_code
def yX7_putBack : MethodName := ⟨RX7, "putBack", "()V"⟩
abbrev cX7_draw : ByteArray := prog_9_method_16_code
def yX7_draw : MethodName := ⟨RX7, "draw", "(I)I"⟩
abbrev cX7_degreeBy : ByteArray := prog_9_method_17_code
def yX7_degreeBy : MethodName := ⟨RX7, "degreeBy", "(I)I"⟩
abbrev cX7_make : ByteArray := prog_9_method_18_code
def yX7_make : MethodName := ⟨RX7, "make", "(I)V"⟩
abbrev cX7_lowest : ByteArray := prog_9_method_19_code
def yX7_lowest : MethodName := ⟨RX7, "lowest", "(I)I"⟩
abbrev cX7_takeAway : ByteArray := prog_9_method_20_code
def yX7_takeAway : MethodName := ⟨RX7, "takeAway", "(II)V"⟩
abbrev cX7_knows : ByteArray := prog_9_method_21_code
def yX7_knows : MethodName := ⟨RX7, "knows", "(III)V"⟩
abbrev cX7_firstSmall : ByteArray := prog_9_method_22_code
def yX7_firstSmall : MethodName := ⟨RX7, "firstSmall", "(I)I"⟩
abbrev cX7_peel : ByteArray := prog_9_method_23_code
def yX7_peel : MethodName := ⟨RX7, "peel", "(I)I"⟩
abbrev cX7_comes : ByteArray := prog_9_method_24_code
def yX7_comes : MethodName := ⟨RX7, "comes", "(I)I"⟩
abbrev cX7_drops : ByteArray := prog_9_method_25_code
def yX7_drops : MethodName := ⟨RX7, "drops", "(II)I"⟩
abbrev cX7_follow : ByteArray := prog_9_method_26_code
def yX7_follow : MethodName := ⟨RX7, "follow", "(I)I"⟩
abbrev cX7_begins : ByteArray := prog_9_method_27_code
def yX7_begins : MethodName := ⟨RX7, "begins", "(I)I"⟩
abbrev cX7_cupComes : ByteArray := prog_9_method_28_code
def yX7_cupComes : MethodName := ⟨RX7, "cupComes", "()I"⟩
abbrev cX7_pours : ByteArray := prog_9_method_29_code
def yX7_pours : MethodName := ⟨RX7, "pours", "(III)I"⟩
abbrev cX7_solves : ByteArray := prog_9_method_30_code
def yX7_solves : MethodName := ⟨RX7, "solves", "(I)I"⟩
abbrev cX7_set : ByteArray := prog_9_method_31_code
def yX7_set : MethodName := ⟨RX7, "set", "(II)I"⟩
abbrev cX7_chapter : ByteArray := prog_9_method_32_code
def yX7_chapter : MethodName := ⟨RX7, "chapter", "(I)I"⟩
abbrev cX7_cup : ByteArray := prog_9_method_33_code
def yX7_cup : MethodName := ⟨RX7, "cup", "()I"⟩
abbrev cX7_empty : ByteArray := prog_9_method_34_code
def yX7_empty : MethodName := ⟨RX7, "empty", "(I)I"⟩
abbrev cX7_pour : ByteArray := prog_9_method_35_code
def yX7_pour : MethodName := ⟨RX7, "pour", "(III)I"⟩
abbrev cX7_solve : ByteArray := prog_9_method_36_code
def yX7_solve : MethodName := ⟨RX7, "solve", "(I)I"⟩
abbrev cX7_droplet : ByteArray := prog_9_method_37_code
def yX7_droplet : MethodName := ⟨RX7, "droplet", "(II)I"⟩
abbrev cX7_ofCup : ByteArray := prog_9_method_38_code
def yX7_ofCup : MethodName := ⟨RX7, "ofCup", "(II)I"⟩
abbrev cX7_known : ByteArray := prog_9_method_39_code
def yX7_known : MethodName := ⟨RX7, "known", "(II)I"⟩
abbrev cX7_kept : ByteArray := prog_9_method_40_code
def yX7_kept : MethodName := ⟨RX7, "kept", "(III)I"⟩
abbrev cX7_fullCups : ByteArray := prog_9_method_41_code
def yX7_fullCups : MethodName := ⟨RX7, "fullCups", "()I"⟩
abbrev cX7_count : ByteArray := prog_9_method_42_code
def yX7_count : MethodName := ⟨RX7, "count", "(I)I"⟩
abbrev cX7_refusal : ByteArray := prog_9_method_43_code
def yX7_refusal : MethodName := ⟨RX7, "refusal", "(II)I"⟩
abbrev cX7_would : ByteArray := prog_9_method_44_code
def yX7_would : MethodName := ⟨RX7, "would", "(II)I"⟩
abbrev cX7_needs : ByteArray := prog_9_method_45_code
def yX7_needs : MethodName := ⟨RX7, "needs", "(II)I"⟩
abbrev cX7_degrees : ByteArray := prog_9_method_46_code
def yX7_degrees : MethodName := ⟨RX7, "degrees", "(III)I"⟩
abbrev cX7_put : ByteArray := prog_9_method_47_code
def yX7_put : MethodName := ⟨RX7, "put", "(J)I"⟩
abbrev cX7_wipe : ByteArray := prog_9_method_48_code
def yX7_wipe : MethodName := ⟨RX7, "wipe", "()I"⟩
abbrev cX7_sees : ByteArray := prog_9_method_49_code
def yX7_sees : MethodName := ⟨RX7, "sees", "(II)Z"⟩
abbrev cX7_takes : ByteArray := prog_9_method_50_code
def yX7_takes : MethodName := ⟨RX7, "takes", "(I)Z"⟩
abbrev cX7_digit : ByteArray := prog_9_method_51_code
def yX7_digit : MethodName := ⟨RX7, "digit", "(I)Z"⟩
abbrev cX7_number : ByteArray := prog_9_method_52_code
def yX7_number : MethodName := ⟨RX7, "number", "(I)Z"⟩
abbrev cX7_reads : ByteArray := prog_9_method_53_code
def yX7_reads : MethodName := ⟨RX7, "reads", "(I)Z"⟩
abbrev cX7_order : ByteArray := prog_9_method_54_code
def yX7_order : MethodName := ⟨RX7, "order", "(Z)I"⟩
abbrev cX7_isWell : ByteArray := prog_9_method_55_code
def yX7_isWell : MethodName := ⟨RX7, "isWell", "()Z"⟩
abbrev cX7_fault : ByteArray := prog_9_method_56_code
def yX7_fault : MethodName := ⟨RX7, "fault", "()I"⟩
abbrev cX7_carryOut : ByteArray := prog_9_method_57_code
def yX7_carryOut : MethodName := ⟨RX7, "carryOut", "()I"⟩
def RJ6 : String := "java/lang/Integer"
abbrev cJ6_bitCount_0f7a4 : ByteArray := prog_10_method_49_code
def yJ6_bitCount_0f7a4 : MethodName := ⟨RJ6, "bitCount", "(I)I"⟩
def RJ9 : String := "java/lang/Math"
abbrev cJ9_floorMod_7cf53 : ByteArray := prog_11_method_50_code
def yJ9_floorMod_7cf53 : MethodName := ⟨RJ9, "floorMod", "(II)I"⟩
abbrev cJ9_min_7cf53 : ByteArray := prog_11_method_69_code
def yJ9_min_7cf53 : MethodName := ⟨RJ9, "min", "(II)I"⟩
def RJ10 : String := "java/lang/System"
def RL : String := "BookDropletsLaw"
abbrev cL_law : ByteArray := code
def yL_law : MethodName := ⟨RL, "law", "([I)Z"⟩
abbrev vwCl : List vw_C := [(RX0, TX0, 8), (RX1, TX1, 4), (RX2, TX2, 3), (RX3, TX3, 7), (RX4, TX4, 2), (RX5, TX5, 7), (RX6, TX6, 7), (RX7, TX7, 18)]
end
section
/-! blobs: an object with its own arrays, as one function of places; what a heap holds is a list of blobs -/
def zgw : List Cond := lw_tbl.filter goodWord
def zkind : Cond → Bool
  | .methodLinkNest .. => true
  | .fieldLinkNest .. => true
  | .arrayOver (.object _) => true
  | _ => false
def zbw : List Cond := lw_tbl.filter zkind
theorem zin {w : Cond} (i : Nat) (h : lw_tbl[i]? = some w) (g : goodWord w = true := by rfl) : w ∈ zgw := List.mem_filter.mpr ⟨List.mem_of_getElem? h, g⟩
theorem zinb {w : Cond} (i : Nat) (h : lw_tbl[i]? = some w) (g : zkind w = true := by rfl) : w ∈ zbw := List.mem_filter.mpr ⟨List.mem_of_getElem? h, g⟩
def zNw (U : State) : Prop := ∀ w ∈ zbw, va_Nw w U
theorem zNw_warm {s U : State} (hW : s.WarmedH U.vm) (h : zNw s) : zNw U := by
  intro w hw
  have hk := (List.mem_filter.mp hw).2
  have h1 := h w hw
  cases w <;> simp only [zkind, Bool.false_eq_true] at hk
  case methodLinkNest => exact va_Nw.warmM hW h1
  case fieldLinkNest => exact va_Nw.warmF hW h1
  case arrayOver ty =>
    cases ty <;> simp only [zkind, Bool.false_eq_true] at hk
    exact va_AO.moved hW.alike h1
theorem zgw_good {w : Cond} (h : w ∈ zgw) : goodWord w = true := (List.mem_filter.mp h).2
abbrev zG : Type := Nat → Nat → Int32
abbrev zL : Type := List (Nat × Nat)
/-- a cell of a blob: an object (class, a kind for each field: 0 a number, 1 a reference told by a number, r+2 the cell r behind), or an array (element type, length, first place, and for fixed references the first and the step) -/
abbrev zCD : Type := (Nat × List Nat) ⊕ (Nat × Nat × Nat × Nat × Nat)
abbrev zD : Type := va_G × (Nat → ClassId)
def zbT : Nat → List (Nat × zCD)
  | 1 => [(0, .inl (6, [3, 18, 125, 126, 128, 129, 133]))]
  | 2 => [(0, .inl (5, [0, 0, 0, 0, 0, 3, 4])), (1, .inr (0, 16, 7, 0, 0)), (2, .inr (4, 3, 23, 3, 4))]
  | 3 => [(0, .inl (0, [0, 0, 0, 0, 0, 3, 4, 5])), (1, .inr (0, 16, 8, 0, 0)), (2, .inr (0, 24, 24, 0, 0)), (3, .inr (0, 24, 48, 0, 0))]
  | 4 => [(0, .inl (1, [0, 0, 0, 0]))]
  | 5 => [(0, .inl (4, [3, 4])), (1, .inr (0, 24, 2, 0, 0)), (2, .inr (0, 24, 26, 0, 0))]
  | 6 => [(0, .inl (2, [3, 0, 0])), (1, .inr (3, 7, 3, 2, 15))]
  | 7 => [(0, .inl (3, [3, 0, 0, 0, 0, 0, 0])), (1, .inr (1, 80, 7, 0, 0))]
  | 8 => [(0, .inl (7, [3, 4, 5, 6, 7, 8, 0, 9, 0, 0, 10, 11, 0, 0, 0, 0, 12, 13])), (1, .inr (0, 228, 18, 0, 0)), (2, .inr (0, 1368, 246, 0, 0)), (3, .inr (0, 228, 1614, 0, 0)), (4, .inr (0, 228, 1842, 0, 0)), (5, .inr (0, 456, 2070, 0, 0)), (6, .inr (2, 2, 2526, 0, 0)), (7, .inr (0, 80, 2528, 0, 0)), (8, .inr (0, 8, 2608, 0, 0)), (9, .inr (0, 3, 2616, 0, 0)), (10, .inr (0, 16, 2619, 0, 0)), (11, .inr (0, 16, 2635, 0, 0))]
  | 10 => [(0, .inl (0, [0, 0, 0, 0, 0, 1, 1, 1]))]
  | 11 => [(0, .inl (1, [0, 0, 0, 0]))]
  | 12 => [(0, .inl (2, [1, 0, 0]))]
  | 13 => [(0, .inl (3, [1, 0, 0, 0, 0, 0, 0]))]
  | 14 => [(0, .inl (4, [1, 1]))]
  | 15 => [(0, .inl (5, [0, 0, 0, 0, 0, 1, 1]))]
  | 16 => [(0, .inl (6, [1, 1, 1, 1, 1, 1, 1]))]
  | 17 => [(0, .inl (7, [1, 1, 1, 1, 1, 1, 0, 1, 0, 0, 1, 1, 0, 0, 0, 0, 1, 1]))]
  | t => if 100 ≤ t then [(0, .inr ((t - 100) / 10000, (t - 100) % 10000, 0, 0, 0))] else []
def zty : Nat → FieldType
  | 0 => .int
  | 1 => .char
  | 2 => .boolean
  | 3 => .object "BookDroplets$State"
  | _ => .object "BookDroplets$Cup"
def ztys (D : zD) : List (ClassId × FieldType) := [(D.2 0, zty 0), (D.2 1, zty 1), (D.2 2, zty 2), (D.2 3, zty 3), (D.2 4, zty 4)]
def zdr (q : Nat) (z : Int32) : Option Nat := if z = 0 then none else some (q + z.toNatClampNeg)
def zfv (q : Nat) (f : Nat → Int32) (k : Nat) : Nat → Value
  | 0 => .int (f k)
  | 1 => va_rf (zdr q (f k))
  | r + 2 => .ref (q + r)
def zfl (q : Nat) (f : Nat → Int32) : Nat → List Nat → List Value
  | _, [] => []
  | k, z :: r => zfv q f k z :: zfl q f (k + 1) r
def zai (n off : Nat) (f : Nat → Int32) : Nat → Int32 := fun j => if j < n then f (off + j) else 0
def zar (q n off a b : Nat) (f : Nat → Int32) : Nat → Option Nat := fun j => if j < n then (if b = 0 then zdr q (f (off + j)) else some (q + (a + b * j))) else none
def zac (q ta n off a b : Nat) (f : Nat → Int32) : (Nat → Int32) ⊕ (Nat → Int64) ⊕ (Nat → UInt32) ⊕ (Nat → UInt64) ⊕ (Nat → Option Nat) :=
  if ta < 3 then .inl (zai n off f) else .inr (.inr (.inr (.inr (zar q n off a b f))))
def zce (D : zD) (q : Nat) (f : Nat → Int32) : zCD → va_E
  | .inl c => .inr (c.1, zfl q f 0 c.2)
  | .inr c => .inl (D.2 c.1, c.2.1, zac q c.1 c.2.1 c.2.2.1 c.2.2.2.1 c.2.2.2.2 f)
def zpl (L : zL) : List (Nat × Nat × zCD) := L.flatMap (fun b => (zbT b.2).map (fun c => (b.1, c.1, c.2)))
def zcs (D : zD) (L : zL) (G : zG) : va_W := (zpl L).map (fun p => (p.1 + p.2.1, zce D p.1 (G p.1) p.2.2))
def zfun (L : zL) (nx : Nat) : Prop := (∀ q t u, (q, t) ∈ L → (q, u) ∈ L → t = u) ∧ ∀ b ∈ L, b.1 < nx
def zW (D : zD) (B : Nat) (L : zL) (nx : Nat) (G : zG) (H : Heap) : Prop :=
  H.size = nx ∧ va_P D.1 vwCl (zcs D L G) H ∧ va_D (fun q => B ≤ q) (zcs D L G) ∧ zfun L nx
def zX (X0 : State → Prop) (D : zD) (own mn : String) (cc : ByteArray) (nL : Nat) (p : Program) (s : State) (m : MethodId) (args : Array Value) (meth : Method) (c : Code) : Prop :=
  p.tables.exec = Jvm.exec ∧ c.code = cc ∧ c.maxLocals = nL ∧ s.vm.findClass own = some m.cls ∧ (∀ w ∈ zgw, w.before args s = true) ∧ va_K D.1 vwCl (ztys D) s ∧ meth.name = mn ∧ zNw s ∧ X0 s
def zlv (ls : Array Slot) (nL : Nat) (lv : List (Option Value)) : Prop := lv.length = nL ∧ ls.size = nL ∧ lv_wf ls ∧ ∀ (i : Nat) (v : Value), lv[i]? = some (some v) → ls[i]? = some (.val v)
def zRet (cc : ByteArray) (ret : Option FieldType) (pc : Nat) (v : Option Value) : Prop :=
  (∃ (x : Int32) (ty : FieldType), v = some (.int x) ∧ ret = some ty ∧ narrow ty (.int x) = .int x ∧ decode cc pc = .ok (.ireturn, 1)) ∨
  (v = none ∧ ret = none ∧ decode cc pc = .ok (.return_, 1)) ∨
  (∃ (w : Value) (C : String), v = some w ∧ ret = some (.object C) ∧ (w = .null ∨ ∃ a, w = .ref a) ∧ decode cc pc = .ok (.areturn, 1))
abbrev zP : Type := Option Value → zL → Nat → zG → Nat → Nat → Prop
/-- from the frame at pc with these locals, this stack and these blobs, the method comes to a return with 'post' -/
def zV (l : Launch) (X0 : State → Prop) (D : zD) (B : Nat) (own mn : String) (cc : ByteArray) (nL : Nat) (ret : Option FieldType) (R : Room) (post : zP) (k n : Nat) (L : zL) (nx : Nat) (pc : Nat) (lv : List (Option Value)) (st : List Value) (G : zG) : Prop :=
  ∀ (p : Program) (e : Env) (s : State) (m : MethodId) (args : Array Value) (below : List Frame) (meth : Method) (c : Code) (H : Heap) (locs : List Loc) (ls : Array Slot) (Q : State → Prop),
    zX X0 D own mn cc nL p s m args meth c →
    (∀ (H' : Heap) (locs' : List Loc) (ls' : Array Slot) (pc' : Nat) (v : Option Value) (L' : zL) (nx' : Nat) (G' : zG) (k' n' : Nat), zRet cc ret pc' v → zW D B L' nx' G' H' → va_S (fun q => B ≤ q) s.heap H' locs' → post v L' nx' G' k' n' →
      W p l e R s m args below meth c H' locs' k' n' Q (F0 m pc' ls' v.toList)) →
    zlv ls nL lv → zW D B L nx G H → va_S (fun q => B ≤ q) s.heap H locs → W p l e R s m args below meth c H locs k n Q (F0 m pc ls st)
section ZROWS
variable {l : Launch} {X0 : State → Prop} {D : zD} {B : Nat} {own mn : String} {cc : ByteArray} {nL : Nat} {ret : Option FieldType} {R : Room} {post : zP} {k n : Nat} {L : zL} {nx : Nat} {pc : Nat} {lv : List (Option Value)} {st : List Value} {G : zG}
theorem zv_iconst {i : Int} {v : Int32} (hd : decode cc pc = .ok (.iconst i, 1)) (hv : Int32.ofInt i = v) (kk : zV l X0 D B own mn cc nL ret R post k n L nx (pc + 1) lv (.int v :: st) G) : zV l X0 D B own mn cc nL ret R post k n L nx pc lv (st) G :=
  fun p e s m args below meth c H locs ls Q hX hR hl hW hS => lv_iconst hX.1 hX.2.1 hd hv (kk p e s m args below meth c H locs ls Q hX hR hl hW hS)
theorem zv_bipush {i : Int} {v : Int32} (hd : decode cc pc = .ok (.bipush i, 2)) (hv : (Int8.ofInt i).toInt32 = v) (kk : zV l X0 D B own mn cc nL ret R post k n L nx (pc + 2) lv (.int v :: st) G) : zV l X0 D B own mn cc nL ret R post k n L nx pc lv (st) G :=
  fun p e s m args below meth c H locs ls Q hX hR hl hW hS => lv_bipush hX.1 hX.2.1 hd hv (kk p e s m args below meth c H locs ls Q hX hR hl hW hS)
theorem zv_sipush {i : Int} {v : Int32} (hd : decode cc pc = .ok (.sipush i, 3)) (hv : (Int16.ofInt i).toInt32 = v) (kk : zV l X0 D B own mn cc nL ret R post k n L nx (pc + 3) lv (.int v :: st) G) : zV l X0 D B own mn cc nL ret R post k n L nx pc lv (st) G :=
  fun p e s m args below meth c H locs ls Q hX hR hl hW hS => lv_sipush hX.1 hX.2.1 hd hv (kk p e s m args below meth c H locs ls Q hX hR hl hW hS)
theorem zv_lconst {i : Fin 2} {v : Int64} (hd : decode cc pc = .ok (.lconst i, 1)) (hv : Int64.ofNat (i : Nat) = v) (kk : zV l X0 D B own mn cc nL ret R post k n L nx (pc + 1) lv (.long v :: st) G) : zV l X0 D B own mn cc nL ret R post k n L nx pc lv (st) G :=
  fun p e s m args below meth c H locs ls Q hX hR hl hW hS => lv_lconst hX.1 hX.2.1 hd hv (kk p e s m args below meth c H locs ls Q hX hR hl hW hS)
theorem zv_null (hd : decode cc pc = .ok (.aconst_null, 1)) (kk : zV l X0 D B own mn cc nL ret R post k n L nx (pc + 1) lv (.null :: st) G) : zV l X0 D B own mn cc nL ret R post k n L nx pc lv (st) G :=
  fun p e s m args below meth c H locs ls Q hX hR hl hW hS => lv_null hX.1 hX.2.1 hd (kk p e s m args below meth c H locs ls Q hX hR hl hW hS)
theorem zv_ldc {ix : Nat} {v : Int32} (hd : decode cc pc = .ok (.ldc ix, 2)) (hw : Cond.constant own ix v ∈ zgw) (kk : zV l X0 D B own mn cc nL ret R post k n L nx (pc + 2) lv (.int v :: st) G) : zV l X0 D B own mn cc nL ret R post k n L nx pc lv (st) G :=
  fun p e s m args below meth c H locs ls Q hX hR hl hW hS => lv_ldc hX.1 hX.2.1 hX.2.2.2.1 (hX.2.2.2.2.1 _ hw) hd (kk p e s m args below meth c H locs ls Q hX hR hl hW hS)
theorem zv_ldc2 {ix : Nat} {v : Int64} (hd : decode cc pc = .ok (.ldc2_w ix, 3)) (hw : Cond.constantLong own ix v ∈ zgw) (kk : zV l X0 D B own mn cc nL ret R post k n L nx (pc + 3) lv (.long v :: st) G) : zV l X0 D B own mn cc nL ret R post k n L nx pc lv (st) G :=
  fun p e s m args below meth c H locs ls Q hX hR hl hW hS => lv_ldc2 hX.1 hX.2.1 hX.2.2.2.1 (hX.2.2.2.2.1 _ hw) hd (kk p e s m args below meth c H locs ls Q hX hR hl hW hS)
theorem zv_iload_n {i : Fin 4} {x : Int32} (hd : decode cc pc = .ok (.iload_n i, 1)) (hv : lv[(i : Nat)]? = some (some (.int x))) (kk : zV l X0 D B own mn cc nL ret R post k n L nx (pc + 1) lv (.int x :: st) G) : zV l X0 D B own mn cc nL ret R post k n L nx pc lv (st) G :=
  fun p e s m args below meth c H locs ls Q hX hR hl hW hS => lv_iload_n hX.1 hX.2.1 hd rfl (hl.2.2.2 _ _ hv) (kk p e s m args below meth c H locs ls Q hX hR hl hW hS)
theorem zv_iload {i : Nat} {x : Int32} (hd : decode cc pc = .ok (.iload i, 2)) (hv : lv[i]? = some (some (.int x))) (kk : zV l X0 D B own mn cc nL ret R post k n L nx (pc + 2) lv (.int x :: st) G) : zV l X0 D B own mn cc nL ret R post k n L nx pc lv (st) G :=
  fun p e s m args below meth c H locs ls Q hX hR hl hW hS => lv_iload hX.1 hX.2.1 hd (hl.2.2.2 _ _ hv) (kk p e s m args below meth c H locs ls Q hX hR hl hW hS)
theorem zv_lload_n {i : Fin 4} {x : Int64} (hd : decode cc pc = .ok (.lload_n i, 1)) (hv : lv[(i : Nat)]? = some (some (.long x))) (kk : zV l X0 D B own mn cc nL ret R post k n L nx (pc + 1) lv (.long x :: st) G) : zV l X0 D B own mn cc nL ret R post k n L nx pc lv (st) G :=
  fun p e s m args below meth c H locs ls Q hX hR hl hW hS => lv_lload_n hX.1 hX.2.1 hd rfl (hl.2.2.2 _ _ hv) (kk p e s m args below meth c H locs ls Q hX hR hl hW hS)
theorem zv_lload {i : Nat} {x : Int64} (hd : decode cc pc = .ok (.lload i, 2)) (hv : lv[i]? = some (some (.long x))) (kk : zV l X0 D B own mn cc nL ret R post k n L nx (pc + 2) lv (.long x :: st) G) : zV l X0 D B own mn cc nL ret R post k n L nx pc lv (st) G :=
  fun p e s m args below meth c H locs ls Q hX hR hl hW hS => lv_lload hX.1 hX.2.1 hd (hl.2.2.2 _ _ hv) (kk p e s m args below meth c H locs ls Q hX hR hl hW hS)
theorem zv_aload_n {i : Fin 4} {x : Nat} (hd : decode cc pc = .ok (.aload_n i, 1)) (hv : lv[(i : Nat)]? = some (some (.ref x))) (kk : zV l X0 D B own mn cc nL ret R post k n L nx (pc + 1) lv (.ref x :: st) G) : zV l X0 D B own mn cc nL ret R post k n L nx pc lv (st) G :=
  fun p e s m args below meth c H locs ls Q hX hR hl hW hS => lv_aload_n hX.1 hX.2.1 hd rfl (hl.2.2.2 _ _ hv) (kk p e s m args below meth c H locs ls Q hX hR hl hW hS)
theorem zv_aload {i : Nat} {x : Nat} (hd : decode cc pc = .ok (.aload i, 2)) (hv : lv[i]? = some (some (.ref x))) (kk : zV l X0 D B own mn cc nL ret R post k n L nx (pc + 2) lv (.ref x :: st) G) : zV l X0 D B own mn cc nL ret R post k n L nx pc lv (st) G :=
  fun p e s m args below meth c H locs ls Q hX hR hl hW hS => lv_aload hX.1 hX.2.1 hd (hl.2.2.2 _ _ hv) (kk p e s m args below meth c H locs ls Q hX hR hl hW hS)
theorem zv_iadd {x y : Int32} (hd : decode cc pc = .ok (.iadd, 1)) (kk : zV l X0 D B own mn cc nL ret R post k n L nx (pc + 1) lv (.int (x + y) :: st) G) : zV l X0 D B own mn cc nL ret R post k n L nx pc lv (.int y :: .int x :: st) G :=
  fun p e s m args below meth c H locs ls Q hX hR hl hW hS => lv_iadd hX.1 hX.2.1 hd (kk p e s m args below meth c H locs ls Q hX hR hl hW hS)
theorem zv_isub {x y : Int32} (hd : decode cc pc = .ok (.isub, 1)) (kk : zV l X0 D B own mn cc nL ret R post k n L nx (pc + 1) lv (.int (x - y) :: st) G) : zV l X0 D B own mn cc nL ret R post k n L nx pc lv (.int y :: .int x :: st) G :=
  fun p e s m args below meth c H locs ls Q hX hR hl hW hS => lv_isub hX.1 hX.2.1 hd (kk p e s m args below meth c H locs ls Q hX hR hl hW hS)
theorem zv_imul {x y : Int32} (hd : decode cc pc = .ok (.imul, 1)) (kk : zV l X0 D B own mn cc nL ret R post k n L nx (pc + 1) lv (.int (x * y) :: st) G) : zV l X0 D B own mn cc nL ret R post k n L nx pc lv (.int y :: .int x :: st) G :=
  fun p e s m args below meth c H locs ls Q hX hR hl hW hS => lv_imul hX.1 hX.2.1 hd (kk p e s m args below meth c H locs ls Q hX hR hl hW hS)
theorem zv_iand {x y : Int32} (hd : decode cc pc = .ok (.iand, 1)) (kk : zV l X0 D B own mn cc nL ret R post k n L nx (pc + 1) lv (.int (x &&& y) :: st) G) : zV l X0 D B own mn cc nL ret R post k n L nx pc lv (.int y :: .int x :: st) G :=
  fun p e s m args below meth c H locs ls Q hX hR hl hW hS => lv_iand hX.1 hX.2.1 hd (kk p e s m args below meth c H locs ls Q hX hR hl hW hS)
theorem zv_ior {x y : Int32} (hd : decode cc pc = .ok (.ior, 1)) (kk : zV l X0 D B own mn cc nL ret R post k n L nx (pc + 1) lv (.int (x ||| y) :: st) G) : zV l X0 D B own mn cc nL ret R post k n L nx pc lv (.int y :: .int x :: st) G :=
  fun p e s m args below meth c H locs ls Q hX hR hl hW hS => lv_ior hX.1 hX.2.1 hd (kk p e s m args below meth c H locs ls Q hX hR hl hW hS)
theorem zv_ixor {x y : Int32} (hd : decode cc pc = .ok (.ixor, 1)) (kk : zV l X0 D B own mn cc nL ret R post k n L nx (pc + 1) lv (.int (x ^^^ y) :: st) G) : zV l X0 D B own mn cc nL ret R post k n L nx pc lv (.int y :: .int x :: st) G :=
  fun p e s m args below meth c H locs ls Q hX hR hl hW hS => lv_ixor hX.1 hX.2.1 hd (kk p e s m args below meth c H locs ls Q hX hR hl hW hS)
theorem zv_ishl {x y : Int32} (hd : decode cc pc = .ok (.ishl, 1)) (kk : zV l X0 D B own mn cc nL ret R post k n L nx (pc + 1) lv (.int (x <<< (y &&& 31)) :: st) G) : zV l X0 D B own mn cc nL ret R post k n L nx pc lv (.int y :: .int x :: st) G :=
  fun p e s m args below meth c H locs ls Q hX hR hl hW hS => lv_ishl hX.1 hX.2.1 hd (kk p e s m args below meth c H locs ls Q hX hR hl hW hS)
theorem zv_ishr {x y : Int32} (hd : decode cc pc = .ok (.ishr, 1)) (kk : zV l X0 D B own mn cc nL ret R post k n L nx (pc + 1) lv (.int (x >>> (y &&& 31)) :: st) G) : zV l X0 D B own mn cc nL ret R post k n L nx pc lv (.int y :: .int x :: st) G :=
  fun p e s m args below meth c H locs ls Q hX hR hl hW hS => lv_ishr hX.1 hX.2.1 hd (kk p e s m args below meth c H locs ls Q hX hR hl hW hS)
theorem zv_land {x y : Int64} (hd : decode cc pc = .ok (.land, 1)) (kk : zV l X0 D B own mn cc nL ret R post k n L nx (pc + 1) lv (.long (x &&& y) :: st) G) : zV l X0 D B own mn cc nL ret R post k n L nx pc lv (.long y :: .long x :: st) G :=
  fun p e s m args below meth c H locs ls Q hX hR hl hW hS => lv_land hX.1 hX.2.1 hd (kk p e s m args below meth c H locs ls Q hX hR hl hW hS)
theorem zv_lor {x y : Int64} (hd : decode cc pc = .ok (.lor, 1)) (kk : zV l X0 D B own mn cc nL ret R post k n L nx (pc + 1) lv (.long (x ||| y) :: st) G) : zV l X0 D B own mn cc nL ret R post k n L nx pc lv (.long y :: .long x :: st) G :=
  fun p e s m args below meth c H locs ls Q hX hR hl hW hS => lv_lor hX.1 hX.2.1 hd (kk p e s m args below meth c H locs ls Q hX hR hl hW hS)
theorem zv_irem {x y : Int32} (hd : decode cc pc = .ok (.irem, 1)) (hne : ¬ y = 0) (kk : zV l X0 D B own mn cc nL ret R post k n L nx (pc + 1) lv (.int (x - x / y * y) :: st) G) : zV l X0 D B own mn cc nL ret R post k n L nx pc lv (.int y :: .int x :: st) G :=
  fun p e s m args below meth c H locs ls Q hX hR hl hW hS => lv_irem hX.1 hX.2.1 hd hne (kk p e s m args below meth c H locs ls Q hX hR hl hW hS)
theorem zv_idiv {x y : Int32} (hd : decode cc pc = .ok (.idiv, 1)) (hne : ¬ y = 0) (kk : zV l X0 D B own mn cc nL ret R post k n L nx (pc + 1) lv (.int (x / y) :: st) G) : zV l X0 D B own mn cc nL ret R post k n L nx pc lv (.int y :: .int x :: st) G :=
  fun p e s m args below meth c H locs ls Q hX hR hl hW hS => lv_idiv hX.1 hX.2.1 hd hne (kk p e s m args below meth c H locs ls Q hX hR hl hW hS)
theorem zv_ineg {x : Int32} (hd : decode cc pc = .ok (.ineg, 1)) (kk : zV l X0 D B own mn cc nL ret R post k n L nx (pc + 1) lv (.int (-x) :: st) G) : zV l X0 D B own mn cc nL ret R post k n L nx pc lv (.int x :: st) G :=
  fun p e s m args below meth c H locs ls Q hX hR hl hW hS => lv_ineg hX.1 hX.2.1 hd (kk p e s m args below meth c H locs ls Q hX hR hl hW hS)
theorem zv_iushr {x y : Int32} (hd : decode cc pc = .ok (.iushr, 1)) (kk : zV l X0 D B own mn cc nL ret R post k n L nx (pc + 1) lv (.int (x.toUInt32 >>> (y.toUInt32 &&& Int32.toUInt32 31)).toInt32 :: st) G) : zV l X0 D B own mn cc nL ret R post k n L nx pc lv (.int y :: .int x :: st) G :=
  fun p e s m args below meth c H locs ls Q hX hR hl hW hS => lv_iushr hX.1 hX.2.1 hd rfl (kk p e s m args below meth c H locs ls Q hX hR hl hW hS)
theorem zv_lushr {x : Int64} {y : Int32} (hd : decode cc pc = .ok (.lushr, 1)) (kk : zV l X0 D B own mn cc nL ret R post k n L nx (pc + 1) lv (.long (x.toUInt64 >>> (y.toInt64.toUInt64 &&& Int64.toUInt64 63)).toInt64 :: st) G) : zV l X0 D B own mn cc nL ret R post k n L nx pc lv (.int y :: .long x :: st) G :=
  fun p e s m args below meth c H locs ls Q hX hR hl hW hS => lv_lushr hX.1 hX.2.1 hd rfl (kk p e s m args below meth c H locs ls Q hX hR hl hW hS)
theorem zv_lshl {x : Int64} {y : Int32} (hd : decode cc pc = .ok (.lshl, 1)) (kk : zV l X0 D B own mn cc nL ret R post k n L nx (pc + 1) lv (.long (x <<< (y.toInt64 &&& 63)) :: st) G) : zV l X0 D B own mn cc nL ret R post k n L nx pc lv (.int y :: .long x :: st) G :=
  fun p e s m args below meth c H locs ls Q hX hR hl hW hS => lv_lshl hX.1 hX.2.1 hd rfl (kk p e s m args below meth c H locs ls Q hX hR hl hW hS)
theorem zv_i2l {x : Int32} (hd : decode cc pc = .ok (.i2l, 1)) (kk : zV l X0 D B own mn cc nL ret R post k n L nx (pc + 1) lv (.long x.toInt64 :: st) G) : zV l X0 D B own mn cc nL ret R post k n L nx pc lv (.int x :: st) G :=
  fun p e s m args below meth c H locs ls Q hX hR hl hW hS => lv_i2l hX.1 hX.2.1 hd rfl (kk p e s m args below meth c H locs ls Q hX hR hl hW hS)
theorem zv_l2i {x : Int64} (hd : decode cc pc = .ok (.l2i, 1)) (kk : zV l X0 D B own mn cc nL ret R post k n L nx (pc + 1) lv (.int x.toInt32 :: st) G) : zV l X0 D B own mn cc nL ret R post k n L nx pc lv (.long x :: st) G :=
  fun p e s m args below meth c H locs ls Q hX hR hl hW hS => lv_l2i hX.1 hX.2.1 hd rfl (kk p e s m args below meth c H locs ls Q hX hR hl hW hS)
theorem zv_i2c {x : Int32} (hd : decode cc pc = .ok (.i2c, 1)) (kk : zV l X0 D B own mn cc nL ret R post k n L nx (pc + 1) lv (.int (x.toUInt32 % 65536).toInt32 :: st) G) : zV l X0 D B own mn cc nL ret R post k n L nx pc lv (.int x :: st) G :=
  fun p e s m args below meth c H locs ls Q hX hR hl hW hS => lv_i2c hX.1 hX.2.1 hd rfl (kk p e s m args below meth c H locs ls Q hX hR hl hW hS)
theorem zv_lcmp {x y : Int64} (hd : decode cc pc = .ok (.lcmp, 1)) (kk : zV l X0 D B own mn cc nL ret R post k n L nx (pc + 1) lv (.int (lg_cmp x y) :: st) G) : zV l X0 D B own mn cc nL ret R post k n L nx pc lv (.long y :: .long x :: st) G :=
  fun p e s m args below meth c H locs ls Q hX hR hl hW hS => W.lcmp hX.1 hX.2.1 hd (kk p e s m args below meth c H locs ls Q hX hR hl hW hS)
theorem zv_dup {w : Value} (hd : decode cc pc = .ok (.dup, 1)) (hw : w.category = 1) (kk : zV l X0 D B own mn cc nL ret R post k n L nx (pc + 1) lv (w :: w :: st) G) : zV l X0 D B own mn cc nL ret R post k n L nx pc lv (w :: st) G :=
  fun p e s m args below meth c H locs ls Q hX hR hl hW hS => lv_dup hX.1 hX.2.1 hd hw (kk p e s m args below meth c H locs ls Q hX hR hl hW hS)
theorem zv_pop {w : Value} (hd : decode cc pc = .ok (.pop, 1)) (hw : w.category = 1) (kk : zV l X0 D B own mn cc nL ret R post k n L nx (pc + 1) lv (st) G) : zV l X0 D B own mn cc nL ret R post k n L nx pc lv (w :: st) G :=
  fun p e s m args below meth c H locs ls Q hX hR hl hW hS => lv_pop hX.1 hX.2.1 hd hw (kk p e s m args below meth c H locs ls Q hX hR hl hW hS)
theorem zv_dup2 {w v : Value} (hd : decode cc pc = .ok (.dup2, 1)) (hw : w.category = 1) (hv : v.category = 1) (kk : zV l X0 D B own mn cc nL ret R post k n L nx (pc + 1) lv (w :: v :: w :: v :: st) G) : zV l X0 D B own mn cc nL ret R post k n L nx pc lv (w :: v :: st) G :=
  fun p e s m args below meth c H locs ls Q hX hR hl hW hS => lv_dup2_11 hX.1 hX.2.1 hd hw hv (kk p e s m args below meth c H locs ls Q hX hR hl hW hS)
theorem zv_ifnull_r {x : Nat} {off : Int} (hd : decode cc pc = .ok (.ifnull off, 3)) (kk : zV l X0 D B own mn cc nL ret R post k n L nx (pc + 3) lv (st) G) : zV l X0 D B own mn cc nL ret R post k n L nx pc lv (.ref x :: st) G :=
  fun p e s m args below meth c H locs ls Q hX hR hl hW hS => lv_ifnull hX.1 hX.2.1 hd (kk p e s m args below meth c H locs ls Q hX hR hl hW hS)
theorem zv_ifnonnull_n {off : Int} (hd : decode cc pc = .ok (.ifnonnull off, 3)) (kk : zV l X0 D B own mn cc nL ret R post k n L nx (pc + 3) lv (st) G) : zV l X0 D B own mn cc nL ret R post k n L nx pc lv (.null :: st) G :=
  fun p e s m args below meth c H locs ls Q hX hR hl hW hS => lv_ifnonnullN hX.1 hX.2.1 hd (kk p e s m args below meth c H locs ls Q hX hR hl hW hS)
theorem zv_goto {off : Int} {tgt : Nat} (hd : decode cc pc = .ok (.goto off, 3)) (ht : (pc : Int) + off = (tgt : Int)) (kk : zV l X0 D B own mn cc nL ret R post k n L nx tgt lv st G) : zV l X0 D B own mn cc nL ret R post k n L nx pc lv (st) G :=
  fun p e s m args below meth c H locs ls Q hX hR hl hW hS => lv_goto hX.1 hX.2.1 hd ht (kk p e s m args below meth c H locs ls Q hX hR hl hW hS)
theorem zv_ifnonnull_r {x : Nat} {off : Int} {tgt : Nat} (hd : decode cc pc = .ok (.ifnonnull off, 3)) (ht : (pc : Int) + off = (tgt : Int)) (kk : zV l X0 D B own mn cc nL ret R post k n L nx tgt lv st G) : zV l X0 D B own mn cc nL ret R post k n L nx pc lv (.ref x :: st) G :=
  fun p e s m args below meth c H locs ls Q hX hR hl hW hS => lv_ifnonnull hX.1 hX.2.1 hd ht (kk p e s m args below meth c H locs ls Q hX hR hl hW hS)
theorem zv_ifnull_n {off : Int} {tgt : Nat} (hd : decode cc pc = .ok (.ifnull off, 3)) (ht : (pc : Int) + off = (tgt : Int)) (kk : zV l X0 D B own mn cc nL ret R post k n L nx tgt lv st G) : zV l X0 D B own mn cc nL ret R post k n L nx pc lv (.null :: st) G :=
  fun p e s m args below meth c H locs ls Q hX hR hl hW hS => lv_ifnullN hX.1 hX.2.1 hd ht (kk p e s m args below meth c H locs ls Q hX hR hl hW hS)
theorem zv_tableIn {x : Int32} {dflt lo hi : Int} {offs : Array Int} {len : Nat} {off : Int} {tgt : Nat} (hd : decode cc pc = .ok (.tableswitch dflt lo hi offs, len)) (h1 : ¬ x.toInt < lo) (h2 : ¬ hi < x.toInt) (ho : offs[(x.toInt - lo).toNat]? = some off) (ht : (pc : Int) + off = (tgt : Int)) (kk : zV l X0 D B own mn cc nL ret R post k n L nx tgt lv st G) : zV l X0 D B own mn cc nL ret R post k n L nx pc lv (.int x :: st) G :=
  fun p e s m args below meth c H locs ls Q hX hR hl hW hS => lv_tableIn hX.1 hX.2.1 hd h1 h2 ho ht (kk p e s m args below meth c H locs ls Q hX hR hl hW hS)
theorem zv_tableOut {x : Int32} {off lo hi : Int} {offs : Array Int} {len : Nat} {tgt : Nat} (hd : decode cc pc = .ok (.tableswitch off lo hi offs, len)) (h1 : x.toInt < lo ∨ hi < x.toInt) (ht : (pc : Int) + off = (tgt : Int)) (kk : zV l X0 D B own mn cc nL ret R post k n L nx tgt lv st G) : zV l X0 D B own mn cc nL ret R post k n L nx pc lv (.int x :: st) G :=
  fun p e s m args below meth c H locs ls Q hX hR hl hW hS => lv_tableOut hX.1 hX.2.1 hd h1 ht (kk p e s m args below meth c H locs ls Q hX hR hl hW hS)
theorem zv_lookup {x : Int32} {dflt : Int} {ps : Array (Int × Int)} {len : Nat} {off : Int} {tgt : Nat} (hd : decode cc pc = .ok (.lookupswitch dflt ps, len)) (hp : (ps.toList.zip (ps.toList.drop 1)).all (fun (a, next) => a.1 < next.1) = true) (ho : Op.lookupswitch.offset ps.toList dflt x.toInt = off) (ht : (pc : Int) + off = (tgt : Int)) (kk : zV l X0 D B own mn cc nL ret R post k n L nx tgt lv st G) : zV l X0 D B own mn cc nL ret R post k n L nx pc lv (.int x :: st) G :=
  fun p e s m args below meth c H locs ls Q hX hR hl hW hS => lv_lookup hX.1 hX.2.1 hd hp ho ht (kk p e s m args below meth c H locs ls Q hX hR hl hW hS)
theorem zv_if_eq {x : Int32} {off : Int} {tgt : Nat} (hd : decode cc pc = .ok (.ifCond .eq off, 3)) (ht : (pc : Int) + off = (tgt : Int)) (kt : x = 0 → zV l X0 D B own mn cc nL ret R post k n L nx tgt lv st G) (kf : ¬ x = 0 → zV l X0 D B own mn cc nL ret R post k n L nx (pc + 3) lv st G) : zV l X0 D B own mn cc nL ret R post k n L nx pc lv (.int x :: st) G :=
  fun p e s m args below meth c H locs ls Q hX hR hl hW hS => lv_if_eq hX.1 hX.2.1 hd ht (fun h => kt h p e s m args below meth c H locs ls Q hX hR hl hW hS) (fun h => kf h p e s m args below meth c H locs ls Q hX hR hl hW hS)
theorem zv_if_lt {x : Int32} {off : Int} {tgt : Nat} (hd : decode cc pc = .ok (.ifCond .lt off, 3)) (ht : (pc : Int) + off = (tgt : Int)) (kt : x < 0 → zV l X0 D B own mn cc nL ret R post k n L nx tgt lv st G) (kf : ¬ x < 0 → zV l X0 D B own mn cc nL ret R post k n L nx (pc + 3) lv st G) : zV l X0 D B own mn cc nL ret R post k n L nx pc lv (.int x :: st) G :=
  fun p e s m args below meth c H locs ls Q hX hR hl hW hS => lv_if_lt hX.1 hX.2.1 hd ht (fun h => kt h p e s m args below meth c H locs ls Q hX hR hl hW hS) (fun h => kf h p e s m args below meth c H locs ls Q hX hR hl hW hS)
theorem zv_if_ge {x : Int32} {off : Int} {tgt : Nat} (hd : decode cc pc = .ok (.ifCond .ge off, 3)) (ht : (pc : Int) + off = (tgt : Int)) (kt : 0 ≤ x → zV l X0 D B own mn cc nL ret R post k n L nx tgt lv st G) (kf : ¬ 0 ≤ x → zV l X0 D B own mn cc nL ret R post k n L nx (pc + 3) lv st G) : zV l X0 D B own mn cc nL ret R post k n L nx pc lv (.int x :: st) G :=
  fun p e s m args below meth c H locs ls Q hX hR hl hW hS => lv_if_ge hX.1 hX.2.1 hd ht (fun h => kt h p e s m args below meth c H locs ls Q hX hR hl hW hS) (fun h => kf h p e s m args below meth c H locs ls Q hX hR hl hW hS)
theorem zv_if_gt {x : Int32} {off : Int} {tgt : Nat} (hd : decode cc pc = .ok (.ifCond .gt off, 3)) (ht : (pc : Int) + off = (tgt : Int)) (kt : 0 < x → zV l X0 D B own mn cc nL ret R post k n L nx tgt lv st G) (kf : ¬ 0 < x → zV l X0 D B own mn cc nL ret R post k n L nx (pc + 3) lv st G) : zV l X0 D B own mn cc nL ret R post k n L nx pc lv (.int x :: st) G :=
  fun p e s m args below meth c H locs ls Q hX hR hl hW hS => lv_if_gt hX.1 hX.2.1 hd ht (fun h => kt h p e s m args below meth c H locs ls Q hX hR hl hW hS) (fun h => kf h p e s m args below meth c H locs ls Q hX hR hl hW hS)
theorem zv_if_le {x : Int32} {off : Int} {tgt : Nat} (hd : decode cc pc = .ok (.ifCond .le off, 3)) (ht : (pc : Int) + off = (tgt : Int)) (kt : x ≤ 0 → zV l X0 D B own mn cc nL ret R post k n L nx tgt lv st G) (kf : ¬ x ≤ 0 → zV l X0 D B own mn cc nL ret R post k n L nx (pc + 3) lv st G) : zV l X0 D B own mn cc nL ret R post k n L nx pc lv (.int x :: st) G :=
  fun p e s m args below meth c H locs ls Q hX hR hl hW hS => lv_if_le hX.1 hX.2.1 hd ht (fun h => kt h p e s m args below meth c H locs ls Q hX hR hl hW hS) (fun h => kf h p e s m args below meth c H locs ls Q hX hR hl hW hS)
theorem zv_icmp_eq {x y : Int32} {off : Int} {tgt : Nat} (hd : decode cc pc = .ok (.if_icmp .eq off, 3)) (ht : (pc : Int) + off = (tgt : Int)) (kt : x = y → zV l X0 D B own mn cc nL ret R post k n L nx tgt lv st G) (kf : ¬ x = y → zV l X0 D B own mn cc nL ret R post k n L nx (pc + 3) lv st G) : zV l X0 D B own mn cc nL ret R post k n L nx pc lv (.int y :: .int x :: st) G :=
  fun p e s m args below meth c H locs ls Q hX hR hl hW hS => lv_icmp_eq hX.1 hX.2.1 hd ht (fun h => kt h p e s m args below meth c H locs ls Q hX hR hl hW hS) (fun h => kf h p e s m args below meth c H locs ls Q hX hR hl hW hS)
theorem zv_icmp_lt {x y : Int32} {off : Int} {tgt : Nat} (hd : decode cc pc = .ok (.if_icmp .lt off, 3)) (ht : (pc : Int) + off = (tgt : Int)) (kt : x < y → zV l X0 D B own mn cc nL ret R post k n L nx tgt lv st G) (kf : ¬ x < y → zV l X0 D B own mn cc nL ret R post k n L nx (pc + 3) lv st G) : zV l X0 D B own mn cc nL ret R post k n L nx pc lv (.int y :: .int x :: st) G :=
  fun p e s m args below meth c H locs ls Q hX hR hl hW hS => lv_icmp_lt hX.1 hX.2.1 hd ht (fun h => kt h p e s m args below meth c H locs ls Q hX hR hl hW hS) (fun h => kf h p e s m args below meth c H locs ls Q hX hR hl hW hS)
theorem zv_icmp_ge {x y : Int32} {off : Int} {tgt : Nat} (hd : decode cc pc = .ok (.if_icmp .ge off, 3)) (ht : (pc : Int) + off = (tgt : Int)) (kt : y ≤ x → zV l X0 D B own mn cc nL ret R post k n L nx tgt lv st G) (kf : ¬ y ≤ x → zV l X0 D B own mn cc nL ret R post k n L nx (pc + 3) lv st G) : zV l X0 D B own mn cc nL ret R post k n L nx pc lv (.int y :: .int x :: st) G :=
  fun p e s m args below meth c H locs ls Q hX hR hl hW hS => lv_icmp_ge hX.1 hX.2.1 hd ht (fun h => kt h p e s m args below meth c H locs ls Q hX hR hl hW hS) (fun h => kf h p e s m args below meth c H locs ls Q hX hR hl hW hS)
theorem zv_icmp_gt {x y : Int32} {off : Int} {tgt : Nat} (hd : decode cc pc = .ok (.if_icmp .gt off, 3)) (ht : (pc : Int) + off = (tgt : Int)) (kt : y < x → zV l X0 D B own mn cc nL ret R post k n L nx tgt lv st G) (kf : ¬ y < x → zV l X0 D B own mn cc nL ret R post k n L nx (pc + 3) lv st G) : zV l X0 D B own mn cc nL ret R post k n L nx pc lv (.int y :: .int x :: st) G :=
  fun p e s m args below meth c H locs ls Q hX hR hl hW hS => lv_icmp_gt hX.1 hX.2.1 hd ht (fun h => kt h p e s m args below meth c H locs ls Q hX hR hl hW hS) (fun h => kf h p e s m args below meth c H locs ls Q hX hR hl hW hS)
theorem zv_icmp_le {x y : Int32} {off : Int} {tgt : Nat} (hd : decode cc pc = .ok (.if_icmp .le off, 3)) (ht : (pc : Int) + off = (tgt : Int)) (kt : x ≤ y → zV l X0 D B own mn cc nL ret R post k n L nx tgt lv st G) (kf : ¬ x ≤ y → zV l X0 D B own mn cc nL ret R post k n L nx (pc + 3) lv st G) : zV l X0 D B own mn cc nL ret R post k n L nx pc lv (.int y :: .int x :: st) G :=
  fun p e s m args below meth c H locs ls Q hX hR hl hW hS => lv_icmp_le hX.1 hX.2.1 hd ht (fun h => kt h p e s m args below meth c H locs ls Q hX hR hl hW hS) (fun h => kf h p e s m args below meth c H locs ls Q hX hR hl hW hS)
theorem zv_if_ne {x : Int32} {off : Int} {tgt : Nat} (hd : decode cc pc = .ok (.ifCond .ne off, 3)) (ht : (pc : Int) + off = (tgt : Int)) (kt : ¬ x = 0 → zV l X0 D B own mn cc nL ret R post k n L nx tgt lv st G) (kf : x = 0 → zV l X0 D B own mn cc nL ret R post k n L nx (pc + 3) lv st G) : zV l X0 D B own mn cc nL ret R post k n L nx pc lv (.int x :: st) G :=
  fun p e s m args below meth c H locs ls Q hX hR hl hW hS => lv_if_ne hX.1 hX.2.1 hd ht (fun h => kt h p e s m args below meth c H locs ls Q hX hR hl hW hS) (fun h => kf (by first | exact h | exact Classical.not_not.mp h) p e s m args below meth c H locs ls Q hX hR hl hW hS)
theorem zv_icmp_ne {x y : Int32} {off : Int} {tgt : Nat} (hd : decode cc pc = .ok (.if_icmp .ne off, 3)) (ht : (pc : Int) + off = (tgt : Int)) (kt : ¬ x = y → zV l X0 D B own mn cc nL ret R post k n L nx tgt lv st G) (kf : x = y → zV l X0 D B own mn cc nL ret R post k n L nx (pc + 3) lv st G) : zV l X0 D B own mn cc nL ret R post k n L nx pc lv (.int y :: .int x :: st) G :=
  fun p e s m args below meth c H locs ls Q hX hR hl hW hS => lv_icmp_ne hX.1 hX.2.1 hd ht (fun h => kt h p e s m args below meth c H locs ls Q hX hR hl hW hS) (fun h => kf (by first | exact h | exact Classical.not_not.mp h) p e s m args below meth c H locs ls Q hX hR hl hW hS)
theorem zv_widen {k' n' : Nat} (h1 : k ≤ k') (h2 : n ≤ n') (kk : zV l X0 D B own mn cc nL ret R post k' n' L nx pc lv st G) : zV l X0 D B own mn cc nL ret R post k n L nx pc lv st G :=
  fun p e s m args below meth c H locs ls Q hX hR hl hW hS => W.widen h1 h2 (kk p e s m args below meth c H locs ls Q hX hR hl hW hS)
theorem zv_eqG {G' : zG} (h : G = G') (kk : zV l X0 D B own mn cc nL ret R post k n L nx pc lv st G') : zV l X0 D B own mn cc nL ret R post k n L nx pc lv st G := h ▸ kk
theorem zv_st {st' : List Value} (h : st = st') (kk : zV l X0 D B own mn cc nL ret R post k n L nx pc lv st' G) : zV l X0 D B own mn cc nL ret R post k n L nx pc lv st G := h ▸ kk
theorem zv_lv {lv' : List (Option Value)} (h : lv = lv') (kk : zV l X0 D B own mn cc nL ret R post k n L nx pc lv' st G) : zV l X0 D B own mn cc nL ret R post k n L nx pc lv st G := h ▸ kk
end ZROWS
end
section
def zst (G : zG) (q : Nat) (f : Nat → Int32) : zG := fun x => if x = q then f else G x
theorem zst_same (G : zG) (q : Nat) (f : Nat → Int32) : zst G q f q = f := by simp [zst]
theorem zst_ne (G : zG) {q r : Nat} (f : Nat → Int32) (h : r ≠ q) : zst G q f r = G r := by simp [zst, h]
theorem zst_zst (G : zG) (q : Nat) (f g : Nat → Int32) : zst (zst G q f) q g = zst G q g := by
  funext x; by_cases h : x = q <;> simp [zst, h]
theorem zst_self (G : zG) (q : Nat) : zst G q (G q) = G := by
  funext x; by_cases h : x = q <;> simp [zst, h]
theorem zst_comm (G : zG) {q r : Nat} (f g : Nat → Int32) (h : q ≠ r) : zst (zst G q f) r g = zst (zst G r g) q f := by
  funext x
  by_cases h1 : x = q
  · subst h1; simp [zst, h]
  · by_cases h2 : x = r
    · subst h2; simp [zst, h1]
    · simp [zst, h1, h2]
theorem zpl_at {L : zL} {q t rel i : Nat} {cd : zCD} (hq : (q, t) ∈ L) (hi : (zbT t)[i]? = some (rel, cd)) : ∃ k : Nat, (zpl L)[k]? = some (q, rel, cd) :=
  List.getElem?_of_mem (List.mem_flatMap.mpr ⟨(q, t), hq, List.mem_map.mpr ⟨(rel, cd), List.mem_of_getElem? hi, rfl⟩⟩)
theorem zcs_at {D : zD} {L : zL} {G : zG} {k q rel : Nat} {cd : zCD} (h : (zpl L)[k]? = some (q, rel, cd)) : (zcs D L G)[k]? = some (q + rel, zce D q (G q) cd) := by
  unfold zcs
  rw [List.getElem?_map, h]
  rfl
def zrg : zCD → Nat × Nat
  | .inl c => (0, c.2.length)
  | .inr c => (c.2.2.1, c.2.2.1 + c.2.1)
theorem zfl_congr {q : Nat} {f g : Nat → Int32} : ∀ (l : List Nat) (s : Nat), (∀ j, s ≤ j → j < s + l.length → f j = g j) → zfl q f s l = zfl q g s l
  | [], _, _ => rfl
  | z :: r, s, h => by
    have h0 : f s = g s := h s (Nat.le_refl _) (by simp)
    have h1 := zfl_congr (q := q) (f := f) (g := g) r (s + 1) (fun j a b => h j (by omega) (by simp; omega))
    have h2 : zfv q f s z = zfv q g s z := by
      match z with
      | 0 => simp [zfv, h0]
      | 1 => simp [zfv, h0]
      | k + 2 => rfl
    simp [zfl, h1, h2]
theorem zce_congr {D : zD} {q : Nat} {f g : Nat → Int32} : ∀ {cd : zCD}, (∀ j, (zrg cd).1 ≤ j → j < (zrg cd).2 → f j = g j) → zce D q f cd = zce D q g cd
  | .inl c, h => by
    show Sum.inr (c.1, zfl q f 0 c.2) = Sum.inr (c.1, zfl q g 0 c.2)
    rw [zfl_congr c.2 0 (fun j a b => h j a (by simpa [zrg] using b))]
  | .inr (ta, n, off, a, b), h => by
    have h' : ∀ j, j < n → f (off + j) = g (off + j) := fun j hj => h (off + j) (by simp [zrg]) (by simp [zrg]; omega)
    have e1 : zai n off f = zai n off g := by
      funext j
      by_cases hj : j < n <;> simp [zai, hj]
      exact h' j hj
    have e2 : zar q n off a b f = zar q n off a b g := by
      funext j
      by_cases hj : j < n <;> simp [zar, hj]
      rw [h' j hj]
    simp only [zce, zac, e1, e2]
def zokb (t : Nat) : Bool := (zbT t).all fun c => (zbT t).all fun d => c.1 == d.1 || decide ((zrg c.2).2 ≤ (zrg d.2).1) || decide ((zrg d.2).2 ≤ (zrg c.2).1)
set_option maxRecDepth 100000 in
theorem zok : ∀ t, zokb t = true := by
  intro t
  unfold zokb zbT
  split <;> first | decide +kernel | skip
  split <;> simp
theorem zok_at {t rel r : Nat} {cd c : zCD} (h : (rel, cd) ∈ zbT t) (h2 : (r, c) ∈ zbT t) (hne : r ≠ rel) : (zrg cd).2 ≤ (zrg c).1 ∨ (zrg c).2 ≤ (zrg cd).1 := by
  have h0 := zok t
  unfold zokb at h0
  have h3 := List.all_eq_true.mp (List.all_eq_true.mp h0 _ h) _ h2
  simp only [Bool.or_eq_true, beq_iff_eq, decide_eq_true_eq] at h3
  rcases h3 with (h3 | h3) | h3
  · exact absurd h3.symm hne
  · exact Or.inl h3
  · exact Or.inr h3
theorem zpl_mem {L : zL} {q rel : Nat} {cd : zCD} (h : (q, rel, cd) ∈ zpl L) : ∃ t, (q, t) ∈ L ∧ (rel, cd) ∈ zbT t := by
  obtain ⟨b, hb, h⟩ := List.mem_flatMap.mp h
  obtain ⟨c, hc, h⟩ := List.mem_map.mp h
  cases h
  exact ⟨b.2, hb, hc⟩
/-- a write into one cell of a blob -/
theorem zcs_set {D : zD} {B : Nat} {L : zL} {nx : Nat} {G : zG} {q t rel k i : Nat} {cd : zCD} {f : Nat → Int32} (hD : va_D (fun q => B ≤ q) (zcs D L G)) (hf : zfun L nx) (hq : (q, t) ∈ L) (hi : (zbT t)[i]? = some (rel, cd)) (hk : (zpl L)[k]? = some (q, rel, cd))
    (hs : ∀ j, ¬ ((zrg cd).1 ≤ j ∧ j < (zrg cd).2) → f j = G q j) : zcs D L (zst G q f) = (zcs D L G).set k (q + rel, zce D q f cd) := by
  apply List.ext_getElem?
  intro j
  rw [List.getElem?_set]
  by_cases hj : k = j
  · subst hj
    rw [if_pos rfl, zcs_at hk, zst_same]
    have hl : k < (zcs D L G).length := (List.getElem?_eq_some_iff.mp (zcs_at (D := D) (G := G) hk)).1
    rw [if_pos hl]
  · rw [if_neg hj]
    cases hp : (zpl L)[j]? with
    | none => simp [zcs, hp]
    | some p =>
      obtain ⟨q', rel', cd'⟩ := p
      rw [zcs_at hp, zcs_at hp]
      by_cases hqq : q' = q
      · subst hqq
        obtain ⟨t', ht', hc'⟩ := zpl_mem (List.mem_of_getElem? hp)
        have htt : t' = t := hf.1 _ _ _ ht' hq
        subst htt
        have hrr : rel' ≠ rel := fun e => by
          subst e
          exact hj (hD.1 k j _ _ (zcs_at hk) (zcs_at hp) rfl)
        rw [zst_same]
        have h3 := zok_at (List.mem_of_getElem? hi) hc' hrr
        rw [zce_congr (g := G q') (fun j' a b => hs j' (by omega))]
      · rw [zst_ne _ _ hqq]
theorem zW_of {D : zD} {B : Nat} {L : zL} {nx : Nat} {G : zG} {H H1 : Heap} {q t rel k i : Nat} {cd : zCD} {f : Nat → Int32} (hW : zW D B L nx G H) (hq : (q, t) ∈ L) (hi : (zbT t)[i]? = some (rel, cd)) (hk : (zpl L)[k]? = some (q, rel, cd))
    (hs : ∀ j, ¬ ((zrg cd).1 ≤ j ∧ j < (zrg cd).2) → f j = G q j) (z : H1.size = H.size) (hP : va_P D.1 vwCl ((zcs D L G).set k (q + rel, zce D q f cd)) H1) : zW D B L nx (zst G q f) H1 := by
  obtain ⟨h1, h2, h3, h4⟩ := hW
  have e := zcs_set h3 h4 hq hi hk hs
  refine ⟨z.trans h1, by rw [e]; exact hP, ?_, h4⟩
  rw [e]
  exact h3.set (zcs_at hk)
theorem zfl_get {q : Nat} {f : Nat → Int32} : ∀ {l : List Nat} {k s z : Nat}, l[k]? = some z → (zfl q f s l)[k]? = some (zfv q f (s + k) z)
  | [], k, s, z, h => by simp at h
  | a :: r, 0, s, z, h => by
    simp at h
    subst h
    rfl
  | a :: r, k + 1, s, z, h => by
    have h1 : r[k]? = some z := by simpa using h
    have h2 := zfl_get (q := q) (f := f) (s := s + 1) h1
    rw [show s + (k + 1) = s + 1 + k by omega]
    simpa [zfl] using h2
theorem zfl_len {q : Nat} {f : Nat → Int32} : ∀ {l : List Nat} {s : Nat}, (zfl q f s l).length = l.length
  | [], _ => rfl
  | a :: r, s => by simp [zfl, zfl_len (l := r) (s := s + 1)]
theorem zfl_set {q : Nat} {f : Nat → Int32} {v : Int32} : ∀ {l : List Nat} {k s z : Nat}, l[k]? = some z → zfl q (upd f (s + k) v) s l = (zfl q f s l).set k (zfv q (upd f (s + k) v) (s + k) z)
  | [], k, s, z, h => by simp at h
  | a :: r, 0, s, z, h => by
    simp at h
    subst h
    have h1 := zfl_congr (q := q) (f := upd f (s + 0) v) (g := f) r (s + 1) (fun j a b => by simp only [upd]; rw [if_neg (by omega)])
    simp only [Nat.add_zero] at h1
    simp [zfl, h1]
  | a :: r, k + 1, s, z, h => by
    have h1 : r[k]? = some z := by simpa using h
    have h2 := zfl_set (q := q) (f := f) (v := v) (s := s + 1) h1
    have e : s + (k + 1) = s + 1 + k := by omega
    rw [e]
    have h0 : zfv q (upd f (s + 1 + k) v) s a = zfv q f s a := by
      have h5 : upd f (s + 1 + k) v s = f s := by simp only [upd]; rw [if_neg (by omega)]
      match a with
      | 0 => simp [zfv, h5]
      | 1 => simp [zfv, h5]
      | b + 2 => rfl
    simp only [zfl, List.set_cons_succ, h0]
    rw [h2]
def zFL (own : String) (ix ci k : Nat) : Prop := ∃ (C : String) (T : u_T) (N : Nat), vwCl[ci]? = some (C, T, N) ∧ k < N ∧ Cond.fieldLink own ix (T k).1 (T k).2.1 (T k).2.2.1 ∈ zgw ∧ ∀ w ∈ u_ws C T N, w ∈ zgw
def zFLN (own : String) (ix ci k : Nat) : Prop := ∃ (C : String) (T : u_T) (N : Nat) (host : String), vwCl[ci]? = some (C, T, N) ∧ k < N ∧ Cond.fieldLinkNest own ix (T k).1 (T k).2.1 (T k).2.2.1 host ∈ zbw ∧ ∀ w ∈ u_ws C T N, w ∈ zgw
def zFT (own : String) (ci k : Nat) (ty : FieldType) (fin : Bool) : Prop := ∃ (C : String) (T : u_T) (N : Nat) (ty0 : Nat → FieldType), vwCl[ci]? = some (C, T, N) ∧ (∀ k, k < N → parseFieldDescriptor (T k).2.2.1 = some (ty0 k)) ∧ (∀ a, a < N → ∀ b, b < N → a ≠ b → (T a).2.1 ≠ (T b).2.1) ∧ (T k).2.2.2 = fin ∧ parseFieldDescriptor (T k).2.2.1 = some ty ∧ (fin = true → (T k).1 = own)
def zix (j : Int32) (i n : Nat) : Prop := ¬ j < 0 ∧ j.toNatClampNeg = i ∧ i < n
theorem zix_in {j : Int32} {i n : Nat} (h : zix j i n) : vp_in j n := by
  rintro (h1 | h1)
  · exact h.1 h1
  · rw [h.2.1] at h1
    exact absurd h.2.2 (Nat.not_lt.mpr h1)
theorem zix_nI {i n : Nat} (h : i < n) (hn : n < 2 ^ 31) : zix (nI i) i n := by
  have h1 := vp_in_nI h (by omega : n < 2 ^ 31)
  exact ⟨fun h2 => h1 (Or.inl h2), nI_clamp (by omega), h⟩
section ZMEM
variable {l : Launch} {X0 : State → Prop} {D : zD} {B : Nat} {own mn : String} {cc : ByteArray} {nL : Nat} {ret : Option FieldType} {R : Room} {post : zP} {k n : Nat} {L : zL} {nx : Nat} {pc : Nat} {lv : List (Option Value)} {st : List Value} {G : zG}
theorem zv_get {q t ci fk ix f : Nat} {fks : List Nat} (hq : (q, t) ∈ L) (ho : (zbT t)[0]? = some (0, .inl (ci, fks))) (fl : zFL own ix ci f) (hk : fks[f]? = some fk) (hd : decode cc pc = .ok (.getfield ix, 3))
    (kk : zV l X0 D B own mn cc nL ret R post k n L nx (pc + 3) lv (zfv q (G q) f fk :: st) G) : zV l X0 D B own mn cc nL ret R post k n L nx pc lv (.ref q :: st) G := by
  intro p e s m args below meth c H locs ls Q hX hR hl hW hS
  obtain ⟨C, T, N, h1, h2, h3, h4⟩ := fl
  obtain ⟨k0, hk0⟩ := zpl_at hq ho
  have hz := zcs_at (D := D) (G := G) hk0
  exact va_get hX.1 hX.2.1 hX.2.2.2.2.1 h4 hX.2.2.2.1 hX.2.2.2.2.2.1 hW.2.1 k0 (fs := zfl q (G q) 0 fks) hz h1 f h2 (hX.2.2.2.2.1 _ h3) (fun x h => h) (by rw [zfl_get hk, Nat.zero_add]) hd (kk p e s m args below meth c H locs ls Q hX hR hl hW hS)
theorem zv_getI {q t ci ix f : Nat} {fks : List Nat} (hq : (q, t) ∈ L) (ho : (zbT t)[0]? = some (0, .inl (ci, fks))) (fl : zFL own ix ci f) (hk : fks[f]? = some 0) (hd : decode cc pc = .ok (.getfield ix, 3))
    (kk : zV l X0 D B own mn cc nL ret R post k n L nx (pc + 3) lv (.int (G q f) :: st) G) : zV l X0 D B own mn cc nL ret R post k n L nx pc lv (.ref q :: st) G := zv_get hq ho fl hk hd kk
theorem zv_getS {q t ci ix f r : Nat} {fks : List Nat} (hq : (q, t) ∈ L) (ho : (zbT t)[0]? = some (0, .inl (ci, fks))) (fl : zFL own ix ci f) (hk : fks[f]? = some (r + 2)) (hd : decode cc pc = .ok (.getfield ix, 3))
    (kk : zV l X0 D B own mn cc nL ret R post k n L nx (pc + 3) lv (.ref (q + r) :: st) G) : zV l X0 D B own mn cc nL ret R post k n L nx pc lv (.ref q :: st) G := zv_get hq ho fl hk hd kk
theorem zv_getD {q t ci ix f a : Nat} {fks : List Nat} (hq : (q, t) ∈ L) (ho : (zbT t)[0]? = some (0, .inl (ci, fks))) (fl : zFL own ix ci f) (hk : fks[f]? = some 1) (ha : zdr q (G q f) = some a) (hd : decode cc pc = .ok (.getfield ix, 3))
    (kk : zV l X0 D B own mn cc nL ret R post k n L nx (pc + 3) lv (.ref a :: st) G) : zV l X0 D B own mn cc nL ret R post k n L nx pc lv (.ref q :: st) G := zv_get hq ho fl hk hd (by show zV _ _ _ _ _ _ _ _ _ _ _ _ _ _ _ _ _ (va_rf (zdr q (G q f)) :: st) _; rw [ha]; exact kk)
theorem zv_getIN {q t ci ix f : Nat} {fks : List Nat} (hq : (q, t) ∈ L) (ho : (zbT t)[0]? = some (0, .inl (ci, fks))) (fl : zFLN own ix ci f) (hk : fks[f]? = some 0) (hd : decode cc pc = .ok (.getfield ix, 3))
    (kk : zV l X0 D B own mn cc nL ret R post k n L nx (pc + 3) lv (.int (G q f) :: st) G) : zV l X0 D B own mn cc nL ret R post k n L nx pc lv (.ref q :: st) G := by
  intro p e s m args below meth c H locs ls Q hX hR hl hW hS
  obtain ⟨C, T, N, host, h1, h2, h3, h4⟩ := fl
  obtain ⟨k0, hk0⟩ := zpl_at hq ho
  have hz := zcs_at (D := D) (G := G) hk0
  exact va_getN hX.1 hX.2.1 hX.2.2.2.2.1 h4 hX.2.2.2.1 hX.2.2.2.2.2.1 hW.2.1 k0 (fs := zfl q (G q) 0 fks) hz h1 f h2 (va_Nw.use rfl (hX.2.2.2.2.2.2.2.1 _ h3)) (fun x h => h) (v := .int (G q f)) (by rw [zfl_get hk, Nat.zero_add]; rfl) hd (kk p e s m args below meth c H locs ls Q hX hR hl hW hS)
theorem zv_put {q t ci fk ix f : Nat} {fks : List Nat} {w : Value} {v : Int32} {ty : FieldType} (hq : (q, t) ∈ L) (ho : (zbT t)[0]? = some (0, .inl (ci, fks))) (fl : zFL own ix ci f) (ft : zFT own ci f ty false) (hk : fks[f]? = some fk) (hw : zfv q (upd (G q) f v) f fk = w) (hn : narrow ty w = w) (hfit : fits ty w = true) (hd : decode cc pc = .ok (.putfield ix, 3))
    (kk : zV l X0 D B own mn cc nL ret R post k n L nx (pc + 3) lv st (zst G q (upd (G q) f v))) : zV l X0 D B own mn cc nL ret R post k n L nx pc lv (w :: .ref q :: st) G := by
  intro p e s m args below meth c H locs ls Q hX hR hl hW hS
  obtain ⟨C, T, N, h1, h2, h3, h4⟩ := fl
  obtain ⟨C', T', N', ty0, g1, g2, g3, g4, g5, -⟩ := ft
  obtain ⟨rfl, rfl, rfl⟩ : C' = C ∧ T' = T ∧ N' = N := by
    have := g1.symm.trans h1
    simp only [Option.some.injEq, Prod.mk.injEq] at this
    exact this
  obtain ⟨k0, hk0⟩ := zpl_at hq ho
  have hz := zcs_at (D := D) (G := G) hk0
  have hlen : f < fks.length := (List.getElem?_eq_some_iff.mp hk).1
  have hap := va_apart (own := own) hX.2.2.2.2.1 h4 ty0 g2 g3 hX.2.2.2.2.2.1 h1
  obtain ⟨r, r1, cell, q1, q2, q3, q4⟩ := hW.2.1 k0 _ hz
  have hr : r = (C', T', N') := Option.some.inj (r1.symm.trans h1)
  subst hr
  obtain ⟨hSl, hfc, kC, hkC, hkind⟩ := hX.2.2.2.2.2.1.1 ci _ h1
  obtain ⟨cf, kf, fi, fd, hi, hsl⟩ := hSl f h2
  have hlay := hX.2.2.2.2.1 _ (h4 _ (u_in_lay h2))
  unfold u_lay at hlay
  rw [if_neg (by rw [g4]; decide)] at hlay
  have hst := (u_facts hfc hkC (u_lays hX.2.2.2.2.1 h4 h2) hi).1
  have h6 := u_store hfc hkC hkind hlay hi g5 hn hfit
  refine W.putK hX.1 hX.2.1 (f := fd) ⟨hX.2.2.2.1, hX.2.2.2.2.1 _ h3, ⟨_, _, _, hi⟩, hst⟩ (by rw [q2]; exact h6) q1 q3 (by rw [hsl]; exact k2_hasslot (q4 f h2)) rfl rfl hd fun H' e1 e2 e3 => ?_
  rw [hsl] at e1 ⊢
  have hne : zfl q (upd (G q) f v) 0 fks = (zfl q (G q) 0 fks).set f w := by
    have := zfl_set (q := q) (f := G q) (v := v) (s := 0) hk
    rw [Nat.zero_add] at this
    rw [this, hw]
  have hP : va_P D.1 vwCl ((zcs D L G).set k0 (q + 0, zce D q (upd (G q) f v) (.inl (ci, fks)))) H' := by
    refine hW.2.1.set hW.2.2.1 hz ?_ e3
    refine ⟨_, h1, t_OB.to (V := updV (vp_V (zfl q (G q) 0 fks)) f w) ⟨_, e1, q2, q3, t_set q4 hap h2 w⟩ (fun j _ => ?_)⟩
    rw [vp_updV_set (by rw [zfl_len]; exact hlen) w j]
    show vp_V _ j = vp_V (zfl q (upd (G q) f v) 0 fks) j
    rw [hne]
  refine kk p e s m args below meth c H' _ ls Q hX hR hl (zW_of hW hq ho hk0 (fun j hj => ?_) e2 hP) (hS.put e2 e3 (hW.2.2.1.2 k0 _ hz))
  show upd (G q) f v j = G q j
  simp only [upd]
  rw [if_neg (fun e => hj (by rw [e]; exact ⟨Nat.zero_le _, hlen⟩))]
theorem zv_putI {q t ci ix f : Nat} {fks : List Nat} {v : Int32} (hq : (q, t) ∈ L) (ho : (zbT t)[0]? = some (0, .inl (ci, fks))) (fl : zFL own ix ci f) (ft : zFT own ci f .int false) (hk : fks[f]? = some 0) (hd : decode cc pc = .ok (.putfield ix, 3))
    (kk : zV l X0 D B own mn cc nL ret R post k n L nx (pc + 3) lv st (zst G q (upd (G q) f v))) : zV l X0 D B own mn cc nL ret R post k n L nx pc lv (.int v :: .ref q :: st) G :=
  zv_put hq ho fl ft hk (by simp [zfv, upd]) rfl rfl hd kk
theorem zv_putZ {q t ci ix f : Nat} {fks : List Nat} {v : Int32} (hq : (q, t) ∈ L) (ho : (zbT t)[0]? = some (0, .inl (ci, fks))) (fl : zFL own ix ci f) (ft : zFT own ci f .boolean false) (hk : fks[f]? = some 0) (hv : v = 0 ∨ v = 1) (hd : decode cc pc = .ok (.putfield ix, 3))
    (kk : zV l X0 D B own mn cc nL ret R post k n L nx (pc + 3) lv st (zst G q (upd (G q) f v))) : zV l X0 D B own mn cc nL ret R post k n L nx pc lv (.int v :: .ref q :: st) G :=
  zv_put hq ho fl ft hk (by simp [zfv, upd]) (by rcases hv with rfl | rfl <;> rfl) (by rcases hv with rfl | rfl <;> rfl) hd kk
theorem zv_putF {q t ci ix f a : Nat} {fks : List Nat} {C2 : String} {ty : FieldType} (hq : (q, t) ∈ L) (ho : (zbT t)[0]? = some (0, .inl (ci, fks))) (fl : zFL own ix ci f) (ft : zFT own ci f ty true) (hk : fks[f]? = some 1) (hini : mn = "<init>") (hty : (∃ C2, ty = .object C2) ∨ ∃ t2, ty = .array t2) (ha : q < a) (ha2 : a - q < 2 ^ 31) (hd : decode cc pc = .ok (.putfield ix, 3))
    (kk : zV l X0 D B own mn cc nL ret R post k n L nx (pc + 3) lv st (zst G q (upd (G q) f (nI (a - q))))) : zV l X0 D B own mn cc nL ret R post k n L nx pc lv (.ref a :: .ref q :: st) G := by
  intro p e s m args below meth c H locs ls Q hX hR hl hW hS
  obtain ⟨C, T, N, h1, h2, h3, h4⟩ := fl
  obtain ⟨C', T', N', ty0, g1, g2, g3, g4, g5, g6⟩ := ft
  obtain ⟨rfl, rfl, rfl⟩ : C' = C ∧ T' = T ∧ N' = N := by
    have := g1.symm.trans h1
    simp only [Option.some.injEq, Prod.mk.injEq] at this
    exact this
  obtain ⟨k0, hk0⟩ := zpl_at hq ho
  have hz := zcs_at (D := D) (G := G) hk0
  have hlen : f < fks.length := (List.getElem?_eq_some_iff.mp hk).1
  have hap := va_apart (own := own) hX.2.2.2.2.1 h4 ty0 g2 g3 hX.2.2.2.2.2.1 h1
  obtain ⟨r, r1, cell, q1, q2, q3, q4⟩ := hW.2.1 k0 _ hz
  have hr : r = (C', T', N') := Option.some.inj (r1.symm.trans h1)
  subst hr
  obtain ⟨hSl, hfc, kC, hkC, hkind⟩ := hX.2.2.2.2.2.1.1 ci _ h1
  obtain ⟨cf, kf, fi, fd, hi, hsl⟩ := hSl f h2
  have hlay := hX.2.2.2.2.1 _ (h4 _ (u_in_lay h2))
  unfold u_lay at hlay
  rw [if_pos g4] at hlay
  have hst := (u_facts hfc hkC (u_lays hX.2.2.2.2.1 h4 h2) hi).1
  have hcf : m.cls = cf := by
    obtain ⟨_, _, c', _, _, _, -, -, hf', -, -, -, hown2, -⟩ := Cond.laysFinal_spec hlay
    have e1 : c' = cf := by have := hi.symm.trans hf'; simp at this; exact this.1.symm
    rw [g6 rfl] at hown2
    rw [← e1]; exact Option.some.inj (hX.2.2.2.1.symm.trans hown2)
  have hn : narrow ty (.ref a) = .ref a := by rcases hty with ⟨c2, rfl⟩ | ⟨c2, rfl⟩ <;> rfl
  have hfit : fits ty (.ref a) = true := by rcases hty with ⟨c2, rfl⟩ | ⟨c2, rfl⟩ <;> rfl
  have h6 := u_fits hfc hkC hkind (Or.inr hlay) hi g5 hn hfit
  refine W.putFinK hX.1 hX.2.1 hX.2.2.2.1 (hX.2.2.2.2.1 _ h3) hi hst hcf (hX.2.2.2.2.2.2.1.trans hini) (by rw [q2]; exact h6) q1 q3 (by rw [hsl]; exact k2_hasslot (q4 f h2)) rfl rfl hd fun H' e1 e2 e3 => ?_
  rw [hsl] at e1 ⊢
  have hw : zfv q (upd (G q) f (nI (a - q))) f 1 = .ref a := by
    have hc := nI_clamp (n := a - q) ha2
    have h0 : nI (a - q) ≠ 0 := fun h => by rw [h] at hc; simp at hc; omega
    have : zdr q (nI (a - q)) = some a := by
      unfold zdr
      rw [if_neg h0, hc]
      congr 1
      omega
    simp [zfv, upd, this, va_rf]
  have hne : zfl q (upd (G q) f (nI (a - q))) 0 fks = (zfl q (G q) 0 fks).set f (.ref a) := by
    have := zfl_set (q := q) (f := G q) (v := nI (a - q)) (s := 0) hk
    rw [Nat.zero_add] at this
    rw [this, hw]
  have hP : va_P D.1 vwCl ((zcs D L G).set k0 (q + 0, zce D q (upd (G q) f (nI (a - q))) (.inl (ci, fks)))) H' := by
    refine hW.2.1.set hW.2.2.1 hz ?_ e3
    refine ⟨_, h1, t_OB.to (V := updV (vp_V (zfl q (G q) 0 fks)) f (.ref a)) ⟨_, e1, q2, q3, t_set q4 hap h2 (.ref a)⟩ (fun j _ => ?_)⟩
    rw [vp_updV_set (by rw [zfl_len]; exact hlen) (.ref a) j]
    show vp_V _ j = vp_V (zfl q (upd (G q) f (nI (a - q))) 0 fks) j
    rw [hne]
  refine kk p e s m args below meth c H' _ ls Q hX hR hl (zW_of hW hq ho hk0 (fun j hj => ?_) e2 hP) (hS.put e2 e3 (hW.2.2.1.2 k0 _ hz))
  show upd (G q) f (nI (a - q)) j = G q j
  simp only [upd]
  rw [if_neg (fun e => hj (by rw [e]; exact ⟨Nat.zero_le _, hlen⟩))]
end ZMEM
end
section
section ZARR
variable {l : Launch} {X0 : State → Prop} {D : zD} {B : Nat} {own mn : String} {cc : ByteArray} {nL : Nat} {ret : Option FieldType} {R : Room} {post : zP} {k n : Nat} {L : zL} {nx : Nat} {pc : Nat} {lv : List (Option Value)} {st : List Value} {G : zG}
theorem ztys_at {D : zD} {ta : Nat} (h : ta < 5) : (ztys D)[ta]? = some (D.2 ta, zty ta) := by
  match ta, h with
  | 0, _ => rfl
  | 1, _ => rfl
  | 2, _ => rfl
  | 3, _ => rfl
  | 4, _ => rfl
theorem zai_upd {n off i : Nat} {f : Nat → Int32} {v : Int32} (hi : i < n) : zai n off (upd f (off + i) v) = upd (zai n off f) i v := by
  funext j
  simp only [zai, upd]
  by_cases hj : j < n
  · by_cases e : j = i
    · subst e; simp [hj]
    · rw [if_pos hj, if_neg (by omega), if_neg e, if_pos hj]
  · rw [if_neg hj, if_neg (by omega), if_neg hj]
theorem zv_ald {q t r i N off j0 : Nat} {j : Int32} (ta : Nat) (hta : ta < 3) (hq : (q, t) ∈ L) (hi : (zbT t)[i]? = some (r, .inr (ta, N, off, 0, 0))) (hj : zix j j0 N) {ins : Instr} (hins : ins = (if ta = 0 then .iaload else if ta = 1 then .caload else .baload)) (hd : decode cc pc = .ok (ins, 1))
    (kk : zV l X0 D B own mn cc nL ret R post k n L nx (pc + 1) lv (.int (G q (off + j0)) :: st) G) : zV l X0 D B own mn cc nL ret R post k n L nx pc lv (.int j :: .ref (q + r) :: st) G := by
  intro p e s m args below meth c H locs ls Q hX hR hl hW hS
  obtain ⟨k0, hk0⟩ := zpl_at hq hi
  have hz := zcs_at (D := D) (G := G) hk0
  have hty := ztys_at (D := D) (ta := ta) (by omega)
  have hz' : (zcs D L G)[k0]? = some (q + r, .inl (D.2 ta, N, .inl (zai N off (G q)))) := by
    rw [hz]
    simp only [zce, zac]
    rw [if_pos hta]
  have hval : zai N off (G q) j.toNatClampNeg = G q (off + j0) := by
    rw [hj.2.1]
    simp [zai, hj.2.2]
  have kk' := kk p e s m args below meth c H locs ls Q hX hR hl hW hS
  rw [← hval] at kk'
  subst hins
  match ta, hta with
  | 0, _ => exact va_iald hX.1 hX.2.1 hX.2.2.2.2.2.1 hW.2.1 k0 _ hz' hty (zix_in hj) hd kk'
  | 1, _ => exact va_cald hX.1 hX.2.1 hX.2.2.2.2.2.1 hW.2.1 k0 _ hz' hty (zix_in hj) hd kk'
  | 2, _ => exact va_zald hX.1 hX.2.1 hX.2.2.2.2.2.1 hW.2.1 k0 _ hz' hty (zix_in hj) hd kk'
theorem zv_iald {q t r i N off j0 : Nat} {j : Int32} (hq : (q, t) ∈ L) (hi : (zbT t)[i]? = some (r, .inr (0, N, off, 0, 0))) (hj : zix j j0 N) (hd : decode cc pc = .ok (.iaload, 1))
    (kk : zV l X0 D B own mn cc nL ret R post k n L nx (pc + 1) lv (.int (G q (off + j0)) :: st) G) : zV l X0 D B own mn cc nL ret R post k n L nx pc lv (.int j :: .ref (q + r) :: st) G := zv_ald 0 (by omega) hq hi hj rfl hd kk
theorem zv_cald {q t r i N off j0 : Nat} {j : Int32} (hq : (q, t) ∈ L) (hi : (zbT t)[i]? = some (r, .inr (1, N, off, 0, 0))) (hj : zix j j0 N) (hd : decode cc pc = .ok (.caload, 1))
    (kk : zV l X0 D B own mn cc nL ret R post k n L nx (pc + 1) lv (.int (G q (off + j0)) :: st) G) : zV l X0 D B own mn cc nL ret R post k n L nx pc lv (.int j :: .ref (q + r) :: st) G := zv_ald 1 (by omega) hq hi hj rfl hd kk
theorem zv_zald {q t r i N off j0 : Nat} {j : Int32} (hq : (q, t) ∈ L) (hi : (zbT t)[i]? = some (r, .inr (2, N, off, 0, 0))) (hj : zix j j0 N) (hd : decode cc pc = .ok (.baload, 1))
    (kk : zV l X0 D B own mn cc nL ret R post k n L nx (pc + 1) lv (.int (G q (off + j0)) :: st) G) : zV l X0 D B own mn cc nL ret R post k n L nx pc lv (.int j :: .ref (q + r) :: st) G := zv_ald 2 (by omega) hq hi hj rfl hd kk
/-- the heap behind a store of a number into an array of a blob -/
theorem zW_ast {q t r i N off j0 k0 ta : Nat} {j : Int32} {v : Int32} {H H' : Heap} (hta : ta < 3) (hW : zW D B L nx G H) (hq : (q, t) ∈ L) (hi : (zbT t)[i]? = some (r, .inr (ta, N, off, 0, 0))) (hk0 : (zpl L)[k0]? = some (q, r, .inr (ta, N, off, 0, 0))) (hj : zix j j0 N)
    (e1 : H'[q + r]? = some ((arrV (D.2 ta) N (fun j => .int (zai N off (G q) j))).setSlot j.toNatClampNeg (.int v))) (e2 : H'.size = H.size) (e3 : ∀ x : Nat, x ≠ q + r → H'[x]? = H[x]?) : zW D B L nx (zst G q (upd (G q) (off + j0) v)) H' := by
  have hz := zcs_at (D := D) (G := G) hk0
  refine zW_of hW hq hi hk0 (fun x hx => ?_) e2 (hW.2.1.set hW.2.2.1 hz ?_ e3)
  · simp only [upd]
    have hb := hj.2.2
    rw [if_neg (fun e => hx (by rw [e]; simp only [zrg]; omega))]
  · show H'[q + r]? = some (vp_cell _ _)
    rw [e1, arrV_store, hj.2.1]
    congr 1
    simp only [zac]
    rw [if_pos hta, zai_upd hj.2.2, vp_cell_i]
    congr 1
    funext x
    simp only [updV, upd]
    split <;> rfl
theorem zv_iast {q t r i N off j0 : Nat} {j v : Int32} (hq : (q, t) ∈ L) (hi : (zbT t)[i]? = some (r, .inr (0, N, off, 0, 0))) (hj : zix j j0 N) (hd : decode cc pc = .ok (.iastore, 1))
    (kk : zV l X0 D B own mn cc nL ret R post k n L nx (pc + 1) lv st (zst G q (upd (G q) (off + j0) v))) : zV l X0 D B own mn cc nL ret R post k n L nx pc lv (.int v :: .int j :: .ref (q + r) :: st) G := by
  intro p e s m args below meth c H locs ls Q hX hR hl hW hS
  obtain ⟨k0, hk0⟩ := zpl_at hq hi
  have hz : (zcs D L G)[k0]? = some (q + r, .inl (D.2 0, N, .inl (zai N off (G q)))) := zcs_at (D := D) (G := G) hk0
  refine W.iast hX.1 hX.2.1 (hW.2.1 k0 _ hz) ((hX.2.2.2.2.2.1.2 0 _ (ztys_at (by omega))).1 N _) (fun q => by cases q) (by show ¬ (j < 0 ∨ (arrV _ _ _).slots.size ≤ _); rw [arrV_size]; exact zix_in hj) rfl rfl hd fun H1 e1 e2 e3 => ?_
  exact kk p e s m args below meth c H1 _ ls Q hX hR hl (zW_ast (by omega) hW hq hi hk0 hj e1 e2 e3) (hS.put e2 e3 (hW.2.2.1.2 k0 _ hz))
theorem zv_cast {q t r i N off j0 : Nat} {j v w : Int32} (hq : (q, t) ∈ L) (hi : (zbT t)[i]? = some (r, .inr (1, N, off, 0, 0))) (hj : zix j j0 N) (hw : narrow .char (.int v) = .int w) (hd : decode cc pc = .ok (.castore, 1))
    (kk : zV l X0 D B own mn cc nL ret R post k n L nx (pc + 1) lv st (zst G q (upd (G q) (off + j0) w))) : zV l X0 D B own mn cc nL ret R post k n L nx pc lv (.int v :: .int j :: .ref (q + r) :: st) G := by
  intro p e s m args below meth c H locs ls Q hX hR hl hW hS
  obtain ⟨k0, hk0⟩ := zpl_at hq hi
  have hz : (zcs D L G)[k0]? = some (q + r, .inl (D.2 1, N, .inl (zai N off (G q)))) := zcs_at (D := D) (G := G) hk0
  refine W.cast hX.1 hX.2.1 (hW.2.1 k0 _ hz) ((hX.2.2.2.2.2.1.2 1 _ (ztys_at (by omega))).1 N _) (fun q => by cases q) (by show ¬ (j < 0 ∨ (arrV _ _ _).slots.size ≤ _); rw [arrV_size]; exact zix_in hj) rfl rfl hd fun H1 e1 e2 e3 => ?_
  exact kk p e s m args below meth c H1 _ ls Q hX hR hl (zW_ast (by omega) hW hq hi hk0 hj (by rw [e1, hw]; rfl) e2 e3) (hS.put e2 e3 (hW.2.2.1.2 k0 _ hz))
theorem zv_zast {q t r i N off j0 : Nat} {j v w : Int32} (hq : (q, t) ∈ L) (hi : (zbT t)[i]? = some (r, .inr (2, N, off, 0, 0))) (hj : zix j j0 N) (hw : narrow .boolean (.int v) = .int w) (hd : decode cc pc = .ok (.bastore, 1))
    (kk : zV l X0 D B own mn cc nL ret R post k n L nx (pc + 1) lv st (zst G q (upd (G q) (off + j0) w))) : zV l X0 D B own mn cc nL ret R post k n L nx pc lv (.int v :: .int j :: .ref (q + r) :: st) G := by
  intro p e s m args below meth c H locs ls Q hX hR hl hW hS
  obtain ⟨k0, hk0⟩ := zpl_at hq hi
  have hz : (zcs D L G)[k0]? = some (q + r, .inl (D.2 2, N, .inl (zai N off (G q)))) := zcs_at (D := D) (G := G) hk0
  refine W.zast hX.1 hX.2.1 (hW.2.1 k0 _ hz) ((hX.2.2.2.2.2.1.2 2 _ (ztys_at (by omega))).1 N _) (fun q => by cases q) (by show ¬ (j < 0 ∨ (arrV _ _ _).slots.size ≤ _); rw [arrV_size]; exact zix_in hj) rfl rfl hd fun H1 e1 e2 e3 => ?_
  exact kk p e s m args below meth c H1 _ ls Q hX hR hl (zW_ast (by omega) hW hq hi hk0 hj (by rw [e1, hw]; rfl) e2 e3) (hS.put e2 e3 (hW.2.2.1.2 k0 _ hz))
theorem zty_ref {ta : Nat} (h3 : 3 ≤ ta) (h5 : ta < 5) : ∃ C, zty ta = .object C := by
  match ta, h3, h5 with
  | 3, _, _ => exact ⟨_, rfl⟩
  | 4, _, _ => exact ⟨_, rfl⟩
theorem zv_aald {q t r i N off a b j0 ta : Nat} {j : Int32} (h3 : 3 ≤ ta) (h5 : ta < 5) (hq : (q, t) ∈ L) (hi : (zbT t)[i]? = some (r, .inr (ta, N, off, a, b))) (hj : zix j j0 N) (hd : decode cc pc = .ok (.aaload, 1))
    (kk : zV l X0 D B own mn cc nL ret R post k n L nx (pc + 1) lv (va_rf (zar q N off a b (G q) j0) :: st) G) : zV l X0 D B own mn cc nL ret R post k n L nx pc lv (.int j :: .ref (q + r) :: st) G := by
  intro p e s m args below meth c H locs ls Q hX hR hl hW hS
  obtain ⟨k0, hk0⟩ := zpl_at hq hi
  have hz := zcs_at (D := D) (G := G) hk0
  have hty := ztys_at (D := D) (ta := ta) (by omega)
  obtain ⟨C, hC⟩ := zty_ref h3 h5
  rw [hC] at hty
  have hz' : (zcs D L G)[k0]? = some (q + r, .inl (D.2 ta, N, .inr (.inr (.inr (.inr (zar q N off a b (G q))))))) := by
    rw [hz]
    simp only [zce, zac]
    rw [if_neg (by omega)]
  have kk' := kk p e s m args below meth c H locs ls Q hX hR hl hW hS
  refine va_aldq hX.1 hX.2.1 hX.2.2.2.2.2.1 hW.2.1 k0 ta hz' hty (zix_in hj) hd ?_
  rw [hj.2.1]
  exact kk'
theorem zv_aaldS {q t r i N off a b j0 ta : Nat} {j : Int32} (h3 : 3 ≤ ta) (h5 : ta < 5) (hq : (q, t) ∈ L) (hi : (zbT t)[i]? = some (r, .inr (ta, N, off, a, b + 1))) (hj : zix j j0 N) (hd : decode cc pc = .ok (.aaload, 1))
    (kk : zV l X0 D B own mn cc nL ret R post k n L nx (pc + 1) lv (.ref (q + (a + (b + 1) * j0)) :: st) G) : zV l X0 D B own mn cc nL ret R post k n L nx pc lv (.int j :: .ref (q + r) :: st) G := by
  refine zv_aald h3 h5 hq hi hj hd ?_
  have e : zar q N off a (b + 1) (G q) j0 = some (q + (a + (b + 1) * j0)) := by simp [zar, hj.2.2]
  rw [e]
  exact kk
theorem zv_aaldD {q t r i N off j0 ta x : Nat} {j : Int32} (h3 : 3 ≤ ta) (h5 : ta < 5) (hq : (q, t) ∈ L) (hi : (zbT t)[i]? = some (r, .inr (ta, N, off, 0, 0))) (hj : zix j j0 N) (hx : zdr q (G q (off + j0)) = some x) (hd : decode cc pc = .ok (.aaload, 1))
    (kk : zV l X0 D B own mn cc nL ret R post k n L nx (pc + 1) lv (.ref x :: st) G) : zV l X0 D B own mn cc nL ret R post k n L nx pc lv (.int j :: .ref (q + r) :: st) G := by
  refine zv_aald h3 h5 hq hi hj hd ?_
  have e : zar q N off 0 0 (G q) j0 = some x := by simp [zar, hj.2.2, hx]
  rw [e]
  exact kk
theorem zv_aaldN {q t r i N off j0 ta : Nat} {j : Int32} (h3 : 3 ≤ ta) (h5 : ta < 5) (hq : (q, t) ∈ L) (hi : (zbT t)[i]? = some (r, .inr (ta, N, off, 0, 0))) (hj : zix j j0 N) (hx : G q (off + j0) = 0) (hd : decode cc pc = .ok (.aaload, 1))
    (kk : zV l X0 D B own mn cc nL ret R post k n L nx (pc + 1) lv (.null :: st) G) : zV l X0 D B own mn cc nL ret R post k n L nx pc lv (.int j :: .ref (q + r) :: st) G := by
  refine zv_aald h3 h5 hq hi hj hd ?_
  have e : zar q N off 0 0 (G q) j0 = none := by simp [zar, hx, zdr]
  rw [e]
  exact kk
theorem zdr_nI {q a : Nat} (ha : q < a) (ha2 : a - q < 2 ^ 31) : zdr q (nI (a - q)) = some a := by
  have hc := nI_clamp (n := a - q) ha2
  have h0 : nI (a - q) ≠ 0 := fun h => by rw [h] at hc; simp at hc; omega
  unfold zdr
  rw [if_neg h0, hc]
  congr 1
  omega
theorem zv_aast {q t r i N off j0 ta x tx ci : Nat} {j : Int32} {fks : List Nat} {C : String} {T : u_T} {N1 : Nat} (h3 : 3 ≤ ta) (h5 : ta < 5) (hq : (q, t) ∈ L) (hi : (zbT t)[i]? = some (r, .inr (ta, N, off, 0, 0))) (hj : zix j j0 N) (hx : (x, tx) ∈ L) (hxo : (zbT tx)[0]? = some (0, .inl (ci, fks))) (hci : vwCl[ci]? = some (C, T, N1)) (hta : zty ta = .object C) (ha : q < x) (ha2 : x - q < 2 ^ 31) (hd : decode cc pc = .ok (.aastore, 1))
    (kk : zV l X0 D B own mn cc nL ret R post k n L nx (pc + 1) lv st (zst G q (upd (G q) (off + j0) (nI (x - q))))) : zV l X0 D B own mn cc nL ret R post k n L nx pc lv (.ref x :: .int j :: .ref (q + r) :: st) G := by
  intro p e s m args below meth c H locs ls Q hX hR hl hW hS
  obtain ⟨k0, hk0⟩ := zpl_at hq hi
  have hz := zcs_at (D := D) (G := G) hk0
  have hz' : (zcs D L G)[k0]? = some (q + r, .inl (D.2 ta, N, .inr (.inr (.inr (.inr (zar q N off 0 0 (G q))))))) := by
    rw [hz]
    simp only [zce, zac]
    rw [if_neg (by omega)]
  obtain ⟨kx, hkx⟩ := zpl_at hx hxo
  have hzx := zcs_at (D := D) (G := G) hkx
  have hty := ztys_at (D := D) (ta := ta) (by omega)
  rw [hta] at hty
  obtain ⟨r', hr', cellV, g1, g2, g3, -⟩ := hW.2.1 kx _ hzx
  have hcls := (hX.2.2.2.2.2.1.1 ci _ hci).2
  obtain ⟨kA, comp, k1, k2, k3, -⟩ := (hX.2.2.2.2.2.1.2 ta _ hty).2
  have hcomp : comp = D.1.1 ci := Option.some.inj (k3.symm.trans hcls.1)
  subst hcomp
  obtain ⟨kC, hkC, -⟩ := id hcls.2
  refine W.aast hX.1 hX.2.1 (hW.2.1 k0 _ hz') (fun q h => by cases h) (fun h => by cases h) k1 k2 rfl hkC ⟨hj.1, by show _ < (arrV _ _ _).slots.size; rw [arrV_size, hj.2.1]; exact hj.2.2⟩ g1 (fun q h => by rw [g3] at h; cases h) (by rw [g2]; exact hkC) (by rw [g2]; exact va_assign hcls) rfl rfl hd fun H1 e1 e2 e3 => ?_
  refine kk p e s m args below meth c H1 _ ls Q hX hR hl (zW_of hW hq hi hk0 (fun y hy => ?_) e2 (hW.2.1.set hW.2.2.1 hz ?_ e3)) (hS.put e2 e3 (hW.2.2.1.2 k0 _ hz'))
  · simp only [upd]
    have hb := hj.2.2
    rw [if_neg (fun e => hy (by rw [e]; simp only [zrg]; omega))]
  · show H1[q + r]? = some (vp_cell _ _)
    rw [e1]
    rw [show vp_cell (D.2 ta) (N, .inr (.inr (.inr (.inr (zar q N off 0 0 (G q)))))) = arrV (D.2 ta) N (fun j => va_rf (zar q N off 0 0 (G q) j)) from rfl, arrV_store, hj.2.1]
    congr 1
    simp only [zac]
    rw [if_neg (by omega)]
    rw [vp_cell_q]
    congr 1
    funext y
    simp only [updV, zar, upd]
    by_cases hy : y = j0
    · subst hy
      simp [hj.2.2, zdr_nI ha ha2, va_rf]
    · have hne : ¬ off + y = off + j0 := by omega
      simp [hy, hne]
end ZARR
end
section
def zpairs (lv : List (Option Value)) : List (Nat × Value) := (List.range lv.length).filterMap (fun i => (lv[i]?.join).map (fun v => (i, v)))
theorem mem_zpairs {lv : List (Option Value)} {i : Nat} {v : Value} : (i, v) ∈ zpairs lv ↔ lv[i]? = some (some v) := by
  unfold zpairs
  rw [List.mem_filterMap]
  constructor
  · rintro ⟨j, -, h⟩
    cases hj : lv[j]? with
    | none => rw [hj] at h; cases h
    | some w =>
      cases w with
      | none => rw [hj] at h; cases h
      | some w =>
        rw [hj] at h
        simp at h
        obtain ⟨rfl, rfl⟩ := h
        exact hj
  · intro h
    exact ⟨i, List.mem_range.mpr (List.getElem?_eq_some_iff.mp h).1, by rw [h]; rfl⟩
theorem zlv_has {ls : Array Slot} {nL : Nat} {lv : List (Option Value)} (h : zlv ls nL lv) : lv_has ls nL (zpairs lv) :=
  ⟨h.2.1, h.2.2.1, fun q hq => h.2.2.2 q.1 q.2 (mem_zpairs.mp hq)⟩
/-- no long stands just ahead of the place -/
def zn2 (lv : List (Option Value)) : Nat → Bool
  | 0 => true
  | i + 1 => match lv[i]? with
    | some (some v) => v.category == 1
    | _ => true
theorem zn2_at {lv : List (Option Value)} {i j : Nat} {v : Value} (h : zn2 lv i = true) (hj : lv[j]? = some (some v)) (hij : j + 1 = i) : (v.category == 2) = false := by
  subst hij
  simp only [zn2, hj, beq_iff_eq] at h
  rw [h]
  rfl
theorem zlv_set1 {ls ls' : Array Slot} {nL i : Nat} {lv : List (Option Value)} {v : Value} (h : zlv ls nL lv) (hn : zn2 lv i = true) (hi : i < nL)
    (h' : lv_has ls' nL ((i, v) :: (zpairs lv).filter (fun q => !(q.1 == i) && !(q.1 + 1 == i && q.2.category == 2)))) : zlv ls' nL (lv.set i (some v)) := by
  refine ⟨by rw [List.length_set]; exact h.1, h'.1, h'.2.1, fun j w hj => ?_⟩
  rw [List.getElem?_set] at hj
  by_cases e : i = j
  · subst e
    rw [if_pos rfl, if_pos (by rw [h.1]; exact hi)] at hj
    cases hj
    exact h'.2.2 (i, v) List.mem_cons_self
  · rw [if_neg e] at hj
    refine h'.2.2 (j, w) (List.mem_cons_of_mem _ (List.mem_filter.mpr ⟨mem_zpairs.mpr hj, ?_⟩))
    have e1 : (j == i) = false := by simp; omega
    by_cases e2 : j + 1 = i
    · simp [e1, zn2_at hn hj e2]
    · have e3 : (j + 1 == i) = false := by simp; omega
      simp [e1, e3]
theorem zlv_set2 {ls ls' : Array Slot} {nL i : Nat} {lv : List (Option Value)} {v : Value} (h : zlv ls nL lv) (hn : zn2 lv i = true) (hi : i + 1 < nL)
    (h' : lv_has ls' nL ((i, v) :: (zpairs lv).filter (fun q => !(q.1 == i) && (!(q.1 == i + 1) && !(q.1 + 1 == i && q.2.category == 2))))) : zlv ls' nL ((lv.set i (some v)).set (i + 1) none) := by
  refine ⟨by rw [List.length_set, List.length_set]; exact h.1, h'.1, h'.2.1, fun j w hj => ?_⟩
  rw [List.getElem?_set] at hj
  by_cases e4 : i + 1 = j
  · subst e4
    rw [if_pos rfl] at hj
    split at hj <;> cases hj
  rw [if_neg e4, List.getElem?_set] at hj
  by_cases e : i = j
  · subst e
    rw [if_pos rfl, if_pos (by rw [h.1]; omega)] at hj
    cases hj
    exact h'.2.2 (i, v) List.mem_cons_self
  · rw [if_neg e] at hj
    refine h'.2.2 (j, w) (List.mem_cons_of_mem _ (List.mem_filter.mpr ⟨mem_zpairs.mpr hj, ?_⟩))
    have e1 : (j == i) = false := by simp; omega
    have e5 : (j == i + 1) = false := by simp; omega
    by_cases e2 : j + 1 = i
    · simp [e1, e5, zn2_at hn hj e2]
    · have e3 : (j + 1 == i) = false := by simp; omega
      simp [e1, e5, e3]
section ZLOC
variable {l : Launch} {X0 : State → Prop} {D : zD} {B : Nat} {own mn : String} {cc : ByteArray} {nL : Nat} {ret : Option FieldType} {R : Room} {post : zP} {k n : Nat} {L : zL} {nx : Nat} {pc : Nat} {lv : List (Option Value)} {st : List Value} {G : zG}
theorem zv_istore_n {i : Fin 4} {x : Int32} (hd : decode cc pc = .ok (.istore_n i, 1)) (hi : (i : Nat) < nL) (hn : zn2 lv i = true) (kk : zV l X0 D B own mn cc nL ret R post k n L nx (pc + 1) (lv.set i (some (.int x))) st G) : zV l X0 D B own mn cc nL ret R post k n L nx pc lv (.int x :: st) G :=
  fun p e s m args below meth c H locs ls Q hX hR hl hW hS => lv_istore_n hX.1 hX.2.1 hd rfl (zlv_has hl) hi rfl (fun ls' h' => kk p e s m args below meth c H locs ls' Q hX hR (zlv_set1 hl hn hi h') hW hS)
theorem zv_istore {i : Nat} {x : Int32} (hd : decode cc pc = .ok (.istore i, 2)) (hi : i < nL) (hn : zn2 lv i = true) (kk : zV l X0 D B own mn cc nL ret R post k n L nx (pc + 2) (lv.set i (some (.int x))) st G) : zV l X0 D B own mn cc nL ret R post k n L nx pc lv (.int x :: st) G :=
  fun p e s m args below meth c H locs ls Q hX hR hl hW hS => lv_istore hX.1 hX.2.1 hd (zlv_has hl) hi rfl (fun ls' h' => kk p e s m args below meth c H locs ls' Q hX hR (zlv_set1 hl hn hi h') hW hS)
theorem zv_astore_n {i : Fin 4} {x : Nat} (hd : decode cc pc = .ok (.astore_n i, 1)) (hi : (i : Nat) < nL) (hn : zn2 lv i = true) (kk : zV l X0 D B own mn cc nL ret R post k n L nx (pc + 1) (lv.set i (some (.ref x))) st G) : zV l X0 D B own mn cc nL ret R post k n L nx pc lv (.ref x :: st) G :=
  fun p e s m args below meth c H locs ls Q hX hR hl hW hS => lv_astore_n hX.1 hX.2.1 hd rfl (zlv_has hl) hi rfl (fun ls' h' => kk p e s m args below meth c H locs ls' Q hX hR (zlv_set1 hl hn hi h') hW hS)
theorem zv_astore {i : Nat} {x : Nat} (hd : decode cc pc = .ok (.astore i, 2)) (hi : i < nL) (hn : zn2 lv i = true) (kk : zV l X0 D B own mn cc nL ret R post k n L nx (pc + 2) (lv.set i (some (.ref x))) st G) : zV l X0 D B own mn cc nL ret R post k n L nx pc lv (.ref x :: st) G :=
  fun p e s m args below meth c H locs ls Q hX hR hl hW hS => lv_astore hX.1 hX.2.1 hd (zlv_has hl) hi rfl (fun ls' h' => kk p e s m args below meth c H locs ls' Q hX hR (zlv_set1 hl hn hi h') hW hS)
theorem zv_lstore_n {i : Fin 4} {x : Int64} (hd : decode cc pc = .ok (.lstore_n i, 1)) (hi : (i : Nat) + 1 < nL) (hn : zn2 lv i = true) (kk : zV l X0 D B own mn cc nL ret R post k n L nx (pc + 1) ((lv.set i (some (.long x))).set ((i : Nat) + 1) none) st G) : zV l X0 D B own mn cc nL ret R post k n L nx pc lv (.long x :: st) G :=
  fun p e s m args below meth c H locs ls Q hX hR hl hW hS => lv_lstore_n hX.1 hX.2.1 hd rfl (zlv_has hl) hi rfl (fun ls' h' => kk p e s m args below meth c H locs ls' Q hX hR (zlv_set2 hl hn hi h') hW hS)
theorem zv_iinc {i : Nat} {a : Int} {x v : Int32} (hd : decode cc pc = .ok (.iinc i a, 3)) (hv : lv[i]? = some (some (.int x))) (hx : x + Int32.ofInt a = v) (hi : i < nL) (hn : zn2 lv i = true) (kk : zV l X0 D B own mn cc nL ret R post k n L nx (pc + 3) (lv.set i (some (.int v))) st G) : zV l X0 D B own mn cc nL ret R post k n L nx pc lv st G := by
  intro p e s m args below meth c H locs ls Q hX hR hl hW hS
  obtain ⟨k0, hk0⟩ := List.getElem?_of_mem (mem_zpairs.mpr hv)
  exact lv_iinc hX.1 hX.2.1 hd (zlv_has hl) hk0 hx hi rfl (fun ls' h' => kk p e s m args below meth c H locs ls' Q hX hR (zlv_set1 hl hn hi h') hW hS)
/-- a local that is a reference or null -/
theorem zv_aload_w {i : Nat} {ins : Instr} {ln : Nat} {w : Value} (hins : (ins = .aload i ∧ ln = 2) ∨ (∃ j : Fin 4, ins = .aload_n j ∧ (j : Nat) = i ∧ ln = 1)) (hw : ∃ a, w = .ref a) (hd : decode cc pc = .ok (ins, ln)) (hv : lv[i]? = some (some w)) (kk : zV l X0 D B own mn cc nL ret R post k n L nx (pc + ln) lv (w :: st) G) : zV l X0 D B own mn cc nL ret R post k n L nx pc lv st G := by
  obtain ⟨a, rfl⟩ := hw
  rcases hins with ⟨rfl, rfl⟩ | ⟨j, rfl, rfl, rfl⟩
  · exact zv_aload hd hv kk
  · exact zv_aload_n hd hv kk
/-- a new cell -/
theorem zW_new {H H1 : Heap} {t : Nat} {cd : zCD} {f : Nat → Int32} (hW : zW D B L nx G H) (hB : B ≤ nx) (ht : zbT t = [(0, cd)]) (z : H1.size = H.size + 1) (ho : ∀ q : Nat, q < H.size → H1[q]? = H[q]?) (hat : va_at D.1 vwCl (nx, zce D nx f cd) H1) : zW D B (L ++ [(nx, t)]) (nx + 1) (zst G nx f) H1 := by
  obtain ⟨h1, h2, h3, h4⟩ := hW
  have e0 : zpl (L ++ [(nx, t)]) = zpl L ++ [(nx, 0, cd)] := by simp [zpl, ht]
  have hlt : ∀ p ∈ zpl L, p.1 ≠ nx := by
    intro p hp e
    obtain ⟨q, r, c⟩ := p
    obtain ⟨t', ht', -⟩ := zpl_mem hp
    have := h4.2 _ ht'
    simp only at e this
    omega
  have e1 : zcs D (L ++ [(nx, t)]) (zst G nx f) = zcs D L G ++ [(nx, zce D nx f cd)] := by
    unfold zcs
    rw [e0, List.map_append]
    congr 1
    · apply List.map_congr_left
      intro p hp
      rw [zst_ne _ _ (hlt p hp)]
    · simp [zst_same]
  have hk : ∀ (k : Nat) (x : Nat × va_E), (zcs D L G)[k]? = some x → H1[x.1]? = H[x.1]? := fun k x hx => ho x.1 ((h2 k x hx).lt)
  refine ⟨by rw [z, h1], ?_, ?_, ?_⟩
  · rw [e1]
    refine (h2.kept hk).app (fun k x hx => ?_)
    have hz : k < 1 := (List.getElem?_eq_some_iff.mp hx).1
    rw [show k = 0 by omega] at hx
    cases hx
    exact hat
  · rw [e1]
    exact h3.push h2 h1.symm hB
  · refine ⟨fun q t1 u hq hu => ?_, fun b hb => ?_⟩
    · rcases List.mem_append.mp hq with hq | hq <;> rcases List.mem_append.mp hu with hu | hu
      · exact h4.1 _ _ _ hq hu
      · simp at hu
        have := h4.2 _ hq
        simp only at this
        omega
      · simp at hq
        have := h4.2 _ hu
        simp only at this
        omega
      · simp at hq hu
        rw [hq.2, hu.2]
    · rcases List.mem_append.mp hb with hb | hb
      · have := h4.2 _ hb
        omega
      · simp at hb
        subst hb
        simp
theorem zS_new {A : Nat → Prop} {H0 H H1 : Heap} {locs : List Loc} (h : va_S A H0 H locs) (z : H1.size = H.size + 1) (ho : ∀ q : Nat, q < H.size → H1[q]? = H[q]?) : va_S A H0 H1 locs :=
  ⟨Nat.le_trans h.1 (by omega), fun x h1 h2 => (ho x (Nat.lt_of_lt_of_le h1 h.1)).trans (h.2.1 x h1 h2), h.2.2⟩
theorem zv_new {C : String} {T : u_T} {N ci ix t : Nat} {fks : List Nat} {ty : Nat → FieldType} (hB : B ≤ nx) (hcl : Cond.classLink own ix C ∈ zgw) (hin : Cond.instantiable C N ∈ zgw) (hini : Cond.initialized C ∈ zgw) (hci : vwCl[ci]? = some (C, T, N)) (hu : ∀ w ∈ u_ws C T N, w ∈ zgw) (hty : ∀ k, k < N → parseFieldDescriptor (T k).2.2.1 = some (ty k)) (ht : zbT t = [(0, .inl (ci, fks))]) (hfs : ∀ q j, j < N → defaultValue (ty j) = vp_V (zfl q (fun _ => 0) 0 fks) j) (hcells : k + 1 ≤ R.cells) (hslots : n + N ≤ R.slots) (hd : decode cc pc = .ok (.new ix, 3))
    (kk : zV l X0 D B own mn cc nL ret R post (k + 1) (n + N) (L ++ [(nx, t)]) (nx + 1) (pc + 3) lv (.ref nx :: st) (zst G nx (fun _ => 0))) : zV l X0 D B own mn cc nL ret R post k n L nx pc lv st G := by
  intro p e s m args below meth c H locs ls Q hX hR hl hW hS
  have hKn := hX.2.2.2.2.2.1.1 ci _ hci
  refine W.newcK hX.1 hX.2.1 hX.2.2.2.1 (hX.2.2.2.2.1 _ hcl) (hX.2.2.2.2.1 _ hin) (hX.2.2.2.2.1 _ hini) rfl hd hcells hslots hKn.2.1 hW.1 fun H1 kC hkC e1 z1 o1 => ?_
  rw [← hW.1] at z1 o1
  exact kk p e s m args below meth c H1 locs ls Q hX hR hl (zW_new hW hB ht z1 o1 ⟨_, hci, (u_born ty hX.2.2.2.2.1 hu hKn hkC e1 hty).to (fun j hj => hfs nx j hj)⟩) (zS_new hS z1 o1)
theorem zv_newarray {N t ta : Nat} {a : Int32} {atype : ArrayType} (hB : B ≤ nx) (hat : newarray.typeOf atype = zty ta) (hta : ta < 3) (hw : Cond.arrayClass (zty ta) ∈ zgw) (hn : ¬ a < 0) (hN : a.toNatClampNeg = N) (hNN : N < 10000) (ht : zbT t = [(0, .inr (ta, N, 0, 0, 0))]) (hcells : k + 1 ≤ R.cells) (hslots : n + N ≤ R.slots) (hd : decode cc pc = .ok (.newarray atype, 2))
    (kk : zV l X0 D B own mn cc nL ret R post (k + 1) (n + N) (L ++ [(nx, t)]) (nx + 1) (pc + 2) lv (.ref nx :: st) (zst G nx (fun _ => 0))) : zV l X0 D B own mn cc nL ret R post k n L nx pc lv (.int a :: st) G := by
  intro p e s m args below meth c H locs ls Q hX hR hl hW hS
  have hcb : componentBytes (zty ta) ≤ 8 := by
    match ta, hta with
    | 0, _ => decide
    | 1, _ => decide
    | 2, _ => decide
  refine va_newaK hX.1 hX.2.1 (by rw [hat]; exact hX.2.2.2.2.1 _ hw) rfl hd rfl hn hN (by rw [hat]; exact Nat.le_trans (Nat.mul_le_mul (Nat.le_of_lt hNN) hcb) (Nat.le_of_ble_eq_true rfl)) hcells hslots hW.1 fun H1 cA e1 z1 o1 hAr hNm => ?_
  rw [← hW.1] at z1 o1
  rw [hat] at e1 hNm
  have hra := (hX.2.2.2.2.2.1.2 ta _ (ztys_at (by omega))).2
  have hcA : cA = D.2 ta := by
    match ta, hta with
    | 0, _ => exact Option.some.inj (hNm.symm.trans hra)
    | 1, _ => exact Option.some.inj (hNm.symm.trans hra)
    | 2, _ => exact Option.some.inj (hNm.symm.trans hra)
  subst hcA
  refine kk p e s m args below meth c H1 locs ls Q hX hR hl (zW_new hW hB ht z1 o1 ?_) (zS_new hS z1 o1)
  show H1[nx]? = some (vp_cell _ _)
  rw [e1]
  simp only [zac]
  rw [if_pos hta, vp_cell_i]
  congr 2
  funext j
  have : defaultValue (zty ta) = .int 0 := by
    match ta, hta with
    | 0, _ => rfl
    | 1, _ => rfl
    | 2, _ => rfl
  rw [this]
  simp [zai]
theorem zv_anew {N t ta ix : Nat} {a : Int32} {C : String} (hB : B ≤ nx) (hC : zty ta = .object C) (h5 : ta < 5) (h3 : 3 ≤ ta) (hcl : Cond.classLink own ix C ∈ zgw) (hov : Cond.arrayOver (.object C) ∈ zbw) (hn : ¬ a < 0) (hN : a.toNatClampNeg = N) (hNN : N < 10000) (ht : zbT t = [(0, .inr (ta, N, 0, 0, 0))]) (hcells : k + 1 ≤ R.cells) (hslots : n + N ≤ R.slots) (hd : decode cc pc = .ok (.anewarray ix, 3))
    (kk : zV l X0 D B own mn cc nL ret R post (k + 1) (n + N) (L ++ [(nx, t)]) (nx + 1) (pc + 3) lv (.ref nx :: st) (zst G nx (fun _ => 0))) : zV l X0 D B own mn cc nL ret R post k n L nx pc lv (.int a :: st) G := by
  intro p e s m args below meth c H locs ls Q hX hR hl hW hS
  subst hN
  refine W.anew hX.1 hX.2.1 hX.2.2.2.1 (hX.2.2.2.2.1 _ hcl) (va_AO.use (hX.2.2.2.2.2.2.2.1 _ hov)) rfl hd rfl hn (by omega) hcells hslots fun cA kA comp f1 f2 f3 f4 => ?_
  generalize hH1 : H.push ({ cls := cA, slots := Array.replicate a.toNatClampNeg .null, vm := .none } : Cell) = H1
  have z1 : H1.size = H.size + 1 := by rw [← hH1, Array.size_push]
  have e1 : H1[H.size]? = some (arrV cA a.toNatClampNeg (fun _ => .null)) := by rw [← hH1, Array.getElem?_push_size, ← arrV_new]
  have o1 : ∀ q : Nat, q < H.size → H1[q]? = H[q]? := fun q hq => by rw [← hH1, Array.getElem?_push, if_neg (Nat.ne_of_lt hq)]
  have hty := ztys_at (D := D) (ta := ta) h5
  rw [hC] at hty
  obtain ⟨_, _, -, -, -, g4⟩ := (hX.2.2.2.2.2.1.2 ta _ hty).2
  have hcA : cA = D.2 ta := Option.some.inj (f1.symm.trans g4)
  subst hcA
  have hsz := hW.1
  rw [hsz] at e1 ⊢
  refine kk p e s m args below meth c H1 locs ls Q hX hR hl (zW_new hW hB ht z1 o1 ?_) (zS_new hS z1 o1)
  show H1[nx]? = some (vp_cell _ _)
  rw [e1]
  simp only [zac]
  rw [if_neg (by omega), vp_cell_q]
  congr 2
  funext j
  simp [zar, zdr, va_rf]
theorem zv_objInit {ix : Nat} {a : Nat} (hlink : Cond.methodLink own ix Lib.objectInit ∈ zgw) (hinst : Cond.instanceMethod Lib.objectInit ∈ zgw) (hcode : Cond.code Lib.objectInit ⟨#[0xb1]⟩ 1 none ∈ zgw) (hd : decode cc pc = .ok (.invokespecial ix, 3)) (hfr : 1 ≤ R.frames) (hlo : 12 ≤ R.locals)
    (kk : zV l X0 D B own mn cc nL ret R post k n L nx (pc + 3) lv [] G) : zV l X0 D B own mn cc nL ret R post k n L nx pc lv [.ref a] G :=
  fun p e s m args below meth c H locs ls Q hX hR hl hW hS => W.objInit hX.1 hX.2.1 hX.2.2.2.1 (hX.2.2.2.2.1 _ hlink) (hX.2.2.2.2.1 _ hinst) (hX.2.2.2.2.1 _ hcode) rfl (by show ls.size = c.maxLocals; rw [hl.2.1, hX.2.2.1]) rfl hd hfr (by simpa using hlo) (kk p e s m args below meth c H locs ls Q hX hR hl hW hS)
/-- the same heap under other words: what is listed anew stood there -/
theorem zv_ext {G' : zG} (h : ∀ q r cd, (q, r, cd) ∈ zpl L → ∀ j, (zrg cd).1 ≤ j → j < (zrg cd).2 → G q j = G' q j) (kk : zV l X0 D B own mn cc nL ret R post k n L nx pc lv st G') : zV l X0 D B own mn cc nL ret R post k n L nx pc lv st G := by
  intro p e s m args below meth c H locs ls Q hX hR hl hW hS
  have e0 : zcs D L G = zcs D L G' := by
    apply List.map_congr_left
    rintro ⟨q, r, cd⟩ hp
    rw [zce_congr (h q r cd hp)]
  exact kk p e s m args below meth c H locs ls Q hX hR hl ⟨hW.1, by rw [← e0]; exact hW.2.1, by rw [← e0]; exact hW.2.2.1, hW.2.2.2⟩ hS
theorem zv_relay {L' : zL} {G' : zG} (h : ∀ D : zD, zcs D L G = zcs D L' G') (hf : zfun L nx → zfun L' nx) (kk : zV l X0 D B own mn cc nL ret R post k n L' nx pc lv st G') : zV l X0 D B own mn cc nL ret R post k n L nx pc lv st G := by
  intro p e s m args below meth c H locs ls Q hX hR hl hW hS
  exact kk p e s m args below meth c H locs ls Q hX hR hl ⟨hW.1, by rw [← h D]; exact hW.2.1, by rw [← h D]; exact hW.2.2.1, hf hW.2.2.2⟩ hS
end ZLOC
end
section
section ZCOPY
variable {l : Launch} {X0 : State → Prop} {D : zD} {B : Nat} {own mn : String} {cc : ByteArray} {nL : Nat} {ret : Option FieldType} {R : Room} {post : zP} {k n : Nat} {L : zL} {nx : Nat} {pc : Nat} {lv : List (Option Value)} {st : List Value} {G : zG}
def zcp (off M : Nat) (f : Nat → Int32) (off0 : Nat) (g : Nat → Int32) : Nat → Int32 := fun y => if off ≤ y ∧ y < off + M then f (off0 + (y - off)) else g y
theorem zv_copy {q0 t0 r0 i0 N0 off0 q t r i N off M ix : Nat} {a : Int32} (hlink : Cond.methodLink own ix arraycopyName ∈ zgw) (hnat : Cond.native arraycopyName ∈ zgw) (hstat : Cond.static arraycopyName ∈ zgw) (hini : Cond.initialized "java/lang/System" ∈ zgw)
    (hq0 : (q0, t0) ∈ L) (hi0 : (zbT t0)[i0]? = some (r0, .inr (0, N0, off0, 0, 0))) (hq : (q, t) ∈ L) (hi : (zbT t)[i]? = some (r, .inr (0, N, off, 0, 0))) (h3 : ¬ a < 0) (hM : a.toNatClampNeg = M) (hM0 : M ≤ N0) (hM1 : M ≤ N)
    (hfr : 1 ≤ R.frames) (hlo : (st.map fun v => v.category).sum + (nativeFrameWords "java/lang/System" "arraycopy" 5 + 11) ≤ R.locals) (hd : decode cc pc = .ok (.invokestatic ix, 3))
    (kk : zV l X0 D B own mn cc nL ret R post k n L nx (pc + 3) lv st (zst G q (zcp off M (G q0) off0 (G q)))) : zV l X0 D B own mn cc nL ret R post k n L nx pc lv (.int a :: .int 0 :: .ref (q + r) :: .int 0 :: .ref (q0 + r0) :: st) G := by
  intro p e s m args below meth c H locs ls Q hX hR hl hW hS
  obtain ⟨k0, hk0⟩ := zpl_at hq0 hi0
  obtain ⟨k1, hk1⟩ := zpl_at hq hi
  have hz0 : (zcs D L G)[k0]? = some (q0 + r0, .inl (D.2 0, N0, .inl (zai N0 off0 (G q0)))) := zcs_at (D := D) (G := G) hk0
  have hz1 : (zcs D L G)[k1]? = some (q + r, .inl (D.2 0, N, .inl (zai N off (G q)))) := zcs_at (D := D) (G := G) hk1
  have hc0 : H[q0 + r0]? = some (vp_cell (D.2 0) (N0, .inl (zai N0 off0 (G q0)))) := hW.2.1 k0 _ hz0
  have hc1 : H[q + r]? = some (vp_cell (D.2 0) (N, .inl (zai N off (G q)))) := hW.2.1 k1 _ hz1
  have hAr := (hX.2.2.2.2.2.1.2 0 _ (ztys_at (by omega))).1
  obtain ⟨-, ka, hka, cma, hkka⟩ := hAr N0 (fun j => .int (zai N0 off0 (G q0) j))
  obtain ⟨-, kb, hkb, cmb, hkkb⟩ := hAr N (fun j => .int (zai N off (G q) j))
  have nn : a.toInt = (M : Int) := by
    have h0 : (0 : Int) ≤ a.toInt := by
      have := Int32.not_lt.mp h3
      simpa using Int32.le_iff_toInt_le.mp this
    have h1 : a.toInt.toNat = M := hM
    omega
  have z0 : (0 : Int32).toInt = 0 := rfl
  have zc0 : (0 : Int32).toNatClampNeg = 0 := rfl
  have e1 : copied (vp_cell (D.2 0) (N0, .inl (zai N0 off0 (G q0)))) (vp_cell (D.2 0) (N, .inl (zai N off (G q)))) 0 0 a = vp_cell (D.2 0) (N, .inl (va_cpy (zai N0 off0 (G q0)) (zai N off (G q)) 0 0 M)) := by
    rw [← hM]
    exact va_copied (fun z => .int z) (D.2 0) (D.2 0) _ _ (by rw [hM]; omega)
  intro T hT X
  obtain ⟨vm', X', step⟩ := X.arraycopy hX.1 hX.2.2.2.1 (hX.2.2.2.2.1 _ hlink) (hX.2.2.2.2.1 _ hnat) (hX.2.2.2.2.1 _ hstat) (hX.2.2.2.2.1 _ hini) (src := q0 + r0) (dst := q + r) (cs := vp_cell (D.2 0) (N0, .inl (zai N0 off0 (G q0)))) (cd := vp_cell (D.2 0) (N, .inl (zai N off (G q)))) (srcPos := 0) (destPos := 0) (n := a) (by rw [hT]; exact hc0) (by rw [hT]; exact hc1)
    (fun _ h => by cases h) (fun _ h => by cases h) (fun h => by cases h) (fun h => by cases h) hka hkb hkka hkkb (by rfl) (by decide) (by decide) h3
    (by rw [z0, nn]; show ¬ _ > ((arrV (D.2 0) N0 (fun j => .int (zai N0 off0 (G q0) j))).slots.size : Int); rw [arrV_size]; omega)
    (by rw [z0, nn]; show ¬ _ > ((arrV (D.2 0) N (fun j => .int (zai N off (G q) j))).slots.size : Int); rw [arrV_size]; omega)
    (fun vm₁ _ i hi => by
      have e : (vp_cell (D.2 0) (N0, .inl (zai N0 off0 (G q0)))).slots.getD ((0 : Int32).toNatClampNeg + i) .null = .int (zai N0 off0 (G q0) ((0 : Int32).toNatClampNeg + i)) := by
        show (arrV (D.2 0) N0 (fun j => .int (zai N0 off0 (G q0) j))).slots.getD _ _ = _
        rw [Array.getD_eq_getD_getElem?, arrV_read _ _ (by rw [hM] at hi; rw [zc0]; omega)]
        rfl
      rw [e]
      exact ⟨rfl, trivial⟩)
    (g := F0 m pc ls (.int a :: .int 0 :: .ref (q + r) :: .int 0 :: .ref (q0 + r0) :: st)) rfl (by show ls.size = c.maxLocals; rw [hl.2.1, hX.2.2.1]) (rest := st) rfl (by rw [hX.2.1]; exact hd) hfr (by show 2 * 0 + _ + _ ≤ _; omega)
  rw [e1] at X' step
  have hlt : q + r < H.size := (Array.getElem?_eq_some_iff.mp hc1).1
  have hheap : ((T.setVm vm').setCell (q + r) (vp_cell (D.2 0) (N, .inl (va_cpy (zai N0 off0 (G q0)) (zai N off (G q)) 0 0 M)))).heap = H.setIfInBounds (q + r) (vp_cell (D.2 0) (N, .inl (va_cpy (zai N0 off0 (G q0)) (zai N off (G q)) 0 0 M))) := by rw [← hT]; rfl
  have oq : ∀ x : Nat, x ≠ q + r → (H.setIfInBounds (q + r) (vp_cell (D.2 0) (N, .inl (va_cpy (zai N0 off0 (G q0)) (zai N off (G q)) 0 0 M))))[x]? = H[x]? := fun x hx => by simp [Array.getElem?_setIfInBounds, Ne.symm hx]
  have hval : va_cpy (zai N0 off0 (G q0)) (zai N off (G q)) 0 0 M = zai N off (zcp off M (G q0) off0 (G q)) := by
    funext y
    simp only [va_cpy, zai, zcp, Nat.zero_add, Nat.sub_zero, Nat.zero_le, true_and, Nat.le_add_right]
    by_cases hy : y < M
    · have h2 : y < N0 := by omega
      have h4 : y < N := by omega
      simp [hy, h2, h4]
    · have h5 : ¬ off + y < off + M := by omega
      simp [hy]
  have hside : ∀ x, ¬ ((zrg (.inr (0, N, off, 0, 0))).1 ≤ x ∧ x < (zrg (.inr (0, N, off, 0, 0))).2) → zcp off M (G q0) off0 (G q) x = G q x := by
    intro x hx
    simp only [zcp]
    rw [if_neg (fun h => hx ⟨h.1, by simp only [zrg]; omega⟩)]
  obtain ⟨t2, a1, b1⟩ := kk p e s m args below meth c _ _ ls Q hX hR hl (zW_of hW hq hi hk1 hside (by simp) (hW.2.1.set hW.2.2.1 hz1 (show (H.setIfInBounds (q + r) _)[q + r]? = some _ by
      rw [Array.getElem?_setIfInBounds, if_pos rfl, if_pos hlt]
      simp only [zac]
      rw [if_pos (by omega), hval]) oq))
    ⟨by simp; exact hS.1, fun x g1 g2 => by
      rw [oq x (fun e => g2 (by rw [e]; exact hW.2.2.1.2 k1 _ hz1))]
      exact hS.2.1 x g1 g2, fun x hx => by
      rcases List.mem_append.mp hx with h | h
      · exact hS.2.2 x h
      · obtain ⟨z, -, hz⟩ := List.mem_map.mp h
        rw [← hz]
        exact hW.2.2.1.2 k1 _ hz1⟩ _ hheap X'
  exact ⟨t2, step t2 a1, b1⟩
end ZCOPY
end
section
abbrev zrm (fr lo mc ms : Nat) : Room := { frames := fr, cells := mc, slots := ms, locals := lo }
def zws (y : MethodName) (cc : ByteArray) (nL : Nat) (ret : Option FieldType) : List Cond := Cond.code y cc nL ret :: zgw
abbrev zQ : Type := Option Value → zL → Nat → zG → Prop
def zQc (D : zD) (B : Nat) (post : zQ) : State → Outcome → State → Prop := fun st o t =>
  (∃ (v : Option Value) (L' : zL) (nx' : Nat) (G' : zG), o = .returned v ∧ zW D B L' nx' G' t.heap ∧ post v L' nx' G') ∧ va_F (fun q => B ≤ q) st t
/-- a method's contract: from these arguments, these blobs, it returns with 'post' -/
def zMet (l : Launch) (D : zD) (B : Nat) (y : MethodName) (cc : ByteArray) (nL : Nat) (ret : Option FieldType) (fr lo mc ms : Nat) (av : List Value) (L : zL) (nx : Nat) (G : zG) (post : zQ) : Prop :=
  Met l y (zws y cc nL ret) (zrm fr lo mc ms) (fun v U => v = av.toArray ∧ zW D B L nx G U.heap ∧ va_K D.1 vwCl (ztys D) U ∧ zNw U) (fun _ st o t => zQc D B post st o t) mc ms (fun q => B ≤ q)
/-- the outcome said in full -/
def zE (v : Option Value) (L : zL) (nx : Nat) (G : zG) : zQ := fun v' L' nx' G' => v' = v ∧ L' = L ∧ nx' = nx ∧ G' = G
def zen : List Value → List (Option Value)
  | [] => []
  | v :: vs => if v.category = 2 then some v :: none :: zen vs else some v :: zen vs
theorem zen_args : ∀ (vs : List Value) (s i : Nat) (v : Value), (zen vs)[i]? = some (some v) → (s + i, v) ∈ lv_args s vs
  | [], s, i, v, h => by simp [zen] at h
  | w :: vs, s, i, v, h => by
    unfold zen at h
    unfold lv_args
    by_cases hc : w.category = 2
    · rw [if_pos hc] at h ⊢
      match i, h with
      | 0, h => simp at h; subst h; exact List.mem_cons_self
      | 1, h => simp at h
      | j + 2, h =>
        have h1 : (zen vs)[j]? = some (some v) := by simpa using h
        have h2 := zen_args vs (s + 2) j v h1
        rw [show s + (j + 2) = s + 2 + j by omega]
        exact List.mem_cons_of_mem _ h2
    · rw [if_neg hc] at h ⊢
      match i, h with
      | 0, h => simp at h; subst h; exact List.mem_cons_self
      | j + 1, h =>
        have h1 : (zen vs)[j]? = some (some v) := by simpa using h
        have h2 := zen_args vs (s + 1) j v h1
        rw [show s + (j + 1) = s + 1 + j by omega]
        exact List.mem_cons_of_mem _ h2
theorem zen_len : ∀ vs : List Value, (zen vs).length = (lg_sl vs).length
  | [] => rfl
  | w :: vs => by
    have ih := zen_len vs
    unfold zen lg_sl
    by_cases hc : w.category = 2
    · rw [if_pos hc]
      simp only [List.length_cons, List.flatMap_cons, if_pos hc, List.length_append, List.length_nil]
      rw [ih]
      show _ = 0 + 1 + 1 + (lg_sl vs).length
      omega
    · rw [if_neg hc]
      simp only [List.length_cons, List.flatMap_cons, if_neg hc, List.length_append, List.length_nil]
      rw [ih]
      show _ = 0 + 1 + (lg_sl vs).length
      omega
theorem zMet_of {l : Launch} {D : zD} {B : Nat} {y : MethodName} {own mn : String} {cc : ByteArray} {nL : Nat} {ret : Option FieldType} {fr lo mc ms : Nat} {av : List Value} {L : zL} {nx : Nat} {G : zG} {post : zQ} (lv0 : List (Option Value))
    (hy : plainName y.cls = true) (hown : y.cls = own) (hmn : y.name = mn) (hlv : zen av ++ List.replicate (nL - (zen av).length) none = lv0) (hlen : (zen av).length ≤ nL)
    (body : zV l (fun _ => True) D B own mn cc nL ret (zrm fr lo mc ms) (fun v L' nx' G' k n => post v L' nx' G' ∧ k ≤ mc ∧ n ≤ ms) 0 0 L nx 0 lv0 [] G) : zMet l D B y cc nL ret fr lo mc ms av L nx G post := by
  refine Met.ofW (cc := cc) (maxL := nL) (ret := ret) hy rfl ?_
  intro p e s m args below meth c s₁ Bo hml hv
  obtain ⟨rfl, hW, hK, hN⟩ := hv
  have hts := atoms_spec (ws := zws y cc nL ret) Bo.pre
  have hr := Bo.returns
  have hlocks := Bo.notSynchronized
  have hown' : s.vm.findClass own = some m.cls := by rw [← hown]; exact findClass_of_methodNamed Bo.named
  have hname : meth.name = mn := by rw [← hmn]; exact (name_of_methodNamed Bo.named Bo.method).1
  have hl0 := lv_entry av (n := nL) (by rw [← zen_len]; exact hlen)
  rw [lg_entry_eq]
  have hl : zlv ((lg_sl av ++ List.replicate (nL - (lg_sl av).length) Slot.unset).toArray) nL lv0 := by
    refine ⟨by rw [← hlv]; simp; omega, hl0.1, hl0.2.1, fun i v h => ?_⟩
    rw [← hlv] at h
    by_cases hi : i < (zen av).length
    · rw [List.getElem?_append_left hi] at h
      have := zen_args av 0 i v h
      rw [Nat.zero_add] at this
      exact hl0.2.2 (i, v) this
    · rw [List.getElem?_append_right (by omega), List.getElem?_replicate] at h
      split at h <;> cases h
  have hX : zX (fun _ => True) D own mn cc nL p s m av.toArray meth c := ⟨Bo.exec, Bo.bytes, hml, hown', fun w hw => hts w (List.mem_cons_of_mem _ hw), hK, hname, hN, trivial⟩
  refine body p e s m av.toArray below meth c s.heap [] _ _ hX ?_ hl hW va_S.rf
  intro H' locs' ls' pc' v L' nx' G' k' n' hret hW' hS' hpost
  refine W.widen hpost.2.1 hpost.2.2 ?_
  have hfin : ∀ t : State, t.heap = H' → s.WarmedH t.vm → zQc D B post s (.returned v) t := fun t ht hw => ⟨⟨v, L', nx', G', rfl, by rw [ht]; exact hW', hpost.1⟩, hS'.F ht⟩
  rcases hret with ⟨x, ty, rfl, e1, e2, e3⟩ | ⟨rfl, e1, e3⟩ | ⟨w, C, rfl, e1, e2, e3⟩
  · exact W.zret Bo.exec Bo.bytes (hr.trans e1) e2 hfin hS'.2.2 e3 hlocks
  · exact W.vret Bo.exec Bo.bytes (hr.trans e1) hfin hS'.2.2 e3 hlocks
  · exact W.aret Bo.exec Bo.bytes (hr.trans e1) (Or.inl ⟨C, rfl⟩) e2 hfin hS'.2.2 e3 hlocks
section ZCALL
variable {l : Launch} {X0 : State → Prop} {D : zD} {B : Nat} {own mn : String} {cc : ByteArray} {nL : Nat} {ret : Option FieldType} {R : Room} {post : zP} {k n : Nat} {L : zL} {nx : Nat} {pc : Nat} {lv : List (Option Value)} {st : List Value} {G : zG}
theorem zrun {p : Program} {e : Env} {s : State} {m : MethodId} {args : Array Value} {below : List Frame} {meth : Method} {c : Code} {H : Heap} {locs : List Loc} {cells slots mc ms : Nat} {Q : State → Prop} {ls : Array Slot} {st0 rest : List Value} {qq : zQ}
    (hr : va_Run p l e R s m args below meth c H locs cells slots mc ms (F0 m pc ls st0) rest (fun st o t => zQc D B qq st o t) (fun q => B ≤ q)) (hS : va_S (fun q => B ≤ q) s.heap H locs)
    (kk : ∀ (v : Option Value) (L' : zL) (nx' : Nat) (G' : zG) (H1 : Heap) (locs1 : List Loc), zW D B L' nx' G' H1 → qq v L' nx' G' → va_S (fun q => B ≤ q) s.heap H1 locs1 → W p l e R s m args below meth c H1 locs1 (cells + mc) (slots + ms) Q (F0 m (pc + 3) ls (v.toList ++ rest))) :
    W p l e R s m args below meth c H locs cells slots Q (F0 m pc ls st0) := by
  intro T hT X
  obtain ⟨v, st₀, t, T', Lc, h0, X', hL, e1, e2, ⟨⟨v', L', nx', G', hv, hW', hq⟩, hz, hk⟩, step⟩ := hr T hT X
  cases hv
  rw [h0] at hz hk
  obtain ⟨t2, a1, b1⟩ := kk v L' nx' G' T'.heap (locs ++ Lc) (by rw [e1]; exact hW') hq
    ⟨Nat.le_trans hS.1 (by rw [e1]; exact hz), fun q h1 h2 => by rw [e1, hk q (Nat.lt_of_lt_of_le h1 hS.1) h2]; exact hS.2.1 q h1 h2, fun q hq => by
      rcases List.mem_append.mp hq with h | h
      · exact hS.2.2 q h
      · exact hL q h⟩ T' rfl X'
  exact ⟨t2, step t2 a1, b1⟩
/-- the words of a call: link, code, class -/
def zML (own : String) (ix : Nat) (y : MethodName) (cc' : ByteArray) (nL' : Nat) (ret' : Option FieldType) (np : Nat) : Prop :=
  Cond.methodLink own ix y ∈ zgw ∧ Cond.code y cc' nL' ret' ∈ zgw ∧ Cond.initialized y.cls ∈ zgw ∧ y.cls ≠ "java/lang/invoke/MethodHandle" ∧ y.cls ≠ "java/lang/invoke/VarHandle" ∧ (parseMethodDescriptor y.desc).map (fun d => d.parameters.length) = some np
def zMLN (own : String) (ix : Nat) (y : MethodName) (cc' : ByteArray) (nL' : Nat) (ret' : Option FieldType) (np : Nat) : Prop :=
  (∃ host : String, Cond.methodLinkNest own ix y host ∈ zbw) ∧ Cond.code y cc' nL' ret' ∈ zgw ∧ Cond.initialized y.cls ∈ zgw ∧ y.cls ≠ "java/lang/invoke/MethodHandle" ∧ y.cls ≠ "java/lang/invoke/VarHandle" ∧ (parseMethodDescriptor y.desc).map (fun d => d.parameters.length) = some np
theorem zgood_ws {y : MethodName} {cc' : ByteArray} {nL' : Nat} {ret' : Option FieldType} (h : Cond.code y cc' nL' ret' ∈ zgw) : GoodIn zgw (zws y cc' nL' ret') := by
  intro w hw
  have hw' : w ∈ zgw := by
    rcases List.mem_cons.mp hw with rfl | hw
    · exact h
    · exact hw
  exact ⟨hw', good_of_word (zgw_good hw')⟩
theorem zNw_same {u U : State} (hv : u.vm = U.vm) (h : zNw u) : zNw U := by
  intro w hw
  have hk := (List.mem_filter.mp hw).2
  have h1 := h w hw
  cases w <;> simp only [zkind, Bool.false_eq_true] at hk
  case methodLinkNest => exact va_Nw.same rfl hv h1
  case fieldLinkNest => exact va_Nw.same rfl hv h1
  case arrayOver ty =>
    cases ty <;> simp only [zkind, Bool.false_eq_true] at hk
    exact va_AO.moved (by rw [hv]; exact Vm.Alike.refl U.vm) h1
theorem zblind {D : zD} {B : Nat} {av : List Value} {L : zL} {nx : Nat} {G : zG} : FrameBlind (fun v U => v = av.toArray ∧ zW D B L nx G U.heap ∧ va_K D.1 vwCl (ztys D) U ∧ zNw U) := by
  intro a U g mk h
  exact ⟨h.1, h.2.1, va_K.moved (u := U) (U := U.calling g mk a) (Vm.Alike.refl U.vm) h.2.2.1, zNw_same (u := U) (U := U.calling g mk a) rfl h.2.2.2⟩
theorem zv_callS {y : MethodName} {cc' : ByteArray} {nL' np : Nat} {ret' : Option FieldType} {fr lo mc ms ix : Nat} {As : List Value} {qq : zQ} (hM : zMet l D B y cc' nL' ret' fr lo mc ms As L nx G qq) (hl0 : zML own ix y cc' nL' ret' np) (hst : Cond.static y ∈ zgw) (hnp : As.length = np)
    {stk : List Value} (hstk : stk = As.reverse ++ st) (hcat : (st.map fun v => v.category).sum ≤ 8) (hd : decode cc pc = .ok (.invokestatic ix, 3)) (hR : fr + 1 ≤ R.frames ∧ 8 + (nL' + 11) + lo ≤ R.locals) (hcs : k + mc ≤ R.cells ∧ n + ms ≤ R.slots)
    (kk : ∀ (v : Option Value) (L' : zL) (nx' : Nat) (G' : zG), qq v L' nx' G' → zV l X0 D B own mn cc nL ret R post (k + mc) (n + ms) L' nx' (pc + 3) lv (v.toList ++ st) G') : zV l X0 D B own mn cc nL ret R post k n L nx pc lv stk G := by
  intro p e s m args below meth c H locs ls Q hX hR0 hl hW hS
  have ok : ∀ w ∈ zgw, w.before args s = true := hX.2.2.2.2.1
  refine zrun (mc := mc) (ms := ms) (rest := st) (va_runS (As := As) ⟨hX.1, hX.2.1, hX.2.2.1, hX.2.2.2.1, ok⟩ hM ⟨callB_of np ok (zgood_ws hl0.2.1) rfl rfl rfl (ok _ hl0.2.2.1) (ok _ hl0.1) ⟨hl0.2.2.2.1, hl0.2.2.2.2.1, hl0.2.2.2.2.2⟩ hR, ok _ hst⟩ ⟨zblind, fun U hU hWm => ⟨rfl, by rw [hU]; exact hW, va_K.moved hWm.alike hX.2.2.2.2.2.1, zNw_warm hWm hX.2.2.2.2.2.2.2.1⟩⟩ rfl hnp hl.2.1 hstk (lv_room hcat) hd hcs) hS ?_
  intro v L' nx' G' H1 locs1 hW1 hq hS1
  exact kk v L' nx' G' hq p e s m args below meth c H1 locs1 ls Q hX hR0 hl hW1 hS1
theorem zv_callSN {y : MethodName} {cc' : ByteArray} {nL' np : Nat} {ret' : Option FieldType} {fr lo mc ms ix : Nat} {As : List Value} {qq : zQ} (hM : zMet l D B y cc' nL' ret' fr lo mc ms As L nx G qq) (hl0 : zMLN own ix y cc' nL' ret' np) (hst : Cond.static y ∈ zgw) (hnp : As.length = np)
    {stk : List Value} (hstk : stk = As.reverse ++ st) (hcat : (st.map fun v => v.category).sum ≤ 8) (hd : decode cc pc = .ok (.invokestatic ix, 3)) (hR : fr + 1 ≤ R.frames ∧ 8 + (nL' + 11) + lo ≤ R.locals) (hcs : k + mc ≤ R.cells ∧ n + ms ≤ R.slots)
    (kk : ∀ (v : Option Value) (L' : zL) (nx' : Nat) (G' : zG), qq v L' nx' G' → zV l X0 D B own mn cc nL ret R post (k + mc) (n + ms) L' nx' (pc + 3) lv (v.toList ++ st) G') : zV l X0 D B own mn cc nL ret R post k n L nx pc lv stk G := by
  intro p e s m args below meth c H locs ls Q hX hR0 hl hW hS
  have ok : ∀ w ∈ zgw, w.before args s = true := hX.2.2.2.2.1
  obtain ⟨⟨host, hh⟩, g1, g2, g3⟩ := hl0
  refine zrun (mc := mc) (ms := ms) (rest := st) (va_runSN (As := As) ⟨hX.1, hX.2.1, hX.2.2.1, hX.2.2.2.1, ok⟩ hM ⟨va_cnB np ok (zgood_ws g1) rfl rfl rfl (hX.2.2.2.2.2.2.2.1 _ hh) (ok _ g2) g3 hR, ok _ hst, trivial⟩ ⟨zblind, fun U hU hWm => ⟨rfl, by rw [hU]; exact hW, va_K.moved hWm.alike hX.2.2.2.2.2.1, zNw_warm hWm hX.2.2.2.2.2.2.2.1⟩⟩ rfl hnp hl.2.1 hstk (lv_room hcat) hd hcs) hS ?_
  intro v L' nx' G' H1 locs1 hW1 hq hS1
  exact kk v L' nx' G' hq p e s m args below meth c H1 locs1 ls Q hX hR0 hl hW1 hS1
theorem zrecv {p : Program} {s : State} {m : MethodId} {args : Array Value} {meth : Method} {c : Code} {H : Heap} {b t ci N : Nat} {fks : List Nat} {C : String} {T : u_T} (hX : zX X0 D own mn cc nL p s m args meth c) (hW : zW D B L nx G H) (hb : (b, t) ∈ L) (ho : (zbT t)[0]? = some (0, .inl (ci, fks))) (hci : vwCl[ci]? = some (C, T, N)) :
    ∃ cell : Cell, H[b]? = some cell ∧ cell.vm.isStatics = false ∧ s.vm.findClass C = some cell.cls := by
  obtain ⟨k0, hk0⟩ := zpl_at hb ho
  exact va_recv hX.2.2.2.2.2.1 hW.2.1 hci (zcs_at (D := D) (G := G) hk0)
theorem zv_callV {y : MethodName} {cc' : ByteArray} {nL' np : Nat} {ret' : Option FieldType} {fr lo mc ms ix b t ci N : Nat} {fks : List Nat} {T : u_T} {As : List Value} {qq : zQ} (hM : zMet l D B y cc' nL' ret' fr lo mc ms (.ref b :: As) L nx G qq) (hl0 : zML own ix y cc' nL' ret' np) (hin : Cond.instanceMethod y ∈ zgw) (hsel : Cond.selects y.cls y y ∈ zgw) (hb : (b, t) ∈ L) (ho : (zbT t)[0]? = some (0, .inl (ci, fks))) (hci : vwCl[ci]? = some (y.cls, T, N)) (hnp : As.length = np)
    {stk : List Value} (hstk : stk = As.reverse ++ .ref b :: st) (hcat : (st.map fun v => v.category).sum ≤ 8) (hd : decode cc pc = .ok (.invokevirtual ix, 3)) (hR : fr + 1 ≤ R.frames ∧ 8 + (nL' + 11) + lo ≤ R.locals) (hcs : k + mc ≤ R.cells ∧ n + ms ≤ R.slots)
    (kk : ∀ (v : Option Value) (L' : zL) (nx' : Nat) (G' : zG), qq v L' nx' G' → zV l X0 D B own mn cc nL ret R post (k + mc) (n + ms) L' nx' (pc + 3) lv (v.toList ++ st) G') : zV l X0 D B own mn cc nL ret R post k n L nx pc lv stk G := by
  intro p e s m args below meth c H locs ls Q hX hR0 hl hW hS
  have ok : ∀ w ∈ zgw, w.before args s = true := hX.2.2.2.2.1
  refine zrun (mc := mc) (ms := ms) (rest := st) (va_runV (As := As) (C := y.cls) ⟨hX.1, hX.2.1, hX.2.2.1, hX.2.2.2.1, ok⟩ hM ⟨callB_of np ok (zgood_ws hl0.2.1) rfl rfl rfl (ok _ hl0.2.2.1) (ok _ hl0.1) ⟨hl0.2.2.2.1, hl0.2.2.2.2.1, hl0.2.2.2.2.2⟩ hR, ok _ hin, ok _ hsel⟩ ⟨zblind, zrecv hX hW hb ho hci, fun U hU hWm => ⟨rfl, by rw [hU]; exact hW, va_K.moved hWm.alike hX.2.2.2.2.2.1, zNw_warm hWm hX.2.2.2.2.2.2.2.1⟩⟩ rfl hnp hl.2.1 hstk (lv_room hcat) hd hcs) hS ?_
  intro v L' nx' G' H1 locs1 hW1 hq hS1
  exact kk v L' nx' G' hq p e s m args below meth c H1 locs1 ls Q hX hR0 hl hW1 hS1
theorem zv_callI {y : MethodName} {cc' : ByteArray} {nL' np : Nat} {fr lo mc ms ix b : Nat} {As : List Value} {qq : zQ} (hM : zMet l D B y cc' nL' none fr lo mc ms (.ref b :: As) L nx G qq) (hl0 : zML own ix y cc' nL' none np) (hin : Cond.instanceMethod y ∈ zgw) (hy : y.name = "<init>") (hnp : As.length = np)
    {stk : List Value} (hstk : stk = As.reverse ++ .ref b :: st) (hcat : (st.map fun v => v.category).sum ≤ 8) (hd : decode cc pc = .ok (.invokespecial ix, 3)) (hR : fr + 1 ≤ R.frames ∧ 8 + (nL' + 11) + lo ≤ R.locals) (hcs : k + mc ≤ R.cells ∧ n + ms ≤ R.slots)
    (kk : ∀ (v : Option Value) (L' : zL) (nx' : Nat) (G' : zG), qq v L' nx' G' → zV l X0 D B own mn cc nL ret R post (k + mc) (n + ms) L' nx' (pc + 3) lv (v.toList ++ st) G') : zV l X0 D B own mn cc nL ret R post k n L nx pc lv stk G := by
  intro p e s m args below meth c H locs ls Q hX hR0 hl hW hS
  have ok : ∀ w ∈ zgw, w.before args s = true := hX.2.2.2.2.1
  refine zrun (mc := mc) (ms := ms) (rest := st) (va_runI (As := As) ⟨hX.1, hX.2.1, hX.2.2.1, hX.2.2.2.1, ok⟩ hM ⟨callB_of np ok (zgood_ws hl0.2.1) rfl rfl rfl (ok _ hl0.2.2.1) (ok _ hl0.1) ⟨hl0.2.2.2.1, hl0.2.2.2.2.1, hl0.2.2.2.2.2⟩ hR, hy, ok _ hin⟩ ⟨zblind, fun U hU hWm => ⟨rfl, by rw [hU]; exact hW, va_K.moved hWm.alike hX.2.2.2.2.2.1, zNw_warm hWm hX.2.2.2.2.2.2.2.1⟩⟩ rfl hnp hl.2.1 hstk (lv_room hcat) hd hcs) hS ?_
  intro v L' nx' G' H1 locs1 hW1 hq hS1
  exact kk v L' nx' G' hq p e s m args below meth c H1 locs1 ls Q hX hR0 hl hW1 hS1
theorem zv_callIN {y : MethodName} {cc' : ByteArray} {nL' np : Nat} {fr lo mc ms ix b : Nat} {As : List Value} {qq : zQ} (hM : zMet l D B y cc' nL' none fr lo mc ms (.ref b :: As) L nx G qq) (hl0 : zMLN own ix y cc' nL' none np) (hin : Cond.instanceMethod y ∈ zgw) (hy : y.name = "<init>") (hnp : As.length = np)
    {stk : List Value} (hstk : stk = As.reverse ++ .ref b :: st) (hcat : (st.map fun v => v.category).sum ≤ 8) (hd : decode cc pc = .ok (.invokespecial ix, 3)) (hR : fr + 1 ≤ R.frames ∧ 8 + (nL' + 11) + lo ≤ R.locals) (hcs : k + mc ≤ R.cells ∧ n + ms ≤ R.slots)
    (kk : ∀ (v : Option Value) (L' : zL) (nx' : Nat) (G' : zG), qq v L' nx' G' → zV l X0 D B own mn cc nL ret R post (k + mc) (n + ms) L' nx' (pc + 3) lv (v.toList ++ st) G') : zV l X0 D B own mn cc nL ret R post k n L nx pc lv stk G := by
  intro p e s m args below meth c H locs ls Q hX hR0 hl hW hS
  have ok : ∀ w ∈ zgw, w.before args s = true := hX.2.2.2.2.1
  obtain ⟨⟨host, hh⟩, g1, g2, g3⟩ := hl0
  refine zrun (mc := mc) (ms := ms) (rest := st) (va_runIN (As := As) ⟨hX.1, hX.2.1, hX.2.2.1, hX.2.2.2.1, ok⟩ hM ⟨va_cnB np ok (zgood_ws g1) rfl rfl rfl (hX.2.2.2.2.2.2.2.1 _ hh) (ok _ g2) g3 hR, hy, ok _ hin⟩ ⟨zblind, fun U hU hWm => ⟨rfl, by rw [hU]; exact hW, va_K.moved hWm.alike hX.2.2.2.2.2.1, zNw_warm hWm hX.2.2.2.2.2.2.2.1⟩⟩ rfl hnp hl.2.1 hstk (lv_room hcat) hd hcs) hS ?_
  intro v L' nx' G' H1 locs1 hW1 hq hS1
  exact kk v L' nx' G' hq p e s m args below meth c H1 locs1 ls Q hX hR0 hl hW1 hS1
theorem zk_i {r : Int32} {G1 : zG} (kk : zV l X0 D B own mn cc nL ret R post k n L nx (pc + 3) lv (.int r :: st) G1) : ∀ (v : Option Value) (L' : zL) (nx' : Nat) (G' : zG), zE (some (.int r)) L nx G1 v L' nx' G' → zV l X0 D B own mn cc nL ret R post (k + 0) (n + 0) L' nx' (pc + 3) lv (v.toList ++ st) G' := by
  rintro _ _ _ _ ⟨rfl, rfl, rfl, rfl⟩
  exact kk
theorem zk_r {r : Nat} {G1 : zG} (kk : zV l X0 D B own mn cc nL ret R post k n L nx (pc + 3) lv (.ref r :: st) G1) : ∀ (v : Option Value) (L' : zL) (nx' : Nat) (G' : zG), zE (some (.ref r)) L nx G1 v L' nx' G' → zV l X0 D B own mn cc nL ret R post (k + 0) (n + 0) L' nx' (pc + 3) lv (v.toList ++ st) G' := by
  rintro _ _ _ _ ⟨rfl, rfl, rfl, rfl⟩
  exact kk
theorem zk_w {r : Value} {G1 : zG} (kk : zV l X0 D B own mn cc nL ret R post k n L nx (pc + 3) lv (r :: st) G1) : ∀ (v : Option Value) (L' : zL) (nx' : Nat) (G' : zG), zE (some r) L nx G1 v L' nx' G' → zV l X0 D B own mn cc nL ret R post (k + 0) (n + 0) L' nx' (pc + 3) lv (v.toList ++ st) G' := by
  rintro _ _ _ _ ⟨rfl, rfl, rfl, rfl⟩
  exact kk
theorem zk_v {G1 : zG} (kk : zV l X0 D B own mn cc nL ret R post k n L nx (pc + 3) lv st G1) : ∀ (v : Option Value) (L' : zL) (nx' : Nat) (G' : zG), zE none L nx G1 v L' nx' G' → zV l X0 D B own mn cc nL ret R post (k + 0) (n + 0) L' nx' (pc + 3) lv (v.toList ++ st) G' := by
  rintro _ _ _ _ ⟨rfl, rfl, rfl, rfl⟩
  exact kk
theorem zv_iret {x : Int32} {ty : FieldType} (hd : decode cc pc = .ok (.ireturn, 1)) (hr : ret = some ty) (hn : narrow ty (.int x) = .int x) (hp : post (some (.int x)) L nx G k n) : zV l X0 D B own mn cc nL ret R post k n L nx pc lv [.int x] G :=
  fun p e s m args below meth c H locs ls Q hX hR hl hW hS => hR H locs ls pc (some (.int x)) L nx G k n (Or.inl ⟨x, ty, rfl, hr, hn, hd⟩) hW hS hp
theorem zv_vret (hd : decode cc pc = .ok (.return_, 1)) (hr : ret = none) (hp : post none L nx G k n) : zV l X0 D B own mn cc nL ret R post k n L nx pc lv [] G :=
  fun p e s m args below meth c H locs ls Q hX hR hl hW hS => hR H locs ls pc none L nx G k n (Or.inr (Or.inl ⟨rfl, hr, hd⟩)) hW hS hp
theorem zv_aret {w : Value} {C : String} (hd : decode cc pc = .ok (.areturn, 1)) (hr : ret = some (.object C)) (hw : w = .null ∨ ∃ a, w = .ref a) (hp : post (some w) L nx G k n) : zV l X0 D B own mn cc nL ret R post k n L nx pc lv [w] G :=
  fun p e s m args below meth c H locs ls Q hX hR hl hW hS => hR H locs ls pc (some w) L nx G k n (Or.inr (Or.inr ⟨w, C, rfl, hr, hw, hd⟩)) hW hS hp
/-- the end of a method that makes nothing -/
abbrev zN (q : zQ) : zP := fun v L' nx' G' k n => q v L' nx' G' ∧ k ≤ 0 ∧ n ≤ 0
theorem zN_E {v : Option Value} {G1 : zG} (h : G = G1) : zN (zE v L nx G1) v L nx G 0 0 := ⟨⟨rfl, rfl, rfl, h⟩, Nat.le_refl _, Nat.le_refl _⟩
theorem zv_iinc1 {i : Nat} {x : Int32} (hd : decode cc pc = .ok (.iinc i 1, 3)) (hv : lv[i]? = some (some (.int x))) (hi : i < nL) (hn : zn2 lv i = true) (kk : zV l X0 D B own mn cc nL ret R post k n L nx (pc + 3) (lv.set i (some (.int (x + 1)))) st G) : zV l X0 D B own mn cc nL ret R post k n L nx pc lv st G := zv_iinc hd hv rfl hi hn kk
theorem zv_iincm {i : Nat} {x : Int32} (hd : decode cc pc = .ok (.iinc i (-1), 3)) (hv : lv[i]? = some (some (.int x))) (hi : i < nL) (hn : zn2 lv i = true) (kk : zV l X0 D B own mn cc nL ret R post k n L nx (pc + 3) (lv.set i (some (.int (x - 1)))) st G) : zV l X0 D B own mn cc nL ret R post k n L nx pc lv st G := zv_iinc hd hv (by show x + (-1) = x - 1; rw [Int32.sub_eq_add_neg]) hi hn kk
end ZCALL
end
