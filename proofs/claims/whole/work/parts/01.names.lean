-- ===== PART A: goes FIRST, ahead of the names: the tables' words, and 'selects' of the private methods out of them =====
/-- a private method of a class that the tables say can be made, by its rows of tables_1 -/
def lw_okq (q : MethodName × Nat) : Prop := (q.1.cls ≠ "java/lang/invoke/MethodHandle" ∧ q.1.cls ≠ "java/lang/invoke/VarHandle") ∧ Cond.instantiable q.1.cls q.2 ∈ tables_1 ∧ Cond.privateMethod q.1 ∈ tables_1 ∧ Cond.instanceMethod q.1 ∈ tables_1
theorem lw_p0 : lw_okq (⟨"BookDroplets$History", "placeBehindLast", "()I"⟩, 3) := ⟨⟨by decide +kernel, by decide +kernel⟩, List.mem_of_getElem? (i := 102) (by decide +kernel), List.mem_of_getElem? (i := 229) (by decide +kernel), List.mem_of_getElem? (i := 230) (by decide +kernel)⟩
theorem lw_p1 : lw_okq (⟨"BookDroplets", "changeSetting", "(II)I"⟩, 7) := ⟨⟨by decide +kernel, by decide +kernel⟩, List.mem_of_getElem? (i := 13) (by decide +kernel), List.mem_of_getElem? (i := 248) (by decide +kernel), List.mem_of_getElem? (i := 249) (by decide +kernel)⟩
theorem lw_p2 : lw_okq (⟨"BookDroplets", "addChapter", "(I)I"⟩, 7) := ⟨⟨by decide +kernel, by decide +kernel⟩, List.mem_of_getElem? (i := 13) (by decide +kernel), List.mem_of_getElem? (i := 263) (by decide +kernel), List.mem_of_getElem? (i := 264) (by decide +kernel)⟩
theorem lw_p3 : lw_okq (⟨"BookDroplets", "addCup", "()I"⟩, 7) := ⟨⟨by decide +kernel, by decide +kernel⟩, List.mem_of_getElem? (i := 13) (by decide +kernel), List.mem_of_getElem? (i := 272) (by decide +kernel), List.mem_of_getElem? (i := 273) (by decide +kernel)⟩
theorem lw_p4 : lw_okq (⟨"BookDroplets", "emptyCup", "(I)I"⟩, 7) := ⟨⟨by decide +kernel, by decide +kernel⟩, List.mem_of_getElem? (i := 13) (by decide +kernel), List.mem_of_getElem? (i := 280) (by decide +kernel), List.mem_of_getElem? (i := 281) (by decide +kernel)⟩
theorem lw_p5 : lw_okq (⟨"BookDroplets", "pourDroplets", "(III)I"⟩, 7) := ⟨⟨by decide +kernel, by decide +kernel⟩, List.mem_of_getElem? (i := 13) (by decide +kernel), List.mem_of_getElem? (i := 306) (by decide +kernel), List.mem_of_getElem? (i := 307) (by decide +kernel)⟩
theorem lw_p6 : lw_okq (⟨"BookDroplets", "errorOfDroplets", "(II)I"⟩, 7) := ⟨⟨by decide +kernel, by decide +kernel⟩, List.mem_of_getElem? (i := 13) (by decide +kernel), List.mem_of_getElem? (i := 310) (by decide +kernel), List.mem_of_getElem? (i := 311) (by decide +kernel)⟩
theorem lw_p7 : lw_okq (⟨"BookDroplets$Droplet", "addFrom", "(LBookDroplets$State;I)V"⟩, 4) := ⟨⟨by decide +kernel, by decide +kernel⟩, List.mem_of_getElem? (i := 156) (by decide +kernel), List.mem_of_getElem? (i := 334) (by decide +kernel), List.mem_of_getElem? (i := 335) (by decide +kernel)⟩
theorem lw_p8 : lw_okq (⟨"BookDroplets$Cup", "learn", "(II)V"⟩, 8) := ⟨⟨by decide +kernel, by decide +kernel⟩, List.mem_of_getElem? (i := 28) (by decide +kernel), List.mem_of_getElem? (i := 344) (by decide +kernel), List.mem_of_getElem? (i := 345) (by decide +kernel)⟩
theorem lw_p9 : lw_okq (⟨"BookDroplets$Cup", "peel", "()V"⟩, 8) := ⟨⟨by decide +kernel, by decide +kernel⟩, List.mem_of_getElem? (i := 28) (by decide +kernel), List.mem_of_getElem? (i := 348) (by decide +kernel), List.mem_of_getElem? (i := 349) (by decide +kernel)⟩
theorem lw_p10 : lw_okq (⟨"BookDroplets$Cup", "firstPeelable", "()I"⟩, 8) := ⟨⟨by decide +kernel, by decide +kernel⟩, List.mem_of_getElem? (i := 28) (by decide +kernel), List.mem_of_getElem? (i := 352) (by decide +kernel), List.mem_of_getElem? (i := 353) (by decide +kernel)⟩
theorem lw_p11 : lw_okq (⟨"BookDroplets$Cup", "removeKept", "(I)V"⟩, 8) := ⟨⟨by decide +kernel, by decide +kernel⟩, List.mem_of_getElem? (i := 28) (by decide +kernel), List.mem_of_getElem? (i := 357) (by decide +kernel), List.mem_of_getElem? (i := 358) (by decide +kernel)⟩
theorem lw_p12 : lw_okq (⟨"BookDroplets$Cup", "keepIfRoom", "(II)Z"⟩, 8) := ⟨⟨by decide +kernel, by decide +kernel⟩, List.mem_of_getElem? (i := 28) (by decide +kernel), List.mem_of_getElem? (i := 361) (by decide +kernel), List.mem_of_getElem? (i := 362) (by decide +kernel)⟩
theorem lw_p13 : lw_okq (⟨"BookDroplets", "solveCup", "(I)I"⟩, 7) := ⟨⟨by decide +kernel, by decide +kernel⟩, List.mem_of_getElem? (i := 13) (by decide +kernel), List.mem_of_getElem? (i := 369) (by decide +kernel), List.mem_of_getElem? (i := 370) (by decide +kernel)⟩
theorem lw_p14 : lw_okq (⟨"BookDroplets", "isFull", "(LBookDroplets$Cup;)Z"⟩, 7) := ⟨⟨by decide +kernel, by decide +kernel⟩, List.mem_of_getElem? (i := 13) (by decide +kernel), List.mem_of_getElem? (i := 395) (by decide +kernel), List.mem_of_getElem? (i := 396) (by decide +kernel)⟩
theorem lw_p15 : lw_okq (⟨"BookDroplets", "fullCups", "()I"⟩, 7) := ⟨⟨by decide +kernel, by decide +kernel⟩, List.mem_of_getElem? (i := 13) (by decide +kernel), List.mem_of_getElem? (i := 420) (by decide +kernel), List.mem_of_getElem? (i := 421) (by decide +kernel)⟩
def lw_privs_1 : List (MethodName × Nat) := [(⟨"BookDroplets$History", "placeBehindLast", "()I"⟩, 3), (⟨"BookDroplets", "changeSetting", "(II)I"⟩, 7), (⟨"BookDroplets", "addChapter", "(I)I"⟩, 7), (⟨"BookDroplets", "addCup", "()I"⟩, 7), (⟨"BookDroplets", "emptyCup", "(I)I"⟩, 7), (⟨"BookDroplets", "pourDroplets", "(III)I"⟩, 7), (⟨"BookDroplets", "errorOfDroplets", "(II)I"⟩, 7), (⟨"BookDroplets$Droplet", "addFrom", "(LBookDroplets$State;I)V"⟩, 4), (⟨"BookDroplets$Cup", "learn", "(II)V"⟩, 8), (⟨"BookDroplets$Cup", "peel", "()V"⟩, 8), (⟨"BookDroplets$Cup", "firstPeelable", "()I"⟩, 8), (⟨"BookDroplets$Cup", "removeKept", "(I)V"⟩, 8), (⟨"BookDroplets$Cup", "keepIfRoom", "(II)Z"⟩, 8), (⟨"BookDroplets", "solveCup", "(I)I"⟩, 7), (⟨"BookDroplets", "isFull", "(LBookDroplets$Cup;)Z"⟩, 7), (⟨"BookDroplets", "fullCups", "()I"⟩, 7)]
theorem lw_r1 : ∀ q ∈ lw_privs_1, lw_okq q := List.forall_mem_cons.mpr ⟨lw_p0, List.forall_mem_cons.mpr ⟨lw_p1, List.forall_mem_cons.mpr ⟨lw_p2, List.forall_mem_cons.mpr ⟨lw_p3, List.forall_mem_cons.mpr ⟨lw_p4, List.forall_mem_cons.mpr ⟨lw_p5, List.forall_mem_cons.mpr ⟨lw_p6, List.forall_mem_cons.mpr ⟨lw_p7, List.forall_mem_cons.mpr ⟨lw_p8, List.forall_mem_cons.mpr ⟨lw_p9, List.forall_mem_cons.mpr ⟨lw_p10, List.forall_mem_cons.mpr ⟨lw_p11, List.forall_mem_cons.mpr ⟨lw_p12, List.forall_mem_cons.mpr ⟨lw_p13, List.forall_mem_cons.mpr ⟨lw_p14, List.forall_mem_cons.mpr ⟨lw_p15, fun _ h => absurd h List.not_mem_nil⟩⟩⟩⟩⟩⟩⟩⟩⟩⟩⟩⟩⟩⟩⟩⟩
theorem lw_p16 : lw_okq (⟨"BookDroplets$Pad", "signHere", "()C"⟩, 7) := ⟨⟨by decide +kernel, by decide +kernel⟩, List.mem_of_getElem? (i := 122) (by decide +kernel), List.mem_of_getElem? (i := 469) (by decide +kernel), List.mem_of_getElem? (i := 470) (by decide +kernel)⟩
theorem lw_p17 : lw_okq (⟨"BookDroplets$Pad", "readNumber", "()Z"⟩, 7) := ⟨⟨by decide +kernel, by decide +kernel⟩, List.mem_of_getElem? (i := 122) (by decide +kernel), List.mem_of_getElem? (i := 473) (by decide +kernel), List.mem_of_getElem? (i := 474) (by decide +kernel)⟩
theorem lw_p18 : lw_okq (⟨"BookDroplets$Pad", "takeNumber", "()I"⟩, 7) := ⟨⟨by decide +kernel, by decide +kernel⟩, List.mem_of_getElem? (i := 122) (by decide +kernel), List.mem_of_getElem? (i := 477) (by decide +kernel), List.mem_of_getElem? (i := 478) (by decide +kernel)⟩
theorem lw_p19 : lw_okq (⟨"BookDroplets$Pad", "digitHere", "()I"⟩, 7) := ⟨⟨by decide +kernel, by decide +kernel⟩, List.mem_of_getElem? (i := 122) (by decide +kernel), List.mem_of_getElem? (i := 481) (by decide +kernel), List.mem_of_getElem? (i := 482) (by decide +kernel)⟩
theorem lw_p20 : lw_okq (⟨"BookDroplets$Pad", "readCup", "()Z"⟩, 7) := ⟨⟨by decide +kernel, by decide +kernel⟩, List.mem_of_getElem? (i := 122) (by decide +kernel), List.mem_of_getElem? (i := 489) (by decide +kernel), List.mem_of_getElem? (i := 490) (by decide +kernel)⟩
theorem lw_p21 : lw_okq (⟨"BookDroplets$Pad", "readMany", "()Z"⟩, 7) := ⟨⟨by decide +kernel, by decide +kernel⟩, List.mem_of_getElem? (i := 122) (by decide +kernel), List.mem_of_getElem? (i := 497) (by decide +kernel), List.mem_of_getElem? (i := 498) (by decide +kernel)⟩
theorem lw_p22 : lw_okq (⟨"BookDroplets", "carryOneOut", "()I"⟩, 7) := ⟨⟨by decide +kernel, by decide +kernel⟩, List.mem_of_getElem? (i := 13) (by decide +kernel), List.mem_of_getElem? (i := 507) (by decide +kernel), List.mem_of_getElem? (i := 508) (by decide +kernel)⟩
theorem lw_p23 : lw_okq (⟨"BookDroplets", "restoreFrom", "(I)I"⟩, 7) := ⟨⟨by decide +kernel, by decide +kernel⟩, List.mem_of_getElem? (i := 13) (by decide +kernel), List.mem_of_getElem? (i := 529) (by decide +kernel), List.mem_of_getElem? (i := 530) (by decide +kernel)⟩
theorem lw_p24 : lw_okq (⟨"BookDropletsModel", "remember", "()V"⟩, 18) := ⟨⟨by decide +kernel, by decide +kernel⟩, List.mem_of_getElem? (i := 533) (by decide +kernel), List.mem_of_getElem? (i := 610) (by decide +kernel), List.mem_of_getElem? (i := 611) (by decide +kernel)⟩
theorem lw_p25 : lw_okq (⟨"BookDropletsModel", "record", "(I)I"⟩, 18) := ⟨⟨by decide +kernel, by decide +kernel⟩, List.mem_of_getElem? (i := 533) (by decide +kernel), List.mem_of_getElem? (i := 614) (by decide +kernel), List.mem_of_getElem? (i := 615) (by decide +kernel)⟩
theorem lw_p26 : lw_okq (⟨"BookDropletsModel", "begins", "(I)I"⟩, 18) := ⟨⟨by decide +kernel, by decide +kernel⟩, List.mem_of_getElem? (i := 533) (by decide +kernel), List.mem_of_getElem? (i := 626) (by decide +kernel), List.mem_of_getElem? (i := 627) (by decide +kernel)⟩
theorem lw_p27 : lw_okq (⟨"BookDropletsModel", "cupComes", "()I"⟩, 18) := ⟨⟨by decide +kernel, by decide +kernel⟩, List.mem_of_getElem? (i := 533) (by decide +kernel), List.mem_of_getElem? (i := 635) (by decide +kernel), List.mem_of_getElem? (i := 636) (by decide +kernel)⟩
theorem lw_p28 : lw_okq (⟨"BookDropletsModel", "isCup", "(I)Z"⟩, 18) := ⟨⟨by decide +kernel, by decide +kernel⟩, List.mem_of_getElem? (i := 533) (by decide +kernel), List.mem_of_getElem? (i := 643) (by decide +kernel), List.mem_of_getElem? (i := 644) (by decide +kernel)⟩
theorem lw_p29 : lw_okq (⟨"BookDropletsModel", "its", "(II)I"⟩, 18) := ⟨⟨by decide +kernel, by decide +kernel⟩, List.mem_of_getElem? (i := 533) (by decide +kernel), List.mem_of_getElem? (i := 647) (by decide +kernel), List.mem_of_getElem? (i := 648) (by decide +kernel)⟩
theorem lw_p30 : lw_okq (⟨"BookDropletsModel", "lay", "(III)V"⟩, 18) := ⟨⟨by decide +kernel, by decide +kernel⟩, List.mem_of_getElem? (i := 533) (by decide +kernel), List.mem_of_getElem? (i := 654) (by decide +kernel), List.mem_of_getElem? (i := 655) (by decide +kernel)⟩
theorem lw_p31 : lw_okq (⟨"BookDropletsModel", "pours", "(III)I"⟩, 18) := ⟨⟨by decide +kernel, by decide +kernel⟩, List.mem_of_getElem? (i := 533) (by decide +kernel), List.mem_of_getElem? (i := 662) (by decide +kernel), List.mem_of_getElem? (i := 663) (by decide +kernel)⟩
def lw_privs_2 : List (MethodName × Nat) := [(⟨"BookDroplets$Pad", "signHere", "()C"⟩, 7), (⟨"BookDroplets$Pad", "readNumber", "()Z"⟩, 7), (⟨"BookDroplets$Pad", "takeNumber", "()I"⟩, 7), (⟨"BookDroplets$Pad", "digitHere", "()I"⟩, 7), (⟨"BookDroplets$Pad", "readCup", "()Z"⟩, 7), (⟨"BookDroplets$Pad", "readMany", "()Z"⟩, 7), (⟨"BookDroplets", "carryOneOut", "()I"⟩, 7), (⟨"BookDroplets", "restoreFrom", "(I)I"⟩, 7), (⟨"BookDropletsModel", "remember", "()V"⟩, 18), (⟨"BookDropletsModel", "record", "(I)I"⟩, 18), (⟨"BookDropletsModel", "begins", "(I)I"⟩, 18), (⟨"BookDropletsModel", "cupComes", "()I"⟩, 18), (⟨"BookDropletsModel", "isCup", "(I)Z"⟩, 18), (⟨"BookDropletsModel", "its", "(II)I"⟩, 18), (⟨"BookDropletsModel", "lay", "(III)V"⟩, 18), (⟨"BookDropletsModel", "pours", "(III)I"⟩, 18)]
theorem lw_r2 : ∀ q ∈ lw_privs_2, lw_okq q := List.forall_mem_cons.mpr ⟨lw_p16, List.forall_mem_cons.mpr ⟨lw_p17, List.forall_mem_cons.mpr ⟨lw_p18, List.forall_mem_cons.mpr ⟨lw_p19, List.forall_mem_cons.mpr ⟨lw_p20, List.forall_mem_cons.mpr ⟨lw_p21, List.forall_mem_cons.mpr ⟨lw_p22, List.forall_mem_cons.mpr ⟨lw_p23, List.forall_mem_cons.mpr ⟨lw_p24, List.forall_mem_cons.mpr ⟨lw_p25, List.forall_mem_cons.mpr ⟨lw_p26, List.forall_mem_cons.mpr ⟨lw_p27, List.forall_mem_cons.mpr ⟨lw_p28, List.forall_mem_cons.mpr ⟨lw_p29, List.forall_mem_cons.mpr ⟨lw_p30, List.forall_mem_cons.mpr ⟨lw_p31, fun _ h => absurd h List.not_mem_nil⟩⟩⟩⟩⟩⟩⟩⟩⟩⟩⟩⟩⟩⟩⟩⟩
theorem lw_p32 : lw_okq (⟨"BookDropletsModel", "drops", "(II)I"⟩, 18) := ⟨⟨by decide +kernel, by decide +kernel⟩, List.mem_of_getElem? (i := 533) (by decide +kernel), List.mem_of_getElem? (i := 667) (by decide +kernel), List.mem_of_getElem? (i := 668) (by decide +kernel)⟩
theorem lw_p33 : lw_okq (⟨"BookDropletsModel", "make", "(I)V"⟩, 18) := ⟨⟨by decide +kernel, by decide +kernel⟩, List.mem_of_getElem? (i := 533) (by decide +kernel), List.mem_of_getElem? (i := 671) (by decide +kernel), List.mem_of_getElem? (i := 672) (by decide +kernel)⟩
theorem lw_p34 : lw_okq (⟨"BookDropletsModel", "degreeBy", "(I)I"⟩, 18) := ⟨⟨by decide +kernel, by decide +kernel⟩, List.mem_of_getElem? (i := 533) (by decide +kernel), List.mem_of_getElem? (i := 679) (by decide +kernel), List.mem_of_getElem? (i := 680) (by decide +kernel)⟩
theorem lw_p35 : lw_okq (⟨"BookDropletsModel", "comes", "(I)I"⟩, 18) := ⟨⟨by decide +kernel, by decide +kernel⟩, List.mem_of_getElem? (i := 533) (by decide +kernel), List.mem_of_getElem? (i := 683) (by decide +kernel), List.mem_of_getElem? (i := 684) (by decide +kernel)⟩
theorem lw_p36 : lw_okq (⟨"BookDropletsModel", "knows", "(III)V"⟩, 18) := ⟨⟨by decide +kernel, by decide +kernel⟩, List.mem_of_getElem? (i := 533) (by decide +kernel), List.mem_of_getElem? (i := 690) (by decide +kernel), List.mem_of_getElem? (i := 691) (by decide +kernel)⟩
theorem lw_p37 : lw_okq (⟨"BookDropletsModel", "peel", "(I)I"⟩, 18) := ⟨⟨by decide +kernel, by decide +kernel⟩, List.mem_of_getElem? (i := 533) (by decide +kernel), List.mem_of_getElem? (i := 694) (by decide +kernel), List.mem_of_getElem? (i := 695) (by decide +kernel)⟩
theorem lw_p38 : lw_okq (⟨"BookDropletsModel", "firstSmall", "(I)I"⟩, 18) := ⟨⟨by decide +kernel, by decide +kernel⟩, List.mem_of_getElem? (i := 533) (by decide +kernel), List.mem_of_getElem? (i := 698) (by decide +kernel), List.mem_of_getElem? (i := 699) (by decide +kernel)⟩
theorem lw_p39 : lw_okq (⟨"BookDropletsModel", "takeAway", "(II)V"⟩, 18) := ⟨⟨by decide +kernel, by decide +kernel⟩, List.mem_of_getElem? (i := 533) (by decide +kernel), List.mem_of_getElem? (i := 702) (by decide +kernel), List.mem_of_getElem? (i := 703) (by decide +kernel)⟩
theorem lw_p40 : lw_okq (⟨"BookDropletsModel", "solves", "(I)I"⟩, 18) := ⟨⟨by decide +kernel, by decide +kernel⟩, List.mem_of_getElem? (i := 533) (by decide +kernel), List.mem_of_getElem? (i := 710) (by decide +kernel), List.mem_of_getElem? (i := 711) (by decide +kernel)⟩
theorem lw_p41 : lw_okq (⟨"BookDropletsModel", "follow", "(I)I"⟩, 18) := ⟨⟨by decide +kernel, by decide +kernel⟩, List.mem_of_getElem? (i := 533) (by decide +kernel), List.mem_of_getElem? (i := 714) (by decide +kernel), List.mem_of_getElem? (i := 715) (by decide +kernel)⟩
theorem lw_p42 : lw_okq (⟨"BookDropletsModel", "isFull", "(I)Z"⟩, 18) := ⟨⟨by decide +kernel, by decide +kernel⟩, List.mem_of_getElem? (i := 533) (by decide +kernel), List.mem_of_getElem? (i := 726) (by decide +kernel), List.mem_of_getElem? (i := 727) (by decide +kernel)⟩
theorem lw_p43 : lw_okq (⟨"BookDropletsModel", "whole", "()I"⟩, 18) := ⟨⟨by decide +kernel, by decide +kernel⟩, List.mem_of_getElem? (i := 533) (by decide +kernel), List.mem_of_getElem? (i := 730) (by decide +kernel), List.mem_of_getElem? (i := 731) (by decide +kernel)⟩
theorem lw_p44 : lw_okq (⟨"BookDropletsModel", "fullCups", "()I"⟩, 18) := ⟨⟨by decide +kernel, by decide +kernel⟩, List.mem_of_getElem? (i := 533) (by decide +kernel), List.mem_of_getElem? (i := 746) (by decide +kernel), List.mem_of_getElem? (i := 747) (by decide +kernel)⟩
theorem lw_p45 : lw_okq (⟨"BookDropletsModel", "refusal", "(II)I"⟩, 18) := ⟨⟨by decide +kernel, by decide +kernel⟩, List.mem_of_getElem? (i := 533) (by decide +kernel), List.mem_of_getElem? (i := 754) (by decide +kernel), List.mem_of_getElem? (i := 755) (by decide +kernel)⟩
theorem lw_p46 : lw_okq (⟨"BookDropletsModel", "layAside", "()V"⟩, 18) := ⟨⟨by decide +kernel, by decide +kernel⟩, List.mem_of_getElem? (i := 533) (by decide +kernel), List.mem_of_getElem? (i := 758) (by decide +kernel), List.mem_of_getElem? (i := 759) (by decide +kernel)⟩
theorem lw_p47 : lw_okq (⟨"BookDropletsModel", "putBack", "()V"⟩, 18) := ⟨⟨by decide +kernel, by decide +kernel⟩, List.mem_of_getElem? (i := 533) (by decide +kernel), List.mem_of_getElem? (i := 762) (by decide +kernel), List.mem_of_getElem? (i := 763) (by decide +kernel)⟩
def lw_privs_3 : List (MethodName × Nat) := [(⟨"BookDropletsModel", "drops", "(II)I"⟩, 18), (⟨"BookDropletsModel", "make", "(I)V"⟩, 18), (⟨"BookDropletsModel", "degreeBy", "(I)I"⟩, 18), (⟨"BookDropletsModel", "comes", "(I)I"⟩, 18), (⟨"BookDropletsModel", "knows", "(III)V"⟩, 18), (⟨"BookDropletsModel", "peel", "(I)I"⟩, 18), (⟨"BookDropletsModel", "firstSmall", "(I)I"⟩, 18), (⟨"BookDropletsModel", "takeAway", "(II)V"⟩, 18), (⟨"BookDropletsModel", "solves", "(I)I"⟩, 18), (⟨"BookDropletsModel", "follow", "(I)I"⟩, 18), (⟨"BookDropletsModel", "isFull", "(I)Z"⟩, 18), (⟨"BookDropletsModel", "whole", "()I"⟩, 18), (⟨"BookDropletsModel", "fullCups", "()I"⟩, 18), (⟨"BookDropletsModel", "refusal", "(II)I"⟩, 18), (⟨"BookDropletsModel", "layAside", "()V"⟩, 18), (⟨"BookDropletsModel", "putBack", "()V"⟩, 18)]
theorem lw_r3 : ∀ q ∈ lw_privs_3, lw_okq q := List.forall_mem_cons.mpr ⟨lw_p32, List.forall_mem_cons.mpr ⟨lw_p33, List.forall_mem_cons.mpr ⟨lw_p34, List.forall_mem_cons.mpr ⟨lw_p35, List.forall_mem_cons.mpr ⟨lw_p36, List.forall_mem_cons.mpr ⟨lw_p37, List.forall_mem_cons.mpr ⟨lw_p38, List.forall_mem_cons.mpr ⟨lw_p39, List.forall_mem_cons.mpr ⟨lw_p40, List.forall_mem_cons.mpr ⟨lw_p41, List.forall_mem_cons.mpr ⟨lw_p42, List.forall_mem_cons.mpr ⟨lw_p43, List.forall_mem_cons.mpr ⟨lw_p44, List.forall_mem_cons.mpr ⟨lw_p45, List.forall_mem_cons.mpr ⟨lw_p46, List.forall_mem_cons.mpr ⟨lw_p47, fun _ h => absurd h List.not_mem_nil⟩⟩⟩⟩⟩⟩⟩⟩⟩⟩⟩⟩⟩⟩⟩⟩
theorem lw_p48 : lw_okq (⟨"BookDropletsModel", "isWell", "()Z"⟩, 18) := ⟨⟨by decide +kernel, by decide +kernel⟩, List.mem_of_getElem? (i := 533) (by decide +kernel), List.mem_of_getElem? (i := 787) (by decide +kernel), List.mem_of_getElem? (i := 788) (by decide +kernel)⟩
theorem lw_p49 : lw_okq (⟨"BookDropletsModel", "order", "(Z)I"⟩, 18) := ⟨⟨by decide +kernel, by decide +kernel⟩, List.mem_of_getElem? (i := 533) (by decide +kernel), List.mem_of_getElem? (i := 791) (by decide +kernel), List.mem_of_getElem? (i := 792) (by decide +kernel)⟩
theorem lw_p50 : lw_okq (⟨"BookDropletsModel", "reads", "(I)Z"⟩, 18) := ⟨⟨by decide +kernel, by decide +kernel⟩, List.mem_of_getElem? (i := 533) (by decide +kernel), List.mem_of_getElem? (i := 795) (by decide +kernel), List.mem_of_getElem? (i := 796) (by decide +kernel)⟩
theorem lw_p51 : lw_okq (⟨"BookDropletsModel", "number", "(I)Z"⟩, 18) := ⟨⟨by decide +kernel, by decide +kernel⟩, List.mem_of_getElem? (i := 533) (by decide +kernel), List.mem_of_getElem? (i := 799) (by decide +kernel), List.mem_of_getElem? (i := 800) (by decide +kernel)⟩
theorem lw_p52 : lw_okq (⟨"BookDropletsModel", "digit", "(I)Z"⟩, 18) := ⟨⟨by decide +kernel, by decide +kernel⟩, List.mem_of_getElem? (i := 533) (by decide +kernel), List.mem_of_getElem? (i := 803) (by decide +kernel), List.mem_of_getElem? (i := 804) (by decide +kernel)⟩
theorem lw_p53 : lw_okq (⟨"BookDropletsModel", "sees", "(II)Z"⟩, 18) := ⟨⟨by decide +kernel, by decide +kernel⟩, List.mem_of_getElem? (i := 533) (by decide +kernel), List.mem_of_getElem? (i := 807) (by decide +kernel), List.mem_of_getElem? (i := 808) (by decide +kernel)⟩
theorem lw_p54 : lw_okq (⟨"BookDropletsModel", "takes", "(I)Z"⟩, 18) := ⟨⟨by decide +kernel, by decide +kernel⟩, List.mem_of_getElem? (i := 533) (by decide +kernel), List.mem_of_getElem? (i := 811) (by decide +kernel), List.mem_of_getElem? (i := 812) (by decide +kernel)⟩
def lw_privs_4 : List (MethodName × Nat) := [(⟨"BookDropletsModel", "isWell", "()Z"⟩, 18), (⟨"BookDropletsModel", "order", "(Z)I"⟩, 18), (⟨"BookDropletsModel", "reads", "(I)Z"⟩, 18), (⟨"BookDropletsModel", "number", "(I)Z"⟩, 18), (⟨"BookDropletsModel", "digit", "(I)Z"⟩, 18), (⟨"BookDropletsModel", "sees", "(II)Z"⟩, 18), (⟨"BookDropletsModel", "takes", "(I)Z"⟩, 18)]
theorem lw_r4 : ∀ q ∈ lw_privs_4, lw_okq q := List.forall_mem_cons.mpr ⟨lw_p48, List.forall_mem_cons.mpr ⟨lw_p49, List.forall_mem_cons.mpr ⟨lw_p50, List.forall_mem_cons.mpr ⟨lw_p51, List.forall_mem_cons.mpr ⟨lw_p52, List.forall_mem_cons.mpr ⟨lw_p53, List.forall_mem_cons.mpr ⟨lw_p54, fun _ h => absurd h List.not_mem_nil⟩⟩⟩⟩⟩⟩⟩
def lw_privs : List (MethodName × Nat) := lw_privs_1 ++ (lw_privs_2 ++ (lw_privs_3 ++ (lw_privs_4)))
def lw_tbl : List Cond := k2_sels lw_privs ++ tables_1
theorem lw_privs_ok : ∀ q ∈ lw_privs, lw_okq q := by
  show ∀ q ∈ lw_privs_1 ++ (lw_privs_2 ++ (lw_privs_3 ++ (lw_privs_4))), lw_okq q
  exact List.forall_mem_append.mpr ⟨lw_r1, List.forall_mem_append.mpr ⟨lw_r2, List.forall_mem_append.mpr ⟨lw_r3, lw_r4⟩⟩⟩

def RX0 : String := "BookDroplets$Cup"
def TX0 : u_T := fun k => match k with
  | 0 => ("BookDroplets$Cup", "known", "I", false)
  | 1 => ("BookDroplets$Cup", "keptCount", "I", false)
  | 2 => ("BookDroplets$Cup", "poured", "I", false)
  | 3 => ("BookDroplets$Cup", "lost", "I", false)
  | 4 => ("BookDroplets$Cup", "useless", "I", false)
  | 5 => ("BookDroplets$Cup", "learnt", "[I", true)
  | 6 => ("BookDroplets$Cup", "sets", "[I", true)
  | _ => ("BookDroplets$Cup", "numbers", "[I", true)
def tyX0 : Nat → FieldType := fun k => match k with
  | 0 => .int
  | 1 => .int
  | 2 => .int
  | 3 => .int
  | 4 => .int
  | 5 => .array .int
  | 6 => .array .int
  | _ => .array .int
abbrev wsX00 : List Cond := u_ws RX0 TX0 8
theorem nmX0 : ∀ a, a < 8 → ∀ b, b < 8 → a ≠ b → (TX0 a).2.1 ≠ (TX0 b).2.1 := by decide +kernel
theorem tyX0_ok : ∀ k, k < 8 → parseFieldDescriptor (TX0 k).2.2.1 = some (tyX0 k) := by decide +kernel
abbrev cX0_init : ByteArray := prog_2_method_1_code
def yX0_init : MethodName := ⟨RX0, "<init>", "()V"⟩
abbrev cX0_clear : ByteArray := prog_2_method_2_code
def yX0_clear : MethodName := ⟨RX0, "clear", "()V"⟩
abbrev cX0_copyFrom : ByteArray := prog_2_method_3_code
def yX0_copyFrom : MethodName := ⟨RX0, "copyFrom", "(LBookDroplets$Cup;)V"⟩
abbrev cX0_knownCount : ByteArray := prog_2_method_4_code
def yX0_knownCount : MethodName := ⟨RX0, "knownCount", "()I"⟩
abbrev cX0_receive : ByteArray := prog_2_method_5_code
def yX0_receive : MethodName := ⟨RX0, "receive", "(LBookDroplets$Droplet;)I"⟩
abbrev cX0_learnSingles : ByteArray := prog_2_method_6_code
def yX0_learnSingles : MethodName := ⟨RX0, "learnSingles", "(LBookDroplets$Rows;)I"⟩
abbrev cX0_keepIfRoom : ByteArray := prog_2_method_7_code
def yX0_keepIfRoom : MethodName := ⟨RX0, "keepIfRoom", "(II)Z"⟩
abbrev cX0_learn : ByteArray := prog_2_method_8_code
def yX0_learn : MethodName := ⟨RX0, "learn", "(II)V"⟩
abbrev cX0_peel : ByteArray := prog_2_method_9_code
def yX0_peel : MethodName := ⟨RX0, "peel", "()V"⟩
abbrev cX0_firstPeelable : ByteArray := prog_2_method_10_code
def yX0_firstPeelable : MethodName := ⟨RX0, "firstPeelable", "()I"⟩
abbrev cX0_removeKept : ByteArray := prog_2_method_11_code
def yX0_removeKept : MethodName := ⟨RX0, "removeKept", "(I)V"⟩
def RX1 : String := "BookDroplets$Droplet"
def TX1 : u_T := fun k => match k with
  | 0 => ("BookDroplets$Droplet", "lost", "Z", false)
  | 1 => ("BookDroplets$Droplet", "degree", "I", false)
  | 2 => ("BookDroplets$Droplet", "set", "I", false)
  | _ => ("BookDroplets$Droplet", "number", "I", false)
def tyX1 : Nat → FieldType := fun k => match k with
  | 0 => .boolean
  | 1 => .int
  | 2 => .int
  | _ => .int
abbrev wsX10 : List Cond := u_ws RX1 TX1 4
theorem nmX1 : ∀ a, a < 4 → ∀ b, b < 4 → a ≠ b → (TX1 a).2.1 ≠ (TX1 b).2.1 := by decide +kernel
theorem tyX1_ok : ∀ k, k < 4 → parseFieldDescriptor (TX1 k).2.2.1 = some (tyX1 k) := by decide +kernel
abbrev cX1_init : ByteArray := prog_3_method_1_code
def yX1_init : MethodName := ⟨RX1, "<init>", "()V"⟩
abbrev cX1_makeFrom : ByteArray := prog_3_method_2_code
def yX1_makeFrom : MethodName := ⟨RX1, "makeFrom", "(LBookDroplets$State;I)V"⟩
abbrev cX1_addFrom : ByteArray := prog_3_method_3_code
def yX1_addFrom : MethodName := ⟨RX1, "addFrom", "(LBookDroplets$State;I)V"⟩
abbrev cX1_nextDraw : ByteArray := prog_3_method_4_code
def yX1_nextDraw : MethodName := ⟨RX1, "nextDraw", "(I)I"⟩
abbrev cX1_degreeBy : ByteArray := prog_3_method_5_code
def yX1_degreeBy : MethodName := ⟨RX1, "degreeBy", "(III)I"⟩
abbrev cX1_commonDegree : ByteArray := prog_3_method_6_code
def yX1_commonDegree : MethodName := ⟨RX1, "commonDegree", "(I)I"⟩
def RX2 : String := "BookDroplets$History"
def TX2 : u_T := fun k => match k with
  | 0 => ("BookDroplets$History", "states", "[LBookDroplets$State;", true)
  | 1 => ("BookDroplets$History", "first", "I", false)
  | _ => ("BookDroplets$History", "count", "I", false)
def tyX2 : Nat → FieldType := fun k => match k with
  | 0 => .array (.object "BookDroplets$State")
  | 1 => .int
  | _ => .int
abbrev wsX20 : List Cond := u_ws RX2 TX2 3
theorem nmX2 : ∀ a, a < 3 → ∀ b, b < 3 → a ≠ b → (TX2 a).2.1 ≠ (TX2 b).2.1 := by decide +kernel
theorem tyX2_ok : ∀ k, k < 3 → parseFieldDescriptor (TX2 k).2.2.1 = some (tyX2 k) := by decide +kernel
abbrev cX2_init : ByteArray := prog_4_method_1_code
def yX2_init : MethodName := ⟨RX2, "<init>", "()V"⟩
abbrev cX2_note : ByteArray := prog_4_method_2_code
def yX2_note : MethodName := ⟨RX2, "note", "(LBookDroplets$State;)V"⟩
abbrev cX2_keepUnlessError : ByteArray := prog_4_method_3_code
def yX2_keepUnlessError : MethodName := ⟨RX2, "keepUnlessError", "(I)I"⟩
abbrev cX2_takeBackInto : ByteArray := prog_4_method_4_code
def yX2_takeBackInto : MethodName := ⟨RX2, "takeBackInto", "(LBookDroplets$State;)Z"⟩
abbrev cX2_placeBehindLast : ByteArray := prog_4_method_5_code
def yX2_placeBehindLast : MethodName := ⟨RX2, "placeBehindLast", "()I"⟩
def RX3 : String := "BookDroplets$Pad"
def TX3 : u_T := fun k => match k with
  | 0 => ("BookDroplets$Pad", "signs", "[C", true)
  | 1 => ("BookDroplets$Pad", "length", "I", false)
  | 2 => ("BookDroplets$Pad", "place", "I", false)
  | 3 => ("BookDroplets$Pad", "kind", "C", false)
  | 4 => ("BookDroplets$Pad", "cup", "I", false)
  | 5 => ("BookDroplets$Pad", "number", "I", false)
  | _ => ("BookDroplets$Pad", "many", "I", false)
def tyX3 : Nat → FieldType := fun k => match k with
  | 0 => .array .char
  | 1 => .int
  | 2 => .int
  | 3 => .char
  | 4 => .int
  | 5 => .int
  | _ => .int
abbrev wsX30 : List Cond := u_ws RX3 TX3 7
theorem nmX3 : ∀ a, a < 7 → ∀ b, b < 7 → a ≠ b → (TX3 a).2.1 ≠ (TX3 b).2.1 := by decide +kernel
theorem tyX3_ok : ∀ k, k < 7 → parseFieldDescriptor (TX3 k).2.2.1 = some (tyX3 k) := by decide +kernel
abbrev cX3_init : ByteArray := prog_5_method_1_code
def yX3_init : MethodName := ⟨RX3, "<init>", "()V"⟩
abbrev cX3_append : ByteArray := prog_5_method_2_code
def yX3_append : MethodName := ⟨RX3, "append", "(C)V"⟩
abbrev cX3_goToStart : ByteArray := prog_5_method_3_code
def yX3_goToStart : MethodName := ⟨RX3, "goToStart", "()V"⟩
abbrev cX3_findFault : ByteArray := prog_5_method_4_code
def yX3_findFault : MethodName := ⟨RX3, "findFault", "()I"⟩
abbrev cX3_readOrder : ByteArray := prog_5_method_5_code
def yX3_readOrder : MethodName := ⟨RX3, "readOrder", "()Z"⟩
abbrev cX3_skip : ByteArray := prog_5_method_6_code
def yX3_skip : MethodName := ⟨RX3, "skip", "(C)Z"⟩
abbrev cX3_readCup : ByteArray := prog_5_method_7_code
def yX3_readCup : MethodName := ⟨RX3, "readCup", "()Z"⟩
abbrev cX3_readNumber : ByteArray := prog_5_method_8_code
def yX3_readNumber : MethodName := ⟨RX3, "readNumber", "()Z"⟩
abbrev cX3_readMany : ByteArray := prog_5_method_9_code
def yX3_readMany : MethodName := ⟨RX3, "readMany", "()Z"⟩
abbrev cX3_takeNumber : ByteArray := prog_5_method_10_code
def yX3_takeNumber : MethodName := ⟨RX3, "takeNumber", "()I"⟩
abbrev cX3_digitHere : ByteArray := prog_5_method_11_code
def yX3_digitHere : MethodName := ⟨RX3, "digitHere", "()I"⟩
abbrev cX3_signHere : ByteArray := prog_5_method_12_code
def yX3_signHere : MethodName := ⟨RX3, "signHere", "()C"⟩
def RX4 : String := "BookDroplets$Rows"
def TX4 : u_T := fun k => match k with
  | 0 => ("BookDroplets$Rows", "sets", "[I", true)
  | _ => ("BookDroplets$Rows", "numbers", "[I", true)
def tyX4 : Nat → FieldType := fun k => match k with
  | 0 => .array .int
  | _ => .array .int
abbrev wsX40 : List Cond := u_ws RX4 TX4 2
theorem nmX4 : ∀ a, a < 2 → ∀ b, b < 2 → a ≠ b → (TX4 a).2.1 ≠ (TX4 b).2.1 := by decide +kernel
theorem tyX4_ok : ∀ k, k < 2 → parseFieldDescriptor (TX4 k).2.2.1 = some (tyX4 k) := by decide +kernel
abbrev cX4_init : ByteArray := prog_6_method_1_code
def yX4_init : MethodName := ⟨RX4, "<init>", "()V"⟩
abbrev cX4_reduce : ByteArray := prog_6_method_2_code
def yX4_reduce : MethodName := ⟨RX4, "reduce", "(LBookDroplets$Cup;)V"⟩
abbrev cX4_isSingle : ByteArray := prog_6_method_3_code
def yX4_isSingle : MethodName := ⟨RX4, "isSingle", "(I)Z"⟩
abbrev cX4_singleCount : ByteArray := prog_6_method_4_code
def yX4_singleCount : MethodName := ⟨RX4, "singleCount", "()I"⟩
def RX5 : String := "BookDroplets$State"
def TX5 : u_T := fun k => match k with
  | 0 => ("BookDroplets$State", "way", "I", false)
  | 1 => ("BookDroplets$State", "loss", "I", false)
  | 2 => ("BookDroplets$State", "chapterCount", "I", false)
  | 3 => ("BookDroplets$State", "cupCount", "I", false)
  | 4 => ("BookDroplets$State", "poured", "I", false)
  | 5 => ("BookDroplets$State", "chapters", "[I", true)
  | _ => ("BookDroplets$State", "cups", "[LBookDroplets$Cup;", true)
def tyX5 : Nat → FieldType := fun k => match k with
  | 0 => .int
  | 1 => .int
  | 2 => .int
  | 3 => .int
  | 4 => .int
  | 5 => .array .int
  | _ => .array (.object "BookDroplets$Cup")
abbrev wsX50 : List Cond := u_ws RX5 TX5 7
theorem nmX5 : ∀ a, a < 7 → ∀ b, b < 7 → a ≠ b → (TX5 a).2.1 ≠ (TX5 b).2.1 := by decide +kernel
theorem tyX5_ok : ∀ k, k < 7 → parseFieldDescriptor (TX5 k).2.2.1 = some (tyX5 k) := by decide +kernel
abbrev cX5_init : ByteArray := prog_7_method_1_code
def yX5_init : MethodName := ⟨RX5, "<init>", "()V"⟩
abbrev cX5_cupAt : ByteArray := prog_7_method_2_code
def yX5_cupAt : MethodName := ⟨RX5, "cupAt", "(I)LBookDroplets$Cup;"⟩
abbrev cX5_allChapters : ByteArray := prog_7_method_3_code
def yX5_allChapters : MethodName := ⟨RX5, "allChapters", "()I"⟩
abbrev cX5_copyFrom : ByteArray := prog_7_method_4_code
def yX5_copyFrom : MethodName := ⟨RX5, "copyFrom", "(LBookDroplets$State;)V"⟩
def RX6 : String := "BookDroplets"
def TX6 : u_T := fun k => match k with
  | 0 => ("BookDroplets", "now", "LBookDroplets$State;", true)
  | 1 => ("BookDroplets", "history", "LBookDroplets$History;", true)
  | 2 => ("BookDroplets", "slots", "[LBookDroplets$State;", true)
  | 3 => ("BookDroplets", "pad", "LBookDroplets$Pad;", true)
  | 4 => ("BookDroplets", "fallen", "LBookDroplets$Droplet;", true)
  | 5 => ("BookDroplets", "trial", "LBookDroplets$Cup;", true)
  | _ => ("BookDroplets", "rows", "LBookDroplets$Rows;", true)
def tyX6 : Nat → FieldType := fun k => match k with
  | 0 => .object "BookDroplets$State"
  | 1 => .object "BookDroplets$History"
  | 2 => .array (.object "BookDroplets$State")
  | 3 => .object "BookDroplets$Pad"
  | 4 => .object "BookDroplets$Droplet"
  | 5 => .object "BookDroplets$Cup"
  | _ => .object "BookDroplets$Rows"
abbrev wsX60 : List Cond := u_ws RX6 TX6 7
theorem nmX6 : ∀ a, a < 7 → ∀ b, b < 7 → a ≠ b → (TX6 a).2.1 ≠ (TX6 b).2.1 := by decide +kernel
theorem tyX6_ok : ∀ k, k < 7 → parseFieldDescriptor (TX6 k).2.2.1 = some (tyX6 k) := by decide +kernel
abbrev cX6_init : ByteArray := prog_1_method_1_code
def yX6_init : MethodName := ⟨RX6, "<init>", "()V"⟩
abbrev cX6_set : ByteArray := prog_1_method_2_code
def yX6_set : MethodName := ⟨RX6, "set", "(II)I"⟩
abbrev cX6_chapter : ByteArray := prog_1_method_3_code
def yX6_chapter : MethodName := ⟨RX6, "chapter", "(I)I"⟩
abbrev cX6_cup : ByteArray := prog_1_method_4_code
def yX6_cup : MethodName := ⟨RX6, "cup", "()I"⟩
abbrev cX6_empty : ByteArray := prog_1_method_5_code
def yX6_empty : MethodName := ⟨RX6, "empty", "(I)I"⟩
abbrev cX6_pour : ByteArray := prog_1_method_6_code
def yX6_pour : MethodName := ⟨RX6, "pour", "(III)I"⟩
abbrev cX6_solve : ByteArray := prog_1_method_7_code
def yX6_solve : MethodName := ⟨RX6, "solve", "(I)I"⟩
abbrev cX6_droplet : ByteArray := prog_1_method_8_code
def yX6_droplet : MethodName := ⟨RX6, "droplet", "(II)I"⟩
abbrev cX6_ofCup : ByteArray := prog_1_method_9_code
def yX6_ofCup : MethodName := ⟨RX6, "ofCup", "(II)I"⟩
abbrev cX6_known : ByteArray := prog_1_method_10_code
def yX6_known : MethodName := ⟨RX6, "known", "(II)I"⟩
abbrev cX6_kept : ByteArray := prog_1_method_11_code
def yX6_kept : MethodName := ⟨RX6, "kept", "(III)I"⟩
abbrev cX6_count : ByteArray := prog_1_method_12_code
def yX6_count : MethodName := ⟨RX6, "count", "(I)I"⟩
abbrev cX6_would : ByteArray := prog_1_method_13_code
def yX6_would : MethodName := ⟨RX6, "would", "(II)I"⟩
abbrev cX6_needs : ByteArray := prog_1_method_14_code
def yX6_needs : MethodName := ⟨RX6, "needs", "(II)I"⟩
abbrev cX6_degrees : ByteArray := prog_1_method_15_code
def yX6_degrees : MethodName := ⟨RX6, "degrees", "(III)I"⟩
abbrev cX6_put : ByteArray := prog_1_method_16_code
def yX6_put : MethodName := ⟨RX6, "put", "(J)I"⟩
abbrev cX6_wipe : ByteArray := prog_1_method_17_code
def yX6_wipe : MethodName := ⟨RX6, "wipe", "()I"⟩
abbrev cX6_fault : ByteArray := prog_1_method_18_code
def yX6_fault : MethodName := ⟨RX6, "fault", "()I"⟩
abbrev cX6_carryOut : ByteArray := prog_1_method_19_code
def yX6_carryOut : MethodName := ⟨RX6, "carryOut", "()I"⟩
abbrev cX6_undo : ByteArray := prog_1_method_20_code
def yX6_undo : MethodName := ⟨RX6, "undo", "()I"⟩
abbrev cX6_save : ByteArray := prog_1_method_21_code
def yX6_save : MethodName := ⟨RX6, "save", "(I)I"⟩
abbrev cX6_restore : ByteArray := prog_1_method_22_code
def yX6_restore : MethodName := ⟨RX6, "restore", "(I)I"⟩
abbrev cX6_changeSetting : ByteArray := prog_1_method_23_code
def yX6_changeSetting : MethodName := ⟨RX6, "changeSetting", "(II)I"⟩
abbrev cX6_addChapter : ByteArray := prog_1_method_24_code
def yX6_addChapter : MethodName := ⟨RX6, "addChapter", "(I)I"⟩
abbrev cX6_addCup : ByteArray := prog_1_method_25_code
def yX6_addCup : MethodName := ⟨RX6, "addCup", "()I"⟩
abbrev cX6_emptyCup : ByteArray := prog_1_method_26_code
def yX6_emptyCup : MethodName := ⟨RX6, "emptyCup", "(I)I"⟩
abbrev cX6_pourDroplets : ByteArray := prog_1_method_27_code
def yX6_pourDroplets : MethodName := ⟨RX6, "pourDroplets", "(III)I"⟩
abbrev cX6_solveCup : ByteArray := prog_1_method_28_code
def yX6_solveCup : MethodName := ⟨RX6, "solveCup", "(I)I"⟩
abbrev cX6_restoreFrom : ByteArray := prog_1_method_29_code
def yX6_restoreFrom : MethodName := ⟨RX6, "restoreFrom", "(I)I"⟩
abbrev cX6_carryOneOut : ByteArray := prog_1_method_30_code
def yX6_carryOneOut : MethodName := ⟨RX6, "carryOneOut", "()I"⟩
abbrev cX6_errorOfDroplets : ByteArray := prog_1_method_31_code
def yX6_errorOfDroplets : MethodName := ⟨RX6, "errorOfDroplets", "(II)I"⟩
abbrev cX6_isFull : ByteArray := prog_1_method_32_code
def yX6_isFull : MethodName := ⟨RX6, "isFull", "(LBookDroplets$Cup;)Z"⟩
abbrev cX6_fullCups : ByteArray := prog_1_method_33_code
def yX6_fullCups : MethodName := ⟨RX6, "fullCups", "()I"⟩
abbrev cX6_isWithin : ByteArray := prog_1_method_34_code
def yX6_isWithin : MethodName := ⟨RX6, "isWithin", "(III)Z"⟩
abbrev cX6_wrappedSeed : ByteArray := prog_1_method_35_code
def yX6_wrappedSeed : MethodName := ⟨RX6, "wrappedSeed", "(I)I"⟩
abbrev cX6_charactersIn : ByteArray := prog_1_method_36_code
def yX6_charactersIn : MethodName := ⟨RX6, "charactersIn", "(J)I"⟩
def RX7 : String := "BookDropletsModel"
def TX7 : u_T := fun k => match k with
  | 0 => ("BookDropletsModel", "row", "[I", true)
  | 1 => ("BookDropletsModel", "past", "[I", true)
  | 2 => ("BookDropletsModel", "before", "[I", true)
  | 3 => ("BookDropletsModel", "aside", "[I", true)
  | 4 => ("BookDropletsModel", "slots", "[I", true)
  | 5 => ("BookDropletsModel", "isSaved", "[Z", true)
  | 6 => ("BookDropletsModel", "states", "I", false)
  | 7 => ("BookDropletsModel", "pad", "[I", true)
  | 8 => ("BookDropletsModel", "length", "I", false)
  | 9 => ("BookDropletsModel", "at", "I", false)
  | 10 => ("BookDropletsModel", "codes", "[I", true)
  | 11 => ("BookDropletsModel", "numbers", "[I", true)
  | 12 => ("BookDropletsModel", "isLost", "Z", false)
  | 13 => ("BookDropletsModel", "degree", "I", false)
  | 14 => ("BookDropletsModel", "set", "I", false)
  | 15 => ("BookDropletsModel", "number", "I", false)
  | 16 => ("BookDropletsModel", "sets", "[I", true)
  | _ => ("BookDropletsModel", "sums", "[I", true)
def tyX7 : Nat → FieldType := fun k => match k with
  | 0 => .array .int
  | 1 => .array .int
  | 2 => .array .int
  | 3 => .array .int
  | 4 => .array .int
  | 5 => .array .boolean
  | 6 => .int
  | 7 => .array .int
  | 8 => .int
  | 9 => .int
  | 10 => .array .int
  | 11 => .array .int
  | 12 => .boolean
  | 13 => .int
  | 14 => .int
  | 15 => .int
  | 16 => .array .int
  | _ => .array .int
abbrev wsX70 : List Cond := u_ws RX7 TX7 18
theorem nmX7 : ∀ a, a < 18 → ∀ b, b < 18 → a ≠ b → (TX7 a).2.1 ≠ (TX7 b).2.1 := by decide +kernel
theorem tyX7_ok : ∀ k, k < 18 → parseFieldDescriptor (TX7 k).2.2.1 = some (tyX7 k) := by decide +kernel
abbrev cX7_init : ByteArray := prog_9_method_1_code
def yX7_init : MethodName := ⟨RX7, "<init>", "()V"⟩
abbrev cX7_in : ByteArray := prog_9_method_2_code
def yX7_in : MethodName := ⟨RX7, "in", "(JII)Z"⟩
abbrev cX7_size : ByteArray := prog_9_method_3_code
def yX7_size : MethodName := ⟨RX7, "size", "(I)I"⟩
abbrev cX7_isCup : ByteArray := prog_9_method_4_code
def yX7_isCup : MethodName := ⟨RX7, "isCup", "(I)Z"⟩
abbrev cX7_its : ByteArray := prog_9_method_5_code
def yX7_its : MethodName := ⟨RX7, "its", "(II)I"⟩
abbrev cX7_lay : ByteArray := prog_9_method_6_code
def yX7_lay : MethodName := ⟨RX7, "lay", "(III)V"⟩
abbrev cX7_whole : ByteArray := prog_9_method_7_code
def yX7_whole : MethodName := ⟨RX7, "whole", "()I"⟩
abbrev cX7_isFull : ByteArray := prog_9_method_8_code
def yX7_isFull : MethodName := ⟨RX7, "isFull", "(I)Z"⟩
abbrev cX7_remember : ByteArray := prog_9_method_9_code
def yX7_remember : MethodName := ⟨RX7, "remember", "()V"⟩
abbrev cX7_record : ByteArray := prog_9_method_10_code
def yX7_record : MethodName := ⟨RX7, "record", "(I)I"⟩
abbrev cX7_undo : ByteArray := prog_9_method_11_code
def yX7_undo : MethodName := ⟨RX7, "undo", "()I"⟩
abbrev cX7_save : ByteArray := prog_9_method_12_code
def yX7_save : MethodName := ⟨RX7, "save", "(I)I"⟩
abbrev cX7_restore : ByteArray := prog_9_method_13_code
def yX7_restore : MethodName := ⟨RX7, "restore", "(I)I"⟩
abbrev cX7_layAside : ByteArray := prog_9_method_14_code
def yX7_layAside : MethodName := ⟨RX7, "layAside", "()V"⟩
abbrev cX7_putBack : ByteArray := prog_9_method_15_code
def yX7_putBack : MethodName := ⟨RX7, "putBack", "()V"⟩
abbrev cX7_draw : ByteArray := prog_9_method_16_code
def yX7_draw : MethodName := ⟨RX7, "draw", "(I)I"⟩
abbrev cX7_degreeBy : ByteArray := prog_9_method_17_code
def yX7_degreeBy : MethodName := ⟨RX7, "degreeBy", "(I)I"⟩
abbrev cX7_make : ByteArray := prog_9_method_18_code
def yX7_make : MethodName := ⟨RX7, "make", "(I)V"⟩
abbrev cX7_lowest : ByteArray := prog_9_method_19_code
def yX7_lowest : MethodName := ⟨RX7, "lowest", "(I)I"⟩
abbrev cX7_takeAway : ByteArray := prog_9_method_20_code
def yX7_takeAway : MethodName := ⟨RX7, "takeAway", "(II)V"⟩
abbrev cX7_knows : ByteArray := prog_9_method_21_code
def yX7_knows : MethodName := ⟨RX7, "knows", "(III)V"⟩
abbrev cX7_firstSmall : ByteArray := prog_9_method_22_code
def yX7_firstSmall : MethodName := ⟨RX7, "firstSmall", "(I)I"⟩
abbrev cX7_peel : ByteArray := prog_9_method_23_code
def yX7_peel : MethodName := ⟨RX7, "peel", "(I)I"⟩
abbrev cX7_comes : ByteArray := prog_9_method_24_code
def yX7_comes : MethodName := ⟨RX7, "comes", "(I)I"⟩
abbrev cX7_drops : ByteArray := prog_9_method_25_code
def yX7_drops : MethodName := ⟨RX7, "drops", "(II)I"⟩
abbrev cX7_follow : ByteArray := prog_9_method_26_code
def yX7_follow : MethodName := ⟨RX7, "follow", "(I)I"⟩
abbrev cX7_begins : ByteArray := prog_9_method_27_code
def yX7_begins : MethodName := ⟨RX7, "begins", "(I)I"⟩
abbrev cX7_cupComes : ByteArray := prog_9_method_28_code
def yX7_cupComes : MethodName := ⟨RX7, "cupComes", "()I"⟩
abbrev cX7_pours : ByteArray := prog_9_method_29_code
def yX7_pours : MethodName := ⟨RX7, "pours", "(III)I"⟩
abbrev cX7_solves : ByteArray := prog_9_method_30_code
def yX7_solves : MethodName := ⟨RX7, "solves", "(I)I"⟩
abbrev cX7_set : ByteArray := prog_9_method_31_code
def yX7_set : MethodName := ⟨RX7, "set", "(II)I"⟩
abbrev cX7_chapter : ByteArray := prog_9_method_32_code
def yX7_chapter : MethodName := ⟨RX7, "chapter", "(I)I"⟩
abbrev cX7_cup : ByteArray := prog_9_method_33_code
def yX7_cup : MethodName := ⟨RX7, "cup", "()I"⟩
abbrev cX7_empty : ByteArray := prog_9_method_34_code
def yX7_empty : MethodName := ⟨RX7, "empty", "(I)I"⟩
abbrev cX7_pour : ByteArray := prog_9_method_35_code
def yX7_pour : MethodName := ⟨RX7, "pour", "(III)I"⟩
abbrev cX7_solve : ByteArray := prog_9_method_36_code
def yX7_solve : MethodName := ⟨RX7, "solve", "(I)I"⟩
abbrev cX7_droplet : ByteArray := prog_9_method_37_code
def yX7_droplet : MethodName := ⟨RX7, "droplet", "(II)I"⟩
abbrev cX7_ofCup : ByteArray := prog_9_method_38_code
def yX7_ofCup : MethodName := ⟨RX7, "ofCup", "(II)I"⟩
abbrev cX7_known : ByteArray := prog_9_method_39_code
def yX7_known : MethodName := ⟨RX7, "known", "(II)I"⟩
abbrev cX7_kept : ByteArray := prog_9_method_40_code
def yX7_kept : MethodName := ⟨RX7, "kept", "(III)I"⟩
abbrev cX7_fullCups : ByteArray := prog_9_method_41_code
def yX7_fullCups : MethodName := ⟨RX7, "fullCups", "()I"⟩
abbrev cX7_count : ByteArray := prog_9_method_42_code
def yX7_count : MethodName := ⟨RX7, "count", "(I)I"⟩
abbrev cX7_refusal : ByteArray := prog_9_method_43_code
def yX7_refusal : MethodName := ⟨RX7, "refusal", "(II)I"⟩
abbrev cX7_would : ByteArray := prog_9_method_44_code
def yX7_would : MethodName := ⟨RX7, "would", "(II)I"⟩
abbrev cX7_needs : ByteArray := prog_9_method_45_code
def yX7_needs : MethodName := ⟨RX7, "needs", "(II)I"⟩
abbrev cX7_degrees : ByteArray := prog_9_method_46_code
def yX7_degrees : MethodName := ⟨RX7, "degrees", "(III)I"⟩
abbrev cX7_put : ByteArray := prog_9_method_47_code
def yX7_put : MethodName := ⟨RX7, "put", "(J)I"⟩
abbrev cX7_wipe : ByteArray := prog_9_method_48_code
def yX7_wipe : MethodName := ⟨RX7, "wipe", "()I"⟩
abbrev cX7_sees : ByteArray := prog_9_method_49_code
def yX7_sees : MethodName := ⟨RX7, "sees", "(II)Z"⟩
abbrev cX7_takes : ByteArray := prog_9_method_50_code
def yX7_takes : MethodName := ⟨RX7, "takes", "(I)Z"⟩
abbrev cX7_digit : ByteArray := prog_9_method_51_code
def yX7_digit : MethodName := ⟨RX7, "digit", "(I)Z"⟩
abbrev cX7_number : ByteArray := prog_9_method_52_code
def yX7_number : MethodName := ⟨RX7, "number", "(I)Z"⟩
abbrev cX7_reads : ByteArray := prog_9_method_53_code
def yX7_reads : MethodName := ⟨RX7, "reads", "(I)Z"⟩
abbrev cX7_order : ByteArray := prog_9_method_54_code
def yX7_order : MethodName := ⟨RX7, "order", "(Z)I"⟩
abbrev cX7_isWell : ByteArray := prog_9_method_55_code
def yX7_isWell : MethodName := ⟨RX7, "isWell", "()Z"⟩
abbrev cX7_fault : ByteArray := prog_9_method_56_code
def yX7_fault : MethodName := ⟨RX7, "fault", "()I"⟩
abbrev cX7_carryOut : ByteArray := prog_9_method_57_code
def yX7_carryOut : MethodName := ⟨RX7, "carryOut", "()I"⟩
def RJ6 : String := "java/lang/Integer"
abbrev cJ6_bitCount_0f7a4 : ByteArray := prog_10_method_49_code
def yJ6_bitCount_0f7a4 : MethodName := ⟨RJ6, "bitCount", "(I)I"⟩
def RJ9 : String := "java/lang/Math"
abbrev cJ9_floorMod_7cf53 : ByteArray := prog_11_method_50_code
def yJ9_floorMod_7cf53 : MethodName := ⟨RJ9, "floorMod", "(II)I"⟩
abbrev cJ9_max_7cf53 : ByteArray := prog_11_method_65_code
def yJ9_max_7cf53 : MethodName := ⟨RJ9, "max", "(II)I"⟩
abbrev cJ9_min_7cf53 : ByteArray := prog_11_method_69_code
def yJ9_min_7cf53 : MethodName := ⟨RJ9, "min", "(II)I"⟩
def RJ10 : String := "java/lang/System"
def RL : String := "BookDropletsLaw"
abbrev cL_law : ByteArray := code
def yL_law : MethodName := ⟨RL, "law", "([I)Z"⟩
abbrev vwCl : List vw_C := [(RX0, TX0, 8), (RX1, TX1, 4), (RX2, TX2, 3), (RX3, TX3, 7), (RX4, TX4, 2), (RX5, TX5, 7), (RX6, TX6, 7), (RX7, TX7, 18)]
