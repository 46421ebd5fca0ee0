-- ===== PART A: goes FIRST, ahead of the names: the tables' words, and 'selects' of the private methods out of them =====
/-- a private method of a class that the tables say can be made, by its rows of tables_1 -/
def lw_okq (q : MethodName × Nat) : Prop := (q.1.cls ≠ "java/lang/invoke/MethodHandle" ∧ q.1.cls ≠ "java/lang/invoke/VarHandle") ∧ Cond.instantiable q.1.cls q.2 ∈ tables_1 ∧ Cond.privateMethod q.1 ∈ tables_1 ∧ Cond.instanceMethod q.1 ∈ tables_1
theorem lw_p0 : lw_okq (⟨"DiceCups$Cup", "writeHand", "(I)V"⟩, 6) := ⟨⟨by decide +kernel, by decide +kernel⟩, List.mem_of_getElem? (i := 28) (by decide +kernel), List.mem_of_getElem? (i := 216) (by decide +kernel), List.mem_of_getElem? (i := 217) (by decide +kernel)⟩
theorem lw_p1 : lw_okq (⟨"DiceCups$Cup", "stepRow", "()Z"⟩, 6) := ⟨⟨by decide +kernel, by decide +kernel⟩, List.mem_of_getElem? (i := 28) (by decide +kernel), List.mem_of_getElem? (i := 239) (by decide +kernel), List.mem_of_getElem? (i := 240) (by decide +kernel)⟩
theorem lw_p2 : lw_okq (⟨"DiceCups$Table", "judgeBids", "()V"⟩, 6) := ⟨⟨by decide +kernel, by decide +kernel⟩, List.mem_of_getElem? (i := 22) (by decide +kernel), List.mem_of_getElem? (i := 243) (by decide +kernel), List.mem_of_getElem? (i := 244) (by decide +kernel)⟩
theorem lw_p3 : lw_okq (⟨"DiceCups$Table", "judge", "(III)V"⟩, 6) := ⟨⟨by decide +kernel, by decide +kernel⟩, List.mem_of_getElem? (i := 22) (by decide +kernel), List.mem_of_getElem? (i := 247) (by decide +kernel), List.mem_of_getElem? (i := 248) (by decide +kernel)⟩
theorem lw_p4 : lw_okq (⟨"DiceCups$Table", "countsFor", "(LDiceCups$Cup;II)I"⟩, 6) := ⟨⟨by decide +kernel, by decide +kernel⟩, List.mem_of_getElem? (i := 22) (by decide +kernel), List.mem_of_getElem? (i := 255) (by decide +kernel), List.mem_of_getElem? (i := 256) (by decide +kernel)⟩
theorem lw_p5 : lw_okq (⟨"DiceCups", "isHand", "(II)Z"⟩, 5) := ⟨⟨by decide +kernel, by decide +kernel⟩, List.mem_of_getElem? (i := 14) (by decide +kernel), List.mem_of_getElem? (i := 310) (by decide +kernel), List.mem_of_getElem? (i := 311) (by decide +kernel)⟩
theorem lw_p6 : lw_okq (⟨"DiceCups", "isBid", "(I)Z"⟩, 5) := ⟨⟨by decide +kernel, by decide +kernel⟩, List.mem_of_getElem? (i := 14) (by decide +kernel), List.mem_of_getElem? (i := 327) (by decide +kernel), List.mem_of_getElem? (i := 328) (by decide +kernel)⟩
theorem lw_p7 : lw_okq (⟨"DiceCups", "isBidOrNone", "(I)Z"⟩, 5) := ⟨⟨by decide +kernel, by decide +kernel⟩, List.mem_of_getElem? (i := 14) (by decide +kernel), List.mem_of_getElem? (i := 371) (by decide +kernel), List.mem_of_getElem? (i := 372) (by decide +kernel)⟩
theorem lw_p8 : lw_okq (⟨"DiceCups$Shares", "takeMoves", "(LDiceCups$Plans;IIII)V"⟩, 1) := ⟨⟨by decide +kernel, by decide +kernel⟩, List.mem_of_getElem? (i := 108) (by decide +kernel), List.mem_of_getElem? (i := 406) (by decide +kernel), List.mem_of_getElem? (i := 407) (by decide +kernel)⟩
theorem lw_p9 : lw_okq (⟨"DiceCups$Match", "expected", "(II)D"⟩, 4) := ⟨⟨by decide +kernel, by decide +kernel⟩, List.mem_of_getElem? (i := 102) (by decide +kernel), List.mem_of_getElem? (i := 422) (by decide +kernel), List.mem_of_getElem? (i := 423) (by decide +kernel)⟩
theorem lw_p10 : lw_okq (⟨"DiceCups$Match", "expectedAt", "(IIII)D"⟩, 4) := ⟨⟨by decide +kernel, by decide +kernel⟩, List.mem_of_getElem? (i := 102) (by decide +kernel), List.mem_of_getElem? (i := 426) (by decide +kernel), List.mem_of_getElem? (i := 427) (by decide +kernel)⟩
theorem lw_p11 : lw_okq (⟨"DiceCups$Answering", "other", "()LDiceCups$Cup;"⟩, 6) := ⟨⟨by decide +kernel, by decide +kernel⟩, List.mem_of_getElem? (i := 132) (by decide +kernel), List.mem_of_getElem? (i := 460) (by decide +kernel), List.mem_of_getElem? (i := 461) (by decide +kernel)⟩
theorem lw_p12 : lw_okq (⟨"DiceCups$Answering", "hold", "(I)V"⟩, 6) := ⟨⟨by decide +kernel, by decide +kernel⟩, List.mem_of_getElem? (i := 132) (by decide +kernel), List.mem_of_getElem? (i := 470) (by decide +kernel), List.mem_of_getElem? (i := 471) (by decide +kernel)⟩
theorem lw_p13 : lw_okq (⟨"DiceCups$Answering", "value", "(IIII)D"⟩, 6) := ⟨⟨by decide +kernel, by decide +kernel⟩, List.mem_of_getElem? (i := 132) (by decide +kernel), List.mem_of_getElem? (i := 476) (by decide +kernel), List.mem_of_getElem? (i := 477) (by decide +kernel)⟩
theorem lw_p14 : lw_okq (⟨"DiceCups$Answering", "ownValue", "(III)D"⟩, 6) := ⟨⟨by decide +kernel, by decide +kernel⟩, List.mem_of_getElem? (i := 132) (by decide +kernel), List.mem_of_getElem? (i := 480) (by decide +kernel), List.mem_of_getElem? (i := 481) (by decide +kernel)⟩
theorem lw_p15 : lw_okq (⟨"DiceCups$Answering", "addCallWins", "(DIII)D"⟩, 6) := ⟨⟨by decide +kernel, by decide +kernel⟩, List.mem_of_getElem? (i := 132) (by decide +kernel), List.mem_of_getElem? (i := 484) (by decide +kernel), List.mem_of_getElem? (i := 485) (by decide +kernel)⟩
def lw_privs_1 : List (MethodName × Nat) := [(⟨"DiceCups$Cup", "writeHand", "(I)V"⟩, 6), (⟨"DiceCups$Cup", "stepRow", "()Z"⟩, 6), (⟨"DiceCups$Table", "judgeBids", "()V"⟩, 6), (⟨"DiceCups$Table", "judge", "(III)V"⟩, 6), (⟨"DiceCups$Table", "countsFor", "(LDiceCups$Cup;II)I"⟩, 6), (⟨"DiceCups", "isHand", "(II)Z"⟩, 5), (⟨"DiceCups", "isBid", "(I)Z"⟩, 5), (⟨"DiceCups", "isBidOrNone", "(I)Z"⟩, 5), (⟨"DiceCups$Shares", "takeMoves", "(LDiceCups$Plans;IIII)V"⟩, 1), (⟨"DiceCups$Match", "expected", "(II)D"⟩, 4), (⟨"DiceCups$Match", "expectedAt", "(IIII)D"⟩, 4), (⟨"DiceCups$Answering", "other", "()LDiceCups$Cup;"⟩, 6), (⟨"DiceCups$Answering", "hold", "(I)V"⟩, 6), (⟨"DiceCups$Answering", "value", "(IIII)D"⟩, 6), (⟨"DiceCups$Answering", "ownValue", "(III)D"⟩, 6), (⟨"DiceCups$Answering", "addCallWins", "(DIII)D"⟩, 6)]
theorem lw_r1 : ∀ q ∈ lw_privs_1, lw_okq q := List.forall_mem_cons.mpr ⟨lw_p0, List.forall_mem_cons.mpr ⟨lw_p1, List.forall_mem_cons.mpr ⟨lw_p2, List.forall_mem_cons.mpr ⟨lw_p3, List.forall_mem_cons.mpr ⟨lw_p4, List.forall_mem_cons.mpr ⟨lw_p5, List.forall_mem_cons.mpr ⟨lw_p6, List.forall_mem_cons.mpr ⟨lw_p7, List.forall_mem_cons.mpr ⟨lw_p8, List.forall_mem_cons.mpr ⟨lw_p9, List.forall_mem_cons.mpr ⟨lw_p10, List.forall_mem_cons.mpr ⟨lw_p11, List.forall_mem_cons.mpr ⟨lw_p12, List.forall_mem_cons.mpr ⟨lw_p13, List.forall_mem_cons.mpr ⟨lw_p14, List.forall_mem_cons.mpr ⟨lw_p15, fun _ h => absurd h List.not_mem_nil⟩⟩⟩⟩⟩⟩⟩⟩⟩⟩⟩⟩⟩⟩⟩⟩
theorem lw_p16 : lw_okq (⟨"DiceCups$Answering", "otherValue", "(III)D"⟩, 6) := ⟨⟨by decide +kernel, by decide +kernel⟩, List.mem_of_getElem? (i := 132) (by decide +kernel), List.mem_of_getElem? (i := 490) (by decide +kernel), List.mem_of_getElem? (i := 491) (by decide +kernel)⟩
theorem lw_p17 : lw_okq (⟨"DiceCups$Answering", "follow", "(III)Z"⟩, 6) := ⟨⟨by decide +kernel, by decide +kernel⟩, List.mem_of_getElem? (i := 132) (by decide +kernel), List.mem_of_getElem? (i := 494) (by decide +kernel), List.mem_of_getElem? (i := 495) (by decide +kernel)⟩
theorem lw_p18 : lw_okq (⟨"DiceCups$Game", "draw", "(LDiceCups$Cup;)I"⟩, 12) := ⟨⟨by decide +kernel, by decide +kernel⟩, List.mem_of_getElem? (i := 159) (by decide +kernel), List.mem_of_getElem? (i := 525) (by decide +kernel), List.mem_of_getElem? (i := 526) (by decide +kernel)⟩
theorem lw_p19 : lw_okq (⟨"DiceCups$Cup", "isLike", "(I[I)Z"⟩, 6) := ⟨⟨by decide +kernel, by decide +kernel⟩, List.mem_of_getElem? (i := 28) (by decide +kernel), List.mem_of_getElem? (i := 540) (by decide +kernel), List.mem_of_getElem? (i := 541) (by decide +kernel)⟩
theorem lw_p20 : lw_okq (⟨"DiceCupsModel", "lay", "()V"⟩, 26) := ⟨⟨by decide +kernel, by decide +kernel⟩, List.mem_of_getElem? (i := 596) (by decide +kernel), List.mem_of_getElem? (i := 602) (by decide +kernel), List.mem_of_getElem? (i := 603) (by decide +kernel)⟩
theorem lw_p21 : lw_okq (⟨"DiceCupsModel", "layHands", "(I)V"⟩, 26) := ⟨⟨by decide +kernel, by decide +kernel⟩, List.mem_of_getElem? (i := 596) (by decide +kernel), List.mem_of_getElem? (i := 606) (by decide +kernel), List.mem_of_getElem? (i := 607) (by decide +kernel)⟩
theorem lw_p22 : lw_okq (⟨"DiceCupsModel", "dice", "(I)I"⟩, 26) := ⟨⟨by decide +kernel, by decide +kernel⟩, List.mem_of_getElem? (i := 596) (by decide +kernel), List.mem_of_getElem? (i := 610) (by decide +kernel), List.mem_of_getElem? (i := 611) (by decide +kernel)⟩
theorem lw_p23 : lw_okq (⟨"DiceCupsModel", "most", "()I"⟩, 26) := ⟨⟨by decide +kernel, by decide +kernel⟩, List.mem_of_getElem? (i := 596) (by decide +kernel), List.mem_of_getElem? (i := 704) (by decide +kernel), List.mem_of_getElem? (i := 705) (by decide +kernel)⟩
theorem lw_p24 : lw_okq (⟨"DiceCupsModel", "isHand", "(II)Z"⟩, 26) := ⟨⟨by decide +kernel, by decide +kernel⟩, List.mem_of_getElem? (i := 596) (by decide +kernel), List.mem_of_getElem? (i := 719) (by decide +kernel), List.mem_of_getElem? (i := 720) (by decide +kernel)⟩
theorem lw_p25 : lw_okq (⟨"DiceCupsModel", "isBid", "(I)Z"⟩, 26) := ⟨⟨by decide +kernel, by decide +kernel⟩, List.mem_of_getElem? (i := 596) (by decide +kernel), List.mem_of_getElem? (i := 731) (by decide +kernel), List.mem_of_getElem? (i := 732) (by decide +kernel)⟩
theorem lw_p26 : lw_okq (⟨"DiceCupsModel", "doesHold", "(III)Z"⟩, 26) := ⟨⟨by decide +kernel, by decide +kernel⟩, List.mem_of_getElem? (i := 596) (by decide +kernel), List.mem_of_getElem? (i := 735) (by decide +kernel), List.mem_of_getElem? (i := 736) (by decide +kernel)⟩
theorem lw_p27 : lw_okq (⟨"DiceCupsModel", "countsFor", "(III)I"⟩, 26) := ⟨⟨by decide +kernel, by decide +kernel⟩, List.mem_of_getElem? (i := 596) (by decide +kernel), List.mem_of_getElem? (i := 739) (by decide +kernel), List.mem_of_getElem? (i := 740) (by decide +kernel)⟩
theorem lw_p28 : lw_okq (⟨"DiceCupsModel", "throwsFor", "(III)I"⟩, 26) := ⟨⟨by decide +kernel, by decide +kernel⟩, List.mem_of_getElem? (i := 596) (by decide +kernel), List.mem_of_getElem? (i := 747) (by decide +kernel), List.mem_of_getElem? (i := 748) (by decide +kernel)⟩
theorem lw_p29 : lw_okq (⟨"DiceCupsModel", "power", "(I)I"⟩, 26) := ⟨⟨by decide +kernel, by decide +kernel⟩, List.mem_of_getElem? (i := 596) (by decide +kernel), List.mem_of_getElem? (i := 751) (by decide +kernel), List.mem_of_getElem? (i := 752) (by decide +kernel)⟩
theorem lw_p30 : lw_okq (⟨"DiceCupsModel", "mayMove", "(II)Z"⟩, 26) := ⟨⟨by decide +kernel, by decide +kernel⟩, List.mem_of_getElem? (i := 596) (by decide +kernel), List.mem_of_getElem? (i := 766) (by decide +kernel), List.mem_of_getElem? (i := 767) (by decide +kernel)⟩
theorem lw_p31 : lw_okq (⟨"DiceCupsModel", "at", "(IIIII)I"⟩, 26) := ⟨⟨by decide +kernel, by decide +kernel⟩, List.mem_of_getElem? (i := 596) (by decide +kernel), List.mem_of_getElem? (i := 770) (by decide +kernel), List.mem_of_getElem? (i := 771) (by decide +kernel)⟩
def lw_privs_2 : List (MethodName × Nat) := [(⟨"DiceCups$Answering", "otherValue", "(III)D"⟩, 6), (⟨"DiceCups$Answering", "follow", "(III)Z"⟩, 6), (⟨"DiceCups$Game", "draw", "(LDiceCups$Cup;)I"⟩, 12), (⟨"DiceCups$Cup", "isLike", "(I[I)Z"⟩, 6), (⟨"DiceCupsModel", "lay", "()V"⟩, 26), (⟨"DiceCupsModel", "layHands", "(I)V"⟩, 26), (⟨"DiceCupsModel", "dice", "(I)I"⟩, 26), (⟨"DiceCupsModel", "most", "()I"⟩, 26), (⟨"DiceCupsModel", "isHand", "(II)Z"⟩, 26), (⟨"DiceCupsModel", "isBid", "(I)Z"⟩, 26), (⟨"DiceCupsModel", "doesHold", "(III)Z"⟩, 26), (⟨"DiceCupsModel", "countsFor", "(III)I"⟩, 26), (⟨"DiceCupsModel", "throwsFor", "(III)I"⟩, 26), (⟨"DiceCupsModel", "power", "(I)I"⟩, 26), (⟨"DiceCupsModel", "mayMove", "(II)Z"⟩, 26), (⟨"DiceCupsModel", "at", "(IIIII)I"⟩, 26)]
theorem lw_r2 : ∀ q ∈ lw_privs_2, lw_okq q := List.forall_mem_cons.mpr ⟨lw_p16, List.forall_mem_cons.mpr ⟨lw_p17, List.forall_mem_cons.mpr ⟨lw_p18, List.forall_mem_cons.mpr ⟨lw_p19, List.forall_mem_cons.mpr ⟨lw_p20, List.forall_mem_cons.mpr ⟨lw_p21, List.forall_mem_cons.mpr ⟨lw_p22, List.forall_mem_cons.mpr ⟨lw_p23, List.forall_mem_cons.mpr ⟨lw_p24, List.forall_mem_cons.mpr ⟨lw_p25, List.forall_mem_cons.mpr ⟨lw_p26, List.forall_mem_cons.mpr ⟨lw_p27, List.forall_mem_cons.mpr ⟨lw_p28, List.forall_mem_cons.mpr ⟨lw_p29, List.forall_mem_cons.mpr ⟨lw_p30, List.forall_mem_cons.mpr ⟨lw_p31, fun _ h => absurd h List.not_mem_nil⟩⟩⟩⟩⟩⟩⟩⟩⟩⟩⟩⟩⟩⟩⟩⟩
theorem lw_p32 : lw_okq (⟨"DiceCupsModel", "worthOf", "(IIII)D"⟩, 26) := ⟨⟨by decide +kernel, by decide +kernel⟩, List.mem_of_getElem? (i := 596) (by decide +kernel), List.mem_of_getElem? (i := 779) (by decide +kernel), List.mem_of_getElem? (i := 780) (by decide +kernel)⟩
theorem lw_p33 : lw_okq (⟨"DiceCupsModel", "part", "(IIIII)D"⟩, 26) := ⟨⟨by decide +kernel, by decide +kernel⟩, List.mem_of_getElem? (i := 596) (by decide +kernel), List.mem_of_getElem? (i := 783) (by decide +kernel), List.mem_of_getElem? (i := 784) (by decide +kernel)⟩
theorem lw_p34 : lw_okq (⟨"DiceCupsModel", "total", "(IIII)I"⟩, 26) := ⟨⟨by decide +kernel, by decide +kernel⟩, List.mem_of_getElem? (i := 596) (by decide +kernel), List.mem_of_getElem? (i := 787) (by decide +kernel), List.mem_of_getElem? (i := 788) (by decide +kernel)⟩
theorem lw_p35 : lw_okq (⟨"DiceCupsModel", "wins", "(IIIII)Z"⟩, 26) := ⟨⟨by decide +kernel, by decide +kernel⟩, List.mem_of_getElem? (i := 596) (by decide +kernel), List.mem_of_getElem? (i := 791) (by decide +kernel), List.mem_of_getElem? (i := 792) (by decide +kernel)⟩
theorem lw_p36 : lw_okq (⟨"DiceCupsModel", "begin", "(I)V"⟩, 26) := ⟨⟨by decide +kernel, by decide +kernel⟩, List.mem_of_getElem? (i := 596) (by decide +kernel), List.mem_of_getElem? (i := 809) (by decide +kernel), List.mem_of_getElem? (i := 810) (by decide +kernel)⟩
theorem lw_p37 : lw_okq (⟨"DiceCupsModel", "enter", "(II)V"⟩, 26) := ⟨⟨by decide +kernel, by decide +kernel⟩, List.mem_of_getElem? (i := 596) (by decide +kernel), List.mem_of_getElem? (i := 813) (by decide +kernel), List.mem_of_getElem? (i := 814) (by decide +kernel)⟩
theorem lw_p38 : lw_okq (⟨"DiceCupsModel", "answerOf", "(IIII)D"⟩, 26) := ⟨⟨by decide +kernel, by decide +kernel⟩, List.mem_of_getElem? (i := 596) (by decide +kernel), List.mem_of_getElem? (i := 817) (by decide +kernel), List.mem_of_getElem? (i := 818) (by decide +kernel)⟩
theorem lw_p39 : lw_okq (⟨"DiceCupsModel", "offer", "(ID)V"⟩, 26) := ⟨⟨by decide +kernel, by decide +kernel⟩, List.mem_of_getElem? (i := 596) (by decide +kernel), List.mem_of_getElem? (i := 821) (by decide +kernel), List.mem_of_getElem? (i := 822) (by decide +kernel)⟩
theorem lw_p40 : lw_okq (⟨"DiceCupsModel", "call", "(IIII)V"⟩, 26) := ⟨⟨by decide +kernel, by decide +kernel⟩, List.mem_of_getElem? (i := 596) (by decide +kernel), List.mem_of_getElem? (i := 825) (by decide +kernel), List.mem_of_getElem? (i := 826) (by decide +kernel)⟩
theorem lw_p41 : lw_okq (⟨"DiceCupsModel", "winsBy", "(IIIII)Z"⟩, 26) := ⟨⟨by decide +kernel, by decide +kernel⟩, List.mem_of_getElem? (i := 596) (by decide +kernel), List.mem_of_getElem? (i := 829) (by decide +kernel), List.mem_of_getElem? (i := 830) (by decide +kernel)⟩
theorem lw_p42 : lw_okq (⟨"DiceCupsModel", "leads", "(IIII)Z"⟩, 26) := ⟨⟨by decide +kernel, by decide +kernel⟩, List.mem_of_getElem? (i := 596) (by decide +kernel), List.mem_of_getElem? (i := 833) (by decide +kernel), List.mem_of_getElem? (i := 834) (by decide +kernel)⟩
theorem lw_p43 : lw_okq (⟨"DiceCupsModel", "drawn", "(I)I"⟩, 26) := ⟨⟨by decide +kernel, by decide +kernel⟩, List.mem_of_getElem? (i := 596) (by decide +kernel), List.mem_of_getElem? (i := 849) (by decide +kernel), List.mem_of_getElem? (i := 850) (by decide +kernel)⟩
def lw_privs_3 : List (MethodName × Nat) := [(⟨"DiceCupsModel", "worthOf", "(IIII)D"⟩, 26), (⟨"DiceCupsModel", "part", "(IIIII)D"⟩, 26), (⟨"DiceCupsModel", "total", "(IIII)I"⟩, 26), (⟨"DiceCupsModel", "wins", "(IIIII)Z"⟩, 26), (⟨"DiceCupsModel", "begin", "(I)V"⟩, 26), (⟨"DiceCupsModel", "enter", "(II)V"⟩, 26), (⟨"DiceCupsModel", "answerOf", "(IIII)D"⟩, 26), (⟨"DiceCupsModel", "offer", "(ID)V"⟩, 26), (⟨"DiceCupsModel", "call", "(IIII)V"⟩, 26), (⟨"DiceCupsModel", "winsBy", "(IIIII)Z"⟩, 26), (⟨"DiceCupsModel", "leads", "(IIII)Z"⟩, 26), (⟨"DiceCupsModel", "drawn", "(I)I"⟩, 26)]
theorem lw_r3 : ∀ q ∈ lw_privs_3, lw_okq q := List.forall_mem_cons.mpr ⟨lw_p32, List.forall_mem_cons.mpr ⟨lw_p33, List.forall_mem_cons.mpr ⟨lw_p34, List.forall_mem_cons.mpr ⟨lw_p35, List.forall_mem_cons.mpr ⟨lw_p36, List.forall_mem_cons.mpr ⟨lw_p37, List.forall_mem_cons.mpr ⟨lw_p38, List.forall_mem_cons.mpr ⟨lw_p39, List.forall_mem_cons.mpr ⟨lw_p40, List.forall_mem_cons.mpr ⟨lw_p41, List.forall_mem_cons.mpr ⟨lw_p42, List.forall_mem_cons.mpr ⟨lw_p43, fun _ h => absurd h List.not_mem_nil⟩⟩⟩⟩⟩⟩⟩⟩⟩⟩⟩⟩
def lw_privs : List (MethodName × Nat) := lw_privs_1 ++ (lw_privs_2 ++ (lw_privs_3))
def lw_tbl : List Cond := k2_sels lw_privs ++ tables_1
theorem lw_privs_ok : ∀ q ∈ lw_privs, lw_okq q := by
  show ∀ q ∈ lw_privs_1 ++ (lw_privs_2 ++ (lw_privs_3)), lw_okq q
  exact List.forall_mem_append.mpr ⟨lw_r1, List.forall_mem_append.mpr ⟨lw_r2, lw_r3⟩⟩
/-- the streams that the claim lets the run draw from -/
abbrev lw_cs : List Choice := [Jvm.Choice.named "NaN.bits"]
theorem lw_bits : nanBits ∈ lw_cs := by first | decide | exact List.mem_cons_self | simp [lw_cs, nanBits]
-- ===== end of PART A; then your names; then what follows =====
def RX0 : String := "DiceCups$Answering"
def TX0 : u_T := fun k => match k with
  | 0 => ("DiceCups$Answering", "table", "LDiceCups$Table;", true)
  | 1 => ("DiceCups$Answering", "shares", "LDiceCups$Shares;", true)
  | 2 => ("DiceCups$Answering", "reach", "[D", true)
  | 3 => ("DiceCups$Answering", "player", "I", false)
  | 4 => ("DiceCups$Answering", "own", "I", false)
  | _ => ("DiceCups$Answering", "chosen", "I", false)
def tyX0 : Nat → FieldType := fun k => match k with
  | 0 => .object "DiceCups$Table"
  | 1 => .object "DiceCups$Shares"
  | 2 => .array .double
  | 3 => .int
  | 4 => .int
  | _ => .int
theorem nmX0 : ∀ a, a < 6 → ∀ b, b < 6 → a ≠ b → (TX0 a).2.1 ≠ (TX0 b).2.1 := by decide +kernel
theorem tyX0_ok : ∀ k, k < 6 → parseFieldDescriptor (TX0 k).2.2.1 = some (tyX0 k) := by decide +kernel
abbrev cX0_init : ByteArray := prog_2_method_1_code
def yX0_init : MethodName := ⟨RX0, "<init>", "(LDiceCups$Table;)V"⟩
abbrev cX0_study : ByteArray := prog_2_method_2_code
def yX0_study : MethodName := ⟨RX0, "study", "(LDiceCups$Plans;II)V"⟩
abbrev cX0_winnings : ByteArray := prog_2_method_3_code
def yX0_winnings : MethodName := ⟨RX0, "winnings", "()D"⟩
abbrev cX0_firstMove : ByteArray := prog_2_method_4_code
def yX0_firstMove : MethodName := ⟨RX0, "firstMove", "(I)I"⟩
abbrev cX0_moveBehind : ByteArray := prog_2_method_5_code
def yX0_moveBehind : MethodName := ⟨RX0, "moveBehind", "(II)I"⟩
abbrev cX0_other : ByteArray := prog_2_method_6_code
def yX0_other : MethodName := ⟨RX0, "other", "()LDiceCups$Cup;"⟩
abbrev cX0_hold : ByteArray := prog_2_method_7_code
def yX0_hold : MethodName := ⟨RX0, "hold", "(I)V"⟩
abbrev cX0_value : ByteArray := prog_2_method_8_code
def yX0_value : MethodName := ⟨RX0, "value", "(IIII)D"⟩
abbrev cX0_ownValue : ByteArray := prog_2_method_9_code
def yX0_ownValue : MethodName := ⟨RX0, "ownValue", "(III)D"⟩
abbrev cX0_otherValue : ByteArray := prog_2_method_10_code
def yX0_otherValue : MethodName := ⟨RX0, "otherValue", "(III)D"⟩
abbrev cX0_follow : ByteArray := prog_2_method_11_code
def yX0_follow : MethodName := ⟨RX0, "follow", "(III)Z"⟩
abbrev cX0_addCallWins : ByteArray := prog_2_method_12_code
def yX0_addCallWins : MethodName := ⟨RX0, "addCallWins", "(DIII)D"⟩
def RX1 : String := "DiceCups$Cup"
def TX1 : u_T := fun k => match k with
  | 0 => ("DiceCups$Cup", "pips", "[I", true)
  | 1 => ("DiceCups$Cup", "ways", "[I", true)
  | 2 => ("DiceCups$Cup", "row", "[I", true)
  | 3 => ("DiceCups$Cup", "dice", "I", false)
  | 4 => ("DiceCups$Cup", "faces", "I", false)
  | _ => ("DiceCups$Cup", "size", "I", false)
def tyX1 : Nat → FieldType := fun k => match k with
  | 0 => .array .int
  | 1 => .array .int
  | 2 => .array .int
  | 3 => .int
  | 4 => .int
  | _ => .int
theorem nmX1 : ∀ a, a < 6 → ∀ b, b < 6 → a ≠ b → (TX1 a).2.1 ≠ (TX1 b).2.1 := by decide +kernel
theorem tyX1_ok : ∀ k, k < 6 → parseFieldDescriptor (TX1 k).2.2.1 = some (tyX1 k) := by decide +kernel
abbrev cX1_init : ByteArray := prog_3_method_1_code
def yX1_init : MethodName := ⟨RX1, "<init>", "()V"⟩
abbrev cX1_fill : ByteArray := prog_3_method_2_code
def yX1_fill : MethodName := ⟨RX1, "fill", "(II)V"⟩
abbrev cX1_writeHand : ByteArray := prog_3_method_3_code
def yX1_writeHand : MethodName := ⟨RX1, "writeHand", "(I)V"⟩
abbrev cX1_stepRow : ByteArray := prog_3_method_4_code
def yX1_stepRow : MethodName := ⟨RX1, "stepRow", "()Z"⟩
abbrev cX1_factorial : ByteArray := prog_3_method_5_code
def yX1_factorial : MethodName := ⟨RX1, "factorial", "(I)I"⟩
abbrev cX1_spotOf : ByteArray := prog_3_method_6_code
def yX1_spotOf : MethodName := ⟨RX1, "spotOf", "(II)I"⟩
abbrev cX1_pipsOf : ByteArray := prog_3_method_7_code
def yX1_pipsOf : MethodName := ⟨RX1, "pipsOf", "(II)I"⟩
abbrev cX1_waysOf : ByteArray := prog_3_method_8_code
def yX1_waysOf : MethodName := ⟨RX1, "waysOf", "(I)I"⟩
abbrev cX1_allWays : ByteArray := prog_3_method_9_code
def yX1_allWays : MethodName := ⟨RX1, "allWays", "()I"⟩
abbrev cX1_find : ByteArray := prog_3_method_10_code
def yX1_find : MethodName := ⟨RX1, "find", "([I)I"⟩
abbrev cX1_isLike : ByteArray := prog_3_method_11_code
def yX1_isLike : MethodName := ⟨RX1, "isLike", "(I[I)Z"⟩
def RX2 : String := "DiceCups$Game"
def TX2 : u_T := fun k => match k with
  | 0 => ("DiceCups$Game", "table", "LDiceCups$Table;", true)
  | 1 => ("DiceCups$Game", "thrown", "[I", true)
  | 2 => ("DiceCups$Game", "x", "I", false)
  | 3 => ("DiceCups$Game", "there", "Z", false)
  | 4 => ("DiceCups$Game", "firstHand", "I", false)
  | 5 => ("DiceCups$Game", "secondHand", "I", false)
  | 6 => ("DiceCups$Game", "mover", "I", false)
  | 7 => ("DiceCups$Game", "last", "I", false)
  | 8 => ("DiceCups$Game", "made", "I", false)
  | 9 => ("DiceCups$Game", "winner", "I", false)
  | 10 => ("DiceCups$Game", "wonByFirst", "I", false)
  | _ => ("DiceCups$Game", "wonBySecond", "I", false)
def tyX2 : Nat → FieldType := fun k => match k with
  | 0 => .object "DiceCups$Table"
  | 1 => .array .int
  | 2 => .int
  | 3 => .boolean
  | 4 => .int
  | 5 => .int
  | 6 => .int
  | 7 => .int
  | 8 => .int
  | 9 => .int
  | 10 => .int
  | _ => .int
theorem nmX2 : ∀ a, a < 12 → ∀ b, b < 12 → a ≠ b → (TX2 a).2.1 ≠ (TX2 b).2.1 := by decide +kernel
theorem tyX2_ok : ∀ k, k < 12 → parseFieldDescriptor (TX2 k).2.2.1 = some (tyX2 k) := by decide +kernel
abbrev cX2_init : ByteArray := prog_4_method_1_code
def yX2_init : MethodName := ⟨RX2, "<init>", "(LDiceCups$Table;)V"⟩
abbrev cX2_forget : ByteArray := prog_4_method_2_code
def yX2_forget : MethodName := ⟨RX2, "forget", "()V"⟩
abbrev cX2_begin : ByteArray := prog_4_method_3_code
def yX2_begin : MethodName := ⟨RX2, "begin", "(I)V"⟩
abbrev cX2_draw : ByteArray := prog_4_method_4_code
def yX2_draw : MethodName := ⟨RX2, "draw", "(LDiceCups$Cup;)I"⟩
abbrev cX2_handOf : ByteArray := prog_4_method_5_code
def yX2_handOf : MethodName := ⟨RX2, "handOf", "(I)I"⟩
abbrev cX2_goesOn : ByteArray := prog_4_method_6_code
def yX2_goesOn : MethodName := ⟨RX2, "goesOn", "()Z"⟩
abbrev cX2_bid : ByteArray := prog_4_method_7_code
def yX2_bid : MethodName := ⟨RX2, "bid", "(I)V"⟩
abbrev cX2_end : ByteArray := prog_4_method_8_code
def yX2_end : MethodName := ⟨RX2, "end", "()V"⟩
abbrev cX2_fact : ByteArray := prog_4_method_9_code
def yX2_fact : MethodName := ⟨RX2, "fact", "(I)I"⟩
def RX3 : String := "DiceCups$Match"
def TX3 : u_T := fun k => match k with
  | 0 => ("DiceCups$Match", "table", "LDiceCups$Table;", true)
  | 1 => ("DiceCups$Match", "firstShares", "LDiceCups$Shares;", true)
  | 2 => ("DiceCups$Match", "secondShares", "LDiceCups$Shares;", true)
  | _ => ("DiceCups$Match", "behind", "[D", true)
def tyX3 : Nat → FieldType := fun k => match k with
  | 0 => .object "DiceCups$Table"
  | 1 => .object "DiceCups$Shares"
  | 2 => .object "DiceCups$Shares"
  | _ => .array .double
theorem nmX3 : ∀ a, a < 4 → ∀ b, b < 4 → a ≠ b → (TX3 a).2.1 ≠ (TX3 b).2.1 := by decide +kernel
theorem tyX3_ok : ∀ k, k < 4 → parseFieldDescriptor (TX3 k).2.2.1 = some (tyX3 k) := by decide +kernel
abbrev cX3_init : ByteArray := prog_5_method_1_code
def yX3_init : MethodName := ⟨RX3, "<init>", "(LDiceCups$Table;)V"⟩
abbrev cX3_play : ByteArray := prog_5_method_2_code
def yX3_play : MethodName := ⟨RX3, "play", "(LDiceCups$Plans;II)D"⟩
abbrev cX3_expected : ByteArray := prog_5_method_3_code
def yX3_expected : MethodName := ⟨RX3, "expected", "(II)D"⟩
abbrev cX3_expectedAt : ByteArray := prog_5_method_4_code
def yX3_expectedAt : MethodName := ⟨RX3, "expectedAt", "(IIII)D"⟩
def RX4 : String := "DiceCups$Plans"
def TX4 : u_T := fun k => match k with
  | _ => ("DiceCups$Plans", "weights", "[I", true)
def tyX4 : Nat → FieldType := fun k => match k with
  | _ => .array .int
theorem nmX4 : ∀ a, a < 1 → ∀ b, b < 1 → a ≠ b → (TX4 a).2.1 ≠ (TX4 b).2.1 := by decide +kernel
theorem tyX4_ok : ∀ k, k < 1 → parseFieldDescriptor (TX4 k).2.2.1 = some (tyX4 k) := by decide +kernel
abbrev cX4_init : ByteArray := prog_6_method_1_code
def yX4_init : MethodName := ⟨RX4, "<init>", "()V"⟩
abbrev cX4_reset : ByteArray := prog_6_method_2_code
def yX4_reset : MethodName := ⟨RX4, "reset", "()V"⟩
abbrev cX4_spot : ByteArray := prog_6_method_3_code
def yX4_spot : MethodName := ⟨RX4, "spot", "(IIIII)I"⟩
abbrev cX4_change : ByteArray := prog_6_method_4_code
def yX4_change : MethodName := ⟨RX4, "change", "(II)I"⟩
abbrev cX4_weightAt : ByteArray := prog_6_method_5_code
def yX4_weightAt : MethodName := ⟨RX4, "weightAt", "(I)I"⟩
abbrev cX4_mix : ByteArray := prog_6_method_6_code
def yX4_mix : MethodName := ⟨RX4, "mix", "(JILDiceCups$Cup;I)J"⟩
def RX5 : String := "DiceCups$Shares"
def TX5 : u_T := fun k => match k with
  | _ => ("DiceCups$Shares", "shares", "[D", true)
def tyX5 : Nat → FieldType := fun k => match k with
  | _ => .array .double
theorem nmX5 : ∀ a, a < 1 → ∀ b, b < 1 → a ≠ b → (TX5 a).2.1 ≠ (TX5 b).2.1 := by decide +kernel
theorem tyX5_ok : ∀ k, k < 1 → parseFieldDescriptor (TX5 k).2.2.1 = some (tyX5 k) := by decide +kernel
abbrev cX5_init : ByteArray := prog_7_method_1_code
def yX5_init : MethodName := ⟨RX5, "<init>", "()V"⟩
abbrev cX5_take : ByteArray := prog_7_method_2_code
def yX5_take : MethodName := ⟨RX5, "take", "(LDiceCups$Plans;ILDiceCups$Cup;I)V"⟩
abbrev cX5_takeMoves : ByteArray := prog_7_method_3_code
def yX5_takeMoves : MethodName := ⟨RX5, "takeMoves", "(LDiceCups$Plans;IIII)V"⟩
abbrev cX5_spotOf : ByteArray := prog_7_method_4_code
def yX5_spotOf : MethodName := ⟨RX5, "spotOf", "(III)I"⟩
abbrev cX5_of : ByteArray := prog_7_method_5_code
def yX5_of : MethodName := ⟨RX5, "of", "(III)D"⟩
def RX6 : String := "DiceCups$Table"
def TX6 : u_T := fun k => match k with
  | 0 => ("DiceCups$Table", "first", "LDiceCups$Cup;", true)
  | 1 => ("DiceCups$Table", "second", "LDiceCups$Cup;", true)
  | 2 => ("DiceCups$Table", "truths", "[I", true)
  | 3 => ("DiceCups$Table", "faces", "I", false)
  | 4 => ("DiceCups$Table", "bids", "I", false)
  | _ => ("DiceCups$Table", "wild", "Z", false)
def tyX6 : Nat → FieldType := fun k => match k with
  | 0 => .object "DiceCups$Cup"
  | 1 => .object "DiceCups$Cup"
  | 2 => .array .int
  | 3 => .int
  | 4 => .int
  | _ => .boolean
theorem nmX6 : ∀ a, a < 6 → ∀ b, b < 6 → a ≠ b → (TX6 a).2.1 ≠ (TX6 b).2.1 := by decide +kernel
theorem tyX6_ok : ∀ k, k < 6 → parseFieldDescriptor (TX6 k).2.2.1 = some (tyX6 k) := by decide +kernel
abbrev cX6_init : ByteArray := prog_8_method_1_code
def yX6_init : MethodName := ⟨RX6, "<init>", "()V"⟩
abbrev cX6_lay : ByteArray := prog_8_method_2_code
def yX6_lay : MethodName := ⟨RX6, "lay", "(IIIZ)V"⟩
abbrev cX6_judgeBids : ByteArray := prog_8_method_3_code
def yX6_judgeBids : MethodName := ⟨RX6, "judgeBids", "()V"⟩
abbrev cX6_judge : ByteArray := prog_8_method_4_code
def yX6_judge : MethodName := ⟨RX6, "judge", "(III)V"⟩
abbrev cX6_countsFor : ByteArray := prog_8_method_5_code
def yX6_countsFor : MethodName := ⟨RX6, "countsFor", "(LDiceCups$Cup;II)I"⟩
abbrev cX6_spotOf : ByteArray := prog_8_method_6_code
def yX6_spotOf : MethodName := ⟨RX6, "spotOf", "(III)I"⟩
abbrev cX6_cup : ByteArray := prog_8_method_7_code
def yX6_cup : MethodName := ⟨RX6, "cup", "(I)LDiceCups$Cup;"⟩
abbrev cX6_isTrue : ByteArray := prog_8_method_8_code
def yX6_isTrue : MethodName := ⟨RX6, "isTrue", "(III)Z"⟩
abbrev cX6_isTrueFor : ByteArray := prog_8_method_9_code
def yX6_isTrueFor : MethodName := ⟨RX6, "isTrueFor", "(IIII)Z"⟩
abbrev cX6_waysToHold : ByteArray := prog_8_method_10_code
def yX6_waysToHold : MethodName := ⟨RX6, "waysToHold", "(III)I"⟩
abbrev cX6_meanOf : ByteArray := prog_8_method_11_code
def yX6_meanOf : MethodName := ⟨RX6, "meanOf", "(D)D"⟩
def RX7 : String := "DiceCups"
def TX7 : u_T := fun k => match k with
  | 0 => ("DiceCups", "table", "LDiceCups$Table;", true)
  | 1 => ("DiceCups", "plans", "LDiceCups$Plans;", true)
  | 2 => ("DiceCups", "match", "LDiceCups$Match;", true)
  | 3 => ("DiceCups", "answering", "LDiceCups$Answering;", true)
  | _ => ("DiceCups", "game", "LDiceCups$Game;", true)
def tyX7 : Nat → FieldType := fun k => match k with
  | 0 => .object "DiceCups$Table"
  | 1 => .object "DiceCups$Plans"
  | 2 => .object "DiceCups$Match"
  | 3 => .object "DiceCups$Answering"
  | _ => .object "DiceCups$Game"
theorem nmX7 : ∀ a, a < 5 → ∀ b, b < 5 → a ≠ b → (TX7 a).2.1 ≠ (TX7 b).2.1 := by decide +kernel
theorem tyX7_ok : ∀ k, k < 5 → parseFieldDescriptor (TX7 k).2.2.1 = some (tyX7 k) := by decide +kernel
abbrev cX7_init : ByteArray := prog_1_method_1_code
def yX7_init : MethodName := ⟨RX7, "<init>", "()V"⟩
abbrev cX7_cups : ByteArray := prog_1_method_2_code
def yX7_cups : MethodName := ⟨RX7, "cups", "(IIIZ)I"⟩
abbrev cX7_hands : ByteArray := prog_1_method_3_code
def yX7_hands : MethodName := ⟨RX7, "hands", "(I)I"⟩
abbrev cX7_hand : ByteArray := prog_1_method_4_code
def yX7_hand : MethodName := ⟨RX7, "hand", "(III)I"⟩
abbrev cX7_throwsOf : ByteArray := prog_1_method_5_code
def yX7_throwsOf : MethodName := ⟨RX7, "throwsOf", "(II)I"⟩
abbrev cX7_holds : ByteArray := prog_1_method_6_code
def yX7_holds : MethodName := ⟨RX7, "holds", "(III)I"⟩
abbrev cX7_chance : ByteArray := prog_1_method_7_code
def yX7_chance : MethodName := ⟨RX7, "chance", "(IIII)I"⟩
abbrev cX7_surest : ByteArray := prog_1_method_8_code
def yX7_surest : MethodName := ⟨RX7, "surest", "(IIII)I"⟩
abbrev cX7_weigh : ByteArray := prog_1_method_9_code
def yX7_weigh : MethodName := ⟨RX7, "weigh", "(IIIIII)I"⟩
abbrev cX7_worth : ByteArray := prog_1_method_10_code
def yX7_worth : MethodName := ⟨RX7, "worth", "(II)J"⟩
abbrev cX7_answer : ByteArray := prog_1_method_11_code
def yX7_answer : MethodName := ⟨RX7, "answer", "(II)J"⟩
abbrev cX7_opening : ByteArray := prog_1_method_12_code
def yX7_opening : MethodName := ⟨RX7, "opening", "(II)I"⟩
abbrev cX7_reply : ByteArray := prog_1_method_13_code
def yX7_reply : MethodName := ⟨RX7, "reply", "(III)I"⟩
abbrev cX7_round : ByteArray := prog_1_method_14_code
def yX7_round : MethodName := ⟨RX7, "round", "(I)I"⟩
abbrev cX7_held : ByteArray := prog_1_method_15_code
def yX7_held : MethodName := ⟨RX7, "held", "(I)I"⟩
abbrev cX7_move : ByteArray := prog_1_method_16_code
def yX7_move : MethodName := ⟨RX7, "move", "(I)I"⟩
abbrev cX7_about : ByteArray := prog_1_method_17_code
def yX7_about : MethodName := ⟨RX7, "about", "(I)I"⟩
abbrev cX7_count : ByteArray := prog_1_method_18_code
def yX7_count : MethodName := ⟨RX7, "count", "(I)I"⟩
abbrev cX7_digest : ByteArray := prog_1_method_19_code
def yX7_digest : MethodName := ⟨RX7, "digest", "()J"⟩
abbrev cX7_within : ByteArray := prog_1_method_20_code
def yX7_within : MethodName := ⟨RX7, "within", "(III)Z"⟩
abbrev cX7_isPlayer : ByteArray := prog_1_method_21_code
def yX7_isPlayer : MethodName := ⟨RX7, "isPlayer", "(I)Z"⟩
abbrev cX7_isPlan : ByteArray := prog_1_method_22_code
def yX7_isPlan : MethodName := ⟨RX7, "isPlan", "(I)Z"⟩
abbrev cX7_isHand : ByteArray := prog_1_method_23_code
def yX7_isHand : MethodName := ⟨RX7, "isHand", "(II)Z"⟩
abbrev cX7_isBid : ByteArray := prog_1_method_24_code
def yX7_isBid : MethodName := ⟨RX7, "isBid", "(I)Z"⟩
abbrev cX7_isBidOrNone : ByteArray := prog_1_method_25_code
def yX7_isBidOrNone : MethodName := ⟨RX7, "isBidOrNone", "(I)Z"⟩
abbrev cX7_mayFollow : ByteArray := prog_1_method_26_code
def yX7_mayFollow : MethodName := ⟨RX7, "mayFollow", "(II)Z"⟩
abbrev cX7_at : ByteArray := prog_1_method_27_code
def yX7_at : MethodName := ⟨RX7, "at", "([II)I"⟩
abbrev cX7_put : ByteArray := prog_1_method_28_code
def yX7_put : MethodName := ⟨RX7, "put", "([III)V"⟩
abbrev cX7_realAt : ByteArray := prog_1_method_29_code
def yX7_realAt : MethodName := ⟨RX7, "realAt", "([DI)D"⟩
abbrev cX7_putReal : ByteArray := prog_1_method_30_code
def yX7_putReal : MethodName := ⟨RX7, "putReal", "([DID)V"⟩
abbrev cX7_cut : ByteArray := prog_1_method_31_code
def yX7_cut : MethodName := ⟨RX7, "cut", "(II)I"⟩
abbrev cX7_leftOver : ByteArray := prog_1_method_32_code
def yX7_leftOver : MethodName := ⟨RX7, "leftOver", "(II)I"⟩
abbrev cX7_commonDivisor : ByteArray := prog_1_method_33_code
def yX7_commonDivisor : MethodName := ⟨RX7, "commonDivisor", "(II)I"⟩
abbrev cX7_bitsOf : ByteArray := prog_1_method_34_code
def yX7_bitsOf : MethodName := ⟨RX7, "bitsOf", "(D)J"⟩
def RX8 : String := "DiceCupsModel"
def TX8 : u_T := fun k => match k with
  | 0 => ("DiceCupsModel", "d0", "I", false)
  | 1 => ("DiceCupsModel", "d1", "I", false)
  | 2 => ("DiceCupsModel", "faces", "I", false)
  | 3 => ("DiceCupsModel", "isWild", "Z", false)
  | 4 => ("DiceCupsModel", "counts", "[I", true)
  | 5 => ("DiceCupsModel", "hands", "[I", true)
  | 6 => ("DiceCupsModel", "throwsOf", "[I", true)
  | 7 => ("DiceCupsModel", "weights", "[I", true)
  | 8 => ("DiceCupsModel", "wasRound", "Z", false)
  | 9 => ("DiceCupsModel", "held", "[I", true)
  | 10 => ("DiceCupsModel", "mover", "I", false)
  | 11 => ("DiceCupsModel", "last", "I", false)
  | 12 => ("DiceCupsModel", "bids", "I", false)
  | 13 => ("DiceCupsModel", "winner", "I", false)
  | 14 => ("DiceCupsModel", "wonFirst", "I", false)
  | 15 => ("DiceCupsModel", "wonSecond", "I", false)
  | 16 => ("DiceCupsModel", "row", "[I", true)
  | 17 => ("DiceCupsModel", "behind", "[D", true)
  | 18 => ("DiceCupsModel", "left", "[D", true)
  | 19 => ("DiceCupsModel", "lastAt", "[I", true)
  | 20 => ("DiceCupsModel", "moveAt", "[I", true)
  | 21 => ("DiceCupsModel", "valueAt", "[D", true)
  | 22 => ("DiceCupsModel", "bestAt", "[I", true)
  | 23 => ("DiceCupsModel", "hasBest", "[Z", true)
  | 24 => ("DiceCupsModel", "seedNow", "I", false)
  | _ => ("DiceCupsModel", "drawnFaces", "[I", true)
def tyX8 : Nat → FieldType := fun k => match k with
  | 0 => .int
  | 1 => .int
  | 2 => .int
  | 3 => .boolean
  | 4 => .array .int
  | 5 => .array .int
  | 6 => .array .int
  | 7 => .array .int
  | 8 => .boolean
  | 9 => .array .int
  | 10 => .int
  | 11 => .int
  | 12 => .int
  | 13 => .int
  | 14 => .int
  | 15 => .int
  | 16 => .array .int
  | 17 => .array .double
  | 18 => .array .double
  | 19 => .array .int
  | 20 => .array .int
  | 21 => .array .double
  | 22 => .array .int
  | 23 => .array .boolean
  | 24 => .int
  | _ => .array .int
theorem nmX8 : ∀ a, a < 26 → ∀ b, b < 26 → a ≠ b → (TX8 a).2.1 ≠ (TX8 b).2.1 := by decide +kernel
theorem tyX8_ok : ∀ k, k < 26 → parseFieldDescriptor (TX8 k).2.2.1 = some (tyX8 k) := by decide +kernel
abbrev cX8_init : ByteArray := prog_10_method_1_code
def yX8_init : MethodName := ⟨RX8, "<init>", "()V"⟩
abbrev cX8_in : ByteArray := prog_10_method_2_code
def yX8_in : MethodName := ⟨RX8, "in", "(III)Z"⟩
abbrev cX8_dice : ByteArray := prog_10_method_3_code
def yX8_dice : MethodName := ⟨RX8, "dice", "(I)I"⟩
abbrev cX8_most : ByteArray := prog_10_method_4_code
def yX8_most : MethodName := ⟨RX8, "most", "()I"⟩
abbrev cX8_product : ByteArray := prog_10_method_5_code
def yX8_product : MethodName := ⟨RX8, "product", "(I)I"⟩
abbrev cX8_layHands : ByteArray := prog_10_method_6_code
def yX8_layHands : MethodName := ⟨RX8, "layHands", "(I)V"⟩
abbrev cX8_lay : ByteArray := prog_10_method_7_code
def yX8_lay : MethodName := ⟨RX8, "lay", "()V"⟩
abbrev cX8_cups : ByteArray := prog_10_method_8_code
def yX8_cups : MethodName := ⟨RX8, "cups", "(IIIZ)I"⟩
abbrev cX8_isPlayer : ByteArray := prog_10_method_9_code
def yX8_isPlayer : MethodName := ⟨RX8, "isPlayer", "(I)Z"⟩
abbrev cX8_isHand : ByteArray := prog_10_method_10_code
def yX8_isHand : MethodName := ⟨RX8, "isHand", "(II)Z"⟩
abbrev cX8_isBid : ByteArray := prog_10_method_11_code
def yX8_isBid : MethodName := ⟨RX8, "isBid", "(I)Z"⟩
abbrev cX8_hands : ByteArray := prog_10_method_12_code
def yX8_hands : MethodName := ⟨RX8, "hands", "(I)I"⟩
abbrev cX8_hand : ByteArray := prog_10_method_13_code
def yX8_hand : MethodName := ⟨RX8, "hand", "(III)I"⟩
abbrev cX8_throwsOf : ByteArray := prog_10_method_14_code
def yX8_throwsOf : MethodName := ⟨RX8, "throwsOf", "(II)I"⟩
abbrev cX8_countsFor : ByteArray := prog_10_method_15_code
def yX8_countsFor : MethodName := ⟨RX8, "countsFor", "(III)I"⟩
abbrev cX8_doesHold : ByteArray := prog_10_method_16_code
def yX8_doesHold : MethodName := ⟨RX8, "doesHold", "(III)Z"⟩
abbrev cX8_holds : ByteArray := prog_10_method_17_code
def yX8_holds : MethodName := ⟨RX8, "holds", "(III)I"⟩
abbrev cX8_throwsFor : ByteArray := prog_10_method_18_code
def yX8_throwsFor : MethodName := ⟨RX8, "throwsFor", "(III)I"⟩
abbrev cX8_power : ByteArray := prog_10_method_19_code
def yX8_power : MethodName := ⟨RX8, "power", "(I)I"⟩
abbrev cX8_chance : ByteArray := prog_10_method_20_code
def yX8_chance : MethodName := ⟨RX8, "chance", "(IIII)I"⟩
abbrev cX8_surest : ByteArray := prog_10_method_21_code
def yX8_surest : MethodName := ⟨RX8, "surest", "(IIII)I"⟩
abbrev cX8_isPlan : ByteArray := prog_10_method_22_code
def yX8_isPlan : MethodName := ⟨RX8, "isPlan", "(I)Z"⟩
abbrev cX8_mayMove : ByteArray := prog_10_method_23_code
def yX8_mayMove : MethodName := ⟨RX8, "mayMove", "(II)Z"⟩
abbrev cX8_at : ByteArray := prog_10_method_24_code
def yX8_at : MethodName := ⟨RX8, "at", "(IIIII)I"⟩
abbrev cX8_weigh : ByteArray := prog_10_method_25_code
def yX8_weigh : MethodName := ⟨RX8, "weigh", "(IIIIII)I"⟩
abbrev cX8_total : ByteArray := prog_10_method_26_code
def yX8_total : MethodName := ⟨RX8, "total", "(IIII)I"⟩
abbrev cX8_part : ByteArray := prog_10_method_27_code
def yX8_part : MethodName := ⟨RX8, "part", "(IIIII)D"⟩
abbrev cX8_wins : ByteArray := prog_10_method_28_code
def yX8_wins : MethodName := ⟨RX8, "wins", "(IIIII)Z"⟩
abbrev cX8_worthOf : ByteArray := prog_10_method_29_code
def yX8_worthOf : MethodName := ⟨RX8, "worthOf", "(IIII)D"⟩
abbrev cX8_worth : ByteArray := prog_10_method_30_code
def yX8_worth : MethodName := ⟨RX8, "worth", "(II)J"⟩
abbrev cX8_enter : ByteArray := prog_10_method_31_code
def yX8_enter : MethodName := ⟨RX8, "enter", "(II)V"⟩
abbrev cX8_offer : ByteArray := prog_10_method_32_code
def yX8_offer : MethodName := ⟨RX8, "offer", "(ID)V"⟩
abbrev cX8_leads : ByteArray := prog_10_method_33_code
def yX8_leads : MethodName := ⟨RX8, "leads", "(IIII)Z"⟩
abbrev cX8_winsBy : ByteArray := prog_10_method_34_code
def yX8_winsBy : MethodName := ⟨RX8, "winsBy", "(IIIII)Z"⟩
abbrev cX8_call : ByteArray := prog_10_method_35_code
def yX8_call : MethodName := ⟨RX8, "call", "(IIII)V"⟩
abbrev cX8_answerOf : ByteArray := prog_10_method_36_code
def yX8_answerOf : MethodName := ⟨RX8, "answerOf", "(IIII)D"⟩
abbrev cX8_begin : ByteArray := prog_10_method_37_code
def yX8_begin : MethodName := ⟨RX8, "begin", "(I)V"⟩
abbrev cX8_answer : ByteArray := prog_10_method_38_code
def yX8_answer : MethodName := ⟨RX8, "answer", "(II)J"⟩
abbrev cX8_opening : ByteArray := prog_10_method_39_code
def yX8_opening : MethodName := ⟨RX8, "opening", "(II)I"⟩
abbrev cX8_reply : ByteArray := prog_10_method_40_code
def yX8_reply : MethodName := ⟨RX8, "reply", "(III)I"⟩
abbrev cX8_drawn : ByteArray := prog_10_method_41_code
def yX8_drawn : MethodName := ⟨RX8, "drawn", "(I)I"⟩
abbrev cX8_round : ByteArray := prog_10_method_42_code
def yX8_round : MethodName := ⟨RX8, "round", "(I)I"⟩
abbrev cX8_held : ByteArray := prog_10_method_43_code
def yX8_held : MethodName := ⟨RX8, "held", "(I)I"⟩
abbrev cX8_move : ByteArray := prog_10_method_44_code
def yX8_move : MethodName := ⟨RX8, "move", "(I)I"⟩
abbrev cX8_about : ByteArray := prog_10_method_45_code
def yX8_about : MethodName := ⟨RX8, "about", "(I)I"⟩
abbrev cX8_count : ByteArray := prog_10_method_46_code
def yX8_count : MethodName := ⟨RX8, "count", "(I)I"⟩
abbrev cX8_digest : ByteArray := prog_10_method_47_code
def yX8_digest : MethodName := ⟨RX8, "digest", "()J"⟩
def RJx145de : String := "java/io/Serializable"
def TJx145de : u_T := fun k => match k with
  | _ => ("", "", "", false)
def tyJx145de : Nat → FieldType := fun k => match k with
  | _ => .int
theorem nmJx145de : ∀ a, a < 0 → ∀ b, b < 0 → a ≠ b → (TJx145de a).2.1 ≠ (TJx145de b).2.1 := by decide +kernel
theorem tyJx145de_ok : ∀ k, k < 0 → parseFieldDescriptor (TJx145de k).2.2.1 = some (tyJx145de k) := by decide +kernel
def RJxb160c : String := "java/lang/Comparable"
def TJxb160c : u_T := fun k => match k with
  | _ => ("", "", "", false)
def tyJxb160c : Nat → FieldType := fun k => match k with
  | _ => .int
theorem nmJxb160c : ∀ a, a < 0 → ∀ b, b < 0 → a ≠ b → (TJxb160c a).2.1 ≠ (TJxb160c b).2.1 := by decide +kernel
theorem tyJxb160c_ok : ∀ k, k < 0 → parseFieldDescriptor (TJxb160c k).2.2.1 = some (tyJxb160c k) := by decide +kernel
def RJxe99ae : String := "java/lang/Double"
def TJxe99ae : u_T := fun k => match k with
  | _ => ("", "", "", false)
def tyJxe99ae : Nat → FieldType := fun k => match k with
  | _ => .int
theorem nmJxe99ae : ∀ a, a < 0 → ∀ b, b < 0 → a ≠ b → (TJxe99ae a).2.1 ≠ (TJxe99ae b).2.1 := by decide +kernel
theorem tyJxe99ae_ok : ∀ k, k < 0 → parseFieldDescriptor (TJxe99ae k).2.2.1 = some (tyJxe99ae k) := by decide +kernel
abbrev cJxe99ae_isNaN_b9ae7 : ByteArray := prog_11_method_6_code
def yJxe99ae_isNaN_b9ae7 : MethodName := ⟨RJxe99ae, "isNaN", "(D)Z"⟩
abbrev cJxe99ae_doubleToLongBits_ccdee : ByteArray := prog_11_method_23_code
def yJxe99ae_doubleToLongBits_ccdee : MethodName := ⟨RJxe99ae, "doubleToLongBits", "(D)J"⟩
def RJxd2413 : String := "java/lang/Number"
def TJxd2413 : u_T := fun k => match k with
  | _ => ("", "", "", false)
def tyJxd2413 : Nat → FieldType := fun k => match k with
  | _ => .int
theorem nmJxd2413 : ∀ a, a < 0 → ∀ b, b < 0 → a ≠ b → (TJxd2413 a).2.1 ≠ (TJxd2413 b).2.1 := by decide +kernel
theorem tyJxd2413_ok : ∀ k, k < 0 → parseFieldDescriptor (TJxd2413 k).2.2.1 = some (tyJxd2413 k) := by decide +kernel
def RJxfd54e : String := "java/lang/constant/Constable"
def TJxfd54e : u_T := fun k => match k with
  | _ => ("", "", "", false)
def tyJxfd54e : Nat → FieldType := fun k => match k with
  | _ => .int
theorem nmJxfd54e : ∀ a, a < 0 → ∀ b, b < 0 → a ≠ b → (TJxfd54e a).2.1 ≠ (TJxfd54e b).2.1 := by decide +kernel
theorem tyJxfd54e_ok : ∀ k, k < 0 → parseFieldDescriptor (TJxfd54e k).2.2.1 = some (tyJxfd54e k) := by decide +kernel
def RJx3cf43 : String := "java/lang/constant/ConstantDesc"
def TJx3cf43 : u_T := fun k => match k with
  | _ => ("", "", "", false)
def tyJx3cf43 : Nat → FieldType := fun k => match k with
  | _ => .int
theorem nmJx3cf43 : ∀ a, a < 0 → ∀ b, b < 0 → a ≠ b → (TJx3cf43 a).2.1 ≠ (TJx3cf43 b).2.1 := by decide +kernel
theorem tyJx3cf43_ok : ∀ k, k < 0 → parseFieldDescriptor (TJx3cf43 k).2.2.1 = some (tyJx3cf43 k) := by decide +kernel
def RJ7 : String := "java/util/Arrays"
def TJ7 : u_T := fun k => match k with
  | _ => ("", "", "", false)
def tyJ7 : Nat → FieldType := fun k => match k with
  | _ => .int
theorem nmJ7 : ∀ a, a < 0 → ∀ b, b < 0 → a ≠ b → (TJ7 a).2.1 ≠ (TJ7 b).2.1 := by decide +kernel
theorem tyJ7_ok : ∀ k, k < 0 → parseFieldDescriptor (TJ7 k).2.2.1 = some (tyJ7 k) := by decide +kernel
abbrev cJ7_fill_53178 : ByteArray := prog_13_method_103_code
def yJ7_fill_53178 : MethodName := ⟨RJ7, "fill", "([II)V"⟩
abbrev cJ7_fill_7f8df : ByteArray := prog_13_method_113_code
def yJ7_fill_7f8df : MethodName := ⟨RJ7, "fill", "([DD)V"⟩
def RL : String := "DiceCupsLaw"
abbrev cL_law : ByteArray := code
def yL_law : MethodName := ⟨RL, "law", "([I)Z"⟩
abbrev vwCl : List vw_C := [(RX0, TX0, 6), (RX1, TX1, 6), (RX2, TX2, 12), (RX3, TX3, 4), (RX4, TX4, 1), (RX5, TX5, 1), (RX6, TX6, 6), (RX7, TX7, 5), (RX8, TX8, 26)]
def gz_dec (b : ByteArray) (t : List (Nat × Instr × Nat)) : Bool := t.all (fun q => decide (decode b q.1 = .ok (q.2.1, q.2.2)))
theorem gz_d {b : ByteArray} {t : List (Nat × Instr × Nat)} (h : gz_dec b t = true) (i : Nat) {pc n : Nat} {ins : Instr} (hi : t[i]? = some (pc, ins, n)) : decode b pc = .ok (ins, n) := by
  have h1 := List.all_eq_true.mp h (pc, ins, n) (List.mem_of_getElem? hi)
  exact of_decide_eq_true (p := decode b pc = .ok (ins, n)) h1
