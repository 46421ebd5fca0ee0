section
-- ===== PART A: goes FIRST, ahead of the names: the tables' words, and 'selects' of the private methods out of them =====
/-- a private method of a class that the tables say can be made, by its rows of tables_1 -/
def lw_okq (q : MethodName × Nat) : Prop := (q.1.cls ≠ "java/lang/invoke/MethodHandle" ∧ q.1.cls ≠ "java/lang/invoke/VarHandle") ∧ Cond.instantiable q.1.cls q.2 ∈ tables_1 ∧ Cond.privateMethod q.1 ∈ tables_1 ∧ Cond.instanceMethod q.1 ∈ tables_1
theorem lw_p0 : lw_okq (⟨"DiceCups$Cup", "writeHand", "(I)V"⟩, 6) := ⟨⟨by decide +kernel, by decide +kernel⟩, List.mem_of_getElem? (i := 28) (by decide +kernel), List.mem_of_getElem? (i := 216) (by decide +kernel), List.mem_of_getElem? (i := 217) (by decide +kernel)⟩
theorem lw_p1 : lw_okq (⟨"DiceCups$Cup", "stepRow", "()Z"⟩, 6) := ⟨⟨by decide +kernel, by decide +kernel⟩, List.mem_of_getElem? (i := 28) (by decide +kernel), List.mem_of_getElem? (i := 239) (by decide +kernel), List.mem_of_getElem? (i := 240) (by decide +kernel)⟩
theorem lw_p2 : lw_okq (⟨"DiceCups$Table", "judgeBids", "()V"⟩, 6) := ⟨⟨by decide +kernel, by decide +kernel⟩, List.mem_of_getElem? (i := 22) (by decide +kernel), List.mem_of_getElem? (i := 243) (by decide +kernel), List.mem_of_getElem? (i := 244) (by decide +kernel)⟩
theorem lw_p3 : lw_okq (⟨"DiceCups$Table", "judge", "(III)V"⟩, 6) := ⟨⟨by decide +kernel, by decide +kernel⟩, List.mem_of_getElem? (i := 22) (by decide +kernel), List.mem_of_getElem? (i := 247) (by decide +kernel), List.mem_of_getElem? (i := 248) (by decide +kernel)⟩
theorem lw_p4 : lw_okq (⟨"DiceCups$Table", "countsFor", "(LDiceCups$Cup;II)I"⟩, 6) := ⟨⟨by decide +kernel, by decide +kernel⟩, List.mem_of_getElem? (i := 22) (by decide +kernel), List.mem_of_getElem? (i := 255) (by decide +kernel), List.mem_of_getElem? (i := 256) (by decide +kernel)⟩
theorem lw_p5 : lw_okq (⟨"DiceCups", "isHand", "(II)Z"⟩, 5) := ⟨⟨by decide +kernel, by decide +kernel⟩, List.mem_of_getElem? (i := 14) (by decide +kernel), List.mem_of_getElem? (i := 310) (by decide +kernel), List.mem_of_getElem? (i := 311) (by decide +kernel)⟩
theorem lw_p6 : lw_okq (⟨"DiceCups", "isBid", "(I)Z"⟩, 5) := ⟨⟨by decide +kernel, by decide +kernel⟩, List.mem_of_getElem? (i := 14) (by decide +kernel), List.mem_of_getElem? (i := 327) (by decide +kernel), List.mem_of_getElem? (i := 328) (by decide +kernel)⟩
theorem lw_p7 : lw_okq (⟨"DiceCups", "isBidOrNone", "(I)Z"⟩, 5) := ⟨⟨by decide +kernel, by decide +kernel⟩, List.mem_of_getElem? (i := 14) (by decide +kernel), List.mem_of_getElem? (i := 371) (by decide +kernel), List.mem_of_getElem? (i := 372) (by decide +kernel)⟩
theorem lw_p8 : lw_okq (⟨"DiceCups$Shares", "takeMoves", "(LDiceCups$Plans;IIII)V"⟩, 1) := ⟨⟨by decide +kernel, by decide +kernel⟩, List.mem_of_getElem? (i := 108) (by decide +kernel), List.mem_of_getElem? (i := 406) (by decide +kernel), List.mem_of_getElem? (i := 407) (by decide +kernel)⟩
theorem lw_p9 : lw_okq (⟨"DiceCups$Match", "expected", "(II)D"⟩, 4) := ⟨⟨by decide +kernel, by decide +kernel⟩, List.mem_of_getElem? (i := 102) (by decide +kernel), List.mem_of_getElem? (i := 422) (by decide +kernel), List.mem_of_getElem? (i := 423) (by decide +kernel)⟩
theorem lw_p10 : lw_okq (⟨"DiceCups$Match", "expectedAt", "(IIII)D"⟩, 4) := ⟨⟨by decide +kernel, by decide +kernel⟩, List.mem_of_getElem? (i := 102) (by decide +kernel), List.mem_of_getElem? (i := 426) (by decide +kernel), List.mem_of_getElem? (i := 427) (by decide +kernel)⟩
theorem lw_p11 : lw_okq (⟨"DiceCups$Answering", "other", "()LDiceCups$Cup;"⟩, 6) := ⟨⟨by decide +kernel, by decide +kernel⟩, List.mem_of_getElem? (i := 132) (by decide +kernel), List.mem_of_getElem? (i := 460) (by decide +kernel), List.mem_of_getElem? (i := 461) (by decide +kernel)⟩
theorem lw_p12 : lw_okq (⟨"DiceCups$Answering", "hold", "(I)V"⟩, 6) := ⟨⟨by decide +kernel, by decide +kernel⟩, List.mem_of_getElem? (i := 132) (by decide +kernel), List.mem_of_getElem? (i := 470) (by decide +kernel), List.mem_of_getElem? (i := 471) (by decide +kernel)⟩
theorem lw_p13 : lw_okq (⟨"DiceCups$Answering", "value", "(IIII)D"⟩, 6) := ⟨⟨by decide +kernel, by decide +kernel⟩, List.mem_of_getElem? (i := 132) (by decide +kernel), List.mem_of_getElem? (i := 476) (by decide +kernel), List.mem_of_getElem? (i := 477) (by decide +kernel)⟩
theorem lw_p14 : lw_okq (⟨"DiceCups$Answering", "ownValue", "(III)D"⟩, 6) := ⟨⟨by decide +kernel, by decide +kernel⟩, List.mem_of_getElem? (i := 132) (by decide +kernel), List.mem_of_getElem? (i := 480) (by decide +kernel), List.mem_of_getElem? (i := 481) (by decide +kernel)⟩
theorem lw_p15 : lw_okq (⟨"DiceCups$Answering", "addCallWins", "(DIII)D"⟩, 6) := ⟨⟨by decide +kernel, by decide +kernel⟩, List.mem_of_getElem? (i := 132) (by decide +kernel), List.mem_of_getElem? (i := 484) (by decide +kernel), List.mem_of_getElem? (i := 485) (by decide +kernel)⟩
def lw_privs_1 : List (MethodName × Nat) := [(⟨"DiceCups$Cup", "writeHand", "(I)V"⟩, 6), (⟨"DiceCups$Cup", "stepRow", "()Z"⟩, 6), (⟨"DiceCups$Table", "judgeBids", "()V"⟩, 6), (⟨"DiceCups$Table", "judge", "(III)V"⟩, 6), (⟨"DiceCups$Table", "countsFor", "(LDiceCups$Cup;II)I"⟩, 6), (⟨"DiceCups", "isHand", "(II)Z"⟩, 5), (⟨"DiceCups", "isBid", "(I)Z"⟩, 5), (⟨"DiceCups", "isBidOrNone", "(I)Z"⟩, 5), (⟨"DiceCups$Shares", "takeMoves", "(LDiceCups$Plans;IIII)V"⟩, 1), (⟨"DiceCups$Match", "expected", "(II)D"⟩, 4), (⟨"DiceCups$Match", "expectedAt", "(IIII)D"⟩, 4), (⟨"DiceCups$Answering", "other", "()LDiceCups$Cup;"⟩, 6), (⟨"DiceCups$Answering", "hold", "(I)V"⟩, 6), (⟨"DiceCups$Answering", "value", "(IIII)D"⟩, 6), (⟨"DiceCups$Answering", "ownValue", "(III)D"⟩, 6), (⟨"DiceCups$Answering", "addCallWins", "(DIII)D"⟩, 6)]
theorem lw_r1 : ∀ q ∈ lw_privs_1, lw_okq q := List.forall_mem_cons.mpr ⟨lw_p0, List.forall_mem_cons.mpr ⟨lw_p1, List.forall_mem_cons.mpr ⟨lw_p2, List.forall_mem_cons.mpr ⟨lw_p3, List.forall_mem_cons.mpr ⟨lw_p4, List.forall_mem_cons.mpr ⟨lw_p5, List.forall_mem_cons.mpr ⟨lw_p6, List.forall_mem_cons.mpr ⟨lw_p7, List.forall_mem_cons.mpr ⟨lw_p8, List.forall_mem_cons.mpr ⟨lw_p9, List.forall_mem_cons.mpr ⟨lw_p10, List.forall_mem_cons.mpr ⟨lw_p11, List.forall_mem_cons.mpr ⟨lw_p12, List.forall_mem_cons.mpr ⟨lw_p13, List.forall_mem_cons.mpr ⟨lw_p14, List.forall_mem_cons.mpr ⟨lw_p15, fun _ h => absurd h List.not_mem_nil⟩⟩⟩⟩⟩⟩⟩⟩⟩⟩⟩⟩⟩⟩⟩⟩
theorem lw_p16 : lw_okq (⟨"DiceCups$Answering", "otherValue", "(III)D"⟩, 6) := ⟨⟨by decide +kernel, by decide +kernel⟩, List.mem_of_getElem? (i := 132) (by decide +kernel), List.mem_of_getElem? (i := 490) (by decide +kernel), List.mem_of_getElem? (i := 491) (by decide +kernel)⟩
theorem lw_p17 : lw_okq (⟨"DiceCups$Answering", "follow", "(III)Z"⟩, 6) := ⟨⟨by decide +kernel, by decide +kernel⟩, List.mem_of_getElem? (i := 132) (by decide +kernel), List.mem_of_getElem? (i := 494) (by decide +kernel), List.mem_of_getElem? (i := 495) (by decide +kernel)⟩
theorem lw_p18 : lw_okq (⟨"DiceCups$Game", "draw", "(LDiceCups$Cup;)I"⟩, 12) := ⟨⟨by decide +kernel, by decide +kernel⟩, List.mem_of_getElem? (i := 159) (by decide +kernel), List.mem_of_getElem? (i := 525) (by decide +kernel), List.mem_of_getElem? (i := 526) (by decide +kernel)⟩
theorem lw_p19 : lw_okq (⟨"DiceCups$Cup", "isLike", "(I[I)Z"⟩, 6) := ⟨⟨by decide +kernel, by decide +kernel⟩, List.mem_of_getElem? (i := 28) (by decide +kernel), List.mem_of_getElem? (i := 540) (by decide +kernel), List.mem_of_getElem? (i := 541) (by decide +kernel)⟩
theorem lw_p20 : lw_okq (⟨"DiceCupsModel", "lay", "()V"⟩, 26) := ⟨⟨by decide +kernel, by decide +kernel⟩, List.mem_of_getElem? (i := 596) (by decide +kernel), List.mem_of_getElem? (i := 602) (by decide +kernel), List.mem_of_getElem? (i := 603) (by decide +kernel)⟩
theorem lw_p21 : lw_okq (⟨"DiceCupsModel", "layHands", "(I)V"⟩, 26) := ⟨⟨by decide +kernel, by decide +kernel⟩, List.mem_of_getElem? (i := 596) (by decide +kernel), List.mem_of_getElem? (i := 606) (by decide +kernel), List.mem_of_getElem? (i := 607) (by decide +kernel)⟩
theorem lw_p22 : lw_okq (⟨"DiceCupsModel", "dice", "(I)I"⟩, 26) := ⟨⟨by decide +kernel, by decide +kernel⟩, List.mem_of_getElem? (i := 596) (by decide +kernel), List.mem_of_getElem? (i := 610) (by decide +kernel), List.mem_of_getElem? (i := 611) (by decide +kernel)⟩
theorem lw_p23 : lw_okq (⟨"DiceCupsModel", "most", "()I"⟩, 26) := ⟨⟨by decide +kernel, by decide +kernel⟩, List.mem_of_getElem? (i := 596) (by decide +kernel), List.mem_of_getElem? (i := 704) (by decide +kernel), List.mem_of_getElem? (i := 705) (by decide +kernel)⟩
theorem lw_p24 : lw_okq (⟨"DiceCupsModel", "isHand", "(II)Z"⟩, 26) := ⟨⟨by decide +kernel, by decide +kernel⟩, List.mem_of_getElem? (i := 596) (by decide +kernel), List.mem_of_getElem? (i := 719) (by decide +kernel), List.mem_of_getElem? (i := 720) (by decide +kernel)⟩
theorem lw_p25 : lw_okq (⟨"DiceCupsModel", "isBid", "(I)Z"⟩, 26) := ⟨⟨by decide +kernel, by decide +kernel⟩, List.mem_of_getElem? (i := 596) (by decide +kernel), List.mem_of_getElem? (i := 731) (by decide +kernel), List.mem_of_getElem? (i := 732) (by decide +kernel)⟩
theorem lw_p26 : lw_okq (⟨"DiceCupsModel", "doesHold", "(III)Z"⟩, 26) := ⟨⟨by decide +kernel, by decide +kernel⟩, List.mem_of_getElem? (i := 596) (by decide +kernel), List.mem_of_getElem? (i := 735) (by decide +kernel), List.mem_of_getElem? (i := 736) (by decide +kernel)⟩
theorem lw_p27 : lw_okq (⟨"DiceCupsModel", "countsFor", "(III)I"⟩, 26) := ⟨⟨by decide +kernel, by decide +kernel⟩, List.mem_of_getElem? (i := 596) (by decide +kernel), List.mem_of_getElem? (i := 739) (by decide +kernel), List.mem_of_getElem? (i := 740) (by decide +kernel)⟩
theorem lw_p28 : lw_okq (⟨"DiceCupsModel", "throwsFor", "(III)I"⟩, 26) := ⟨⟨by decide +kernel, by decide +kernel⟩, List.mem_of_getElem? (i := 596) (by decide +kernel), List.mem_of_getElem? (i := 747) (by decide +kernel), List.mem_of_getElem? (i := 748) (by decide +kernel)⟩
theorem lw_p29 : lw_okq (⟨"DiceCupsModel", "power", "(I)I"⟩, 26) := ⟨⟨by decide +kernel, by decide +kernel⟩, List.mem_of_getElem? (i := 596) (by decide +kernel), List.mem_of_getElem? (i := 751) (by decide +kernel), List.mem_of_getElem? (i := 752) (by decide +kernel)⟩
theorem lw_p30 : lw_okq (⟨"DiceCupsModel", "mayMove", "(II)Z"⟩, 26) := ⟨⟨by decide +kernel, by decide +kernel⟩, List.mem_of_getElem? (i := 596) (by decide +kernel), List.mem_of_getElem? (i := 766) (by decide +kernel), List.mem_of_getElem? (i := 767) (by decide +kernel)⟩
theorem lw_p31 : lw_okq (⟨"DiceCupsModel", "at", "(IIIII)I"⟩, 26) := ⟨⟨by decide +kernel, by decide +kernel⟩, List.mem_of_getElem? (i := 596) (by decide +kernel), List.mem_of_getElem? (i := 770) (by decide +kernel), List.mem_of_getElem? (i := 771) (by decide +kernel)⟩
def lw_privs_2 : List (MethodName × Nat) := [(⟨"DiceCups$Answering", "otherValue", "(III)D"⟩, 6), (⟨"DiceCups$Answering", "follow", "(III)Z"⟩, 6), (⟨"DiceCups$Game", "draw", "(LDiceCups$Cup;)I"⟩, 12), (⟨"DiceCups$Cup", "isLike", "(I[I)Z"⟩, 6), (⟨"DiceCupsModel", "lay", "()V"⟩, 26), (⟨"DiceCupsModel", "layHands", "(I)V"⟩, 26), (⟨"DiceCupsModel", "dice", "(I)I"⟩, 26), (⟨"DiceCupsModel", "most", "()I"⟩, 26), (⟨"DiceCupsModel", "isHand", "(II)Z"⟩, 26), (⟨"DiceCupsModel", "isBid", "(I)Z"⟩, 26), (⟨"DiceCupsModel", "doesHold", "(III)Z"⟩, 26), (⟨"DiceCupsModel", "countsFor", "(III)I"⟩, 26), (⟨"DiceCupsModel", "throwsFor", "(III)I"⟩, 26), (⟨"DiceCupsModel", "power", "(I)I"⟩, 26), (⟨"DiceCupsModel", "mayMove", "(II)Z"⟩, 26), (⟨"DiceCupsModel", "at", "(IIIII)I"⟩, 26)]
theorem lw_r2 : ∀ q ∈ lw_privs_2, lw_okq q := List.forall_mem_cons.mpr ⟨lw_p16, List.forall_mem_cons.mpr ⟨lw_p17, List.forall_mem_cons.mpr ⟨lw_p18, List.forall_mem_cons.mpr ⟨lw_p19, List.forall_mem_cons.mpr ⟨lw_p20, List.forall_mem_cons.mpr ⟨lw_p21, List.forall_mem_cons.mpr ⟨lw_p22, List.forall_mem_cons.mpr ⟨lw_p23, List.forall_mem_cons.mpr ⟨lw_p24, List.forall_mem_cons.mpr ⟨lw_p25, List.forall_mem_cons.mpr ⟨lw_p26, List.forall_mem_cons.mpr ⟨lw_p27, List.forall_mem_cons.mpr ⟨lw_p28, List.forall_mem_cons.mpr ⟨lw_p29, List.forall_mem_cons.mpr ⟨lw_p30, List.forall_mem_cons.mpr ⟨lw_p31, fun _ h => absurd h List.not_mem_nil⟩⟩⟩⟩⟩⟩⟩⟩⟩⟩⟩⟩⟩⟩⟩⟩
theorem lw_p32 : lw_okq (⟨"DiceCupsModel", "worthOf", "(IIII)D"⟩, 26) := ⟨⟨by decide +kernel, by decide +kernel⟩, List.mem_of_getElem? (i := 596) (by decide +kernel), List.mem_of_getElem? (i := 779) (by decide +kernel), List.mem_of_getElem? (i := 780) (by decide +kernel)⟩
theorem lw_p33 : lw_okq (⟨"DiceCupsModel", "part", "(IIIII)D"⟩, 26) := ⟨⟨by decide +kernel, by decide +kernel⟩, List.mem_of_getElem? (i := 596) (by decide +kernel), List.mem_of_getElem? (i := 783) (by decide +kernel), List.mem_of_getElem? (i := 784) (by decide +kernel)⟩
theorem lw_p34 : lw_okq (⟨"DiceCupsModel", "total", "(IIII)I"⟩, 26) := ⟨⟨by decide +kernel, by decide +kernel⟩, List.mem_of_getElem? (i := 596) (by decide +kernel), List.mem_of_getElem? (i := 787) (by decide +kernel), List.mem_of_getElem? (i := 788) (by decide +kernel)⟩
theorem lw_p35 : lw_okq (⟨"DiceCupsModel", "wins", "(IIIII)Z"⟩, 26) := ⟨⟨by decide +kernel, by decide +kernel⟩, List.mem_of_getElem? (i := 596) (by decide +kernel), List.mem_of_getElem? (i := 791) (by decide +kernel), List.mem_of_getElem? (i := 792) (by decide +kernel)⟩
theorem lw_p36 : lw_okq (⟨"DiceCupsModel", "begin", "(I)V"⟩, 26) := ⟨⟨by decide +kernel, by decide +kernel⟩, List.mem_of_getElem? (i := 596) (by decide +kernel), List.mem_of_getElem? (i := 809) (by decide +kernel), List.mem_of_getElem? (i := 810) (by decide +kernel)⟩
theorem lw_p37 : lw_okq (⟨"DiceCupsModel", "enter", "(II)V"⟩, 26) := ⟨⟨by decide +kernel, by decide +kernel⟩, List.mem_of_getElem? (i := 596) (by decide +kernel), List.mem_of_getElem? (i := 813) (by decide +kernel), List.mem_of_getElem? (i := 814) (by decide +kernel)⟩
theorem lw_p38 : lw_okq (⟨"DiceCupsModel", "answerOf", "(IIII)D"⟩, 26) := ⟨⟨by decide +kernel, by decide +kernel⟩, List.mem_of_getElem? (i := 596) (by decide +kernel), List.mem_of_getElem? (i := 817) (by decide +kernel), List.mem_of_getElem? (i := 818) (by decide +kernel)⟩
theorem lw_p39 : lw_okq (⟨"DiceCupsModel", "offer", "(ID)V"⟩, 26) := ⟨⟨by decide +kernel, by decide +kernel⟩, List.mem_of_getElem? (i := 596) (by decide +kernel), List.mem_of_getElem? (i := 821) (by decide +kernel), List.mem_of_getElem? (i := 822) (by decide +kernel)⟩
theorem lw_p40 : lw_okq (⟨"DiceCupsModel", "call", "(IIII)V"⟩, 26) := ⟨⟨by decide +kernel, by decide +kernel⟩, List.mem_of_getElem? (i := 596) (by decide +kernel), List.mem_of_getElem? (i := 825) (by decide +kernel), List.mem_of_getElem? (i := 826) (by decide +kernel)⟩
theorem lw_p41 : lw_okq (⟨"DiceCupsModel", "winsBy", "(IIIII)Z"⟩, 26) := ⟨⟨by decide +kernel, by decide +kernel⟩, List.mem_of_getElem? (i := 596) (by decide +kernel), List.mem_of_getElem? (i := 829) (by decide +kernel), List.mem_of_getElem? (i := 830) (by decide +kernel)⟩
theorem lw_p42 : lw_okq (⟨"DiceCupsModel", "leads", "(IIII)Z"⟩, 26) := ⟨⟨by decide +kernel, by decide +kernel⟩, List.mem_of_getElem? (i := 596) (by decide +kernel), List.mem_of_getElem? (i := 833) (by decide +kernel), List.mem_of_getElem? (i := 834) (by decide +kernel)⟩
theorem lw_p43 : lw_okq (⟨"DiceCupsModel", "drawn", "(I)I"⟩, 26) := ⟨⟨by decide +kernel, by decide +kernel⟩, List.mem_of_getElem? (i := 596) (by decide +kernel), List.mem_of_getElem? (i := 849) (by decide +kernel), List.mem_of_getElem? (i := 850) (by decide +kernel)⟩
def lw_privs_3 : List (MethodName × Nat) := [(⟨"DiceCupsModel", "worthOf", "(IIII)D"⟩, 26), (⟨"DiceCupsModel", "part", "(IIIII)D"⟩, 26), (⟨"DiceCupsModel", "total", "(IIII)I"⟩, 26), (⟨"DiceCupsModel", "wins", "(IIIII)Z"⟩, 26), (⟨"DiceCupsModel", "begin", "(I)V"⟩, 26), (⟨"DiceCupsModel", "enter", "(II)V"⟩, 26), (⟨"DiceCupsModel", "answerOf", "(IIII)D"⟩, 26), (⟨"DiceCupsModel", "offer", "(ID)V"⟩, 26), (⟨"DiceCupsModel", "call", "(IIII)V"⟩, 26), (⟨"DiceCupsModel", "winsBy", "(IIIII)Z"⟩, 26), (⟨"DiceCupsModel", "leads", "(IIII)Z"⟩, 26), (⟨"DiceCupsModel", "drawn", "(I)I"⟩, 26)]
theorem lw_r3 : ∀ q ∈ lw_privs_3, lw_okq q := List.forall_mem_cons.mpr ⟨lw_p32, List.forall_mem_cons.mpr ⟨lw_p33, List.forall_mem_cons.mpr ⟨lw_p34, List.forall_mem_cons.mpr ⟨lw_p35, List.forall_mem_cons.mpr ⟨lw_p36, List.forall_mem_cons.mpr ⟨lw_p37, List.forall_mem_cons.mpr ⟨lw_p38, List.forall_mem_cons.mpr ⟨lw_p39, List.forall_mem_cons.mpr ⟨lw_p40, List.forall_mem_cons.mpr ⟨lw_p41, List.forall_mem_cons.mpr ⟨lw_p42, List.forall_mem_cons.mpr ⟨lw_p43, fun _ h => absurd h List.not_mem_nil⟩⟩⟩⟩⟩⟩⟩⟩⟩⟩⟩⟩
def lw_privs : List (MethodName × Nat) := lw_privs_1 ++ (lw_privs_2 ++ (lw_privs_3))
def lw_tbl : List Cond := k2_sels lw_privs ++ tables_1
theorem lw_privs_ok : ∀ q ∈ lw_privs, lw_okq q := by
  show ∀ q ∈ lw_privs_1 ++ (lw_privs_2 ++ (lw_privs_3)), lw_okq q
  exact List.forall_mem_append.mpr ⟨lw_r1, List.forall_mem_append.mpr ⟨lw_r2, lw_r3⟩⟩
/-- the streams that the claim lets the run draw from -/
abbrev lw_cs : List Choice := [Jvm.Choice.named "NaN.bits"]
theorem lw_bits : nanBits ∈ lw_cs := by first | decide | exact List.mem_cons_self | simp [lw_cs, nanBits]
-- ===== end of PART A; then your names; then what follows =====
def RX0 : String := "DiceCups$Answering"
def TX0 : u_T := fun k => match k with
  | 0 => ("DiceCups$Answering", "table", "LDiceCups$Table;", true)
  | 1 => ("DiceCups$Answering", "shares", "LDiceCups$Shares;", true)
  | 2 => ("DiceCups$Answering", "reach", "[D", true)
  | 3 => ("DiceCups$Answering", "player", "I", false)
  | 4 => ("DiceCups$Answering", "own", "I", false)
  | _ => ("DiceCups$Answering", "chosen", "I", false)
def tyX0 : Nat → FieldType := fun k => match k with
  | 0 => .object "DiceCups$Table"
  | 1 => .object "DiceCups$Shares"
  | 2 => .array .double
  | 3 => .int
  | 4 => .int
  | _ => .int
theorem nmX0 : ∀ a, a < 6 → ∀ b, b < 6 → a ≠ b → (TX0 a).2.1 ≠ (TX0 b).2.1 := by decide +kernel
theorem tyX0_ok : ∀ k, k < 6 → parseFieldDescriptor (TX0 k).2.2.1 = some (tyX0 k) := by decide +kernel
abbrev cX0_init : ByteArray := prog_2_method_1_code
def yX0_init : MethodName := ⟨RX0, "<init>", "(LDiceCups$Table;)V"⟩
abbrev cX0_study : ByteArray := prog_2_method_2_code
def yX0_study : MethodName := ⟨RX0, "study", "(LDiceCups$Plans;II)V"⟩
abbrev cX0_winnings : ByteArray := prog_2_method_3_code
def yX0_winnings : MethodName := ⟨RX0, "winnings", "()D"⟩
abbrev cX0_firstMove : ByteArray := prog_2_method_4_code
def yX0_firstMove : MethodName := ⟨RX0, "firstMove", "(I)I"⟩
abbrev cX0_moveBehind : ByteArray := prog_2_method_5_code
def yX0_moveBehind : MethodName := ⟨RX0, "moveBehind", "(II)I"⟩
abbrev cX0_other : ByteArray := prog_2_method_6_code
def yX0_other : MethodName := ⟨RX0, "other", "()LDiceCups$Cup;"⟩
abbrev cX0_hold : ByteArray := prog_2_method_7_code
def yX0_hold : MethodName := ⟨RX0, "hold", "(I)V"⟩
abbrev cX0_value : ByteArray := prog_2_method_8_code
def yX0_value : MethodName := ⟨RX0, "value", "(IIII)D"⟩
abbrev cX0_ownValue : ByteArray := prog_2_method_9_code
def yX0_ownValue : MethodName := ⟨RX0, "ownValue", "(III)D"⟩
abbrev cX0_otherValue : ByteArray := prog_2_method_10_code
def yX0_otherValue : MethodName := ⟨RX0, "otherValue", "(III)D"⟩
abbrev cX0_follow : ByteArray := prog_2_method_11_code
def yX0_follow : MethodName := ⟨RX0, "follow", "(III)Z"⟩
abbrev cX0_addCallWins : ByteArray := prog_2_method_12_code
def yX0_addCallWins : MethodName := ⟨RX0, "addCallWins", "(DIII)D"⟩
def RX1 : String := "DiceCups$Cup"
def TX1 : u_T := fun k => match k with
  | 0 => ("DiceCups$Cup", "pips", "[I", true)
  | 1 => ("DiceCups$Cup", "ways", "[I", true)
  | 2 => ("DiceCups$Cup", "row", "[I", true)
  | 3 => ("DiceCups$Cup", "dice", "I", false)
  | 4 => ("DiceCups$Cup", "faces", "I", false)
  | _ => ("DiceCups$Cup", "size", "I", false)
def tyX1 : Nat → FieldType := fun k => match k with
  | 0 => .array .int
  | 1 => .array .int
  | 2 => .array .int
  | 3 => .int
  | 4 => .int
  | _ => .int
theorem nmX1 : ∀ a, a < 6 → ∀ b, b < 6 → a ≠ b → (TX1 a).2.1 ≠ (TX1 b).2.1 := by decide +kernel
theorem tyX1_ok : ∀ k, k < 6 → parseFieldDescriptor (TX1 k).2.2.1 = some (tyX1 k) := by decide +kernel
abbrev cX1_init : ByteArray := prog_3_method_1_code
def yX1_init : MethodName := ⟨RX1, "<init>", "()V"⟩
abbrev cX1_fill : ByteArray := prog_3_method_2_code
def yX1_fill : MethodName := ⟨RX1, "fill", "(II)V"⟩
abbrev cX1_writeHand : ByteArray := prog_3_method_3_code
def yX1_writeHand : MethodName := ⟨RX1, "writeHand", "(I)V"⟩
abbrev cX1_stepRow : ByteArray := prog_3_method_4_code
def yX1_stepRow : MethodName := ⟨RX1, "stepRow", "()Z"⟩
abbrev cX1_factorial : ByteArray := prog_3_method_5_code
def yX1_factorial : MethodName := ⟨RX1, "factorial", "(I)I"⟩
abbrev cX1_spotOf : ByteArray := prog_3_method_6_code
def yX1_spotOf : MethodName := ⟨RX1, "spotOf", "(II)I"⟩
abbrev cX1_pipsOf : ByteArray := prog_3_method_7_code
def yX1_pipsOf : MethodName := ⟨RX1, "pipsOf", "(II)I"⟩
abbrev cX1_waysOf : ByteArray := prog_3_method_8_code
def yX1_waysOf : MethodName := ⟨RX1, "waysOf", "(I)I"⟩
abbrev cX1_allWays : ByteArray := prog_3_method_9_code
def yX1_allWays : MethodName := ⟨RX1, "allWays", "()I"⟩
abbrev cX1_find : ByteArray := prog_3_method_10_code
def yX1_find : MethodName := ⟨RX1, "find", "([I)I"⟩
abbrev cX1_isLike : ByteArray := prog_3_method_11_code
def yX1_isLike : MethodName := ⟨RX1, "isLike", "(I[I)Z"⟩
def RX2 : String := "DiceCups$Game"
def TX2 : u_T := fun k => match k with
  | 0 => ("DiceCups$Game", "table", "LDiceCups$Table;", true)
  | 1 => ("DiceCups$Game", "thrown", "[I", true)
  | 2 => ("DiceCups$Game", "x", "I", false)
  | 3 => ("DiceCups$Game", "there", "Z", false)
  | 4 => ("DiceCups$Game", "firstHand", "I", false)
  | 5 => ("DiceCups$Game", "secondHand", "I", false)
  | 6 => ("DiceCups$Game", "mover", "I", false)
  | 7 => ("DiceCups$Game", "last", "I", false)
  | 8 => ("DiceCups$Game", "made", "I", false)
  | 9 => ("DiceCups$Game", "winner", "I", false)
  | 10 => ("DiceCups$Game", "wonByFirst", "I", false)
  | _ => ("DiceCups$Game", "wonBySecond", "I", false)
def tyX2 : Nat → FieldType := fun k => match k with
  | 0 => .object "DiceCups$Table"
  | 1 => .array .int
  | 2 => .int
  | 3 => .boolean
  | 4 => .int
  | 5 => .int
  | 6 => .int
  | 7 => .int
  | 8 => .int
  | 9 => .int
  | 10 => .int
  | _ => .int
theorem nmX2 : ∀ a, a < 12 → ∀ b, b < 12 → a ≠ b → (TX2 a).2.1 ≠ (TX2 b).2.1 := by decide +kernel
theorem tyX2_ok : ∀ k, k < 12 → parseFieldDescriptor (TX2 k).2.2.1 = some (tyX2 k) := by decide +kernel
abbrev cX2_init : ByteArray := prog_4_method_1_code
def yX2_init : MethodName := ⟨RX2, "<init>", "(LDiceCups$Table;)V"⟩
abbrev cX2_forget : ByteArray := prog_4_method_2_code
def yX2_forget : MethodName := ⟨RX2, "forget", "()V"⟩
abbrev cX2_begin : ByteArray := prog_4_method_3_code
def yX2_begin : MethodName := ⟨RX2, "begin", "(I)V"⟩
abbrev cX2_draw : ByteArray := prog_4_method_4_code
def yX2_draw : MethodName := ⟨RX2, "draw", "(LDiceCups$Cup;)I"⟩
abbrev cX2_handOf : ByteArray := prog_4_method_5_code
def yX2_handOf : MethodName := ⟨RX2, "handOf", "(I)I"⟩
abbrev cX2_goesOn : ByteArray := prog_4_method_6_code
def yX2_goesOn : MethodName := ⟨RX2, "goesOn", "()Z"⟩
abbrev cX2_bid : ByteArray := prog_4_method_7_code
def yX2_bid : MethodName := ⟨RX2, "bid", "(I)V"⟩
abbrev cX2_end : ByteArray := prog_4_method_8_code
def yX2_end : MethodName := ⟨RX2, "end", "()V"⟩
abbrev cX2_fact : ByteArray := prog_4_method_9_code
def yX2_fact : MethodName := ⟨RX2, "fact", "(I)I"⟩
def RX3 : String := "DiceCups$Match"
def TX3 : u_T := fun k => match k with
  | 0 => ("DiceCups$Match", "table", "LDiceCups$Table;", true)
  | 1 => ("DiceCups$Match", "firstShares", "LDiceCups$Shares;", true)
  | 2 => ("DiceCups$Match", "secondShares", "LDiceCups$Shares;", true)
  | _ => ("DiceCups$Match", "behind", "[D", true)
def tyX3 : Nat → FieldType := fun k => match k with
  | 0 => .object "DiceCups$Table"
  | 1 => .object "DiceCups$Shares"
  | 2 => .object "DiceCups$Shares"
  | _ => .array .double
theorem nmX3 : ∀ a, a < 4 → ∀ b, b < 4 → a ≠ b → (TX3 a).2.1 ≠ (TX3 b).2.1 := by decide +kernel
theorem tyX3_ok : ∀ k, k < 4 → parseFieldDescriptor (TX3 k).2.2.1 = some (tyX3 k) := by decide +kernel
abbrev cX3_init : ByteArray := prog_5_method_1_code
def yX3_init : MethodName := ⟨RX3, "<init>", "(LDiceCups$Table;)V"⟩
abbrev cX3_play : ByteArray := prog_5_method_2_code
def yX3_play : MethodName := ⟨RX3, "play", "(LDiceCups$Plans;II)D"⟩
abbrev cX3_expected : ByteArray := prog_5_method_3_code
def yX3_expected : MethodName := ⟨RX3, "expected", "(II)D"⟩
abbrev cX3_expectedAt : ByteArray := prog_5_method_4_code
def yX3_expectedAt : MethodName := ⟨RX3, "expectedAt", "(IIII)D"⟩
def RX4 : String := "DiceCups$Plans"
def TX4 : u_T := fun k => match k with
  | _ => ("DiceCups$Plans", "weights", "[I", true)
def tyX4 : Nat → FieldType := fun k => match k with
  | _ => .array .int
theorem nmX4 : ∀ a, a < 1 → ∀ b, b < 1 → a ≠ b → (TX4 a).2.1 ≠ (TX4 b).2.1 := by decide +kernel
theorem tyX4_ok : ∀ k, k < 1 → parseFieldDescriptor (TX4 k).2.2.1 = some (tyX4 k) := by decide +kernel
abbrev cX4_init : ByteArray := prog_6_method_1_code
def yX4_init : MethodName := ⟨RX4, "<init>", "()V"⟩
abbrev cX4_reset : ByteArray := prog_6_method_2_code
def yX4_reset : MethodName := ⟨RX4, "reset", "()V"⟩
abbrev cX4_spot : ByteArray := prog_6_method_3_code
def yX4_spot : MethodName := ⟨RX4, "spot", "(IIIII)I"⟩
abbrev cX4_change : ByteArray := prog_6_method_4_code
def yX4_change : MethodName := ⟨RX4, "change", "(II)I"⟩
abbrev cX4_weightAt : ByteArray := prog_6_method_5_code
def yX4_weightAt : MethodName := ⟨RX4, "weightAt", "(I)I"⟩
abbrev cX4_mix : ByteArray := prog_6_method_6_code
def yX4_mix : MethodName := ⟨RX4, "mix", "(JILDiceCups$Cup;I)J"⟩
def RX5 : String := "DiceCups$Shares"
def TX5 : u_T := fun k => match k with
  | _ => ("DiceCups$Shares", "shares", "[D", true)
def tyX5 : Nat → FieldType := fun k => match k with
  | _ => .array .double
theorem nmX5 : ∀ a, a < 1 → ∀ b, b < 1 → a ≠ b → (TX5 a).2.1 ≠ (TX5 b).2.1 := by decide +kernel
theorem tyX5_ok : ∀ k, k < 1 → parseFieldDescriptor (TX5 k).2.2.1 = some (tyX5 k) := by decide +kernel
abbrev cX5_init : ByteArray := prog_7_method_1_code
def yX5_init : MethodName := ⟨RX5, "<init>", "()V"⟩
abbrev cX5_take : ByteArray := prog_7_method_2_code
def yX5_take : MethodName := ⟨RX5, "take", "(LDiceCups$Plans;ILDiceCups$Cup;I)V"⟩
abbrev cX5_takeMoves : ByteArray := prog_7_method_3_code
def yX5_takeMoves : MethodName := ⟨RX5, "takeMoves", "(LDiceCups$Plans;IIII)V"⟩
abbrev cX5_spotOf : ByteArray := prog_7_method_4_code
def yX5_spotOf : MethodName := ⟨RX5, "spotOf", "(III)I"⟩
abbrev cX5_of : ByteArray := prog_7_method_5_code
def yX5_of : MethodName := ⟨RX5, "of", "(III)D"⟩
def RX6 : String := "DiceCups$Table"
def TX6 : u_T := fun k => match k with
  | 0 => ("DiceCups$Table", "first", "LDiceCups$Cup;", true)
  | 1 => ("DiceCups$Table", "second", "LDiceCups$Cup;", true)
  | 2 => ("DiceCups$Table", "truths", "[I", true)
  | 3 => ("DiceCups$Table", "faces", "I", false)
  | 4 => ("DiceCups$Table", "bids", "I", false)
  | _ => ("DiceCups$Table", "wild", "Z", false)
def tyX6 : Nat → FieldType := fun k => match k with
  | 0 => .object "DiceCups$Cup"
  | 1 => .object "DiceCups$Cup"
  | 2 => .array .int
  | 3 => .int
  | 4 => .int
  | _ => .boolean
theorem nmX6 : ∀ a, a < 6 → ∀ b, b < 6 → a ≠ b → (TX6 a).2.1 ≠ (TX6 b).2.1 := by decide +kernel
theorem tyX6_ok : ∀ k, k < 6 → parseFieldDescriptor (TX6 k).2.2.1 = some (tyX6 k) := by decide +kernel
abbrev cX6_init : ByteArray := prog_8_method_1_code
def yX6_init : MethodName := ⟨RX6, "<init>", "()V"⟩
abbrev cX6_lay : ByteArray := prog_8_method_2_code
def yX6_lay : MethodName := ⟨RX6, "lay", "(IIIZ)V"⟩
abbrev cX6_judgeBids : ByteArray := prog_8_method_3_code
def yX6_judgeBids : MethodName := ⟨RX6, "judgeBids", "()V"⟩
abbrev cX6_judge : ByteArray := prog_8_method_4_code
def yX6_judge : MethodName := ⟨RX6, "judge", "(III)V"⟩
abbrev cX6_countsFor : ByteArray := prog_8_method_5_code
def yX6_countsFor : MethodName := ⟨RX6, "countsFor", "(LDiceCups$Cup;II)I"⟩
abbrev cX6_spotOf : ByteArray := prog_8_method_6_code
def yX6_spotOf : MethodName := ⟨RX6, "spotOf", "(III)I"⟩
abbrev cX6_cup : ByteArray := prog_8_method_7_code
def yX6_cup : MethodName := ⟨RX6, "cup", "(I)LDiceCups$Cup;"⟩
abbrev cX6_isTrue : ByteArray := prog_8_method_8_code
def yX6_isTrue : MethodName := ⟨RX6, "isTrue", "(III)Z"⟩
abbrev cX6_isTrueFor : ByteArray := prog_8_method_9_code
def yX6_isTrueFor : MethodName := ⟨RX6, "isTrueFor", "(IIII)Z"⟩
abbrev cX6_waysToHold : ByteArray := prog_8_method_10_code
def yX6_waysToHold : MethodName := ⟨RX6, "waysToHold", "(III)I"⟩
abbrev cX6_meanOf : ByteArray := prog_8_method_11_code
def yX6_meanOf : MethodName := ⟨RX6, "meanOf", "(D)D"⟩
def RX7 : String := "DiceCups"
def TX7 : u_T := fun k => match k with
  | 0 => ("DiceCups", "table", "LDiceCups$Table;", true)
  | 1 => ("DiceCups", "plans", "LDiceCups$Plans;", true)
  | 2 => ("DiceCups", "match", "LDiceCups$Match;", true)
  | 3 => ("DiceCups", "answering", "LDiceCups$Answering;", true)
  | _ => ("DiceCups", "game", "LDiceCups$Game;", true)
def tyX7 : Nat → FieldType := fun k => match k with
  | 0 => .object "DiceCups$Table"
  | 1 => .object "DiceCups$Plans"
  | 2 => .object "DiceCups$Match"
  | 3 => .object "DiceCups$Answering"
  | _ => .object "DiceCups$Game"
theorem nmX7 : ∀ a, a < 5 → ∀ b, b < 5 → a ≠ b → (TX7 a).2.1 ≠ (TX7 b).2.1 := by decide +kernel
theorem tyX7_ok : ∀ k, k < 5 → parseFieldDescriptor (TX7 k).2.2.1 = some (tyX7 k) := by decide +kernel
abbrev cX7_init : ByteArray := prog_1_method_1_code
def yX7_init : MethodName := ⟨RX7, "<init>", "()V"⟩
abbrev cX7_cups : ByteArray := prog_1_method_2_code
def yX7_cups : MethodName := ⟨RX7, "cups", "(IIIZ)I"⟩
abbrev cX7_hands : ByteArray := prog_1_method_3_code
def yX7_hands : MethodName := ⟨RX7, "hands", "(I)I"⟩
abbrev cX7_hand : ByteArray := prog_1_method_4_code
def yX7_hand : MethodName := ⟨RX7, "hand", "(III)I"⟩
abbrev cX7_throwsOf : ByteArray := prog_1_method_5_code
def yX7_throwsOf : MethodName := ⟨RX7, "throwsOf", "(II)I"⟩
abbrev cX7_holds : ByteArray := prog_1_method_6_code
def yX7_holds : MethodName := ⟨RX7, "holds", "(III)I"⟩
abbrev cX7_chance : ByteArray := prog_1_method_7_code
def yX7_chance : MethodName := ⟨RX7, "chance", "(IIII)I"⟩
abbrev cX7_surest : ByteArray := prog_1_method_8_code
def yX7_surest : MethodName := ⟨RX7, "surest", "(IIII)I"⟩
abbrev cX7_weigh : ByteArray := prog_1_method_9_code
def yX7_weigh : MethodName := ⟨RX7, "weigh", "(IIIIII)I"⟩
abbrev cX7_worth : ByteArray := prog_1_method_10_code
def yX7_worth : MethodName := ⟨RX7, "worth", "(II)J"⟩
abbrev cX7_answer : ByteArray := prog_1_method_11_code
def yX7_answer : MethodName := ⟨RX7, "answer", "(II)J"⟩
abbrev cX7_opening : ByteArray := prog_1_method_12_code
def yX7_opening : MethodName := ⟨RX7, "opening", "(II)I"⟩
abbrev cX7_reply : ByteArray := prog_1_method_13_code
def yX7_reply : MethodName := ⟨RX7, "reply", "(III)I"⟩
abbrev cX7_round : ByteArray := prog_1_method_14_code
def yX7_round : MethodName := ⟨RX7, "round", "(I)I"⟩
abbrev cX7_held : ByteArray := prog_1_method_15_code
def yX7_held : MethodName := ⟨RX7, "held", "(I)I"⟩
abbrev cX7_move : ByteArray := prog_1_method_16_code
def yX7_move : MethodName := ⟨RX7, "move", "(I)I"⟩
abbrev cX7_about : ByteArray := prog_1_method_17_code
def yX7_about : MethodName := ⟨RX7, "about", "(I)I"⟩
abbrev cX7_count : ByteArray := prog_1_method_18_code
def yX7_count : MethodName := ⟨RX7, "count", "(I)I"⟩
abbrev cX7_digest : ByteArray := prog_1_method_19_code
def yX7_digest : MethodName := ⟨RX7, "digest", "()J"⟩
abbrev cX7_within : ByteArray := prog_1_method_20_code
def yX7_within : MethodName := ⟨RX7, "within", "(III)Z"⟩
abbrev cX7_isPlayer : ByteArray := prog_1_method_21_code
def yX7_isPlayer : MethodName := ⟨RX7, "isPlayer", "(I)Z"⟩
abbrev cX7_isPlan : ByteArray := prog_1_method_22_code
def yX7_isPlan : MethodName := ⟨RX7, "isPlan", "(I)Z"⟩
abbrev cX7_isHand : ByteArray := prog_1_method_23_code
def yX7_isHand : MethodName := ⟨RX7, "isHand", "(II)Z"⟩
abbrev cX7_isBid : ByteArray := prog_1_method_24_code
def yX7_isBid : MethodName := ⟨RX7, "isBid", "(I)Z"⟩
abbrev cX7_isBidOrNone : ByteArray := prog_1_method_25_code
def yX7_isBidOrNone : MethodName := ⟨RX7, "isBidOrNone", "(I)Z"⟩
abbrev cX7_mayFollow : ByteArray := prog_1_method_26_code
def yX7_mayFollow : MethodName := ⟨RX7, "mayFollow", "(II)Z"⟩
abbrev cX7_at : ByteArray := prog_1_method_27_code
def yX7_at : MethodName := ⟨RX7, "at", "([II)I"⟩
abbrev cX7_put : ByteArray := prog_1_method_28_code
def yX7_put : MethodName := ⟨RX7, "put", "([III)V"⟩
abbrev cX7_realAt : ByteArray := prog_1_method_29_code
def yX7_realAt : MethodName := ⟨RX7, "realAt", "([DI)D"⟩
abbrev cX7_putReal : ByteArray := prog_1_method_30_code
def yX7_putReal : MethodName := ⟨RX7, "putReal", "([DID)V"⟩
abbrev cX7_cut : ByteArray := prog_1_method_31_code
def yX7_cut : MethodName := ⟨RX7, "cut", "(II)I"⟩
abbrev cX7_leftOver : ByteArray := prog_1_method_32_code
def yX7_leftOver : MethodName := ⟨RX7, "leftOver", "(II)I"⟩
abbrev cX7_commonDivisor : ByteArray := prog_1_method_33_code
def yX7_commonDivisor : MethodName := ⟨RX7, "commonDivisor", "(II)I"⟩
abbrev cX7_bitsOf : ByteArray := prog_1_method_34_code
def yX7_bitsOf : MethodName := ⟨RX7, "bitsOf", "(D)J"⟩
def RX8 : String := "DiceCupsModel"
def TX8 : u_T := fun k => match k with
  | 0 => ("DiceCupsModel", "d0", "I", false)
  | 1 => ("DiceCupsModel", "d1", "I", false)
  | 2 => ("DiceCupsModel", "faces", "I", false)
  | 3 => ("DiceCupsModel", "isWild", "Z", false)
  | 4 => ("DiceCupsModel", "counts", "[I", true)
  | 5 => ("DiceCupsModel", "hands", "[I", true)
  | 6 => ("DiceCupsModel", "throwsOf", "[I", true)
  | 7 => ("DiceCupsModel", "weights", "[I", true)
  | 8 => ("DiceCupsModel", "wasRound", "Z", false)
  | 9 => ("DiceCupsModel", "held", "[I", true)
  | 10 => ("DiceCupsModel", "mover", "I", false)
  | 11 => ("DiceCupsModel", "last", "I", false)
  | 12 => ("DiceCupsModel", "bids", "I", false)
  | 13 => ("DiceCupsModel", "winner", "I", false)
  | 14 => ("DiceCupsModel", "wonFirst", "I", false)
  | 15 => ("DiceCupsModel", "wonSecond", "I", false)
  | 16 => ("DiceCupsModel", "row", "[I", true)
  | 17 => ("DiceCupsModel", "behind", "[D", true)
  | 18 => ("DiceCupsModel", "left", "[D", true)
  | 19 => ("DiceCupsModel", "lastAt", "[I", true)
  | 20 => ("DiceCupsModel", "moveAt", "[I", true)
  | 21 => ("DiceCupsModel", "valueAt", "[D", true)
  | 22 => ("DiceCupsModel", "bestAt", "[I", true)
  | 23 => ("DiceCupsModel", "hasBest", "[Z", true)
  | 24 => ("DiceCupsModel", "seedNow", "I", false)
  | _ => ("DiceCupsModel", "drawnFaces", "[I", true)
def tyX8 : Nat → FieldType := fun k => match k with
  | 0 => .int
  | 1 => .int
  | 2 => .int
  | 3 => .boolean
  | 4 => .array .int
  | 5 => .array .int
  | 6 => .array .int
  | 7 => .array .int
  | 8 => .boolean
  | 9 => .array .int
  | 10 => .int
  | 11 => .int
  | 12 => .int
  | 13 => .int
  | 14 => .int
  | 15 => .int
  | 16 => .array .int
  | 17 => .array .double
  | 18 => .array .double
  | 19 => .array .int
  | 20 => .array .int
  | 21 => .array .double
  | 22 => .array .int
  | 23 => .array .boolean
  | 24 => .int
  | _ => .array .int
theorem nmX8 : ∀ a, a < 26 → ∀ b, b < 26 → a ≠ b → (TX8 a).2.1 ≠ (TX8 b).2.1 := by decide +kernel
theorem tyX8_ok : ∀ k, k < 26 → parseFieldDescriptor (TX8 k).2.2.1 = some (tyX8 k) := by decide +kernel
abbrev cX8_init : ByteArray := prog_10_method_1_code
def yX8_init : MethodName := ⟨RX8, "<init>", "()V"⟩
abbrev cX8_in : ByteArray := prog_10_method_2_code
def yX8_in : MethodName := ⟨RX8, "in", "(III)Z"⟩
abbrev cX8_dice : ByteArray := prog_10_method_3_code
def yX8_dice : MethodName := ⟨RX8, "dice", "(I)I"⟩
abbrev cX8_most : ByteArray := prog_10_method_4_code
def yX8_most : MethodName := ⟨RX8, "most", "()I"⟩
abbrev cX8_product : ByteArray := prog_10_method_5_code
def yX8_product : MethodName := ⟨RX8, "product", "(I)I"⟩
abbrev cX8_layHands : ByteArray := prog_10_method_6_code
def yX8_layHands : MethodName := ⟨RX8, "layHands", "(I)V"⟩
abbrev cX8_lay : ByteArray := prog_10_method_7_code
def yX8_lay : MethodName := ⟨RX8, "lay", "()V"⟩
abbrev cX8_cups : ByteArray := prog_10_method_8_code
def yX8_cups : MethodName := ⟨RX8, "cups", "(IIIZ)I"⟩
abbrev cX8_isPlayer : ByteArray := prog_10_method_9_code
def yX8_isPlayer : MethodName := ⟨RX8, "isPlayer", "(I)Z"⟩
abbrev cX8_isHand : ByteArray := prog_10_method_10_code
def yX8_isHand : MethodName := ⟨RX8, "isHand", "(II)Z"⟩
abbrev cX8_isBid : ByteArray := prog_10_method_11_code
def yX8_isBid : MethodName := ⟨RX8, "isBid", "(I)Z"⟩
abbrev cX8_hands : ByteArray := prog_10_method_12_code
def yX8_hands : MethodName := ⟨RX8, "hands", "(I)I"⟩
abbrev cX8_hand : ByteArray := prog_10_method_13_code
def yX8_hand : MethodName := ⟨RX8, "hand", "(III)I"⟩
abbrev cX8_throwsOf : ByteArray := prog_10_method_14_code
def yX8_throwsOf : MethodName := ⟨RX8, "throwsOf", "(II)I"⟩
abbrev cX8_countsFor : ByteArray := prog_10_method_15_code
def yX8_countsFor : MethodName := ⟨RX8, "countsFor", "(III)I"⟩
abbrev cX8_doesHold : ByteArray := prog_10_method_16_code
def yX8_doesHold : MethodName := ⟨RX8, "doesHold", "(III)Z"⟩
abbrev cX8_holds : ByteArray := prog_10_method_17_code
def yX8_holds : MethodName := ⟨RX8, "holds", "(III)I"⟩
abbrev cX8_throwsFor : ByteArray := prog_10_method_18_code
def yX8_throwsFor : MethodName := ⟨RX8, "throwsFor", "(III)I"⟩
abbrev cX8_power : ByteArray := prog_10_method_19_code
def yX8_power : MethodName := ⟨RX8, "power", "(I)I"⟩
abbrev cX8_chance : ByteArray := prog_10_method_20_code
def yX8_chance : MethodName := ⟨RX8, "chance", "(IIII)I"⟩
abbrev cX8_surest : ByteArray := prog_10_method_21_code
def yX8_surest : MethodName := ⟨RX8, "surest", "(IIII)I"⟩
abbrev cX8_isPlan : ByteArray := prog_10_method_22_code
def yX8_isPlan : MethodName := ⟨RX8, "isPlan", "(I)Z"⟩
abbrev cX8_mayMove : ByteArray := prog_10_method_23_code
def yX8_mayMove : MethodName := ⟨RX8, "mayMove", "(II)Z"⟩
abbrev cX8_at : ByteArray := prog_10_method_24_code
def yX8_at : MethodName := ⟨RX8, "at", "(IIIII)I"⟩
abbrev cX8_weigh : ByteArray := prog_10_method_25_code
def yX8_weigh : MethodName := ⟨RX8, "weigh", "(IIIIII)I"⟩
abbrev cX8_total : ByteArray := prog_10_method_26_code
def yX8_total : MethodName := ⟨RX8, "total", "(IIII)I"⟩
abbrev cX8_part : ByteArray := prog_10_method_27_code
def yX8_part : MethodName := ⟨RX8, "part", "(IIIII)D"⟩
abbrev cX8_wins : ByteArray := prog_10_method_28_code
def yX8_wins : MethodName := ⟨RX8, "wins", "(IIIII)Z"⟩
abbrev cX8_worthOf : ByteArray := prog_10_method_29_code
def yX8_worthOf : MethodName := ⟨RX8, "worthOf", "(IIII)D"⟩
abbrev cX8_worth : ByteArray := prog_10_method_30_code
def yX8_worth : MethodName := ⟨RX8, "worth", "(II)J"⟩
abbrev cX8_enter : ByteArray := prog_10_method_31_code
def yX8_enter : MethodName := ⟨RX8, "enter", "(II)V"⟩
abbrev cX8_offer : ByteArray := prog_10_method_32_code
def yX8_offer : MethodName := ⟨RX8, "offer", "(ID)V"⟩
abbrev cX8_leads : ByteArray := prog_10_method_33_code
def yX8_leads : MethodName := ⟨RX8, "leads", "(IIII)Z"⟩
abbrev cX8_winsBy : ByteArray := prog_10_method_34_code
def yX8_winsBy : MethodName := ⟨RX8, "winsBy", "(IIIII)Z"⟩
abbrev cX8_call : ByteArray := prog_10_method_35_code
def yX8_call : MethodName := ⟨RX8, "call", "(IIII)V"⟩
abbrev cX8_answerOf : ByteArray := prog_10_method_36_code
def yX8_answerOf : MethodName := ⟨RX8, "answerOf", "(IIII)D"⟩
abbrev cX8_begin : ByteArray := prog_10_method_37_code
def yX8_begin : MethodName := ⟨RX8, "begin", "(I)V"⟩
abbrev cX8_answer : ByteArray := prog_10_method_38_code
def yX8_answer : MethodName := ⟨RX8, "answer", "(II)J"⟩
abbrev cX8_opening : ByteArray := prog_10_method_39_code
def yX8_opening : MethodName := ⟨RX8, "opening", "(II)I"⟩
abbrev cX8_reply : ByteArray := prog_10_method_40_code
def yX8_reply : MethodName := ⟨RX8, "reply", "(III)I"⟩
abbrev cX8_drawn : ByteArray := prog_10_method_41_code
def yX8_drawn : MethodName := ⟨RX8, "drawn", "(I)I"⟩
abbrev cX8_round : ByteArray := prog_10_method_42_code
def yX8_round : MethodName := ⟨RX8, "round", "(I)I"⟩
abbrev cX8_held : ByteArray := prog_10_method_43_code
def yX8_held : MethodName := ⟨RX8, "held", "(I)I"⟩
abbrev cX8_move : ByteArray := prog_10_method_44_code
def yX8_move : MethodName := ⟨RX8, "move", "(I)I"⟩
abbrev cX8_about : ByteArray := prog_10_method_45_code
def yX8_about : MethodName := ⟨RX8, "about", "(I)I"⟩
abbrev cX8_count : ByteArray := prog_10_method_46_code
def yX8_count : MethodName := ⟨RX8, "count", "(I)I"⟩
abbrev cX8_digest : ByteArray := prog_10_method_47_code
def yX8_digest : MethodName := ⟨RX8, "digest", "()J"⟩
def RJx145de : String := "java/io/Serializable"
def TJx145de : u_T := fun k => match k with
  | _ => ("", "", "", false)
def tyJx145de : Nat → FieldType := fun k => match k with
  | _ => .int
theorem nmJx145de : ∀ a, a < 0 → ∀ b, b < 0 → a ≠ b → (TJx145de a).2.1 ≠ (TJx145de b).2.1 := by decide +kernel
theorem tyJx145de_ok : ∀ k, k < 0 → parseFieldDescriptor (TJx145de k).2.2.1 = some (tyJx145de k) := by decide +kernel
def RJxb160c : String := "java/lang/Comparable"
def TJxb160c : u_T := fun k => match k with
  | _ => ("", "", "", false)
def tyJxb160c : Nat → FieldType := fun k => match k with
  | _ => .int
theorem nmJxb160c : ∀ a, a < 0 → ∀ b, b < 0 → a ≠ b → (TJxb160c a).2.1 ≠ (TJxb160c b).2.1 := by decide +kernel
theorem tyJxb160c_ok : ∀ k, k < 0 → parseFieldDescriptor (TJxb160c k).2.2.1 = some (tyJxb160c k) := by decide +kernel
def RJxe99ae : String := "java/lang/Double"
def TJxe99ae : u_T := fun k => match k with
  | _ => ("", "", "", false)
def tyJxe99ae : Nat → FieldType := fun k => match k with
  | _ => .int
theorem nmJxe99ae : ∀ a, a < 0 → ∀ b, b < 0 → a ≠ b → (TJxe99ae a).2.1 ≠ (TJxe99ae b).2.1 := by decide +kernel
theorem tyJxe99ae_ok : ∀ k, k < 0 → parseFieldDescriptor (TJxe99ae k).2.2.1 = some (tyJxe99ae k) := by decide +kernel
abbrev cJxe99ae_isNaN_b9ae7 : ByteArray := prog_11_method_6_code
def yJxe99ae_isNaN_b9ae7 : MethodName := ⟨RJxe99ae, "isNaN", "(D)Z"⟩
abbrev cJxe99ae_doubleToLongBits_ccdee : ByteArray := prog_11_method_23_code
def yJxe99ae_doubleToLongBits_ccdee : MethodName := ⟨RJxe99ae, "doubleToLongBits", "(D)J"⟩
def RJxd2413 : String := "java/lang/Number"
def TJxd2413 : u_T := fun k => match k with
  | _ => ("", "", "", false)
def tyJxd2413 : Nat → FieldType := fun k => match k with
  | _ => .int
theorem nmJxd2413 : ∀ a, a < 0 → ∀ b, b < 0 → a ≠ b → (TJxd2413 a).2.1 ≠ (TJxd2413 b).2.1 := by decide +kernel
theorem tyJxd2413_ok : ∀ k, k < 0 → parseFieldDescriptor (TJxd2413 k).2.2.1 = some (tyJxd2413 k) := by decide +kernel
def RJxfd54e : String := "java/lang/constant/Constable"
def TJxfd54e : u_T := fun k => match k with
  | _ => ("", "", "", false)
def tyJxfd54e : Nat → FieldType := fun k => match k with
  | _ => .int
theorem nmJxfd54e : ∀ a, a < 0 → ∀ b, b < 0 → a ≠ b → (TJxfd54e a).2.1 ≠ (TJxfd54e b).2.1 := by decide +kernel
theorem tyJxfd54e_ok : ∀ k, k < 0 → parseFieldDescriptor (TJxfd54e k).2.2.1 = some (tyJxfd54e k) := by decide +kernel
def RJx3cf43 : String := "java/lang/constant/ConstantDesc"
def TJx3cf43 : u_T := fun k => match k with
  | _ => ("", "", "", false)
def tyJx3cf43 : Nat → FieldType := fun k => match k with
  | _ => .int
theorem nmJx3cf43 : ∀ a, a < 0 → ∀ b, b < 0 → a ≠ b → (TJx3cf43 a).2.1 ≠ (TJx3cf43 b).2.1 := by decide +kernel
theorem tyJx3cf43_ok : ∀ k, k < 0 → parseFieldDescriptor (TJx3cf43 k).2.2.1 = some (tyJx3cf43 k) := by decide +kernel
def RJ7 : String := "java/util/Arrays"
def TJ7 : u_T := fun k => match k with
  | _ => ("", "", "", false)
def tyJ7 : Nat → FieldType := fun k => match k with
  | _ => .int
theorem nmJ7 : ∀ a, a < 0 → ∀ b, b < 0 → a ≠ b → (TJ7 a).2.1 ≠ (TJ7 b).2.1 := by decide +kernel
theorem tyJ7_ok : ∀ k, k < 0 → parseFieldDescriptor (TJ7 k).2.2.1 = some (tyJ7 k) := by decide +kernel
abbrev cJ7_fill_53178 : ByteArray := prog_13_method_103_code
def yJ7_fill_53178 : MethodName := ⟨RJ7, "fill", "([II)V"⟩
abbrev cJ7_fill_7f8df : ByteArray := prog_13_method_113_code
def yJ7_fill_7f8df : MethodName := ⟨RJ7, "fill", "([DD)V"⟩
def RL : String := "DiceCupsLaw"
abbrev cL_law : ByteArray := code
def yL_law : MethodName := ⟨RL, "law", "([I)Z"⟩
abbrev vwCl : List vw_C := [(RX0, TX0, 6), (RX1, TX1, 6), (RX2, TX2, 12), (RX3, TX3, 4), (RX4, TX4, 1), (RX5, TX5, 1), (RX6, TX6, 6), (RX7, TX7, 5), (RX8, TX8, 26)]
def gz_dec (b : ByteArray) (t : List (Nat × Instr × Nat)) : Bool := t.all (fun q => decide (decode b q.1 = .ok (q.2.1, q.2.2)))
theorem gz_d {b : ByteArray} {t : List (Nat × Instr × Nat)} (h : gz_dec b t = true) (i : Nat) {pc n : Nat} {ins : Instr} (hi : t[i]? = some (pc, ins, n)) : decode b pc = .ok (ins, n) := by
  have h1 := List.all_eq_true.mp h (pc, ins, n) (List.mem_of_getElem? hi)
  exact of_decide_eq_true (p := decode b pc = .ok (ins, n)) h1
end
section
/-! THE LAYER: a world of a fixed layout (objects with whole-number fields and fixed references, arrays of whole numbers and doubles); a walk's state is a memory, a place, the variables and the stack -/
abbrev gz_M : Type := (Nat → Nat → Int32) × (Nat → Nat → UInt64)
abbrev gz_C : Type := (Nat × List (Option Nat)) ⊕ (Nat × Nat)
def gz_fv (ad : Nat → Nat) (M : gz_M) (k j : Nat) (f : Option Nat) : Value := match f with
  | some r => .ref (ad r)
  | none => .int (M.1 k j)
def gz_fs (ad : Nat → Nat) (M : gz_M) (k : Nat) (fs : List (Option Nat)) : List Value := fs.mapIdx (fun j f => gz_fv ad M k j f)
def gz_ce (ad : Nat → Nat) (cy : Nat → ClassId) (M : gz_M) (k : Nat) (c : gz_C) : va_E := match c with
  | .inl o => .inr (o.1, gz_fs ad M k o.2)
  | .inr a => cond (Nat.beq a.2 1) (.inl (cy 1, a.1, .inr (.inr (.inr (.inl (M.2 k)))))) (.inl (cy a.2, a.1, .inl (M.1 k)))
def gz_ws (ad : Nat → Nat) (cy : Nat → ClassId) (lay : List gz_C) (M : gz_M) : va_W := lay.mapIdx (fun k c => (ad k, gz_ce ad cy M k c))
def gz_A (ad : Nat → Nat) (lay : List gz_C) : Nat → Prop := fun q => ∃ k, k < lay.length ∧ q = ad k
def gz_inj (ad : Nat → Nat) (lay : List gz_C) : Prop := ∀ i j, i < lay.length → j < lay.length → ad i = ad j → i = j
def gz_up {α : Type} (f : Nat → Nat → α) (k j : Nat) (v : α) : Nat → Nat → α := fun a => if a = k then (fun b => if b = j then v else f a b) else f a
theorem gz_up_ne {α : Type} {f : Nat → Nat → α} {k j i : Nat} {v : α} (h : i ≠ k) : gz_up f k j v i = f i := if_neg h
theorem gz_up_eq {α : Type} {f : Nat → Nat → α} {k j : Nat} {v : α} : gz_up f k j v k = fun b => if b = j then v else f k b := if_pos rfl
theorem gz_up_self {α : Type} {f : Nat → Nat → α} {k j : Nat} {v : α} : gz_up f k j v k j = v := by rw [gz_up_eq]; exact if_pos rfl
theorem gz_up_oth {α : Type} {f : Nat → Nat → α} {k j b : Nat} {v : α} (h : b ≠ j) : gz_up f k j v k b = f k b := by rw [gz_up_eq]; exact if_neg h
theorem gz_ws_get {ad : Nat → Nat} {cy : Nat → ClassId} {lay : List gz_C} {M : gz_M} (i : Nat) : (gz_ws ad cy lay M)[i]? = (lay[i]?).map (fun c => (ad i, gz_ce ad cy M i c)) := by simp [gz_ws]
theorem gz_ws_at {ad : Nat → Nat} {cy : Nat → ClassId} {lay : List gz_C} {M : gz_M} {k : Nat} {c : gz_C} (h : lay[k]? = some c) : (gz_ws ad cy lay M)[k]? = some (ad k, gz_ce ad cy M k c) := by rw [gz_ws_get, h]; rfl
theorem gz_ws_len {ad : Nat → Nat} {cy : Nat → ClassId} {lay : List gz_C} {M : gz_M} : (gz_ws ad cy lay M).length = lay.length := by simp [gz_ws]
theorem gz_D {ad : Nat → Nat} {cy : Nat → ClassId} {lay : List gz_C} (h : gz_inj ad lay) (M : gz_M) : va_D (gz_A ad lay) (gz_ws ad cy lay M) := by
  refine ⟨fun i j p q hi hj he => ?_, fun k q hk => ?_⟩
  · rw [gz_ws_get] at hi hj
    obtain ⟨c1, h1, rfl⟩ := Option.map_eq_some_iff.mp hi
    obtain ⟨c2, h2, rfl⟩ := Option.map_eq_some_iff.mp hj
    exact h i j (List.getElem?_eq_some_iff.mp h1).1 (List.getElem?_eq_some_iff.mp h2).1 he
  · rw [gz_ws_get] at hk
    obtain ⟨c1, h1, rfl⟩ := Option.map_eq_some_iff.mp hk
    exact ⟨k, (List.getElem?_eq_some_iff.mp h1).1, rfl⟩
theorem gz_fs_get {ad : Nat → Nat} {M : gz_M} {k : Nat} {fs : List (Option Nat)} (i : Nat) : (gz_fs ad M k fs)[i]? = (fs[i]?).map (fun f => gz_fv ad M k i f) := by simp [gz_fs]
theorem gz_fs_len {ad : Nat → Nat} {M : gz_M} {k : Nat} {fs : List (Option Nat)} : (gz_fs ad M k fs).length = fs.length := by simp [gz_fs]
theorem gz_ce_ne {ad : Nat → Nat} {cy : Nat → ClassId} {M N : gz_M} {i : Nat} {c : gz_C} (h1 : N.1 i = M.1 i) (h2 : N.2 i = M.2 i) : gz_ce ad cy N i c = gz_ce ad cy M i c := by
  cases c with
  | inl o =>
    have e : gz_fs ad N i o.2 = gz_fs ad M i o.2 := by
      apply List.ext_getElem?
      intro j
      rw [gz_fs_get, gz_fs_get]
      cases o.2[j]? with
      | none => rfl
      | some f =>
        cases f with
        | none => show some (Value.int (N.1 i j)) = some (Value.int (M.1 i j)); rw [h1]
        | some r => rfl
    show Sum.inr (o.1, gz_fs ad N i o.2) = Sum.inr (o.1, gz_fs ad M i o.2)
    rw [e]
  | inr a =>
    show cond (Nat.beq a.2 1) _ _ = cond (Nat.beq a.2 1) _ _
    rw [h1, h2]
theorem gz_set {ad : Nat → Nat} {cy : Nat → ClassId} {lay : List gz_C} {M N : gz_M} {k : Nat} {c : gz_C} {e : va_E} (hk : lay[k]? = some c) (he : e = gz_ce ad cy N k c) (ho : ∀ i, i ≠ k → N.1 i = M.1 i ∧ N.2 i = M.2 i) : (gz_ws ad cy lay M).set k (ad k, e) = gz_ws ad cy lay N := by
  apply List.ext_getElem?
  intro i
  rw [List.getElem?_set, gz_ws_get, gz_ws_get]
  by_cases hi : k = i
  · subst hi
    have hl : k < (gz_ws ad cy lay M).length := by rw [gz_ws_len]; exact (List.getElem?_eq_some_iff.mp hk).1
    rw [if_pos rfl, if_pos hl, hk, he]
    rfl
  · rw [if_neg hi]
    cases lay[i]? with
    | none => rfl
    | some c2 =>
      have h2 := ho i (fun q => hi q.symm)
      show some (ad i, gz_ce ad cy M i c2) = some (ad i, gz_ce ad cy N i c2)
      rw [gz_ce_ne h2.1 h2.2]
theorem gz_setI {ad : Nat → Nat} {cy : Nat → ClassId} {lay : List gz_C} {M : gz_M} {k ci j : Nat} {fs : List (Option Nat)} {v : Int32} (hk : lay[k]? = some (.inl (ci, fs))) (hj : fs[j]? = some none) : (gz_ws ad cy lay M).set k (ad k, .inr (ci, (gz_fs ad M k fs).set j (.int v))) = gz_ws ad cy lay (gz_up M.1 k j v, M.2) := by
  refine gz_set hk ?_ (fun i hi => ⟨gz_up_ne hi, rfl⟩)
  show Sum.inr (ci, (gz_fs ad M k fs).set j (.int v)) = Sum.inr (ci, gz_fs ad (gz_up M.1 k j v, M.2) k fs)
  congr 2
  apply List.ext_getElem?
  intro i
  rw [List.getElem?_set, gz_fs_get, gz_fs_get]
  by_cases hi : j = i
  · subst hi
    rw [if_pos rfl, if_pos (by rw [gz_fs_len]; exact (List.getElem?_eq_some_iff.mp hj).1), hj]
    show some (Value.int v) = some (Value.int (gz_up M.1 k j v k j))
    rw [gz_up_self]
  · rw [if_neg hi]
    cases fs[i]? with
    | none => rfl
    | some f =>
      cases f with
      | none => show some (Value.int (M.1 k i)) = some (Value.int (gz_up M.1 k j v k i)); rw [gz_up_oth (fun q => hi q.symm)]
      | some r => rfl
theorem gz_upd_eq (f : Nat → Nat → Int32) (k j : Nat) (v : Int32) : upd (f k) j v = gz_up f k j v k := by
  funext b
  rw [gz_up_eq]
  by_cases h : b = j
  · subst h; rw [pk_us]; exact (if_pos rfl).symm
  · rw [pk_un h]; exact (if_neg h).symm
theorem gz_updD_eq (f : Nat → Nat → UInt64) (k j : Nat) (v : UInt64) : vf_upd (f k) j v = gz_up f k j v k := by
  funext b
  rw [gz_up_eq]
  rfl
theorem gz_setA {ad : Nat → Nat} {cy : Nat → ClassId} {lay : List gz_C} {M : gz_M} {k n kd j : Nat} {v : Int32} (hk : lay[k]? = some (.inr (n, kd))) (hkd : Nat.beq kd 1 = false) : (gz_ws ad cy lay M).set k (ad k, .inl (cy kd, n, .inl (upd (M.1 k) j v))) = gz_ws ad cy lay (gz_up M.1 k j v, M.2) := by
  refine gz_set hk ?_ (fun i hi => ⟨gz_up_ne hi, rfl⟩)
  rw [gz_upd_eq]
  show _ = cond (Nat.beq kd 1) _ _
  rw [hkd]
  rfl
theorem gz_setD {ad : Nat → Nat} {cy : Nat → ClassId} {lay : List gz_C} {M : gz_M} {k n j : Nat} {v : UInt64} (hk : lay[k]? = some (.inr (n, 1))) : (gz_ws ad cy lay M).set k (ad k, .inl (cy 1, n, .inr (.inr (.inr (.inl (vf_upd (M.2 k) j v)))))) = gz_ws ad cy lay (M.1, gz_up M.2 k j v) := by
  refine gz_set hk ?_ (fun i hi => ⟨rfl, gz_up_ne hi⟩)
  rw [gz_updD_eq]
  rfl
-- the words
def gz_isN : Cond → Bool
  | .methodLinkNest .. => true
  | .fieldLinkNest .. => true
  | _ => false
def gz_XS : List Cond := lw_tbl.filter goodWord
def gz_XN : List Cond := lw_tbl.filter gz_isN
theorem gz_good : GoodIn gz_XS gz_XS := fun w h => ⟨h, good_of_word (List.mem_filter.mp h).2⟩
theorem gz_goodC {ws : List Cond} (h : ∀ w ∈ ws, w ∈ gz_XS) : GoodIn gz_XS (ws ++ gz_XS) := fun w hw => (List.mem_append.mp hw).elim (fun q => gz_good w (h w q)) (fun q => gz_good w q)
theorem gz_mS {w : Cond} (i : Nat) (h : lw_tbl[i]? = some w) (hg : goodWord w = true) : w ∈ gz_XS := List.mem_filter.mpr ⟨List.mem_of_getElem? h, hg⟩
theorem gz_mN {w : Cond} (i : Nat) (h : lw_tbl[i]? = some w) (hg : gz_isN w = true) : w ∈ gz_XN := List.mem_filter.mpr ⟨List.mem_of_getElem? h, hg⟩
theorem gz_nest {s U : State} (hW : s.WarmedH U.vm) (h : ∀ w ∈ gz_XN, va_Nw w s) : ∀ w ∈ gz_XN, va_Nw w U := by
  intro w hw
  have h1 := h w hw
  have h2 := (List.mem_filter.mp hw).2
  unfold gz_isN at h2
  split at h2
  · exact va_Nw.warmM hW h1
  · exact va_Nw.warmF hW h1
  · exact absurd h2 (by decide)
-- the variables
def gz_lg : List (Nat × Value) → Nat → Option Value
  | [], _ => none
  | q :: t, i => cond (Nat.beq q.1 i) (some q.2) (gz_lg t i)
theorem gz_lg_mem : ∀ {lv : List (Nat × Value)} {i : Nat} {v : Value}, gz_lg lv i = some v → (i, v) ∈ lv
  | [], _, _, h => by cases h
  | q :: t, i, v, h => by
    unfold gz_lg at h
    cases hb : Nat.beq q.1 i with
    | true =>
      rw [hb] at h
      have e := Nat.eq_of_beq_eq_true hb
      have e2 : q.2 = v := Option.some.inj h
      rw [← e, ← e2]
      exact List.mem_cons_self
    | false =>
      rw [hb] at h
      exact List.mem_cons_of_mem _ (gz_lg_mem h)
def gz_s1 (lv : List (Nat × Value)) (i : Nat) (v : Value) : List (Nat × Value) := (i, v) :: lv.filter (fun q => !(q.1 == i) && !(q.1 + 1 == i && q.2.category == 2))
def gz_s2 (lv : List (Nat × Value)) (i : Nat) (v : Value) : List (Nat × Value) := (i, v) :: lv.filter (fun q => !(q.1 == i) && (!(q.1 == i + 1) && !(q.1 + 1 == i && q.2.category == 2)))
def gz_all (lv : List (Nat × Value)) : List (Nat × Value) → Prop
  | [] => True
  | q :: t => gz_lg lv q.1 = some q.2 ∧ gz_all lv t
theorem gz_all_mem {lv : List (Nat × Value)} : ∀ {l2 : List (Nat × Value)}, gz_all lv l2 → ∀ q ∈ l2, q ∈ lv
  | [], _, _, h => by cases h
  | _ :: _, h, q, hq => by
    rcases List.mem_cons.mp hq with e | e
    · rw [e]; exact gz_lg_mem h.1
    · exact gz_all_mem h.2 q e
theorem gz_hasA {ls : Array Slot} {nL i : Nat} {lv : List (Nat × Value)} {v : Value} (h : lv_has ls nL lv) (hl : gz_lg lv i = some v) : ls[i]? = some (.val v) := h.2.2 (i, v) (gz_lg_mem hl)
-- the judgement
def gz_rm (d : Nat) : Room := { frames := d, cells := 0, slots := 0, locals := 40 * d }
def gz_ty (cy : Nat → ClassId) : List (ClassId × FieldType) := [(cy 0, .int), (cy 1, .double), (cy 2, .boolean)]
def gz_B (D : va_G) (ad : Nat → Nat) (cy : Nat → ClassId) (lay : List gz_C) (M : gz_M) : State → Prop := fun U => va_P D vwCl (gz_ws ad cy lay M) U.heap ∧ va_K D vwCl (gz_ty cy) U ∧ ∀ w ∈ gz_XN, va_Nw w U
def gz_Q (D : va_G) (ad : Nat → Nat) (cy : Nat → ClassId) (lay : List gz_C) (post : Option Value → gz_M → Prop) : Array Value → State → Outcome → State → Prop := fun _ st oc t => (∃ (v : Option Value) (M : gz_M), oc = .returned v ∧ post v M ∧ va_P D vwCl (gz_ws ad cy lay M) t.heap) ∧ va_F (gz_A ad lay) st t
def gz_Ct (l : Launch) (D : va_G) (ad : Nat → Nat) (cy : Nat → ClassId) (lay : List gz_C) (y : MethodName) (cc : ByteArray) (nL : Nat) (ret : Option FieldType) (d : Nat) (av : List Value) (M : gz_M) (post : Option Value → gz_M → Prop) : Prop :=
  Met l y (.code y cc nL ret :: gz_XS) (gz_rm d) (va_Pc av (gz_B D ad cy lay M)) (gz_Q D ad cy lay post) 0 0 (gz_A ad lay)
def gz_X (p : Program) (s : State) (m : MethodId) (args : Array Value) (meth : Method) (c : Code) (own : String) (cc : ByteArray) (ret : Option FieldType) (nL : Nat) (D : va_G) (ad : Nat → Nat) (cy : Nat → ClassId) (lay : List gz_C) : Prop :=
  p.tables.exec = Jvm.exec ∧ c.code = cc ∧ meth.sig.returnType = ret ∧ c.maxLocals = nL ∧ s.vm.findClass own = some m.cls ∧ (∀ w ∈ gz_XS, w.before args s = true) ∧ (∀ w ∈ gz_XN, va_Nw w s) ∧ va_K D vwCl (gz_ty cy) s ∧ meth.locks = false ∧ gz_inj ad lay
def gz_W (p : Program) (l : Launch) (e : Env) (R : Room) (s : State) (m : MethodId) (args : Array Value) (below : List Frame) (meth : Method) (c : Code) (D : va_G) (ad : Nat → Nat) (cy : Nat → ClassId) (lay : List gz_C) (nL : Nat) (Q : State → Prop) (M : gz_M) (pc : Nat) (lv : List (Nat × Value)) (st : List Value) : Prop :=
  ∀ (H : Heap) (locs : List Loc) (ls : Array Slot), va_P D vwCl (gz_ws ad cy lay M) H → va_S (gz_A ad lay) s.heap H locs → lv_has ls nL lv → W p l e R s m args below meth c H locs 0 0 Q (F0 m pc ls st)
section GZ
variable {p : Program} {l : Launch} {e : Env} {R : Room} {s : State} {m : MethodId} {args : Array Value} {below : List Frame} {meth : Method} {c : Code} {D : va_G} {ad : Nat → Nat} {cy : Nat → ClassId} {lay : List gz_C} {nL : Nat} {Q : State → Prop} {M : gz_M} {pc : Nat} {lv : List (Nat × Value)} {st : List Value} {own : String} {cc : ByteArray} {ret : Option FieldType}
theorem gz_met {y : MethodName} {d : Nat} {av : List Value} {post : Option Value → gz_M → Prop} (hy : plainName y.cls = true) (hinj : gz_inj ad lay) (hlen : (lg_sl av).length ≤ nL)
    (body : ∀ (p : Program) (e : Env) (s : State) (m : MethodId) (args : Array Value) (below : List Frame) (meth : Method) (c : Code), gz_X p s m args meth c y.cls cc ret nL D ad cy lay → gz_W p l e (gz_rm d) s m args below meth c D ad cy lay nL (MQ below (gz_Q D ad cy lay post) args s 0 0 (gz_A ad lay)) M 0 (lv_args 0 av) []) : gz_Ct l D ad cy lay y cc nL ret d av M post := by
  refine Met.ofW (cc := cc) (maxL := nL) (ret := ret) hy rfl ?_
  intro p e s m args below meth c s₁ B hml hv
  obtain ⟨rfl, hP, hK, hN⟩ := hv
  have hts := atoms_spec (ws := Cond.code y cc nL ret :: gz_XS) B.pre
  have hX : gz_X p s m av.toArray meth c y.cls cc ret nL D ad cy lay := ⟨B.exec, B.bytes, B.returns, hml, findClass_of_methodNamed B.named, fun w hw => hts w (List.mem_cons_of_mem _ hw), hN, hK, B.notSynchronized, hinj⟩
  have hl := lv_entry av (n := nL) hlen
  rw [lg_entry_eq]
  exact body p e s m _ below meth c hX s.heap [] _ hP va_S.rf hl
theorem gz_lw (lv2 : List (Nat × Value)) (h : gz_all lv lv2) (kk : gz_W p l e R s m args below meth c D ad cy lay nL Q M pc lv2 st) : gz_W p l e R s m args below meth c D ad cy lay nL Q M pc lv st := fun H locs ls hP hS hL => kk H locs ls hP hS ⟨hL.1, hL.2.1, fun q hq => hL.2.2 q (gz_all_mem h q hq)⟩

theorem gz_iload_n (hC : gz_X p s m args meth c own cc ret nL D ad cy lay) {k : Fin 4} {x : Int32} (hd : decode cc pc = .ok (.iload_n k, 1)) (hl : gz_lg lv k = some (.int x)) (kk : gz_W p l e R s m args below meth c D ad cy lay nL Q M (pc + 1) lv (.int x :: st)) : gz_W p l e R s m args below meth c D ad cy lay nL Q M (pc) lv (st) := fun H locs ls hP hS hL => lv_iload_n hC.1 hC.2.1 hd rfl (gz_hasA hL hl) (kk H locs ls hP hS hL)
theorem gz_iload (hC : gz_X p s m args meth c own cc ret nL D ad cy lay) {k : Nat} {x : Int32} (hd : decode cc pc = .ok (.iload k, 2)) (hl : gz_lg lv k = some (.int x)) (kk : gz_W p l e R s m args below meth c D ad cy lay nL Q M (pc + 2) lv (.int x :: st)) : gz_W p l e R s m args below meth c D ad cy lay nL Q M (pc) lv (st) := fun H locs ls hP hS hL => lv_iload hC.1 hC.2.1 hd (gz_hasA hL hl) (kk H locs ls hP hS hL)
theorem gz_aload_n (hC : gz_X p s m args meth c own cc ret nL D ad cy lay) {k : Fin 4} {x : Nat} (hd : decode cc pc = .ok (.aload_n k, 1)) (hl : gz_lg lv k = some (.ref x)) (kk : gz_W p l e R s m args below meth c D ad cy lay nL Q M (pc + 1) lv (.ref x :: st)) : gz_W p l e R s m args below meth c D ad cy lay nL Q M (pc) lv (st) := fun H locs ls hP hS hL => lv_aload_n hC.1 hC.2.1 hd rfl (gz_hasA hL hl) (kk H locs ls hP hS hL)
theorem gz_aload (hC : gz_X p s m args meth c own cc ret nL D ad cy lay) {k : Nat} {x : Nat} (hd : decode cc pc = .ok (.aload k, 2)) (hl : gz_lg lv k = some (.ref x)) (kk : gz_W p l e R s m args below meth c D ad cy lay nL Q M (pc + 2) lv (.ref x :: st)) : gz_W p l e R s m args below meth c D ad cy lay nL Q M (pc) lv (st) := fun H locs ls hP hS hL => lv_aload hC.1 hC.2.1 hd (gz_hasA hL hl) (kk H locs ls hP hS hL)
theorem gz_dload_n (hC : gz_X p s m args meth c own cc ret nL D ad cy lay) {k : Fin 4} {x : UInt64} (hd : decode cc pc = .ok (.dload_n k, 1)) (hl : gz_lg lv k = some (.double x)) (kk : gz_W p l e R s m args below meth c D ad cy lay nL Q M (pc + 1) lv (.double x :: st)) : gz_W p l e R s m args below meth c D ad cy lay nL Q M (pc) lv (st) := fun H locs ls hP hS hL => lv_dload_n hC.1 hC.2.1 hd rfl (gz_hasA hL hl) (kk H locs ls hP hS hL)
theorem gz_dload (hC : gz_X p s m args meth c own cc ret nL D ad cy lay) {k : Nat} {x : UInt64} (hd : decode cc pc = .ok (.dload k, 2)) (hl : gz_lg lv k = some (.double x)) (kk : gz_W p l e R s m args below meth c D ad cy lay nL Q M (pc + 2) lv (.double x :: st)) : gz_W p l e R s m args below meth c D ad cy lay nL Q M (pc) lv (st) := fun H locs ls hP hS hL => lv_dload hC.1 hC.2.1 hd (gz_hasA hL hl) (kk H locs ls hP hS hL)
theorem gz_lload_n (hC : gz_X p s m args meth c own cc ret nL D ad cy lay) {k : Fin 4} {x : Int64} (hd : decode cc pc = .ok (.lload_n k, 1)) (hl : gz_lg lv k = some (.long x)) (kk : gz_W p l e R s m args below meth c D ad cy lay nL Q M (pc + 1) lv (.long x :: st)) : gz_W p l e R s m args below meth c D ad cy lay nL Q M (pc) lv (st) := fun H locs ls hP hS hL => lv_lload_n hC.1 hC.2.1 hd rfl (gz_hasA hL hl) (kk H locs ls hP hS hL)
theorem gz_lload (hC : gz_X p s m args meth c own cc ret nL D ad cy lay) {k : Nat} {x : Int64} (hd : decode cc pc = .ok (.lload k, 2)) (hl : gz_lg lv k = some (.long x)) (kk : gz_W p l e R s m args below meth c D ad cy lay nL Q M (pc + 2) lv (.long x :: st)) : gz_W p l e R s m args below meth c D ad cy lay nL Q M (pc) lv (st) := fun H locs ls hP hS hL => lv_lload hC.1 hC.2.1 hd (gz_hasA hL hl) (kk H locs ls hP hS hL)
theorem gz_istore_n (hC : gz_X p s m args meth c own cc ret nL D ad cy lay) {k : Fin 4} {x : Int32} (hd : decode cc pc = .ok (.istore_n k, 1)) (hn : (k : Nat) < nL) (kk : gz_W p l e R s m args below meth c D ad cy lay nL Q M (pc + 1) (gz_s1 lv k (.int x)) (st)) : gz_W p l e R s m args below meth c D ad cy lay nL Q M (pc) lv (.int x :: st) := fun H locs ls hP hS hL => lv_istore_n hC.1 hC.2.1 hd rfl hL hn rfl (fun ls2 hL2 => kk H locs ls2 hP hS hL2)
theorem gz_istore (hC : gz_X p s m args meth c own cc ret nL D ad cy lay) {k : Nat} {x : Int32} (hd : decode cc pc = .ok (.istore k, 2)) (hn : k < nL) (kk : gz_W p l e R s m args below meth c D ad cy lay nL Q M (pc + 2) (gz_s1 lv k (.int x)) (st)) : gz_W p l e R s m args below meth c D ad cy lay nL Q M (pc) lv (.int x :: st) := fun H locs ls hP hS hL => lv_istore hC.1 hC.2.1 hd hL hn rfl (fun ls2 hL2 => kk H locs ls2 hP hS hL2)
theorem gz_astore_n (hC : gz_X p s m args meth c own cc ret nL D ad cy lay) {k : Fin 4} {x : Nat} (hd : decode cc pc = .ok (.astore_n k, 1)) (hn : (k : Nat) < nL) (kk : gz_W p l e R s m args below meth c D ad cy lay nL Q M (pc + 1) (gz_s1 lv k (.ref x)) (st)) : gz_W p l e R s m args below meth c D ad cy lay nL Q M (pc) lv (.ref x :: st) := fun H locs ls hP hS hL => lv_astore_n hC.1 hC.2.1 hd rfl hL hn rfl (fun ls2 hL2 => kk H locs ls2 hP hS hL2)
theorem gz_astore (hC : gz_X p s m args meth c own cc ret nL D ad cy lay) {k : Nat} {x : Nat} (hd : decode cc pc = .ok (.astore k, 2)) (hn : k < nL) (kk : gz_W p l e R s m args below meth c D ad cy lay nL Q M (pc + 2) (gz_s1 lv k (.ref x)) (st)) : gz_W p l e R s m args below meth c D ad cy lay nL Q M (pc) lv (.ref x :: st) := fun H locs ls hP hS hL => lv_astore hC.1 hC.2.1 hd hL hn rfl (fun ls2 hL2 => kk H locs ls2 hP hS hL2)
theorem gz_dstore_n (hC : gz_X p s m args meth c own cc ret nL D ad cy lay) {k : Fin 4} {x : UInt64} (hd : decode cc pc = .ok (.dstore_n k, 1)) (hn : (k : Nat) + 1 < nL) (kk : gz_W p l e R s m args below meth c D ad cy lay nL Q M (pc + 1) (gz_s2 lv k (.double x)) (st)) : gz_W p l e R s m args below meth c D ad cy lay nL Q M (pc) lv (.double x :: st) := fun H locs ls hP hS hL => lv_dstore_n hC.1 hC.2.1 hd rfl hL hn rfl (fun ls2 hL2 => kk H locs ls2 hP hS hL2)
theorem gz_dstore (hC : gz_X p s m args meth c own cc ret nL D ad cy lay) {k : Nat} {x : UInt64} (hd : decode cc pc = .ok (.dstore k, 2)) (hn : k + 1 < nL) (kk : gz_W p l e R s m args below meth c D ad cy lay nL Q M (pc + 2) (gz_s2 lv k (.double x)) (st)) : gz_W p l e R s m args below meth c D ad cy lay nL Q M (pc) lv (.double x :: st) := fun H locs ls hP hS hL => lv_dstore hC.1 hC.2.1 hd hL hn rfl (fun ls2 hL2 => kk H locs ls2 hP hS hL2)
theorem gz_lstore_n (hC : gz_X p s m args meth c own cc ret nL D ad cy lay) {k : Fin 4} {x : Int64} (hd : decode cc pc = .ok (.lstore_n k, 1)) (hn : (k : Nat) + 1 < nL) (kk : gz_W p l e R s m args below meth c D ad cy lay nL Q M (pc + 1) (gz_s2 lv k (.long x)) (st)) : gz_W p l e R s m args below meth c D ad cy lay nL Q M (pc) lv (.long x :: st) := fun H locs ls hP hS hL => lv_lstore_n hC.1 hC.2.1 hd rfl hL hn rfl (fun ls2 hL2 => kk H locs ls2 hP hS hL2)
theorem gz_lstore (hC : gz_X p s m args meth c own cc ret nL D ad cy lay) {k : Nat} {x : Int64} (hd : decode cc pc = .ok (.lstore k, 2)) (hn : k + 1 < nL) (kk : gz_W p l e R s m args below meth c D ad cy lay nL Q M (pc + 2) (gz_s2 lv k (.long x)) (st)) : gz_W p l e R s m args below meth c D ad cy lay nL Q M (pc) lv (.long x :: st) := fun H locs ls hP hS hL => lv_lstore hC.1 hC.2.1 hd hL hn rfl (fun ls2 hL2 => kk H locs ls2 hP hS hL2)
theorem gz_pos : ∀ {lv : List (Nat × Value)} {q : Nat × Value}, q ∈ lv → ∃ k : Nat, lv[k]? = some q := fun h => List.getElem?_of_mem h
theorem gz_iinc (hC : gz_X p s m args meth c own cc ret nL D ad cy lay) {k : Nat} {n : Int} {x : Int32} (v : Int32) (hd : decode cc pc = .ok (.iinc k n, 3)) (hl : gz_lg lv k = some (.int x)) (hv : Int32.ofInt n = v) (hn : k < nL) (kk : gz_W p l e R s m args below meth c D ad cy lay nL Q M (pc + 3) (gz_s1 lv k (.int (x + v))) (st)) : gz_W p l e R s m args below meth c D ad cy lay nL Q M (pc) lv (st) := fun H locs ls hP hS hL => by
  obtain ⟨j, hj⟩ := gz_pos (gz_lg_mem hl)
  subst hv
  exact lv_iinc hC.1 hC.2.1 hd hL hj rfl hn rfl (fun ls2 hL2 => kk H locs ls2 hP hS hL2)
theorem gz_iconst (hC : gz_X p s m args meth c own cc ret nL D ad cy lay) {n : Int} (v : Int32) (hd : decode cc pc = .ok (.iconst n, 1)) (hv : Int32.ofInt n = v) (kk : gz_W p l e R s m args below meth c D ad cy lay nL Q M (pc + 1) lv (.int v :: st)) : gz_W p l e R s m args below meth c D ad cy lay nL Q M (pc) lv (st) := fun H locs ls hP hS hL => lv_iconst hC.1 hC.2.1 hd hv (kk H locs ls hP hS hL)
theorem gz_bipush (hC : gz_X p s m args meth c own cc ret nL D ad cy lay) {n : Int} (v : Int32) (hd : decode cc pc = .ok (.bipush n, 2)) (hv : (Int8.ofInt n).toInt32 = v) (kk : gz_W p l e R s m args below meth c D ad cy lay nL Q M (pc + 2) lv (.int v :: st)) : gz_W p l e R s m args below meth c D ad cy lay nL Q M (pc) lv (st) := fun H locs ls hP hS hL => lv_bipush hC.1 hC.2.1 hd hv (kk H locs ls hP hS hL)
theorem gz_sipush (hC : gz_X p s m args meth c own cc ret nL D ad cy lay) {n : Int} (v : Int32) (hd : decode cc pc = .ok (.sipush n, 3)) (hv : (Int16.ofInt n).toInt32 = v) (kk : gz_W p l e R s m args below meth c D ad cy lay nL Q M (pc + 3) lv (.int v :: st)) : gz_W p l e R s m args below meth c D ad cy lay nL Q M (pc) lv (st) := fun H locs ls hP hS hL => lv_sipush hC.1 hC.2.1 hd hv (kk H locs ls hP hS hL)
theorem gz_lconst (hC : gz_X p s m args meth c own cc ret nL D ad cy lay) {n : Fin 2} (v : Int64) (hd : decode cc pc = .ok (.lconst n, 1)) (hv : Int64.ofNat (n : Nat) = v) (kk : gz_W p l e R s m args below meth c D ad cy lay nL Q M (pc + 1) lv (.long v :: st)) : gz_W p l e R s m args below meth c D ad cy lay nL Q M (pc) lv (st) := fun H locs ls hP hS hL => lv_lconst hC.1 hC.2.1 hd hv (kk H locs ls hP hS hL)
theorem gz_dconst0 (hC : gz_X p s m args meth c own cc ret nL D ad cy lay) (hd : decode cc pc = .ok (.dconst 0, 1)) (kk : gz_W p l e R s m args below meth c D ad cy lay nL Q M (pc + 1) lv (.double 0 :: st)) : gz_W p l e R s m args below meth c D ad cy lay nL Q M (pc) lv (st) := fun H locs ls hP hS hL => lv_dconst0 hC.1 hC.2.1 hd (kk H locs ls hP hS hL)
theorem gz_dconst1 (hC : gz_X p s m args meth c own cc ret nL D ad cy lay) (hd : decode cc pc = .ok (.dconst 1, 1)) (kk : gz_W p l e R s m args below meth c D ad cy lay nL Q M (pc + 1) lv (.double 4607182418800017408 :: st)) : gz_W p l e R s m args below meth c D ad cy lay nL Q M (pc) lv (st) := fun H locs ls hP hS hL => lv_dconst1 hC.1 hC.2.1 hd (kk H locs ls hP hS hL)
theorem gz_ldc (hC : gz_X p s m args meth c own cc ret nL D ad cy lay) {idx : Nat} {v : Int32} (hd : decode cc pc = .ok (.ldc idx, 2)) (hw : Cond.constant own idx v ∈ gz_XS) (kk : gz_W p l e R s m args below meth c D ad cy lay nL Q M (pc + 2) lv (.int v :: st)) : gz_W p l e R s m args below meth c D ad cy lay nL Q M (pc) lv (st) := fun H locs ls hP hS hL => lv_ldc hC.1 hC.2.1 hC.2.2.2.2.1 (hC.2.2.2.2.2.1 _ hw) hd (kk H locs ls hP hS hL)
theorem gz_ldc2l (hC : gz_X p s m args meth c own cc ret nL D ad cy lay) {idx : Nat} {v : Int64} (hd : decode cc pc = .ok (.ldc2_w idx, 3)) (hw : Cond.constantLong own idx v ∈ gz_XS) (kk : gz_W p l e R s m args below meth c D ad cy lay nL Q M (pc + 3) lv (.long v :: st)) : gz_W p l e R s m args below meth c D ad cy lay nL Q M (pc) lv (st) := fun H locs ls hP hS hL => lv_ldc2 hC.1 hC.2.1 hC.2.2.2.2.1 (hC.2.2.2.2.2.1 _ hw) hd (kk H locs ls hP hS hL)
theorem gz_ldc2d (hC : gz_X p s m args meth c own cc ret nL D ad cy lay) {idx : Nat} {v : UInt64} (hd : decode cc pc = .ok (.ldc2_w idx, 3)) (hw : Cond.constantDouble own idx v ∈ gz_XS) (kk : gz_W p l e R s m args below meth c D ad cy lay nL Q M (pc + 3) lv (.double v :: st)) : gz_W p l e R s m args below meth c D ad cy lay nL Q M (pc) lv (st) := fun H locs ls hP hS hL => lv_ldc2d hC.1 hC.2.1 hC.2.2.2.2.1 (hC.2.2.2.2.2.1 _ hw) hd (kk H locs ls hP hS hL)
theorem gz_iadd (hC : gz_X p s m args meth c own cc ret nL D ad cy lay) {x y : Int32} (hd : decode cc pc = .ok (.iadd, 1)) (kk : gz_W p l e R s m args below meth c D ad cy lay nL Q M (pc + 1) lv (.int (x + y) :: st)) : gz_W p l e R s m args below meth c D ad cy lay nL Q M (pc) lv (.int y :: .int x :: st) := fun H locs ls hP hS hL => lv_iadd hC.1 hC.2.1 hd (kk H locs ls hP hS hL)
theorem gz_isub (hC : gz_X p s m args meth c own cc ret nL D ad cy lay) {x y : Int32} (hd : decode cc pc = .ok (.isub, 1)) (kk : gz_W p l e R s m args below meth c D ad cy lay nL Q M (pc + 1) lv (.int (x - y) :: st)) : gz_W p l e R s m args below meth c D ad cy lay nL Q M (pc) lv (.int y :: .int x :: st) := fun H locs ls hP hS hL => lv_isub hC.1 hC.2.1 hd (kk H locs ls hP hS hL)
theorem gz_imul (hC : gz_X p s m args meth c own cc ret nL D ad cy lay) {x y : Int32} (hd : decode cc pc = .ok (.imul, 1)) (kk : gz_W p l e R s m args below meth c D ad cy lay nL Q M (pc + 1) lv (.int (x * y) :: st)) : gz_W p l e R s m args below meth c D ad cy lay nL Q M (pc) lv (.int y :: .int x :: st) := fun H locs ls hP hS hL => lv_imul hC.1 hC.2.1 hd (kk H locs ls hP hS hL)
theorem gz_iand (hC : gz_X p s m args meth c own cc ret nL D ad cy lay) {x y : Int32} (hd : decode cc pc = .ok (.iand, 1)) (kk : gz_W p l e R s m args below meth c D ad cy lay nL Q M (pc + 1) lv (.int (x &&& y) :: st)) : gz_W p l e R s m args below meth c D ad cy lay nL Q M (pc) lv (.int y :: .int x :: st) := fun H locs ls hP hS hL => lv_iand hC.1 hC.2.1 hd (kk H locs ls hP hS hL)
theorem gz_idiv (hC : gz_X p s m args meth c own cc ret nL D ad cy lay) {x y : Int32} (hd : decode cc pc = .ok (.idiv, 1)) (hne : ¬ y = 0) (kk : gz_W p l e R s m args below meth c D ad cy lay nL Q M (pc + 1) lv (.int (x / y) :: st)) : gz_W p l e R s m args below meth c D ad cy lay nL Q M (pc) lv (.int y :: .int x :: st) := fun H locs ls hP hS hL => lv_idiv hC.1 hC.2.1 hd hne (kk H locs ls hP hS hL)
theorem gz_irem (hC : gz_X p s m args meth c own cc ret nL D ad cy lay) {x y : Int32} (hd : decode cc pc = .ok (.irem, 1)) (hne : ¬ y = 0) (kk : gz_W p l e R s m args below meth c D ad cy lay nL Q M (pc + 1) lv (.int (x - x / y * y) :: st)) : gz_W p l e R s m args below meth c D ad cy lay nL Q M (pc) lv (.int y :: .int x :: st) := fun H locs ls hP hS hL => lv_irem hC.1 hC.2.1 hd hne (kk H locs ls hP hS hL)
theorem gz_ladd (hC : gz_X p s m args meth c own cc ret nL D ad cy lay) {x y : Int64} (hd : decode cc pc = .ok (.ladd, 1)) (kk : gz_W p l e R s m args below meth c D ad cy lay nL Q M (pc + 1) lv (.long (x + y) :: st)) : gz_W p l e R s m args below meth c D ad cy lay nL Q M (pc) lv (.long y :: .long x :: st) := fun H locs ls hP hS hL => lv_ladd hC.1 hC.2.1 hd (kk H locs ls hP hS hL)
theorem gz_lsub (hC : gz_X p s m args meth c own cc ret nL D ad cy lay) {x y : Int64} (hd : decode cc pc = .ok (.lsub, 1)) (kk : gz_W p l e R s m args below meth c D ad cy lay nL Q M (pc + 1) lv (.long (x - y) :: st)) : gz_W p l e R s m args below meth c D ad cy lay nL Q M (pc) lv (.long y :: .long x :: st) := fun H locs ls hP hS hL => lv_lsub hC.1 hC.2.1 hd (kk H locs ls hP hS hL)
theorem gz_lmul (hC : gz_X p s m args meth c own cc ret nL D ad cy lay) {x y : Int64} (hd : decode cc pc = .ok (.lmul, 1)) (kk : gz_W p l e R s m args below meth c D ad cy lay nL Q M (pc + 1) lv (.long (x * y) :: st)) : gz_W p l e R s m args below meth c D ad cy lay nL Q M (pc) lv (.long y :: .long x :: st) := fun H locs ls hP hS hL => lv_lmul hC.1 hC.2.1 hd (kk H locs ls hP hS hL)
theorem gz_lshl (hC : gz_X p s m args meth c own cc ret nL D ad cy lay) {x : Int64} {y : Int32} (hd : decode cc pc = .ok (.lshl, 1)) (kk : gz_W p l e R s m args below meth c D ad cy lay nL Q M (pc + 1) lv (.long (x <<< (y.toInt64 &&& 63)) :: st)) : gz_W p l e R s m args below meth c D ad cy lay nL Q M (pc) lv (.int y :: .long x :: st) := fun H locs ls hP hS hL => lv_lshl hC.1 hC.2.1 hd rfl (kk H locs ls hP hS hL)
theorem gz_i2l (hC : gz_X p s m args meth c own cc ret nL D ad cy lay) {x : Int32} (hd : decode cc pc = .ok (.i2l, 1)) (kk : gz_W p l e R s m args below meth c D ad cy lay nL Q M (pc + 1) lv (.long x.toInt64 :: st)) : gz_W p l e R s m args below meth c D ad cy lay nL Q M (pc) lv (.int x :: st) := fun H locs ls hP hS hL => lv_i2l hC.1 hC.2.1 hd rfl (kk H locs ls hP hS hL)
theorem gz_i2d (hC : gz_X p s m args meth c own cc ret nL D ad cy lay) {x : Int32} (hd : decode cc pc = .ok (.i2d, 1)) (kk : gz_W p l e R s m args below meth c D ad cy lay nL Q M (pc + 1) lv (.double (FP.i2d x) :: st)) : gz_W p l e R s m args below meth c D ad cy lay nL Q M (pc) lv (.int x :: st) := fun H locs ls hP hS hL => lv_i2d hC.1 hC.2.1 hd (kk H locs ls hP hS hL)
theorem gz_d2l (hC : gz_X p s m args meth c own cc ret nL D ad cy lay) {x : UInt64} (hd : decode cc pc = .ok (.d2l, 1)) (kk : gz_W p l e R s m args below meth c D ad cy lay nL Q M (pc + 1) lv (.long (FP.d2l x) :: st)) : gz_W p l e R s m args below meth c D ad cy lay nL Q M (pc) lv (.double x :: st) := fun H locs ls hP hS hL => lv_d2l hC.1 hC.2.1 hd (kk H locs ls hP hS hL)
theorem gz_dadd (hC : gz_X p s m args meth c own cc ret nL D ad cy lay) {x y : UInt64} (hd : decode cc pc = .ok (.dadd, 1)) (hne : vf_n64 (FP.dadd x y)) (kk : gz_W p l e R s m args below meth c D ad cy lay nL Q M (pc + 1) lv (.double (FP.dadd x y) :: st)) : gz_W p l e R s m args below meth c D ad cy lay nL Q M (pc) lv (.double y :: .double x :: st) := fun H locs ls hP hS hL => lv_dadd hC.1 hC.2.1 hd hne (kk H locs ls hP hS hL)
theorem gz_dmul (hC : gz_X p s m args meth c own cc ret nL D ad cy lay) {x y : UInt64} (hd : decode cc pc = .ok (.dmul, 1)) (hne : vf_n64 (FP.dmul x y)) (kk : gz_W p l e R s m args below meth c D ad cy lay nL Q M (pc + 1) lv (.double (FP.dmul x y) :: st)) : gz_W p l e R s m args below meth c D ad cy lay nL Q M (pc) lv (.double y :: .double x :: st) := fun H locs ls hP hS hL => lv_dmul hC.1 hC.2.1 hd hne (kk H locs ls hP hS hL)
theorem gz_ddiv (hC : gz_X p s m args meth c own cc ret nL D ad cy lay) {x y : UInt64} (hd : decode cc pc = .ok (.ddiv, 1)) (hne : vf_n64 (FP.ddiv x y)) (kk : gz_W p l e R s m args below meth c D ad cy lay nL Q M (pc + 1) lv (.double (FP.ddiv x y) :: st)) : gz_W p l e R s m args below meth c D ad cy lay nL Q M (pc) lv (.double y :: .double x :: st) := fun H locs ls hP hS hL => lv_ddiv hC.1 hC.2.1 hd hne (kk H locs ls hP hS hL)
theorem gz_dcmp (hC : gz_X p s m args meth c own cc ret nL D ad cy lay) {x y : UInt64} {op : CmpOp} (hd : decode cc pc = .ok (.dcmp op, 1)) (kk : gz_W p l e R s m args below meth c D ad cy lay nL Q M (pc + 1) lv (.int (Op.cmpValue (FP.dcmp x y) op) :: st)) : gz_W p l e R s m args below meth c D ad cy lay nL Q M (pc) lv (.double y :: .double x :: st) := fun H locs ls hP hS hL => lv_dcmp hC.1 hC.2.1 hd (kk H locs ls hP hS hL)
theorem gz_dup (hC : gz_X p s m args meth c own cc ret nL D ad cy lay) {v : Value} (hd : decode cc pc = .ok (.dup, 1)) (hv : v.category = 1) (kk : gz_W p l e R s m args below meth c D ad cy lay nL Q M (pc + 1) lv (v :: v :: st)) : gz_W p l e R s m args below meth c D ad cy lay nL Q M (pc) lv (v :: st) := fun H locs ls hP hS hL => lv_dup hC.1 hC.2.1 hd hv (kk H locs ls hP hS hL)
theorem gz_dup2 (hC : gz_X p s m args meth c own cc ret nL D ad cy lay) {v w : Value} (hd : decode cc pc = .ok (.dup2, 1)) (hv : v.category = 1) (hw : w.category = 1) (kk : gz_W p l e R s m args below meth c D ad cy lay nL Q M (pc + 1) lv (v :: w :: v :: w :: st)) : gz_W p l e R s m args below meth c D ad cy lay nL Q M (pc) lv (v :: w :: st) := fun H locs ls hP hS hL => lv_dup2_11 hC.1 hC.2.1 hd (by first | exact hv | exact hw) (by first | exact hw | exact hv) (kk H locs ls hP hS hL)
theorem gz_pop2 (hC : gz_X p s m args meth c own cc ret nL D ad cy lay) {v : Value} (hd : decode cc pc = .ok (.pop2, 1)) (hv : v.category = 2) (kk : gz_W p l e R s m args below meth c D ad cy lay nL Q M (pc + 1) lv (st)) : gz_W p l e R s m args below meth c D ad cy lay nL Q M (pc) lv (v :: st) := fun H locs ls hP hS hL => lv_pop2_2 hC.1 hC.2.1 hd hv (kk H locs ls hP hS hL)
theorem gz_icmp_eq (hC : gz_X p s m args meth c own cc ret nL D ad cy lay) {x y : Int32} {off : Int} (tgt : Nat) (hd : decode cc pc = .ok (.if_icmp .eq off, 3)) (ht : (pc : Int) + off = (tgt : Int)) (kt : x = y → gz_W p l e R s m args below meth c D ad cy lay nL Q M (tgt) lv (st)) (kf : ¬ x = y → gz_W p l e R s m args below meth c D ad cy lay nL Q M (pc + 3) lv (st)) : gz_W p l e R s m args below meth c D ad cy lay nL Q M (pc) lv (.int y :: .int x :: st) := fun H locs ls hP hS hL => lv_icmp_eq hC.1 hC.2.1 hd ht (fun h => kt h H locs ls hP hS hL) (fun h => kf h H locs ls hP hS hL)
theorem gz_if_eq (hC : gz_X p s m args meth c own cc ret nL D ad cy lay) {x : Int32} {off : Int} (tgt : Nat) (hd : decode cc pc = .ok (.ifCond .eq off, 3)) (ht : (pc : Int) + off = (tgt : Int)) (kt : x = 0 → gz_W p l e R s m args below meth c D ad cy lay nL Q M (tgt) lv (st)) (kf : ¬ x = 0 → gz_W p l e R s m args below meth c D ad cy lay nL Q M (pc + 3) lv (st)) : gz_W p l e R s m args below meth c D ad cy lay nL Q M (pc) lv (.int x :: st) := fun H locs ls hP hS hL => lv_if_eq hC.1 hC.2.1 hd ht (fun h => kt h H locs ls hP hS hL) (fun h => kf h H locs ls hP hS hL)
theorem gz_icmp_ne (hC : gz_X p s m args meth c own cc ret nL D ad cy lay) {x y : Int32} {off : Int} (tgt : Nat) (hd : decode cc pc = .ok (.if_icmp .ne off, 3)) (ht : (pc : Int) + off = (tgt : Int)) (kt : ¬ x = y → gz_W p l e R s m args below meth c D ad cy lay nL Q M (tgt) lv (st)) (kf : x = y → gz_W p l e R s m args below meth c D ad cy lay nL Q M (pc + 3) lv (st)) : gz_W p l e R s m args below meth c D ad cy lay nL Q M (pc) lv (.int y :: .int x :: st) := fun H locs ls hP hS hL => lv_icmp_ne hC.1 hC.2.1 hd ht (fun h => kt h H locs ls hP hS hL) (fun h => kf h H locs ls hP hS hL)
theorem gz_if_ne (hC : gz_X p s m args meth c own cc ret nL D ad cy lay) {x : Int32} {off : Int} (tgt : Nat) (hd : decode cc pc = .ok (.ifCond .ne off, 3)) (ht : (pc : Int) + off = (tgt : Int)) (kt : ¬ x = 0 → gz_W p l e R s m args below meth c D ad cy lay nL Q M (tgt) lv (st)) (kf : x = 0 → gz_W p l e R s m args below meth c D ad cy lay nL Q M (pc + 3) lv (st)) : gz_W p l e R s m args below meth c D ad cy lay nL Q M (pc) lv (.int x :: st) := fun H locs ls hP hS hL => lv_if_ne hC.1 hC.2.1 hd ht (fun h => kt h H locs ls hP hS hL) (fun h => kf h H locs ls hP hS hL)
theorem gz_icmp_lt (hC : gz_X p s m args meth c own cc ret nL D ad cy lay) {x y : Int32} {off : Int} (tgt : Nat) (hd : decode cc pc = .ok (.if_icmp .lt off, 3)) (ht : (pc : Int) + off = (tgt : Int)) (kt : x < y → gz_W p l e R s m args below meth c D ad cy lay nL Q M (tgt) lv (st)) (kf : ¬ x < y → gz_W p l e R s m args below meth c D ad cy lay nL Q M (pc + 3) lv (st)) : gz_W p l e R s m args below meth c D ad cy lay nL Q M (pc) lv (.int y :: .int x :: st) := fun H locs ls hP hS hL => lv_icmp_lt hC.1 hC.2.1 hd ht (fun h => kt h H locs ls hP hS hL) (fun h => kf h H locs ls hP hS hL)
theorem gz_if_lt (hC : gz_X p s m args meth c own cc ret nL D ad cy lay) {x : Int32} {off : Int} (tgt : Nat) (hd : decode cc pc = .ok (.ifCond .lt off, 3)) (ht : (pc : Int) + off = (tgt : Int)) (kt : x < 0 → gz_W p l e R s m args below meth c D ad cy lay nL Q M (tgt) lv (st)) (kf : ¬ x < 0 → gz_W p l e R s m args below meth c D ad cy lay nL Q M (pc + 3) lv (st)) : gz_W p l e R s m args below meth c D ad cy lay nL Q M (pc) lv (.int x :: st) := fun H locs ls hP hS hL => lv_if_lt hC.1 hC.2.1 hd ht (fun h => kt h H locs ls hP hS hL) (fun h => kf h H locs ls hP hS hL)
theorem gz_icmp_ge (hC : gz_X p s m args meth c own cc ret nL D ad cy lay) {x y : Int32} {off : Int} (tgt : Nat) (hd : decode cc pc = .ok (.if_icmp .ge off, 3)) (ht : (pc : Int) + off = (tgt : Int)) (kt : y ≤ x → gz_W p l e R s m args below meth c D ad cy lay nL Q M (tgt) lv (st)) (kf : ¬ y ≤ x → gz_W p l e R s m args below meth c D ad cy lay nL Q M (pc + 3) lv (st)) : gz_W p l e R s m args below meth c D ad cy lay nL Q M (pc) lv (.int y :: .int x :: st) := fun H locs ls hP hS hL => lv_icmp_ge hC.1 hC.2.1 hd ht (fun h => kt h H locs ls hP hS hL) (fun h => kf h H locs ls hP hS hL)
theorem gz_if_ge (hC : gz_X p s m args meth c own cc ret nL D ad cy lay) {x : Int32} {off : Int} (tgt : Nat) (hd : decode cc pc = .ok (.ifCond .ge off, 3)) (ht : (pc : Int) + off = (tgt : Int)) (kt : 0 ≤ x → gz_W p l e R s m args below meth c D ad cy lay nL Q M (tgt) lv (st)) (kf : ¬ 0 ≤ x → gz_W p l e R s m args below meth c D ad cy lay nL Q M (pc + 3) lv (st)) : gz_W p l e R s m args below meth c D ad cy lay nL Q M (pc) lv (.int x :: st) := fun H locs ls hP hS hL => lv_if_ge hC.1 hC.2.1 hd ht (fun h => kt h H locs ls hP hS hL) (fun h => kf h H locs ls hP hS hL)
theorem gz_icmp_gt (hC : gz_X p s m args meth c own cc ret nL D ad cy lay) {x y : Int32} {off : Int} (tgt : Nat) (hd : decode cc pc = .ok (.if_icmp .gt off, 3)) (ht : (pc : Int) + off = (tgt : Int)) (kt : y < x → gz_W p l e R s m args below meth c D ad cy lay nL Q M (tgt) lv (st)) (kf : ¬ y < x → gz_W p l e R s m args below meth c D ad cy lay nL Q M (pc + 3) lv (st)) : gz_W p l e R s m args below meth c D ad cy lay nL Q M (pc) lv (.int y :: .int x :: st) := fun H locs ls hP hS hL => lv_icmp_gt hC.1 hC.2.1 hd ht (fun h => kt h H locs ls hP hS hL) (fun h => kf h H locs ls hP hS hL)
theorem gz_if_gt (hC : gz_X p s m args meth c own cc ret nL D ad cy lay) {x : Int32} {off : Int} (tgt : Nat) (hd : decode cc pc = .ok (.ifCond .gt off, 3)) (ht : (pc : Int) + off = (tgt : Int)) (kt : 0 < x → gz_W p l e R s m args below meth c D ad cy lay nL Q M (tgt) lv (st)) (kf : ¬ 0 < x → gz_W p l e R s m args below meth c D ad cy lay nL Q M (pc + 3) lv (st)) : gz_W p l e R s m args below meth c D ad cy lay nL Q M (pc) lv (.int x :: st) := fun H locs ls hP hS hL => lv_if_gt hC.1 hC.2.1 hd ht (fun h => kt h H locs ls hP hS hL) (fun h => kf h H locs ls hP hS hL)
theorem gz_icmp_le (hC : gz_X p s m args meth c own cc ret nL D ad cy lay) {x y : Int32} {off : Int} (tgt : Nat) (hd : decode cc pc = .ok (.if_icmp .le off, 3)) (ht : (pc : Int) + off = (tgt : Int)) (kt : x ≤ y → gz_W p l e R s m args below meth c D ad cy lay nL Q M (tgt) lv (st)) (kf : ¬ x ≤ y → gz_W p l e R s m args below meth c D ad cy lay nL Q M (pc + 3) lv (st)) : gz_W p l e R s m args below meth c D ad cy lay nL Q M (pc) lv (.int y :: .int x :: st) := fun H locs ls hP hS hL => lv_icmp_le hC.1 hC.2.1 hd ht (fun h => kt h H locs ls hP hS hL) (fun h => kf h H locs ls hP hS hL)
theorem gz_if_le (hC : gz_X p s m args meth c own cc ret nL D ad cy lay) {x : Int32} {off : Int} (tgt : Nat) (hd : decode cc pc = .ok (.ifCond .le off, 3)) (ht : (pc : Int) + off = (tgt : Int)) (kt : x ≤ 0 → gz_W p l e R s m args below meth c D ad cy lay nL Q M (tgt) lv (st)) (kf : ¬ x ≤ 0 → gz_W p l e R s m args below meth c D ad cy lay nL Q M (pc + 3) lv (st)) : gz_W p l e R s m args below meth c D ad cy lay nL Q M (pc) lv (.int x :: st) := fun H locs ls hP hS hL => lv_if_le hC.1 hC.2.1 hd ht (fun h => kt h H locs ls hP hS hL) (fun h => kf h H locs ls hP hS hL)
theorem gz_goto (hC : gz_X p s m args meth c own cc ret nL D ad cy lay) {off : Int} (tgt : Nat) (hd : decode cc pc = .ok (.goto off, 3)) (ht : (pc : Int) + off = (tgt : Int)) (kk : gz_W p l e R s m args below meth c D ad cy lay nL Q M (tgt) lv (st)) : gz_W p l e R s m args below meth c D ad cy lay nL Q M (pc) lv (st) := fun H locs ls hP hS hL => lv_goto hC.1 hC.2.1 hd ht (kk H locs ls hP hS hL)
theorem gz_tabIn (hC : gz_X p s m args meth c own cc ret nL D ad cy lay) {dflt lo hi : Int} {offs : Array Int} {len : Nat} {x : Int32} {off : Int} (tgt : Nat) (hd : decode cc pc = .ok (.tableswitch dflt lo hi offs, len)) (h1 : ¬ x.toInt < lo) (h2 : ¬ hi < x.toInt) (ho : offs[(x.toInt - lo).toNat]? = some off) (ht : (pc : Int) + off = (tgt : Int)) (kk : gz_W p l e R s m args below meth c D ad cy lay nL Q M (tgt) lv (st)) : gz_W p l e R s m args below meth c D ad cy lay nL Q M (pc) lv (.int x :: st) := fun H locs ls hP hS hL => lv_tableIn hC.1 hC.2.1 hd h1 h2 ho ht (kk H locs ls hP hS hL)
theorem gz_tabOut (hC : gz_X p s m args meth c own cc ret nL D ad cy lay) {dflt lo hi : Int} {offs : Array Int} {len : Nat} {x : Int32} (tgt : Nat) (hd : decode cc pc = .ok (.tableswitch dflt lo hi offs, len)) (h : x.toInt < lo ∨ hi < x.toInt) (ht : (pc : Int) + dflt = (tgt : Int)) (kk : gz_W p l e R s m args below meth c D ad cy lay nL Q M (tgt) lv (st)) : gz_W p l e R s m args below meth c D ad cy lay nL Q M (pc) lv (.int x :: st) := fun H locs ls hP hS hL => lv_tableOut hC.1 hC.2.1 hd h ht (kk H locs ls hP hS hL)
/-- what a program decides of a kind of objects -/
def gz_CF (ci : Nat) (C : String) (T : u_T) (N : Nat) (ty0 : Nat → FieldType) : Prop := vwCl[ci]? = some (C, T, N) ∧ (∀ w ∈ u_ws C T N, w ∈ gz_XS) ∧ (∀ k, k < N → parseFieldDescriptor (T k).2.2.1 = some (ty0 k)) ∧ (∀ a, a < N → ∀ b, b < N → a ≠ b → (T a).2.1 ≠ (T b).2.1)
def gz_lk (own : String) (idx : Nat) (T : u_T) (j : Nat) : Prop := Cond.fieldLink own idx (T j).1 (T j).2.1 (T j).2.2.1 ∈ gz_XS
def gz_lkN (own : String) (idx : Nat) (T : u_T) (j : Nat) (host : String) : Prop := Cond.fieldLinkNest own idx (T j).1 (T j).2.1 (T j).2.2.1 host ∈ gz_XN
theorem gz_getI (hC : gz_X p s m args meth c own cc ret nL D ad cy lay) {ci : Nat} {C : String} {T : u_T} {N : Nat} {ty0 : Nat → FieldType} {idx k j : Nat} {fs : List (Option Nat)} (hd : decode cc pc = .ok (.getfield idx, 3)) (hF : gz_CF ci C T N ty0) (hl : gz_lk own idx T j) (hk : lay[k]? = some (.inl (ci, fs))) (hf : fs[j]? = some (none)) (hj : j < N) (kk : gz_W p l e R s m args below meth c D ad cy lay nL Q M (pc + 3) lv (.int (M.1 k j) :: st)) : gz_W p l e R s m args below meth c D ad cy lay nL Q M (pc) lv (.ref (ad k) :: st) := fun H locs ls hP hS hL => va_get hC.1 hC.2.1 hC.2.2.2.2.2.1 hF.2.1 hC.2.2.2.2.1 hC.2.2.2.2.2.2.2.1 hP k (gz_ws_at hk) hF.1 j hj (hC.2.2.2.2.2.1 _ hl) (fun _ h9 => h9) (v := .int (M.1 k j)) (by show (gz_fs ad M k fs)[j]? = _; rw [gz_fs_get, hf]; rfl) hd (kk H locs ls hP hS hL)
theorem gz_getIN (hC : gz_X p s m args meth c own cc ret nL D ad cy lay) {ci : Nat} {C : String} {T : u_T} {N : Nat} {ty0 : Nat → FieldType} {idx k j : Nat} {fs : List (Option Nat)} (hd : decode cc pc = .ok (.getfield idx, 3)) (hF : gz_CF ci C T N ty0) {host : String} (hl : gz_lkN own idx T j host) (hk : lay[k]? = some (.inl (ci, fs))) (hf : fs[j]? = some (none)) (hj : j < N) (kk : gz_W p l e R s m args below meth c D ad cy lay nL Q M (pc + 3) lv (.int (M.1 k j) :: st)) : gz_W p l e R s m args below meth c D ad cy lay nL Q M (pc) lv (.ref (ad k) :: st) := fun H locs ls hP hS hL => va_getN hC.1 hC.2.1 hC.2.2.2.2.2.1 hF.2.1 hC.2.2.2.2.1 hC.2.2.2.2.2.2.2.1 hP k (gz_ws_at hk) hF.1 j hj (va_Nw.use rfl (hC.2.2.2.2.2.2.1 _ hl)) (fun _ h9 => h9) (v := .int (M.1 k j)) (by show (gz_fs ad M k fs)[j]? = _; rw [gz_fs_get, hf]; rfl) hd (kk H locs ls hP hS hL)
theorem gz_getR (hC : gz_X p s m args meth c own cc ret nL D ad cy lay) {ci : Nat} {C : String} {T : u_T} {N : Nat} {ty0 : Nat → FieldType} {idx k j : Nat} {fs : List (Option Nat)} {r : Nat} (hd : decode cc pc = .ok (.getfield idx, 3)) (hF : gz_CF ci C T N ty0) (hl : gz_lk own idx T j) (hk : lay[k]? = some (.inl (ci, fs))) (hf : fs[j]? = some (some r)) (hj : j < N) (kk : gz_W p l e R s m args below meth c D ad cy lay nL Q M (pc + 3) lv (.ref (ad r) :: st)) : gz_W p l e R s m args below meth c D ad cy lay nL Q M (pc) lv (.ref (ad k) :: st) := fun H locs ls hP hS hL => va_get hC.1 hC.2.1 hC.2.2.2.2.2.1 hF.2.1 hC.2.2.2.2.1 hC.2.2.2.2.2.2.2.1 hP k (gz_ws_at hk) hF.1 j hj (hC.2.2.2.2.2.1 _ hl) (fun _ h9 => h9) (v := .ref (ad r)) (by show (gz_fs ad M k fs)[j]? = _; rw [gz_fs_get, hf]; rfl) hd (kk H locs ls hP hS hL)
theorem gz_getRN (hC : gz_X p s m args meth c own cc ret nL D ad cy lay) {ci : Nat} {C : String} {T : u_T} {N : Nat} {ty0 : Nat → FieldType} {idx k j : Nat} {fs : List (Option Nat)} {r : Nat} (hd : decode cc pc = .ok (.getfield idx, 3)) (hF : gz_CF ci C T N ty0) {host : String} (hl : gz_lkN own idx T j host) (hk : lay[k]? = some (.inl (ci, fs))) (hf : fs[j]? = some (some r)) (hj : j < N) (kk : gz_W p l e R s m args below meth c D ad cy lay nL Q M (pc + 3) lv (.ref (ad r) :: st)) : gz_W p l e R s m args below meth c D ad cy lay nL Q M (pc) lv (.ref (ad k) :: st) := fun H locs ls hP hS hL => va_getN hC.1 hC.2.1 hC.2.2.2.2.2.1 hF.2.1 hC.2.2.2.2.1 hC.2.2.2.2.2.2.2.1 hP k (gz_ws_at hk) hF.1 j hj (va_Nw.use rfl (hC.2.2.2.2.2.2.1 _ hl)) (fun _ h9 => h9) (v := .ref (ad r)) (by show (gz_fs ad M k fs)[j]? = _; rw [gz_fs_get, hf]; rfl) hd (kk H locs ls hP hS hL)
theorem gz_put (hC : gz_X p s m args meth c own cc ret nL D ad cy lay) {ci : Nat} {C : String} {T : u_T} {N : Nat} {ty0 : Nat → FieldType} {idx k j : Nat} {fs : List (Option Nat)} {v : Int32} (hd : decode cc pc = .ok (.putfield idx, 3)) (hF : gz_CF ci C T N ty0) (hl : gz_lk own idx T j) (hk : lay[k]? = some (.inl (ci, fs))) (hf : fs[j]? = some none) (hj : j < N) (hfin : (T j).2.2.2 = false) (hn : narrow (ty0 j) (.int v) = .int v) (hfit : fits (ty0 j) (.int v) = true) (kk : gz_W p l e R s m args below meth c D ad cy lay nL Q (gz_up M.1 k j v, M.2) (pc + 3) lv (st)) : gz_W p l e R s m args below meth c D ad cy lay nL Q M (pc) lv (.int v :: .ref (ad k) :: st) := fun H locs ls hP hS hL => va_put hC.1 hC.2.1 hC.2.2.2.2.2.1 hF.2.1 ty0 hF.2.2.1 hF.2.2.2 hC.2.2.2.2.1 hC.2.2.2.2.2.2.2.1 hP (gz_D hC.2.2.2.2.2.2.2.2.2 M) hS k (gz_ws_at hk) hF.1 j hj (hC.2.2.2.2.2.1 _ hl) (fun _ h9 => h9) hfin (hF.2.2.1 j hj) hn hfit (by rw [gz_fs_len]; exact (List.getElem?_eq_some_iff.mp hf).1) hd (fun H1 locs1 hP1 _ hS1 => kk H1 locs1 ls (by rw [← gz_setI hk hf]; exact hP1) hS1 hL)
theorem gz_putN (hC : gz_X p s m args meth c own cc ret nL D ad cy lay) {ci : Nat} {C : String} {T : u_T} {N : Nat} {ty0 : Nat → FieldType} {idx k j : Nat} {fs : List (Option Nat)} {v : Int32} (hd : decode cc pc = .ok (.putfield idx, 3)) (hF : gz_CF ci C T N ty0) {host : String} (hl : gz_lkN own idx T j host) (hk : lay[k]? = some (.inl (ci, fs))) (hf : fs[j]? = some none) (hj : j < N) (hfin : (T j).2.2.2 = false) (hn : narrow (ty0 j) (.int v) = .int v) (hfit : fits (ty0 j) (.int v) = true) (kk : gz_W p l e R s m args below meth c D ad cy lay nL Q (gz_up M.1 k j v, M.2) (pc + 3) lv (st)) : gz_W p l e R s m args below meth c D ad cy lay nL Q M (pc) lv (.int v :: .ref (ad k) :: st) := fun H locs ls hP hS hL => va_putN hC.1 hC.2.1 hC.2.2.2.2.2.1 hF.2.1 ty0 hF.2.2.1 hF.2.2.2 hC.2.2.2.2.1 hC.2.2.2.2.2.2.2.1 hP (gz_D hC.2.2.2.2.2.2.2.2.2 M) hS k (gz_ws_at hk) hF.1 j hj (va_Nw.use rfl (hC.2.2.2.2.2.2.1 _ hl)) (fun _ h9 => h9) hfin (hF.2.2.1 j hj) hn hfit (by rw [gz_fs_len]; exact (List.getElem?_eq_some_iff.mp hf).1) hd (fun H1 locs1 hP1 _ hS1 => kk H1 locs1 ls (by rw [← gz_setI hk hf]; exact hP1) hS1 hL)
theorem gz_iald (hC : gz_X p s m args meth c own cc ret nL D ad cy lay) {k n : Nat} {i : Int32} (hd : decode cc pc = .ok (.iaload, 1)) (hk : lay[k]? = some (.inr (n, 0))) (hin : vp_in i n) (kk : gz_W p l e R s m args below meth c D ad cy lay nL Q M (pc + 1) lv (.int (M.1 k i.toNatClampNeg) :: st)) : gz_W p l e R s m args below meth c D ad cy lay nL Q M (pc) lv (.int i :: .ref (ad k) :: st) := fun H locs ls hP hS hL => va_iald hC.1 hC.2.1 hC.2.2.2.2.2.2.2.1 hP k 0 (gz_ws_at hk) rfl hin hd (kk H locs ls hP hS hL)
theorem gz_zald (hC : gz_X p s m args meth c own cc ret nL D ad cy lay) {k n : Nat} {i : Int32} (hd : decode cc pc = .ok (.baload, 1)) (hk : lay[k]? = some (.inr (n, 2))) (hin : vp_in i n) (kk : gz_W p l e R s m args below meth c D ad cy lay nL Q M (pc + 1) lv (.int (M.1 k i.toNatClampNeg) :: st)) : gz_W p l e R s m args below meth c D ad cy lay nL Q M (pc) lv (.int i :: .ref (ad k) :: st) := fun H locs ls hP hS hL => va_zald hC.1 hC.2.1 hC.2.2.2.2.2.2.2.1 hP k 2 (gz_ws_at hk) rfl hin hd (kk H locs ls hP hS hL)
theorem gz_dald (hC : gz_X p s m args meth c own cc ret nL D ad cy lay) {k n : Nat} {i : Int32} (hd : decode cc pc = .ok (.daload, 1)) (hk : lay[k]? = some (.inr (n, 1))) (hin : vp_in i n) (kk : gz_W p l e R s m args below meth c D ad cy lay nL Q M (pc + 1) lv (.double (M.2 k i.toNatClampNeg) :: st)) : gz_W p l e R s m args below meth c D ad cy lay nL Q M (pc) lv (.int i :: .ref (ad k) :: st) := fun H locs ls hP hS hL => va_dald hC.1 hC.2.1 hC.2.2.2.2.2.2.2.1 hP k 1 (gz_ws_at hk) rfl hin hd (kk H locs ls hP hS hL)
theorem gz_iast (hC : gz_X p s m args meth c own cc ret nL D ad cy lay) {k n : Nat} {i x : Int32} (hd : decode cc pc = .ok (.iastore, 1)) (hk : lay[k]? = some (.inr (n, 0))) (hin : vp_in i n) (kk : gz_W p l e R s m args below meth c D ad cy lay nL Q (gz_up M.1 k i.toNatClampNeg x, M.2) (pc + 1) lv (st)) : gz_W p l e R s m args below meth c D ad cy lay nL Q M (pc) lv (.int x :: .int i :: .ref (ad k) :: st) := fun H locs ls hP hS hL => va_iast hC.1 hC.2.1 hC.2.2.2.2.2.2.2.1 hP (gz_D hC.2.2.2.2.2.2.2.2.2 M) hS k 0 (gz_ws_at hk) rfl hin hd (fun H1 locs1 hP1 _ hS1 => kk H1 locs1 ls (by rw [← gz_setA hk rfl]; exact hP1) hS1 hL)
theorem gz_zast (hC : gz_X p s m args meth c own cc ret nL D ad cy lay) {k n : Nat} {i x : Int32} (hd : decode cc pc = .ok (.bastore, 1)) (hk : lay[k]? = some (.inr (n, 2))) (hin : vp_in i n) (kk : gz_W p l e R s m args below meth c D ad cy lay nL Q (gz_up M.1 k i.toNatClampNeg (vp_nar .boolean x), M.2) (pc + 1) lv (st)) : gz_W p l e R s m args below meth c D ad cy lay nL Q M (pc) lv (.int x :: .int i :: .ref (ad k) :: st) := fun H locs ls hP hS hL => va_zast hC.1 hC.2.1 hC.2.2.2.2.2.2.2.1 hP (gz_D hC.2.2.2.2.2.2.2.2.2 M) hS k 2 (gz_ws_at hk) rfl hin hd (fun H1 locs1 hP1 _ hS1 => kk H1 locs1 ls (by rw [← gz_setA hk rfl]; exact hP1) hS1 hL)
theorem gz_dast (hC : gz_X p s m args meth c own cc ret nL D ad cy lay) {k n : Nat} {i : Int32} {x : UInt64} (hd : decode cc pc = .ok (.dastore, 1)) (hk : lay[k]? = some (.inr (n, 1))) (hin : vp_in i n) (kk : gz_W p l e R s m args below meth c D ad cy lay nL Q (M.1, gz_up M.2 k i.toNatClampNeg x) (pc + 1) lv (st)) : gz_W p l e R s m args below meth c D ad cy lay nL Q M (pc) lv (.double x :: .int i :: .ref (ad k) :: st) := fun H locs ls hP hS hL => va_dast hC.1 hC.2.1 hC.2.2.2.2.2.2.2.1 hP (gz_D hC.2.2.2.2.2.2.2.2.2 M) hS k 1 (gz_ws_at hk) rfl hin hd (fun H1 locs1 hP1 _ hS1 => kk H1 locs1 ls (by rw [← gz_setD hk]; exact hP1) hS1 hL)
theorem gz_alenI (hC : gz_X p s m args meth c own cc ret nL D ad cy lay) {k n kd : Nat} (hd : decode cc pc = .ok (.arraylength, 1)) (hk : lay[k]? = some (.inr (n, kd))) (hkd : kd = 0) (kk : gz_W p l e R s m args below meth c D ad cy lay nL Q M (pc + 1) lv (.int (nI n) :: st)) : gz_W p l e R s m args below meth c D ad cy lay nL Q M (pc) lv (.ref (ad k) :: st) := fun H locs ls hP hS hL => by
  subst hkd
  exact va_alen hC.1 hC.2.1 hC.2.2.2.2.2.2.2.1 hP k 0 (gz_ws_at hk) rfl rfl hd (kk H locs ls hP hS hL)
theorem gz_alenD (hC : gz_X p s m args meth c own cc ret nL D ad cy lay) {k n : Nat} (hd : decode cc pc = .ok (.arraylength, 1)) (hk : lay[k]? = some (.inr (n, 1))) (kk : gz_W p l e R s m args below meth c D ad cy lay nL Q M (pc + 1) lv (.int (nI n) :: st)) : gz_W p l e R s m args below meth c D ad cy lay nL Q M (pc) lv (.ref (ad k) :: st) := fun H locs ls hP hS hL => va_alen hC.1 hC.2.1 hC.2.2.2.2.2.2.2.1 hP k 1 (gz_ws_at hk) rfl rfl hd (kk H locs ls hP hS hL)
/-- what a program decides of a call -/
def gz_pl (y : MethodName) (na : Nat) : Prop := y.cls ≠ "java/lang/invoke/MethodHandle" ∧ y.cls ≠ "java/lang/invoke/VarHandle" ∧ (parseMethodDescriptor y.desc).map (fun d => d.parameters.length) = some na
def gz_KV (own : String) (idx : Nat) (y : MethodName) (b : ByteArray) (n : Nat) (ret : Option FieldType) (na : Nat) : Prop := Cond.methodLink own idx y ∈ gz_XS ∧ Cond.instanceMethod y ∈ gz_XS ∧ Cond.selects y.cls y y ∈ gz_XS ∧ Cond.initialized y.cls ∈ gz_XS ∧ Cond.code y b n ret ∈ gz_XS ∧ gz_pl y na
def gz_KS (own : String) (idx : Nat) (y : MethodName) (b : ByteArray) (n : Nat) (ret : Option FieldType) (na : Nat) : Prop := Cond.methodLink own idx y ∈ gz_XS ∧ Cond.static y ∈ gz_XS ∧ Cond.initialized y.cls ∈ gz_XS ∧ Cond.code y b n ret ∈ gz_XS ∧ gz_pl y na
def gz_KSN (own : String) (idx : Nat) (y : MethodName) (host : String) (b : ByteArray) (n : Nat) (ret : Option FieldType) (na : Nat) : Prop := Cond.methodLinkNest own idx y host ∈ gz_XN ∧ Cond.static y ∈ gz_XS ∧ Cond.initialized y.cls ∈ gz_XS ∧ Cond.code y b n ret ∈ gz_XS ∧ gz_pl y na
def gz_KVN (own : String) (idx : Nat) (y : MethodName) (host : String) (b : ByteArray) (n : Nat) (ret : Option FieldType) (na : Nat) : Prop := Cond.methodLinkNest own idx y host ∈ gz_XN ∧ Cond.instanceMethod y ∈ gz_XS ∧ Cond.selects y.cls y y ∈ gz_XS ∧ Cond.initialized y.cls ∈ gz_XS ∧ Cond.code y b n ret ∈ gz_XS ∧ gz_pl y na
theorem gz_cons {w : Cond} {ws : List Cond} (h : w ∈ gz_XS) (t : GoodIn gz_XS ws) : GoodIn gz_XS (w :: ws) := fun v hv => (List.mem_cons.mp hv).elim (fun q => by rw [q]; exact gz_good w h) (fun q => t v q)
theorem gz_goodV {own : String} {idx : Nat} {y : MethodName} {b : ByteArray} {n : Nat} {ret : Option FieldType} {na : Nat} (h : gz_KV own idx y b n ret na) : GoodIn gz_XS (wsV own idx y.cls y (.code y b n ret :: gz_XS)) := gz_cons h.1 (gz_cons h.2.1 (gz_cons h.2.2.1 (gz_cons h.2.2.2.1 (gz_cons h.2.2.2.2.1 gz_good))))
theorem gz_goodS {own : String} {idx : Nat} {y : MethodName} {b : ByteArray} {n : Nat} {ret : Option FieldType} {na : Nat} (h : gz_KS own idx y b n ret na) : GoodIn gz_XS (va_wsS own idx y (.code y b n ret :: gz_XS)) := gz_cons h.1 (gz_cons h.2.1 (gz_cons h.2.2.1 (gz_cons h.2.2.2.1 gz_good)))
theorem gz_fbl {av : List Value} : FrameBlind (va_Pc av (gz_B D ad cy lay M)) := fun a U g mk q => ⟨q.1, q.2.1, va_K.moved (u := U) (U := U.calling g mk a) (Vm.Alike.refl U.vm) q.2.2.1, fun w hw => by
  have h1 := q.2.2.2 w hw
  have h2 := (List.mem_filter.mp hw).2
  refine va_Nw.same (u := U) ?_ rfl h1
  unfold gz_isN at h2
  split at h2
  · rfl
  · rfl
  · exact absurd h2 (by decide)⟩
theorem gz_pre {H : Heap} {av : List Value} (hC : gz_X p s m args meth c own cc ret nL D ad cy lay) (hP : va_P D vwCl (gz_ws ad cy lay M) H) : ∀ U : State, U.heap = H → s.WarmedH U.vm → va_Pc av (gz_B D ad cy lay M) av.toArray U := fun U hU hW => ⟨rfl, by rw [hU]; exact hP, va_K.moved hW.alike hC.2.2.2.2.2.2.2.1, gz_nest hW hC.2.2.2.2.2.2.1⟩
theorem gz_rf {d d2 n : Nat} (h : d + 1 ≤ d2) (hn : n ≤ 21) : (gz_rm d).frames + 1 ≤ (gz_rm d2).frames ∧ 8 + (n + 11) + (gz_rm d).locals ≤ (gz_rm d2).locals := by
  refine ⟨h, ?_⟩
  show 8 + (n + 11) + 40 * d ≤ 40 * d2
  omega
theorem gz_go {H : Heap} {locs : List Loc} {ls : Array Slot} {rest st0 : List Value} {post : Option Value → gz_M → Prop} {a : Array Value} (hr : va_Run p l e R s m args below meth c H locs 0 0 0 0 (F0 m pc ls st0) rest (gz_Q D ad cy lay post a) (gz_A ad lay)) (hS : va_S (gz_A ad lay) s.heap H locs)
    (kk : ∀ (v : Option Value) (M1 : gz_M) (H1 : Heap) (locs1 : List Loc), post v M1 → va_P D vwCl (gz_ws ad cy lay M1) H1 → va_S (gz_A ad lay) s.heap H1 locs1 → W p l e R s m args below meth c H1 locs1 0 0 Q (F0 m (pc + 3) ls (v.toList ++ rest))) : W p l e R s m args below meth c H locs 0 0 Q (F0 m pc ls st0) := by
  intro T hT X
  obtain ⟨v, st₀, t, T', L, h0, X', hL, e1, e2, ⟨⟨v2, M1, hv, hp, hb⟩, hz, hk⟩, st⟩ := hr T hT X
  cases hv
  rw [h0] at hz hk
  obtain ⟨t2, a1, b1⟩ := kk v M1 T'.heap (locs ++ L) hp (by rw [e1]; exact hb)
    ⟨Nat.le_trans hS.1 (by rw [e1]; exact hz), fun q h1 h2 => by rw [e1, hk q (Nat.lt_of_lt_of_le h1 hS.1) h2]; exact hS.2.1 q h1 h2, fun q hq => by
      rcases List.mem_append.mp hq with h | h
      · exact hS.2.2 q h
      · exact hL q h⟩ T' rfl X'
  exact ⟨t2, st t2 a1, b1⟩
theorem gz_callV0 (hC : gz_X p s m args meth c own cc ret nL D ad cy lay) {idx : Nat} {y : MethodName} {b : ByteArray} {n : Nat} {ret2 : Option FieldType} {d d2 : Nat} {post : Option Value → gz_M → Prop} (hd : decode cc pc = .ok (.invokevirtual idx, 3)) (hK : gz_KV own idx y b n ret2 0) {k ci : Nat} {fs : List (Option Nat)} {T : u_T} {N : Nat} (hk : lay[k]? = some (.inl (ci, fs))) (hcl : vwCl[ci]? = some (y.cls, T, N)) (hdd : d + 1 ≤ d2) (hn : n ≤ 21) (hrm : (st.map fun v => v.category).sum ≤ 8) (hct : gz_Ct l D ad cy lay y b n ret2 d (.ref (ad k) :: []) M post) (kk : ∀ (v : Option Value) (M1 : gz_M), post v M1 → gz_W p l e (gz_rm d2) s m args below meth c D ad cy lay nL Q M1 (pc + 3) lv (v.toList ++ st)) : gz_W p l e (gz_rm d2) s m args below meth c D ad cy lay nL Q M pc lv (.ref (ad k) :: st) := fun H locs ls hP hS hL => gz_go (va_runV (As := []) (rest := st) ⟨hC.1, hC.2.1, hC.2.2.2.1, hC.2.2.2.2.1, hC.2.2.2.2.2.1⟩ hct (cwV 0 hC.2.2.2.2.2.1 (gz_goodV hK) rfl rfl rfl ⟨rfl, hK.2.2.2.2.2⟩ (gz_rf hdd hn)) ⟨gz_fbl, va_recv hC.2.2.2.2.2.2.2.1 hP hcl (gz_ws_at hk), gz_pre (av := (.ref (ad k) :: [])) hC hP⟩ rfl rfl hL.1 rfl (lv_room hrm) hd ⟨Nat.le_refl 0, Nat.le_refl 0⟩) hS (fun v M1 H1 locs1 hp hP1 hS1 => kk v M1 hp H1 locs1 ls hP1 hS1 hL)
theorem gz_callV1 (hC : gz_X p s m args meth c own cc ret nL D ad cy lay) {idx : Nat} {y : MethodName} {b : ByteArray} {n : Nat} {ret2 : Option FieldType} {d d2 : Nat} {post : Option Value → gz_M → Prop} {v1 : Value} (hd : decode cc pc = .ok (.invokevirtual idx, 3)) (hK : gz_KV own idx y b n ret2 1) {k ci : Nat} {fs : List (Option Nat)} {T : u_T} {N : Nat} (hk : lay[k]? = some (.inl (ci, fs))) (hcl : vwCl[ci]? = some (y.cls, T, N)) (hdd : d + 1 ≤ d2) (hn : n ≤ 21) (hrm : (st.map fun v => v.category).sum ≤ 8) (hct : gz_Ct l D ad cy lay y b n ret2 d (.ref (ad k) :: [v1]) M post) (kk : ∀ (v : Option Value) (M1 : gz_M), post v M1 → gz_W p l e (gz_rm d2) s m args below meth c D ad cy lay nL Q M1 (pc + 3) lv (v.toList ++ st)) : gz_W p l e (gz_rm d2) s m args below meth c D ad cy lay nL Q M pc lv (v1 :: .ref (ad k) :: st) := fun H locs ls hP hS hL => gz_go (va_runV (As := [v1]) (rest := st) ⟨hC.1, hC.2.1, hC.2.2.2.1, hC.2.2.2.2.1, hC.2.2.2.2.2.1⟩ hct (cwV 1 hC.2.2.2.2.2.1 (gz_goodV hK) rfl rfl rfl ⟨rfl, hK.2.2.2.2.2⟩ (gz_rf hdd hn)) ⟨gz_fbl, va_recv hC.2.2.2.2.2.2.2.1 hP hcl (gz_ws_at hk), gz_pre (av := (.ref (ad k) :: [v1])) hC hP⟩ rfl rfl hL.1 rfl (lv_room hrm) hd ⟨Nat.le_refl 0, Nat.le_refl 0⟩) hS (fun v M1 H1 locs1 hp hP1 hS1 => kk v M1 hp H1 locs1 ls hP1 hS1 hL)
theorem gz_callV2 (hC : gz_X p s m args meth c own cc ret nL D ad cy lay) {idx : Nat} {y : MethodName} {b : ByteArray} {n : Nat} {ret2 : Option FieldType} {d d2 : Nat} {post : Option Value → gz_M → Prop} {v1 v2 : Value} (hd : decode cc pc = .ok (.invokevirtual idx, 3)) (hK : gz_KV own idx y b n ret2 2) {k ci : Nat} {fs : List (Option Nat)} {T : u_T} {N : Nat} (hk : lay[k]? = some (.inl (ci, fs))) (hcl : vwCl[ci]? = some (y.cls, T, N)) (hdd : d + 1 ≤ d2) (hn : n ≤ 21) (hrm : (st.map fun v => v.category).sum ≤ 8) (hct : gz_Ct l D ad cy lay y b n ret2 d (.ref (ad k) :: [v1, v2]) M post) (kk : ∀ (v : Option Value) (M1 : gz_M), post v M1 → gz_W p l e (gz_rm d2) s m args below meth c D ad cy lay nL Q M1 (pc + 3) lv (v.toList ++ st)) : gz_W p l e (gz_rm d2) s m args below meth c D ad cy lay nL Q M pc lv (v2 :: v1 :: .ref (ad k) :: st) := fun H locs ls hP hS hL => gz_go (va_runV (As := [v1, v2]) (rest := st) ⟨hC.1, hC.2.1, hC.2.2.2.1, hC.2.2.2.2.1, hC.2.2.2.2.2.1⟩ hct (cwV 2 hC.2.2.2.2.2.1 (gz_goodV hK) rfl rfl rfl ⟨rfl, hK.2.2.2.2.2⟩ (gz_rf hdd hn)) ⟨gz_fbl, va_recv hC.2.2.2.2.2.2.2.1 hP hcl (gz_ws_at hk), gz_pre (av := (.ref (ad k) :: [v1, v2])) hC hP⟩ rfl rfl hL.1 rfl (lv_room hrm) hd ⟨Nat.le_refl 0, Nat.le_refl 0⟩) hS (fun v M1 H1 locs1 hp hP1 hS1 => kk v M1 hp H1 locs1 ls hP1 hS1 hL)
theorem gz_callV3 (hC : gz_X p s m args meth c own cc ret nL D ad cy lay) {idx : Nat} {y : MethodName} {b : ByteArray} {n : Nat} {ret2 : Option FieldType} {d d2 : Nat} {post : Option Value → gz_M → Prop} {v1 v2 v3 : Value} (hd : decode cc pc = .ok (.invokevirtual idx, 3)) (hK : gz_KV own idx y b n ret2 3) {k ci : Nat} {fs : List (Option Nat)} {T : u_T} {N : Nat} (hk : lay[k]? = some (.inl (ci, fs))) (hcl : vwCl[ci]? = some (y.cls, T, N)) (hdd : d + 1 ≤ d2) (hn : n ≤ 21) (hrm : (st.map fun v => v.category).sum ≤ 8) (hct : gz_Ct l D ad cy lay y b n ret2 d (.ref (ad k) :: [v1, v2, v3]) M post) (kk : ∀ (v : Option Value) (M1 : gz_M), post v M1 → gz_W p l e (gz_rm d2) s m args below meth c D ad cy lay nL Q M1 (pc + 3) lv (v.toList ++ st)) : gz_W p l e (gz_rm d2) s m args below meth c D ad cy lay nL Q M pc lv (v3 :: v2 :: v1 :: .ref (ad k) :: st) := fun H locs ls hP hS hL => gz_go (va_runV (As := [v1, v2, v3]) (rest := st) ⟨hC.1, hC.2.1, hC.2.2.2.1, hC.2.2.2.2.1, hC.2.2.2.2.2.1⟩ hct (cwV 3 hC.2.2.2.2.2.1 (gz_goodV hK) rfl rfl rfl ⟨rfl, hK.2.2.2.2.2⟩ (gz_rf hdd hn)) ⟨gz_fbl, va_recv hC.2.2.2.2.2.2.2.1 hP hcl (gz_ws_at hk), gz_pre (av := (.ref (ad k) :: [v1, v2, v3])) hC hP⟩ rfl rfl hL.1 rfl (lv_room hrm) hd ⟨Nat.le_refl 0, Nat.le_refl 0⟩) hS (fun v M1 H1 locs1 hp hP1 hS1 => kk v M1 hp H1 locs1 ls hP1 hS1 hL)
theorem gz_callV4 (hC : gz_X p s m args meth c own cc ret nL D ad cy lay) {idx : Nat} {y : MethodName} {b : ByteArray} {n : Nat} {ret2 : Option FieldType} {d d2 : Nat} {post : Option Value → gz_M → Prop} {v1 v2 v3 v4 : Value} (hd : decode cc pc = .ok (.invokevirtual idx, 3)) (hK : gz_KV own idx y b n ret2 4) {k ci : Nat} {fs : List (Option Nat)} {T : u_T} {N : Nat} (hk : lay[k]? = some (.inl (ci, fs))) (hcl : vwCl[ci]? = some (y.cls, T, N)) (hdd : d + 1 ≤ d2) (hn : n ≤ 21) (hrm : (st.map fun v => v.category).sum ≤ 8) (hct : gz_Ct l D ad cy lay y b n ret2 d (.ref (ad k) :: [v1, v2, v3, v4]) M post) (kk : ∀ (v : Option Value) (M1 : gz_M), post v M1 → gz_W p l e (gz_rm d2) s m args below meth c D ad cy lay nL Q M1 (pc + 3) lv (v.toList ++ st)) : gz_W p l e (gz_rm d2) s m args below meth c D ad cy lay nL Q M pc lv (v4 :: v3 :: v2 :: v1 :: .ref (ad k) :: st) := fun H locs ls hP hS hL => gz_go (va_runV (As := [v1, v2, v3, v4]) (rest := st) ⟨hC.1, hC.2.1, hC.2.2.2.1, hC.2.2.2.2.1, hC.2.2.2.2.2.1⟩ hct (cwV 4 hC.2.2.2.2.2.1 (gz_goodV hK) rfl rfl rfl ⟨rfl, hK.2.2.2.2.2⟩ (gz_rf hdd hn)) ⟨gz_fbl, va_recv hC.2.2.2.2.2.2.2.1 hP hcl (gz_ws_at hk), gz_pre (av := (.ref (ad k) :: [v1, v2, v3, v4])) hC hP⟩ rfl rfl hL.1 rfl (lv_room hrm) hd ⟨Nat.le_refl 0, Nat.le_refl 0⟩) hS (fun v M1 H1 locs1 hp hP1 hS1 => kk v M1 hp H1 locs1 ls hP1 hS1 hL)
theorem gz_callV5 (hC : gz_X p s m args meth c own cc ret nL D ad cy lay) {idx : Nat} {y : MethodName} {b : ByteArray} {n : Nat} {ret2 : Option FieldType} {d d2 : Nat} {post : Option Value → gz_M → Prop} {v1 v2 v3 v4 v5 : Value} (hd : decode cc pc = .ok (.invokevirtual idx, 3)) (hK : gz_KV own idx y b n ret2 5) {k ci : Nat} {fs : List (Option Nat)} {T : u_T} {N : Nat} (hk : lay[k]? = some (.inl (ci, fs))) (hcl : vwCl[ci]? = some (y.cls, T, N)) (hdd : d + 1 ≤ d2) (hn : n ≤ 21) (hrm : (st.map fun v => v.category).sum ≤ 8) (hct : gz_Ct l D ad cy lay y b n ret2 d (.ref (ad k) :: [v1, v2, v3, v4, v5]) M post) (kk : ∀ (v : Option Value) (M1 : gz_M), post v M1 → gz_W p l e (gz_rm d2) s m args below meth c D ad cy lay nL Q M1 (pc + 3) lv (v.toList ++ st)) : gz_W p l e (gz_rm d2) s m args below meth c D ad cy lay nL Q M pc lv (v5 :: v4 :: v3 :: v2 :: v1 :: .ref (ad k) :: st) := fun H locs ls hP hS hL => gz_go (va_runV (As := [v1, v2, v3, v4, v5]) (rest := st) ⟨hC.1, hC.2.1, hC.2.2.2.1, hC.2.2.2.2.1, hC.2.2.2.2.2.1⟩ hct (cwV 5 hC.2.2.2.2.2.1 (gz_goodV hK) rfl rfl rfl ⟨rfl, hK.2.2.2.2.2⟩ (gz_rf hdd hn)) ⟨gz_fbl, va_recv hC.2.2.2.2.2.2.2.1 hP hcl (gz_ws_at hk), gz_pre (av := (.ref (ad k) :: [v1, v2, v3, v4, v5])) hC hP⟩ rfl rfl hL.1 rfl (lv_room hrm) hd ⟨Nat.le_refl 0, Nat.le_refl 0⟩) hS (fun v M1 H1 locs1 hp hP1 hS1 => kk v M1 hp H1 locs1 ls hP1 hS1 hL)
theorem gz_callV6 (hC : gz_X p s m args meth c own cc ret nL D ad cy lay) {idx : Nat} {y : MethodName} {b : ByteArray} {n : Nat} {ret2 : Option FieldType} {d d2 : Nat} {post : Option Value → gz_M → Prop} {v1 v2 v3 v4 v5 v6 : Value} (hd : decode cc pc = .ok (.invokevirtual idx, 3)) (hK : gz_KV own idx y b n ret2 6) {k ci : Nat} {fs : List (Option Nat)} {T : u_T} {N : Nat} (hk : lay[k]? = some (.inl (ci, fs))) (hcl : vwCl[ci]? = some (y.cls, T, N)) (hdd : d + 1 ≤ d2) (hn : n ≤ 21) (hrm : (st.map fun v => v.category).sum ≤ 8) (hct : gz_Ct l D ad cy lay y b n ret2 d (.ref (ad k) :: [v1, v2, v3, v4, v5, v6]) M post) (kk : ∀ (v : Option Value) (M1 : gz_M), post v M1 → gz_W p l e (gz_rm d2) s m args below meth c D ad cy lay nL Q M1 (pc + 3) lv (v.toList ++ st)) : gz_W p l e (gz_rm d2) s m args below meth c D ad cy lay nL Q M pc lv (v6 :: v5 :: v4 :: v3 :: v2 :: v1 :: .ref (ad k) :: st) := fun H locs ls hP hS hL => gz_go (va_runV (As := [v1, v2, v3, v4, v5, v6]) (rest := st) ⟨hC.1, hC.2.1, hC.2.2.2.1, hC.2.2.2.2.1, hC.2.2.2.2.2.1⟩ hct (cwV 6 hC.2.2.2.2.2.1 (gz_goodV hK) rfl rfl rfl ⟨rfl, hK.2.2.2.2.2⟩ (gz_rf hdd hn)) ⟨gz_fbl, va_recv hC.2.2.2.2.2.2.2.1 hP hcl (gz_ws_at hk), gz_pre (av := (.ref (ad k) :: [v1, v2, v3, v4, v5, v6])) hC hP⟩ rfl rfl hL.1 rfl (lv_room hrm) hd ⟨Nat.le_refl 0, Nat.le_refl 0⟩) hS (fun v M1 H1 locs1 hp hP1 hS1 => kk v M1 hp H1 locs1 ls hP1 hS1 hL)
theorem gz_callS0 (hC : gz_X p s m args meth c own cc ret nL D ad cy lay) {idx : Nat} {y : MethodName} {b : ByteArray} {n : Nat} {ret2 : Option FieldType} {d d2 : Nat} {post : Option Value → gz_M → Prop} (hd : decode cc pc = .ok (.invokestatic idx, 3)) (hK : gz_KS own idx y b n ret2 0) (hdd : d + 1 ≤ d2) (hn : n ≤ 21) (hrm : (st.map fun v => v.category).sum ≤ 8) (hct : gz_Ct l D ad cy lay y b n ret2 d [] M post) (kk : ∀ (v : Option Value) (M1 : gz_M), post v M1 → gz_W p l e (gz_rm d2) s m args below meth c D ad cy lay nL Q M1 (pc + 3) lv (v.toList ++ st)) : gz_W p l e (gz_rm d2) s m args below meth c D ad cy lay nL Q M pc lv (st) := fun H locs ls hP hS hL => gz_go (va_runS (As := []) (rest := st) ⟨hC.1, hC.2.1, hC.2.2.2.1, hC.2.2.2.2.1, hC.2.2.2.2.2.1⟩ hct (va_cwS 0 hC.2.2.2.2.2.1 (gz_goodS hK) rfl rfl rfl hK.2.2.2.2 (gz_rf hdd hn)) ⟨gz_fbl, gz_pre (av := []) hC hP⟩ rfl rfl hL.1 rfl (lv_room hrm) hd ⟨Nat.le_refl 0, Nat.le_refl 0⟩) hS (fun v M1 H1 locs1 hp hP1 hS1 => kk v M1 hp H1 locs1 ls hP1 hS1 hL)
theorem gz_callS1 (hC : gz_X p s m args meth c own cc ret nL D ad cy lay) {idx : Nat} {y : MethodName} {b : ByteArray} {n : Nat} {ret2 : Option FieldType} {d d2 : Nat} {post : Option Value → gz_M → Prop} {v1 : Value} (hd : decode cc pc = .ok (.invokestatic idx, 3)) (hK : gz_KS own idx y b n ret2 1) (hdd : d + 1 ≤ d2) (hn : n ≤ 21) (hrm : (st.map fun v => v.category).sum ≤ 8) (hct : gz_Ct l D ad cy lay y b n ret2 d [v1] M post) (kk : ∀ (v : Option Value) (M1 : gz_M), post v M1 → gz_W p l e (gz_rm d2) s m args below meth c D ad cy lay nL Q M1 (pc + 3) lv (v.toList ++ st)) : gz_W p l e (gz_rm d2) s m args below meth c D ad cy lay nL Q M pc lv (v1 :: st) := fun H locs ls hP hS hL => gz_go (va_runS (As := [v1]) (rest := st) ⟨hC.1, hC.2.1, hC.2.2.2.1, hC.2.2.2.2.1, hC.2.2.2.2.2.1⟩ hct (va_cwS 1 hC.2.2.2.2.2.1 (gz_goodS hK) rfl rfl rfl hK.2.2.2.2 (gz_rf hdd hn)) ⟨gz_fbl, gz_pre (av := [v1]) hC hP⟩ rfl rfl hL.1 rfl (lv_room hrm) hd ⟨Nat.le_refl 0, Nat.le_refl 0⟩) hS (fun v M1 H1 locs1 hp hP1 hS1 => kk v M1 hp H1 locs1 ls hP1 hS1 hL)
theorem gz_callS2 (hC : gz_X p s m args meth c own cc ret nL D ad cy lay) {idx : Nat} {y : MethodName} {b : ByteArray} {n : Nat} {ret2 : Option FieldType} {d d2 : Nat} {post : Option Value → gz_M → Prop} {v1 v2 : Value} (hd : decode cc pc = .ok (.invokestatic idx, 3)) (hK : gz_KS own idx y b n ret2 2) (hdd : d + 1 ≤ d2) (hn : n ≤ 21) (hrm : (st.map fun v => v.category).sum ≤ 8) (hct : gz_Ct l D ad cy lay y b n ret2 d [v1, v2] M post) (kk : ∀ (v : Option Value) (M1 : gz_M), post v M1 → gz_W p l e (gz_rm d2) s m args below meth c D ad cy lay nL Q M1 (pc + 3) lv (v.toList ++ st)) : gz_W p l e (gz_rm d2) s m args below meth c D ad cy lay nL Q M pc lv (v2 :: v1 :: st) := fun H locs ls hP hS hL => gz_go (va_runS (As := [v1, v2]) (rest := st) ⟨hC.1, hC.2.1, hC.2.2.2.1, hC.2.2.2.2.1, hC.2.2.2.2.2.1⟩ hct (va_cwS 2 hC.2.2.2.2.2.1 (gz_goodS hK) rfl rfl rfl hK.2.2.2.2 (gz_rf hdd hn)) ⟨gz_fbl, gz_pre (av := [v1, v2]) hC hP⟩ rfl rfl hL.1 rfl (lv_room hrm) hd ⟨Nat.le_refl 0, Nat.le_refl 0⟩) hS (fun v M1 H1 locs1 hp hP1 hS1 => kk v M1 hp H1 locs1 ls hP1 hS1 hL)
theorem gz_callS3 (hC : gz_X p s m args meth c own cc ret nL D ad cy lay) {idx : Nat} {y : MethodName} {b : ByteArray} {n : Nat} {ret2 : Option FieldType} {d d2 : Nat} {post : Option Value → gz_M → Prop} {v1 v2 v3 : Value} (hd : decode cc pc = .ok (.invokestatic idx, 3)) (hK : gz_KS own idx y b n ret2 3) (hdd : d + 1 ≤ d2) (hn : n ≤ 21) (hrm : (st.map fun v => v.category).sum ≤ 8) (hct : gz_Ct l D ad cy lay y b n ret2 d [v1, v2, v3] M post) (kk : ∀ (v : Option Value) (M1 : gz_M), post v M1 → gz_W p l e (gz_rm d2) s m args below meth c D ad cy lay nL Q M1 (pc + 3) lv (v.toList ++ st)) : gz_W p l e (gz_rm d2) s m args below meth c D ad cy lay nL Q M pc lv (v3 :: v2 :: v1 :: st) := fun H locs ls hP hS hL => gz_go (va_runS (As := [v1, v2, v3]) (rest := st) ⟨hC.1, hC.2.1, hC.2.2.2.1, hC.2.2.2.2.1, hC.2.2.2.2.2.1⟩ hct (va_cwS 3 hC.2.2.2.2.2.1 (gz_goodS hK) rfl rfl rfl hK.2.2.2.2 (gz_rf hdd hn)) ⟨gz_fbl, gz_pre (av := [v1, v2, v3]) hC hP⟩ rfl rfl hL.1 rfl (lv_room hrm) hd ⟨Nat.le_refl 0, Nat.le_refl 0⟩) hS (fun v M1 H1 locs1 hp hP1 hS1 => kk v M1 hp H1 locs1 ls hP1 hS1 hL)
theorem gz_callS4 (hC : gz_X p s m args meth c own cc ret nL D ad cy lay) {idx : Nat} {y : MethodName} {b : ByteArray} {n : Nat} {ret2 : Option FieldType} {d d2 : Nat} {post : Option Value → gz_M → Prop} {v1 v2 v3 v4 : Value} (hd : decode cc pc = .ok (.invokestatic idx, 3)) (hK : gz_KS own idx y b n ret2 4) (hdd : d + 1 ≤ d2) (hn : n ≤ 21) (hrm : (st.map fun v => v.category).sum ≤ 8) (hct : gz_Ct l D ad cy lay y b n ret2 d [v1, v2, v3, v4] M post) (kk : ∀ (v : Option Value) (M1 : gz_M), post v M1 → gz_W p l e (gz_rm d2) s m args below meth c D ad cy lay nL Q M1 (pc + 3) lv (v.toList ++ st)) : gz_W p l e (gz_rm d2) s m args below meth c D ad cy lay nL Q M pc lv (v4 :: v3 :: v2 :: v1 :: st) := fun H locs ls hP hS hL => gz_go (va_runS (As := [v1, v2, v3, v4]) (rest := st) ⟨hC.1, hC.2.1, hC.2.2.2.1, hC.2.2.2.2.1, hC.2.2.2.2.2.1⟩ hct (va_cwS 4 hC.2.2.2.2.2.1 (gz_goodS hK) rfl rfl rfl hK.2.2.2.2 (gz_rf hdd hn)) ⟨gz_fbl, gz_pre (av := [v1, v2, v3, v4]) hC hP⟩ rfl rfl hL.1 rfl (lv_room hrm) hd ⟨Nat.le_refl 0, Nat.le_refl 0⟩) hS (fun v M1 H1 locs1 hp hP1 hS1 => kk v M1 hp H1 locs1 ls hP1 hS1 hL)
theorem gz_callS5 (hC : gz_X p s m args meth c own cc ret nL D ad cy lay) {idx : Nat} {y : MethodName} {b : ByteArray} {n : Nat} {ret2 : Option FieldType} {d d2 : Nat} {post : Option Value → gz_M → Prop} {v1 v2 v3 v4 v5 : Value} (hd : decode cc pc = .ok (.invokestatic idx, 3)) (hK : gz_KS own idx y b n ret2 5) (hdd : d + 1 ≤ d2) (hn : n ≤ 21) (hrm : (st.map fun v => v.category).sum ≤ 8) (hct : gz_Ct l D ad cy lay y b n ret2 d [v1, v2, v3, v4, v5] M post) (kk : ∀ (v : Option Value) (M1 : gz_M), post v M1 → gz_W p l e (gz_rm d2) s m args below meth c D ad cy lay nL Q M1 (pc + 3) lv (v.toList ++ st)) : gz_W p l e (gz_rm d2) s m args below meth c D ad cy lay nL Q M pc lv (v5 :: v4 :: v3 :: v2 :: v1 :: st) := fun H locs ls hP hS hL => gz_go (va_runS (As := [v1, v2, v3, v4, v5]) (rest := st) ⟨hC.1, hC.2.1, hC.2.2.2.1, hC.2.2.2.2.1, hC.2.2.2.2.2.1⟩ hct (va_cwS 5 hC.2.2.2.2.2.1 (gz_goodS hK) rfl rfl rfl hK.2.2.2.2 (gz_rf hdd hn)) ⟨gz_fbl, gz_pre (av := [v1, v2, v3, v4, v5]) hC hP⟩ rfl rfl hL.1 rfl (lv_room hrm) hd ⟨Nat.le_refl 0, Nat.le_refl 0⟩) hS (fun v M1 H1 locs1 hp hP1 hS1 => kk v M1 hp H1 locs1 ls hP1 hS1 hL)
theorem gz_callS6 (hC : gz_X p s m args meth c own cc ret nL D ad cy lay) {idx : Nat} {y : MethodName} {b : ByteArray} {n : Nat} {ret2 : Option FieldType} {d d2 : Nat} {post : Option Value → gz_M → Prop} {v1 v2 v3 v4 v5 v6 : Value} (hd : decode cc pc = .ok (.invokestatic idx, 3)) (hK : gz_KS own idx y b n ret2 6) (hdd : d + 1 ≤ d2) (hn : n ≤ 21) (hrm : (st.map fun v => v.category).sum ≤ 8) (hct : gz_Ct l D ad cy lay y b n ret2 d [v1, v2, v3, v4, v5, v6] M post) (kk : ∀ (v : Option Value) (M1 : gz_M), post v M1 → gz_W p l e (gz_rm d2) s m args below meth c D ad cy lay nL Q M1 (pc + 3) lv (v.toList ++ st)) : gz_W p l e (gz_rm d2) s m args below meth c D ad cy lay nL Q M pc lv (v6 :: v5 :: v4 :: v3 :: v2 :: v1 :: st) := fun H locs ls hP hS hL => gz_go (va_runS (As := [v1, v2, v3, v4, v5, v6]) (rest := st) ⟨hC.1, hC.2.1, hC.2.2.2.1, hC.2.2.2.2.1, hC.2.2.2.2.2.1⟩ hct (va_cwS 6 hC.2.2.2.2.2.1 (gz_goodS hK) rfl rfl rfl hK.2.2.2.2 (gz_rf hdd hn)) ⟨gz_fbl, gz_pre (av := [v1, v2, v3, v4, v5, v6]) hC hP⟩ rfl rfl hL.1 rfl (lv_room hrm) hd ⟨Nat.le_refl 0, Nat.le_refl 0⟩) hS (fun v M1 H1 locs1 hp hP1 hS1 => kk v M1 hp H1 locs1 ls hP1 hS1 hL)
theorem gz_callSN0 (hC : gz_X p s m args meth c own cc ret nL D ad cy lay) {idx : Nat} {y : MethodName} {b : ByteArray} {n : Nat} {ret2 : Option FieldType} {d d2 : Nat} {post : Option Value → gz_M → Prop} {host : String} (hd : decode cc pc = .ok (.invokestatic idx, 3)) (hK : gz_KSN own idx y host b n ret2 0) (hdd : d + 1 ≤ d2) (hn : n ≤ 21) (hrm : (st.map fun v => v.category).sum ≤ 8) (hct : gz_Ct l D ad cy lay y b n ret2 d [] M post) (kk : ∀ (v : Option Value) (M1 : gz_M), post v M1 → gz_W p l e (gz_rm d2) s m args below meth c D ad cy lay nL Q M1 (pc + 3) lv (v.toList ++ st)) : gz_W p l e (gz_rm d2) s m args below meth c D ad cy lay nL Q M pc lv (st) := fun H locs ls hP hS hL => gz_go (va_runSN (As := []) (rest := st) ⟨hC.1, hC.2.1, hC.2.2.2.1, hC.2.2.2.2.1, hC.2.2.2.2.2.1⟩ hct ⟨va_cnB 0 hC.2.2.2.2.2.1 (gz_cons hK.2.2.2.1 gz_good) rfl rfl rfl (hC.2.2.2.2.2.2.1 _ hK.1) (hC.2.2.2.2.2.1 _ hK.2.2.1) hK.2.2.2.2 (gz_rf hdd hn), hC.2.2.2.2.2.1 _ hK.2.1, trivial⟩ ⟨gz_fbl, gz_pre (av := []) hC hP⟩ rfl rfl hL.1 rfl (lv_room hrm) hd ⟨Nat.le_refl 0, Nat.le_refl 0⟩) hS (fun v M1 H1 locs1 hp hP1 hS1 => kk v M1 hp H1 locs1 ls hP1 hS1 hL)
theorem gz_callSN1 (hC : gz_X p s m args meth c own cc ret nL D ad cy lay) {idx : Nat} {y : MethodName} {b : ByteArray} {n : Nat} {ret2 : Option FieldType} {d d2 : Nat} {post : Option Value → gz_M → Prop} {host : String} {v1 : Value} (hd : decode cc pc = .ok (.invokestatic idx, 3)) (hK : gz_KSN own idx y host b n ret2 1) (hdd : d + 1 ≤ d2) (hn : n ≤ 21) (hrm : (st.map fun v => v.category).sum ≤ 8) (hct : gz_Ct l D ad cy lay y b n ret2 d [v1] M post) (kk : ∀ (v : Option Value) (M1 : gz_M), post v M1 → gz_W p l e (gz_rm d2) s m args below meth c D ad cy lay nL Q M1 (pc + 3) lv (v.toList ++ st)) : gz_W p l e (gz_rm d2) s m args below meth c D ad cy lay nL Q M pc lv (v1 :: st) := fun H locs ls hP hS hL => gz_go (va_runSN (As := [v1]) (rest := st) ⟨hC.1, hC.2.1, hC.2.2.2.1, hC.2.2.2.2.1, hC.2.2.2.2.2.1⟩ hct ⟨va_cnB 1 hC.2.2.2.2.2.1 (gz_cons hK.2.2.2.1 gz_good) rfl rfl rfl (hC.2.2.2.2.2.2.1 _ hK.1) (hC.2.2.2.2.2.1 _ hK.2.2.1) hK.2.2.2.2 (gz_rf hdd hn), hC.2.2.2.2.2.1 _ hK.2.1, trivial⟩ ⟨gz_fbl, gz_pre (av := [v1]) hC hP⟩ rfl rfl hL.1 rfl (lv_room hrm) hd ⟨Nat.le_refl 0, Nat.le_refl 0⟩) hS (fun v M1 H1 locs1 hp hP1 hS1 => kk v M1 hp H1 locs1 ls hP1 hS1 hL)
theorem gz_callSN2 (hC : gz_X p s m args meth c own cc ret nL D ad cy lay) {idx : Nat} {y : MethodName} {b : ByteArray} {n : Nat} {ret2 : Option FieldType} {d d2 : Nat} {post : Option Value → gz_M → Prop} {host : String} {v1 v2 : Value} (hd : decode cc pc = .ok (.invokestatic idx, 3)) (hK : gz_KSN own idx y host b n ret2 2) (hdd : d + 1 ≤ d2) (hn : n ≤ 21) (hrm : (st.map fun v => v.category).sum ≤ 8) (hct : gz_Ct l D ad cy lay y b n ret2 d [v1, v2] M post) (kk : ∀ (v : Option Value) (M1 : gz_M), post v M1 → gz_W p l e (gz_rm d2) s m args below meth c D ad cy lay nL Q M1 (pc + 3) lv (v.toList ++ st)) : gz_W p l e (gz_rm d2) s m args below meth c D ad cy lay nL Q M pc lv (v2 :: v1 :: st) := fun H locs ls hP hS hL => gz_go (va_runSN (As := [v1, v2]) (rest := st) ⟨hC.1, hC.2.1, hC.2.2.2.1, hC.2.2.2.2.1, hC.2.2.2.2.2.1⟩ hct ⟨va_cnB 2 hC.2.2.2.2.2.1 (gz_cons hK.2.2.2.1 gz_good) rfl rfl rfl (hC.2.2.2.2.2.2.1 _ hK.1) (hC.2.2.2.2.2.1 _ hK.2.2.1) hK.2.2.2.2 (gz_rf hdd hn), hC.2.2.2.2.2.1 _ hK.2.1, trivial⟩ ⟨gz_fbl, gz_pre (av := [v1, v2]) hC hP⟩ rfl rfl hL.1 rfl (lv_room hrm) hd ⟨Nat.le_refl 0, Nat.le_refl 0⟩) hS (fun v M1 H1 locs1 hp hP1 hS1 => kk v M1 hp H1 locs1 ls hP1 hS1 hL)
theorem gz_callSN3 (hC : gz_X p s m args meth c own cc ret nL D ad cy lay) {idx : Nat} {y : MethodName} {b : ByteArray} {n : Nat} {ret2 : Option FieldType} {d d2 : Nat} {post : Option Value → gz_M → Prop} {host : String} {v1 v2 v3 : Value} (hd : decode cc pc = .ok (.invokestatic idx, 3)) (hK : gz_KSN own idx y host b n ret2 3) (hdd : d + 1 ≤ d2) (hn : n ≤ 21) (hrm : (st.map fun v => v.category).sum ≤ 8) (hct : gz_Ct l D ad cy lay y b n ret2 d [v1, v2, v3] M post) (kk : ∀ (v : Option Value) (M1 : gz_M), post v M1 → gz_W p l e (gz_rm d2) s m args below meth c D ad cy lay nL Q M1 (pc + 3) lv (v.toList ++ st)) : gz_W p l e (gz_rm d2) s m args below meth c D ad cy lay nL Q M pc lv (v3 :: v2 :: v1 :: st) := fun H locs ls hP hS hL => gz_go (va_runSN (As := [v1, v2, v3]) (rest := st) ⟨hC.1, hC.2.1, hC.2.2.2.1, hC.2.2.2.2.1, hC.2.2.2.2.2.1⟩ hct ⟨va_cnB 3 hC.2.2.2.2.2.1 (gz_cons hK.2.2.2.1 gz_good) rfl rfl rfl (hC.2.2.2.2.2.2.1 _ hK.1) (hC.2.2.2.2.2.1 _ hK.2.2.1) hK.2.2.2.2 (gz_rf hdd hn), hC.2.2.2.2.2.1 _ hK.2.1, trivial⟩ ⟨gz_fbl, gz_pre (av := [v1, v2, v3]) hC hP⟩ rfl rfl hL.1 rfl (lv_room hrm) hd ⟨Nat.le_refl 0, Nat.le_refl 0⟩) hS (fun v M1 H1 locs1 hp hP1 hS1 => kk v M1 hp H1 locs1 ls hP1 hS1 hL)
theorem gz_callSN4 (hC : gz_X p s m args meth c own cc ret nL D ad cy lay) {idx : Nat} {y : MethodName} {b : ByteArray} {n : Nat} {ret2 : Option FieldType} {d d2 : Nat} {post : Option Value → gz_M → Prop} {host : String} {v1 v2 v3 v4 : Value} (hd : decode cc pc = .ok (.invokestatic idx, 3)) (hK : gz_KSN own idx y host b n ret2 4) (hdd : d + 1 ≤ d2) (hn : n ≤ 21) (hrm : (st.map fun v => v.category).sum ≤ 8) (hct : gz_Ct l D ad cy lay y b n ret2 d [v1, v2, v3, v4] M post) (kk : ∀ (v : Option Value) (M1 : gz_M), post v M1 → gz_W p l e (gz_rm d2) s m args below meth c D ad cy lay nL Q M1 (pc + 3) lv (v.toList ++ st)) : gz_W p l e (gz_rm d2) s m args below meth c D ad cy lay nL Q M pc lv (v4 :: v3 :: v2 :: v1 :: st) := fun H locs ls hP hS hL => gz_go (va_runSN (As := [v1, v2, v3, v4]) (rest := st) ⟨hC.1, hC.2.1, hC.2.2.2.1, hC.2.2.2.2.1, hC.2.2.2.2.2.1⟩ hct ⟨va_cnB 4 hC.2.2.2.2.2.1 (gz_cons hK.2.2.2.1 gz_good) rfl rfl rfl (hC.2.2.2.2.2.2.1 _ hK.1) (hC.2.2.2.2.2.1 _ hK.2.2.1) hK.2.2.2.2 (gz_rf hdd hn), hC.2.2.2.2.2.1 _ hK.2.1, trivial⟩ ⟨gz_fbl, gz_pre (av := [v1, v2, v3, v4]) hC hP⟩ rfl rfl hL.1 rfl (lv_room hrm) hd ⟨Nat.le_refl 0, Nat.le_refl 0⟩) hS (fun v M1 H1 locs1 hp hP1 hS1 => kk v M1 hp H1 locs1 ls hP1 hS1 hL)
theorem gz_callSN5 (hC : gz_X p s m args meth c own cc ret nL D ad cy lay) {idx : Nat} {y : MethodName} {b : ByteArray} {n : Nat} {ret2 : Option FieldType} {d d2 : Nat} {post : Option Value → gz_M → Prop} {host : String} {v1 v2 v3 v4 v5 : Value} (hd : decode cc pc = .ok (.invokestatic idx, 3)) (hK : gz_KSN own idx y host b n ret2 5) (hdd : d + 1 ≤ d2) (hn : n ≤ 21) (hrm : (st.map fun v => v.category).sum ≤ 8) (hct : gz_Ct l D ad cy lay y b n ret2 d [v1, v2, v3, v4, v5] M post) (kk : ∀ (v : Option Value) (M1 : gz_M), post v M1 → gz_W p l e (gz_rm d2) s m args below meth c D ad cy lay nL Q M1 (pc + 3) lv (v.toList ++ st)) : gz_W p l e (gz_rm d2) s m args below meth c D ad cy lay nL Q M pc lv (v5 :: v4 :: v3 :: v2 :: v1 :: st) := fun H locs ls hP hS hL => gz_go (va_runSN (As := [v1, v2, v3, v4, v5]) (rest := st) ⟨hC.1, hC.2.1, hC.2.2.2.1, hC.2.2.2.2.1, hC.2.2.2.2.2.1⟩ hct ⟨va_cnB 5 hC.2.2.2.2.2.1 (gz_cons hK.2.2.2.1 gz_good) rfl rfl rfl (hC.2.2.2.2.2.2.1 _ hK.1) (hC.2.2.2.2.2.1 _ hK.2.2.1) hK.2.2.2.2 (gz_rf hdd hn), hC.2.2.2.2.2.1 _ hK.2.1, trivial⟩ ⟨gz_fbl, gz_pre (av := [v1, v2, v3, v4, v5]) hC hP⟩ rfl rfl hL.1 rfl (lv_room hrm) hd ⟨Nat.le_refl 0, Nat.le_refl 0⟩) hS (fun v M1 H1 locs1 hp hP1 hS1 => kk v M1 hp H1 locs1 ls hP1 hS1 hL)
theorem gz_callSN6 (hC : gz_X p s m args meth c own cc ret nL D ad cy lay) {idx : Nat} {y : MethodName} {b : ByteArray} {n : Nat} {ret2 : Option FieldType} {d d2 : Nat} {post : Option Value → gz_M → Prop} {host : String} {v1 v2 v3 v4 v5 v6 : Value} (hd : decode cc pc = .ok (.invokestatic idx, 3)) (hK : gz_KSN own idx y host b n ret2 6) (hdd : d + 1 ≤ d2) (hn : n ≤ 21) (hrm : (st.map fun v => v.category).sum ≤ 8) (hct : gz_Ct l D ad cy lay y b n ret2 d [v1, v2, v3, v4, v5, v6] M post) (kk : ∀ (v : Option Value) (M1 : gz_M), post v M1 → gz_W p l e (gz_rm d2) s m args below meth c D ad cy lay nL Q M1 (pc + 3) lv (v.toList ++ st)) : gz_W p l e (gz_rm d2) s m args below meth c D ad cy lay nL Q M pc lv (v6 :: v5 :: v4 :: v3 :: v2 :: v1 :: st) := fun H locs ls hP hS hL => gz_go (va_runSN (As := [v1, v2, v3, v4, v5, v6]) (rest := st) ⟨hC.1, hC.2.1, hC.2.2.2.1, hC.2.2.2.2.1, hC.2.2.2.2.2.1⟩ hct ⟨va_cnB 6 hC.2.2.2.2.2.1 (gz_cons hK.2.2.2.1 gz_good) rfl rfl rfl (hC.2.2.2.2.2.2.1 _ hK.1) (hC.2.2.2.2.2.1 _ hK.2.2.1) hK.2.2.2.2 (gz_rf hdd hn), hC.2.2.2.2.2.1 _ hK.2.1, trivial⟩ ⟨gz_fbl, gz_pre (av := [v1, v2, v3, v4, v5, v6]) hC hP⟩ rfl rfl hL.1 rfl (lv_room hrm) hd ⟨Nat.le_refl 0, Nat.le_refl 0⟩) hS (fun v M1 H1 locs1 hp hP1 hS1 => kk v M1 hp H1 locs1 ls hP1 hS1 hL)
theorem gz_iret {post : Option Value → gz_M → Prop} {v : Int32} (hC : gz_X p s m args meth c own cc (some .int) nL D ad cy lay) (hd : decode cc pc = .ok (.ireturn, 1)) (hq : post (some (.int v)) M) : gz_W p l e R s m args below meth c D ad cy lay nL (MQ below (gz_Q D ad cy lay post) args s 0 0 (gz_A ad lay)) M pc lv [.int v] := fun H locs ls hP hS hL => W.iret hC.1 hC.2.1 hC.2.2.1 (fun t ht hW => ⟨⟨_, M, rfl, hq, by rw [ht]; exact hP⟩, hS.F ht⟩) hS.2.2 hd hC.2.2.2.2.2.2.2.2.1
theorem gz_zret {post : Option Value → gz_M → Prop} {v : Int32} (hb : narrow .boolean (.int v) = .int v) (hC : gz_X p s m args meth c own cc (some .boolean) nL D ad cy lay) (hd : decode cc pc = .ok (.ireturn, 1)) (hq : post (some (.int v)) M) : gz_W p l e R s m args below meth c D ad cy lay nL (MQ below (gz_Q D ad cy lay post) args s 0 0 (gz_A ad lay)) M pc lv [.int v] := fun H locs ls hP hS hL => W.zret hC.1 hC.2.1 hC.2.2.1 hb (fun t ht hW => ⟨⟨_, M, rfl, hq, by rw [ht]; exact hP⟩, hS.F ht⟩) hS.2.2 hd hC.2.2.2.2.2.2.2.2.1
theorem gz_lret {post : Option Value → gz_M → Prop} {v : Int64} (hC : gz_X p s m args meth c own cc (some .long) nL D ad cy lay) (hd : decode cc pc = .ok (.lreturn, 1)) (hq : post (some (.long v)) M) : gz_W p l e R s m args below meth c D ad cy lay nL (MQ below (gz_Q D ad cy lay post) args s 0 0 (gz_A ad lay)) M pc lv [.long v] := fun H locs ls hP hS hL => W.lret hC.1 hC.2.1 hC.2.2.1 (fun t ht hW => ⟨⟨_, M, rfl, hq, by rw [ht]; exact hP⟩, hS.F ht⟩) hS.2.2 hd hC.2.2.2.2.2.2.2.2.1
theorem gz_dret {post : Option Value → gz_M → Prop} {v : UInt64} (hC : gz_X p s m args meth c own cc (some .double) nL D ad cy lay) (hd : decode cc pc = .ok (.dreturn, 1)) (hq : post (some (.double v)) M) : gz_W p l e R s m args below meth c D ad cy lay nL (MQ below (gz_Q D ad cy lay post) args s 0 0 (gz_A ad lay)) M pc lv [.double v] := fun H locs ls hP hS hL => W.dret hC.1 hC.2.1 hC.2.2.1 (fun t ht hW => ⟨⟨_, M, rfl, hq, by rw [ht]; exact hP⟩, hS.F ht⟩) hS.2.2 hd hC.2.2.2.2.2.2.2.2.1
theorem gz_vret {post : Option Value → gz_M → Prop} (hC : gz_X p s m args meth c own cc (none) nL D ad cy lay) (hd : decode cc pc = .ok (.return_, 1)) (hq : post (none) M) : gz_W p l e R s m args below meth c D ad cy lay nL (MQ below (gz_Q D ad cy lay post) args s 0 0 (gz_A ad lay)) M pc lv [] := fun H locs ls hP hS hL => W.vret hC.1 hC.2.1 hC.2.2.1 (fun t ht hW => ⟨⟨_, M, rfl, hq, by rw [ht]; exact hP⟩, hS.F ht⟩) hS.2.2 hd hC.2.2.2.2.2.2.2.2.1
theorem gz_aret {post : Option Value → gz_M → Prop} {nm : String} {a : Nat} (hC : gz_X p s m args meth c own cc (some (.object nm)) nL D ad cy lay) (hd : decode cc pc = .ok (.areturn, 1)) (hq : post (some (.ref a)) M) : gz_W p l e R s m args below meth c D ad cy lay nL (MQ below (gz_Q D ad cy lay post) args s 0 0 (gz_A ad lay)) M pc lv [.ref a] := fun H locs ls hP hS hL => W.aret hC.1 hC.2.1 hC.2.2.1 (Or.inl ⟨_, rfl⟩) (Or.inr ⟨_, rfl⟩) (fun t ht hW => ⟨⟨_, M, rfl, hq, by rw [ht]; exact hP⟩, hS.F ht⟩) hS.2.2 hd hC.2.2.2.2.2.2.2.2.1
end GZ
end
