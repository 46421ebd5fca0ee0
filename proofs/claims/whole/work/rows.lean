section
-- ===== PART A: goes FIRST, ahead of the names: the tables' words, and 'selects' of the private methods out of them =====
/-- a private method of a class that the tables say can be made, by its rows of tables_1 -/
def lw_okq (q : MethodName × Nat) : Prop := (q.1.cls ≠ "java/lang/invoke/MethodHandle" ∧ q.1.cls ≠ "java/lang/invoke/VarHandle") ∧ Cond.instantiable q.1.cls q.2 ∈ tables_1 ∧ Cond.privateMethod q.1 ∈ tables_1 ∧ Cond.instanceMethod q.1 ∈ tables_1
theorem lw_p0 : lw_okq (⟨"DiceCups$Cup", "writeHand", "(I)V"⟩, 6) := ⟨⟨by decide +kernel, by decide +kernel⟩, List.mem_of_getElem? (i := 28) (by decide +kernel), List.mem_of_getElem? (i := 216) (by decide +kernel), List.mem_of_getElem? (i := 217) (by decide +kernel)⟩
theorem lw_p1 : lw_okq (⟨"DiceCups$Cup", "stepRow", "()Z"⟩, 6) := ⟨⟨by decide +kernel, by decide +kernel⟩, List.mem_of_getElem? (i := 28) (by decide +kernel), List.mem_of_getElem? (i := 239) (by decide +kernel), List.mem_of_getElem? (i := 240) (by decide +kernel)⟩
theorem lw_p2 : lw_okq (⟨"DiceCups$Table", "judgeBids", "()V"⟩, 6) := ⟨⟨by decide +kernel, by decide +kernel⟩, List.mem_of_getElem? (i := 22) (by decide +kernel), List.mem_of_getElem? (i := 243) (by decide +kernel), List.mem_of_getElem? (i := 244) (by decide +kernel)⟩
theorem lw_p3 : lw_okq (⟨"DiceCups$Table", "judge", "(III)V"⟩, 6) := ⟨⟨by decide +kernel, by decide +kernel⟩, List.mem_of_getElem? (i := 22) (by decide +kernel), List.mem_of_getElem? (i := 247) (by decide +kernel), List.mem_of_getElem? (i := 248) (by decide +kernel)⟩
theorem lw_p4 : lw_okq (⟨"DiceCups$Table", "countsFor", "(LDiceCups$Cup;II)I"⟩, 6) := ⟨⟨by decide +kernel, by decide +kernel⟩, List.mem_of_getElem? (i := 22) (by decide +kernel), List.mem_of_getElem? (i := 255) (by decide +kernel), List.mem_of_getElem? (i := 256) (by decide +kernel)⟩
theorem lw_p5 : lw_okq (⟨"DiceCups", "isHand", "(II)Z"⟩, 5) := ⟨⟨by decide +kernel, by decide +kernel⟩, List.mem_of_getElem? (i := 14) (by decide +kernel), List.mem_of_getElem? (i := 310) (by decide +kernel), List.mem_of_getElem? (i := 311) (by decide +kernel)⟩
theorem lw_p6 : lw_okq (⟨"DiceCups", "isBid", "(I)Z"⟩, 5) := ⟨⟨by decide +kernel, by decide +kernel⟩, List.mem_of_getElem? (i := 14) (by decide +kernel), List.mem_of_getElem? (i := 327) (by decide +kernel), List.mem_of_getElem? (i := 328) (by decide +kernel)⟩
theorem lw_p7 : lw_okq (⟨"DiceCups", "isBidOrNone", "(I)Z"⟩, 5) := ⟨⟨by decide +kernel, by decide +kernel⟩, List.mem_of_getElem? (i := 14) (by decide +kernel), List.mem_of_getElem? (i := 371) (by decide +kernel), List.mem_of_getElem? (i := 372) (by decide +kernel)⟩
theorem lw_p8 : lw_okq (⟨"DiceCups$Shares", "takeMoves", "(LDiceCups$Plans;IIII)V"⟩, 1) := ⟨⟨by decide +kernel, by decide +kernel⟩, List.mem_of_getElem? (i := 108) (by decide +kernel), List.mem_of_getElem? (i := 406) (by decide +kernel), List.mem_of_getElem? (i := 407) (by decide +kernel)⟩
theorem lw_p9 : lw_okq (⟨"DiceCups$Match", "expected", "(II)D"⟩, 4) := ⟨⟨by decide +kernel, by decide +kernel⟩, List.mem_of_getElem? (i := 102) (by decide +kernel), List.mem_of_getElem? (i := 422) (by decide +kernel), List.mem_of_getElem? (i := 423) (by decide +kernel)⟩
theorem lw_p10 : lw_okq (⟨"DiceCups$Match", "expectedAt", "(IIII)D"⟩, 4) := ⟨⟨by decide +kernel, by decide +kernel⟩, List.mem_of_getElem? (i := 102) (by decide +kernel), List.mem_of_getElem? (i := 426) (by decide +kernel), List.mem_of_getElem? (i := 427) (by decide +kernel)⟩
theorem lw_p11 : lw_okq (⟨"DiceCups$Answering", "other", "()LDiceCups$Cup;"⟩, 6) := ⟨⟨by decide +kernel, by decide +kernel⟩, List.mem_of_getElem? (i := 132) (by decide +kernel), List.mem_of_getElem? (i := 460) (by decide +kernel), List.mem_of_getElem? (i := 461) (by decide +kernel)⟩
theorem lw_p12 : lw_okq (⟨"DiceCups$Answering", "hold", "(I)V"⟩, 6) := ⟨⟨by decide +kernel, by decide +kernel⟩, List.mem_of_getElem? (i := 132) (by decide +kernel), List.mem_of_getElem? (i := 470) (by decide +kernel), List.mem_of_getElem? (i := 471) (by decide +kernel)⟩
theorem lw_p13 : lw_okq (⟨"DiceCups$Answering", "value", "(IIII)D"⟩, 6) := ⟨⟨by decide +kernel, by decide +kernel⟩, List.mem_of_getElem? (i := 132) (by decide +kernel), List.mem_of_getElem? (i := 476) (by decide +kernel), List.mem_of_getElem? (i := 477) (by decide +kernel)⟩
theorem lw_p14 : lw_okq (⟨"DiceCups$Answering", "ownValue", "(III)D"⟩, 6) := ⟨⟨by decide +kernel, by decide +kernel⟩, List.mem_of_getElem? (i := 132) (by decide +kernel), List.mem_of_getElem? (i := 480) (by decide +kernel), List.mem_of_getElem? (i := 481) (by decide +kernel)⟩
theorem lw_p15 : lw_okq (⟨"DiceCups$Answering", "addCallWins", "(DIII)D"⟩, 6) := ⟨⟨by decide +kernel, by decide +kernel⟩, List.mem_of_getElem? (i := 132) (by decide +kernel), List.mem_of_getElem? (i := 484) (by decide +kernel), List.mem_of_getElem? (i := 485) (by decide +kernel)⟩
def lw_privs_1 : List (MethodName × Nat) := [(⟨"DiceCups$Cup", "writeHand", "(I)V"⟩, 6), (⟨"DiceCups$Cup", "stepRow", "()Z"⟩, 6), (⟨"DiceCups$Table", "judgeBids", "()V"⟩, 6), (⟨"DiceCups$Table", "judge", "(III)V"⟩, 6), (⟨"DiceCups$Table", "countsFor", "(LDiceCups$Cup;II)I"⟩, 6), (⟨"DiceCups", "isHand", "(II)Z"⟩, 5), (⟨"DiceCups", "isBid", "(I)Z"⟩, 5), (⟨"DiceCups", "isBidOrNone", "(I)Z"⟩, 5), (⟨"DiceCups$Shares", "takeMoves", "(LDiceCups$Plans;IIII)V"⟩, 1), (⟨"DiceCups$Match", "expected", "(II)D"⟩, 4), (⟨"DiceCups$Match", "expectedAt", "(IIII)D"⟩, 4), (⟨"DiceCups$Answering", "other", "()LDiceCups$Cup;"⟩, 6), (⟨"DiceCups$Answering", "hold", "(I)V"⟩, 6), (⟨"DiceCups$Answering", "value", "(IIII)D"⟩, 6), (⟨"DiceCups$Answering", "ownValue", "(III)D"⟩, 6), (⟨"DiceCups$Answering", "addCallWins", "(DIII)D"⟩, 6)]
theorem lw_r1 : ∀ q ∈ lw_privs_1, lw_okq q := List.forall_mem_cons.mpr ⟨lw_p0, List.forall_mem_cons.mpr ⟨lw_p1, List.forall_mem_cons.mpr ⟨lw_p2, List.forall_mem_cons.mpr ⟨lw_p3, List.forall_mem_cons.mpr ⟨lw_p4, List.forall_mem_cons.mpr ⟨lw_p5, List.forall_mem_cons.mpr ⟨lw_p6, List.forall_mem_cons.mpr ⟨lw_p7, List.forall_mem_cons.mpr ⟨lw_p8, List.forall_mem_cons.mpr ⟨lw_p9, List.forall_mem_cons.mpr ⟨lw_p10, List.forall_mem_cons.mpr ⟨lw_p11, List.forall_mem_cons.mpr ⟨lw_p12, List.forall_mem_cons.mpr ⟨lw_p13, List.forall_mem_cons.mpr ⟨lw_p14, List.forall_mem_cons.mpr ⟨lw_p15, fun _ h => absurd h List.not_mem_nil⟩⟩⟩⟩⟩⟩⟩⟩⟩⟩⟩⟩⟩⟩⟩⟩
theorem lw_p16 : lw_okq (⟨"DiceCups$Answering", "otherValue", "(III)D"⟩, 6) := ⟨⟨by decide +kernel, by decide +kernel⟩, List.mem_of_getElem? (i := 132) (by decide +kernel), List.mem_of_getElem? (i := 490) (by decide +kernel), List.mem_of_getElem? (i := 491) (by decide +kernel)⟩
theorem lw_p17 : lw_okq (⟨"DiceCups$Answering", "follow", "(III)Z"⟩, 6) := ⟨⟨by decide +kernel, by decide +kernel⟩, List.mem_of_getElem? (i := 132) (by decide +kernel), List.mem_of_getElem? (i := 494) (by decide +kernel), List.mem_of_getElem? (i := 495) (by decide +kernel)⟩
theorem lw_p18 : lw_okq (⟨"DiceCups$Game", "draw", "(LDiceCups$Cup;)I"⟩, 12) := ⟨⟨by decide +kernel, by decide +kernel⟩, List.mem_of_getElem? (i := 159) (by decide +kernel), List.mem_of_getElem? (i := 525) (by decide +kernel), List.mem_of_getElem? (i := 526) (by decide +kernel)⟩
theorem lw_p19 : lw_okq (⟨"DiceCups$Cup", "isLike", "(I[I)Z"⟩, 6) := ⟨⟨by decide +kernel, by decide +kernel⟩, List.mem_of_getElem? (i := 28) (by decide +kernel), List.mem_of_getElem? (i := 540) (by decide +kernel), List.mem_of_getElem? (i := 541) (by decide +kernel)⟩
theorem lw_p20 : lw_okq (⟨"DiceCupsModel", "lay", "()V"⟩, 26) := ⟨⟨by decide +kernel, by decide +kernel⟩, List.mem_of_getElem? (i := 596) (by decide +kernel), List.mem_of_getElem? (i := 602) (by decide +kernel), List.mem_of_getElem? (i := 603) (by decide +kernel)⟩
theorem lw_p21 : lw_okq (⟨"DiceCupsModel", "layHands", "(I)V"⟩, 26) := ⟨⟨by decide +kernel, by decide +kernel⟩, List.mem_of_getElem? (i := 596) (by decide +kernel), List.mem_of_getElem? (i := 606) (by decide +kernel), List.mem_of_getElem? (i := 607) (by decide +kernel)⟩
theorem lw_p22 : lw_okq (⟨"DiceCupsModel", "dice", "(I)I"⟩, 26) := ⟨⟨by decide +kernel, by decide +kernel⟩, List.mem_of_getElem? (i := 596) (by decide +kernel), List.mem_of_getElem? (i := 610) (by decide +kernel), List.mem_of_getElem? (i := 611) (by decide +kernel)⟩
theorem lw_p23 : lw_okq (⟨"DiceCupsModel", "most", "()I"⟩, 26) := ⟨⟨by decide +kernel, by decide +kernel⟩, List.mem_of_getElem? (i := 596) (by decide +kernel), List.mem_of_getElem? (i := 704) (by decide +kernel), List.mem_of_getElem? (i := 705) (by decide +kernel)⟩
theorem lw_p24 : lw_okq (⟨"DiceCupsModel", "isHand", "(II)Z"⟩, 26) := ⟨⟨by decide +kernel, by decide +kernel⟩, List.mem_of_getElem? (i := 596) (by decide +kernel), List.mem_of_getElem? (i := 719) (by decide +kernel), List.mem_of_getElem? (i := 720) (by decide +kernel)⟩
theorem lw_p25 : lw_okq (⟨"DiceCupsModel", "isBid", "(I)Z"⟩, 26) := ⟨⟨by decide +kernel, by decide +kernel⟩, List.mem_of_getElem? (i := 596) (by decide +kernel), List.mem_of_getElem? (i := 731) (by decide +kernel), List.mem_of_getElem? (i := 732) (by decide +kernel)⟩
theorem lw_p26 : lw_okq (⟨"DiceCupsModel", "doesHold", "(III)Z"⟩, 26) := ⟨⟨by decide +kernel, by decide +kernel⟩, List.mem_of_getElem? (i := 596) (by decide +kernel), List.mem_of_getElem? (i := 735) (by decide +kernel), List.mem_of_getElem? (i := 736) (by decide +kernel)⟩
theorem lw_p27 : lw_okq (⟨"DiceCupsModel", "countsFor", "(III)I"⟩, 26) := ⟨⟨by decide +kernel, by decide +kernel⟩, List.mem_of_getElem? (i := 596) (by decide +kernel), List.mem_of_getElem? (i := 739) (by decide +kernel), List.mem_of_getElem? (i := 740) (by decide +kernel)⟩
theorem lw_p28 : lw_okq (⟨"DiceCupsModel", "throwsFor", "(III)I"⟩, 26) := ⟨⟨by decide +kernel, by decide +kernel⟩, List.mem_of_getElem? (i := 596) (by decide +kernel), List.mem_of_getElem? (i := 747) (by decide +kernel), List.mem_of_getElem? (i := 748) (by decide +kernel)⟩
theorem lw_p29 : lw_okq (⟨"DiceCupsModel", "power", "(I)I"⟩, 26) := ⟨⟨by decide +kernel, by decide +kernel⟩, List.mem_of_getElem? (i := 596) (by decide +kernel), List.mem_of_getElem? (i := 751) (by decide +kernel), List.mem_of_getElem? (i := 752) (by decide +kernel)⟩
theorem lw_p30 : lw_okq (⟨"DiceCupsModel", "mayMove", "(II)Z"⟩, 26) := ⟨⟨by decide +kernel, by decide +kernel⟩, List.mem_of_getElem? (i := 596) (by decide +kernel), List.mem_of_getElem? (i := 766) (by decide +kernel), List.mem_of_getElem? (i := 767) (by decide +kernel)⟩
theorem lw_p31 : lw_okq (⟨"DiceCupsModel", "at", "(IIIII)I"⟩, 26) := ⟨⟨by decide +kernel, by decide +kernel⟩, List.mem_of_getElem? (i := 596) (by decide +kernel), List.mem_of_getElem? (i := 770) (by decide +kernel), List.mem_of_getElem? (i := 771) (by decide +kernel)⟩
def lw_privs_2 : List (MethodName × Nat) := [(⟨"DiceCups$Answering", "otherValue", "(III)D"⟩, 6), (⟨"DiceCups$Answering", "follow", "(III)Z"⟩, 6), (⟨"DiceCups$Game", "draw", "(LDiceCups$Cup;)I"⟩, 12), (⟨"DiceCups$Cup", "isLike", "(I[I)Z"⟩, 6), (⟨"DiceCupsModel", "lay", "()V"⟩, 26), (⟨"DiceCupsModel", "layHands", "(I)V"⟩, 26), (⟨"DiceCupsModel", "dice", "(I)I"⟩, 26), (⟨"DiceCupsModel", "most", "()I"⟩, 26), (⟨"DiceCupsModel", "isHand", "(II)Z"⟩, 26), (⟨"DiceCupsModel", "isBid", "(I)Z"⟩, 26), (⟨"DiceCupsModel", "doesHold", "(III)Z"⟩, 26), (⟨"DiceCupsModel", "countsFor", "(III)I"⟩, 26), (⟨"DiceCupsModel", "throwsFor", "(III)I"⟩, 26), (⟨"DiceCupsModel", "power", "(I)I"⟩, 26), (⟨"DiceCupsModel", "mayMove", "(II)Z"⟩, 26), (⟨"DiceCupsModel", "at", "(IIIII)I"⟩, 26)]
theorem lw_r2 : ∀ q ∈ lw_privs_2, lw_okq q := List.forall_mem_cons.mpr ⟨lw_p16, List.forall_mem_cons.mpr ⟨lw_p17, List.forall_mem_cons.mpr ⟨lw_p18, List.forall_mem_cons.mpr ⟨lw_p19, List.forall_mem_cons.mpr ⟨lw_p20, List.forall_mem_cons.mpr ⟨lw_p21, List.forall_mem_cons.mpr ⟨lw_p22, List.forall_mem_cons.mpr ⟨lw_p23, List.forall_mem_cons.mpr ⟨lw_p24, List.forall_mem_cons.mpr ⟨lw_p25, List.forall_mem_cons.mpr ⟨lw_p26, List.forall_mem_cons.mpr ⟨lw_p27, List.forall_mem_cons.mpr ⟨lw_p28, List.forall_mem_cons.mpr ⟨lw_p29, List.forall_mem_cons.mpr ⟨lw_p30, List.forall_mem_cons.mpr ⟨lw_p31, fun _ h => absurd h List.not_mem_nil⟩⟩⟩⟩⟩⟩⟩⟩⟩⟩⟩⟩⟩⟩⟩⟩
theorem lw_p32 : lw_okq (⟨"DiceCupsModel", "worthOf", "(IIII)D"⟩, 26) := ⟨⟨by decide +kernel, by decide +kernel⟩, List.mem_of_getElem? (i := 596) (by decide +kernel), List.mem_of_getElem? (i := 779) (by decide +kernel), List.mem_of_getElem? (i := 780) (by decide +kernel)⟩
theorem lw_p33 : lw_okq (⟨"DiceCupsModel", "part", "(IIIII)D"⟩, 26) := ⟨⟨by decide +kernel, by decide +kernel⟩, List.mem_of_getElem? (i := 596) (by decide +kernel), List.mem_of_getElem? (i := 783) (by decide +kernel), List.mem_of_getElem? (i := 784) (by decide +kernel)⟩
theorem lw_p34 : lw_okq (⟨"DiceCupsModel", "total", "(IIII)I"⟩, 26) := ⟨⟨by decide +kernel, by decide +kernel⟩, List.mem_of_getElem? (i := 596) (by decide +kernel), List.mem_of_getElem? (i := 787) (by decide +kernel), List.mem_of_getElem? (i := 788) (by decide +kernel)⟩
theorem lw_p35 : lw_okq (⟨"DiceCupsModel", "wins", "(IIIII)Z"⟩, 26) := ⟨⟨by decide +kernel, by decide +kernel⟩, List.mem_of_getElem? (i := 596) (by decide +kernel), List.mem_of_getElem? (i := 791) (by decide +kernel), List.mem_of_getElem? (i := 792) (by decide +kernel)⟩
theorem lw_p36 : lw_okq (⟨"DiceCupsModel", "begin", "(I)V"⟩, 26) := ⟨⟨by decide +kernel, by decide +kernel⟩, List.mem_of_getElem? (i := 596) (by decide +kernel), List.mem_of_getElem? (i := 809) (by decide +kernel), List.mem_of_getElem? (i := 810) (by decide +kernel)⟩
theorem lw_p37 : lw_okq (⟨"DiceCupsModel", "enter", "(II)V"⟩, 26) := ⟨⟨by decide +kernel, by decide +kernel⟩, List.mem_of_getElem? (i := 596) (by decide +kernel), List.mem_of_getElem? (i := 813) (by decide +kernel), List.mem_of_getElem? (i := 814) (by decide +kernel)⟩
theorem lw_p38 : lw_okq (⟨"DiceCupsModel", "answerOf", "(IIII)D"⟩, 26) := ⟨⟨by decide +kernel, by decide +kernel⟩, List.mem_of_getElem? (i := 596) (by decide +kernel), List.mem_of_getElem? (i := 817) (by decide +kernel), List.mem_of_getElem? (i := 818) (by decide +kernel)⟩
theorem lw_p39 : lw_okq (⟨"DiceCupsModel", "offer", "(ID)V"⟩, 26) := ⟨⟨by decide +kernel, by decide +kernel⟩, List.mem_of_getElem? (i := 596) (by decide +kernel), List.mem_of_getElem? (i := 821) (by decide +kernel), List.mem_of_getElem? (i := 822) (by decide +kernel)⟩
theorem lw_p40 : lw_okq (⟨"DiceCupsModel", "call", "(IIII)V"⟩, 26) := ⟨⟨by decide +kernel, by decide +kernel⟩, List.mem_of_getElem? (i := 596) (by decide +kernel), List.mem_of_getElem? (i := 825) (by decide +kernel), List.mem_of_getElem? (i := 826) (by decide +kernel)⟩
theorem lw_p41 : lw_okq (⟨"DiceCupsModel", "winsBy", "(IIIII)Z"⟩, 26) := ⟨⟨by decide +kernel, by decide +kernel⟩, List.mem_of_getElem? (i := 596) (by decide +kernel), List.mem_of_getElem? (i := 829) (by decide +kernel), List.mem_of_getElem? (i := 830) (by decide +kernel)⟩
theorem lw_p42 : lw_okq (⟨"DiceCupsModel", "leads", "(IIII)Z"⟩, 26) := ⟨⟨by decide +kernel, by decide +kernel⟩, List.mem_of_getElem? (i := 596) (by decide +kernel), List.mem_of_getElem? (i := 833) (by decide +kernel), List.mem_of_getElem? (i := 834) (by decide +kernel)⟩
theorem lw_p43 : lw_okq (⟨"DiceCupsModel", "drawn", "(I)I"⟩, 26) := ⟨⟨by decide +kernel, by decide +kernel⟩, List.mem_of_getElem? (i := 596) (by decide +kernel), List.mem_of_getElem? (i := 849) (by decide +kernel), List.mem_of_getElem? (i := 850) (by decide +kernel)⟩
def lw_privs_3 : List (MethodName × Nat) := [(⟨"DiceCupsModel", "worthOf", "(IIII)D"⟩, 26), (⟨"DiceCupsModel", "part", "(IIIII)D"⟩, 26), (⟨"DiceCupsModel", "total", "(IIII)I"⟩, 26), (⟨"DiceCupsModel", "wins", "(IIIII)Z"⟩, 26), (⟨"DiceCupsModel", "begin", "(I)V"⟩, 26), (⟨"DiceCupsModel", "enter", "(II)V"⟩, 26), (⟨"DiceCupsModel", "answerOf", "(IIII)D"⟩, 26), (⟨"DiceCupsModel", "offer", "(ID)V"⟩, 26), (⟨"DiceCupsModel", "call", "(IIII)V"⟩, 26), (⟨"DiceCupsModel", "winsBy", "(IIIII)Z"⟩, 26), (⟨"DiceCupsModel", "leads", "(IIII)Z"⟩, 26), (⟨"DiceCupsModel", "drawn", "(I)I"⟩, 26)]
theorem lw_r3 : ∀ q ∈ lw_privs_3, lw_okq q := List.forall_mem_cons.mpr ⟨lw_p32, List.forall_mem_cons.mpr ⟨lw_p33, List.forall_mem_cons.mpr ⟨lw_p34, List.forall_mem_cons.mpr ⟨lw_p35, List.forall_mem_cons.mpr ⟨lw_p36, List.forall_mem_cons.mpr ⟨lw_p37, List.forall_mem_cons.mpr ⟨lw_p38, List.forall_mem_cons.mpr ⟨lw_p39, List.forall_mem_cons.mpr ⟨lw_p40, List.forall_mem_cons.mpr ⟨lw_p41, List.forall_mem_cons.mpr ⟨lw_p42, List.forall_mem_cons.mpr ⟨lw_p43, fun _ h => absurd h List.not_mem_nil⟩⟩⟩⟩⟩⟩⟩⟩⟩⟩⟩⟩
def lw_privs : List (MethodName × Nat) := lw_privs_1 ++ (lw_privs_2 ++ (lw_privs_3))
def lw_tbl : List Cond := k2_sels lw_privs ++ tables_1
theorem lw_privs_ok : ∀ q ∈ lw_privs, lw_okq q := by
  show ∀ q ∈ lw_privs_1 ++ (lw_privs_2 ++ (lw_privs_3)), lw_okq q
  exact List.forall_mem_append.mpr ⟨lw_r1, List.forall_mem_append.mpr ⟨lw_r2, lw_r3⟩⟩
/-- the streams that the claim lets the run draw from -/
abbrev lw_cs : List Choice := [Jvm.Choice.named "NaN.bits"]
theorem lw_bits : nanBits ∈ lw_cs := by first | decide | exact List.mem_cons_self | simp [lw_cs, nanBits]
-- ===== end of PART A; then your names; then what follows =====
def RX0 : String := "DiceCups$Answering"
def TX0 : u_T := fun k => match k with
  | 0 => ("DiceCups$Answering", "table", "LDiceCups$Table;", true)
  | 1 => ("DiceCups$Answering", "shares", "LDiceCups$Shares;", true)
  | 2 => ("DiceCups$Answering", "reach", "[D", true)
  | 3 => ("DiceCups$Answering", "player", "I", false)
  | 4 => ("DiceCups$Answering", "own", "I", false)
  | _ => ("DiceCups$Answering", "chosen", "I", false)
def tyX0 : Nat → FieldType := fun k => match k with
  | 0 => .object "DiceCups$Table"
  | 1 => .object "DiceCups$Shares"
  | 2 => .array .double
  | 3 => .int
  | 4 => .int
  | _ => .int
theorem nmX0 : ∀ a, a < 6 → ∀ b, b < 6 → a ≠ b → (TX0 a).2.1 ≠ (TX0 b).2.1 := by decide +kernel
theorem tyX0_ok : ∀ k, k < 6 → parseFieldDescriptor (TX0 k).2.2.1 = some (tyX0 k) := by decide +kernel
abbrev cX0_init : ByteArray := prog_2_method_1_code
def yX0_init : MethodName := ⟨RX0, "<init>", "(LDiceCups$Table;)V"⟩
abbrev cX0_study : ByteArray := prog_2_method_2_code
def yX0_study : MethodName := ⟨RX0, "study", "(LDiceCups$Plans;II)V"⟩
abbrev cX0_winnings : ByteArray := prog_2_method_3_code
def yX0_winnings : MethodName := ⟨RX0, "winnings", "()D"⟩
abbrev cX0_firstMove : ByteArray := prog_2_method_4_code
def yX0_firstMove : MethodName := ⟨RX0, "firstMove", "(I)I"⟩
abbrev cX0_moveBehind : ByteArray := prog_2_method_5_code
def yX0_moveBehind : MethodName := ⟨RX0, "moveBehind", "(II)I"⟩
abbrev cX0_other : ByteArray := prog_2_method_6_code
def yX0_other : MethodName := ⟨RX0, "other", "()LDiceCups$Cup;"⟩
abbrev cX0_hold : ByteArray := prog_2_method_7_code
def yX0_hold : MethodName := ⟨RX0, "hold", "(I)V"⟩
abbrev cX0_value : ByteArray := prog_2_method_8_code
def yX0_value : MethodName := ⟨RX0, "value", "(IIII)D"⟩
abbrev cX0_ownValue : ByteArray := prog_2_method_9_code
def yX0_ownValue : MethodName := ⟨RX0, "ownValue", "(III)D"⟩
abbrev cX0_otherValue : ByteArray := prog_2_method_10_code
def yX0_otherValue : MethodName := ⟨RX0, "otherValue", "(III)D"⟩
abbrev cX0_follow : ByteArray := prog_2_method_11_code
def yX0_follow : MethodName := ⟨RX0, "follow", "(III)Z"⟩
abbrev cX0_addCallWins : ByteArray := prog_2_method_12_code
def yX0_addCallWins : MethodName := ⟨RX0, "addCallWins", "(DIII)D"⟩
def RX1 : String := "DiceCups$Cup"
def TX1 : u_T := fun k => match k with
  | 0 => ("DiceCups$Cup", "pips", "[I", true)
  | 1 => ("DiceCups$Cup", "ways", "[I", true)
  | 2 => ("DiceCups$Cup", "row", "[I", true)
  | 3 => ("DiceCups$Cup", "dice", "I", false)
  | 4 => ("DiceCups$Cup", "faces", "I", false)
  | _ => ("DiceCups$Cup", "size", "I", false)
def tyX1 : Nat → FieldType := fun k => match k with
  | 0 => .array .int
  | 1 => .array .int
  | 2 => .array .int
  | 3 => .int
  | 4 => .int
  | _ => .int
theorem nmX1 : ∀ a, a < 6 → ∀ b, b < 6 → a ≠ b → (TX1 a).2.1 ≠ (TX1 b).2.1 := by decide +kernel
theorem tyX1_ok : ∀ k, k < 6 → parseFieldDescriptor (TX1 k).2.2.1 = some (tyX1 k) := by decide +kernel
abbrev cX1_init : ByteArray := prog_3_method_1_code
def yX1_init : MethodName := ⟨RX1, "<init>", "()V"⟩
abbrev cX1_fill : ByteArray := prog_3_method_2_code
def yX1_fill : MethodName := ⟨RX1, "fill", "(II)V"⟩
abbrev cX1_writeHand : ByteArray := prog_3_method_3_code
def yX1_writeHand : MethodName := ⟨RX1, "writeHand", "(I)V"⟩
abbrev cX1_stepRow : ByteArray := prog_3_method_4_code
def yX1_stepRow : MethodName := ⟨RX1, "stepRow", "()Z"⟩
abbrev cX1_factorial : ByteArray := prog_3_method_5_code
def yX1_factorial : MethodName := ⟨RX1, "factorial", "(I)I"⟩
abbrev cX1_spotOf : ByteArray := prog_3_method_6_code
def yX1_spotOf : MethodName := ⟨RX1, "spotOf", "(II)I"⟩
abbrev cX1_pipsOf : ByteArray := prog_3_method_7_code
def yX1_pipsOf : MethodName := ⟨RX1, "pipsOf", "(II)I"⟩
abbrev cX1_waysOf : ByteArray := prog_3_method_8_code
def yX1_waysOf : MethodName := ⟨RX1, "waysOf", "(I)I"⟩
abbrev cX1_allWays : ByteArray := prog_3_method_9_code
def yX1_allWays : MethodName := ⟨RX1, "allWays", "()I"⟩
abbrev cX1_find : ByteArray := prog_3_method_10_code
def yX1_find : MethodName := ⟨RX1, "find", "([I)I"⟩
abbrev cX1_isLike : ByteArray := prog_3_method_11_code
def yX1_isLike : MethodName := ⟨RX1, "isLike", "(I[I)Z"⟩
def RX2 : String := "DiceCups$Game"
def TX2 : u_T := fun k => match k with
  | 0 => ("DiceCups$Game", "table", "LDiceCups$Table;", true)
  | 1 => ("DiceCups$Game", "thrown", "[I", true)
  | 2 => ("DiceCups$Game", "x", "I", false)
  | 3 => ("DiceCups$Game", "there", "Z", false)
  | 4 => ("DiceCups$Game", "firstHand", "I", false)
  | 5 => ("DiceCups$Game", "secondHand", "I", false)
  | 6 => ("DiceCups$Game", "mover", "I", false)
  | 7 => ("DiceCups$Game", "last", "I", false)
  | 8 => ("DiceCups$Game", "made", "I", false)
  | 9 => ("DiceCups$Game", "winner", "I", false)
  | 10 => ("DiceCups$Game", "wonByFirst", "I", false)
  | _ => ("DiceCups$Game", "wonBySecond", "I", false)
def tyX2 : Nat → FieldType := fun k => match k with
  | 0 => .object "DiceCups$Table"
  | 1 => .array .int
  | 2 => .int
  | 3 => .boolean
  | 4 => .int
  | 5 => .int
  | 6 => .int
  | 7 => .int
  | 8 => .int
  | 9 => .int
  | 10 => .int
  | _ => .int
theorem nmX2 : ∀ a, a < 12 → ∀ b, b < 12 → a ≠ b → (TX2 a).2.1 ≠ (TX2 b).2.1 := by decide +kernel
theorem tyX2_ok : ∀ k, k < 12 → parseFieldDescriptor (TX2 k).2.2.1 = some (tyX2 k) := by decide +kernel
abbrev cX2_init : ByteArray := prog_4_method_1_code
def yX2_init : MethodName := ⟨RX2, "<init>", "(LDiceCups$Table;)V"⟩
abbrev cX2_forget : ByteArray := prog_4_method_2_code
def yX2_forget : MethodName := ⟨RX2, "forget", "()V"⟩
abbrev cX2_begin : ByteArray := prog_4_method_3_code
def yX2_begin : MethodName := ⟨RX2, "begin", "(I)V"⟩
abbrev cX2_draw : ByteArray := prog_4_method_4_code
def yX2_draw : MethodName := ⟨RX2, "draw", "(LDiceCups$Cup;)I"⟩
abbrev cX2_handOf : ByteArray := prog_4_method_5_code
def yX2_handOf : MethodName := ⟨RX2, "handOf", "(I)I"⟩
abbrev cX2_goesOn : ByteArray := prog_4_method_6_code
def yX2_goesOn : MethodName := ⟨RX2, "goesOn", "()Z"⟩
abbrev cX2_bid : ByteArray := prog_4_method_7_code
def yX2_bid : MethodName := ⟨RX2, "bid", "(I)V"⟩
abbrev cX2_end : ByteArray := prog_4_method_8_code
def yX2_end : MethodName := ⟨RX2, "end", "()V"⟩
abbrev cX2_fact : ByteArray := prog_4_method_9_code
def yX2_fact : MethodName := ⟨RX2, "fact", "(I)I"⟩
def RX3 : String := "DiceCups$Match"
def TX3 : u_T := fun k => match k with
  | 0 => ("DiceCups$Match", "table", "LDiceCups$Table;", true)
  | 1 => ("DiceCups$Match", "firstShares", "LDiceCups$Shares;", true)
  | 2 => ("DiceCups$Match", "secondShares", "LDiceCups$Shares;", true)
  | _ => ("DiceCups$Match", "behind", "[D", true)
def tyX3 : Nat → FieldType := fun k => match k with
  | 0 => .object "DiceCups$Table"
  | 1 => .object "DiceCups$Shares"
  | 2 => .object "DiceCups$Shares"
  | _ => .array .double
theorem nmX3 : ∀ a, a < 4 → ∀ b, b < 4 → a ≠ b → (TX3 a).2.1 ≠ (TX3 b).2.1 := by decide +kernel
theorem tyX3_ok : ∀ k, k < 4 → parseFieldDescriptor (TX3 k).2.2.1 = some (tyX3 k) := by decide +kernel
abbrev cX3_init : ByteArray := prog_5_method_1_code
def yX3_init : MethodName := ⟨RX3, "<init>", "(LDiceCups$Table;)V"⟩
abbrev cX3_play : ByteArray := prog_5_method_2_code
def yX3_play : MethodName := ⟨RX3, "play", "(LDiceCups$Plans;II)D"⟩
abbrev cX3_expected : ByteArray := prog_5_method_3_code
def yX3_expected : MethodName := ⟨RX3, "expected", "(II)D"⟩
abbrev cX3_expectedAt : ByteArray := prog_5_method_4_code
def yX3_expectedAt : MethodName := ⟨RX3, "expectedAt", "(IIII)D"⟩
def RX4 : String := "DiceCups$Plans"
def TX4 : u_T := fun k => match k with
  | _ => ("DiceCups$Plans", "weights", "[I", true)
def tyX4 : Nat → FieldType := fun k => match k with
  | _ => .array .int
theorem nmX4 : ∀ a, a < 1 → ∀ b, b < 1 → a ≠ b → (TX4 a).2.1 ≠ (TX4 b).2.1 := by decide +kernel
theorem tyX4_ok : ∀ k, k < 1 → parseFieldDescriptor (TX4 k).2.2.1 = some (tyX4 k) := by decide +kernel
abbrev cX4_init : ByteArray := prog_6_method_1_code
def yX4_init : MethodName := ⟨RX4, "<init>", "()V"⟩
abbrev cX4_reset : ByteArray := prog_6_method_2_code
def yX4_reset : MethodName := ⟨RX4, "reset", "()V"⟩
abbrev cX4_spot : ByteArray := prog_6_method_3_code
def yX4_spot : MethodName := ⟨RX4, "spot", "(IIIII)I"⟩
abbrev cX4_change : ByteArray := prog_6_method_4_code
def yX4_change : MethodName := ⟨RX4, "change", "(II)I"⟩
abbrev cX4_weightAt : ByteArray := prog_6_method_5_code
def yX4_weightAt : MethodName := ⟨RX4, "weightAt", "(I)I"⟩
abbrev cX4_mix : ByteArray := prog_6_method_6_code
def yX4_mix : MethodName := ⟨RX4, "mix", "(JILDiceCups$Cup;I)J"⟩
def RX5 : String := "DiceCups$Shares"
def TX5 : u_T := fun k => match k with
  | _ => ("DiceCups$Shares", "shares", "[D", true)
def tyX5 : Nat → FieldType := fun k => match k with
  | _ => .array .double
theorem nmX5 : ∀ a, a < 1 → ∀ b, b < 1 → a ≠ b → (TX5 a).2.1 ≠ (TX5 b).2.1 := by decide +kernel
theorem tyX5_ok : ∀ k, k < 1 → parseFieldDescriptor (TX5 k).2.2.1 = some (tyX5 k) := by decide +kernel
abbrev cX5_init : ByteArray := prog_7_method_1_code
def yX5_init : MethodName := ⟨RX5, "<init>", "()V"⟩
abbrev cX5_take : ByteArray := prog_7_method_2_code
def yX5_take : MethodName := ⟨RX5, "take", "(LDiceCups$Plans;ILDiceCups$Cup;I)V"⟩
abbrev cX5_takeMoves : ByteArray := prog_7_method_3_code
def yX5_takeMoves : MethodName := ⟨RX5, "takeMoves", "(LDiceCups$Plans;IIII)V"⟩
abbrev cX5_spotOf : ByteArray := prog_7_method_4_code
def yX5_spotOf : MethodName := ⟨RX5, "spotOf", "(III)I"⟩
abbrev cX5_of : ByteArray := prog_7_method_5_code
def yX5_of : MethodName := ⟨RX5, "of", "(III)D"⟩
def RX6 : String := "DiceCups$Table"
def TX6 : u_T := fun k => match k with
  | 0 => ("DiceCups$Table", "first", "LDiceCups$Cup;", true)
  | 1 => ("DiceCups$Table", "second", "LDiceCups$Cup;", true)
  | 2 => ("DiceCups$Table", "truths", "[I", true)
  | 3 => ("DiceCups$Table", "faces", "I", false)
  | 4 => ("DiceCups$Table", "bids", "I", false)
  | _ => ("DiceCups$Table", "wild", "Z", false)
def tyX6 : Nat → FieldType := fun k => match k with
  | 0 => .object "DiceCups$Cup"
  | 1 => .object "DiceCups$Cup"
  | 2 => .array .int
  | 3 => .int
  | 4 => .int
  | _ => .boolean
theorem nmX6 : ∀ a, a < 6 → ∀ b, b < 6 → a ≠ b → (TX6 a).2.1 ≠ (TX6 b).2.1 := by decide +kernel
theorem tyX6_ok : ∀ k, k < 6 → parseFieldDescriptor (TX6 k).2.2.1 = some (tyX6 k) := by decide +kernel
abbrev cX6_init : ByteArray := prog_8_method_1_code
def yX6_init : MethodName := ⟨RX6, "<init>", "()V"⟩
abbrev cX6_lay : ByteArray := prog_8_method_2_code
def yX6_lay : MethodName := ⟨RX6, "lay", "(IIIZ)V"⟩
abbrev cX6_judgeBids : ByteArray := prog_8_method_3_code
def yX6_judgeBids : MethodName := ⟨RX6, "judgeBids", "()V"⟩
abbrev cX6_judge : ByteArray := prog_8_method_4_code
def yX6_judge : MethodName := ⟨RX6, "judge", "(III)V"⟩
abbrev cX6_countsFor : ByteArray := prog_8_method_5_code
def yX6_countsFor : MethodName := ⟨RX6, "countsFor", "(LDiceCups$Cup;II)I"⟩
abbrev cX6_spotOf : ByteArray := prog_8_method_6_code
def yX6_spotOf : MethodName := ⟨RX6, "spotOf", "(III)I"⟩
abbrev cX6_cup : ByteArray := prog_8_method_7_code
def yX6_cup : MethodName := ⟨RX6, "cup", "(I)LDiceCups$Cup;"⟩
abbrev cX6_isTrue : ByteArray := prog_8_method_8_code
def yX6_isTrue : MethodName := ⟨RX6, "isTrue", "(III)Z"⟩
abbrev cX6_isTrueFor : ByteArray := prog_8_method_9_code
def yX6_isTrueFor : MethodName := ⟨RX6, "isTrueFor", "(IIII)Z"⟩
abbrev cX6_waysToHold : ByteArray := prog_8_method_10_code
def yX6_waysToHold : MethodName := ⟨RX6, "waysToHold", "(III)I"⟩
abbrev cX6_meanOf : ByteArray := prog_8_method_11_code
def yX6_meanOf : MethodName := ⟨RX6, "meanOf", "(D)D"⟩
def RX7 : String := "DiceCups"
def TX7 : u_T := fun k => match k with
  | 0 => ("DiceCups", "table", "LDiceCups$Table;", true)
  | 1 => ("DiceCups", "plans", "LDiceCups$Plans;", true)
  | 2 => ("DiceCups", "match", "LDiceCups$Match;", true)
  | 3 => ("DiceCups", "answering", "LDiceCups$Answering;", true)
  | _ => ("DiceCups", "game", "LDiceCups$Game;", true)
def tyX7 : Nat → FieldType := fun k => match k with
  | 0 => .object "DiceCups$Table"
  | 1 => .object "DiceCups$Plans"
  | 2 => .object "DiceCups$Match"
  | 3 => .object "DiceCups$Answering"
  | _ => .object "DiceCups$Game"
theorem nmX7 : ∀ a, a < 5 → ∀ b, b < 5 → a ≠ b → (TX7 a).2.1 ≠ (TX7 b).2.1 := by decide +kernel
theorem tyX7_ok : ∀ k, k < 5 → parseFieldDescriptor (TX7 k).2.2.1 = some (tyX7 k) := by decide +kernel
abbrev cX7_init : ByteArray := prog_1_method_1_code
def yX7_init : MethodName := ⟨RX7, "<init>", "()V"⟩
abbrev cX7_cups : ByteArray := prog_1_method_2_code
def yX7_cups : MethodName := ⟨RX7, "cups", "(IIIZ)I"⟩
abbrev cX7_hands : ByteArray := prog_1_method_3_code
def yX7_hands : MethodName := ⟨RX7, "hands", "(I)I"⟩
abbrev cX7_hand : ByteArray := prog_1_method_4_code
def yX7_hand : MethodName := ⟨RX7, "hand", "(III)I"⟩
abbrev cX7_throwsOf : ByteArray := prog_1_method_5_code
def yX7_throwsOf : MethodName := ⟨RX7, "throwsOf", "(II)I"⟩
abbrev cX7_holds : ByteArray := prog_1_method_6_code
def yX7_holds : MethodName := ⟨RX7, "holds", "(III)I"⟩
abbrev cX7_chance : ByteArray := prog_1_method_7_code
def yX7_chance : MethodName := ⟨RX7, "chance", "(IIII)I"⟩
abbrev cX7_surest : ByteArray := prog_1_method_8_code
def yX7_surest : MethodName := ⟨RX7, "surest", "(IIII)I"⟩
abbrev cX7_weigh : ByteArray := prog_1_method_9_code
def yX7_weigh : MethodName := ⟨RX7, "weigh", "(IIIIII)I"⟩
abbrev cX7_worth : ByteArray := prog_1_method_10_code
def yX7_worth : MethodName := ⟨RX7, "worth", "(II)J"⟩
abbrev cX7_answer : ByteArray := prog_1_method_11_code
def yX7_answer : MethodName := ⟨RX7, "answer", "(II)J"⟩
abbrev cX7_opening : ByteArray := prog_1_method_12_code
def yX7_opening : MethodName := ⟨RX7, "opening", "(II)I"⟩
abbrev cX7_reply : ByteArray := prog_1_method_13_code
def yX7_reply : MethodName := ⟨RX7, "reply", "(III)I"⟩
abbrev cX7_round : ByteArray := prog_1_method_14_code
def yX7_round : MethodName := ⟨RX7, "round", "(I)I"⟩
abbrev cX7_held : ByteArray := prog_1_method_15_code
def yX7_held : MethodName := ⟨RX7, "held", "(I)I"⟩
abbrev cX7_move : ByteArray := prog_1_method_16_code
def yX7_move : MethodName := ⟨RX7, "move", "(I)I"⟩
abbrev cX7_about : ByteArray := prog_1_method_17_code
def yX7_about : MethodName := ⟨RX7, "about", "(I)I"⟩
abbrev cX7_count : ByteArray := prog_1_method_18_code
def yX7_count : MethodName := ⟨RX7, "count", "(I)I"⟩
abbrev cX7_digest : ByteArray := prog_1_method_19_code
def yX7_digest : MethodName := ⟨RX7, "digest", "()J"⟩
abbrev cX7_within : ByteArray := prog_1_method_20_code
def yX7_within : MethodName := ⟨RX7, "within", "(III)Z"⟩
abbrev cX7_isPlayer : ByteArray := prog_1_method_21_code
def yX7_isPlayer : MethodName := ⟨RX7, "isPlayer", "(I)Z"⟩
abbrev cX7_isPlan : ByteArray := prog_1_method_22_code
def yX7_isPlan : MethodName := ⟨RX7, "isPlan", "(I)Z"⟩
abbrev cX7_isHand : ByteArray := prog_1_method_23_code
def yX7_isHand : MethodName := ⟨RX7, "isHand", "(II)Z"⟩
abbrev cX7_isBid : ByteArray := prog_1_method_24_code
def yX7_isBid : MethodName := ⟨RX7, "isBid", "(I)Z"⟩
abbrev cX7_isBidOrNone : ByteArray := prog_1_method_25_code
def yX7_isBidOrNone : MethodName := ⟨RX7, "isBidOrNone", "(I)Z"⟩
abbrev cX7_mayFollow : ByteArray := prog_1_method_26_code
def yX7_mayFollow : MethodName := ⟨RX7, "mayFollow", "(II)Z"⟩
abbrev cX7_at : ByteArray := prog_1_method_27_code
def yX7_at : MethodName := ⟨RX7, "at", "([II)I"⟩
abbrev cX7_put : ByteArray := prog_1_method_28_code
def yX7_put : MethodName := ⟨RX7, "put", "([III)V"⟩
abbrev cX7_realAt : ByteArray := prog_1_method_29_code
def yX7_realAt : MethodName := ⟨RX7, "realAt", "([DI)D"⟩
abbrev cX7_putReal : ByteArray := prog_1_method_30_code
def yX7_putReal : MethodName := ⟨RX7, "putReal", "([DID)V"⟩
abbrev cX7_cut : ByteArray := prog_1_method_31_code
def yX7_cut : MethodName := ⟨RX7, "cut", "(II)I"⟩
abbrev cX7_leftOver : ByteArray := prog_1_method_32_code
def yX7_leftOver : MethodName := ⟨RX7, "leftOver", "(II)I"⟩
abbrev cX7_commonDivisor : ByteArray := prog_1_method_33_code
def yX7_commonDivisor : MethodName := ⟨RX7, "commonDivisor", "(II)I"⟩
abbrev cX7_bitsOf : ByteArray := prog_1_method_34_code
def yX7_bitsOf : MethodName := ⟨RX7, "bitsOf", "(D)J"⟩
def RX8 : String := "DiceCupsModel"
def TX8 : u_T := fun k => match k with
  | 0 => ("DiceCupsModel", "d0", "I", false)
  | 1 => ("DiceCupsModel", "d1", "I", false)
  | 2 => ("DiceCupsModel", "faces", "I", false)
  | 3 => ("DiceCupsModel", "isWild", "Z", false)
  | 4 => ("DiceCupsModel", "counts", "[I", true)
  | 5 => ("DiceCupsModel", "hands", "[I", true)
  | 6 => ("DiceCupsModel", "throwsOf", "[I", true)
  | 7 => ("DiceCupsModel", "weights", "[I", true)
  | 8 => ("DiceCupsModel", "wasRound", "Z", false)
  | 9 => ("DiceCupsModel", "held", "[I", true)
  | 10 => ("DiceCupsModel", "mover", "I", false)
  | 11 => ("DiceCupsModel", "last", "I", false)
  | 12 => ("DiceCupsModel", "bids", "I", false)
  | 13 => ("DiceCupsModel", "winner", "I", false)
  | 14 => ("DiceCupsModel", "wonFirst", "I", false)
  | 15 => ("DiceCupsModel", "wonSecond", "I", false)
  | 16 => ("DiceCupsModel", "row", "[I", true)
  | 17 => ("DiceCupsModel", "behind", "[D", true)
  | 18 => ("DiceCupsModel", "left", "[D", true)
  | 19 => ("DiceCupsModel", "lastAt", "[I", true)
  | 20 => ("DiceCupsModel", "moveAt", "[I", true)
  | 21 => ("DiceCupsModel", "valueAt", "[D", true)
  | 22 => ("DiceCupsModel", "bestAt", "[I", true)
  | 23 => ("DiceCupsModel", "hasBest", "[Z", true)
  | 24 => ("DiceCupsModel", "seedNow", "I", false)
  | _ => ("DiceCupsModel", "drawnFaces", "[I", true)
def tyX8 : Nat → FieldType := fun k => match k with
  | 0 => .int
  | 1 => .int
  | 2 => .int
  | 3 => .boolean
  | 4 => .array .int
  | 5 => .array .int
  | 6 => .array .int
  | 7 => .array .int
  | 8 => .boolean
  | 9 => .array .int
  | 10 => .int
  | 11 => .int
  | 12 => .int
  | 13 => .int
  | 14 => .int
  | 15 => .int
  | 16 => .array .int
  | 17 => .array .double
  | 18 => .array .double
  | 19 => .array .int
  | 20 => .array .int
  | 21 => .array .double
  | 22 => .array .int
  | 23 => .array .boolean
  | 24 => .int
  | _ => .array .int
theorem nmX8 : ∀ a, a < 26 → ∀ b, b < 26 → a ≠ b → (TX8 a).2.1 ≠ (TX8 b).2.1 := by decide +kernel
theorem tyX8_ok : ∀ k, k < 26 → parseFieldDescriptor (TX8 k).2.2.1 = some (tyX8 k) := by decide +kernel
abbrev cX8_init : ByteArray := prog_10_method_1_code
def yX8_init : MethodName := ⟨RX8, "<init>", "()V"⟩
abbrev cX8_in : ByteArray := prog_10_method_2_code
def yX8_in : MethodName := ⟨RX8, "in", "(III)Z"⟩
abbrev cX8_dice : ByteArray := prog_10_method_3_code
def yX8_dice : MethodName := ⟨RX8, "dice", "(I)I"⟩
abbrev cX8_most : ByteArray := prog_10_method_4_code
def yX8_most : MethodName := ⟨RX8, "most", "()I"⟩
abbrev cX8_product : ByteArray := prog_10_method_5_code
def yX8_product : MethodName := ⟨RX8, "product", "(I)I"⟩
abbrev cX8_layHands : ByteArray := prog_10_method_6_code
def yX8_layHands : MethodName := ⟨RX8, "layHands", "(I)V"⟩
abbrev cX8_lay : ByteArray := prog_10_method_7_code
def yX8_lay : MethodName := ⟨RX8, "lay", "()V"⟩
abbrev cX8_cups : ByteArray := prog_10_method_8_code
def yX8_cups : MethodName := ⟨RX8, "cups", "(IIIZ)I"⟩
abbrev cX8_isPlayer : ByteArray := prog_10_method_9_code
def yX8_isPlayer : MethodName := ⟨RX8, "isPlayer", "(I)Z"⟩
abbrev cX8_isHand : ByteArray := prog_10_method_10_code
def yX8_isHand : MethodName := ⟨RX8, "isHand", "(II)Z"⟩
abbrev cX8_isBid : ByteArray := prog_10_method_11_code
def yX8_isBid : MethodName := ⟨RX8, "isBid", "(I)Z"⟩
abbrev cX8_hands : ByteArray := prog_10_method_12_code
def yX8_hands : MethodName := ⟨RX8, "hands", "(I)I"⟩
abbrev cX8_hand : ByteArray := prog_10_method_13_code
def yX8_hand : MethodName := ⟨RX8, "hand", "(III)I"⟩
abbrev cX8_throwsOf : ByteArray := prog_10_method_14_code
def yX8_throwsOf : MethodName := ⟨RX8, "throwsOf", "(II)I"⟩
abbrev cX8_countsFor : ByteArray := prog_10_method_15_code
def yX8_countsFor : MethodName := ⟨RX8, "countsFor", "(III)I"⟩
abbrev cX8_doesHold : ByteArray := prog_10_method_16_code
def yX8_doesHold : MethodName := ⟨RX8, "doesHold", "(III)Z"⟩
abbrev cX8_holds : ByteArray := prog_10_method_17_code
def yX8_holds : MethodName := ⟨RX8, "holds", "(III)I"⟩
abbrev cX8_throwsFor : ByteArray := prog_10_method_18_code
def yX8_throwsFor : MethodName := ⟨RX8, "throwsFor", "(III)I"⟩
abbrev cX8_power : ByteArray := prog_10_method_19_code
def yX8_power : MethodName := ⟨RX8, "power", "(I)I"⟩
abbrev cX8_chance : ByteArray := prog_10_method_20_code
def yX8_chance : MethodName := ⟨RX8, "chance", "(IIII)I"⟩
abbrev cX8_surest : ByteArray := prog_10_method_21_code
def yX8_surest : MethodName := ⟨RX8, "surest", "(IIII)I"⟩
abbrev cX8_isPlan : ByteArray := prog_10_method_22_code
def yX8_isPlan : MethodName := ⟨RX8, "isPlan", "(I)Z"⟩
abbrev cX8_mayMove : ByteArray := prog_10_method_23_code
def yX8_mayMove : MethodName := ⟨RX8, "mayMove", "(II)Z"⟩
abbrev cX8_at : ByteArray := prog_10_method_24_code
def yX8_at : MethodName := ⟨RX8, "at", "(IIIII)I"⟩
abbrev cX8_weigh : ByteArray := prog_10_method_25_code
def yX8_weigh : MethodName := ⟨RX8, "weigh", "(IIIIII)I"⟩
abbrev cX8_total : ByteArray := prog_10_method_26_code
def yX8_total : MethodName := ⟨RX8, "total", "(IIII)I"⟩
abbrev cX8_part : ByteArray := prog_10_method_27_code
def yX8_part : MethodName := ⟨RX8, "part", "(IIIII)D"⟩
abbrev cX8_wins : ByteArray := prog_10_method_28_code
def yX8_wins : MethodName := ⟨RX8, "wins", "(IIIII)Z"⟩
abbrev cX8_worthOf : ByteArray := prog_10_method_29_code
def yX8_worthOf : MethodName := ⟨RX8, "worthOf", "(IIII)D"⟩
abbrev cX8_worth : ByteArray := prog_10_method_30_code
def yX8_worth : MethodName := ⟨RX8, "worth", "(II)J"⟩
abbrev cX8_enter : ByteArray := prog_10_method_31_code
def yX8_enter : MethodName := ⟨RX8, "enter", "(II)V"⟩
abbrev cX8_offer : ByteArray := prog_10_method_32_code
def yX8_offer : MethodName := ⟨RX8, "offer", "(ID)V"⟩
abbrev cX8_leads : ByteArray := prog_10_method_33_code
def yX8_leads : MethodName := ⟨RX8, "leads", "(IIII)Z"⟩
abbrev cX8_winsBy : ByteArray := prog_10_method_34_code
def yX8_winsBy : MethodName := ⟨RX8, "winsBy", "(IIIII)Z"⟩
abbrev cX8_call : ByteArray := prog_10_method_35_code
def yX8_call : MethodName := ⟨RX8, "call", "(IIII)V"⟩
abbrev cX8_answerOf : ByteArray := prog_10_method_36_code
def yX8_answerOf : MethodName := ⟨RX8, "answerOf", "(IIII)D"⟩
abbrev cX8_begin : ByteArray := prog_10_method_37_code
def yX8_begin : MethodName := ⟨RX8, "begin", "(I)V"⟩
abbrev cX8_answer : ByteArray := prog_10_method_38_code
def yX8_answer : MethodName := ⟨RX8, "answer", "(II)J"⟩
abbrev cX8_opening : ByteArray := prog_10_method_39_code
def yX8_opening : MethodName := ⟨RX8, "opening", "(II)I"⟩
abbrev cX8_reply : ByteArray := prog_10_method_40_code
def yX8_reply : MethodName := ⟨RX8, "reply", "(III)I"⟩
abbrev cX8_drawn : ByteArray := prog_10_method_41_code
def yX8_drawn : MethodName := ⟨RX8, "drawn", "(I)I"⟩
abbrev cX8_round : ByteArray := prog_10_method_42_code
def yX8_round : MethodName := ⟨RX8, "round", "(I)I"⟩
abbrev cX8_held : ByteArray := prog_10_method_43_code
def yX8_held : MethodName := ⟨RX8, "held", "(I)I"⟩
abbrev cX8_move : ByteArray := prog_10_method_44_code
def yX8_move : MethodName := ⟨RX8, "move", "(I)I"⟩
abbrev cX8_about : ByteArray := prog_10_method_45_code
def yX8_about : MethodName := ⟨RX8, "about", "(I)I"⟩
abbrev cX8_count : ByteArray := prog_10_method_46_code
def yX8_count : MethodName := ⟨RX8, "count", "(I)I"⟩
abbrev cX8_digest : ByteArray := prog_10_method_47_code
def yX8_digest : MethodName := ⟨RX8, "digest", "()J"⟩
def RJx145de : String := "java/io/Serializable"
def TJx145de : u_T := fun k => match k with
  | _ => ("", "", "", false)
def tyJx145de : Nat → FieldType := fun k => match k with
  | _ => .int
theorem nmJx145de : ∀ a, a < 0 → ∀ b, b < 0 → a ≠ b → (TJx145de a).2.1 ≠ (TJx145de b).2.1 := by decide +kernel
theorem tyJx145de_ok : ∀ k, k < 0 → parseFieldDescriptor (TJx145de k).2.2.1 = some (tyJx145de k) := by decide +kernel
def RJxb160c : String := "java/lang/Comparable"
def TJxb160c : u_T := fun k => match k with
  | _ => ("", "", "", false)
def tyJxb160c : Nat → FieldType := fun k => match k with
  | _ => .int
theorem nmJxb160c : ∀ a, a < 0 → ∀ b, b < 0 → a ≠ b → (TJxb160c a).2.1 ≠ (TJxb160c b).2.1 := by decide +kernel
theorem tyJxb160c_ok : ∀ k, k < 0 → parseFieldDescriptor (TJxb160c k).2.2.1 = some (tyJxb160c k) := by decide +kernel
def RJxe99ae : String := "java/lang/Double"
def TJxe99ae : u_T := fun k => match k with
  | _ => ("", "", "", false)
def tyJxe99ae : Nat → FieldType := fun k => match k with
  | _ => .int
theorem nmJxe99ae : ∀ a, a < 0 → ∀ b, b < 0 → a ≠ b → (TJxe99ae a).2.1 ≠ (TJxe99ae b).2.1 := by decide +kernel
theorem tyJxe99ae_ok : ∀ k, k < 0 → parseFieldDescriptor (TJxe99ae k).2.2.1 = some (tyJxe99ae k) := by decide +kernel
abbrev cJxe99ae_isNaN_b9ae7 : ByteArray := prog_11_method_6_code
def yJxe99ae_isNaN_b9ae7 : MethodName := ⟨RJxe99ae, "isNaN", "(D)Z"⟩
abbrev cJxe99ae_doubleToLongBits_ccdee : ByteArray := prog_11_method_23_code
def yJxe99ae_doubleToLongBits_ccdee : MethodName := ⟨RJxe99ae, "doubleToLongBits", "(D)J"⟩
def RJxd2413 : String := "java/lang/Number"
def TJxd2413 : u_T := fun k => match k with
  | _ => ("", "", "", false)
def tyJxd2413 : Nat → FieldType := fun k => match k with
  | _ => .int
theorem nmJxd2413 : ∀ a, a < 0 → ∀ b, b < 0 → a ≠ b → (TJxd2413 a).2.1 ≠ (TJxd2413 b).2.1 := by decide +kernel
theorem tyJxd2413_ok : ∀ k, k < 0 → parseFieldDescriptor (TJxd2413 k).2.2.1 = some (tyJxd2413 k) := by decide +kernel
def RJxfd54e : String := "java/lang/constant/Constable"
def TJxfd54e : u_T := fun k => match k with
  | _ => ("", "", "", false)
def tyJxfd54e : Nat → FieldType := fun k => match k with
  | _ => .int
theorem nmJxfd54e : ∀ a, a < 0 → ∀ b, b < 0 → a ≠ b → (TJxfd54e a).2.1 ≠ (TJxfd54e b).2.1 := by decide +kernel
theorem tyJxfd54e_ok : ∀ k, k < 0 → parseFieldDescriptor (TJxfd54e k).2.2.1 = some (tyJxfd54e k) := by decide +kernel
def RJx3cf43 : String := "java/lang/constant/ConstantDesc"
def TJx3cf43 : u_T := fun k => match k with
  | _ => ("", "", "", false)
def tyJx3cf43 : Nat → FieldType := fun k => match k with
  | _ => .int
theorem nmJx3cf43 : ∀ a, a < 0 → ∀ b, b < 0 → a ≠ b → (TJx3cf43 a).2.1 ≠ (TJx3cf43 b).2.1 := by decide +kernel
theorem tyJx3cf43_ok : ∀ k, k < 0 → parseFieldDescriptor (TJx3cf43 k).2.2.1 = some (tyJx3cf43 k) := by decide +kernel
def RJ7 : String := "java/util/Arrays"
def TJ7 : u_T := fun k => match k with
  | _ => ("", "", "", false)
def tyJ7 : Nat → FieldType := fun k => match k with
  | _ => .int
theorem nmJ7 : ∀ a, a < 0 → ∀ b, b < 0 → a ≠ b → (TJ7 a).2.1 ≠ (TJ7 b).2.1 := by decide +kernel
theorem tyJ7_ok : ∀ k, k < 0 → parseFieldDescriptor (TJ7 k).2.2.1 = some (tyJ7 k) := by decide +kernel
abbrev cJ7_fill_53178 : ByteArray := prog_13_method_103_code
def yJ7_fill_53178 : MethodName := ⟨RJ7, "fill", "([II)V"⟩
abbrev cJ7_fill_7f8df : ByteArray := prog_13_method_113_code
def yJ7_fill_7f8df : MethodName := ⟨RJ7, "fill", "([DD)V"⟩
def RL : String := "DiceCupsLaw"
abbrev cL_law : ByteArray := code
def yL_law : MethodName := ⟨RL, "law", "([I)Z"⟩
abbrev vwCl : List vw_C := [(RX0, TX0, 6), (RX1, TX1, 6), (RX2, TX2, 12), (RX3, TX3, 4), (RX4, TX4, 1), (RX5, TX5, 1), (RX6, TX6, 6), (RX7, TX7, 5), (RX8, TX8, 26)]
def gz_dec (b : ByteArray) (t : List (Nat × Instr × Nat)) : Bool := t.all (fun q => decide (decode b q.1 = .ok (q.2.1, q.2.2)))
theorem gz_d {b : ByteArray} {t : List (Nat × Instr × Nat)} (h : gz_dec b t = true) (i : Nat) {pc n : Nat} {ins : Instr} (hi : t[i]? = some (pc, ins, n)) : decode b pc = .ok (ins, n) := by
  have h1 := List.all_eq_true.mp h (pc, ins, n) (List.mem_of_getElem? hi)
  exact of_decide_eq_true (p := decode b pc = .ok (ins, n)) h1
end
section
def tdX0_init_t0 : List (Nat × Instr × Nat) := [(0, .aload_n 0, 1), (1, .invokespecial 3, 3), (4, .aload_n 0, 1), (5, .new 9, 3), (8, .dup, 1), (9, .invokespecial 11, 3), (12, .putfield 12, 3), (15, .aload_n 0, 1), (16, .bipush 40, 2), (18, .newarray .double, 2), (20, .putfield 18, 3), (23, .aload_n 0, 1), (24, .aload_n 1, 1), (25, .putfield 22, 3), (28, .return_, 1)]
theorem tdX0_init_t0_ok : gz_dec cX0_init tdX0_init_t0 = true := by decide +kernel
theorem dX0_init_0 : decode cX0_init 0 = .ok (.aload_n 0, 1) := gz_d tdX0_init_t0_ok 0 rfl
theorem dX0_init_1 : decode cX0_init 1 = .ok (.invokespecial 3, 3) := gz_d tdX0_init_t0_ok 1 rfl
theorem dX0_init_4 : decode cX0_init 4 = .ok (.aload_n 0, 1) := gz_d tdX0_init_t0_ok 2 rfl
theorem dX0_init_5 : decode cX0_init 5 = .ok (.new 9, 3) := gz_d tdX0_init_t0_ok 3 rfl
theorem dX0_init_8 : decode cX0_init 8 = .ok (.dup, 1) := gz_d tdX0_init_t0_ok 4 rfl
theorem dX0_init_9 : decode cX0_init 9 = .ok (.invokespecial 11, 3) := gz_d tdX0_init_t0_ok 5 rfl
theorem dX0_init_12 : decode cX0_init 12 = .ok (.putfield 12, 3) := gz_d tdX0_init_t0_ok 6 rfl
theorem dX0_init_15 : decode cX0_init 15 = .ok (.aload_n 0, 1) := gz_d tdX0_init_t0_ok 7 rfl
theorem dX0_init_16 : decode cX0_init 16 = .ok (.bipush 40, 2) := gz_d tdX0_init_t0_ok 8 rfl
theorem dX0_init_18 : decode cX0_init 18 = .ok (.newarray .double, 2) := gz_d tdX0_init_t0_ok 9 rfl
theorem dX0_init_20 : decode cX0_init 20 = .ok (.putfield 18, 3) := gz_d tdX0_init_t0_ok 10 rfl
theorem dX0_init_23 : decode cX0_init 23 = .ok (.aload_n 0, 1) := gz_d tdX0_init_t0_ok 11 rfl
theorem dX0_init_24 : decode cX0_init 24 = .ok (.aload_n 1, 1) := gz_d tdX0_init_t0_ok 12 rfl
theorem dX0_init_25 : decode cX0_init 25 = .ok (.putfield 22, 3) := gz_d tdX0_init_t0_ok 13 rfl
theorem dX0_init_28 : decode cX0_init 28 = .ok (.return_, 1) := gz_d tdX0_init_t0_ok 14 rfl
def tdX0_study_t0 : List (Nat × Instr × Nat) := [(0, .aload_n 0, 1), (1, .iload_n 3, 1), (2, .putfield 26, 3), (5, .aload_n 0, 1), (6, .getfield 12, 3), (9, .aload_n 1, 1), (10, .iload_n 2, 1), (11, .aload_n 0, 1), (12, .invokevirtual 30, 3), (15, .aload_n 0, 1), (16, .getfield 22, 3), (19, .getfield 34, 3), (22, .invokevirtual 39, 3), (25, .return_, 1)]
theorem tdX0_study_t0_ok : gz_dec cX0_study tdX0_study_t0 = true := by decide +kernel
theorem dX0_study_0 : decode cX0_study 0 = .ok (.aload_n 0, 1) := gz_d tdX0_study_t0_ok 0 rfl
theorem dX0_study_1 : decode cX0_study 1 = .ok (.iload_n 3, 1) := gz_d tdX0_study_t0_ok 1 rfl
theorem dX0_study_2 : decode cX0_study 2 = .ok (.putfield 26, 3) := gz_d tdX0_study_t0_ok 2 rfl
theorem dX0_study_5 : decode cX0_study 5 = .ok (.aload_n 0, 1) := gz_d tdX0_study_t0_ok 3 rfl
theorem dX0_study_6 : decode cX0_study 6 = .ok (.getfield 12, 3) := gz_d tdX0_study_t0_ok 4 rfl
theorem dX0_study_9 : decode cX0_study 9 = .ok (.aload_n 1, 1) := gz_d tdX0_study_t0_ok 5 rfl
theorem dX0_study_10 : decode cX0_study 10 = .ok (.iload_n 2, 1) := gz_d tdX0_study_t0_ok 6 rfl
theorem dX0_study_11 : decode cX0_study 11 = .ok (.aload_n 0, 1) := gz_d tdX0_study_t0_ok 7 rfl
theorem dX0_study_12 : decode cX0_study 12 = .ok (.invokevirtual 30, 3) := gz_d tdX0_study_t0_ok 8 rfl
theorem dX0_study_15 : decode cX0_study 15 = .ok (.aload_n 0, 1) := gz_d tdX0_study_t0_ok 9 rfl
theorem dX0_study_16 : decode cX0_study 16 = .ok (.getfield 22, 3) := gz_d tdX0_study_t0_ok 10 rfl
theorem dX0_study_19 : decode cX0_study 19 = .ok (.getfield 34, 3) := gz_d tdX0_study_t0_ok 11 rfl
theorem dX0_study_22 : decode cX0_study 22 = .ok (.invokevirtual 39, 3) := gz_d tdX0_study_t0_ok 12 rfl
theorem dX0_study_25 : decode cX0_study 25 = .ok (.return_, 1) := gz_d tdX0_study_t0_ok 13 rfl
def tdX0_winnings_t0 : List (Nat × Instr × Nat) := [(0, .aload_n 0, 1), (1, .getfield 22, 3), (4, .aload_n 0, 1), (5, .getfield 26, 3), (8, .invokevirtual 43, 3), (11, .astore_n 1, 1), (12, .dconst 0, 1), (13, .dstore_n 2, 1), (14, .iconst 0, 1), (15, .istore 4, 2), (17, .iload 4, 2), (19, .aload_n 1, 1), (20, .getfield 47, 3), (23, .if_icmp .ge 34, 3), (26, .aload_n 0, 1), (27, .iload 4, 2), (29, .invokevirtual 52, 3), (32, .dload_n 2, 1), (33, .aload_n 1, 1), (34, .iload 4, 2), (36, .invokevirtual 56, 3), (39, .i2d, 1), (40, .aload_n 0, 1), (41, .iconst (-1), 1), (42, .iconst 0, 1), (43, .iconst 0, 1), (44, .iconst 0, 1), (45, .invokevirtual 60, 3), (48, .dmul, 1), (49, .dadd, 1), (50, .dstore_n 2, 1), (51, .iinc 4 1, 3), (54, .goto (-37), 3), (57, .aload_n 0, 1), (58, .getfield 22, 3), (61, .dload_n 2, 1), (62, .invokevirtual 64, 3), (65, .dreturn, 1)]
theorem tdX0_winnings_t0_ok : gz_dec cX0_winnings tdX0_winnings_t0 = true := by decide +kernel
theorem dX0_winnings_0 : decode cX0_winnings 0 = .ok (.aload_n 0, 1) := gz_d tdX0_winnings_t0_ok 0 rfl
theorem dX0_winnings_1 : decode cX0_winnings 1 = .ok (.getfield 22, 3) := gz_d tdX0_winnings_t0_ok 1 rfl
theorem dX0_winnings_4 : decode cX0_winnings 4 = .ok (.aload_n 0, 1) := gz_d tdX0_winnings_t0_ok 2 rfl
theorem dX0_winnings_5 : decode cX0_winnings 5 = .ok (.getfield 26, 3) := gz_d tdX0_winnings_t0_ok 3 rfl
theorem dX0_winnings_8 : decode cX0_winnings 8 = .ok (.invokevirtual 43, 3) := gz_d tdX0_winnings_t0_ok 4 rfl
theorem dX0_winnings_11 : decode cX0_winnings 11 = .ok (.astore_n 1, 1) := gz_d tdX0_winnings_t0_ok 5 rfl
theorem dX0_winnings_12 : decode cX0_winnings 12 = .ok (.dconst 0, 1) := gz_d tdX0_winnings_t0_ok 6 rfl
theorem dX0_winnings_13 : decode cX0_winnings 13 = .ok (.dstore_n 2, 1) := gz_d tdX0_winnings_t0_ok 7 rfl
theorem dX0_winnings_14 : decode cX0_winnings 14 = .ok (.iconst 0, 1) := gz_d tdX0_winnings_t0_ok 8 rfl
theorem dX0_winnings_15 : decode cX0_winnings 15 = .ok (.istore 4, 2) := gz_d tdX0_winnings_t0_ok 9 rfl
theorem dX0_winnings_17 : decode cX0_winnings 17 = .ok (.iload 4, 2) := gz_d tdX0_winnings_t0_ok 10 rfl
theorem dX0_winnings_19 : decode cX0_winnings 19 = .ok (.aload_n 1, 1) := gz_d tdX0_winnings_t0_ok 11 rfl
theorem dX0_winnings_20 : decode cX0_winnings 20 = .ok (.getfield 47, 3) := gz_d tdX0_winnings_t0_ok 12 rfl
theorem dX0_winnings_23 : decode cX0_winnings 23 = .ok (.if_icmp .ge 34, 3) := gz_d tdX0_winnings_t0_ok 13 rfl
theorem dX0_winnings_26 : decode cX0_winnings 26 = .ok (.aload_n 0, 1) := gz_d tdX0_winnings_t0_ok 14 rfl
theorem dX0_winnings_27 : decode cX0_winnings 27 = .ok (.iload 4, 2) := gz_d tdX0_winnings_t0_ok 15 rfl
theorem dX0_winnings_29 : decode cX0_winnings 29 = .ok (.invokevirtual 52, 3) := gz_d tdX0_winnings_t0_ok 16 rfl
theorem dX0_winnings_32 : decode cX0_winnings 32 = .ok (.dload_n 2, 1) := gz_d tdX0_winnings_t0_ok 17 rfl
theorem dX0_winnings_33 : decode cX0_winnings 33 = .ok (.aload_n 1, 1) := gz_d tdX0_winnings_t0_ok 18 rfl
theorem dX0_winnings_34 : decode cX0_winnings 34 = .ok (.iload 4, 2) := gz_d tdX0_winnings_t0_ok 19 rfl
theorem dX0_winnings_36 : decode cX0_winnings 36 = .ok (.invokevirtual 56, 3) := gz_d tdX0_winnings_t0_ok 20 rfl
theorem dX0_winnings_39 : decode cX0_winnings 39 = .ok (.i2d, 1) := gz_d tdX0_winnings_t0_ok 21 rfl
theorem dX0_winnings_40 : decode cX0_winnings 40 = .ok (.aload_n 0, 1) := gz_d tdX0_winnings_t0_ok 22 rfl
theorem dX0_winnings_41 : decode cX0_winnings 41 = .ok (.iconst (-1), 1) := gz_d tdX0_winnings_t0_ok 23 rfl
theorem dX0_winnings_42 : decode cX0_winnings 42 = .ok (.iconst 0, 1) := gz_d tdX0_winnings_t0_ok 24 rfl
theorem dX0_winnings_43 : decode cX0_winnings 43 = .ok (.iconst 0, 1) := gz_d tdX0_winnings_t0_ok 25 rfl
theorem dX0_winnings_44 : decode cX0_winnings 44 = .ok (.iconst 0, 1) := gz_d tdX0_winnings_t0_ok 26 rfl
theorem dX0_winnings_45 : decode cX0_winnings 45 = .ok (.invokevirtual 60, 3) := gz_d tdX0_winnings_t0_ok 27 rfl
theorem dX0_winnings_48 : decode cX0_winnings 48 = .ok (.dmul, 1) := gz_d tdX0_winnings_t0_ok 28 rfl
theorem dX0_winnings_49 : decode cX0_winnings 49 = .ok (.dadd, 1) := gz_d tdX0_winnings_t0_ok 29 rfl
theorem dX0_winnings_50 : decode cX0_winnings 50 = .ok (.dstore_n 2, 1) := gz_d tdX0_winnings_t0_ok 30 rfl
theorem dX0_winnings_51 : decode cX0_winnings 51 = .ok (.iinc 4 1, 3) := gz_d tdX0_winnings_t0_ok 31 rfl
theorem dX0_winnings_54 : decode cX0_winnings 54 = .ok (.goto (-37), 3) := gz_d tdX0_winnings_t0_ok 32 rfl
theorem dX0_winnings_57 : decode cX0_winnings 57 = .ok (.aload_n 0, 1) := gz_d tdX0_winnings_t0_ok 33 rfl
theorem dX0_winnings_58 : decode cX0_winnings 58 = .ok (.getfield 22, 3) := gz_d tdX0_winnings_t0_ok 34 rfl
theorem dX0_winnings_61 : decode cX0_winnings 61 = .ok (.dload_n 2, 1) := gz_d tdX0_winnings_t0_ok 35 rfl
theorem dX0_winnings_62 : decode cX0_winnings 62 = .ok (.invokevirtual 64, 3) := gz_d tdX0_winnings_t0_ok 36 rfl
theorem dX0_winnings_65 : decode cX0_winnings 65 = .ok (.dreturn, 1) := gz_d tdX0_winnings_t0_ok 37 rfl
def tdX0_firstMove_t0 : List (Nat × Instr × Nat) := [(0, .aload_n 0, 1), (1, .iload_n 1, 1), (2, .invokevirtual 52, 3), (5, .aload_n 0, 1), (6, .iconst (-1), 1), (7, .iconst 0, 1), (8, .iconst 0, 1), (9, .iconst 0, 1), (10, .invokevirtual 60, 3), (13, .pop2, 1), (14, .aload_n 0, 1), (15, .getfield 68, 3), (18, .ireturn, 1)]
theorem tdX0_firstMove_t0_ok : gz_dec cX0_firstMove tdX0_firstMove_t0 = true := by decide +kernel
theorem dX0_firstMove_0 : decode cX0_firstMove 0 = .ok (.aload_n 0, 1) := gz_d tdX0_firstMove_t0_ok 0 rfl
theorem dX0_firstMove_1 : decode cX0_firstMove 1 = .ok (.iload_n 1, 1) := gz_d tdX0_firstMove_t0_ok 1 rfl
theorem dX0_firstMove_2 : decode cX0_firstMove 2 = .ok (.invokevirtual 52, 3) := gz_d tdX0_firstMove_t0_ok 2 rfl
theorem dX0_firstMove_5 : decode cX0_firstMove 5 = .ok (.aload_n 0, 1) := gz_d tdX0_firstMove_t0_ok 3 rfl
theorem dX0_firstMove_6 : decode cX0_firstMove 6 = .ok (.iconst (-1), 1) := gz_d tdX0_firstMove_t0_ok 4 rfl
theorem dX0_firstMove_7 : decode cX0_firstMove 7 = .ok (.iconst 0, 1) := gz_d tdX0_firstMove_t0_ok 5 rfl
theorem dX0_firstMove_8 : decode cX0_firstMove 8 = .ok (.iconst 0, 1) := gz_d tdX0_firstMove_t0_ok 6 rfl
theorem dX0_firstMove_9 : decode cX0_firstMove 9 = .ok (.iconst 0, 1) := gz_d tdX0_firstMove_t0_ok 7 rfl
theorem dX0_firstMove_10 : decode cX0_firstMove 10 = .ok (.invokevirtual 60, 3) := gz_d tdX0_firstMove_t0_ok 8 rfl
theorem dX0_firstMove_13 : decode cX0_firstMove 13 = .ok (.pop2, 1) := gz_d tdX0_firstMove_t0_ok 9 rfl
theorem dX0_firstMove_14 : decode cX0_firstMove 14 = .ok (.aload_n 0, 1) := gz_d tdX0_firstMove_t0_ok 10 rfl
theorem dX0_firstMove_15 : decode cX0_firstMove 15 = .ok (.getfield 68, 3) := gz_d tdX0_firstMove_t0_ok 11 rfl
theorem dX0_firstMove_18 : decode cX0_firstMove 18 = .ok (.ireturn, 1) := gz_d tdX0_firstMove_t0_ok 12 rfl
def tdX0_moveBehind_t0 : List (Nat × Instr × Nat) := [(0, .aload_n 0, 1), (1, .iload_n 1, 1), (2, .invokevirtual 52, 3), (5, .aload_n 0, 1), (6, .iconst (-1), 1), (7, .iload_n 2, 1), (8, .iconst 0, 1), (9, .invokevirtual 71, 3), (12, .ifCond .ne 5, 3), (15, .iconst (-1), 1), (16, .ireturn, 1), (17, .aload_n 0, 1), (18, .iload_n 2, 1), (19, .iconst 1, 1), (20, .iconst 1, 1), (21, .iconst 1, 1), (22, .invokevirtual 60, 3), (25, .pop2, 1), (26, .aload_n 0, 1), (27, .getfield 68, 3), (30, .ireturn, 1)]
theorem tdX0_moveBehind_t0_ok : gz_dec cX0_moveBehind tdX0_moveBehind_t0 = true := by decide +kernel
theorem dX0_moveBehind_0 : decode cX0_moveBehind 0 = .ok (.aload_n 0, 1) := gz_d tdX0_moveBehind_t0_ok 0 rfl
theorem dX0_moveBehind_1 : decode cX0_moveBehind 1 = .ok (.iload_n 1, 1) := gz_d tdX0_moveBehind_t0_ok 1 rfl
theorem dX0_moveBehind_2 : decode cX0_moveBehind 2 = .ok (.invokevirtual 52, 3) := gz_d tdX0_moveBehind_t0_ok 2 rfl
theorem dX0_moveBehind_5 : decode cX0_moveBehind 5 = .ok (.aload_n 0, 1) := gz_d tdX0_moveBehind_t0_ok 3 rfl
theorem dX0_moveBehind_6 : decode cX0_moveBehind 6 = .ok (.iconst (-1), 1) := gz_d tdX0_moveBehind_t0_ok 4 rfl
theorem dX0_moveBehind_7 : decode cX0_moveBehind 7 = .ok (.iload_n 2, 1) := gz_d tdX0_moveBehind_t0_ok 5 rfl
theorem dX0_moveBehind_8 : decode cX0_moveBehind 8 = .ok (.iconst 0, 1) := gz_d tdX0_moveBehind_t0_ok 6 rfl
theorem dX0_moveBehind_9 : decode cX0_moveBehind 9 = .ok (.invokevirtual 71, 3) := gz_d tdX0_moveBehind_t0_ok 7 rfl
theorem dX0_moveBehind_12 : decode cX0_moveBehind 12 = .ok (.ifCond .ne 5, 3) := gz_d tdX0_moveBehind_t0_ok 8 rfl
theorem dX0_moveBehind_15 : decode cX0_moveBehind 15 = .ok (.iconst (-1), 1) := gz_d tdX0_moveBehind_t0_ok 9 rfl
theorem dX0_moveBehind_16 : decode cX0_moveBehind 16 = .ok (.ireturn, 1) := gz_d tdX0_moveBehind_t0_ok 10 rfl
theorem dX0_moveBehind_17 : decode cX0_moveBehind 17 = .ok (.aload_n 0, 1) := gz_d tdX0_moveBehind_t0_ok 11 rfl
theorem dX0_moveBehind_18 : decode cX0_moveBehind 18 = .ok (.iload_n 2, 1) := gz_d tdX0_moveBehind_t0_ok 12 rfl
theorem dX0_moveBehind_19 : decode cX0_moveBehind 19 = .ok (.iconst 1, 1) := gz_d tdX0_moveBehind_t0_ok 13 rfl
theorem dX0_moveBehind_20 : decode cX0_moveBehind 20 = .ok (.iconst 1, 1) := gz_d tdX0_moveBehind_t0_ok 14 rfl
theorem dX0_moveBehind_21 : decode cX0_moveBehind 21 = .ok (.iconst 1, 1) := gz_d tdX0_moveBehind_t0_ok 15 rfl
theorem dX0_moveBehind_22 : decode cX0_moveBehind 22 = .ok (.invokevirtual 60, 3) := gz_d tdX0_moveBehind_t0_ok 16 rfl
theorem dX0_moveBehind_25 : decode cX0_moveBehind 25 = .ok (.pop2, 1) := gz_d tdX0_moveBehind_t0_ok 17 rfl
theorem dX0_moveBehind_26 : decode cX0_moveBehind 26 = .ok (.aload_n 0, 1) := gz_d tdX0_moveBehind_t0_ok 18 rfl
theorem dX0_moveBehind_27 : decode cX0_moveBehind 27 = .ok (.getfield 68, 3) := gz_d tdX0_moveBehind_t0_ok 19 rfl
theorem dX0_moveBehind_30 : decode cX0_moveBehind 30 = .ok (.ireturn, 1) := gz_d tdX0_moveBehind_t0_ok 20 rfl
def tdX0_other_t0 : List (Nat × Instr × Nat) := [(0, .aload_n 0, 1), (1, .getfield 22, 3), (4, .iconst 1, 1), (5, .aload_n 0, 1), (6, .getfield 26, 3), (9, .isub, 1), (10, .invokevirtual 43, 3), (13, .areturn, 1)]
theorem tdX0_other_t0_ok : gz_dec cX0_other tdX0_other_t0 = true := by decide +kernel
theorem dX0_other_0 : decode cX0_other 0 = .ok (.aload_n 0, 1) := gz_d tdX0_other_t0_ok 0 rfl
theorem dX0_other_1 : decode cX0_other 1 = .ok (.getfield 22, 3) := gz_d tdX0_other_t0_ok 1 rfl
theorem dX0_other_4 : decode cX0_other 4 = .ok (.iconst 1, 1) := gz_d tdX0_other_t0_ok 2 rfl
theorem dX0_other_5 : decode cX0_other 5 = .ok (.aload_n 0, 1) := gz_d tdX0_other_t0_ok 3 rfl
theorem dX0_other_6 : decode cX0_other 6 = .ok (.getfield 26, 3) := gz_d tdX0_other_t0_ok 4 rfl
theorem dX0_other_9 : decode cX0_other 9 = .ok (.isub, 1) := gz_d tdX0_other_t0_ok 5 rfl
theorem dX0_other_10 : decode cX0_other 10 = .ok (.invokevirtual 43, 3) := gz_d tdX0_other_t0_ok 6 rfl
theorem dX0_other_13 : decode cX0_other 13 = .ok (.areturn, 1) := gz_d tdX0_other_t0_ok 7 rfl
def tdX0_hold_t0 : List (Nat × Instr × Nat) := [(0, .aload_n 0, 1), (1, .iload_n 1, 1), (2, .putfield 75, 3), (5, .aload_n 0, 1), (6, .iconst (-1), 1), (7, .putfield 68, 3), (10, .aload_n 0, 1), (11, .invokevirtual 30, 3), (14, .astore_n 2, 1), (15, .iconst 0, 1), (16, .istore_n 3, 1), (17, .iload_n 3, 1), (18, .aload_n 2, 1), (19, .getfield 47, 3), (22, .if_icmp .ge 23, 3), (25, .aload_n 0, 1), (26, .getfield 18, 3), (29, .iload_n 3, 1), (30, .aload_n 2, 1), (31, .iload_n 3, 1), (32, .invokevirtual 56, 3), (35, .i2d, 1), (36, .invokestatic 78, 3), (39, .iinc 3 1, 3), (42, .goto (-25), 3), (45, .return_, 1)]
theorem tdX0_hold_t0_ok : gz_dec cX0_hold tdX0_hold_t0 = true := by decide +kernel
theorem dX0_hold_0 : decode cX0_hold 0 = .ok (.aload_n 0, 1) := gz_d tdX0_hold_t0_ok 0 rfl
theorem dX0_hold_1 : decode cX0_hold 1 = .ok (.iload_n 1, 1) := gz_d tdX0_hold_t0_ok 1 rfl
theorem dX0_hold_2 : decode cX0_hold 2 = .ok (.putfield 75, 3) := gz_d tdX0_hold_t0_ok 2 rfl
theorem dX0_hold_5 : decode cX0_hold 5 = .ok (.aload_n 0, 1) := gz_d tdX0_hold_t0_ok 3 rfl
theorem dX0_hold_6 : decode cX0_hold 6 = .ok (.iconst (-1), 1) := gz_d tdX0_hold_t0_ok 4 rfl
theorem dX0_hold_7 : decode cX0_hold 7 = .ok (.putfield 68, 3) := gz_d tdX0_hold_t0_ok 5 rfl
theorem dX0_hold_10 : decode cX0_hold 10 = .ok (.aload_n 0, 1) := gz_d tdX0_hold_t0_ok 6 rfl
theorem dX0_hold_11 : decode cX0_hold 11 = .ok (.invokevirtual 30, 3) := gz_d tdX0_hold_t0_ok 7 rfl
theorem dX0_hold_14 : decode cX0_hold 14 = .ok (.astore_n 2, 1) := gz_d tdX0_hold_t0_ok 8 rfl
theorem dX0_hold_15 : decode cX0_hold 15 = .ok (.iconst 0, 1) := gz_d tdX0_hold_t0_ok 9 rfl
theorem dX0_hold_16 : decode cX0_hold 16 = .ok (.istore_n 3, 1) := gz_d tdX0_hold_t0_ok 10 rfl
theorem dX0_hold_17 : decode cX0_hold 17 = .ok (.iload_n 3, 1) := gz_d tdX0_hold_t0_ok 11 rfl
theorem dX0_hold_18 : decode cX0_hold 18 = .ok (.aload_n 2, 1) := gz_d tdX0_hold_t0_ok 12 rfl
theorem dX0_hold_19 : decode cX0_hold 19 = .ok (.getfield 47, 3) := gz_d tdX0_hold_t0_ok 13 rfl
theorem dX0_hold_22 : decode cX0_hold 22 = .ok (.if_icmp .ge 23, 3) := gz_d tdX0_hold_t0_ok 14 rfl
theorem dX0_hold_25 : decode cX0_hold 25 = .ok (.aload_n 0, 1) := gz_d tdX0_hold_t0_ok 15 rfl
theorem dX0_hold_26 : decode cX0_hold 26 = .ok (.getfield 18, 3) := gz_d tdX0_hold_t0_ok 16 rfl
theorem dX0_hold_29 : decode cX0_hold 29 = .ok (.iload_n 3, 1) := gz_d tdX0_hold_t0_ok 17 rfl
theorem dX0_hold_30 : decode cX0_hold 30 = .ok (.aload_n 2, 1) := gz_d tdX0_hold_t0_ok 18 rfl
theorem dX0_hold_31 : decode cX0_hold 31 = .ok (.iload_n 3, 1) := gz_d tdX0_hold_t0_ok 19 rfl
theorem dX0_hold_32 : decode cX0_hold 32 = .ok (.invokevirtual 56, 3) := gz_d tdX0_hold_t0_ok 20 rfl
theorem dX0_hold_35 : decode cX0_hold 35 = .ok (.i2d, 1) := gz_d tdX0_hold_t0_ok 21 rfl
theorem dX0_hold_36 : decode cX0_hold 36 = .ok (.invokestatic 78, 3) := gz_d tdX0_hold_t0_ok 22 rfl
theorem dX0_hold_39 : decode cX0_hold 39 = .ok (.iinc 3 1, 3) := gz_d tdX0_hold_t0_ok 23 rfl
theorem dX0_hold_42 : decode cX0_hold 42 = .ok (.goto (-25), 3) := gz_d tdX0_hold_t0_ok 24 rfl
theorem dX0_hold_45 : decode cX0_hold 45 = .ok (.return_, 1) := gz_d tdX0_hold_t0_ok 25 rfl
def tdX0_value_t0 : List (Nat × Instr × Nat) := [(0, .iload 4, 2), (2, .bipush 8, 2), (4, .if_icmp .le 5, 3), (7, .dconst 0, 1), (8, .dreturn, 1), (9, .iload_n 2, 1), (10, .aload_n 0, 1), (11, .getfield 26, 3), (14, .if_icmp .ne 14, 3), (17, .aload_n 0, 1), (18, .iload_n 1, 1), (19, .iload_n 3, 1), (20, .iload 4, 2), (22, .invokevirtual 82, 3), (25, .goto 11, 3), (28, .aload_n 0, 1), (29, .iload_n 1, 1), (30, .iload_n 3, 1), (31, .iload 4, 2), (33, .invokevirtual 86, 3), (36, .dreturn, 1)]
theorem tdX0_value_t0_ok : gz_dec cX0_value tdX0_value_t0 = true := by decide +kernel
theorem dX0_value_0 : decode cX0_value 0 = .ok (.iload 4, 2) := gz_d tdX0_value_t0_ok 0 rfl
theorem dX0_value_2 : decode cX0_value 2 = .ok (.bipush 8, 2) := gz_d tdX0_value_t0_ok 1 rfl
theorem dX0_value_4 : decode cX0_value 4 = .ok (.if_icmp .le 5, 3) := gz_d tdX0_value_t0_ok 2 rfl
theorem dX0_value_7 : decode cX0_value 7 = .ok (.dconst 0, 1) := gz_d tdX0_value_t0_ok 3 rfl
theorem dX0_value_8 : decode cX0_value 8 = .ok (.dreturn, 1) := gz_d tdX0_value_t0_ok 4 rfl
theorem dX0_value_9 : decode cX0_value 9 = .ok (.iload_n 2, 1) := gz_d tdX0_value_t0_ok 5 rfl
theorem dX0_value_10 : decode cX0_value 10 = .ok (.aload_n 0, 1) := gz_d tdX0_value_t0_ok 6 rfl
theorem dX0_value_11 : decode cX0_value 11 = .ok (.getfield 26, 3) := gz_d tdX0_value_t0_ok 7 rfl
theorem dX0_value_14 : decode cX0_value 14 = .ok (.if_icmp .ne 14, 3) := gz_d tdX0_value_t0_ok 8 rfl
theorem dX0_value_17 : decode cX0_value 17 = .ok (.aload_n 0, 1) := gz_d tdX0_value_t0_ok 9 rfl
theorem dX0_value_18 : decode cX0_value 18 = .ok (.iload_n 1, 1) := gz_d tdX0_value_t0_ok 10 rfl
theorem dX0_value_19 : decode cX0_value 19 = .ok (.iload_n 3, 1) := gz_d tdX0_value_t0_ok 11 rfl
theorem dX0_value_20 : decode cX0_value 20 = .ok (.iload 4, 2) := gz_d tdX0_value_t0_ok 12 rfl
theorem dX0_value_22 : decode cX0_value 22 = .ok (.invokevirtual 82, 3) := gz_d tdX0_value_t0_ok 13 rfl
theorem dX0_value_25 : decode cX0_value 25 = .ok (.goto 11, 3) := gz_d tdX0_value_t0_ok 14 rfl
theorem dX0_value_28 : decode cX0_value 28 = .ok (.aload_n 0, 1) := gz_d tdX0_value_t0_ok 15 rfl
theorem dX0_value_29 : decode cX0_value 29 = .ok (.iload_n 1, 1) := gz_d tdX0_value_t0_ok 16 rfl
theorem dX0_value_30 : decode cX0_value 30 = .ok (.iload_n 3, 1) := gz_d tdX0_value_t0_ok 17 rfl
theorem dX0_value_31 : decode cX0_value 31 = .ok (.iload 4, 2) := gz_d tdX0_value_t0_ok 18 rfl
theorem dX0_value_33 : decode cX0_value 33 = .ok (.invokevirtual 86, 3) := gz_d tdX0_value_t0_ok 19 rfl
theorem dX0_value_36 : decode cX0_value 36 = .ok (.dreturn, 1) := gz_d tdX0_value_t0_ok 20 rfl
def tdX0_ownValue_t0 : List (Nat × Instr × Nat) := [(0, .iload_n 1, 1), (1, .iconst (-1), 1), (2, .if_icmp .ne 7, 3), (5, .iconst 0, 1), (6, .goto 4, 3), (9, .iconst (-1), 1), (10, .istore 4, 2), (12, .dconst 0, 1), (13, .dstore 5, 2), (15, .iload 4, 2), (17, .iconst (-1), 1), (18, .if_icmp .ne 19, 3), (21, .aload_n 0, 1), (22, .dconst 0, 1), (23, .aload_n 0, 1), (24, .getfield 26, 3), (27, .iload_n 1, 1), (28, .iload_n 2, 1), (29, .invokevirtual 89, 3), (32, .dstore 5, 2), (34, .goto 20, 3), (37, .aload_n 0, 1), (38, .iconst 0, 1), (39, .iconst 1, 1), (40, .aload_n 0, 1), (41, .getfield 26, 3), (44, .isub, 1), (45, .iload_n 2, 1), (46, .iload_n 3, 1), (47, .iconst 1, 1), (48, .iadd, 1), (49, .invokevirtual 60, 3), (52, .dstore 5, 2), (54, .iload_n 1, 1), (55, .iconst (-1), 1), (56, .if_icmp .ne 7, 3), (59, .iconst 1, 1), (60, .goto 6, 3), (63, .iload_n 1, 1), (64, .iconst 1, 1), (65, .iadd, 1), (66, .istore 7, 2), (68, .iload 7, 2), (70, .aload_n 0, 1), (71, .getfield 22, 3), (74, .getfield 34, 3), (77, .if_icmp .ge 43, 3), (80, .aload_n 0, 1), (81, .iload 7, 2), (83, .iconst 1, 1), (84, .aload_n 0, 1), (85, .getfield 26, 3), (88, .isub, 1), (89, .iload_n 2, 1), (90, .iload_n 3, 1), (91, .iconst 1, 1), (92, .iadd, 1), (93, .invokevirtual 60, 3), (96, .dstore 8, 2), (98, .dload 8, 2)]
theorem tdX0_ownValue_t0_ok : gz_dec cX0_ownValue tdX0_ownValue_t0 = true := by decide +kernel
theorem dX0_ownValue_0 : decode cX0_ownValue 0 = .ok (.iload_n 1, 1) := gz_d tdX0_ownValue_t0_ok 0 rfl
theorem dX0_ownValue_1 : decode cX0_ownValue 1 = .ok (.iconst (-1), 1) := gz_d tdX0_ownValue_t0_ok 1 rfl
theorem dX0_ownValue_2 : decode cX0_ownValue 2 = .ok (.if_icmp .ne 7, 3) := gz_d tdX0_ownValue_t0_ok 2 rfl
theorem dX0_ownValue_5 : decode cX0_ownValue 5 = .ok (.iconst 0, 1) := gz_d tdX0_ownValue_t0_ok 3 rfl
theorem dX0_ownValue_6 : decode cX0_ownValue 6 = .ok (.goto 4, 3) := gz_d tdX0_ownValue_t0_ok 4 rfl
theorem dX0_ownValue_9 : decode cX0_ownValue 9 = .ok (.iconst (-1), 1) := gz_d tdX0_ownValue_t0_ok 5 rfl
theorem dX0_ownValue_10 : decode cX0_ownValue 10 = .ok (.istore 4, 2) := gz_d tdX0_ownValue_t0_ok 6 rfl
theorem dX0_ownValue_12 : decode cX0_ownValue 12 = .ok (.dconst 0, 1) := gz_d tdX0_ownValue_t0_ok 7 rfl
theorem dX0_ownValue_13 : decode cX0_ownValue 13 = .ok (.dstore 5, 2) := gz_d tdX0_ownValue_t0_ok 8 rfl
theorem dX0_ownValue_15 : decode cX0_ownValue 15 = .ok (.iload 4, 2) := gz_d tdX0_ownValue_t0_ok 9 rfl
theorem dX0_ownValue_17 : decode cX0_ownValue 17 = .ok (.iconst (-1), 1) := gz_d tdX0_ownValue_t0_ok 10 rfl
theorem dX0_ownValue_18 : decode cX0_ownValue 18 = .ok (.if_icmp .ne 19, 3) := gz_d tdX0_ownValue_t0_ok 11 rfl
theorem dX0_ownValue_21 : decode cX0_ownValue 21 = .ok (.aload_n 0, 1) := gz_d tdX0_ownValue_t0_ok 12 rfl
theorem dX0_ownValue_22 : decode cX0_ownValue 22 = .ok (.dconst 0, 1) := gz_d tdX0_ownValue_t0_ok 13 rfl
theorem dX0_ownValue_23 : decode cX0_ownValue 23 = .ok (.aload_n 0, 1) := gz_d tdX0_ownValue_t0_ok 14 rfl
theorem dX0_ownValue_24 : decode cX0_ownValue 24 = .ok (.getfield 26, 3) := gz_d tdX0_ownValue_t0_ok 15 rfl
theorem dX0_ownValue_27 : decode cX0_ownValue 27 = .ok (.iload_n 1, 1) := gz_d tdX0_ownValue_t0_ok 16 rfl
theorem dX0_ownValue_28 : decode cX0_ownValue 28 = .ok (.iload_n 2, 1) := gz_d tdX0_ownValue_t0_ok 17 rfl
theorem dX0_ownValue_29 : decode cX0_ownValue 29 = .ok (.invokevirtual 89, 3) := gz_d tdX0_ownValue_t0_ok 18 rfl
theorem dX0_ownValue_32 : decode cX0_ownValue 32 = .ok (.dstore 5, 2) := gz_d tdX0_ownValue_t0_ok 19 rfl
theorem dX0_ownValue_34 : decode cX0_ownValue 34 = .ok (.goto 20, 3) := gz_d tdX0_ownValue_t0_ok 20 rfl
theorem dX0_ownValue_37 : decode cX0_ownValue 37 = .ok (.aload_n 0, 1) := gz_d tdX0_ownValue_t0_ok 21 rfl
theorem dX0_ownValue_38 : decode cX0_ownValue 38 = .ok (.iconst 0, 1) := gz_d tdX0_ownValue_t0_ok 22 rfl
theorem dX0_ownValue_39 : decode cX0_ownValue 39 = .ok (.iconst 1, 1) := gz_d tdX0_ownValue_t0_ok 23 rfl
theorem dX0_ownValue_40 : decode cX0_ownValue 40 = .ok (.aload_n 0, 1) := gz_d tdX0_ownValue_t0_ok 24 rfl
theorem dX0_ownValue_41 : decode cX0_ownValue 41 = .ok (.getfield 26, 3) := gz_d tdX0_ownValue_t0_ok 25 rfl
theorem dX0_ownValue_44 : decode cX0_ownValue 44 = .ok (.isub, 1) := gz_d tdX0_ownValue_t0_ok 26 rfl
theorem dX0_ownValue_45 : decode cX0_ownValue 45 = .ok (.iload_n 2, 1) := gz_d tdX0_ownValue_t0_ok 27 rfl
theorem dX0_ownValue_46 : decode cX0_ownValue 46 = .ok (.iload_n 3, 1) := gz_d tdX0_ownValue_t0_ok 28 rfl
theorem dX0_ownValue_47 : decode cX0_ownValue 47 = .ok (.iconst 1, 1) := gz_d tdX0_ownValue_t0_ok 29 rfl
theorem dX0_ownValue_48 : decode cX0_ownValue 48 = .ok (.iadd, 1) := gz_d tdX0_ownValue_t0_ok 30 rfl
theorem dX0_ownValue_49 : decode cX0_ownValue 49 = .ok (.invokevirtual 60, 3) := gz_d tdX0_ownValue_t0_ok 31 rfl
theorem dX0_ownValue_52 : decode cX0_ownValue 52 = .ok (.dstore 5, 2) := gz_d tdX0_ownValue_t0_ok 32 rfl
theorem dX0_ownValue_54 : decode cX0_ownValue 54 = .ok (.iload_n 1, 1) := gz_d tdX0_ownValue_t0_ok 33 rfl
theorem dX0_ownValue_55 : decode cX0_ownValue 55 = .ok (.iconst (-1), 1) := gz_d tdX0_ownValue_t0_ok 34 rfl
theorem dX0_ownValue_56 : decode cX0_ownValue 56 = .ok (.if_icmp .ne 7, 3) := gz_d tdX0_ownValue_t0_ok 35 rfl
theorem dX0_ownValue_59 : decode cX0_ownValue 59 = .ok (.iconst 1, 1) := gz_d tdX0_ownValue_t0_ok 36 rfl
theorem dX0_ownValue_60 : decode cX0_ownValue 60 = .ok (.goto 6, 3) := gz_d tdX0_ownValue_t0_ok 37 rfl
theorem dX0_ownValue_63 : decode cX0_ownValue 63 = .ok (.iload_n 1, 1) := gz_d tdX0_ownValue_t0_ok 38 rfl
theorem dX0_ownValue_64 : decode cX0_ownValue 64 = .ok (.iconst 1, 1) := gz_d tdX0_ownValue_t0_ok 39 rfl
theorem dX0_ownValue_65 : decode cX0_ownValue 65 = .ok (.iadd, 1) := gz_d tdX0_ownValue_t0_ok 40 rfl
theorem dX0_ownValue_66 : decode cX0_ownValue 66 = .ok (.istore 7, 2) := gz_d tdX0_ownValue_t0_ok 41 rfl
theorem dX0_ownValue_68 : decode cX0_ownValue 68 = .ok (.iload 7, 2) := gz_d tdX0_ownValue_t0_ok 42 rfl
theorem dX0_ownValue_70 : decode cX0_ownValue 70 = .ok (.aload_n 0, 1) := gz_d tdX0_ownValue_t0_ok 43 rfl
theorem dX0_ownValue_71 : decode cX0_ownValue 71 = .ok (.getfield 22, 3) := gz_d tdX0_ownValue_t0_ok 44 rfl
theorem dX0_ownValue_74 : decode cX0_ownValue 74 = .ok (.getfield 34, 3) := gz_d tdX0_ownValue_t0_ok 45 rfl
theorem dX0_ownValue_77 : decode cX0_ownValue 77 = .ok (.if_icmp .ge 43, 3) := gz_d tdX0_ownValue_t0_ok 46 rfl
theorem dX0_ownValue_80 : decode cX0_ownValue 80 = .ok (.aload_n 0, 1) := gz_d tdX0_ownValue_t0_ok 47 rfl
theorem dX0_ownValue_81 : decode cX0_ownValue 81 = .ok (.iload 7, 2) := gz_d tdX0_ownValue_t0_ok 48 rfl
theorem dX0_ownValue_83 : decode cX0_ownValue 83 = .ok (.iconst 1, 1) := gz_d tdX0_ownValue_t0_ok 49 rfl
theorem dX0_ownValue_84 : decode cX0_ownValue 84 = .ok (.aload_n 0, 1) := gz_d tdX0_ownValue_t0_ok 50 rfl
theorem dX0_ownValue_85 : decode cX0_ownValue 85 = .ok (.getfield 26, 3) := gz_d tdX0_ownValue_t0_ok 51 rfl
theorem dX0_ownValue_88 : decode cX0_ownValue 88 = .ok (.isub, 1) := gz_d tdX0_ownValue_t0_ok 52 rfl
theorem dX0_ownValue_89 : decode cX0_ownValue 89 = .ok (.iload_n 2, 1) := gz_d tdX0_ownValue_t0_ok 53 rfl
theorem dX0_ownValue_90 : decode cX0_ownValue 90 = .ok (.iload_n 3, 1) := gz_d tdX0_ownValue_t0_ok 54 rfl
theorem dX0_ownValue_91 : decode cX0_ownValue 91 = .ok (.iconst 1, 1) := gz_d tdX0_ownValue_t0_ok 55 rfl
theorem dX0_ownValue_92 : decode cX0_ownValue 92 = .ok (.iadd, 1) := gz_d tdX0_ownValue_t0_ok 56 rfl
theorem dX0_ownValue_93 : decode cX0_ownValue 93 = .ok (.invokevirtual 60, 3) := gz_d tdX0_ownValue_t0_ok 57 rfl
theorem dX0_ownValue_96 : decode cX0_ownValue 96 = .ok (.dstore 8, 2) := gz_d tdX0_ownValue_t0_ok 58 rfl
theorem dX0_ownValue_98 : decode cX0_ownValue 98 = .ok (.dload 8, 2) := gz_d tdX0_ownValue_t0_ok 59 rfl
def tdX0_ownValue_t1 : List (Nat × Instr × Nat) := [(100, .dload 5, 2), (102, .dcmp .l, 1), (103, .ifCond .le 11, 3), (106, .dload 8, 2), (108, .dstore 5, 2), (110, .iload 7, 2), (112, .istore 4, 2), (114, .iinc 7 1, 3), (117, .goto (-49), 3), (120, .aload_n 0, 1), (121, .iload 4, 2), (123, .putfield 68, 3), (126, .dload 5, 2), (128, .dreturn, 1)]
theorem tdX0_ownValue_t1_ok : gz_dec cX0_ownValue tdX0_ownValue_t1 = true := by decide +kernel
theorem dX0_ownValue_100 : decode cX0_ownValue 100 = .ok (.dload 5, 2) := gz_d tdX0_ownValue_t1_ok 0 rfl
theorem dX0_ownValue_102 : decode cX0_ownValue 102 = .ok (.dcmp .l, 1) := gz_d tdX0_ownValue_t1_ok 1 rfl
theorem dX0_ownValue_103 : decode cX0_ownValue 103 = .ok (.ifCond .le 11, 3) := gz_d tdX0_ownValue_t1_ok 2 rfl
theorem dX0_ownValue_106 : decode cX0_ownValue 106 = .ok (.dload 8, 2) := gz_d tdX0_ownValue_t1_ok 3 rfl
theorem dX0_ownValue_108 : decode cX0_ownValue 108 = .ok (.dstore 5, 2) := gz_d tdX0_ownValue_t1_ok 4 rfl
theorem dX0_ownValue_110 : decode cX0_ownValue 110 = .ok (.iload 7, 2) := gz_d tdX0_ownValue_t1_ok 5 rfl
theorem dX0_ownValue_112 : decode cX0_ownValue 112 = .ok (.istore 4, 2) := gz_d tdX0_ownValue_t1_ok 6 rfl
theorem dX0_ownValue_114 : decode cX0_ownValue 114 = .ok (.iinc 7 1, 3) := gz_d tdX0_ownValue_t1_ok 7 rfl
theorem dX0_ownValue_117 : decode cX0_ownValue 117 = .ok (.goto (-49), 3) := gz_d tdX0_ownValue_t1_ok 8 rfl
theorem dX0_ownValue_120 : decode cX0_ownValue 120 = .ok (.aload_n 0, 1) := gz_d tdX0_ownValue_t1_ok 9 rfl
theorem dX0_ownValue_121 : decode cX0_ownValue 121 = .ok (.iload 4, 2) := gz_d tdX0_ownValue_t1_ok 10 rfl
theorem dX0_ownValue_123 : decode cX0_ownValue 123 = .ok (.putfield 68, 3) := gz_d tdX0_ownValue_t1_ok 11 rfl
theorem dX0_ownValue_126 : decode cX0_ownValue 126 = .ok (.dload 5, 2) := gz_d tdX0_ownValue_t1_ok 12 rfl
theorem dX0_ownValue_128 : decode cX0_ownValue 128 = .ok (.dreturn, 1) := gz_d tdX0_ownValue_t1_ok 13 rfl
def tdX0_otherValue_t0 : List (Nat × Instr × Nat) := [(0, .dconst 0, 1), (1, .dstore 4, 2), (3, .iload_n 1, 1), (4, .iconst (-1), 1), (5, .if_icmp .eq 31, 3), (8, .aload_n 0, 1), (9, .iload_n 1, 1), (10, .iconst (-1), 1), (11, .iload_n 2, 1), (12, .invokevirtual 71, 3), (15, .ifCond .eq 21, 3), (18, .aload_n 0, 1), (19, .dload 4, 2), (21, .iconst 1, 1), (22, .aload_n 0, 1), (23, .getfield 26, 3), (26, .isub, 1), (27, .iload_n 1, 1), (28, .iload_n 2, 1), (29, .iconst 1, 1), (30, .iadd, 1), (31, .invokevirtual 89, 3), (34, .dstore 4, 2), (36, .iload_n 1, 1), (37, .iconst 1, 1), (38, .iadd, 1), (39, .istore 6, 2), (41, .iload 6, 2), (43, .aload_n 0, 1), (44, .getfield 22, 3), (47, .getfield 34, 3), (50, .if_icmp .ge 41, 3), (53, .aload_n 0, 1), (54, .iload_n 1, 1), (55, .iload 6, 2), (57, .iload_n 2, 1), (58, .invokevirtual 71, 3), (61, .ifCond .eq 24, 3), (64, .dload 4, 2), (66, .aload_n 0, 1), (67, .iload 6, 2), (69, .aload_n 0, 1), (70, .getfield 26, 3), (73, .iload_n 2, 1), (74, .iconst 1, 1), (75, .iadd, 1), (76, .iload_n 3, 1), (77, .iconst 1, 1), (78, .iadd, 1), (79, .invokevirtual 60, 3), (82, .dadd, 1), (83, .dstore 4, 2), (85, .iinc 6 1, 3), (88, .goto (-47), 3), (91, .dload 4, 2), (93, .dreturn, 1)]
theorem tdX0_otherValue_t0_ok : gz_dec cX0_otherValue tdX0_otherValue_t0 = true := by decide +kernel
theorem dX0_otherValue_0 : decode cX0_otherValue 0 = .ok (.dconst 0, 1) := gz_d tdX0_otherValue_t0_ok 0 rfl
theorem dX0_otherValue_1 : decode cX0_otherValue 1 = .ok (.dstore 4, 2) := gz_d tdX0_otherValue_t0_ok 1 rfl
theorem dX0_otherValue_3 : decode cX0_otherValue 3 = .ok (.iload_n 1, 1) := gz_d tdX0_otherValue_t0_ok 2 rfl
theorem dX0_otherValue_4 : decode cX0_otherValue 4 = .ok (.iconst (-1), 1) := gz_d tdX0_otherValue_t0_ok 3 rfl
theorem dX0_otherValue_5 : decode cX0_otherValue 5 = .ok (.if_icmp .eq 31, 3) := gz_d tdX0_otherValue_t0_ok 4 rfl
theorem dX0_otherValue_8 : decode cX0_otherValue 8 = .ok (.aload_n 0, 1) := gz_d tdX0_otherValue_t0_ok 5 rfl
theorem dX0_otherValue_9 : decode cX0_otherValue 9 = .ok (.iload_n 1, 1) := gz_d tdX0_otherValue_t0_ok 6 rfl
theorem dX0_otherValue_10 : decode cX0_otherValue 10 = .ok (.iconst (-1), 1) := gz_d tdX0_otherValue_t0_ok 7 rfl
theorem dX0_otherValue_11 : decode cX0_otherValue 11 = .ok (.iload_n 2, 1) := gz_d tdX0_otherValue_t0_ok 8 rfl
theorem dX0_otherValue_12 : decode cX0_otherValue 12 = .ok (.invokevirtual 71, 3) := gz_d tdX0_otherValue_t0_ok 9 rfl
theorem dX0_otherValue_15 : decode cX0_otherValue 15 = .ok (.ifCond .eq 21, 3) := gz_d tdX0_otherValue_t0_ok 10 rfl
theorem dX0_otherValue_18 : decode cX0_otherValue 18 = .ok (.aload_n 0, 1) := gz_d tdX0_otherValue_t0_ok 11 rfl
theorem dX0_otherValue_19 : decode cX0_otherValue 19 = .ok (.dload 4, 2) := gz_d tdX0_otherValue_t0_ok 12 rfl
theorem dX0_otherValue_21 : decode cX0_otherValue 21 = .ok (.iconst 1, 1) := gz_d tdX0_otherValue_t0_ok 13 rfl
theorem dX0_otherValue_22 : decode cX0_otherValue 22 = .ok (.aload_n 0, 1) := gz_d tdX0_otherValue_t0_ok 14 rfl
theorem dX0_otherValue_23 : decode cX0_otherValue 23 = .ok (.getfield 26, 3) := gz_d tdX0_otherValue_t0_ok 15 rfl
theorem dX0_otherValue_26 : decode cX0_otherValue 26 = .ok (.isub, 1) := gz_d tdX0_otherValue_t0_ok 16 rfl
theorem dX0_otherValue_27 : decode cX0_otherValue 27 = .ok (.iload_n 1, 1) := gz_d tdX0_otherValue_t0_ok 17 rfl
theorem dX0_otherValue_28 : decode cX0_otherValue 28 = .ok (.iload_n 2, 1) := gz_d tdX0_otherValue_t0_ok 18 rfl
theorem dX0_otherValue_29 : decode cX0_otherValue 29 = .ok (.iconst 1, 1) := gz_d tdX0_otherValue_t0_ok 19 rfl
theorem dX0_otherValue_30 : decode cX0_otherValue 30 = .ok (.iadd, 1) := gz_d tdX0_otherValue_t0_ok 20 rfl
theorem dX0_otherValue_31 : decode cX0_otherValue 31 = .ok (.invokevirtual 89, 3) := gz_d tdX0_otherValue_t0_ok 21 rfl
theorem dX0_otherValue_34 : decode cX0_otherValue 34 = .ok (.dstore 4, 2) := gz_d tdX0_otherValue_t0_ok 22 rfl
theorem dX0_otherValue_36 : decode cX0_otherValue 36 = .ok (.iload_n 1, 1) := gz_d tdX0_otherValue_t0_ok 23 rfl
theorem dX0_otherValue_37 : decode cX0_otherValue 37 = .ok (.iconst 1, 1) := gz_d tdX0_otherValue_t0_ok 24 rfl
theorem dX0_otherValue_38 : decode cX0_otherValue 38 = .ok (.iadd, 1) := gz_d tdX0_otherValue_t0_ok 25 rfl
theorem dX0_otherValue_39 : decode cX0_otherValue 39 = .ok (.istore 6, 2) := gz_d tdX0_otherValue_t0_ok 26 rfl
theorem dX0_otherValue_41 : decode cX0_otherValue 41 = .ok (.iload 6, 2) := gz_d tdX0_otherValue_t0_ok 27 rfl
theorem dX0_otherValue_43 : decode cX0_otherValue 43 = .ok (.aload_n 0, 1) := gz_d tdX0_otherValue_t0_ok 28 rfl
theorem dX0_otherValue_44 : decode cX0_otherValue 44 = .ok (.getfield 22, 3) := gz_d tdX0_otherValue_t0_ok 29 rfl
theorem dX0_otherValue_47 : decode cX0_otherValue 47 = .ok (.getfield 34, 3) := gz_d tdX0_otherValue_t0_ok 30 rfl
theorem dX0_otherValue_50 : decode cX0_otherValue 50 = .ok (.if_icmp .ge 41, 3) := gz_d tdX0_otherValue_t0_ok 31 rfl
theorem dX0_otherValue_53 : decode cX0_otherValue 53 = .ok (.aload_n 0, 1) := gz_d tdX0_otherValue_t0_ok 32 rfl
theorem dX0_otherValue_54 : decode cX0_otherValue 54 = .ok (.iload_n 1, 1) := gz_d tdX0_otherValue_t0_ok 33 rfl
theorem dX0_otherValue_55 : decode cX0_otherValue 55 = .ok (.iload 6, 2) := gz_d tdX0_otherValue_t0_ok 34 rfl
theorem dX0_otherValue_57 : decode cX0_otherValue 57 = .ok (.iload_n 2, 1) := gz_d tdX0_otherValue_t0_ok 35 rfl
theorem dX0_otherValue_58 : decode cX0_otherValue 58 = .ok (.invokevirtual 71, 3) := gz_d tdX0_otherValue_t0_ok 36 rfl
theorem dX0_otherValue_61 : decode cX0_otherValue 61 = .ok (.ifCond .eq 24, 3) := gz_d tdX0_otherValue_t0_ok 37 rfl
theorem dX0_otherValue_64 : decode cX0_otherValue 64 = .ok (.dload 4, 2) := gz_d tdX0_otherValue_t0_ok 38 rfl
theorem dX0_otherValue_66 : decode cX0_otherValue 66 = .ok (.aload_n 0, 1) := gz_d tdX0_otherValue_t0_ok 39 rfl
theorem dX0_otherValue_67 : decode cX0_otherValue 67 = .ok (.iload 6, 2) := gz_d tdX0_otherValue_t0_ok 40 rfl
theorem dX0_otherValue_69 : decode cX0_otherValue 69 = .ok (.aload_n 0, 1) := gz_d tdX0_otherValue_t0_ok 41 rfl
theorem dX0_otherValue_70 : decode cX0_otherValue 70 = .ok (.getfield 26, 3) := gz_d tdX0_otherValue_t0_ok 42 rfl
theorem dX0_otherValue_73 : decode cX0_otherValue 73 = .ok (.iload_n 2, 1) := gz_d tdX0_otherValue_t0_ok 43 rfl
theorem dX0_otherValue_74 : decode cX0_otherValue 74 = .ok (.iconst 1, 1) := gz_d tdX0_otherValue_t0_ok 44 rfl
theorem dX0_otherValue_75 : decode cX0_otherValue 75 = .ok (.iadd, 1) := gz_d tdX0_otherValue_t0_ok 45 rfl
theorem dX0_otherValue_76 : decode cX0_otherValue 76 = .ok (.iload_n 3, 1) := gz_d tdX0_otherValue_t0_ok 46 rfl
theorem dX0_otherValue_77 : decode cX0_otherValue 77 = .ok (.iconst 1, 1) := gz_d tdX0_otherValue_t0_ok 47 rfl
theorem dX0_otherValue_78 : decode cX0_otherValue 78 = .ok (.iadd, 1) := gz_d tdX0_otherValue_t0_ok 48 rfl
theorem dX0_otherValue_79 : decode cX0_otherValue 79 = .ok (.invokevirtual 60, 3) := gz_d tdX0_otherValue_t0_ok 49 rfl
theorem dX0_otherValue_82 : decode cX0_otherValue 82 = .ok (.dadd, 1) := gz_d tdX0_otherValue_t0_ok 50 rfl
theorem dX0_otherValue_83 : decode cX0_otherValue 83 = .ok (.dstore 4, 2) := gz_d tdX0_otherValue_t0_ok 51 rfl
theorem dX0_otherValue_85 : decode cX0_otherValue 85 = .ok (.iinc 6 1, 3) := gz_d tdX0_otherValue_t0_ok 52 rfl
theorem dX0_otherValue_88 : decode cX0_otherValue 88 = .ok (.goto (-47), 3) := gz_d tdX0_otherValue_t0_ok 53 rfl
theorem dX0_otherValue_91 : decode cX0_otherValue 91 = .ok (.dload 4, 2) := gz_d tdX0_otherValue_t0_ok 54 rfl
theorem dX0_otherValue_93 : decode cX0_otherValue 93 = .ok (.dreturn, 1) := gz_d tdX0_otherValue_t0_ok 55 rfl
def tdX0_follow_t0 : List (Nat × Instr × Nat) := [(0, .iconst 0, 1), (1, .istore 4, 2), (3, .aload_n 0, 1), (4, .invokevirtual 30, 3), (7, .getfield 47, 3), (10, .istore 5, 2), (12, .iconst 0, 1), (13, .istore 6, 2), (15, .iload 6, 2), (17, .iload 5, 2), (19, .if_icmp .ge 63, 3), (22, .aload_n 0, 1), (23, .getfield 18, 3), (26, .iload_n 3, 1), (27, .iconst 4, 1), (28, .imul, 1), (29, .iload 6, 2), (31, .iadd, 1), (32, .invokestatic 93, 3), (35, .aload_n 0, 1), (36, .getfield 12, 3), (39, .iload 6, 2), (41, .iload_n 1, 1), (42, .iload_n 2, 1), (43, .invokevirtual 97, 3), (46, .dmul, 1), (47, .dstore 7, 2), (49, .aload_n 0, 1), (50, .getfield 18, 3), (53, .iload_n 3, 1), (54, .iconst 1, 1), (55, .iadd, 1), (56, .iconst 4, 1), (57, .imul, 1), (58, .iload 6, 2), (60, .iadd, 1), (61, .dload 7, 2), (63, .invokestatic 78, 3), (66, .dload 7, 2), (68, .dconst 0, 1), (69, .dcmp .l, 1), (70, .ifCond .le 6, 3), (73, .iconst 1, 1), (74, .istore 4, 2), (76, .iinc 6 1, 3), (79, .goto (-64), 3), (82, .iload 4, 2), (84, .ireturn, 1)]
theorem tdX0_follow_t0_ok : gz_dec cX0_follow tdX0_follow_t0 = true := by decide +kernel
theorem dX0_follow_0 : decode cX0_follow 0 = .ok (.iconst 0, 1) := gz_d tdX0_follow_t0_ok 0 rfl
theorem dX0_follow_1 : decode cX0_follow 1 = .ok (.istore 4, 2) := gz_d tdX0_follow_t0_ok 1 rfl
theorem dX0_follow_3 : decode cX0_follow 3 = .ok (.aload_n 0, 1) := gz_d tdX0_follow_t0_ok 2 rfl
theorem dX0_follow_4 : decode cX0_follow 4 = .ok (.invokevirtual 30, 3) := gz_d tdX0_follow_t0_ok 3 rfl
theorem dX0_follow_7 : decode cX0_follow 7 = .ok (.getfield 47, 3) := gz_d tdX0_follow_t0_ok 4 rfl
theorem dX0_follow_10 : decode cX0_follow 10 = .ok (.istore 5, 2) := gz_d tdX0_follow_t0_ok 5 rfl
theorem dX0_follow_12 : decode cX0_follow 12 = .ok (.iconst 0, 1) := gz_d tdX0_follow_t0_ok 6 rfl
theorem dX0_follow_13 : decode cX0_follow 13 = .ok (.istore 6, 2) := gz_d tdX0_follow_t0_ok 7 rfl
theorem dX0_follow_15 : decode cX0_follow 15 = .ok (.iload 6, 2) := gz_d tdX0_follow_t0_ok 8 rfl
theorem dX0_follow_17 : decode cX0_follow 17 = .ok (.iload 5, 2) := gz_d tdX0_follow_t0_ok 9 rfl
theorem dX0_follow_19 : decode cX0_follow 19 = .ok (.if_icmp .ge 63, 3) := gz_d tdX0_follow_t0_ok 10 rfl
theorem dX0_follow_22 : decode cX0_follow 22 = .ok (.aload_n 0, 1) := gz_d tdX0_follow_t0_ok 11 rfl
theorem dX0_follow_23 : decode cX0_follow 23 = .ok (.getfield 18, 3) := gz_d tdX0_follow_t0_ok 12 rfl
theorem dX0_follow_26 : decode cX0_follow 26 = .ok (.iload_n 3, 1) := gz_d tdX0_follow_t0_ok 13 rfl
theorem dX0_follow_27 : decode cX0_follow 27 = .ok (.iconst 4, 1) := gz_d tdX0_follow_t0_ok 14 rfl
theorem dX0_follow_28 : decode cX0_follow 28 = .ok (.imul, 1) := gz_d tdX0_follow_t0_ok 15 rfl
theorem dX0_follow_29 : decode cX0_follow 29 = .ok (.iload 6, 2) := gz_d tdX0_follow_t0_ok 16 rfl
theorem dX0_follow_31 : decode cX0_follow 31 = .ok (.iadd, 1) := gz_d tdX0_follow_t0_ok 17 rfl
theorem dX0_follow_32 : decode cX0_follow 32 = .ok (.invokestatic 93, 3) := gz_d tdX0_follow_t0_ok 18 rfl
theorem dX0_follow_35 : decode cX0_follow 35 = .ok (.aload_n 0, 1) := gz_d tdX0_follow_t0_ok 19 rfl
theorem dX0_follow_36 : decode cX0_follow 36 = .ok (.getfield 12, 3) := gz_d tdX0_follow_t0_ok 20 rfl
theorem dX0_follow_39 : decode cX0_follow 39 = .ok (.iload 6, 2) := gz_d tdX0_follow_t0_ok 21 rfl
theorem dX0_follow_41 : decode cX0_follow 41 = .ok (.iload_n 1, 1) := gz_d tdX0_follow_t0_ok 22 rfl
theorem dX0_follow_42 : decode cX0_follow 42 = .ok (.iload_n 2, 1) := gz_d tdX0_follow_t0_ok 23 rfl
theorem dX0_follow_43 : decode cX0_follow 43 = .ok (.invokevirtual 97, 3) := gz_d tdX0_follow_t0_ok 24 rfl
theorem dX0_follow_46 : decode cX0_follow 46 = .ok (.dmul, 1) := gz_d tdX0_follow_t0_ok 25 rfl
theorem dX0_follow_47 : decode cX0_follow 47 = .ok (.dstore 7, 2) := gz_d tdX0_follow_t0_ok 26 rfl
theorem dX0_follow_49 : decode cX0_follow 49 = .ok (.aload_n 0, 1) := gz_d tdX0_follow_t0_ok 27 rfl
theorem dX0_follow_50 : decode cX0_follow 50 = .ok (.getfield 18, 3) := gz_d tdX0_follow_t0_ok 28 rfl
theorem dX0_follow_53 : decode cX0_follow 53 = .ok (.iload_n 3, 1) := gz_d tdX0_follow_t0_ok 29 rfl
theorem dX0_follow_54 : decode cX0_follow 54 = .ok (.iconst 1, 1) := gz_d tdX0_follow_t0_ok 30 rfl
theorem dX0_follow_55 : decode cX0_follow 55 = .ok (.iadd, 1) := gz_d tdX0_follow_t0_ok 31 rfl
theorem dX0_follow_56 : decode cX0_follow 56 = .ok (.iconst 4, 1) := gz_d tdX0_follow_t0_ok 32 rfl
theorem dX0_follow_57 : decode cX0_follow 57 = .ok (.imul, 1) := gz_d tdX0_follow_t0_ok 33 rfl
theorem dX0_follow_58 : decode cX0_follow 58 = .ok (.iload 6, 2) := gz_d tdX0_follow_t0_ok 34 rfl
theorem dX0_follow_60 : decode cX0_follow 60 = .ok (.iadd, 1) := gz_d tdX0_follow_t0_ok 35 rfl
theorem dX0_follow_61 : decode cX0_follow 61 = .ok (.dload 7, 2) := gz_d tdX0_follow_t0_ok 36 rfl
theorem dX0_follow_63 : decode cX0_follow 63 = .ok (.invokestatic 78, 3) := gz_d tdX0_follow_t0_ok 37 rfl
theorem dX0_follow_66 : decode cX0_follow 66 = .ok (.dload 7, 2) := gz_d tdX0_follow_t0_ok 38 rfl
theorem dX0_follow_68 : decode cX0_follow 68 = .ok (.dconst 0, 1) := gz_d tdX0_follow_t0_ok 39 rfl
theorem dX0_follow_69 : decode cX0_follow 69 = .ok (.dcmp .l, 1) := gz_d tdX0_follow_t0_ok 40 rfl
theorem dX0_follow_70 : decode cX0_follow 70 = .ok (.ifCond .le 6, 3) := gz_d tdX0_follow_t0_ok 41 rfl
theorem dX0_follow_73 : decode cX0_follow 73 = .ok (.iconst 1, 1) := gz_d tdX0_follow_t0_ok 42 rfl
theorem dX0_follow_74 : decode cX0_follow 74 = .ok (.istore 4, 2) := gz_d tdX0_follow_t0_ok 43 rfl
theorem dX0_follow_76 : decode cX0_follow 76 = .ok (.iinc 6 1, 3) := gz_d tdX0_follow_t0_ok 44 rfl
theorem dX0_follow_79 : decode cX0_follow 79 = .ok (.goto (-64), 3) := gz_d tdX0_follow_t0_ok 45 rfl
theorem dX0_follow_82 : decode cX0_follow 82 = .ok (.iload 4, 2) := gz_d tdX0_follow_t0_ok 46 rfl
theorem dX0_follow_84 : decode cX0_follow 84 = .ok (.ireturn, 1) := gz_d tdX0_follow_t0_ok 47 rfl
def tdX0_addCallWins_t0 : List (Nat × Instr × Nat) := [(0, .dload_n 1, 1), (1, .dstore 6, 2), (3, .aload_n 0, 1), (4, .invokevirtual 30, 3), (7, .getfield 47, 3), (10, .istore 8, 2), (12, .iconst 0, 1), (13, .istore 9, 2), (15, .iload 9, 2), (17, .iload 8, 2), (19, .if_icmp .ge 63, 3), (22, .iload_n 3, 1), (23, .aload_n 0, 1), (24, .getfield 26, 3), (27, .if_icmp .ne 7, 3), (30, .iconst 1, 1), (31, .goto 4, 3), (34, .iconst 0, 1), (35, .aload_n 0, 1), (36, .getfield 22, 3), (39, .aload_n 0, 1), (40, .getfield 26, 3), (43, .aload_n 0, 1), (44, .getfield 75, 3), (47, .iload 9, 2), (49, .iload 4, 2), (51, .invokevirtual 100, 3), (54, .if_icmp .eq 22, 3), (57, .dload 6, 2), (59, .aload_n 0, 1), (60, .getfield 18, 3), (63, .iload 5, 2), (65, .iconst 4, 1), (66, .imul, 1), (67, .iload 9, 2), (69, .iadd, 1), (70, .invokestatic 93, 3), (73, .dadd, 1), (74, .dstore 6, 2), (76, .iinc 9 1, 3), (79, .goto (-64), 3), (82, .dload 6, 2), (84, .dreturn, 1)]
theorem tdX0_addCallWins_t0_ok : gz_dec cX0_addCallWins tdX0_addCallWins_t0 = true := by decide +kernel
theorem dX0_addCallWins_0 : decode cX0_addCallWins 0 = .ok (.dload_n 1, 1) := gz_d tdX0_addCallWins_t0_ok 0 rfl
theorem dX0_addCallWins_1 : decode cX0_addCallWins 1 = .ok (.dstore 6, 2) := gz_d tdX0_addCallWins_t0_ok 1 rfl
theorem dX0_addCallWins_3 : decode cX0_addCallWins 3 = .ok (.aload_n 0, 1) := gz_d tdX0_addCallWins_t0_ok 2 rfl
theorem dX0_addCallWins_4 : decode cX0_addCallWins 4 = .ok (.invokevirtual 30, 3) := gz_d tdX0_addCallWins_t0_ok 3 rfl
theorem dX0_addCallWins_7 : decode cX0_addCallWins 7 = .ok (.getfield 47, 3) := gz_d tdX0_addCallWins_t0_ok 4 rfl
theorem dX0_addCallWins_10 : decode cX0_addCallWins 10 = .ok (.istore 8, 2) := gz_d tdX0_addCallWins_t0_ok 5 rfl
theorem dX0_addCallWins_12 : decode cX0_addCallWins 12 = .ok (.iconst 0, 1) := gz_d tdX0_addCallWins_t0_ok 6 rfl
theorem dX0_addCallWins_13 : decode cX0_addCallWins 13 = .ok (.istore 9, 2) := gz_d tdX0_addCallWins_t0_ok 7 rfl
theorem dX0_addCallWins_15 : decode cX0_addCallWins 15 = .ok (.iload 9, 2) := gz_d tdX0_addCallWins_t0_ok 8 rfl
theorem dX0_addCallWins_17 : decode cX0_addCallWins 17 = .ok (.iload 8, 2) := gz_d tdX0_addCallWins_t0_ok 9 rfl
theorem dX0_addCallWins_19 : decode cX0_addCallWins 19 = .ok (.if_icmp .ge 63, 3) := gz_d tdX0_addCallWins_t0_ok 10 rfl
theorem dX0_addCallWins_22 : decode cX0_addCallWins 22 = .ok (.iload_n 3, 1) := gz_d tdX0_addCallWins_t0_ok 11 rfl
theorem dX0_addCallWins_23 : decode cX0_addCallWins 23 = .ok (.aload_n 0, 1) := gz_d tdX0_addCallWins_t0_ok 12 rfl
theorem dX0_addCallWins_24 : decode cX0_addCallWins 24 = .ok (.getfield 26, 3) := gz_d tdX0_addCallWins_t0_ok 13 rfl
theorem dX0_addCallWins_27 : decode cX0_addCallWins 27 = .ok (.if_icmp .ne 7, 3) := gz_d tdX0_addCallWins_t0_ok 14 rfl
theorem dX0_addCallWins_30 : decode cX0_addCallWins 30 = .ok (.iconst 1, 1) := gz_d tdX0_addCallWins_t0_ok 15 rfl
theorem dX0_addCallWins_31 : decode cX0_addCallWins 31 = .ok (.goto 4, 3) := gz_d tdX0_addCallWins_t0_ok 16 rfl
theorem dX0_addCallWins_34 : decode cX0_addCallWins 34 = .ok (.iconst 0, 1) := gz_d tdX0_addCallWins_t0_ok 17 rfl
theorem dX0_addCallWins_35 : decode cX0_addCallWins 35 = .ok (.aload_n 0, 1) := gz_d tdX0_addCallWins_t0_ok 18 rfl
theorem dX0_addCallWins_36 : decode cX0_addCallWins 36 = .ok (.getfield 22, 3) := gz_d tdX0_addCallWins_t0_ok 19 rfl
theorem dX0_addCallWins_39 : decode cX0_addCallWins 39 = .ok (.aload_n 0, 1) := gz_d tdX0_addCallWins_t0_ok 20 rfl
theorem dX0_addCallWins_40 : decode cX0_addCallWins 40 = .ok (.getfield 26, 3) := gz_d tdX0_addCallWins_t0_ok 21 rfl
theorem dX0_addCallWins_43 : decode cX0_addCallWins 43 = .ok (.aload_n 0, 1) := gz_d tdX0_addCallWins_t0_ok 22 rfl
theorem dX0_addCallWins_44 : decode cX0_addCallWins 44 = .ok (.getfield 75, 3) := gz_d tdX0_addCallWins_t0_ok 23 rfl
theorem dX0_addCallWins_47 : decode cX0_addCallWins 47 = .ok (.iload 9, 2) := gz_d tdX0_addCallWins_t0_ok 24 rfl
theorem dX0_addCallWins_49 : decode cX0_addCallWins 49 = .ok (.iload 4, 2) := gz_d tdX0_addCallWins_t0_ok 25 rfl
theorem dX0_addCallWins_51 : decode cX0_addCallWins 51 = .ok (.invokevirtual 100, 3) := gz_d tdX0_addCallWins_t0_ok 26 rfl
theorem dX0_addCallWins_54 : decode cX0_addCallWins 54 = .ok (.if_icmp .eq 22, 3) := gz_d tdX0_addCallWins_t0_ok 27 rfl
theorem dX0_addCallWins_57 : decode cX0_addCallWins 57 = .ok (.dload 6, 2) := gz_d tdX0_addCallWins_t0_ok 28 rfl
theorem dX0_addCallWins_59 : decode cX0_addCallWins 59 = .ok (.aload_n 0, 1) := gz_d tdX0_addCallWins_t0_ok 29 rfl
theorem dX0_addCallWins_60 : decode cX0_addCallWins 60 = .ok (.getfield 18, 3) := gz_d tdX0_addCallWins_t0_ok 30 rfl
theorem dX0_addCallWins_63 : decode cX0_addCallWins 63 = .ok (.iload 5, 2) := gz_d tdX0_addCallWins_t0_ok 31 rfl
theorem dX0_addCallWins_65 : decode cX0_addCallWins 65 = .ok (.iconst 4, 1) := gz_d tdX0_addCallWins_t0_ok 32 rfl
theorem dX0_addCallWins_66 : decode cX0_addCallWins 66 = .ok (.imul, 1) := gz_d tdX0_addCallWins_t0_ok 33 rfl
theorem dX0_addCallWins_67 : decode cX0_addCallWins 67 = .ok (.iload 9, 2) := gz_d tdX0_addCallWins_t0_ok 34 rfl
theorem dX0_addCallWins_69 : decode cX0_addCallWins 69 = .ok (.iadd, 1) := gz_d tdX0_addCallWins_t0_ok 35 rfl
theorem dX0_addCallWins_70 : decode cX0_addCallWins 70 = .ok (.invokestatic 93, 3) := gz_d tdX0_addCallWins_t0_ok 36 rfl
theorem dX0_addCallWins_73 : decode cX0_addCallWins 73 = .ok (.dadd, 1) := gz_d tdX0_addCallWins_t0_ok 37 rfl
theorem dX0_addCallWins_74 : decode cX0_addCallWins 74 = .ok (.dstore 6, 2) := gz_d tdX0_addCallWins_t0_ok 38 rfl
theorem dX0_addCallWins_76 : decode cX0_addCallWins 76 = .ok (.iinc 9 1, 3) := gz_d tdX0_addCallWins_t0_ok 39 rfl
theorem dX0_addCallWins_79 : decode cX0_addCallWins 79 = .ok (.goto (-64), 3) := gz_d tdX0_addCallWins_t0_ok 40 rfl
theorem dX0_addCallWins_82 : decode cX0_addCallWins 82 = .ok (.dload 6, 2) := gz_d tdX0_addCallWins_t0_ok 41 rfl
theorem dX0_addCallWins_84 : decode cX0_addCallWins 84 = .ok (.dreturn, 1) := gz_d tdX0_addCallWins_t0_ok 42 rfl
def tdX1_init_t0 : List (Nat × Instr × Nat) := [(0, .aload_n 0, 1), (1, .invokespecial 3, 3), (4, .aload_n 0, 1), (5, .bipush 16, 2), (7, .newarray .int, 2), (9, .putfield 9, 3), (12, .aload_n 0, 1), (13, .iconst 4, 1), (14, .newarray .int, 2), (16, .putfield 15, 3), (19, .aload_n 0, 1), (20, .iconst 3, 1), (21, .newarray .int, 2), (23, .putfield 18, 3), (26, .return_, 1)]
theorem tdX1_init_t0_ok : gz_dec cX1_init tdX1_init_t0 = true := by decide +kernel
theorem dX1_init_0 : decode cX1_init 0 = .ok (.aload_n 0, 1) := gz_d tdX1_init_t0_ok 0 rfl
theorem dX1_init_1 : decode cX1_init 1 = .ok (.invokespecial 3, 3) := gz_d tdX1_init_t0_ok 1 rfl
theorem dX1_init_4 : decode cX1_init 4 = .ok (.aload_n 0, 1) := gz_d tdX1_init_t0_ok 2 rfl
theorem dX1_init_5 : decode cX1_init 5 = .ok (.bipush 16, 2) := gz_d tdX1_init_t0_ok 3 rfl
theorem dX1_init_7 : decode cX1_init 7 = .ok (.newarray .int, 2) := gz_d tdX1_init_t0_ok 4 rfl
theorem dX1_init_9 : decode cX1_init 9 = .ok (.putfield 9, 3) := gz_d tdX1_init_t0_ok 5 rfl
theorem dX1_init_12 : decode cX1_init 12 = .ok (.aload_n 0, 1) := gz_d tdX1_init_t0_ok 6 rfl
theorem dX1_init_13 : decode cX1_init 13 = .ok (.iconst 4, 1) := gz_d tdX1_init_t0_ok 7 rfl
theorem dX1_init_14 : decode cX1_init 14 = .ok (.newarray .int, 2) := gz_d tdX1_init_t0_ok 8 rfl
theorem dX1_init_16 : decode cX1_init 16 = .ok (.putfield 15, 3) := gz_d tdX1_init_t0_ok 9 rfl
theorem dX1_init_19 : decode cX1_init 19 = .ok (.aload_n 0, 1) := gz_d tdX1_init_t0_ok 10 rfl
theorem dX1_init_20 : decode cX1_init 20 = .ok (.iconst 3, 1) := gz_d tdX1_init_t0_ok 11 rfl
theorem dX1_init_21 : decode cX1_init 21 = .ok (.newarray .int, 2) := gz_d tdX1_init_t0_ok 12 rfl
theorem dX1_init_23 : decode cX1_init 23 = .ok (.putfield 18, 3) := gz_d tdX1_init_t0_ok 13 rfl
theorem dX1_init_26 : decode cX1_init 26 = .ok (.return_, 1) := gz_d tdX1_init_t0_ok 14 rfl
def tdX1_fill_t0 : List (Nat × Instr × Nat) := [(0, .aload_n 0, 1), (1, .iload_n 1, 1), (2, .putfield 21, 3), (5, .aload_n 0, 1), (6, .iload_n 2, 1), (7, .putfield 25, 3), (10, .aload_n 0, 1), (11, .iconst 0, 1), (12, .putfield 28, 3), (15, .aload_n 0, 1), (16, .getfield 9, 3), (19, .iconst 0, 1), (20, .invokestatic 31, 3), (23, .aload_n 0, 1), (24, .getfield 18, 3), (27, .iconst 0, 1), (28, .invokestatic 31, 3), (31, .iconst 1, 1), (32, .istore_n 3, 1), (33, .iload_n 3, 1), (34, .ifCond .eq 37, 3), (37, .aload_n 0, 1), (38, .getfield 28, 3), (41, .iconst 4, 1), (42, .if_icmp .ge 29, 3), (45, .aload_n 0, 1), (46, .aload_n 0, 1), (47, .getfield 28, 3), (50, .invokevirtual 37, 3), (53, .aload_n 0, 1), (54, .dup, 1), (55, .getfield 28, 3), (58, .iconst 1, 1), (59, .iadd, 1), (60, .putfield 28, 3), (63, .aload_n 0, 1), (64, .invokevirtual 41, 3), (67, .istore_n 3, 1), (68, .goto (-35), 3), (71, .return_, 1)]
theorem tdX1_fill_t0_ok : gz_dec cX1_fill tdX1_fill_t0 = true := by decide +kernel
theorem dX1_fill_0 : decode cX1_fill 0 = .ok (.aload_n 0, 1) := gz_d tdX1_fill_t0_ok 0 rfl
theorem dX1_fill_1 : decode cX1_fill 1 = .ok (.iload_n 1, 1) := gz_d tdX1_fill_t0_ok 1 rfl
theorem dX1_fill_2 : decode cX1_fill 2 = .ok (.putfield 21, 3) := gz_d tdX1_fill_t0_ok 2 rfl
theorem dX1_fill_5 : decode cX1_fill 5 = .ok (.aload_n 0, 1) := gz_d tdX1_fill_t0_ok 3 rfl
theorem dX1_fill_6 : decode cX1_fill 6 = .ok (.iload_n 2, 1) := gz_d tdX1_fill_t0_ok 4 rfl
theorem dX1_fill_7 : decode cX1_fill 7 = .ok (.putfield 25, 3) := gz_d tdX1_fill_t0_ok 5 rfl
theorem dX1_fill_10 : decode cX1_fill 10 = .ok (.aload_n 0, 1) := gz_d tdX1_fill_t0_ok 6 rfl
theorem dX1_fill_11 : decode cX1_fill 11 = .ok (.iconst 0, 1) := gz_d tdX1_fill_t0_ok 7 rfl
theorem dX1_fill_12 : decode cX1_fill 12 = .ok (.putfield 28, 3) := gz_d tdX1_fill_t0_ok 8 rfl
theorem dX1_fill_15 : decode cX1_fill 15 = .ok (.aload_n 0, 1) := gz_d tdX1_fill_t0_ok 9 rfl
theorem dX1_fill_16 : decode cX1_fill 16 = .ok (.getfield 9, 3) := gz_d tdX1_fill_t0_ok 10 rfl
theorem dX1_fill_19 : decode cX1_fill 19 = .ok (.iconst 0, 1) := gz_d tdX1_fill_t0_ok 11 rfl
theorem dX1_fill_20 : decode cX1_fill 20 = .ok (.invokestatic 31, 3) := gz_d tdX1_fill_t0_ok 12 rfl
theorem dX1_fill_23 : decode cX1_fill 23 = .ok (.aload_n 0, 1) := gz_d tdX1_fill_t0_ok 13 rfl
theorem dX1_fill_24 : decode cX1_fill 24 = .ok (.getfield 18, 3) := gz_d tdX1_fill_t0_ok 14 rfl
theorem dX1_fill_27 : decode cX1_fill 27 = .ok (.iconst 0, 1) := gz_d tdX1_fill_t0_ok 15 rfl
theorem dX1_fill_28 : decode cX1_fill 28 = .ok (.invokestatic 31, 3) := gz_d tdX1_fill_t0_ok 16 rfl
theorem dX1_fill_31 : decode cX1_fill 31 = .ok (.iconst 1, 1) := gz_d tdX1_fill_t0_ok 17 rfl
theorem dX1_fill_32 : decode cX1_fill 32 = .ok (.istore_n 3, 1) := gz_d tdX1_fill_t0_ok 18 rfl
theorem dX1_fill_33 : decode cX1_fill 33 = .ok (.iload_n 3, 1) := gz_d tdX1_fill_t0_ok 19 rfl
theorem dX1_fill_34 : decode cX1_fill 34 = .ok (.ifCond .eq 37, 3) := gz_d tdX1_fill_t0_ok 20 rfl
theorem dX1_fill_37 : decode cX1_fill 37 = .ok (.aload_n 0, 1) := gz_d tdX1_fill_t0_ok 21 rfl
theorem dX1_fill_38 : decode cX1_fill 38 = .ok (.getfield 28, 3) := gz_d tdX1_fill_t0_ok 22 rfl
theorem dX1_fill_41 : decode cX1_fill 41 = .ok (.iconst 4, 1) := gz_d tdX1_fill_t0_ok 23 rfl
theorem dX1_fill_42 : decode cX1_fill 42 = .ok (.if_icmp .ge 29, 3) := gz_d tdX1_fill_t0_ok 24 rfl
theorem dX1_fill_45 : decode cX1_fill 45 = .ok (.aload_n 0, 1) := gz_d tdX1_fill_t0_ok 25 rfl
theorem dX1_fill_46 : decode cX1_fill 46 = .ok (.aload_n 0, 1) := gz_d tdX1_fill_t0_ok 26 rfl
theorem dX1_fill_47 : decode cX1_fill 47 = .ok (.getfield 28, 3) := gz_d tdX1_fill_t0_ok 27 rfl
theorem dX1_fill_50 : decode cX1_fill 50 = .ok (.invokevirtual 37, 3) := gz_d tdX1_fill_t0_ok 28 rfl
theorem dX1_fill_53 : decode cX1_fill 53 = .ok (.aload_n 0, 1) := gz_d tdX1_fill_t0_ok 29 rfl
theorem dX1_fill_54 : decode cX1_fill 54 = .ok (.dup, 1) := gz_d tdX1_fill_t0_ok 30 rfl
theorem dX1_fill_55 : decode cX1_fill 55 = .ok (.getfield 28, 3) := gz_d tdX1_fill_t0_ok 31 rfl
theorem dX1_fill_58 : decode cX1_fill 58 = .ok (.iconst 1, 1) := gz_d tdX1_fill_t0_ok 32 rfl
theorem dX1_fill_59 : decode cX1_fill 59 = .ok (.iadd, 1) := gz_d tdX1_fill_t0_ok 33 rfl
theorem dX1_fill_60 : decode cX1_fill 60 = .ok (.putfield 28, 3) := gz_d tdX1_fill_t0_ok 34 rfl
theorem dX1_fill_63 : decode cX1_fill 63 = .ok (.aload_n 0, 1) := gz_d tdX1_fill_t0_ok 35 rfl
theorem dX1_fill_64 : decode cX1_fill 64 = .ok (.invokevirtual 41, 3) := gz_d tdX1_fill_t0_ok 36 rfl
theorem dX1_fill_67 : decode cX1_fill 67 = .ok (.istore_n 3, 1) := gz_d tdX1_fill_t0_ok 37 rfl
theorem dX1_fill_68 : decode cX1_fill 68 = .ok (.goto (-35), 3) := gz_d tdX1_fill_t0_ok 38 rfl
theorem dX1_fill_71 : decode cX1_fill 71 = .ok (.return_, 1) := gz_d tdX1_fill_t0_ok 39 rfl
def tdX1_writeHand_t0 : List (Nat × Instr × Nat) := [(0, .iconst 0, 1), (1, .istore_n 2, 1), (2, .iload_n 2, 1), (3, .aload_n 0, 1), (4, .getfield 21, 3), (7, .if_icmp .ge 40, 3), (10, .iload_n 1, 1), (11, .aload_n 0, 1), (12, .getfield 18, 3), (15, .iload_n 2, 1), (16, .invokestatic 45, 3), (19, .invokestatic 49, 3), (22, .istore_n 3, 1), (23, .aload_n 0, 1), (24, .getfield 9, 3), (27, .iload_n 3, 1), (28, .aload_n 0, 1), (29, .getfield 9, 3), (32, .iload_n 3, 1), (33, .invokestatic 45, 3), (36, .iconst 1, 1), (37, .iadd, 1), (38, .invokestatic 53, 3), (41, .iinc 2 1, 3), (44, .goto (-42), 3), (47, .aload_n 0, 1), (48, .getfield 21, 3), (51, .invokestatic 57, 3), (54, .istore_n 2, 1), (55, .iconst 0, 1), (56, .istore_n 3, 1), (57, .iload_n 3, 1), (58, .aload_n 0, 1), (59, .getfield 25, 3), (62, .if_icmp .ge 23, 3), (65, .iload_n 2, 1), (66, .aload_n 0, 1), (67, .iload_n 1, 1), (68, .iload_n 3, 1), (69, .invokevirtual 61, 3), (72, .invokestatic 57, 3), (75, .invokestatic 64, 3), (78, .istore_n 2, 1), (79, .iinc 3 1, 3), (82, .goto (-25), 3), (85, .aload_n 0, 1), (86, .getfield 15, 3), (89, .iload_n 1, 1), (90, .iload_n 2, 1), (91, .invokestatic 53, 3), (94, .return_, 1)]
theorem tdX1_writeHand_t0_ok : gz_dec cX1_writeHand tdX1_writeHand_t0 = true := by decide +kernel
theorem dX1_writeHand_0 : decode cX1_writeHand 0 = .ok (.iconst 0, 1) := gz_d tdX1_writeHand_t0_ok 0 rfl
theorem dX1_writeHand_1 : decode cX1_writeHand 1 = .ok (.istore_n 2, 1) := gz_d tdX1_writeHand_t0_ok 1 rfl
theorem dX1_writeHand_2 : decode cX1_writeHand 2 = .ok (.iload_n 2, 1) := gz_d tdX1_writeHand_t0_ok 2 rfl
theorem dX1_writeHand_3 : decode cX1_writeHand 3 = .ok (.aload_n 0, 1) := gz_d tdX1_writeHand_t0_ok 3 rfl
theorem dX1_writeHand_4 : decode cX1_writeHand 4 = .ok (.getfield 21, 3) := gz_d tdX1_writeHand_t0_ok 4 rfl
theorem dX1_writeHand_7 : decode cX1_writeHand 7 = .ok (.if_icmp .ge 40, 3) := gz_d tdX1_writeHand_t0_ok 5 rfl
theorem dX1_writeHand_10 : decode cX1_writeHand 10 = .ok (.iload_n 1, 1) := gz_d tdX1_writeHand_t0_ok 6 rfl
theorem dX1_writeHand_11 : decode cX1_writeHand 11 = .ok (.aload_n 0, 1) := gz_d tdX1_writeHand_t0_ok 7 rfl
theorem dX1_writeHand_12 : decode cX1_writeHand 12 = .ok (.getfield 18, 3) := gz_d tdX1_writeHand_t0_ok 8 rfl
theorem dX1_writeHand_15 : decode cX1_writeHand 15 = .ok (.iload_n 2, 1) := gz_d tdX1_writeHand_t0_ok 9 rfl
theorem dX1_writeHand_16 : decode cX1_writeHand 16 = .ok (.invokestatic 45, 3) := gz_d tdX1_writeHand_t0_ok 10 rfl
theorem dX1_writeHand_19 : decode cX1_writeHand 19 = .ok (.invokestatic 49, 3) := gz_d tdX1_writeHand_t0_ok 11 rfl
theorem dX1_writeHand_22 : decode cX1_writeHand 22 = .ok (.istore_n 3, 1) := gz_d tdX1_writeHand_t0_ok 12 rfl
theorem dX1_writeHand_23 : decode cX1_writeHand 23 = .ok (.aload_n 0, 1) := gz_d tdX1_writeHand_t0_ok 13 rfl
theorem dX1_writeHand_24 : decode cX1_writeHand 24 = .ok (.getfield 9, 3) := gz_d tdX1_writeHand_t0_ok 14 rfl
theorem dX1_writeHand_27 : decode cX1_writeHand 27 = .ok (.iload_n 3, 1) := gz_d tdX1_writeHand_t0_ok 15 rfl
theorem dX1_writeHand_28 : decode cX1_writeHand 28 = .ok (.aload_n 0, 1) := gz_d tdX1_writeHand_t0_ok 16 rfl
theorem dX1_writeHand_29 : decode cX1_writeHand 29 = .ok (.getfield 9, 3) := gz_d tdX1_writeHand_t0_ok 17 rfl
theorem dX1_writeHand_32 : decode cX1_writeHand 32 = .ok (.iload_n 3, 1) := gz_d tdX1_writeHand_t0_ok 18 rfl
theorem dX1_writeHand_33 : decode cX1_writeHand 33 = .ok (.invokestatic 45, 3) := gz_d tdX1_writeHand_t0_ok 19 rfl
theorem dX1_writeHand_36 : decode cX1_writeHand 36 = .ok (.iconst 1, 1) := gz_d tdX1_writeHand_t0_ok 20 rfl
theorem dX1_writeHand_37 : decode cX1_writeHand 37 = .ok (.iadd, 1) := gz_d tdX1_writeHand_t0_ok 21 rfl
theorem dX1_writeHand_38 : decode cX1_writeHand 38 = .ok (.invokestatic 53, 3) := gz_d tdX1_writeHand_t0_ok 22 rfl
theorem dX1_writeHand_41 : decode cX1_writeHand 41 = .ok (.iinc 2 1, 3) := gz_d tdX1_writeHand_t0_ok 23 rfl
theorem dX1_writeHand_44 : decode cX1_writeHand 44 = .ok (.goto (-42), 3) := gz_d tdX1_writeHand_t0_ok 24 rfl
theorem dX1_writeHand_47 : decode cX1_writeHand 47 = .ok (.aload_n 0, 1) := gz_d tdX1_writeHand_t0_ok 25 rfl
theorem dX1_writeHand_48 : decode cX1_writeHand 48 = .ok (.getfield 21, 3) := gz_d tdX1_writeHand_t0_ok 26 rfl
theorem dX1_writeHand_51 : decode cX1_writeHand 51 = .ok (.invokestatic 57, 3) := gz_d tdX1_writeHand_t0_ok 27 rfl
theorem dX1_writeHand_54 : decode cX1_writeHand 54 = .ok (.istore_n 2, 1) := gz_d tdX1_writeHand_t0_ok 28 rfl
theorem dX1_writeHand_55 : decode cX1_writeHand 55 = .ok (.iconst 0, 1) := gz_d tdX1_writeHand_t0_ok 29 rfl
theorem dX1_writeHand_56 : decode cX1_writeHand 56 = .ok (.istore_n 3, 1) := gz_d tdX1_writeHand_t0_ok 30 rfl
theorem dX1_writeHand_57 : decode cX1_writeHand 57 = .ok (.iload_n 3, 1) := gz_d tdX1_writeHand_t0_ok 31 rfl
theorem dX1_writeHand_58 : decode cX1_writeHand 58 = .ok (.aload_n 0, 1) := gz_d tdX1_writeHand_t0_ok 32 rfl
theorem dX1_writeHand_59 : decode cX1_writeHand 59 = .ok (.getfield 25, 3) := gz_d tdX1_writeHand_t0_ok 33 rfl
theorem dX1_writeHand_62 : decode cX1_writeHand 62 = .ok (.if_icmp .ge 23, 3) := gz_d tdX1_writeHand_t0_ok 34 rfl
theorem dX1_writeHand_65 : decode cX1_writeHand 65 = .ok (.iload_n 2, 1) := gz_d tdX1_writeHand_t0_ok 35 rfl
theorem dX1_writeHand_66 : decode cX1_writeHand 66 = .ok (.aload_n 0, 1) := gz_d tdX1_writeHand_t0_ok 36 rfl
theorem dX1_writeHand_67 : decode cX1_writeHand 67 = .ok (.iload_n 1, 1) := gz_d tdX1_writeHand_t0_ok 37 rfl
theorem dX1_writeHand_68 : decode cX1_writeHand 68 = .ok (.iload_n 3, 1) := gz_d tdX1_writeHand_t0_ok 38 rfl
theorem dX1_writeHand_69 : decode cX1_writeHand 69 = .ok (.invokevirtual 61, 3) := gz_d tdX1_writeHand_t0_ok 39 rfl
theorem dX1_writeHand_72 : decode cX1_writeHand 72 = .ok (.invokestatic 57, 3) := gz_d tdX1_writeHand_t0_ok 40 rfl
theorem dX1_writeHand_75 : decode cX1_writeHand 75 = .ok (.invokestatic 64, 3) := gz_d tdX1_writeHand_t0_ok 41 rfl
theorem dX1_writeHand_78 : decode cX1_writeHand 78 = .ok (.istore_n 2, 1) := gz_d tdX1_writeHand_t0_ok 42 rfl
theorem dX1_writeHand_79 : decode cX1_writeHand 79 = .ok (.iinc 3 1, 3) := gz_d tdX1_writeHand_t0_ok 43 rfl
theorem dX1_writeHand_82 : decode cX1_writeHand 82 = .ok (.goto (-25), 3) := gz_d tdX1_writeHand_t0_ok 44 rfl
theorem dX1_writeHand_85 : decode cX1_writeHand 85 = .ok (.aload_n 0, 1) := gz_d tdX1_writeHand_t0_ok 45 rfl
theorem dX1_writeHand_86 : decode cX1_writeHand 86 = .ok (.getfield 15, 3) := gz_d tdX1_writeHand_t0_ok 46 rfl
theorem dX1_writeHand_89 : decode cX1_writeHand 89 = .ok (.iload_n 1, 1) := gz_d tdX1_writeHand_t0_ok 47 rfl
theorem dX1_writeHand_90 : decode cX1_writeHand 90 = .ok (.iload_n 2, 1) := gz_d tdX1_writeHand_t0_ok 48 rfl
theorem dX1_writeHand_91 : decode cX1_writeHand 91 = .ok (.invokestatic 53, 3) := gz_d tdX1_writeHand_t0_ok 49 rfl
theorem dX1_writeHand_94 : decode cX1_writeHand 94 = .ok (.return_, 1) := gz_d tdX1_writeHand_t0_ok 50 rfl
def tdX1_stepRow_t0 : List (Nat × Instr × Nat) := [(0, .aload_n 0, 1), (1, .getfield 21, 3), (4, .iconst 1, 1), (5, .isub, 1), (6, .istore_n 1, 1), (7, .iload_n 1, 1), (8, .ifCond .lt 55, 3), (11, .aload_n 0, 1), (12, .getfield 18, 3), (15, .iload_n 1, 1), (16, .invokestatic 45, 3), (19, .iconst 1, 1), (20, .iadd, 1), (21, .istore_n 2, 1), (22, .iload_n 2, 1), (23, .aload_n 0, 1), (24, .getfield 25, 3), (27, .if_icmp .ge 30, 3), (30, .iload_n 1, 1), (31, .istore_n 3, 1), (32, .iload_n 3, 1), (33, .aload_n 0, 1), (34, .getfield 21, 3), (37, .if_icmp .ge 18, 3), (40, .aload_n 0, 1), (41, .getfield 18, 3), (44, .iload_n 3, 1), (45, .iload_n 2, 1), (46, .invokestatic 53, 3), (49, .iinc 3 1, 3), (52, .goto (-20), 3), (55, .iconst 1, 1), (56, .ireturn, 1), (57, .iinc 1 (-1), 3), (60, .goto (-53), 3), (63, .iconst 0, 1), (64, .ireturn, 1)]
theorem tdX1_stepRow_t0_ok : gz_dec cX1_stepRow tdX1_stepRow_t0 = true := by decide +kernel
theorem dX1_stepRow_0 : decode cX1_stepRow 0 = .ok (.aload_n 0, 1) := gz_d tdX1_stepRow_t0_ok 0 rfl
theorem dX1_stepRow_1 : decode cX1_stepRow 1 = .ok (.getfield 21, 3) := gz_d tdX1_stepRow_t0_ok 1 rfl
theorem dX1_stepRow_4 : decode cX1_stepRow 4 = .ok (.iconst 1, 1) := gz_d tdX1_stepRow_t0_ok 2 rfl
theorem dX1_stepRow_5 : decode cX1_stepRow 5 = .ok (.isub, 1) := gz_d tdX1_stepRow_t0_ok 3 rfl
theorem dX1_stepRow_6 : decode cX1_stepRow 6 = .ok (.istore_n 1, 1) := gz_d tdX1_stepRow_t0_ok 4 rfl
theorem dX1_stepRow_7 : decode cX1_stepRow 7 = .ok (.iload_n 1, 1) := gz_d tdX1_stepRow_t0_ok 5 rfl
theorem dX1_stepRow_8 : decode cX1_stepRow 8 = .ok (.ifCond .lt 55, 3) := gz_d tdX1_stepRow_t0_ok 6 rfl
theorem dX1_stepRow_11 : decode cX1_stepRow 11 = .ok (.aload_n 0, 1) := gz_d tdX1_stepRow_t0_ok 7 rfl
theorem dX1_stepRow_12 : decode cX1_stepRow 12 = .ok (.getfield 18, 3) := gz_d tdX1_stepRow_t0_ok 8 rfl
theorem dX1_stepRow_15 : decode cX1_stepRow 15 = .ok (.iload_n 1, 1) := gz_d tdX1_stepRow_t0_ok 9 rfl
theorem dX1_stepRow_16 : decode cX1_stepRow 16 = .ok (.invokestatic 45, 3) := gz_d tdX1_stepRow_t0_ok 10 rfl
theorem dX1_stepRow_19 : decode cX1_stepRow 19 = .ok (.iconst 1, 1) := gz_d tdX1_stepRow_t0_ok 11 rfl
theorem dX1_stepRow_20 : decode cX1_stepRow 20 = .ok (.iadd, 1) := gz_d tdX1_stepRow_t0_ok 12 rfl
theorem dX1_stepRow_21 : decode cX1_stepRow 21 = .ok (.istore_n 2, 1) := gz_d tdX1_stepRow_t0_ok 13 rfl
theorem dX1_stepRow_22 : decode cX1_stepRow 22 = .ok (.iload_n 2, 1) := gz_d tdX1_stepRow_t0_ok 14 rfl
theorem dX1_stepRow_23 : decode cX1_stepRow 23 = .ok (.aload_n 0, 1) := gz_d tdX1_stepRow_t0_ok 15 rfl
theorem dX1_stepRow_24 : decode cX1_stepRow 24 = .ok (.getfield 25, 3) := gz_d tdX1_stepRow_t0_ok 16 rfl
theorem dX1_stepRow_27 : decode cX1_stepRow 27 = .ok (.if_icmp .ge 30, 3) := gz_d tdX1_stepRow_t0_ok 17 rfl
theorem dX1_stepRow_30 : decode cX1_stepRow 30 = .ok (.iload_n 1, 1) := gz_d tdX1_stepRow_t0_ok 18 rfl
theorem dX1_stepRow_31 : decode cX1_stepRow 31 = .ok (.istore_n 3, 1) := gz_d tdX1_stepRow_t0_ok 19 rfl
theorem dX1_stepRow_32 : decode cX1_stepRow 32 = .ok (.iload_n 3, 1) := gz_d tdX1_stepRow_t0_ok 20 rfl
theorem dX1_stepRow_33 : decode cX1_stepRow 33 = .ok (.aload_n 0, 1) := gz_d tdX1_stepRow_t0_ok 21 rfl
theorem dX1_stepRow_34 : decode cX1_stepRow 34 = .ok (.getfield 21, 3) := gz_d tdX1_stepRow_t0_ok 22 rfl
theorem dX1_stepRow_37 : decode cX1_stepRow 37 = .ok (.if_icmp .ge 18, 3) := gz_d tdX1_stepRow_t0_ok 23 rfl
theorem dX1_stepRow_40 : decode cX1_stepRow 40 = .ok (.aload_n 0, 1) := gz_d tdX1_stepRow_t0_ok 24 rfl
theorem dX1_stepRow_41 : decode cX1_stepRow 41 = .ok (.getfield 18, 3) := gz_d tdX1_stepRow_t0_ok 25 rfl
theorem dX1_stepRow_44 : decode cX1_stepRow 44 = .ok (.iload_n 3, 1) := gz_d tdX1_stepRow_t0_ok 26 rfl
theorem dX1_stepRow_45 : decode cX1_stepRow 45 = .ok (.iload_n 2, 1) := gz_d tdX1_stepRow_t0_ok 27 rfl
theorem dX1_stepRow_46 : decode cX1_stepRow 46 = .ok (.invokestatic 53, 3) := gz_d tdX1_stepRow_t0_ok 28 rfl
theorem dX1_stepRow_49 : decode cX1_stepRow 49 = .ok (.iinc 3 1, 3) := gz_d tdX1_stepRow_t0_ok 29 rfl
theorem dX1_stepRow_52 : decode cX1_stepRow 52 = .ok (.goto (-20), 3) := gz_d tdX1_stepRow_t0_ok 30 rfl
theorem dX1_stepRow_55 : decode cX1_stepRow 55 = .ok (.iconst 1, 1) := gz_d tdX1_stepRow_t0_ok 31 rfl
theorem dX1_stepRow_56 : decode cX1_stepRow 56 = .ok (.ireturn, 1) := gz_d tdX1_stepRow_t0_ok 32 rfl
theorem dX1_stepRow_57 : decode cX1_stepRow 57 = .ok (.iinc 1 (-1), 3) := gz_d tdX1_stepRow_t0_ok 33 rfl
theorem dX1_stepRow_60 : decode cX1_stepRow 60 = .ok (.goto (-53), 3) := gz_d tdX1_stepRow_t0_ok 34 rfl
theorem dX1_stepRow_63 : decode cX1_stepRow 63 = .ok (.iconst 0, 1) := gz_d tdX1_stepRow_t0_ok 35 rfl
theorem dX1_stepRow_64 : decode cX1_stepRow 64 = .ok (.ireturn, 1) := gz_d tdX1_stepRow_t0_ok 36 rfl
def tdX1_factorial_t0 : List (Nat × Instr × Nat) := [(0, .iconst 1, 1), (1, .istore_n 1, 1), (2, .iconst 2, 1), (3, .istore_n 2, 1), (4, .iload_n 2, 1), (5, .iload_n 0, 1), (6, .if_icmp .gt 13, 3), (9, .iload_n 1, 1), (10, .iload_n 2, 1), (11, .imul, 1), (12, .istore_n 1, 1), (13, .iinc 2 1, 3), (16, .goto (-12), 3), (19, .iload_n 1, 1), (20, .ireturn, 1)]
theorem tdX1_factorial_t0_ok : gz_dec cX1_factorial tdX1_factorial_t0 = true := by decide +kernel
theorem dX1_factorial_0 : decode cX1_factorial 0 = .ok (.iconst 1, 1) := gz_d tdX1_factorial_t0_ok 0 rfl
theorem dX1_factorial_1 : decode cX1_factorial 1 = .ok (.istore_n 1, 1) := gz_d tdX1_factorial_t0_ok 1 rfl
theorem dX1_factorial_2 : decode cX1_factorial 2 = .ok (.iconst 2, 1) := gz_d tdX1_factorial_t0_ok 2 rfl
theorem dX1_factorial_3 : decode cX1_factorial 3 = .ok (.istore_n 2, 1) := gz_d tdX1_factorial_t0_ok 3 rfl
theorem dX1_factorial_4 : decode cX1_factorial 4 = .ok (.iload_n 2, 1) := gz_d tdX1_factorial_t0_ok 4 rfl
theorem dX1_factorial_5 : decode cX1_factorial 5 = .ok (.iload_n 0, 1) := gz_d tdX1_factorial_t0_ok 5 rfl
theorem dX1_factorial_6 : decode cX1_factorial 6 = .ok (.if_icmp .gt 13, 3) := gz_d tdX1_factorial_t0_ok 6 rfl
theorem dX1_factorial_9 : decode cX1_factorial 9 = .ok (.iload_n 1, 1) := gz_d tdX1_factorial_t0_ok 7 rfl
theorem dX1_factorial_10 : decode cX1_factorial 10 = .ok (.iload_n 2, 1) := gz_d tdX1_factorial_t0_ok 8 rfl
theorem dX1_factorial_11 : decode cX1_factorial 11 = .ok (.imul, 1) := gz_d tdX1_factorial_t0_ok 9 rfl
theorem dX1_factorial_12 : decode cX1_factorial 12 = .ok (.istore_n 1, 1) := gz_d tdX1_factorial_t0_ok 10 rfl
theorem dX1_factorial_13 : decode cX1_factorial 13 = .ok (.iinc 2 1, 3) := gz_d tdX1_factorial_t0_ok 11 rfl
theorem dX1_factorial_16 : decode cX1_factorial 16 = .ok (.goto (-12), 3) := gz_d tdX1_factorial_t0_ok 12 rfl
theorem dX1_factorial_19 : decode cX1_factorial 19 = .ok (.iload_n 1, 1) := gz_d tdX1_factorial_t0_ok 13 rfl
theorem dX1_factorial_20 : decode cX1_factorial 20 = .ok (.ireturn, 1) := gz_d tdX1_factorial_t0_ok 14 rfl
def tdX1_spotOf_t0 : List (Nat × Instr × Nat) := [(0, .iload_n 0, 1), (1, .iconst 4, 1), (2, .imul, 1), (3, .iload_n 1, 1), (4, .iadd, 1), (5, .ireturn, 1)]
theorem tdX1_spotOf_t0_ok : gz_dec cX1_spotOf tdX1_spotOf_t0 = true := by decide +kernel
theorem dX1_spotOf_0 : decode cX1_spotOf 0 = .ok (.iload_n 0, 1) := gz_d tdX1_spotOf_t0_ok 0 rfl
theorem dX1_spotOf_1 : decode cX1_spotOf 1 = .ok (.iconst 4, 1) := gz_d tdX1_spotOf_t0_ok 1 rfl
theorem dX1_spotOf_2 : decode cX1_spotOf 2 = .ok (.imul, 1) := gz_d tdX1_spotOf_t0_ok 2 rfl
theorem dX1_spotOf_3 : decode cX1_spotOf 3 = .ok (.iload_n 1, 1) := gz_d tdX1_spotOf_t0_ok 3 rfl
theorem dX1_spotOf_4 : decode cX1_spotOf 4 = .ok (.iadd, 1) := gz_d tdX1_spotOf_t0_ok 4 rfl
theorem dX1_spotOf_5 : decode cX1_spotOf 5 = .ok (.ireturn, 1) := gz_d tdX1_spotOf_t0_ok 5 rfl
def tdX1_pipsOf_t0 : List (Nat × Instr × Nat) := [(0, .aload_n 0, 1), (1, .getfield 9, 3), (4, .iload_n 1, 1), (5, .iload_n 2, 1), (6, .invokestatic 49, 3), (9, .invokestatic 45, 3), (12, .ireturn, 1)]
theorem tdX1_pipsOf_t0_ok : gz_dec cX1_pipsOf tdX1_pipsOf_t0 = true := by decide +kernel
theorem dX1_pipsOf_0 : decode cX1_pipsOf 0 = .ok (.aload_n 0, 1) := gz_d tdX1_pipsOf_t0_ok 0 rfl
theorem dX1_pipsOf_1 : decode cX1_pipsOf 1 = .ok (.getfield 9, 3) := gz_d tdX1_pipsOf_t0_ok 1 rfl
theorem dX1_pipsOf_4 : decode cX1_pipsOf 4 = .ok (.iload_n 1, 1) := gz_d tdX1_pipsOf_t0_ok 2 rfl
theorem dX1_pipsOf_5 : decode cX1_pipsOf 5 = .ok (.iload_n 2, 1) := gz_d tdX1_pipsOf_t0_ok 3 rfl
theorem dX1_pipsOf_6 : decode cX1_pipsOf 6 = .ok (.invokestatic 49, 3) := gz_d tdX1_pipsOf_t0_ok 4 rfl
theorem dX1_pipsOf_9 : decode cX1_pipsOf 9 = .ok (.invokestatic 45, 3) := gz_d tdX1_pipsOf_t0_ok 5 rfl
theorem dX1_pipsOf_12 : decode cX1_pipsOf 12 = .ok (.ireturn, 1) := gz_d tdX1_pipsOf_t0_ok 6 rfl
def tdX1_waysOf_t0 : List (Nat × Instr × Nat) := [(0, .aload_n 0, 1), (1, .getfield 15, 3), (4, .iload_n 1, 1), (5, .invokestatic 45, 3), (8, .ireturn, 1)]
theorem tdX1_waysOf_t0_ok : gz_dec cX1_waysOf tdX1_waysOf_t0 = true := by decide +kernel
theorem dX1_waysOf_0 : decode cX1_waysOf 0 = .ok (.aload_n 0, 1) := gz_d tdX1_waysOf_t0_ok 0 rfl
theorem dX1_waysOf_1 : decode cX1_waysOf 1 = .ok (.getfield 15, 3) := gz_d tdX1_waysOf_t0_ok 1 rfl
theorem dX1_waysOf_4 : decode cX1_waysOf 4 = .ok (.iload_n 1, 1) := gz_d tdX1_waysOf_t0_ok 2 rfl
theorem dX1_waysOf_5 : decode cX1_waysOf 5 = .ok (.invokestatic 45, 3) := gz_d tdX1_waysOf_t0_ok 3 rfl
theorem dX1_waysOf_8 : decode cX1_waysOf 8 = .ok (.ireturn, 1) := gz_d tdX1_waysOf_t0_ok 4 rfl
def tdX1_allWays_t0 : List (Nat × Instr × Nat) := [(0, .iconst 1, 1), (1, .istore_n 1, 1), (2, .iconst 0, 1), (3, .istore_n 2, 1), (4, .iload_n 2, 1), (5, .aload_n 0, 1), (6, .getfield 21, 3), (9, .if_icmp .ge 16, 3), (12, .iload_n 1, 1), (13, .aload_n 0, 1), (14, .getfield 25, 3), (17, .imul, 1), (18, .istore_n 1, 1), (19, .iinc 2 1, 3), (22, .goto (-18), 3), (25, .iload_n 1, 1), (26, .ireturn, 1)]
theorem tdX1_allWays_t0_ok : gz_dec cX1_allWays tdX1_allWays_t0 = true := by decide +kernel
theorem dX1_allWays_0 : decode cX1_allWays 0 = .ok (.iconst 1, 1) := gz_d tdX1_allWays_t0_ok 0 rfl
theorem dX1_allWays_1 : decode cX1_allWays 1 = .ok (.istore_n 1, 1) := gz_d tdX1_allWays_t0_ok 1 rfl
theorem dX1_allWays_2 : decode cX1_allWays 2 = .ok (.iconst 0, 1) := gz_d tdX1_allWays_t0_ok 2 rfl
theorem dX1_allWays_3 : decode cX1_allWays 3 = .ok (.istore_n 2, 1) := gz_d tdX1_allWays_t0_ok 3 rfl
theorem dX1_allWays_4 : decode cX1_allWays 4 = .ok (.iload_n 2, 1) := gz_d tdX1_allWays_t0_ok 4 rfl
theorem dX1_allWays_5 : decode cX1_allWays 5 = .ok (.aload_n 0, 1) := gz_d tdX1_allWays_t0_ok 5 rfl
theorem dX1_allWays_6 : decode cX1_allWays 6 = .ok (.getfield 21, 3) := gz_d tdX1_allWays_t0_ok 6 rfl
theorem dX1_allWays_9 : decode cX1_allWays 9 = .ok (.if_icmp .ge 16, 3) := gz_d tdX1_allWays_t0_ok 7 rfl
theorem dX1_allWays_12 : decode cX1_allWays 12 = .ok (.iload_n 1, 1) := gz_d tdX1_allWays_t0_ok 8 rfl
theorem dX1_allWays_13 : decode cX1_allWays 13 = .ok (.aload_n 0, 1) := gz_d tdX1_allWays_t0_ok 9 rfl
theorem dX1_allWays_14 : decode cX1_allWays 14 = .ok (.getfield 25, 3) := gz_d tdX1_allWays_t0_ok 10 rfl
theorem dX1_allWays_17 : decode cX1_allWays 17 = .ok (.imul, 1) := gz_d tdX1_allWays_t0_ok 11 rfl
theorem dX1_allWays_18 : decode cX1_allWays 18 = .ok (.istore_n 1, 1) := gz_d tdX1_allWays_t0_ok 12 rfl
theorem dX1_allWays_19 : decode cX1_allWays 19 = .ok (.iinc 2 1, 3) := gz_d tdX1_allWays_t0_ok 13 rfl
theorem dX1_allWays_22 : decode cX1_allWays 22 = .ok (.goto (-18), 3) := gz_d tdX1_allWays_t0_ok 14 rfl
theorem dX1_allWays_25 : decode cX1_allWays 25 = .ok (.iload_n 1, 1) := gz_d tdX1_allWays_t0_ok 15 rfl
theorem dX1_allWays_26 : decode cX1_allWays 26 = .ok (.ireturn, 1) := gz_d tdX1_allWays_t0_ok 16 rfl
def tdX1_find_t0 : List (Nat × Instr × Nat) := [(0, .iconst 0, 1), (1, .istore_n 2, 1), (2, .iload_n 2, 1), (3, .aload_n 0, 1), (4, .getfield 28, 3), (7, .if_icmp .ge 20, 3), (10, .aload_n 0, 1), (11, .iload_n 2, 1), (12, .aload_n 1, 1), (13, .invokevirtual 67, 3), (16, .ifCond .eq 5, 3), (19, .iload_n 2, 1), (20, .ireturn, 1), (21, .iinc 2 1, 3), (24, .goto (-22), 3), (27, .iconst 0, 1), (28, .ireturn, 1)]
theorem tdX1_find_t0_ok : gz_dec cX1_find tdX1_find_t0 = true := by decide +kernel
theorem dX1_find_0 : decode cX1_find 0 = .ok (.iconst 0, 1) := gz_d tdX1_find_t0_ok 0 rfl
theorem dX1_find_1 : decode cX1_find 1 = .ok (.istore_n 2, 1) := gz_d tdX1_find_t0_ok 1 rfl
theorem dX1_find_2 : decode cX1_find 2 = .ok (.iload_n 2, 1) := gz_d tdX1_find_t0_ok 2 rfl
theorem dX1_find_3 : decode cX1_find 3 = .ok (.aload_n 0, 1) := gz_d tdX1_find_t0_ok 3 rfl
theorem dX1_find_4 : decode cX1_find 4 = .ok (.getfield 28, 3) := gz_d tdX1_find_t0_ok 4 rfl
theorem dX1_find_7 : decode cX1_find 7 = .ok (.if_icmp .ge 20, 3) := gz_d tdX1_find_t0_ok 5 rfl
theorem dX1_find_10 : decode cX1_find 10 = .ok (.aload_n 0, 1) := gz_d tdX1_find_t0_ok 6 rfl
theorem dX1_find_11 : decode cX1_find 11 = .ok (.iload_n 2, 1) := gz_d tdX1_find_t0_ok 7 rfl
theorem dX1_find_12 : decode cX1_find 12 = .ok (.aload_n 1, 1) := gz_d tdX1_find_t0_ok 8 rfl
theorem dX1_find_13 : decode cX1_find 13 = .ok (.invokevirtual 67, 3) := gz_d tdX1_find_t0_ok 9 rfl
theorem dX1_find_16 : decode cX1_find 16 = .ok (.ifCond .eq 5, 3) := gz_d tdX1_find_t0_ok 10 rfl
theorem dX1_find_19 : decode cX1_find 19 = .ok (.iload_n 2, 1) := gz_d tdX1_find_t0_ok 11 rfl
theorem dX1_find_20 : decode cX1_find 20 = .ok (.ireturn, 1) := gz_d tdX1_find_t0_ok 12 rfl
theorem dX1_find_21 : decode cX1_find 21 = .ok (.iinc 2 1, 3) := gz_d tdX1_find_t0_ok 13 rfl
theorem dX1_find_24 : decode cX1_find 24 = .ok (.goto (-22), 3) := gz_d tdX1_find_t0_ok 14 rfl
theorem dX1_find_27 : decode cX1_find 27 = .ok (.iconst 0, 1) := gz_d tdX1_find_t0_ok 15 rfl
theorem dX1_find_28 : decode cX1_find 28 = .ok (.ireturn, 1) := gz_d tdX1_find_t0_ok 16 rfl
def tdX1_isLike_t0 : List (Nat × Instr × Nat) := [(0, .iconst 0, 1), (1, .istore_n 3, 1), (2, .iload_n 3, 1), (3, .aload_n 0, 1), (4, .getfield 25, 3), (7, .if_icmp .ge 25, 3), (10, .aload_n 0, 1), (11, .iload_n 1, 1), (12, .iload_n 3, 1), (13, .invokevirtual 61, 3), (16, .aload_n 2, 1), (17, .iload_n 3, 1), (18, .invokestatic 45, 3), (21, .if_icmp .eq 5, 3), (24, .iconst 0, 1), (25, .ireturn, 1), (26, .iinc 3 1, 3), (29, .goto (-27), 3), (32, .iconst 1, 1), (33, .ireturn, 1)]
theorem tdX1_isLike_t0_ok : gz_dec cX1_isLike tdX1_isLike_t0 = true := by decide +kernel
theorem dX1_isLike_0 : decode cX1_isLike 0 = .ok (.iconst 0, 1) := gz_d tdX1_isLike_t0_ok 0 rfl
theorem dX1_isLike_1 : decode cX1_isLike 1 = .ok (.istore_n 3, 1) := gz_d tdX1_isLike_t0_ok 1 rfl
theorem dX1_isLike_2 : decode cX1_isLike 2 = .ok (.iload_n 3, 1) := gz_d tdX1_isLike_t0_ok 2 rfl
theorem dX1_isLike_3 : decode cX1_isLike 3 = .ok (.aload_n 0, 1) := gz_d tdX1_isLike_t0_ok 3 rfl
theorem dX1_isLike_4 : decode cX1_isLike 4 = .ok (.getfield 25, 3) := gz_d tdX1_isLike_t0_ok 4 rfl
theorem dX1_isLike_7 : decode cX1_isLike 7 = .ok (.if_icmp .ge 25, 3) := gz_d tdX1_isLike_t0_ok 5 rfl
theorem dX1_isLike_10 : decode cX1_isLike 10 = .ok (.aload_n 0, 1) := gz_d tdX1_isLike_t0_ok 6 rfl
theorem dX1_isLike_11 : decode cX1_isLike 11 = .ok (.iload_n 1, 1) := gz_d tdX1_isLike_t0_ok 7 rfl
theorem dX1_isLike_12 : decode cX1_isLike 12 = .ok (.iload_n 3, 1) := gz_d tdX1_isLike_t0_ok 8 rfl
theorem dX1_isLike_13 : decode cX1_isLike 13 = .ok (.invokevirtual 61, 3) := gz_d tdX1_isLike_t0_ok 9 rfl
theorem dX1_isLike_16 : decode cX1_isLike 16 = .ok (.aload_n 2, 1) := gz_d tdX1_isLike_t0_ok 10 rfl
theorem dX1_isLike_17 : decode cX1_isLike 17 = .ok (.iload_n 3, 1) := gz_d tdX1_isLike_t0_ok 11 rfl
theorem dX1_isLike_18 : decode cX1_isLike 18 = .ok (.invokestatic 45, 3) := gz_d tdX1_isLike_t0_ok 12 rfl
theorem dX1_isLike_21 : decode cX1_isLike 21 = .ok (.if_icmp .eq 5, 3) := gz_d tdX1_isLike_t0_ok 13 rfl
theorem dX1_isLike_24 : decode cX1_isLike 24 = .ok (.iconst 0, 1) := gz_d tdX1_isLike_t0_ok 14 rfl
theorem dX1_isLike_25 : decode cX1_isLike 25 = .ok (.ireturn, 1) := gz_d tdX1_isLike_t0_ok 15 rfl
theorem dX1_isLike_26 : decode cX1_isLike 26 = .ok (.iinc 3 1, 3) := gz_d tdX1_isLike_t0_ok 16 rfl
theorem dX1_isLike_29 : decode cX1_isLike 29 = .ok (.goto (-27), 3) := gz_d tdX1_isLike_t0_ok 17 rfl
theorem dX1_isLike_32 : decode cX1_isLike 32 = .ok (.iconst 1, 1) := gz_d tdX1_isLike_t0_ok 18 rfl
theorem dX1_isLike_33 : decode cX1_isLike 33 = .ok (.ireturn, 1) := gz_d tdX1_isLike_t0_ok 19 rfl
def tdX2_init_t0 : List (Nat × Instr × Nat) := [(0, .aload_n 0, 1), (1, .invokespecial 3, 3), (4, .aload_n 0, 1), (5, .iconst 4, 1), (6, .newarray .int, 2), (8, .putfield 9, 3), (11, .aload_n 0, 1), (12, .iconst (-1), 1), (13, .putfield 15, 3), (16, .aload_n 0, 1), (17, .iconst (-1), 1), (18, .putfield 19, 3), (21, .aload_n 0, 1), (22, .iconst (-1), 1), (23, .putfield 22, 3), (26, .aload_n 0, 1), (27, .aload_n 1, 1), (28, .putfield 25, 3), (31, .return_, 1)]
theorem tdX2_init_t0_ok : gz_dec cX2_init tdX2_init_t0 = true := by decide +kernel
theorem dX2_init_0 : decode cX2_init 0 = .ok (.aload_n 0, 1) := gz_d tdX2_init_t0_ok 0 rfl
theorem dX2_init_1 : decode cX2_init 1 = .ok (.invokespecial 3, 3) := gz_d tdX2_init_t0_ok 1 rfl
theorem dX2_init_4 : decode cX2_init 4 = .ok (.aload_n 0, 1) := gz_d tdX2_init_t0_ok 2 rfl
theorem dX2_init_5 : decode cX2_init 5 = .ok (.iconst 4, 1) := gz_d tdX2_init_t0_ok 3 rfl
theorem dX2_init_6 : decode cX2_init 6 = .ok (.newarray .int, 2) := gz_d tdX2_init_t0_ok 4 rfl
theorem dX2_init_8 : decode cX2_init 8 = .ok (.putfield 9, 3) := gz_d tdX2_init_t0_ok 5 rfl
theorem dX2_init_11 : decode cX2_init 11 = .ok (.aload_n 0, 1) := gz_d tdX2_init_t0_ok 6 rfl
theorem dX2_init_12 : decode cX2_init 12 = .ok (.iconst (-1), 1) := gz_d tdX2_init_t0_ok 7 rfl
theorem dX2_init_13 : decode cX2_init 13 = .ok (.putfield 15, 3) := gz_d tdX2_init_t0_ok 8 rfl
theorem dX2_init_16 : decode cX2_init 16 = .ok (.aload_n 0, 1) := gz_d tdX2_init_t0_ok 9 rfl
theorem dX2_init_17 : decode cX2_init 17 = .ok (.iconst (-1), 1) := gz_d tdX2_init_t0_ok 10 rfl
theorem dX2_init_18 : decode cX2_init 18 = .ok (.putfield 19, 3) := gz_d tdX2_init_t0_ok 11 rfl
theorem dX2_init_21 : decode cX2_init 21 = .ok (.aload_n 0, 1) := gz_d tdX2_init_t0_ok 12 rfl
theorem dX2_init_22 : decode cX2_init 22 = .ok (.iconst (-1), 1) := gz_d tdX2_init_t0_ok 13 rfl
theorem dX2_init_23 : decode cX2_init 23 = .ok (.putfield 22, 3) := gz_d tdX2_init_t0_ok 14 rfl
theorem dX2_init_26 : decode cX2_init 26 = .ok (.aload_n 0, 1) := gz_d tdX2_init_t0_ok 15 rfl
theorem dX2_init_27 : decode cX2_init 27 = .ok (.aload_n 1, 1) := gz_d tdX2_init_t0_ok 16 rfl
theorem dX2_init_28 : decode cX2_init 28 = .ok (.putfield 25, 3) := gz_d tdX2_init_t0_ok 17 rfl
theorem dX2_init_31 : decode cX2_init 31 = .ok (.return_, 1) := gz_d tdX2_init_t0_ok 18 rfl
def tdX2_forget_t0 : List (Nat × Instr × Nat) := [(0, .aload_n 0, 1), (1, .iconst 0, 1), (2, .putfield 29, 3), (5, .return_, 1)]
theorem tdX2_forget_t0_ok : gz_dec cX2_forget tdX2_forget_t0 = true := by decide +kernel
theorem dX2_forget_0 : decode cX2_forget 0 = .ok (.aload_n 0, 1) := gz_d tdX2_forget_t0_ok 0 rfl
theorem dX2_forget_1 : decode cX2_forget 1 = .ok (.iconst 0, 1) := gz_d tdX2_forget_t0_ok 1 rfl
theorem dX2_forget_2 : decode cX2_forget 2 = .ok (.putfield 29, 3) := gz_d tdX2_forget_t0_ok 2 rfl
theorem dX2_forget_5 : decode cX2_forget 5 = .ok (.return_, 1) := gz_d tdX2_forget_t0_ok 3 rfl
def tdX2_begin_t0 : List (Nat × Instr × Nat) := [(0, .aload_n 0, 1), (1, .iload_n 1, 1), (2, .putfield 33, 3), (5, .aload_n 0, 1), (6, .aload_n 0, 1), (7, .aload_n 0, 1), (8, .getfield 25, 3), (11, .iconst 0, 1), (12, .invokevirtual 36, 3), (15, .invokevirtual 42, 3), (18, .putfield 46, 3), (21, .aload_n 0, 1), (22, .aload_n 0, 1), (23, .aload_n 0, 1), (24, .getfield 25, 3), (27, .iconst 1, 1), (28, .invokevirtual 36, 3), (31, .invokevirtual 42, 3), (34, .putfield 49, 3), (37, .aload_n 0, 1), (38, .iconst 1, 1), (39, .putfield 29, 3), (42, .aload_n 0, 1), (43, .iconst 0, 1), (44, .putfield 15, 3), (47, .aload_n 0, 1), (48, .iconst (-1), 1), (49, .putfield 19, 3), (52, .aload_n 0, 1), (53, .iconst 0, 1), (54, .putfield 52, 3), (57, .aload_n 0, 1), (58, .iconst (-1), 1), (59, .putfield 22, 3), (62, .return_, 1)]
theorem tdX2_begin_t0_ok : gz_dec cX2_begin tdX2_begin_t0 = true := by decide +kernel
theorem dX2_begin_0 : decode cX2_begin 0 = .ok (.aload_n 0, 1) := gz_d tdX2_begin_t0_ok 0 rfl
theorem dX2_begin_1 : decode cX2_begin 1 = .ok (.iload_n 1, 1) := gz_d tdX2_begin_t0_ok 1 rfl
theorem dX2_begin_2 : decode cX2_begin 2 = .ok (.putfield 33, 3) := gz_d tdX2_begin_t0_ok 2 rfl
theorem dX2_begin_5 : decode cX2_begin 5 = .ok (.aload_n 0, 1) := gz_d tdX2_begin_t0_ok 3 rfl
theorem dX2_begin_6 : decode cX2_begin 6 = .ok (.aload_n 0, 1) := gz_d tdX2_begin_t0_ok 4 rfl
theorem dX2_begin_7 : decode cX2_begin 7 = .ok (.aload_n 0, 1) := gz_d tdX2_begin_t0_ok 5 rfl
theorem dX2_begin_8 : decode cX2_begin 8 = .ok (.getfield 25, 3) := gz_d tdX2_begin_t0_ok 6 rfl
theorem dX2_begin_11 : decode cX2_begin 11 = .ok (.iconst 0, 1) := gz_d tdX2_begin_t0_ok 7 rfl
theorem dX2_begin_12 : decode cX2_begin 12 = .ok (.invokevirtual 36, 3) := gz_d tdX2_begin_t0_ok 8 rfl
theorem dX2_begin_15 : decode cX2_begin 15 = .ok (.invokevirtual 42, 3) := gz_d tdX2_begin_t0_ok 9 rfl
theorem dX2_begin_18 : decode cX2_begin 18 = .ok (.putfield 46, 3) := gz_d tdX2_begin_t0_ok 10 rfl
theorem dX2_begin_21 : decode cX2_begin 21 = .ok (.aload_n 0, 1) := gz_d tdX2_begin_t0_ok 11 rfl
theorem dX2_begin_22 : decode cX2_begin 22 = .ok (.aload_n 0, 1) := gz_d tdX2_begin_t0_ok 12 rfl
theorem dX2_begin_23 : decode cX2_begin 23 = .ok (.aload_n 0, 1) := gz_d tdX2_begin_t0_ok 13 rfl
theorem dX2_begin_24 : decode cX2_begin 24 = .ok (.getfield 25, 3) := gz_d tdX2_begin_t0_ok 14 rfl
theorem dX2_begin_27 : decode cX2_begin 27 = .ok (.iconst 1, 1) := gz_d tdX2_begin_t0_ok 15 rfl
theorem dX2_begin_28 : decode cX2_begin 28 = .ok (.invokevirtual 36, 3) := gz_d tdX2_begin_t0_ok 16 rfl
theorem dX2_begin_31 : decode cX2_begin 31 = .ok (.invokevirtual 42, 3) := gz_d tdX2_begin_t0_ok 17 rfl
theorem dX2_begin_34 : decode cX2_begin 34 = .ok (.putfield 49, 3) := gz_d tdX2_begin_t0_ok 18 rfl
theorem dX2_begin_37 : decode cX2_begin 37 = .ok (.aload_n 0, 1) := gz_d tdX2_begin_t0_ok 19 rfl
theorem dX2_begin_38 : decode cX2_begin 38 = .ok (.iconst 1, 1) := gz_d tdX2_begin_t0_ok 20 rfl
theorem dX2_begin_39 : decode cX2_begin 39 = .ok (.putfield 29, 3) := gz_d tdX2_begin_t0_ok 21 rfl
theorem dX2_begin_42 : decode cX2_begin 42 = .ok (.aload_n 0, 1) := gz_d tdX2_begin_t0_ok 22 rfl
theorem dX2_begin_43 : decode cX2_begin 43 = .ok (.iconst 0, 1) := gz_d tdX2_begin_t0_ok 23 rfl
theorem dX2_begin_44 : decode cX2_begin 44 = .ok (.putfield 15, 3) := gz_d tdX2_begin_t0_ok 24 rfl
theorem dX2_begin_47 : decode cX2_begin 47 = .ok (.aload_n 0, 1) := gz_d tdX2_begin_t0_ok 25 rfl
theorem dX2_begin_48 : decode cX2_begin 48 = .ok (.iconst (-1), 1) := gz_d tdX2_begin_t0_ok 26 rfl
theorem dX2_begin_49 : decode cX2_begin 49 = .ok (.putfield 19, 3) := gz_d tdX2_begin_t0_ok 27 rfl
theorem dX2_begin_52 : decode cX2_begin 52 = .ok (.aload_n 0, 1) := gz_d tdX2_begin_t0_ok 28 rfl
theorem dX2_begin_53 : decode cX2_begin 53 = .ok (.iconst 0, 1) := gz_d tdX2_begin_t0_ok 29 rfl
theorem dX2_begin_54 : decode cX2_begin 54 = .ok (.putfield 52, 3) := gz_d tdX2_begin_t0_ok 30 rfl
theorem dX2_begin_57 : decode cX2_begin 57 = .ok (.aload_n 0, 1) := gz_d tdX2_begin_t0_ok 31 rfl
theorem dX2_begin_58 : decode cX2_begin 58 = .ok (.iconst (-1), 1) := gz_d tdX2_begin_t0_ok 32 rfl
theorem dX2_begin_59 : decode cX2_begin 59 = .ok (.putfield 22, 3) := gz_d tdX2_begin_t0_ok 33 rfl
theorem dX2_begin_62 : decode cX2_begin 62 = .ok (.return_, 1) := gz_d tdX2_begin_t0_ok 34 rfl
def tdX2_draw_t0 : List (Nat × Instr × Nat) := [(0, .aload_n 0, 1), (1, .getfield 9, 3), (4, .iconst 0, 1), (5, .invokestatic 55, 3), (8, .iconst 0, 1), (9, .istore_n 2, 1), (10, .iload_n 2, 1), (11, .aload_n 1, 1), (12, .getfield 61, 3), (15, .if_icmp .ge 60, 3), (18, .aload_n 0, 1), (19, .aload_n 0, 1), (20, .getfield 33, 3), (23, .ldc 66, 2), (25, .imul, 1), (26, .sipush 12345, 3), (29, .iadd, 1), (30, .ldc 67, 2), (32, .iand, 1), (33, .putfield 33, 3), (36, .aload_n 0, 1), (37, .getfield 33, 3), (40, .ldc 68, 2), (42, .idiv, 1), (43, .aload_n 1, 1), (44, .getfield 69, 3), (47, .invokestatic 72, 3), (50, .istore_n 3, 1), (51, .aload_n 0, 1), (52, .getfield 9, 3), (55, .iload_n 3, 1), (56, .aload_n 0, 1), (57, .getfield 9, 3), (60, .iload_n 3, 1), (61, .invokestatic 76, 3), (64, .iconst 1, 1), (65, .iadd, 1), (66, .invokestatic 80, 3), (69, .iinc 2 1, 3), (72, .goto (-62), 3), (75, .aload_n 1, 1), (76, .aload_n 0, 1), (77, .getfield 9, 3), (80, .invokevirtual 84, 3), (83, .ireturn, 1)]
theorem tdX2_draw_t0_ok : gz_dec cX2_draw tdX2_draw_t0 = true := by decide +kernel
theorem dX2_draw_0 : decode cX2_draw 0 = .ok (.aload_n 0, 1) := gz_d tdX2_draw_t0_ok 0 rfl
theorem dX2_draw_1 : decode cX2_draw 1 = .ok (.getfield 9, 3) := gz_d tdX2_draw_t0_ok 1 rfl
theorem dX2_draw_4 : decode cX2_draw 4 = .ok (.iconst 0, 1) := gz_d tdX2_draw_t0_ok 2 rfl
theorem dX2_draw_5 : decode cX2_draw 5 = .ok (.invokestatic 55, 3) := gz_d tdX2_draw_t0_ok 3 rfl
theorem dX2_draw_8 : decode cX2_draw 8 = .ok (.iconst 0, 1) := gz_d tdX2_draw_t0_ok 4 rfl
theorem dX2_draw_9 : decode cX2_draw 9 = .ok (.istore_n 2, 1) := gz_d tdX2_draw_t0_ok 5 rfl
theorem dX2_draw_10 : decode cX2_draw 10 = .ok (.iload_n 2, 1) := gz_d tdX2_draw_t0_ok 6 rfl
theorem dX2_draw_11 : decode cX2_draw 11 = .ok (.aload_n 1, 1) := gz_d tdX2_draw_t0_ok 7 rfl
theorem dX2_draw_12 : decode cX2_draw 12 = .ok (.getfield 61, 3) := gz_d tdX2_draw_t0_ok 8 rfl
theorem dX2_draw_15 : decode cX2_draw 15 = .ok (.if_icmp .ge 60, 3) := gz_d tdX2_draw_t0_ok 9 rfl
theorem dX2_draw_18 : decode cX2_draw 18 = .ok (.aload_n 0, 1) := gz_d tdX2_draw_t0_ok 10 rfl
theorem dX2_draw_19 : decode cX2_draw 19 = .ok (.aload_n 0, 1) := gz_d tdX2_draw_t0_ok 11 rfl
theorem dX2_draw_20 : decode cX2_draw 20 = .ok (.getfield 33, 3) := gz_d tdX2_draw_t0_ok 12 rfl
theorem dX2_draw_23 : decode cX2_draw 23 = .ok (.ldc 66, 2) := gz_d tdX2_draw_t0_ok 13 rfl
theorem dX2_draw_25 : decode cX2_draw 25 = .ok (.imul, 1) := gz_d tdX2_draw_t0_ok 14 rfl
theorem dX2_draw_26 : decode cX2_draw 26 = .ok (.sipush 12345, 3) := gz_d tdX2_draw_t0_ok 15 rfl
theorem dX2_draw_29 : decode cX2_draw 29 = .ok (.iadd, 1) := gz_d tdX2_draw_t0_ok 16 rfl
theorem dX2_draw_30 : decode cX2_draw 30 = .ok (.ldc 67, 2) := gz_d tdX2_draw_t0_ok 17 rfl
theorem dX2_draw_32 : decode cX2_draw 32 = .ok (.iand, 1) := gz_d tdX2_draw_t0_ok 18 rfl
theorem dX2_draw_33 : decode cX2_draw 33 = .ok (.putfield 33, 3) := gz_d tdX2_draw_t0_ok 19 rfl
theorem dX2_draw_36 : decode cX2_draw 36 = .ok (.aload_n 0, 1) := gz_d tdX2_draw_t0_ok 20 rfl
theorem dX2_draw_37 : decode cX2_draw 37 = .ok (.getfield 33, 3) := gz_d tdX2_draw_t0_ok 21 rfl
theorem dX2_draw_40 : decode cX2_draw 40 = .ok (.ldc 68, 2) := gz_d tdX2_draw_t0_ok 22 rfl
theorem dX2_draw_42 : decode cX2_draw 42 = .ok (.idiv, 1) := gz_d tdX2_draw_t0_ok 23 rfl
theorem dX2_draw_43 : decode cX2_draw 43 = .ok (.aload_n 1, 1) := gz_d tdX2_draw_t0_ok 24 rfl
theorem dX2_draw_44 : decode cX2_draw 44 = .ok (.getfield 69, 3) := gz_d tdX2_draw_t0_ok 25 rfl
theorem dX2_draw_47 : decode cX2_draw 47 = .ok (.invokestatic 72, 3) := gz_d tdX2_draw_t0_ok 26 rfl
theorem dX2_draw_50 : decode cX2_draw 50 = .ok (.istore_n 3, 1) := gz_d tdX2_draw_t0_ok 27 rfl
theorem dX2_draw_51 : decode cX2_draw 51 = .ok (.aload_n 0, 1) := gz_d tdX2_draw_t0_ok 28 rfl
theorem dX2_draw_52 : decode cX2_draw 52 = .ok (.getfield 9, 3) := gz_d tdX2_draw_t0_ok 29 rfl
theorem dX2_draw_55 : decode cX2_draw 55 = .ok (.iload_n 3, 1) := gz_d tdX2_draw_t0_ok 30 rfl
theorem dX2_draw_56 : decode cX2_draw 56 = .ok (.aload_n 0, 1) := gz_d tdX2_draw_t0_ok 31 rfl
theorem dX2_draw_57 : decode cX2_draw 57 = .ok (.getfield 9, 3) := gz_d tdX2_draw_t0_ok 32 rfl
theorem dX2_draw_60 : decode cX2_draw 60 = .ok (.iload_n 3, 1) := gz_d tdX2_draw_t0_ok 33 rfl
theorem dX2_draw_61 : decode cX2_draw 61 = .ok (.invokestatic 76, 3) := gz_d tdX2_draw_t0_ok 34 rfl
theorem dX2_draw_64 : decode cX2_draw 64 = .ok (.iconst 1, 1) := gz_d tdX2_draw_t0_ok 35 rfl
theorem dX2_draw_65 : decode cX2_draw 65 = .ok (.iadd, 1) := gz_d tdX2_draw_t0_ok 36 rfl
theorem dX2_draw_66 : decode cX2_draw 66 = .ok (.invokestatic 80, 3) := gz_d tdX2_draw_t0_ok 37 rfl
theorem dX2_draw_69 : decode cX2_draw 69 = .ok (.iinc 2 1, 3) := gz_d tdX2_draw_t0_ok 38 rfl
theorem dX2_draw_72 : decode cX2_draw 72 = .ok (.goto (-62), 3) := gz_d tdX2_draw_t0_ok 39 rfl
theorem dX2_draw_75 : decode cX2_draw 75 = .ok (.aload_n 1, 1) := gz_d tdX2_draw_t0_ok 40 rfl
theorem dX2_draw_76 : decode cX2_draw 76 = .ok (.aload_n 0, 1) := gz_d tdX2_draw_t0_ok 41 rfl
theorem dX2_draw_77 : decode cX2_draw 77 = .ok (.getfield 9, 3) := gz_d tdX2_draw_t0_ok 42 rfl
theorem dX2_draw_80 : decode cX2_draw 80 = .ok (.invokevirtual 84, 3) := gz_d tdX2_draw_t0_ok 43 rfl
theorem dX2_draw_83 : decode cX2_draw 83 = .ok (.ireturn, 1) := gz_d tdX2_draw_t0_ok 44 rfl
def tdX2_handOf_t0 : List (Nat × Instr × Nat) := [(0, .iload_n 1, 1), (1, .ifCond .ne 10, 3), (4, .aload_n 0, 1), (5, .getfield 46, 3), (8, .goto 7, 3), (11, .aload_n 0, 1), (12, .getfield 49, 3), (15, .ireturn, 1)]
theorem tdX2_handOf_t0_ok : gz_dec cX2_handOf tdX2_handOf_t0 = true := by decide +kernel
theorem dX2_handOf_0 : decode cX2_handOf 0 = .ok (.iload_n 1, 1) := gz_d tdX2_handOf_t0_ok 0 rfl
theorem dX2_handOf_1 : decode cX2_handOf 1 = .ok (.ifCond .ne 10, 3) := gz_d tdX2_handOf_t0_ok 1 rfl
theorem dX2_handOf_4 : decode cX2_handOf 4 = .ok (.aload_n 0, 1) := gz_d tdX2_handOf_t0_ok 2 rfl
theorem dX2_handOf_5 : decode cX2_handOf 5 = .ok (.getfield 46, 3) := gz_d tdX2_handOf_t0_ok 3 rfl
theorem dX2_handOf_8 : decode cX2_handOf 8 = .ok (.goto 7, 3) := gz_d tdX2_handOf_t0_ok 4 rfl
theorem dX2_handOf_11 : decode cX2_handOf 11 = .ok (.aload_n 0, 1) := gz_d tdX2_handOf_t0_ok 5 rfl
theorem dX2_handOf_12 : decode cX2_handOf 12 = .ok (.getfield 49, 3) := gz_d tdX2_handOf_t0_ok 6 rfl
theorem dX2_handOf_15 : decode cX2_handOf 15 = .ok (.ireturn, 1) := gz_d tdX2_handOf_t0_ok 7 rfl
def tdX2_goesOn_t0 : List (Nat × Instr × Nat) := [(0, .aload_n 0, 1), (1, .getfield 29, 3), (4, .ifCond .eq 15, 3), (7, .aload_n 0, 1), (8, .getfield 15, 3), (11, .iconst (-1), 1), (12, .if_icmp .eq 7, 3), (15, .iconst 1, 1), (16, .goto 4, 3), (19, .iconst 0, 1), (20, .ireturn, 1)]
theorem tdX2_goesOn_t0_ok : gz_dec cX2_goesOn tdX2_goesOn_t0 = true := by decide +kernel
theorem dX2_goesOn_0 : decode cX2_goesOn 0 = .ok (.aload_n 0, 1) := gz_d tdX2_goesOn_t0_ok 0 rfl
theorem dX2_goesOn_1 : decode cX2_goesOn 1 = .ok (.getfield 29, 3) := gz_d tdX2_goesOn_t0_ok 1 rfl
theorem dX2_goesOn_4 : decode cX2_goesOn 4 = .ok (.ifCond .eq 15, 3) := gz_d tdX2_goesOn_t0_ok 2 rfl
theorem dX2_goesOn_7 : decode cX2_goesOn 7 = .ok (.aload_n 0, 1) := gz_d tdX2_goesOn_t0_ok 3 rfl
theorem dX2_goesOn_8 : decode cX2_goesOn 8 = .ok (.getfield 15, 3) := gz_d tdX2_goesOn_t0_ok 4 rfl
theorem dX2_goesOn_11 : decode cX2_goesOn 11 = .ok (.iconst (-1), 1) := gz_d tdX2_goesOn_t0_ok 5 rfl
theorem dX2_goesOn_12 : decode cX2_goesOn 12 = .ok (.if_icmp .eq 7, 3) := gz_d tdX2_goesOn_t0_ok 6 rfl
theorem dX2_goesOn_15 : decode cX2_goesOn 15 = .ok (.iconst 1, 1) := gz_d tdX2_goesOn_t0_ok 7 rfl
theorem dX2_goesOn_16 : decode cX2_goesOn 16 = .ok (.goto 4, 3) := gz_d tdX2_goesOn_t0_ok 8 rfl
theorem dX2_goesOn_19 : decode cX2_goesOn 19 = .ok (.iconst 0, 1) := gz_d tdX2_goesOn_t0_ok 9 rfl
theorem dX2_goesOn_20 : decode cX2_goesOn 20 = .ok (.ireturn, 1) := gz_d tdX2_goesOn_t0_ok 10 rfl
def tdX2_bid_t0 : List (Nat × Instr × Nat) := [(0, .aload_n 0, 1), (1, .iload_n 1, 1), (2, .putfield 19, 3), (5, .aload_n 0, 1), (6, .dup, 1), (7, .getfield 52, 3), (10, .iconst 1, 1), (11, .iadd, 1), (12, .putfield 52, 3), (15, .aload_n 0, 1), (16, .iconst 1, 1), (17, .aload_n 0, 1), (18, .getfield 15, 3), (21, .isub, 1), (22, .putfield 15, 3), (25, .return_, 1)]
theorem tdX2_bid_t0_ok : gz_dec cX2_bid tdX2_bid_t0 = true := by decide +kernel
theorem dX2_bid_0 : decode cX2_bid 0 = .ok (.aload_n 0, 1) := gz_d tdX2_bid_t0_ok 0 rfl
theorem dX2_bid_1 : decode cX2_bid 1 = .ok (.iload_n 1, 1) := gz_d tdX2_bid_t0_ok 1 rfl
theorem dX2_bid_2 : decode cX2_bid 2 = .ok (.putfield 19, 3) := gz_d tdX2_bid_t0_ok 2 rfl
theorem dX2_bid_5 : decode cX2_bid 5 = .ok (.aload_n 0, 1) := gz_d tdX2_bid_t0_ok 3 rfl
theorem dX2_bid_6 : decode cX2_bid 6 = .ok (.dup, 1) := gz_d tdX2_bid_t0_ok 4 rfl
theorem dX2_bid_7 : decode cX2_bid 7 = .ok (.getfield 52, 3) := gz_d tdX2_bid_t0_ok 5 rfl
theorem dX2_bid_10 : decode cX2_bid 10 = .ok (.iconst 1, 1) := gz_d tdX2_bid_t0_ok 6 rfl
theorem dX2_bid_11 : decode cX2_bid 11 = .ok (.iadd, 1) := gz_d tdX2_bid_t0_ok 7 rfl
theorem dX2_bid_12 : decode cX2_bid 12 = .ok (.putfield 52, 3) := gz_d tdX2_bid_t0_ok 8 rfl
theorem dX2_bid_15 : decode cX2_bid 15 = .ok (.aload_n 0, 1) := gz_d tdX2_bid_t0_ok 9 rfl
theorem dX2_bid_16 : decode cX2_bid 16 = .ok (.iconst 1, 1) := gz_d tdX2_bid_t0_ok 10 rfl
theorem dX2_bid_17 : decode cX2_bid 17 = .ok (.aload_n 0, 1) := gz_d tdX2_bid_t0_ok 11 rfl
theorem dX2_bid_18 : decode cX2_bid 18 = .ok (.getfield 15, 3) := gz_d tdX2_bid_t0_ok 12 rfl
theorem dX2_bid_21 : decode cX2_bid 21 = .ok (.isub, 1) := gz_d tdX2_bid_t0_ok 13 rfl
theorem dX2_bid_22 : decode cX2_bid 22 = .ok (.putfield 15, 3) := gz_d tdX2_bid_t0_ok 14 rfl
theorem dX2_bid_25 : decode cX2_bid 25 = .ok (.return_, 1) := gz_d tdX2_bid_t0_ok 15 rfl
def tdX2_end_t0 : List (Nat × Instr × Nat) := [(0, .aload_n 0, 1), (1, .aload_n 0, 1), (2, .getfield 25, 3), (5, .aload_n 0, 1), (6, .getfield 46, 3), (9, .aload_n 0, 1), (10, .getfield 49, 3), (13, .aload_n 0, 1), (14, .getfield 19, 3), (17, .invokevirtual 88, 3), (20, .ifCond .eq 12, 3), (23, .iconst 1, 1), (24, .aload_n 0, 1), (25, .getfield 15, 3), (28, .isub, 1), (29, .goto 7, 3), (32, .aload_n 0, 1), (33, .getfield 15, 3), (36, .putfield 22, 3), (39, .aload_n 0, 1), (40, .iconst (-1), 1), (41, .putfield 15, 3), (44, .aload_n 0, 1), (45, .getfield 22, 3), (48, .ifCond .ne 16, 3), (51, .aload_n 0, 1), (52, .dup, 1), (53, .getfield 92, 3), (56, .iconst 1, 1), (57, .iadd, 1), (58, .putfield 92, 3), (61, .goto 13, 3), (64, .aload_n 0, 1), (65, .dup, 1), (66, .getfield 95, 3), (69, .iconst 1, 1), (70, .iadd, 1), (71, .putfield 95, 3), (74, .return_, 1)]
theorem tdX2_end_t0_ok : gz_dec cX2_end tdX2_end_t0 = true := by decide +kernel
theorem dX2_end_0 : decode cX2_end 0 = .ok (.aload_n 0, 1) := gz_d tdX2_end_t0_ok 0 rfl
theorem dX2_end_1 : decode cX2_end 1 = .ok (.aload_n 0, 1) := gz_d tdX2_end_t0_ok 1 rfl
theorem dX2_end_2 : decode cX2_end 2 = .ok (.getfield 25, 3) := gz_d tdX2_end_t0_ok 2 rfl
theorem dX2_end_5 : decode cX2_end 5 = .ok (.aload_n 0, 1) := gz_d tdX2_end_t0_ok 3 rfl
theorem dX2_end_6 : decode cX2_end 6 = .ok (.getfield 46, 3) := gz_d tdX2_end_t0_ok 4 rfl
theorem dX2_end_9 : decode cX2_end 9 = .ok (.aload_n 0, 1) := gz_d tdX2_end_t0_ok 5 rfl
theorem dX2_end_10 : decode cX2_end 10 = .ok (.getfield 49, 3) := gz_d tdX2_end_t0_ok 6 rfl
theorem dX2_end_13 : decode cX2_end 13 = .ok (.aload_n 0, 1) := gz_d tdX2_end_t0_ok 7 rfl
theorem dX2_end_14 : decode cX2_end 14 = .ok (.getfield 19, 3) := gz_d tdX2_end_t0_ok 8 rfl
theorem dX2_end_17 : decode cX2_end 17 = .ok (.invokevirtual 88, 3) := gz_d tdX2_end_t0_ok 9 rfl
theorem dX2_end_20 : decode cX2_end 20 = .ok (.ifCond .eq 12, 3) := gz_d tdX2_end_t0_ok 10 rfl
theorem dX2_end_23 : decode cX2_end 23 = .ok (.iconst 1, 1) := gz_d tdX2_end_t0_ok 11 rfl
theorem dX2_end_24 : decode cX2_end 24 = .ok (.aload_n 0, 1) := gz_d tdX2_end_t0_ok 12 rfl
theorem dX2_end_25 : decode cX2_end 25 = .ok (.getfield 15, 3) := gz_d tdX2_end_t0_ok 13 rfl
theorem dX2_end_28 : decode cX2_end 28 = .ok (.isub, 1) := gz_d tdX2_end_t0_ok 14 rfl
theorem dX2_end_29 : decode cX2_end 29 = .ok (.goto 7, 3) := gz_d tdX2_end_t0_ok 15 rfl
theorem dX2_end_32 : decode cX2_end 32 = .ok (.aload_n 0, 1) := gz_d tdX2_end_t0_ok 16 rfl
theorem dX2_end_33 : decode cX2_end 33 = .ok (.getfield 15, 3) := gz_d tdX2_end_t0_ok 17 rfl
theorem dX2_end_36 : decode cX2_end 36 = .ok (.putfield 22, 3) := gz_d tdX2_end_t0_ok 18 rfl
theorem dX2_end_39 : decode cX2_end 39 = .ok (.aload_n 0, 1) := gz_d tdX2_end_t0_ok 19 rfl
theorem dX2_end_40 : decode cX2_end 40 = .ok (.iconst (-1), 1) := gz_d tdX2_end_t0_ok 20 rfl
theorem dX2_end_41 : decode cX2_end 41 = .ok (.putfield 15, 3) := gz_d tdX2_end_t0_ok 21 rfl
theorem dX2_end_44 : decode cX2_end 44 = .ok (.aload_n 0, 1) := gz_d tdX2_end_t0_ok 22 rfl
theorem dX2_end_45 : decode cX2_end 45 = .ok (.getfield 22, 3) := gz_d tdX2_end_t0_ok 23 rfl
theorem dX2_end_48 : decode cX2_end 48 = .ok (.ifCond .ne 16, 3) := gz_d tdX2_end_t0_ok 24 rfl
theorem dX2_end_51 : decode cX2_end 51 = .ok (.aload_n 0, 1) := gz_d tdX2_end_t0_ok 25 rfl
theorem dX2_end_52 : decode cX2_end 52 = .ok (.dup, 1) := gz_d tdX2_end_t0_ok 26 rfl
theorem dX2_end_53 : decode cX2_end 53 = .ok (.getfield 92, 3) := gz_d tdX2_end_t0_ok 27 rfl
theorem dX2_end_56 : decode cX2_end 56 = .ok (.iconst 1, 1) := gz_d tdX2_end_t0_ok 28 rfl
theorem dX2_end_57 : decode cX2_end 57 = .ok (.iadd, 1) := gz_d tdX2_end_t0_ok 29 rfl
theorem dX2_end_58 : decode cX2_end 58 = .ok (.putfield 92, 3) := gz_d tdX2_end_t0_ok 30 rfl
theorem dX2_end_61 : decode cX2_end 61 = .ok (.goto 13, 3) := gz_d tdX2_end_t0_ok 31 rfl
theorem dX2_end_64 : decode cX2_end 64 = .ok (.aload_n 0, 1) := gz_d tdX2_end_t0_ok 32 rfl
theorem dX2_end_65 : decode cX2_end 65 = .ok (.dup, 1) := gz_d tdX2_end_t0_ok 33 rfl
theorem dX2_end_66 : decode cX2_end 66 = .ok (.getfield 95, 3) := gz_d tdX2_end_t0_ok 34 rfl
theorem dX2_end_69 : decode cX2_end 69 = .ok (.iconst 1, 1) := gz_d tdX2_end_t0_ok 35 rfl
theorem dX2_end_70 : decode cX2_end 70 = .ok (.iadd, 1) := gz_d tdX2_end_t0_ok 36 rfl
theorem dX2_end_71 : decode cX2_end 71 = .ok (.putfield 95, 3) := gz_d tdX2_end_t0_ok 37 rfl
theorem dX2_end_74 : decode cX2_end 74 = .ok (.return_, 1) := gz_d tdX2_end_t0_ok 38 rfl
def tdX2_fact_t0 : List (Nat × Instr × Nat) := [(0, .iload_n 1, 1), (1, .tableswitch 42 0 2 #[27, 32, 37], 27), (28, .aload_n 0, 1), (29, .getfield 15, 3), (32, .ireturn, 1), (33, .aload_n 0, 1), (34, .getfield 19, 3), (37, .ireturn, 1), (38, .aload_n 0, 1), (39, .getfield 52, 3), (42, .ireturn, 1), (43, .aload_n 0, 1), (44, .getfield 22, 3), (47, .ireturn, 1)]
theorem tdX2_fact_t0_ok : gz_dec cX2_fact tdX2_fact_t0 = true := by decide +kernel
theorem dX2_fact_0 : decode cX2_fact 0 = .ok (.iload_n 1, 1) := gz_d tdX2_fact_t0_ok 0 rfl
theorem dX2_fact_1 : decode cX2_fact 1 = .ok (.tableswitch 42 0 2 #[27, 32, 37], 27) := gz_d tdX2_fact_t0_ok 1 rfl
theorem dX2_fact_28 : decode cX2_fact 28 = .ok (.aload_n 0, 1) := gz_d tdX2_fact_t0_ok 2 rfl
theorem dX2_fact_29 : decode cX2_fact 29 = .ok (.getfield 15, 3) := gz_d tdX2_fact_t0_ok 3 rfl
theorem dX2_fact_32 : decode cX2_fact 32 = .ok (.ireturn, 1) := gz_d tdX2_fact_t0_ok 4 rfl
theorem dX2_fact_33 : decode cX2_fact 33 = .ok (.aload_n 0, 1) := gz_d tdX2_fact_t0_ok 5 rfl
theorem dX2_fact_34 : decode cX2_fact 34 = .ok (.getfield 19, 3) := gz_d tdX2_fact_t0_ok 6 rfl
theorem dX2_fact_37 : decode cX2_fact 37 = .ok (.ireturn, 1) := gz_d tdX2_fact_t0_ok 7 rfl
theorem dX2_fact_38 : decode cX2_fact 38 = .ok (.aload_n 0, 1) := gz_d tdX2_fact_t0_ok 8 rfl
theorem dX2_fact_39 : decode cX2_fact 39 = .ok (.getfield 52, 3) := gz_d tdX2_fact_t0_ok 9 rfl
theorem dX2_fact_42 : decode cX2_fact 42 = .ok (.ireturn, 1) := gz_d tdX2_fact_t0_ok 10 rfl
theorem dX2_fact_43 : decode cX2_fact 43 = .ok (.aload_n 0, 1) := gz_d tdX2_fact_t0_ok 11 rfl
theorem dX2_fact_44 : decode cX2_fact 44 = .ok (.getfield 22, 3) := gz_d tdX2_fact_t0_ok 12 rfl
theorem dX2_fact_47 : decode cX2_fact 47 = .ok (.ireturn, 1) := gz_d tdX2_fact_t0_ok 13 rfl
def tdX3_init_t0 : List (Nat × Instr × Nat) := [(0, .aload_n 0, 1), (1, .invokespecial 3, 3), (4, .aload_n 0, 1), (5, .new 9, 3), (8, .dup, 1), (9, .invokespecial 11, 3), (12, .putfield 12, 3), (15, .aload_n 0, 1), (16, .new 9, 3), (19, .dup, 1), (20, .invokespecial 11, 3), (23, .putfield 18, 3), (26, .aload_n 0, 1), (27, .bipush 16, 2), (29, .newarray .double, 2), (31, .putfield 21, 3), (34, .aload_n 0, 1), (35, .aload_n 1, 1), (36, .putfield 25, 3), (39, .return_, 1)]
theorem tdX3_init_t0_ok : gz_dec cX3_init tdX3_init_t0 = true := by decide +kernel
theorem dX3_init_0 : decode cX3_init 0 = .ok (.aload_n 0, 1) := gz_d tdX3_init_t0_ok 0 rfl
theorem dX3_init_1 : decode cX3_init 1 = .ok (.invokespecial 3, 3) := gz_d tdX3_init_t0_ok 1 rfl
theorem dX3_init_4 : decode cX3_init 4 = .ok (.aload_n 0, 1) := gz_d tdX3_init_t0_ok 2 rfl
theorem dX3_init_5 : decode cX3_init 5 = .ok (.new 9, 3) := gz_d tdX3_init_t0_ok 3 rfl
theorem dX3_init_8 : decode cX3_init 8 = .ok (.dup, 1) := gz_d tdX3_init_t0_ok 4 rfl
theorem dX3_init_9 : decode cX3_init 9 = .ok (.invokespecial 11, 3) := gz_d tdX3_init_t0_ok 5 rfl
theorem dX3_init_12 : decode cX3_init 12 = .ok (.putfield 12, 3) := gz_d tdX3_init_t0_ok 6 rfl
theorem dX3_init_15 : decode cX3_init 15 = .ok (.aload_n 0, 1) := gz_d tdX3_init_t0_ok 7 rfl
theorem dX3_init_16 : decode cX3_init 16 = .ok (.new 9, 3) := gz_d tdX3_init_t0_ok 8 rfl
theorem dX3_init_19 : decode cX3_init 19 = .ok (.dup, 1) := gz_d tdX3_init_t0_ok 9 rfl
theorem dX3_init_20 : decode cX3_init 20 = .ok (.invokespecial 11, 3) := gz_d tdX3_init_t0_ok 10 rfl
theorem dX3_init_23 : decode cX3_init 23 = .ok (.putfield 18, 3) := gz_d tdX3_init_t0_ok 11 rfl
theorem dX3_init_26 : decode cX3_init 26 = .ok (.aload_n 0, 1) := gz_d tdX3_init_t0_ok 12 rfl
theorem dX3_init_27 : decode cX3_init 27 = .ok (.bipush 16, 2) := gz_d tdX3_init_t0_ok 13 rfl
theorem dX3_init_29 : decode cX3_init 29 = .ok (.newarray .double, 2) := gz_d tdX3_init_t0_ok 14 rfl
theorem dX3_init_31 : decode cX3_init 31 = .ok (.putfield 21, 3) := gz_d tdX3_init_t0_ok 15 rfl
theorem dX3_init_34 : decode cX3_init 34 = .ok (.aload_n 0, 1) := gz_d tdX3_init_t0_ok 16 rfl
theorem dX3_init_35 : decode cX3_init 35 = .ok (.aload_n 1, 1) := gz_d tdX3_init_t0_ok 17 rfl
theorem dX3_init_36 : decode cX3_init 36 = .ok (.putfield 25, 3) := gz_d tdX3_init_t0_ok 18 rfl
theorem dX3_init_39 : decode cX3_init 39 = .ok (.return_, 1) := gz_d tdX3_init_t0_ok 19 rfl
def tdX3_play_t0 : List (Nat × Instr × Nat) := [(0, .aload_n 0, 1), (1, .getfield 25, 3), (4, .iconst 0, 1), (5, .invokevirtual 29, 3), (8, .astore 4, 2), (10, .aload_n 0, 1), (11, .getfield 25, 3), (14, .iconst 1, 1), (15, .invokevirtual 29, 3), (18, .astore 5, 2), (20, .aload_n 0, 1), (21, .getfield 12, 3), (24, .aload_n 1, 1), (25, .iload_n 2, 1), (26, .aload 4, 2), (28, .aload_n 0, 1), (29, .getfield 25, 3), (32, .getfield 35, 3), (35, .invokevirtual 39, 3), (38, .aload_n 0, 1), (39, .getfield 18, 3), (42, .aload_n 1, 1), (43, .iload_n 3, 1), (44, .aload 5, 2), (46, .aload_n 0, 1), (47, .getfield 25, 3), (50, .getfield 35, 3), (53, .invokevirtual 39, 3), (56, .dconst 0, 1), (57, .dstore 6, 2), (59, .iconst 0, 1), (60, .istore 8, 2), (62, .iload 8, 2), (64, .aload 4, 2), (66, .getfield 43, 3), (69, .if_icmp .ge 62, 3), (72, .iconst 0, 1), (73, .istore 9, 2), (75, .iload 9, 2), (77, .aload 5, 2), (79, .getfield 43, 3), (82, .if_icmp .ge 43, 3), (85, .aload 4, 2), (87, .iload 8, 2), (89, .invokevirtual 48, 3), (92, .aload 5, 2), (94, .iload 9, 2), (96, .invokevirtual 48, 3), (99, .imul, 1), (100, .i2d, 1), (101, .dstore 10, 2), (103, .dload 6, 2), (105, .dload 10, 2), (107, .aload_n 0, 1), (108, .iload 8, 2), (110, .iload 9, 2), (112, .invokevirtual 52, 3), (115, .dmul, 1), (116, .dadd, 1), (117, .dstore 6, 2)]
theorem tdX3_play_t0_ok : gz_dec cX3_play tdX3_play_t0 = true := by decide +kernel
theorem dX3_play_0 : decode cX3_play 0 = .ok (.aload_n 0, 1) := gz_d tdX3_play_t0_ok 0 rfl
theorem dX3_play_1 : decode cX3_play 1 = .ok (.getfield 25, 3) := gz_d tdX3_play_t0_ok 1 rfl
theorem dX3_play_4 : decode cX3_play 4 = .ok (.iconst 0, 1) := gz_d tdX3_play_t0_ok 2 rfl
theorem dX3_play_5 : decode cX3_play 5 = .ok (.invokevirtual 29, 3) := gz_d tdX3_play_t0_ok 3 rfl
theorem dX3_play_8 : decode cX3_play 8 = .ok (.astore 4, 2) := gz_d tdX3_play_t0_ok 4 rfl
theorem dX3_play_10 : decode cX3_play 10 = .ok (.aload_n 0, 1) := gz_d tdX3_play_t0_ok 5 rfl
theorem dX3_play_11 : decode cX3_play 11 = .ok (.getfield 25, 3) := gz_d tdX3_play_t0_ok 6 rfl
theorem dX3_play_14 : decode cX3_play 14 = .ok (.iconst 1, 1) := gz_d tdX3_play_t0_ok 7 rfl
theorem dX3_play_15 : decode cX3_play 15 = .ok (.invokevirtual 29, 3) := gz_d tdX3_play_t0_ok 8 rfl
theorem dX3_play_18 : decode cX3_play 18 = .ok (.astore 5, 2) := gz_d tdX3_play_t0_ok 9 rfl
theorem dX3_play_20 : decode cX3_play 20 = .ok (.aload_n 0, 1) := gz_d tdX3_play_t0_ok 10 rfl
theorem dX3_play_21 : decode cX3_play 21 = .ok (.getfield 12, 3) := gz_d tdX3_play_t0_ok 11 rfl
theorem dX3_play_24 : decode cX3_play 24 = .ok (.aload_n 1, 1) := gz_d tdX3_play_t0_ok 12 rfl
theorem dX3_play_25 : decode cX3_play 25 = .ok (.iload_n 2, 1) := gz_d tdX3_play_t0_ok 13 rfl
theorem dX3_play_26 : decode cX3_play 26 = .ok (.aload 4, 2) := gz_d tdX3_play_t0_ok 14 rfl
theorem dX3_play_28 : decode cX3_play 28 = .ok (.aload_n 0, 1) := gz_d tdX3_play_t0_ok 15 rfl
theorem dX3_play_29 : decode cX3_play 29 = .ok (.getfield 25, 3) := gz_d tdX3_play_t0_ok 16 rfl
theorem dX3_play_32 : decode cX3_play 32 = .ok (.getfield 35, 3) := gz_d tdX3_play_t0_ok 17 rfl
theorem dX3_play_35 : decode cX3_play 35 = .ok (.invokevirtual 39, 3) := gz_d tdX3_play_t0_ok 18 rfl
theorem dX3_play_38 : decode cX3_play 38 = .ok (.aload_n 0, 1) := gz_d tdX3_play_t0_ok 19 rfl
theorem dX3_play_39 : decode cX3_play 39 = .ok (.getfield 18, 3) := gz_d tdX3_play_t0_ok 20 rfl
theorem dX3_play_42 : decode cX3_play 42 = .ok (.aload_n 1, 1) := gz_d tdX3_play_t0_ok 21 rfl
theorem dX3_play_43 : decode cX3_play 43 = .ok (.iload_n 3, 1) := gz_d tdX3_play_t0_ok 22 rfl
theorem dX3_play_44 : decode cX3_play 44 = .ok (.aload 5, 2) := gz_d tdX3_play_t0_ok 23 rfl
theorem dX3_play_46 : decode cX3_play 46 = .ok (.aload_n 0, 1) := gz_d tdX3_play_t0_ok 24 rfl
theorem dX3_play_47 : decode cX3_play 47 = .ok (.getfield 25, 3) := gz_d tdX3_play_t0_ok 25 rfl
theorem dX3_play_50 : decode cX3_play 50 = .ok (.getfield 35, 3) := gz_d tdX3_play_t0_ok 26 rfl
theorem dX3_play_53 : decode cX3_play 53 = .ok (.invokevirtual 39, 3) := gz_d tdX3_play_t0_ok 27 rfl
theorem dX3_play_56 : decode cX3_play 56 = .ok (.dconst 0, 1) := gz_d tdX3_play_t0_ok 28 rfl
theorem dX3_play_57 : decode cX3_play 57 = .ok (.dstore 6, 2) := gz_d tdX3_play_t0_ok 29 rfl
theorem dX3_play_59 : decode cX3_play 59 = .ok (.iconst 0, 1) := gz_d tdX3_play_t0_ok 30 rfl
theorem dX3_play_60 : decode cX3_play 60 = .ok (.istore 8, 2) := gz_d tdX3_play_t0_ok 31 rfl
theorem dX3_play_62 : decode cX3_play 62 = .ok (.iload 8, 2) := gz_d tdX3_play_t0_ok 32 rfl
theorem dX3_play_64 : decode cX3_play 64 = .ok (.aload 4, 2) := gz_d tdX3_play_t0_ok 33 rfl
theorem dX3_play_66 : decode cX3_play 66 = .ok (.getfield 43, 3) := gz_d tdX3_play_t0_ok 34 rfl
theorem dX3_play_69 : decode cX3_play 69 = .ok (.if_icmp .ge 62, 3) := gz_d tdX3_play_t0_ok 35 rfl
theorem dX3_play_72 : decode cX3_play 72 = .ok (.iconst 0, 1) := gz_d tdX3_play_t0_ok 36 rfl
theorem dX3_play_73 : decode cX3_play 73 = .ok (.istore 9, 2) := gz_d tdX3_play_t0_ok 37 rfl
theorem dX3_play_75 : decode cX3_play 75 = .ok (.iload 9, 2) := gz_d tdX3_play_t0_ok 38 rfl
theorem dX3_play_77 : decode cX3_play 77 = .ok (.aload 5, 2) := gz_d tdX3_play_t0_ok 39 rfl
theorem dX3_play_79 : decode cX3_play 79 = .ok (.getfield 43, 3) := gz_d tdX3_play_t0_ok 40 rfl
theorem dX3_play_82 : decode cX3_play 82 = .ok (.if_icmp .ge 43, 3) := gz_d tdX3_play_t0_ok 41 rfl
theorem dX3_play_85 : decode cX3_play 85 = .ok (.aload 4, 2) := gz_d tdX3_play_t0_ok 42 rfl
theorem dX3_play_87 : decode cX3_play 87 = .ok (.iload 8, 2) := gz_d tdX3_play_t0_ok 43 rfl
theorem dX3_play_89 : decode cX3_play 89 = .ok (.invokevirtual 48, 3) := gz_d tdX3_play_t0_ok 44 rfl
theorem dX3_play_92 : decode cX3_play 92 = .ok (.aload 5, 2) := gz_d tdX3_play_t0_ok 45 rfl
theorem dX3_play_94 : decode cX3_play 94 = .ok (.iload 9, 2) := gz_d tdX3_play_t0_ok 46 rfl
theorem dX3_play_96 : decode cX3_play 96 = .ok (.invokevirtual 48, 3) := gz_d tdX3_play_t0_ok 47 rfl
theorem dX3_play_99 : decode cX3_play 99 = .ok (.imul, 1) := gz_d tdX3_play_t0_ok 48 rfl
theorem dX3_play_100 : decode cX3_play 100 = .ok (.i2d, 1) := gz_d tdX3_play_t0_ok 49 rfl
theorem dX3_play_101 : decode cX3_play 101 = .ok (.dstore 10, 2) := gz_d tdX3_play_t0_ok 50 rfl
theorem dX3_play_103 : decode cX3_play 103 = .ok (.dload 6, 2) := gz_d tdX3_play_t0_ok 51 rfl
theorem dX3_play_105 : decode cX3_play 105 = .ok (.dload 10, 2) := gz_d tdX3_play_t0_ok 52 rfl
theorem dX3_play_107 : decode cX3_play 107 = .ok (.aload_n 0, 1) := gz_d tdX3_play_t0_ok 53 rfl
theorem dX3_play_108 : decode cX3_play 108 = .ok (.iload 8, 2) := gz_d tdX3_play_t0_ok 54 rfl
theorem dX3_play_110 : decode cX3_play 110 = .ok (.iload 9, 2) := gz_d tdX3_play_t0_ok 55 rfl
theorem dX3_play_112 : decode cX3_play 112 = .ok (.invokevirtual 52, 3) := gz_d tdX3_play_t0_ok 56 rfl
theorem dX3_play_115 : decode cX3_play 115 = .ok (.dmul, 1) := gz_d tdX3_play_t0_ok 57 rfl
theorem dX3_play_116 : decode cX3_play 116 = .ok (.dadd, 1) := gz_d tdX3_play_t0_ok 58 rfl
theorem dX3_play_117 : decode cX3_play 117 = .ok (.dstore 6, 2) := gz_d tdX3_play_t0_ok 59 rfl
def tdX3_play_t1 : List (Nat × Instr × Nat) := [(119, .iinc 9 1, 3), (122, .goto (-47), 3), (125, .iinc 8 1, 3), (128, .goto (-66), 3), (131, .aload_n 0, 1), (132, .getfield 25, 3), (135, .dload 6, 2), (137, .invokevirtual 56, 3), (140, .dreturn, 1)]
theorem tdX3_play_t1_ok : gz_dec cX3_play tdX3_play_t1 = true := by decide +kernel
theorem dX3_play_119 : decode cX3_play 119 = .ok (.iinc 9 1, 3) := gz_d tdX3_play_t1_ok 0 rfl
theorem dX3_play_122 : decode cX3_play 122 = .ok (.goto (-47), 3) := gz_d tdX3_play_t1_ok 1 rfl
theorem dX3_play_125 : decode cX3_play 125 = .ok (.iinc 8 1, 3) := gz_d tdX3_play_t1_ok 2 rfl
theorem dX3_play_128 : decode cX3_play 128 = .ok (.goto (-66), 3) := gz_d tdX3_play_t1_ok 3 rfl
theorem dX3_play_131 : decode cX3_play 131 = .ok (.aload_n 0, 1) := gz_d tdX3_play_t1_ok 4 rfl
theorem dX3_play_132 : decode cX3_play 132 = .ok (.getfield 25, 3) := gz_d tdX3_play_t1_ok 5 rfl
theorem dX3_play_135 : decode cX3_play 135 = .ok (.dload 6, 2) := gz_d tdX3_play_t1_ok 6 rfl
theorem dX3_play_137 : decode cX3_play 137 = .ok (.invokevirtual 56, 3) := gz_d tdX3_play_t1_ok 7 rfl
theorem dX3_play_140 : decode cX3_play 140 = .ok (.dreturn, 1) := gz_d tdX3_play_t1_ok 8 rfl
def tdX3_expected_t0 : List (Nat × Instr × Nat) := [(0, .aload_n 0, 1), (1, .getfield 25, 3), (4, .getfield 35, 3), (7, .iconst 1, 1), (8, .isub, 1), (9, .istore_n 3, 1), (10, .iload_n 3, 1), (11, .ifCond .lt 46, 3), (14, .iconst 0, 1), (15, .istore 4, 2), (17, .iload 4, 2), (19, .iconst 2, 1), (20, .if_icmp .ge 31, 3), (23, .aload_n 0, 1), (24, .getfield 21, 3), (27, .iload_n 3, 1), (28, .iconst 2, 1), (29, .imul, 1), (30, .iload 4, 2), (32, .iadd, 1), (33, .aload_n 0, 1), (34, .iload_n 1, 1), (35, .iload_n 2, 1), (36, .iload_n 3, 1), (37, .iload 4, 2), (39, .invokevirtual 60, 3), (42, .invokestatic 64, 3), (45, .iinc 4 1, 3), (48, .goto (-31), 3), (51, .iinc 3 (-1), 3), (54, .goto (-44), 3), (57, .aload_n 0, 1), (58, .iload_n 1, 1), (59, .iload_n 2, 1), (60, .iconst (-1), 1), (61, .iconst 0, 1), (62, .invokevirtual 60, 3), (65, .dreturn, 1)]
theorem tdX3_expected_t0_ok : gz_dec cX3_expected tdX3_expected_t0 = true := by decide +kernel
theorem dX3_expected_0 : decode cX3_expected 0 = .ok (.aload_n 0, 1) := gz_d tdX3_expected_t0_ok 0 rfl
theorem dX3_expected_1 : decode cX3_expected 1 = .ok (.getfield 25, 3) := gz_d tdX3_expected_t0_ok 1 rfl
theorem dX3_expected_4 : decode cX3_expected 4 = .ok (.getfield 35, 3) := gz_d tdX3_expected_t0_ok 2 rfl
theorem dX3_expected_7 : decode cX3_expected 7 = .ok (.iconst 1, 1) := gz_d tdX3_expected_t0_ok 3 rfl
theorem dX3_expected_8 : decode cX3_expected 8 = .ok (.isub, 1) := gz_d tdX3_expected_t0_ok 4 rfl
theorem dX3_expected_9 : decode cX3_expected 9 = .ok (.istore_n 3, 1) := gz_d tdX3_expected_t0_ok 5 rfl
theorem dX3_expected_10 : decode cX3_expected 10 = .ok (.iload_n 3, 1) := gz_d tdX3_expected_t0_ok 6 rfl
theorem dX3_expected_11 : decode cX3_expected 11 = .ok (.ifCond .lt 46, 3) := gz_d tdX3_expected_t0_ok 7 rfl
theorem dX3_expected_14 : decode cX3_expected 14 = .ok (.iconst 0, 1) := gz_d tdX3_expected_t0_ok 8 rfl
theorem dX3_expected_15 : decode cX3_expected 15 = .ok (.istore 4, 2) := gz_d tdX3_expected_t0_ok 9 rfl
theorem dX3_expected_17 : decode cX3_expected 17 = .ok (.iload 4, 2) := gz_d tdX3_expected_t0_ok 10 rfl
theorem dX3_expected_19 : decode cX3_expected 19 = .ok (.iconst 2, 1) := gz_d tdX3_expected_t0_ok 11 rfl
theorem dX3_expected_20 : decode cX3_expected 20 = .ok (.if_icmp .ge 31, 3) := gz_d tdX3_expected_t0_ok 12 rfl
theorem dX3_expected_23 : decode cX3_expected 23 = .ok (.aload_n 0, 1) := gz_d tdX3_expected_t0_ok 13 rfl
theorem dX3_expected_24 : decode cX3_expected 24 = .ok (.getfield 21, 3) := gz_d tdX3_expected_t0_ok 14 rfl
theorem dX3_expected_27 : decode cX3_expected 27 = .ok (.iload_n 3, 1) := gz_d tdX3_expected_t0_ok 15 rfl
theorem dX3_expected_28 : decode cX3_expected 28 = .ok (.iconst 2, 1) := gz_d tdX3_expected_t0_ok 16 rfl
theorem dX3_expected_29 : decode cX3_expected 29 = .ok (.imul, 1) := gz_d tdX3_expected_t0_ok 17 rfl
theorem dX3_expected_30 : decode cX3_expected 30 = .ok (.iload 4, 2) := gz_d tdX3_expected_t0_ok 18 rfl
theorem dX3_expected_32 : decode cX3_expected 32 = .ok (.iadd, 1) := gz_d tdX3_expected_t0_ok 19 rfl
theorem dX3_expected_33 : decode cX3_expected 33 = .ok (.aload_n 0, 1) := gz_d tdX3_expected_t0_ok 20 rfl
theorem dX3_expected_34 : decode cX3_expected 34 = .ok (.iload_n 1, 1) := gz_d tdX3_expected_t0_ok 21 rfl
theorem dX3_expected_35 : decode cX3_expected 35 = .ok (.iload_n 2, 1) := gz_d tdX3_expected_t0_ok 22 rfl
theorem dX3_expected_36 : decode cX3_expected 36 = .ok (.iload_n 3, 1) := gz_d tdX3_expected_t0_ok 23 rfl
theorem dX3_expected_37 : decode cX3_expected 37 = .ok (.iload 4, 2) := gz_d tdX3_expected_t0_ok 24 rfl
theorem dX3_expected_39 : decode cX3_expected 39 = .ok (.invokevirtual 60, 3) := gz_d tdX3_expected_t0_ok 25 rfl
theorem dX3_expected_42 : decode cX3_expected 42 = .ok (.invokestatic 64, 3) := gz_d tdX3_expected_t0_ok 26 rfl
theorem dX3_expected_45 : decode cX3_expected 45 = .ok (.iinc 4 1, 3) := gz_d tdX3_expected_t0_ok 27 rfl
theorem dX3_expected_48 : decode cX3_expected 48 = .ok (.goto (-31), 3) := gz_d tdX3_expected_t0_ok 28 rfl
theorem dX3_expected_51 : decode cX3_expected 51 = .ok (.iinc 3 (-1), 3) := gz_d tdX3_expected_t0_ok 29 rfl
theorem dX3_expected_54 : decode cX3_expected 54 = .ok (.goto (-44), 3) := gz_d tdX3_expected_t0_ok 30 rfl
theorem dX3_expected_57 : decode cX3_expected 57 = .ok (.aload_n 0, 1) := gz_d tdX3_expected_t0_ok 31 rfl
theorem dX3_expected_58 : decode cX3_expected 58 = .ok (.iload_n 1, 1) := gz_d tdX3_expected_t0_ok 32 rfl
theorem dX3_expected_59 : decode cX3_expected 59 = .ok (.iload_n 2, 1) := gz_d tdX3_expected_t0_ok 33 rfl
theorem dX3_expected_60 : decode cX3_expected 60 = .ok (.iconst (-1), 1) := gz_d tdX3_expected_t0_ok 34 rfl
theorem dX3_expected_61 : decode cX3_expected 61 = .ok (.iconst 0, 1) := gz_d tdX3_expected_t0_ok 35 rfl
theorem dX3_expected_62 : decode cX3_expected 62 = .ok (.invokevirtual 60, 3) := gz_d tdX3_expected_t0_ok 36 rfl
theorem dX3_expected_65 : decode cX3_expected 65 = .ok (.dreturn, 1) := gz_d tdX3_expected_t0_ok 37 rfl
def tdX3_expectedAt_t0 : List (Nat × Instr × Nat) := [(0, .iload 4, 2), (2, .ifCond .ne 10, 3), (5, .aload_n 0, 1), (6, .getfield 12, 3), (9, .goto 7, 3), (12, .aload_n 0, 1), (13, .getfield 18, 3), (16, .astore 5, 2), (18, .iload 4, 2), (20, .ifCond .ne 7, 3), (23, .iload_n 1, 1), (24, .goto 4, 3), (27, .iload_n 2, 1), (28, .istore 6, 2), (30, .dconst 0, 1), (31, .dstore 7, 2), (33, .aload 5, 2), (35, .iload 6, 2), (37, .iload_n 3, 1), (38, .iconst (-1), 1), (39, .invokevirtual 68, 3), (42, .dstore 9, 2), (44, .dload 9, 2), (46, .dconst 0, 1), (47, .dcmp .l, 1), (48, .ifCond .le 52, 3), (51, .iload 4, 2), (53, .iconst 1, 1), (54, .if_icmp .ne 7, 3), (57, .iconst 1, 1), (58, .goto 4, 3), (61, .iconst 0, 1), (62, .aload_n 0, 1), (63, .getfield 25, 3), (66, .iload_n 1, 1), (67, .iload_n 2, 1), (68, .iload_n 3, 1), (69, .invokevirtual 72, 3), (72, .if_icmp .ne 7, 3), (75, .iconst 1, 1), (76, .goto 4, 3), (79, .iconst 0, 1), (80, .istore 11, 2), (82, .dload 7, 2), (84, .dload 9, 2), (86, .iload 11, 2), (88, .ifCond .eq 7, 3), (91, .dconst 1, 1), (92, .goto 4, 3), (95, .dconst 0, 1), (96, .dmul, 1), (97, .dadd, 1), (98, .dstore 7, 2), (100, .iload_n 3, 1), (101, .iconst 1, 1), (102, .iadd, 1), (103, .istore 11, 2), (105, .iload 11, 2), (107, .aload_n 0, 1), (108, .getfield 25, 3)]
theorem tdX3_expectedAt_t0_ok : gz_dec cX3_expectedAt tdX3_expectedAt_t0 = true := by decide +kernel
theorem dX3_expectedAt_0 : decode cX3_expectedAt 0 = .ok (.iload 4, 2) := gz_d tdX3_expectedAt_t0_ok 0 rfl
theorem dX3_expectedAt_2 : decode cX3_expectedAt 2 = .ok (.ifCond .ne 10, 3) := gz_d tdX3_expectedAt_t0_ok 1 rfl
theorem dX3_expectedAt_5 : decode cX3_expectedAt 5 = .ok (.aload_n 0, 1) := gz_d tdX3_expectedAt_t0_ok 2 rfl
theorem dX3_expectedAt_6 : decode cX3_expectedAt 6 = .ok (.getfield 12, 3) := gz_d tdX3_expectedAt_t0_ok 3 rfl
theorem dX3_expectedAt_9 : decode cX3_expectedAt 9 = .ok (.goto 7, 3) := gz_d tdX3_expectedAt_t0_ok 4 rfl
theorem dX3_expectedAt_12 : decode cX3_expectedAt 12 = .ok (.aload_n 0, 1) := gz_d tdX3_expectedAt_t0_ok 5 rfl
theorem dX3_expectedAt_13 : decode cX3_expectedAt 13 = .ok (.getfield 18, 3) := gz_d tdX3_expectedAt_t0_ok 6 rfl
theorem dX3_expectedAt_16 : decode cX3_expectedAt 16 = .ok (.astore 5, 2) := gz_d tdX3_expectedAt_t0_ok 7 rfl
theorem dX3_expectedAt_18 : decode cX3_expectedAt 18 = .ok (.iload 4, 2) := gz_d tdX3_expectedAt_t0_ok 8 rfl
theorem dX3_expectedAt_20 : decode cX3_expectedAt 20 = .ok (.ifCond .ne 7, 3) := gz_d tdX3_expectedAt_t0_ok 9 rfl
theorem dX3_expectedAt_23 : decode cX3_expectedAt 23 = .ok (.iload_n 1, 1) := gz_d tdX3_expectedAt_t0_ok 10 rfl
theorem dX3_expectedAt_24 : decode cX3_expectedAt 24 = .ok (.goto 4, 3) := gz_d tdX3_expectedAt_t0_ok 11 rfl
theorem dX3_expectedAt_27 : decode cX3_expectedAt 27 = .ok (.iload_n 2, 1) := gz_d tdX3_expectedAt_t0_ok 12 rfl
theorem dX3_expectedAt_28 : decode cX3_expectedAt 28 = .ok (.istore 6, 2) := gz_d tdX3_expectedAt_t0_ok 13 rfl
theorem dX3_expectedAt_30 : decode cX3_expectedAt 30 = .ok (.dconst 0, 1) := gz_d tdX3_expectedAt_t0_ok 14 rfl
theorem dX3_expectedAt_31 : decode cX3_expectedAt 31 = .ok (.dstore 7, 2) := gz_d tdX3_expectedAt_t0_ok 15 rfl
theorem dX3_expectedAt_33 : decode cX3_expectedAt 33 = .ok (.aload 5, 2) := gz_d tdX3_expectedAt_t0_ok 16 rfl
theorem dX3_expectedAt_35 : decode cX3_expectedAt 35 = .ok (.iload 6, 2) := gz_d tdX3_expectedAt_t0_ok 17 rfl
theorem dX3_expectedAt_37 : decode cX3_expectedAt 37 = .ok (.iload_n 3, 1) := gz_d tdX3_expectedAt_t0_ok 18 rfl
theorem dX3_expectedAt_38 : decode cX3_expectedAt 38 = .ok (.iconst (-1), 1) := gz_d tdX3_expectedAt_t0_ok 19 rfl
theorem dX3_expectedAt_39 : decode cX3_expectedAt 39 = .ok (.invokevirtual 68, 3) := gz_d tdX3_expectedAt_t0_ok 20 rfl
theorem dX3_expectedAt_42 : decode cX3_expectedAt 42 = .ok (.dstore 9, 2) := gz_d tdX3_expectedAt_t0_ok 21 rfl
theorem dX3_expectedAt_44 : decode cX3_expectedAt 44 = .ok (.dload 9, 2) := gz_d tdX3_expectedAt_t0_ok 22 rfl
theorem dX3_expectedAt_46 : decode cX3_expectedAt 46 = .ok (.dconst 0, 1) := gz_d tdX3_expectedAt_t0_ok 23 rfl
theorem dX3_expectedAt_47 : decode cX3_expectedAt 47 = .ok (.dcmp .l, 1) := gz_d tdX3_expectedAt_t0_ok 24 rfl
theorem dX3_expectedAt_48 : decode cX3_expectedAt 48 = .ok (.ifCond .le 52, 3) := gz_d tdX3_expectedAt_t0_ok 25 rfl
theorem dX3_expectedAt_51 : decode cX3_expectedAt 51 = .ok (.iload 4, 2) := gz_d tdX3_expectedAt_t0_ok 26 rfl
theorem dX3_expectedAt_53 : decode cX3_expectedAt 53 = .ok (.iconst 1, 1) := gz_d tdX3_expectedAt_t0_ok 27 rfl
theorem dX3_expectedAt_54 : decode cX3_expectedAt 54 = .ok (.if_icmp .ne 7, 3) := gz_d tdX3_expectedAt_t0_ok 28 rfl
theorem dX3_expectedAt_57 : decode cX3_expectedAt 57 = .ok (.iconst 1, 1) := gz_d tdX3_expectedAt_t0_ok 29 rfl
theorem dX3_expectedAt_58 : decode cX3_expectedAt 58 = .ok (.goto 4, 3) := gz_d tdX3_expectedAt_t0_ok 30 rfl
theorem dX3_expectedAt_61 : decode cX3_expectedAt 61 = .ok (.iconst 0, 1) := gz_d tdX3_expectedAt_t0_ok 31 rfl
theorem dX3_expectedAt_62 : decode cX3_expectedAt 62 = .ok (.aload_n 0, 1) := gz_d tdX3_expectedAt_t0_ok 32 rfl
theorem dX3_expectedAt_63 : decode cX3_expectedAt 63 = .ok (.getfield 25, 3) := gz_d tdX3_expectedAt_t0_ok 33 rfl
theorem dX3_expectedAt_66 : decode cX3_expectedAt 66 = .ok (.iload_n 1, 1) := gz_d tdX3_expectedAt_t0_ok 34 rfl
theorem dX3_expectedAt_67 : decode cX3_expectedAt 67 = .ok (.iload_n 2, 1) := gz_d tdX3_expectedAt_t0_ok 35 rfl
theorem dX3_expectedAt_68 : decode cX3_expectedAt 68 = .ok (.iload_n 3, 1) := gz_d tdX3_expectedAt_t0_ok 36 rfl
theorem dX3_expectedAt_69 : decode cX3_expectedAt 69 = .ok (.invokevirtual 72, 3) := gz_d tdX3_expectedAt_t0_ok 37 rfl
theorem dX3_expectedAt_72 : decode cX3_expectedAt 72 = .ok (.if_icmp .ne 7, 3) := gz_d tdX3_expectedAt_t0_ok 38 rfl
theorem dX3_expectedAt_75 : decode cX3_expectedAt 75 = .ok (.iconst 1, 1) := gz_d tdX3_expectedAt_t0_ok 39 rfl
theorem dX3_expectedAt_76 : decode cX3_expectedAt 76 = .ok (.goto 4, 3) := gz_d tdX3_expectedAt_t0_ok 40 rfl
theorem dX3_expectedAt_79 : decode cX3_expectedAt 79 = .ok (.iconst 0, 1) := gz_d tdX3_expectedAt_t0_ok 41 rfl
theorem dX3_expectedAt_80 : decode cX3_expectedAt 80 = .ok (.istore 11, 2) := gz_d tdX3_expectedAt_t0_ok 42 rfl
theorem dX3_expectedAt_82 : decode cX3_expectedAt 82 = .ok (.dload 7, 2) := gz_d tdX3_expectedAt_t0_ok 43 rfl
theorem dX3_expectedAt_84 : decode cX3_expectedAt 84 = .ok (.dload 9, 2) := gz_d tdX3_expectedAt_t0_ok 44 rfl
theorem dX3_expectedAt_86 : decode cX3_expectedAt 86 = .ok (.iload 11, 2) := gz_d tdX3_expectedAt_t0_ok 45 rfl
theorem dX3_expectedAt_88 : decode cX3_expectedAt 88 = .ok (.ifCond .eq 7, 3) := gz_d tdX3_expectedAt_t0_ok 46 rfl
theorem dX3_expectedAt_91 : decode cX3_expectedAt 91 = .ok (.dconst 1, 1) := gz_d tdX3_expectedAt_t0_ok 47 rfl
theorem dX3_expectedAt_92 : decode cX3_expectedAt 92 = .ok (.goto 4, 3) := gz_d tdX3_expectedAt_t0_ok 48 rfl
theorem dX3_expectedAt_95 : decode cX3_expectedAt 95 = .ok (.dconst 0, 1) := gz_d tdX3_expectedAt_t0_ok 49 rfl
theorem dX3_expectedAt_96 : decode cX3_expectedAt 96 = .ok (.dmul, 1) := gz_d tdX3_expectedAt_t0_ok 50 rfl
theorem dX3_expectedAt_97 : decode cX3_expectedAt 97 = .ok (.dadd, 1) := gz_d tdX3_expectedAt_t0_ok 51 rfl
theorem dX3_expectedAt_98 : decode cX3_expectedAt 98 = .ok (.dstore 7, 2) := gz_d tdX3_expectedAt_t0_ok 52 rfl
theorem dX3_expectedAt_100 : decode cX3_expectedAt 100 = .ok (.iload_n 3, 1) := gz_d tdX3_expectedAt_t0_ok 53 rfl
theorem dX3_expectedAt_101 : decode cX3_expectedAt 101 = .ok (.iconst 1, 1) := gz_d tdX3_expectedAt_t0_ok 54 rfl
theorem dX3_expectedAt_102 : decode cX3_expectedAt 102 = .ok (.iadd, 1) := gz_d tdX3_expectedAt_t0_ok 55 rfl
theorem dX3_expectedAt_103 : decode cX3_expectedAt 103 = .ok (.istore 11, 2) := gz_d tdX3_expectedAt_t0_ok 56 rfl
theorem dX3_expectedAt_105 : decode cX3_expectedAt 105 = .ok (.iload 11, 2) := gz_d tdX3_expectedAt_t0_ok 57 rfl
theorem dX3_expectedAt_107 : decode cX3_expectedAt 107 = .ok (.aload_n 0, 1) := gz_d tdX3_expectedAt_t0_ok 58 rfl
theorem dX3_expectedAt_108 : decode cX3_expectedAt 108 = .ok (.getfield 25, 3) := gz_d tdX3_expectedAt_t0_ok 59 rfl
def tdX3_expectedAt_t1 : List (Nat × Instr × Nat) := [(111, .getfield 35, 3), (114, .if_icmp .ge 52, 3), (117, .aload 5, 2), (119, .iload 6, 2), (121, .iload_n 3, 1), (122, .iload 11, 2), (124, .invokevirtual 68, 3), (127, .dstore 12, 2), (129, .dload 12, 2), (131, .dconst 0, 1), (132, .dcmp .l, 1), (133, .ifCond .le 27, 3), (136, .dload 7, 2), (138, .dload 12, 2), (140, .aload_n 0, 1), (141, .getfield 21, 3), (144, .iload 11, 2), (146, .iconst 2, 1), (147, .imul, 1), (148, .iconst 1, 1), (149, .iadd, 1), (150, .iload 4, 2), (152, .isub, 1), (153, .invokestatic 76, 3), (156, .dmul, 1), (157, .dadd, 1), (158, .dstore 7, 2), (160, .iinc 11 1, 3), (163, .goto (-58), 3), (166, .dload 7, 2), (168, .dreturn, 1)]
theorem tdX3_expectedAt_t1_ok : gz_dec cX3_expectedAt tdX3_expectedAt_t1 = true := by decide +kernel
theorem dX3_expectedAt_111 : decode cX3_expectedAt 111 = .ok (.getfield 35, 3) := gz_d tdX3_expectedAt_t1_ok 0 rfl
theorem dX3_expectedAt_114 : decode cX3_expectedAt 114 = .ok (.if_icmp .ge 52, 3) := gz_d tdX3_expectedAt_t1_ok 1 rfl
theorem dX3_expectedAt_117 : decode cX3_expectedAt 117 = .ok (.aload 5, 2) := gz_d tdX3_expectedAt_t1_ok 2 rfl
theorem dX3_expectedAt_119 : decode cX3_expectedAt 119 = .ok (.iload 6, 2) := gz_d tdX3_expectedAt_t1_ok 3 rfl
theorem dX3_expectedAt_121 : decode cX3_expectedAt 121 = .ok (.iload_n 3, 1) := gz_d tdX3_expectedAt_t1_ok 4 rfl
theorem dX3_expectedAt_122 : decode cX3_expectedAt 122 = .ok (.iload 11, 2) := gz_d tdX3_expectedAt_t1_ok 5 rfl
theorem dX3_expectedAt_124 : decode cX3_expectedAt 124 = .ok (.invokevirtual 68, 3) := gz_d tdX3_expectedAt_t1_ok 6 rfl
theorem dX3_expectedAt_127 : decode cX3_expectedAt 127 = .ok (.dstore 12, 2) := gz_d tdX3_expectedAt_t1_ok 7 rfl
theorem dX3_expectedAt_129 : decode cX3_expectedAt 129 = .ok (.dload 12, 2) := gz_d tdX3_expectedAt_t1_ok 8 rfl
theorem dX3_expectedAt_131 : decode cX3_expectedAt 131 = .ok (.dconst 0, 1) := gz_d tdX3_expectedAt_t1_ok 9 rfl
theorem dX3_expectedAt_132 : decode cX3_expectedAt 132 = .ok (.dcmp .l, 1) := gz_d tdX3_expectedAt_t1_ok 10 rfl
theorem dX3_expectedAt_133 : decode cX3_expectedAt 133 = .ok (.ifCond .le 27, 3) := gz_d tdX3_expectedAt_t1_ok 11 rfl
theorem dX3_expectedAt_136 : decode cX3_expectedAt 136 = .ok (.dload 7, 2) := gz_d tdX3_expectedAt_t1_ok 12 rfl
theorem dX3_expectedAt_138 : decode cX3_expectedAt 138 = .ok (.dload 12, 2) := gz_d tdX3_expectedAt_t1_ok 13 rfl
theorem dX3_expectedAt_140 : decode cX3_expectedAt 140 = .ok (.aload_n 0, 1) := gz_d tdX3_expectedAt_t1_ok 14 rfl
theorem dX3_expectedAt_141 : decode cX3_expectedAt 141 = .ok (.getfield 21, 3) := gz_d tdX3_expectedAt_t1_ok 15 rfl
theorem dX3_expectedAt_144 : decode cX3_expectedAt 144 = .ok (.iload 11, 2) := gz_d tdX3_expectedAt_t1_ok 16 rfl
theorem dX3_expectedAt_146 : decode cX3_expectedAt 146 = .ok (.iconst 2, 1) := gz_d tdX3_expectedAt_t1_ok 17 rfl
theorem dX3_expectedAt_147 : decode cX3_expectedAt 147 = .ok (.imul, 1) := gz_d tdX3_expectedAt_t1_ok 18 rfl
theorem dX3_expectedAt_148 : decode cX3_expectedAt 148 = .ok (.iconst 1, 1) := gz_d tdX3_expectedAt_t1_ok 19 rfl
theorem dX3_expectedAt_149 : decode cX3_expectedAt 149 = .ok (.iadd, 1) := gz_d tdX3_expectedAt_t1_ok 20 rfl
theorem dX3_expectedAt_150 : decode cX3_expectedAt 150 = .ok (.iload 4, 2) := gz_d tdX3_expectedAt_t1_ok 21 rfl
theorem dX3_expectedAt_152 : decode cX3_expectedAt 152 = .ok (.isub, 1) := gz_d tdX3_expectedAt_t1_ok 22 rfl
theorem dX3_expectedAt_153 : decode cX3_expectedAt 153 = .ok (.invokestatic 76, 3) := gz_d tdX3_expectedAt_t1_ok 23 rfl
theorem dX3_expectedAt_156 : decode cX3_expectedAt 156 = .ok (.dmul, 1) := gz_d tdX3_expectedAt_t1_ok 24 rfl
theorem dX3_expectedAt_157 : decode cX3_expectedAt 157 = .ok (.dadd, 1) := gz_d tdX3_expectedAt_t1_ok 25 rfl
theorem dX3_expectedAt_158 : decode cX3_expectedAt 158 = .ok (.dstore 7, 2) := gz_d tdX3_expectedAt_t1_ok 26 rfl
theorem dX3_expectedAt_160 : decode cX3_expectedAt 160 = .ok (.iinc 11 1, 3) := gz_d tdX3_expectedAt_t1_ok 27 rfl
theorem dX3_expectedAt_163 : decode cX3_expectedAt 163 = .ok (.goto (-58), 3) := gz_d tdX3_expectedAt_t1_ok 28 rfl
theorem dX3_expectedAt_166 : decode cX3_expectedAt 166 = .ok (.dload 7, 2) := gz_d tdX3_expectedAt_t1_ok 29 rfl
theorem dX3_expectedAt_168 : decode cX3_expectedAt 168 = .ok (.dreturn, 1) := gz_d tdX3_expectedAt_t1_ok 30 rfl
def tdX4_init_t0 : List (Nat × Instr × Nat) := [(0, .aload_n 0, 1), (1, .invokespecial 3, 3), (4, .aload_n 0, 1), (5, .sipush 3888, 3), (8, .newarray .int, 2), (10, .putfield 9, 3), (13, .aload_n 0, 1), (14, .getfield 9, 3), (17, .iconst 1, 1), (18, .invokestatic 15, 3), (21, .return_, 1)]
theorem tdX4_init_t0_ok : gz_dec cX4_init tdX4_init_t0 = true := by decide +kernel
theorem dX4_init_0 : decode cX4_init 0 = .ok (.aload_n 0, 1) := gz_d tdX4_init_t0_ok 0 rfl
theorem dX4_init_1 : decode cX4_init 1 = .ok (.invokespecial 3, 3) := gz_d tdX4_init_t0_ok 1 rfl
theorem dX4_init_4 : decode cX4_init 4 = .ok (.aload_n 0, 1) := gz_d tdX4_init_t0_ok 2 rfl
theorem dX4_init_5 : decode cX4_init 5 = .ok (.sipush 3888, 3) := gz_d tdX4_init_t0_ok 3 rfl
theorem dX4_init_8 : decode cX4_init 8 = .ok (.newarray .int, 2) := gz_d tdX4_init_t0_ok 4 rfl
theorem dX4_init_10 : decode cX4_init 10 = .ok (.putfield 9, 3) := gz_d tdX4_init_t0_ok 5 rfl
theorem dX4_init_13 : decode cX4_init 13 = .ok (.aload_n 0, 1) := gz_d tdX4_init_t0_ok 6 rfl
theorem dX4_init_14 : decode cX4_init 14 = .ok (.getfield 9, 3) := gz_d tdX4_init_t0_ok 7 rfl
theorem dX4_init_17 : decode cX4_init 17 = .ok (.iconst 1, 1) := gz_d tdX4_init_t0_ok 8 rfl
theorem dX4_init_18 : decode cX4_init 18 = .ok (.invokestatic 15, 3) := gz_d tdX4_init_t0_ok 9 rfl
theorem dX4_init_21 : decode cX4_init 21 = .ok (.return_, 1) := gz_d tdX4_init_t0_ok 10 rfl
def tdX4_reset_t0 : List (Nat × Instr × Nat) := [(0, .aload_n 0, 1), (1, .getfield 9, 3), (4, .iconst 1, 1), (5, .invokestatic 15, 3), (8, .return_, 1)]
theorem tdX4_reset_t0_ok : gz_dec cX4_reset tdX4_reset_t0 = true := by decide +kernel
theorem dX4_reset_0 : decode cX4_reset 0 = .ok (.aload_n 0, 1) := gz_d tdX4_reset_t0_ok 0 rfl
theorem dX4_reset_1 : decode cX4_reset 1 = .ok (.getfield 9, 3) := gz_d tdX4_reset_t0_ok 1 rfl
theorem dX4_reset_4 : decode cX4_reset 4 = .ok (.iconst 1, 1) := gz_d tdX4_reset_t0_ok 2 rfl
theorem dX4_reset_5 : decode cX4_reset 5 = .ok (.invokestatic 15, 3) := gz_d tdX4_reset_t0_ok 3 rfl
theorem dX4_reset_8 : decode cX4_reset 8 = .ok (.return_, 1) := gz_d tdX4_reset_t0_ok 4 rfl
def tdX4_spot_t0 : List (Nat × Instr × Nat) := [(0, .iload_n 1, 1), (1, .iconst 3, 1), (2, .imul, 1), (3, .iload_n 2, 1), (4, .iadd, 1), (5, .iconst 1, 1), (6, .isub, 1), (7, .iconst 4, 1), (8, .imul, 1), (9, .iload_n 3, 1), (10, .iadd, 1), (11, .istore 6, 2), (13, .iload 6, 2), (15, .bipush 9, 2), (17, .imul, 1), (18, .iload 4, 2), (20, .iadd, 1), (21, .iconst 1, 1), (22, .iadd, 1), (23, .bipush 9, 2), (25, .imul, 1), (26, .iload 5, 2), (28, .iadd, 1), (29, .iconst 1, 1), (30, .iadd, 1), (31, .ireturn, 1)]
theorem tdX4_spot_t0_ok : gz_dec cX4_spot tdX4_spot_t0 = true := by decide +kernel
theorem dX4_spot_0 : decode cX4_spot 0 = .ok (.iload_n 1, 1) := gz_d tdX4_spot_t0_ok 0 rfl
theorem dX4_spot_1 : decode cX4_spot 1 = .ok (.iconst 3, 1) := gz_d tdX4_spot_t0_ok 1 rfl
theorem dX4_spot_2 : decode cX4_spot 2 = .ok (.imul, 1) := gz_d tdX4_spot_t0_ok 2 rfl
theorem dX4_spot_3 : decode cX4_spot 3 = .ok (.iload_n 2, 1) := gz_d tdX4_spot_t0_ok 3 rfl
theorem dX4_spot_4 : decode cX4_spot 4 = .ok (.iadd, 1) := gz_d tdX4_spot_t0_ok 4 rfl
theorem dX4_spot_5 : decode cX4_spot 5 = .ok (.iconst 1, 1) := gz_d tdX4_spot_t0_ok 5 rfl
theorem dX4_spot_6 : decode cX4_spot 6 = .ok (.isub, 1) := gz_d tdX4_spot_t0_ok 6 rfl
theorem dX4_spot_7 : decode cX4_spot 7 = .ok (.iconst 4, 1) := gz_d tdX4_spot_t0_ok 7 rfl
theorem dX4_spot_8 : decode cX4_spot 8 = .ok (.imul, 1) := gz_d tdX4_spot_t0_ok 8 rfl
theorem dX4_spot_9 : decode cX4_spot 9 = .ok (.iload_n 3, 1) := gz_d tdX4_spot_t0_ok 9 rfl
theorem dX4_spot_10 : decode cX4_spot 10 = .ok (.iadd, 1) := gz_d tdX4_spot_t0_ok 10 rfl
theorem dX4_spot_11 : decode cX4_spot 11 = .ok (.istore 6, 2) := gz_d tdX4_spot_t0_ok 11 rfl
theorem dX4_spot_13 : decode cX4_spot 13 = .ok (.iload 6, 2) := gz_d tdX4_spot_t0_ok 12 rfl
theorem dX4_spot_15 : decode cX4_spot 15 = .ok (.bipush 9, 2) := gz_d tdX4_spot_t0_ok 13 rfl
theorem dX4_spot_17 : decode cX4_spot 17 = .ok (.imul, 1) := gz_d tdX4_spot_t0_ok 14 rfl
theorem dX4_spot_18 : decode cX4_spot 18 = .ok (.iload 4, 2) := gz_d tdX4_spot_t0_ok 15 rfl
theorem dX4_spot_20 : decode cX4_spot 20 = .ok (.iadd, 1) := gz_d tdX4_spot_t0_ok 16 rfl
theorem dX4_spot_21 : decode cX4_spot 21 = .ok (.iconst 1, 1) := gz_d tdX4_spot_t0_ok 17 rfl
theorem dX4_spot_22 : decode cX4_spot 22 = .ok (.iadd, 1) := gz_d tdX4_spot_t0_ok 18 rfl
theorem dX4_spot_23 : decode cX4_spot 23 = .ok (.bipush 9, 2) := gz_d tdX4_spot_t0_ok 19 rfl
theorem dX4_spot_25 : decode cX4_spot 25 = .ok (.imul, 1) := gz_d tdX4_spot_t0_ok 20 rfl
theorem dX4_spot_26 : decode cX4_spot 26 = .ok (.iload 5, 2) := gz_d tdX4_spot_t0_ok 21 rfl
theorem dX4_spot_28 : decode cX4_spot 28 = .ok (.iadd, 1) := gz_d tdX4_spot_t0_ok 22 rfl
theorem dX4_spot_29 : decode cX4_spot 29 = .ok (.iconst 1, 1) := gz_d tdX4_spot_t0_ok 23 rfl
theorem dX4_spot_30 : decode cX4_spot 30 = .ok (.iadd, 1) := gz_d tdX4_spot_t0_ok 24 rfl
theorem dX4_spot_31 : decode cX4_spot 31 = .ok (.ireturn, 1) := gz_d tdX4_spot_t0_ok 25 rfl
def tdX4_change_t0 : List (Nat × Instr × Nat) := [(0, .aload_n 0, 1), (1, .getfield 9, 3), (4, .iload_n 1, 1), (5, .invokestatic 21, 3), (8, .istore_n 3, 1), (9, .aload_n 0, 1), (10, .getfield 9, 3), (13, .iload_n 1, 1), (14, .iload_n 2, 1), (15, .invokestatic 25, 3), (18, .iload_n 3, 1), (19, .ireturn, 1)]
theorem tdX4_change_t0_ok : gz_dec cX4_change tdX4_change_t0 = true := by decide +kernel
theorem dX4_change_0 : decode cX4_change 0 = .ok (.aload_n 0, 1) := gz_d tdX4_change_t0_ok 0 rfl
theorem dX4_change_1 : decode cX4_change 1 = .ok (.getfield 9, 3) := gz_d tdX4_change_t0_ok 1 rfl
theorem dX4_change_4 : decode cX4_change 4 = .ok (.iload_n 1, 1) := gz_d tdX4_change_t0_ok 2 rfl
theorem dX4_change_5 : decode cX4_change 5 = .ok (.invokestatic 21, 3) := gz_d tdX4_change_t0_ok 3 rfl
theorem dX4_change_8 : decode cX4_change 8 = .ok (.istore_n 3, 1) := gz_d tdX4_change_t0_ok 4 rfl
theorem dX4_change_9 : decode cX4_change 9 = .ok (.aload_n 0, 1) := gz_d tdX4_change_t0_ok 5 rfl
theorem dX4_change_10 : decode cX4_change 10 = .ok (.getfield 9, 3) := gz_d tdX4_change_t0_ok 6 rfl
theorem dX4_change_13 : decode cX4_change 13 = .ok (.iload_n 1, 1) := gz_d tdX4_change_t0_ok 7 rfl
theorem dX4_change_14 : decode cX4_change 14 = .ok (.iload_n 2, 1) := gz_d tdX4_change_t0_ok 8 rfl
theorem dX4_change_15 : decode cX4_change 15 = .ok (.invokestatic 25, 3) := gz_d tdX4_change_t0_ok 9 rfl
theorem dX4_change_18 : decode cX4_change 18 = .ok (.iload_n 3, 1) := gz_d tdX4_change_t0_ok 10 rfl
theorem dX4_change_19 : decode cX4_change 19 = .ok (.ireturn, 1) := gz_d tdX4_change_t0_ok 11 rfl
def tdX4_weightAt_t0 : List (Nat × Instr × Nat) := [(0, .aload_n 0, 1), (1, .getfield 9, 3), (4, .iload_n 1, 1), (5, .invokestatic 21, 3), (8, .ireturn, 1)]
theorem tdX4_weightAt_t0_ok : gz_dec cX4_weightAt tdX4_weightAt_t0 = true := by decide +kernel
theorem dX4_weightAt_0 : decode cX4_weightAt 0 = .ok (.aload_n 0, 1) := gz_d tdX4_weightAt_t0_ok 0 rfl
theorem dX4_weightAt_1 : decode cX4_weightAt 1 = .ok (.getfield 9, 3) := gz_d tdX4_weightAt_t0_ok 1 rfl
theorem dX4_weightAt_4 : decode cX4_weightAt 4 = .ok (.iload_n 1, 1) := gz_d tdX4_weightAt_t0_ok 2 rfl
theorem dX4_weightAt_5 : decode cX4_weightAt 5 = .ok (.invokestatic 21, 3) := gz_d tdX4_weightAt_t0_ok 3 rfl
theorem dX4_weightAt_8 : decode cX4_weightAt 8 = .ok (.ireturn, 1) := gz_d tdX4_weightAt_t0_ok 4 rfl
def tdX4_mix_t0 : List (Nat × Instr × Nat) := [(0, .lload_n 1, 1), (1, .lstore 6, 2), (3, .iconst 0, 1), (4, .istore 8, 2), (6, .iload 8, 2), (8, .aload 4, 2), (10, .getfield 29, 3), (13, .if_icmp .ge 81, 3), (16, .iconst (-1), 1), (17, .istore 9, 2), (19, .iload 9, 2), (21, .iload 5, 2), (23, .if_icmp .ge 65, 3), (26, .iconst (-1), 1), (27, .istore 10, 2), (29, .iload 10, 2), (31, .iload 5, 2), (33, .if_icmp .ge 49, 3), (36, .iload 9, 2), (38, .iload 10, 2), (40, .invokestatic 35, 3), (43, .ifCond .eq 33, 3), (46, .ldc2_w 39, 3), (49, .lload 6, 2), (51, .lmul, 1), (52, .aload_n 0, 1), (53, .aload_n 0, 1), (54, .iload_n 3, 1), (55, .aload 4, 2), (57, .getfield 41, 3), (60, .iload 8, 2), (62, .iload 9, 2), (64, .iload 10, 2), (66, .invokevirtual 44, 3), (69, .invokevirtual 48, 3), (72, .i2l, 1), (73, .ladd, 1), (74, .lstore 6, 2), (76, .iinc 10 1, 3), (79, .goto (-50), 3), (82, .iinc 9 1, 3), (85, .goto (-66), 3), (88, .iinc 8 1, 3), (91, .goto (-85), 3), (94, .lload 6, 2), (96, .lreturn, 1)]
theorem tdX4_mix_t0_ok : gz_dec cX4_mix tdX4_mix_t0 = true := by decide +kernel
theorem dX4_mix_0 : decode cX4_mix 0 = .ok (.lload_n 1, 1) := gz_d tdX4_mix_t0_ok 0 rfl
theorem dX4_mix_1 : decode cX4_mix 1 = .ok (.lstore 6, 2) := gz_d tdX4_mix_t0_ok 1 rfl
theorem dX4_mix_3 : decode cX4_mix 3 = .ok (.iconst 0, 1) := gz_d tdX4_mix_t0_ok 2 rfl
theorem dX4_mix_4 : decode cX4_mix 4 = .ok (.istore 8, 2) := gz_d tdX4_mix_t0_ok 3 rfl
theorem dX4_mix_6 : decode cX4_mix 6 = .ok (.iload 8, 2) := gz_d tdX4_mix_t0_ok 4 rfl
theorem dX4_mix_8 : decode cX4_mix 8 = .ok (.aload 4, 2) := gz_d tdX4_mix_t0_ok 5 rfl
theorem dX4_mix_10 : decode cX4_mix 10 = .ok (.getfield 29, 3) := gz_d tdX4_mix_t0_ok 6 rfl
theorem dX4_mix_13 : decode cX4_mix 13 = .ok (.if_icmp .ge 81, 3) := gz_d tdX4_mix_t0_ok 7 rfl
theorem dX4_mix_16 : decode cX4_mix 16 = .ok (.iconst (-1), 1) := gz_d tdX4_mix_t0_ok 8 rfl
theorem dX4_mix_17 : decode cX4_mix 17 = .ok (.istore 9, 2) := gz_d tdX4_mix_t0_ok 9 rfl
theorem dX4_mix_19 : decode cX4_mix 19 = .ok (.iload 9, 2) := gz_d tdX4_mix_t0_ok 10 rfl
theorem dX4_mix_21 : decode cX4_mix 21 = .ok (.iload 5, 2) := gz_d tdX4_mix_t0_ok 11 rfl
theorem dX4_mix_23 : decode cX4_mix 23 = .ok (.if_icmp .ge 65, 3) := gz_d tdX4_mix_t0_ok 12 rfl
theorem dX4_mix_26 : decode cX4_mix 26 = .ok (.iconst (-1), 1) := gz_d tdX4_mix_t0_ok 13 rfl
theorem dX4_mix_27 : decode cX4_mix 27 = .ok (.istore 10, 2) := gz_d tdX4_mix_t0_ok 14 rfl
theorem dX4_mix_29 : decode cX4_mix 29 = .ok (.iload 10, 2) := gz_d tdX4_mix_t0_ok 15 rfl
theorem dX4_mix_31 : decode cX4_mix 31 = .ok (.iload 5, 2) := gz_d tdX4_mix_t0_ok 16 rfl
theorem dX4_mix_33 : decode cX4_mix 33 = .ok (.if_icmp .ge 49, 3) := gz_d tdX4_mix_t0_ok 17 rfl
theorem dX4_mix_36 : decode cX4_mix 36 = .ok (.iload 9, 2) := gz_d tdX4_mix_t0_ok 18 rfl
theorem dX4_mix_38 : decode cX4_mix 38 = .ok (.iload 10, 2) := gz_d tdX4_mix_t0_ok 19 rfl
theorem dX4_mix_40 : decode cX4_mix 40 = .ok (.invokestatic 35, 3) := gz_d tdX4_mix_t0_ok 20 rfl
theorem dX4_mix_43 : decode cX4_mix 43 = .ok (.ifCond .eq 33, 3) := gz_d tdX4_mix_t0_ok 21 rfl
theorem dX4_mix_46 : decode cX4_mix 46 = .ok (.ldc2_w 39, 3) := gz_d tdX4_mix_t0_ok 22 rfl
theorem dX4_mix_49 : decode cX4_mix 49 = .ok (.lload 6, 2) := gz_d tdX4_mix_t0_ok 23 rfl
theorem dX4_mix_51 : decode cX4_mix 51 = .ok (.lmul, 1) := gz_d tdX4_mix_t0_ok 24 rfl
theorem dX4_mix_52 : decode cX4_mix 52 = .ok (.aload_n 0, 1) := gz_d tdX4_mix_t0_ok 25 rfl
theorem dX4_mix_53 : decode cX4_mix 53 = .ok (.aload_n 0, 1) := gz_d tdX4_mix_t0_ok 26 rfl
theorem dX4_mix_54 : decode cX4_mix 54 = .ok (.iload_n 3, 1) := gz_d tdX4_mix_t0_ok 27 rfl
theorem dX4_mix_55 : decode cX4_mix 55 = .ok (.aload 4, 2) := gz_d tdX4_mix_t0_ok 28 rfl
theorem dX4_mix_57 : decode cX4_mix 57 = .ok (.getfield 41, 3) := gz_d tdX4_mix_t0_ok 29 rfl
theorem dX4_mix_60 : decode cX4_mix 60 = .ok (.iload 8, 2) := gz_d tdX4_mix_t0_ok 30 rfl
theorem dX4_mix_62 : decode cX4_mix 62 = .ok (.iload 9, 2) := gz_d tdX4_mix_t0_ok 31 rfl
theorem dX4_mix_64 : decode cX4_mix 64 = .ok (.iload 10, 2) := gz_d tdX4_mix_t0_ok 32 rfl
theorem dX4_mix_66 : decode cX4_mix 66 = .ok (.invokevirtual 44, 3) := gz_d tdX4_mix_t0_ok 33 rfl
theorem dX4_mix_69 : decode cX4_mix 69 = .ok (.invokevirtual 48, 3) := gz_d tdX4_mix_t0_ok 34 rfl
theorem dX4_mix_72 : decode cX4_mix 72 = .ok (.i2l, 1) := gz_d tdX4_mix_t0_ok 35 rfl
theorem dX4_mix_73 : decode cX4_mix 73 = .ok (.ladd, 1) := gz_d tdX4_mix_t0_ok 36 rfl
theorem dX4_mix_74 : decode cX4_mix 74 = .ok (.lstore 6, 2) := gz_d tdX4_mix_t0_ok 37 rfl
theorem dX4_mix_76 : decode cX4_mix 76 = .ok (.iinc 10 1, 3) := gz_d tdX4_mix_t0_ok 38 rfl
theorem dX4_mix_79 : decode cX4_mix 79 = .ok (.goto (-50), 3) := gz_d tdX4_mix_t0_ok 39 rfl
theorem dX4_mix_82 : decode cX4_mix 82 = .ok (.iinc 9 1, 3) := gz_d tdX4_mix_t0_ok 40 rfl
theorem dX4_mix_85 : decode cX4_mix 85 = .ok (.goto (-66), 3) := gz_d tdX4_mix_t0_ok 41 rfl
theorem dX4_mix_88 : decode cX4_mix 88 = .ok (.iinc 8 1, 3) := gz_d tdX4_mix_t0_ok 42 rfl
theorem dX4_mix_91 : decode cX4_mix 91 = .ok (.goto (-85), 3) := gz_d tdX4_mix_t0_ok 43 rfl
theorem dX4_mix_94 : decode cX4_mix 94 = .ok (.lload 6, 2) := gz_d tdX4_mix_t0_ok 44 rfl
theorem dX4_mix_96 : decode cX4_mix 96 = .ok (.lreturn, 1) := gz_d tdX4_mix_t0_ok 45 rfl
def tdX5_init_t0 : List (Nat × Instr × Nat) := [(0, .aload_n 0, 1), (1, .invokespecial 3, 3), (4, .aload_n 0, 1), (5, .sipush 324, 3), (8, .newarray .double, 2), (10, .putfield 9, 3), (13, .return_, 1)]
theorem tdX5_init_t0_ok : gz_dec cX5_init tdX5_init_t0 = true := by decide +kernel
theorem dX5_init_0 : decode cX5_init 0 = .ok (.aload_n 0, 1) := gz_d tdX5_init_t0_ok 0 rfl
theorem dX5_init_1 : decode cX5_init 1 = .ok (.invokespecial 3, 3) := gz_d tdX5_init_t0_ok 1 rfl
theorem dX5_init_4 : decode cX5_init 4 = .ok (.aload_n 0, 1) := gz_d tdX5_init_t0_ok 2 rfl
theorem dX5_init_5 : decode cX5_init 5 = .ok (.sipush 324, 3) := gz_d tdX5_init_t0_ok 3 rfl
theorem dX5_init_8 : decode cX5_init 8 = .ok (.newarray .double, 2) := gz_d tdX5_init_t0_ok 4 rfl
theorem dX5_init_10 : decode cX5_init 10 = .ok (.putfield 9, 3) := gz_d tdX5_init_t0_ok 5 rfl
theorem dX5_init_13 : decode cX5_init 13 = .ok (.return_, 1) := gz_d tdX5_init_t0_ok 6 rfl
def tdX5_take_t0 : List (Nat × Instr × Nat) := [(0, .aload_n 0, 1), (1, .getfield 9, 3), (4, .dconst 0, 1), (5, .invokestatic 15, 3), (8, .iconst 0, 1), (9, .istore 5, 2), (11, .iload 5, 2), (13, .aload_n 3, 1), (14, .getfield 21, 3), (17, .if_icmp .ge 50, 3), (20, .iconst (-1), 1), (21, .istore 6, 2), (23, .iload 6, 2), (25, .iload 4, 2), (27, .if_icmp .ge 34, 3), (30, .aload_n 0, 1), (31, .aload_n 1, 1), (32, .aload_n 1, 1), (33, .iload_n 2, 1), (34, .aload_n 3, 1), (35, .getfield 27, 3), (38, .iload 5, 2), (40, .iload 6, 2), (42, .iconst (-1), 1), (43, .invokevirtual 30, 3), (46, .iload 5, 2), (48, .iload 6, 2), (50, .iload 4, 2), (52, .invokevirtual 36, 3), (55, .iinc 6 1, 3), (58, .goto (-35), 3), (61, .iinc 5 1, 3), (64, .goto (-53), 3), (67, .return_, 1)]
theorem tdX5_take_t0_ok : gz_dec cX5_take tdX5_take_t0 = true := by decide +kernel
theorem dX5_take_0 : decode cX5_take 0 = .ok (.aload_n 0, 1) := gz_d tdX5_take_t0_ok 0 rfl
theorem dX5_take_1 : decode cX5_take 1 = .ok (.getfield 9, 3) := gz_d tdX5_take_t0_ok 1 rfl
theorem dX5_take_4 : decode cX5_take 4 = .ok (.dconst 0, 1) := gz_d tdX5_take_t0_ok 2 rfl
theorem dX5_take_5 : decode cX5_take 5 = .ok (.invokestatic 15, 3) := gz_d tdX5_take_t0_ok 3 rfl
theorem dX5_take_8 : decode cX5_take 8 = .ok (.iconst 0, 1) := gz_d tdX5_take_t0_ok 4 rfl
theorem dX5_take_9 : decode cX5_take 9 = .ok (.istore 5, 2) := gz_d tdX5_take_t0_ok 5 rfl
theorem dX5_take_11 : decode cX5_take 11 = .ok (.iload 5, 2) := gz_d tdX5_take_t0_ok 6 rfl
theorem dX5_take_13 : decode cX5_take 13 = .ok (.aload_n 3, 1) := gz_d tdX5_take_t0_ok 7 rfl
theorem dX5_take_14 : decode cX5_take 14 = .ok (.getfield 21, 3) := gz_d tdX5_take_t0_ok 8 rfl
theorem dX5_take_17 : decode cX5_take 17 = .ok (.if_icmp .ge 50, 3) := gz_d tdX5_take_t0_ok 9 rfl
theorem dX5_take_20 : decode cX5_take 20 = .ok (.iconst (-1), 1) := gz_d tdX5_take_t0_ok 10 rfl
theorem dX5_take_21 : decode cX5_take 21 = .ok (.istore 6, 2) := gz_d tdX5_take_t0_ok 11 rfl
theorem dX5_take_23 : decode cX5_take 23 = .ok (.iload 6, 2) := gz_d tdX5_take_t0_ok 12 rfl
theorem dX5_take_25 : decode cX5_take 25 = .ok (.iload 4, 2) := gz_d tdX5_take_t0_ok 13 rfl
theorem dX5_take_27 : decode cX5_take 27 = .ok (.if_icmp .ge 34, 3) := gz_d tdX5_take_t0_ok 14 rfl
theorem dX5_take_30 : decode cX5_take 30 = .ok (.aload_n 0, 1) := gz_d tdX5_take_t0_ok 15 rfl
theorem dX5_take_31 : decode cX5_take 31 = .ok (.aload_n 1, 1) := gz_d tdX5_take_t0_ok 16 rfl
theorem dX5_take_32 : decode cX5_take 32 = .ok (.aload_n 1, 1) := gz_d tdX5_take_t0_ok 17 rfl
theorem dX5_take_33 : decode cX5_take 33 = .ok (.iload_n 2, 1) := gz_d tdX5_take_t0_ok 18 rfl
theorem dX5_take_34 : decode cX5_take 34 = .ok (.aload_n 3, 1) := gz_d tdX5_take_t0_ok 19 rfl
theorem dX5_take_35 : decode cX5_take 35 = .ok (.getfield 27, 3) := gz_d tdX5_take_t0_ok 20 rfl
theorem dX5_take_38 : decode cX5_take 38 = .ok (.iload 5, 2) := gz_d tdX5_take_t0_ok 21 rfl
theorem dX5_take_40 : decode cX5_take 40 = .ok (.iload 6, 2) := gz_d tdX5_take_t0_ok 22 rfl
theorem dX5_take_42 : decode cX5_take 42 = .ok (.iconst (-1), 1) := gz_d tdX5_take_t0_ok 23 rfl
theorem dX5_take_43 : decode cX5_take 43 = .ok (.invokevirtual 30, 3) := gz_d tdX5_take_t0_ok 24 rfl
theorem dX5_take_46 : decode cX5_take 46 = .ok (.iload 5, 2) := gz_d tdX5_take_t0_ok 25 rfl
theorem dX5_take_48 : decode cX5_take 48 = .ok (.iload 6, 2) := gz_d tdX5_take_t0_ok 26 rfl
theorem dX5_take_50 : decode cX5_take 50 = .ok (.iload 4, 2) := gz_d tdX5_take_t0_ok 27 rfl
theorem dX5_take_52 : decode cX5_take 52 = .ok (.invokevirtual 36, 3) := gz_d tdX5_take_t0_ok 28 rfl
theorem dX5_take_55 : decode cX5_take 55 = .ok (.iinc 6 1, 3) := gz_d tdX5_take_t0_ok 29 rfl
theorem dX5_take_58 : decode cX5_take 58 = .ok (.goto (-35), 3) := gz_d tdX5_take_t0_ok 30 rfl
theorem dX5_take_61 : decode cX5_take 61 = .ok (.iinc 5 1, 3) := gz_d tdX5_take_t0_ok 31 rfl
theorem dX5_take_64 : decode cX5_take 64 = .ok (.goto (-53), 3) := gz_d tdX5_take_t0_ok 32 rfl
theorem dX5_take_67 : decode cX5_take 67 = .ok (.return_, 1) := gz_d tdX5_take_t0_ok 33 rfl
def tdX5_takeMoves_t0 : List (Nat × Instr × Nat) := [(0, .iconst 0, 1), (1, .istore 6, 2), (3, .iconst (-1), 1), (4, .istore 7, 2), (6, .iload 7, 2), (8, .iload 5, 2), (10, .if_icmp .ge 34, 3), (13, .iload 4, 2), (15, .iload 7, 2), (17, .invokestatic 40, 3), (20, .ifCond .eq 18, 3), (23, .iload 6, 2), (25, .aload_n 1, 1), (26, .iload_n 2, 1), (27, .iconst 1, 1), (28, .iadd, 1), (29, .iload 7, 2), (31, .iadd, 1), (32, .invokevirtual 44, 3), (35, .iadd, 1), (36, .istore 6, 2), (38, .iinc 7 1, 3), (41, .goto (-35), 3), (44, .iload 6, 2), (46, .ifCond .gt 33, 3), (49, .iload 4, 2), (51, .iconst (-1), 1), (52, .if_icmp .ne 7, 3), (55, .iconst 0, 1), (56, .goto 4, 3), (59, .iconst (-1), 1), (60, .istore 7, 2), (62, .aload_n 0, 1), (63, .getfield 9, 3), (66, .iload_n 3, 1), (67, .iload 4, 2), (69, .iload 7, 2), (71, .invokestatic 48, 3), (74, .dconst 1, 1), (75, .invokestatic 52, 3), (78, .return_, 1), (79, .iconst (-1), 1), (80, .istore 7, 2), (82, .iload 7, 2), (84, .iload 5, 2), (86, .if_icmp .ge 53, 3), (89, .iload 4, 2), (91, .iload 7, 2), (93, .invokestatic 40, 3), (96, .ifCond .eq 37, 3), (99, .aload_n 1, 1), (100, .iload_n 2, 1), (101, .iconst 1, 1), (102, .iadd, 1), (103, .iload 7, 2), (105, .iadd, 1), (106, .invokevirtual 44, 3), (109, .i2d, 1), (110, .dstore 8, 2), (112, .aload_n 0, 1)]
theorem tdX5_takeMoves_t0_ok : gz_dec cX5_takeMoves tdX5_takeMoves_t0 = true := by decide +kernel
theorem dX5_takeMoves_0 : decode cX5_takeMoves 0 = .ok (.iconst 0, 1) := gz_d tdX5_takeMoves_t0_ok 0 rfl
theorem dX5_takeMoves_1 : decode cX5_takeMoves 1 = .ok (.istore 6, 2) := gz_d tdX5_takeMoves_t0_ok 1 rfl
theorem dX5_takeMoves_3 : decode cX5_takeMoves 3 = .ok (.iconst (-1), 1) := gz_d tdX5_takeMoves_t0_ok 2 rfl
theorem dX5_takeMoves_4 : decode cX5_takeMoves 4 = .ok (.istore 7, 2) := gz_d tdX5_takeMoves_t0_ok 3 rfl
theorem dX5_takeMoves_6 : decode cX5_takeMoves 6 = .ok (.iload 7, 2) := gz_d tdX5_takeMoves_t0_ok 4 rfl
theorem dX5_takeMoves_8 : decode cX5_takeMoves 8 = .ok (.iload 5, 2) := gz_d tdX5_takeMoves_t0_ok 5 rfl
theorem dX5_takeMoves_10 : decode cX5_takeMoves 10 = .ok (.if_icmp .ge 34, 3) := gz_d tdX5_takeMoves_t0_ok 6 rfl
theorem dX5_takeMoves_13 : decode cX5_takeMoves 13 = .ok (.iload 4, 2) := gz_d tdX5_takeMoves_t0_ok 7 rfl
theorem dX5_takeMoves_15 : decode cX5_takeMoves 15 = .ok (.iload 7, 2) := gz_d tdX5_takeMoves_t0_ok 8 rfl
theorem dX5_takeMoves_17 : decode cX5_takeMoves 17 = .ok (.invokestatic 40, 3) := gz_d tdX5_takeMoves_t0_ok 9 rfl
theorem dX5_takeMoves_20 : decode cX5_takeMoves 20 = .ok (.ifCond .eq 18, 3) := gz_d tdX5_takeMoves_t0_ok 10 rfl
theorem dX5_takeMoves_23 : decode cX5_takeMoves 23 = .ok (.iload 6, 2) := gz_d tdX5_takeMoves_t0_ok 11 rfl
theorem dX5_takeMoves_25 : decode cX5_takeMoves 25 = .ok (.aload_n 1, 1) := gz_d tdX5_takeMoves_t0_ok 12 rfl
theorem dX5_takeMoves_26 : decode cX5_takeMoves 26 = .ok (.iload_n 2, 1) := gz_d tdX5_takeMoves_t0_ok 13 rfl
theorem dX5_takeMoves_27 : decode cX5_takeMoves 27 = .ok (.iconst 1, 1) := gz_d tdX5_takeMoves_t0_ok 14 rfl
theorem dX5_takeMoves_28 : decode cX5_takeMoves 28 = .ok (.iadd, 1) := gz_d tdX5_takeMoves_t0_ok 15 rfl
theorem dX5_takeMoves_29 : decode cX5_takeMoves 29 = .ok (.iload 7, 2) := gz_d tdX5_takeMoves_t0_ok 16 rfl
theorem dX5_takeMoves_31 : decode cX5_takeMoves 31 = .ok (.iadd, 1) := gz_d tdX5_takeMoves_t0_ok 17 rfl
theorem dX5_takeMoves_32 : decode cX5_takeMoves 32 = .ok (.invokevirtual 44, 3) := gz_d tdX5_takeMoves_t0_ok 18 rfl
theorem dX5_takeMoves_35 : decode cX5_takeMoves 35 = .ok (.iadd, 1) := gz_d tdX5_takeMoves_t0_ok 19 rfl
theorem dX5_takeMoves_36 : decode cX5_takeMoves 36 = .ok (.istore 6, 2) := gz_d tdX5_takeMoves_t0_ok 20 rfl
theorem dX5_takeMoves_38 : decode cX5_takeMoves 38 = .ok (.iinc 7 1, 3) := gz_d tdX5_takeMoves_t0_ok 21 rfl
theorem dX5_takeMoves_41 : decode cX5_takeMoves 41 = .ok (.goto (-35), 3) := gz_d tdX5_takeMoves_t0_ok 22 rfl
theorem dX5_takeMoves_44 : decode cX5_takeMoves 44 = .ok (.iload 6, 2) := gz_d tdX5_takeMoves_t0_ok 23 rfl
theorem dX5_takeMoves_46 : decode cX5_takeMoves 46 = .ok (.ifCond .gt 33, 3) := gz_d tdX5_takeMoves_t0_ok 24 rfl
theorem dX5_takeMoves_49 : decode cX5_takeMoves 49 = .ok (.iload 4, 2) := gz_d tdX5_takeMoves_t0_ok 25 rfl
theorem dX5_takeMoves_51 : decode cX5_takeMoves 51 = .ok (.iconst (-1), 1) := gz_d tdX5_takeMoves_t0_ok 26 rfl
theorem dX5_takeMoves_52 : decode cX5_takeMoves 52 = .ok (.if_icmp .ne 7, 3) := gz_d tdX5_takeMoves_t0_ok 27 rfl
theorem dX5_takeMoves_55 : decode cX5_takeMoves 55 = .ok (.iconst 0, 1) := gz_d tdX5_takeMoves_t0_ok 28 rfl
theorem dX5_takeMoves_56 : decode cX5_takeMoves 56 = .ok (.goto 4, 3) := gz_d tdX5_takeMoves_t0_ok 29 rfl
theorem dX5_takeMoves_59 : decode cX5_takeMoves 59 = .ok (.iconst (-1), 1) := gz_d tdX5_takeMoves_t0_ok 30 rfl
theorem dX5_takeMoves_60 : decode cX5_takeMoves 60 = .ok (.istore 7, 2) := gz_d tdX5_takeMoves_t0_ok 31 rfl
theorem dX5_takeMoves_62 : decode cX5_takeMoves 62 = .ok (.aload_n 0, 1) := gz_d tdX5_takeMoves_t0_ok 32 rfl
theorem dX5_takeMoves_63 : decode cX5_takeMoves 63 = .ok (.getfield 9, 3) := gz_d tdX5_takeMoves_t0_ok 33 rfl
theorem dX5_takeMoves_66 : decode cX5_takeMoves 66 = .ok (.iload_n 3, 1) := gz_d tdX5_takeMoves_t0_ok 34 rfl
theorem dX5_takeMoves_67 : decode cX5_takeMoves 67 = .ok (.iload 4, 2) := gz_d tdX5_takeMoves_t0_ok 35 rfl
theorem dX5_takeMoves_69 : decode cX5_takeMoves 69 = .ok (.iload 7, 2) := gz_d tdX5_takeMoves_t0_ok 36 rfl
theorem dX5_takeMoves_71 : decode cX5_takeMoves 71 = .ok (.invokestatic 48, 3) := gz_d tdX5_takeMoves_t0_ok 37 rfl
theorem dX5_takeMoves_74 : decode cX5_takeMoves 74 = .ok (.dconst 1, 1) := gz_d tdX5_takeMoves_t0_ok 38 rfl
theorem dX5_takeMoves_75 : decode cX5_takeMoves 75 = .ok (.invokestatic 52, 3) := gz_d tdX5_takeMoves_t0_ok 39 rfl
theorem dX5_takeMoves_78 : decode cX5_takeMoves 78 = .ok (.return_, 1) := gz_d tdX5_takeMoves_t0_ok 40 rfl
theorem dX5_takeMoves_79 : decode cX5_takeMoves 79 = .ok (.iconst (-1), 1) := gz_d tdX5_takeMoves_t0_ok 41 rfl
theorem dX5_takeMoves_80 : decode cX5_takeMoves 80 = .ok (.istore 7, 2) := gz_d tdX5_takeMoves_t0_ok 42 rfl
theorem dX5_takeMoves_82 : decode cX5_takeMoves 82 = .ok (.iload 7, 2) := gz_d tdX5_takeMoves_t0_ok 43 rfl
theorem dX5_takeMoves_84 : decode cX5_takeMoves 84 = .ok (.iload 5, 2) := gz_d tdX5_takeMoves_t0_ok 44 rfl
theorem dX5_takeMoves_86 : decode cX5_takeMoves 86 = .ok (.if_icmp .ge 53, 3) := gz_d tdX5_takeMoves_t0_ok 45 rfl
theorem dX5_takeMoves_89 : decode cX5_takeMoves 89 = .ok (.iload 4, 2) := gz_d tdX5_takeMoves_t0_ok 46 rfl
theorem dX5_takeMoves_91 : decode cX5_takeMoves 91 = .ok (.iload 7, 2) := gz_d tdX5_takeMoves_t0_ok 47 rfl
theorem dX5_takeMoves_93 : decode cX5_takeMoves 93 = .ok (.invokestatic 40, 3) := gz_d tdX5_takeMoves_t0_ok 48 rfl
theorem dX5_takeMoves_96 : decode cX5_takeMoves 96 = .ok (.ifCond .eq 37, 3) := gz_d tdX5_takeMoves_t0_ok 49 rfl
theorem dX5_takeMoves_99 : decode cX5_takeMoves 99 = .ok (.aload_n 1, 1) := gz_d tdX5_takeMoves_t0_ok 50 rfl
theorem dX5_takeMoves_100 : decode cX5_takeMoves 100 = .ok (.iload_n 2, 1) := gz_d tdX5_takeMoves_t0_ok 51 rfl
theorem dX5_takeMoves_101 : decode cX5_takeMoves 101 = .ok (.iconst 1, 1) := gz_d tdX5_takeMoves_t0_ok 52 rfl
theorem dX5_takeMoves_102 : decode cX5_takeMoves 102 = .ok (.iadd, 1) := gz_d tdX5_takeMoves_t0_ok 53 rfl
theorem dX5_takeMoves_103 : decode cX5_takeMoves 103 = .ok (.iload 7, 2) := gz_d tdX5_takeMoves_t0_ok 54 rfl
theorem dX5_takeMoves_105 : decode cX5_takeMoves 105 = .ok (.iadd, 1) := gz_d tdX5_takeMoves_t0_ok 55 rfl
theorem dX5_takeMoves_106 : decode cX5_takeMoves 106 = .ok (.invokevirtual 44, 3) := gz_d tdX5_takeMoves_t0_ok 56 rfl
theorem dX5_takeMoves_109 : decode cX5_takeMoves 109 = .ok (.i2d, 1) := gz_d tdX5_takeMoves_t0_ok 57 rfl
theorem dX5_takeMoves_110 : decode cX5_takeMoves 110 = .ok (.dstore 8, 2) := gz_d tdX5_takeMoves_t0_ok 58 rfl
theorem dX5_takeMoves_112 : decode cX5_takeMoves 112 = .ok (.aload_n 0, 1) := gz_d tdX5_takeMoves_t0_ok 59 rfl
def tdX5_takeMoves_t1 : List (Nat × Instr × Nat) := [(113, .getfield 9, 3), (116, .iload_n 3, 1), (117, .iload 4, 2), (119, .iload 7, 2), (121, .invokestatic 48, 3), (124, .dload 8, 2), (126, .iload 6, 2), (128, .i2d, 1), (129, .ddiv, 1), (130, .invokestatic 52, 3), (133, .iinc 7 1, 3), (136, .goto (-54), 3), (139, .return_, 1)]
theorem tdX5_takeMoves_t1_ok : gz_dec cX5_takeMoves tdX5_takeMoves_t1 = true := by decide +kernel
theorem dX5_takeMoves_113 : decode cX5_takeMoves 113 = .ok (.getfield 9, 3) := gz_d tdX5_takeMoves_t1_ok 0 rfl
theorem dX5_takeMoves_116 : decode cX5_takeMoves 116 = .ok (.iload_n 3, 1) := gz_d tdX5_takeMoves_t1_ok 1 rfl
theorem dX5_takeMoves_117 : decode cX5_takeMoves 117 = .ok (.iload 4, 2) := gz_d tdX5_takeMoves_t1_ok 2 rfl
theorem dX5_takeMoves_119 : decode cX5_takeMoves 119 = .ok (.iload 7, 2) := gz_d tdX5_takeMoves_t1_ok 3 rfl
theorem dX5_takeMoves_121 : decode cX5_takeMoves 121 = .ok (.invokestatic 48, 3) := gz_d tdX5_takeMoves_t1_ok 4 rfl
theorem dX5_takeMoves_124 : decode cX5_takeMoves 124 = .ok (.dload 8, 2) := gz_d tdX5_takeMoves_t1_ok 5 rfl
theorem dX5_takeMoves_126 : decode cX5_takeMoves 126 = .ok (.iload 6, 2) := gz_d tdX5_takeMoves_t1_ok 6 rfl
theorem dX5_takeMoves_128 : decode cX5_takeMoves 128 = .ok (.i2d, 1) := gz_d tdX5_takeMoves_t1_ok 7 rfl
theorem dX5_takeMoves_129 : decode cX5_takeMoves 129 = .ok (.ddiv, 1) := gz_d tdX5_takeMoves_t1_ok 8 rfl
theorem dX5_takeMoves_130 : decode cX5_takeMoves 130 = .ok (.invokestatic 52, 3) := gz_d tdX5_takeMoves_t1_ok 9 rfl
theorem dX5_takeMoves_133 : decode cX5_takeMoves 133 = .ok (.iinc 7 1, 3) := gz_d tdX5_takeMoves_t1_ok 10 rfl
theorem dX5_takeMoves_136 : decode cX5_takeMoves 136 = .ok (.goto (-54), 3) := gz_d tdX5_takeMoves_t1_ok 11 rfl
theorem dX5_takeMoves_139 : decode cX5_takeMoves 139 = .ok (.return_, 1) := gz_d tdX5_takeMoves_t1_ok 12 rfl
def tdX5_spotOf_t0 : List (Nat × Instr × Nat) := [(0, .iload_n 0, 1), (1, .bipush 9, 2), (3, .imul, 1), (4, .iload_n 1, 1), (5, .iadd, 1), (6, .iconst 1, 1), (7, .iadd, 1), (8, .bipush 9, 2), (10, .imul, 1), (11, .iload_n 2, 1), (12, .iadd, 1), (13, .iconst 1, 1), (14, .iadd, 1), (15, .ireturn, 1)]
theorem tdX5_spotOf_t0_ok : gz_dec cX5_spotOf tdX5_spotOf_t0 = true := by decide +kernel
theorem dX5_spotOf_0 : decode cX5_spotOf 0 = .ok (.iload_n 0, 1) := gz_d tdX5_spotOf_t0_ok 0 rfl
theorem dX5_spotOf_1 : decode cX5_spotOf 1 = .ok (.bipush 9, 2) := gz_d tdX5_spotOf_t0_ok 1 rfl
theorem dX5_spotOf_3 : decode cX5_spotOf 3 = .ok (.imul, 1) := gz_d tdX5_spotOf_t0_ok 2 rfl
theorem dX5_spotOf_4 : decode cX5_spotOf 4 = .ok (.iload_n 1, 1) := gz_d tdX5_spotOf_t0_ok 3 rfl
theorem dX5_spotOf_5 : decode cX5_spotOf 5 = .ok (.iadd, 1) := gz_d tdX5_spotOf_t0_ok 4 rfl
theorem dX5_spotOf_6 : decode cX5_spotOf 6 = .ok (.iconst 1, 1) := gz_d tdX5_spotOf_t0_ok 5 rfl
theorem dX5_spotOf_7 : decode cX5_spotOf 7 = .ok (.iadd, 1) := gz_d tdX5_spotOf_t0_ok 6 rfl
theorem dX5_spotOf_8 : decode cX5_spotOf 8 = .ok (.bipush 9, 2) := gz_d tdX5_spotOf_t0_ok 7 rfl
theorem dX5_spotOf_10 : decode cX5_spotOf 10 = .ok (.imul, 1) := gz_d tdX5_spotOf_t0_ok 8 rfl
theorem dX5_spotOf_11 : decode cX5_spotOf 11 = .ok (.iload_n 2, 1) := gz_d tdX5_spotOf_t0_ok 9 rfl
theorem dX5_spotOf_12 : decode cX5_spotOf 12 = .ok (.iadd, 1) := gz_d tdX5_spotOf_t0_ok 10 rfl
theorem dX5_spotOf_13 : decode cX5_spotOf 13 = .ok (.iconst 1, 1) := gz_d tdX5_spotOf_t0_ok 11 rfl
theorem dX5_spotOf_14 : decode cX5_spotOf 14 = .ok (.iadd, 1) := gz_d tdX5_spotOf_t0_ok 12 rfl
theorem dX5_spotOf_15 : decode cX5_spotOf 15 = .ok (.ireturn, 1) := gz_d tdX5_spotOf_t0_ok 13 rfl
def tdX5_of_t0 : List (Nat × Instr × Nat) := [(0, .aload_n 0, 1), (1, .getfield 9, 3), (4, .iload_n 1, 1), (5, .iload_n 2, 1), (6, .iload_n 3, 1), (7, .invokestatic 48, 3), (10, .invokestatic 56, 3), (13, .dreturn, 1)]
theorem tdX5_of_t0_ok : gz_dec cX5_of tdX5_of_t0 = true := by decide +kernel
theorem dX5_of_0 : decode cX5_of 0 = .ok (.aload_n 0, 1) := gz_d tdX5_of_t0_ok 0 rfl
theorem dX5_of_1 : decode cX5_of 1 = .ok (.getfield 9, 3) := gz_d tdX5_of_t0_ok 1 rfl
theorem dX5_of_4 : decode cX5_of 4 = .ok (.iload_n 1, 1) := gz_d tdX5_of_t0_ok 2 rfl
theorem dX5_of_5 : decode cX5_of 5 = .ok (.iload_n 2, 1) := gz_d tdX5_of_t0_ok 3 rfl
theorem dX5_of_6 : decode cX5_of 6 = .ok (.iload_n 3, 1) := gz_d tdX5_of_t0_ok 4 rfl
theorem dX5_of_7 : decode cX5_of 7 = .ok (.invokestatic 48, 3) := gz_d tdX5_of_t0_ok 5 rfl
theorem dX5_of_10 : decode cX5_of 10 = .ok (.invokestatic 56, 3) := gz_d tdX5_of_t0_ok 6 rfl
theorem dX5_of_13 : decode cX5_of 13 = .ok (.dreturn, 1) := gz_d tdX5_of_t0_ok 7 rfl
def tdX6_init_t0 : List (Nat × Instr × Nat) := [(0, .aload_n 0, 1), (1, .invokespecial 3, 3), (4, .aload_n 0, 1), (5, .new 9, 3), (8, .dup, 1), (9, .invokespecial 11, 3), (12, .putfield 12, 3), (15, .aload_n 0, 1), (16, .new 9, 3), (19, .dup, 1), (20, .invokespecial 11, 3), (23, .putfield 18, 3), (26, .aload_n 0, 1), (27, .sipush 128, 3), (30, .newarray .int, 2), (32, .putfield 21, 3), (35, .return_, 1)]
theorem tdX6_init_t0_ok : gz_dec cX6_init tdX6_init_t0 = true := by decide +kernel
theorem dX6_init_0 : decode cX6_init 0 = .ok (.aload_n 0, 1) := gz_d tdX6_init_t0_ok 0 rfl
theorem dX6_init_1 : decode cX6_init 1 = .ok (.invokespecial 3, 3) := gz_d tdX6_init_t0_ok 1 rfl
theorem dX6_init_4 : decode cX6_init 4 = .ok (.aload_n 0, 1) := gz_d tdX6_init_t0_ok 2 rfl
theorem dX6_init_5 : decode cX6_init 5 = .ok (.new 9, 3) := gz_d tdX6_init_t0_ok 3 rfl
theorem dX6_init_8 : decode cX6_init 8 = .ok (.dup, 1) := gz_d tdX6_init_t0_ok 4 rfl
theorem dX6_init_9 : decode cX6_init 9 = .ok (.invokespecial 11, 3) := gz_d tdX6_init_t0_ok 5 rfl
theorem dX6_init_12 : decode cX6_init 12 = .ok (.putfield 12, 3) := gz_d tdX6_init_t0_ok 6 rfl
theorem dX6_init_15 : decode cX6_init 15 = .ok (.aload_n 0, 1) := gz_d tdX6_init_t0_ok 7 rfl
theorem dX6_init_16 : decode cX6_init 16 = .ok (.new 9, 3) := gz_d tdX6_init_t0_ok 8 rfl
theorem dX6_init_19 : decode cX6_init 19 = .ok (.dup, 1) := gz_d tdX6_init_t0_ok 9 rfl
theorem dX6_init_20 : decode cX6_init 20 = .ok (.invokespecial 11, 3) := gz_d tdX6_init_t0_ok 10 rfl
theorem dX6_init_23 : decode cX6_init 23 = .ok (.putfield 18, 3) := gz_d tdX6_init_t0_ok 11 rfl
theorem dX6_init_26 : decode cX6_init 26 = .ok (.aload_n 0, 1) := gz_d tdX6_init_t0_ok 12 rfl
theorem dX6_init_27 : decode cX6_init 27 = .ok (.sipush 128, 3) := gz_d tdX6_init_t0_ok 13 rfl
theorem dX6_init_30 : decode cX6_init 30 = .ok (.newarray .int, 2) := gz_d tdX6_init_t0_ok 14 rfl
theorem dX6_init_32 : decode cX6_init 32 = .ok (.putfield 21, 3) := gz_d tdX6_init_t0_ok 15 rfl
theorem dX6_init_35 : decode cX6_init 35 = .ok (.return_, 1) := gz_d tdX6_init_t0_ok 16 rfl
def tdX6_lay_t0 : List (Nat × Instr × Nat) := [(0, .aload_n 0, 1), (1, .iload_n 3, 1), (2, .putfield 25, 3), (5, .aload_n 0, 1), (6, .iload 4, 2), (8, .putfield 29, 3), (11, .aload_n 0, 1), (12, .iload_n 1, 1), (13, .iload_n 2, 1), (14, .iadd, 1), (15, .iload_n 3, 1), (16, .imul, 1), (17, .putfield 33, 3), (20, .aload_n 0, 1), (21, .getfield 12, 3), (24, .iload_n 1, 1), (25, .iload_n 3, 1), (26, .invokevirtual 36, 3), (29, .aload_n 0, 1), (30, .getfield 18, 3), (33, .iload_n 2, 1), (34, .iload_n 3, 1), (35, .invokevirtual 36, 3), (38, .aload_n 0, 1), (39, .invokevirtual 40, 3), (42, .return_, 1)]
theorem tdX6_lay_t0_ok : gz_dec cX6_lay tdX6_lay_t0 = true := by decide +kernel
theorem dX6_lay_0 : decode cX6_lay 0 = .ok (.aload_n 0, 1) := gz_d tdX6_lay_t0_ok 0 rfl
theorem dX6_lay_1 : decode cX6_lay 1 = .ok (.iload_n 3, 1) := gz_d tdX6_lay_t0_ok 1 rfl
theorem dX6_lay_2 : decode cX6_lay 2 = .ok (.putfield 25, 3) := gz_d tdX6_lay_t0_ok 2 rfl
theorem dX6_lay_5 : decode cX6_lay 5 = .ok (.aload_n 0, 1) := gz_d tdX6_lay_t0_ok 3 rfl
theorem dX6_lay_6 : decode cX6_lay 6 = .ok (.iload 4, 2) := gz_d tdX6_lay_t0_ok 4 rfl
theorem dX6_lay_8 : decode cX6_lay 8 = .ok (.putfield 29, 3) := gz_d tdX6_lay_t0_ok 5 rfl
theorem dX6_lay_11 : decode cX6_lay 11 = .ok (.aload_n 0, 1) := gz_d tdX6_lay_t0_ok 6 rfl
theorem dX6_lay_12 : decode cX6_lay 12 = .ok (.iload_n 1, 1) := gz_d tdX6_lay_t0_ok 7 rfl
theorem dX6_lay_13 : decode cX6_lay 13 = .ok (.iload_n 2, 1) := gz_d tdX6_lay_t0_ok 8 rfl
theorem dX6_lay_14 : decode cX6_lay 14 = .ok (.iadd, 1) := gz_d tdX6_lay_t0_ok 9 rfl
theorem dX6_lay_15 : decode cX6_lay 15 = .ok (.iload_n 3, 1) := gz_d tdX6_lay_t0_ok 10 rfl
theorem dX6_lay_16 : decode cX6_lay 16 = .ok (.imul, 1) := gz_d tdX6_lay_t0_ok 11 rfl
theorem dX6_lay_17 : decode cX6_lay 17 = .ok (.putfield 33, 3) := gz_d tdX6_lay_t0_ok 12 rfl
theorem dX6_lay_20 : decode cX6_lay 20 = .ok (.aload_n 0, 1) := gz_d tdX6_lay_t0_ok 13 rfl
theorem dX6_lay_21 : decode cX6_lay 21 = .ok (.getfield 12, 3) := gz_d tdX6_lay_t0_ok 14 rfl
theorem dX6_lay_24 : decode cX6_lay 24 = .ok (.iload_n 1, 1) := gz_d tdX6_lay_t0_ok 15 rfl
theorem dX6_lay_25 : decode cX6_lay 25 = .ok (.iload_n 3, 1) := gz_d tdX6_lay_t0_ok 16 rfl
theorem dX6_lay_26 : decode cX6_lay 26 = .ok (.invokevirtual 36, 3) := gz_d tdX6_lay_t0_ok 17 rfl
theorem dX6_lay_29 : decode cX6_lay 29 = .ok (.aload_n 0, 1) := gz_d tdX6_lay_t0_ok 18 rfl
theorem dX6_lay_30 : decode cX6_lay 30 = .ok (.getfield 18, 3) := gz_d tdX6_lay_t0_ok 19 rfl
theorem dX6_lay_33 : decode cX6_lay 33 = .ok (.iload_n 2, 1) := gz_d tdX6_lay_t0_ok 20 rfl
theorem dX6_lay_34 : decode cX6_lay 34 = .ok (.iload_n 3, 1) := gz_d tdX6_lay_t0_ok 21 rfl
theorem dX6_lay_35 : decode cX6_lay 35 = .ok (.invokevirtual 36, 3) := gz_d tdX6_lay_t0_ok 22 rfl
theorem dX6_lay_38 : decode cX6_lay 38 = .ok (.aload_n 0, 1) := gz_d tdX6_lay_t0_ok 23 rfl
theorem dX6_lay_39 : decode cX6_lay 39 = .ok (.invokevirtual 40, 3) := gz_d tdX6_lay_t0_ok 24 rfl
theorem dX6_lay_42 : decode cX6_lay 42 = .ok (.return_, 1) := gz_d tdX6_lay_t0_ok 25 rfl
def tdX6_judgeBids_t0 : List (Nat × Instr × Nat) := [(0, .iconst 0, 1), (1, .istore_n 1, 1), (2, .iload_n 1, 1), (3, .aload_n 0, 1), (4, .getfield 12, 3), (7, .getfield 43, 3), (10, .if_icmp .ge 51, 3), (13, .iconst 0, 1), (14, .istore_n 2, 1), (15, .iload_n 2, 1), (16, .aload_n 0, 1), (17, .getfield 18, 3), (20, .getfield 43, 3), (23, .if_icmp .ge 32, 3), (26, .iconst 0, 1), (27, .istore_n 3, 1), (28, .iload_n 3, 1), (29, .aload_n 0, 1), (30, .getfield 33, 3), (33, .if_icmp .ge 16, 3), (36, .aload_n 0, 1), (37, .iload_n 1, 1), (38, .iload_n 2, 1), (39, .iload_n 3, 1), (40, .invokevirtual 46, 3), (43, .iinc 3 1, 3), (46, .goto (-18), 3), (49, .iinc 2 1, 3), (52, .goto (-37), 3), (55, .iinc 1 1, 3), (58, .goto (-56), 3), (61, .return_, 1)]
theorem tdX6_judgeBids_t0_ok : gz_dec cX6_judgeBids tdX6_judgeBids_t0 = true := by decide +kernel
theorem dX6_judgeBids_0 : decode cX6_judgeBids 0 = .ok (.iconst 0, 1) := gz_d tdX6_judgeBids_t0_ok 0 rfl
theorem dX6_judgeBids_1 : decode cX6_judgeBids 1 = .ok (.istore_n 1, 1) := gz_d tdX6_judgeBids_t0_ok 1 rfl
theorem dX6_judgeBids_2 : decode cX6_judgeBids 2 = .ok (.iload_n 1, 1) := gz_d tdX6_judgeBids_t0_ok 2 rfl
theorem dX6_judgeBids_3 : decode cX6_judgeBids 3 = .ok (.aload_n 0, 1) := gz_d tdX6_judgeBids_t0_ok 3 rfl
theorem dX6_judgeBids_4 : decode cX6_judgeBids 4 = .ok (.getfield 12, 3) := gz_d tdX6_judgeBids_t0_ok 4 rfl
theorem dX6_judgeBids_7 : decode cX6_judgeBids 7 = .ok (.getfield 43, 3) := gz_d tdX6_judgeBids_t0_ok 5 rfl
theorem dX6_judgeBids_10 : decode cX6_judgeBids 10 = .ok (.if_icmp .ge 51, 3) := gz_d tdX6_judgeBids_t0_ok 6 rfl
theorem dX6_judgeBids_13 : decode cX6_judgeBids 13 = .ok (.iconst 0, 1) := gz_d tdX6_judgeBids_t0_ok 7 rfl
theorem dX6_judgeBids_14 : decode cX6_judgeBids 14 = .ok (.istore_n 2, 1) := gz_d tdX6_judgeBids_t0_ok 8 rfl
theorem dX6_judgeBids_15 : decode cX6_judgeBids 15 = .ok (.iload_n 2, 1) := gz_d tdX6_judgeBids_t0_ok 9 rfl
theorem dX6_judgeBids_16 : decode cX6_judgeBids 16 = .ok (.aload_n 0, 1) := gz_d tdX6_judgeBids_t0_ok 10 rfl
theorem dX6_judgeBids_17 : decode cX6_judgeBids 17 = .ok (.getfield 18, 3) := gz_d tdX6_judgeBids_t0_ok 11 rfl
theorem dX6_judgeBids_20 : decode cX6_judgeBids 20 = .ok (.getfield 43, 3) := gz_d tdX6_judgeBids_t0_ok 12 rfl
theorem dX6_judgeBids_23 : decode cX6_judgeBids 23 = .ok (.if_icmp .ge 32, 3) := gz_d tdX6_judgeBids_t0_ok 13 rfl
theorem dX6_judgeBids_26 : decode cX6_judgeBids 26 = .ok (.iconst 0, 1) := gz_d tdX6_judgeBids_t0_ok 14 rfl
theorem dX6_judgeBids_27 : decode cX6_judgeBids 27 = .ok (.istore_n 3, 1) := gz_d tdX6_judgeBids_t0_ok 15 rfl
theorem dX6_judgeBids_28 : decode cX6_judgeBids 28 = .ok (.iload_n 3, 1) := gz_d tdX6_judgeBids_t0_ok 16 rfl
theorem dX6_judgeBids_29 : decode cX6_judgeBids 29 = .ok (.aload_n 0, 1) := gz_d tdX6_judgeBids_t0_ok 17 rfl
theorem dX6_judgeBids_30 : decode cX6_judgeBids 30 = .ok (.getfield 33, 3) := gz_d tdX6_judgeBids_t0_ok 18 rfl
theorem dX6_judgeBids_33 : decode cX6_judgeBids 33 = .ok (.if_icmp .ge 16, 3) := gz_d tdX6_judgeBids_t0_ok 19 rfl
theorem dX6_judgeBids_36 : decode cX6_judgeBids 36 = .ok (.aload_n 0, 1) := gz_d tdX6_judgeBids_t0_ok 20 rfl
theorem dX6_judgeBids_37 : decode cX6_judgeBids 37 = .ok (.iload_n 1, 1) := gz_d tdX6_judgeBids_t0_ok 21 rfl
theorem dX6_judgeBids_38 : decode cX6_judgeBids 38 = .ok (.iload_n 2, 1) := gz_d tdX6_judgeBids_t0_ok 22 rfl
theorem dX6_judgeBids_39 : decode cX6_judgeBids 39 = .ok (.iload_n 3, 1) := gz_d tdX6_judgeBids_t0_ok 23 rfl
theorem dX6_judgeBids_40 : decode cX6_judgeBids 40 = .ok (.invokevirtual 46, 3) := gz_d tdX6_judgeBids_t0_ok 24 rfl
theorem dX6_judgeBids_43 : decode cX6_judgeBids 43 = .ok (.iinc 3 1, 3) := gz_d tdX6_judgeBids_t0_ok 25 rfl
theorem dX6_judgeBids_46 : decode cX6_judgeBids 46 = .ok (.goto (-18), 3) := gz_d tdX6_judgeBids_t0_ok 26 rfl
theorem dX6_judgeBids_49 : decode cX6_judgeBids 49 = .ok (.iinc 2 1, 3) := gz_d tdX6_judgeBids_t0_ok 27 rfl
theorem dX6_judgeBids_52 : decode cX6_judgeBids 52 = .ok (.goto (-37), 3) := gz_d tdX6_judgeBids_t0_ok 28 rfl
theorem dX6_judgeBids_55 : decode cX6_judgeBids 55 = .ok (.iinc 1 1, 3) := gz_d tdX6_judgeBids_t0_ok 29 rfl
theorem dX6_judgeBids_58 : decode cX6_judgeBids 58 = .ok (.goto (-56), 3) := gz_d tdX6_judgeBids_t0_ok 30 rfl
theorem dX6_judgeBids_61 : decode cX6_judgeBids 61 = .ok (.return_, 1) := gz_d tdX6_judgeBids_t0_ok 31 rfl
def tdX6_judge_t0 : List (Nat × Instr × Nat) := [(0, .iload_n 3, 1), (1, .aload_n 0, 1), (2, .getfield 25, 3), (5, .invokestatic 50, 3), (8, .istore 4, 2), (10, .iload_n 3, 1), (11, .aload_n 0, 1), (12, .getfield 25, 3), (15, .invokestatic 54, 3), (18, .iconst 1, 1), (19, .iadd, 1), (20, .istore 5, 2), (22, .aload_n 0, 1), (23, .aload_n 0, 1), (24, .getfield 12, 3), (27, .iload_n 1, 1), (28, .iload 4, 2), (30, .invokevirtual 57, 3), (33, .aload_n 0, 1), (34, .aload_n 0, 1), (35, .getfield 18, 3), (38, .iload_n 2, 1), (39, .iload 4, 2), (41, .invokevirtual 57, 3), (44, .iadd, 1), (45, .istore 6, 2), (47, .aload_n 0, 1), (48, .getfield 21, 3), (51, .iload_n 1, 1), (52, .iload_n 2, 1), (53, .iload_n 3, 1), (54, .invokestatic 61, 3), (57, .iload 6, 2), (59, .iload 5, 2), (61, .if_icmp .lt 7, 3), (64, .iconst 1, 1), (65, .goto 4, 3), (68, .iconst 0, 1), (69, .invokestatic 65, 3), (72, .return_, 1)]
theorem tdX6_judge_t0_ok : gz_dec cX6_judge tdX6_judge_t0 = true := by decide +kernel
theorem dX6_judge_0 : decode cX6_judge 0 = .ok (.iload_n 3, 1) := gz_d tdX6_judge_t0_ok 0 rfl
theorem dX6_judge_1 : decode cX6_judge 1 = .ok (.aload_n 0, 1) := gz_d tdX6_judge_t0_ok 1 rfl
theorem dX6_judge_2 : decode cX6_judge 2 = .ok (.getfield 25, 3) := gz_d tdX6_judge_t0_ok 2 rfl
theorem dX6_judge_5 : decode cX6_judge 5 = .ok (.invokestatic 50, 3) := gz_d tdX6_judge_t0_ok 3 rfl
theorem dX6_judge_8 : decode cX6_judge 8 = .ok (.istore 4, 2) := gz_d tdX6_judge_t0_ok 4 rfl
theorem dX6_judge_10 : decode cX6_judge 10 = .ok (.iload_n 3, 1) := gz_d tdX6_judge_t0_ok 5 rfl
theorem dX6_judge_11 : decode cX6_judge 11 = .ok (.aload_n 0, 1) := gz_d tdX6_judge_t0_ok 6 rfl
theorem dX6_judge_12 : decode cX6_judge 12 = .ok (.getfield 25, 3) := gz_d tdX6_judge_t0_ok 7 rfl
theorem dX6_judge_15 : decode cX6_judge 15 = .ok (.invokestatic 54, 3) := gz_d tdX6_judge_t0_ok 8 rfl
theorem dX6_judge_18 : decode cX6_judge 18 = .ok (.iconst 1, 1) := gz_d tdX6_judge_t0_ok 9 rfl
theorem dX6_judge_19 : decode cX6_judge 19 = .ok (.iadd, 1) := gz_d tdX6_judge_t0_ok 10 rfl
theorem dX6_judge_20 : decode cX6_judge 20 = .ok (.istore 5, 2) := gz_d tdX6_judge_t0_ok 11 rfl
theorem dX6_judge_22 : decode cX6_judge 22 = .ok (.aload_n 0, 1) := gz_d tdX6_judge_t0_ok 12 rfl
theorem dX6_judge_23 : decode cX6_judge 23 = .ok (.aload_n 0, 1) := gz_d tdX6_judge_t0_ok 13 rfl
theorem dX6_judge_24 : decode cX6_judge 24 = .ok (.getfield 12, 3) := gz_d tdX6_judge_t0_ok 14 rfl
theorem dX6_judge_27 : decode cX6_judge 27 = .ok (.iload_n 1, 1) := gz_d tdX6_judge_t0_ok 15 rfl
theorem dX6_judge_28 : decode cX6_judge 28 = .ok (.iload 4, 2) := gz_d tdX6_judge_t0_ok 16 rfl
theorem dX6_judge_30 : decode cX6_judge 30 = .ok (.invokevirtual 57, 3) := gz_d tdX6_judge_t0_ok 17 rfl
theorem dX6_judge_33 : decode cX6_judge 33 = .ok (.aload_n 0, 1) := gz_d tdX6_judge_t0_ok 18 rfl
theorem dX6_judge_34 : decode cX6_judge 34 = .ok (.aload_n 0, 1) := gz_d tdX6_judge_t0_ok 19 rfl
theorem dX6_judge_35 : decode cX6_judge 35 = .ok (.getfield 18, 3) := gz_d tdX6_judge_t0_ok 20 rfl
theorem dX6_judge_38 : decode cX6_judge 38 = .ok (.iload_n 2, 1) := gz_d tdX6_judge_t0_ok 21 rfl
theorem dX6_judge_39 : decode cX6_judge 39 = .ok (.iload 4, 2) := gz_d tdX6_judge_t0_ok 22 rfl
theorem dX6_judge_41 : decode cX6_judge 41 = .ok (.invokevirtual 57, 3) := gz_d tdX6_judge_t0_ok 23 rfl
theorem dX6_judge_44 : decode cX6_judge 44 = .ok (.iadd, 1) := gz_d tdX6_judge_t0_ok 24 rfl
theorem dX6_judge_45 : decode cX6_judge 45 = .ok (.istore 6, 2) := gz_d tdX6_judge_t0_ok 25 rfl
theorem dX6_judge_47 : decode cX6_judge 47 = .ok (.aload_n 0, 1) := gz_d tdX6_judge_t0_ok 26 rfl
theorem dX6_judge_48 : decode cX6_judge 48 = .ok (.getfield 21, 3) := gz_d tdX6_judge_t0_ok 27 rfl
theorem dX6_judge_51 : decode cX6_judge 51 = .ok (.iload_n 1, 1) := gz_d tdX6_judge_t0_ok 28 rfl
theorem dX6_judge_52 : decode cX6_judge 52 = .ok (.iload_n 2, 1) := gz_d tdX6_judge_t0_ok 29 rfl
theorem dX6_judge_53 : decode cX6_judge 53 = .ok (.iload_n 3, 1) := gz_d tdX6_judge_t0_ok 30 rfl
theorem dX6_judge_54 : decode cX6_judge 54 = .ok (.invokestatic 61, 3) := gz_d tdX6_judge_t0_ok 31 rfl
theorem dX6_judge_57 : decode cX6_judge 57 = .ok (.iload 6, 2) := gz_d tdX6_judge_t0_ok 32 rfl
theorem dX6_judge_59 : decode cX6_judge 59 = .ok (.iload 5, 2) := gz_d tdX6_judge_t0_ok 33 rfl
theorem dX6_judge_61 : decode cX6_judge 61 = .ok (.if_icmp .lt 7, 3) := gz_d tdX6_judge_t0_ok 34 rfl
theorem dX6_judge_64 : decode cX6_judge 64 = .ok (.iconst 1, 1) := gz_d tdX6_judge_t0_ok 35 rfl
theorem dX6_judge_65 : decode cX6_judge 65 = .ok (.goto 4, 3) := gz_d tdX6_judge_t0_ok 36 rfl
theorem dX6_judge_68 : decode cX6_judge 68 = .ok (.iconst 0, 1) := gz_d tdX6_judge_t0_ok 37 rfl
theorem dX6_judge_69 : decode cX6_judge 69 = .ok (.invokestatic 65, 3) := gz_d tdX6_judge_t0_ok 38 rfl
theorem dX6_judge_72 : decode cX6_judge 72 = .ok (.return_, 1) := gz_d tdX6_judge_t0_ok 39 rfl
def tdX6_countsFor_t0 : List (Nat × Instr × Nat) := [(0, .aload_n 1, 1), (1, .iload_n 2, 1), (2, .iload_n 3, 1), (3, .invokevirtual 69, 3), (6, .istore 4, 2), (8, .aload_n 0, 1), (9, .getfield 29, 3), (12, .ifCond .eq 19, 3), (15, .iload_n 3, 1), (16, .ifCond .le 15, 3), (19, .iload 4, 2), (21, .aload_n 1, 1), (22, .iload_n 2, 1), (23, .iconst 0, 1), (24, .invokevirtual 69, 3), (27, .iadd, 1), (28, .goto 5, 3), (31, .iload 4, 2), (33, .ireturn, 1)]
theorem tdX6_countsFor_t0_ok : gz_dec cX6_countsFor tdX6_countsFor_t0 = true := by decide +kernel
theorem dX6_countsFor_0 : decode cX6_countsFor 0 = .ok (.aload_n 1, 1) := gz_d tdX6_countsFor_t0_ok 0 rfl
theorem dX6_countsFor_1 : decode cX6_countsFor 1 = .ok (.iload_n 2, 1) := gz_d tdX6_countsFor_t0_ok 1 rfl
theorem dX6_countsFor_2 : decode cX6_countsFor 2 = .ok (.iload_n 3, 1) := gz_d tdX6_countsFor_t0_ok 2 rfl
theorem dX6_countsFor_3 : decode cX6_countsFor 3 = .ok (.invokevirtual 69, 3) := gz_d tdX6_countsFor_t0_ok 3 rfl
theorem dX6_countsFor_6 : decode cX6_countsFor 6 = .ok (.istore 4, 2) := gz_d tdX6_countsFor_t0_ok 4 rfl
theorem dX6_countsFor_8 : decode cX6_countsFor 8 = .ok (.aload_n 0, 1) := gz_d tdX6_countsFor_t0_ok 5 rfl
theorem dX6_countsFor_9 : decode cX6_countsFor 9 = .ok (.getfield 29, 3) := gz_d tdX6_countsFor_t0_ok 6 rfl
theorem dX6_countsFor_12 : decode cX6_countsFor 12 = .ok (.ifCond .eq 19, 3) := gz_d tdX6_countsFor_t0_ok 7 rfl
theorem dX6_countsFor_15 : decode cX6_countsFor 15 = .ok (.iload_n 3, 1) := gz_d tdX6_countsFor_t0_ok 8 rfl
theorem dX6_countsFor_16 : decode cX6_countsFor 16 = .ok (.ifCond .le 15, 3) := gz_d tdX6_countsFor_t0_ok 9 rfl
theorem dX6_countsFor_19 : decode cX6_countsFor 19 = .ok (.iload 4, 2) := gz_d tdX6_countsFor_t0_ok 10 rfl
theorem dX6_countsFor_21 : decode cX6_countsFor 21 = .ok (.aload_n 1, 1) := gz_d tdX6_countsFor_t0_ok 11 rfl
theorem dX6_countsFor_22 : decode cX6_countsFor 22 = .ok (.iload_n 2, 1) := gz_d tdX6_countsFor_t0_ok 12 rfl
theorem dX6_countsFor_23 : decode cX6_countsFor 23 = .ok (.iconst 0, 1) := gz_d tdX6_countsFor_t0_ok 13 rfl
theorem dX6_countsFor_24 : decode cX6_countsFor 24 = .ok (.invokevirtual 69, 3) := gz_d tdX6_countsFor_t0_ok 14 rfl
theorem dX6_countsFor_27 : decode cX6_countsFor 27 = .ok (.iadd, 1) := gz_d tdX6_countsFor_t0_ok 15 rfl
theorem dX6_countsFor_28 : decode cX6_countsFor 28 = .ok (.goto 5, 3) := gz_d tdX6_countsFor_t0_ok 16 rfl
theorem dX6_countsFor_31 : decode cX6_countsFor 31 = .ok (.iload 4, 2) := gz_d tdX6_countsFor_t0_ok 17 rfl
theorem dX6_countsFor_33 : decode cX6_countsFor 33 = .ok (.ireturn, 1) := gz_d tdX6_countsFor_t0_ok 18 rfl
def tdX6_spotOf_t0 : List (Nat × Instr × Nat) := [(0, .iload_n 0, 1), (1, .iconst 4, 1), (2, .imul, 1), (3, .iload_n 1, 1), (4, .iadd, 1), (5, .bipush 8, 2), (7, .imul, 1), (8, .iload_n 2, 1), (9, .iadd, 1), (10, .ireturn, 1)]
theorem tdX6_spotOf_t0_ok : gz_dec cX6_spotOf tdX6_spotOf_t0 = true := by decide +kernel
theorem dX6_spotOf_0 : decode cX6_spotOf 0 = .ok (.iload_n 0, 1) := gz_d tdX6_spotOf_t0_ok 0 rfl
theorem dX6_spotOf_1 : decode cX6_spotOf 1 = .ok (.iconst 4, 1) := gz_d tdX6_spotOf_t0_ok 1 rfl
theorem dX6_spotOf_2 : decode cX6_spotOf 2 = .ok (.imul, 1) := gz_d tdX6_spotOf_t0_ok 2 rfl
theorem dX6_spotOf_3 : decode cX6_spotOf 3 = .ok (.iload_n 1, 1) := gz_d tdX6_spotOf_t0_ok 3 rfl
theorem dX6_spotOf_4 : decode cX6_spotOf 4 = .ok (.iadd, 1) := gz_d tdX6_spotOf_t0_ok 4 rfl
theorem dX6_spotOf_5 : decode cX6_spotOf 5 = .ok (.bipush 8, 2) := gz_d tdX6_spotOf_t0_ok 5 rfl
theorem dX6_spotOf_7 : decode cX6_spotOf 7 = .ok (.imul, 1) := gz_d tdX6_spotOf_t0_ok 6 rfl
theorem dX6_spotOf_8 : decode cX6_spotOf 8 = .ok (.iload_n 2, 1) := gz_d tdX6_spotOf_t0_ok 7 rfl
theorem dX6_spotOf_9 : decode cX6_spotOf 9 = .ok (.iadd, 1) := gz_d tdX6_spotOf_t0_ok 8 rfl
theorem dX6_spotOf_10 : decode cX6_spotOf 10 = .ok (.ireturn, 1) := gz_d tdX6_spotOf_t0_ok 9 rfl
def tdX6_cup_t0 : List (Nat × Instr × Nat) := [(0, .iload_n 1, 1), (1, .ifCond .ne 10, 3), (4, .aload_n 0, 1), (5, .getfield 12, 3), (8, .goto 7, 3), (11, .aload_n 0, 1), (12, .getfield 18, 3), (15, .areturn, 1)]
theorem tdX6_cup_t0_ok : gz_dec cX6_cup tdX6_cup_t0 = true := by decide +kernel
theorem dX6_cup_0 : decode cX6_cup 0 = .ok (.iload_n 1, 1) := gz_d tdX6_cup_t0_ok 0 rfl
theorem dX6_cup_1 : decode cX6_cup 1 = .ok (.ifCond .ne 10, 3) := gz_d tdX6_cup_t0_ok 1 rfl
theorem dX6_cup_4 : decode cX6_cup 4 = .ok (.aload_n 0, 1) := gz_d tdX6_cup_t0_ok 2 rfl
theorem dX6_cup_5 : decode cX6_cup 5 = .ok (.getfield 12, 3) := gz_d tdX6_cup_t0_ok 3 rfl
theorem dX6_cup_8 : decode cX6_cup 8 = .ok (.goto 7, 3) := gz_d tdX6_cup_t0_ok 4 rfl
theorem dX6_cup_11 : decode cX6_cup 11 = .ok (.aload_n 0, 1) := gz_d tdX6_cup_t0_ok 5 rfl
theorem dX6_cup_12 : decode cX6_cup 12 = .ok (.getfield 18, 3) := gz_d tdX6_cup_t0_ok 6 rfl
theorem dX6_cup_15 : decode cX6_cup 15 = .ok (.areturn, 1) := gz_d tdX6_cup_t0_ok 7 rfl
def tdX6_isTrue_t0 : List (Nat × Instr × Nat) := [(0, .aload_n 0, 1), (1, .getfield 21, 3), (4, .iload_n 1, 1), (5, .iload_n 2, 1), (6, .iload_n 3, 1), (7, .invokestatic 61, 3), (10, .invokestatic 72, 3), (13, .iconst 1, 1), (14, .if_icmp .ne 7, 3), (17, .iconst 1, 1), (18, .goto 4, 3), (21, .iconst 0, 1), (22, .ireturn, 1)]
theorem tdX6_isTrue_t0_ok : gz_dec cX6_isTrue tdX6_isTrue_t0 = true := by decide +kernel
theorem dX6_isTrue_0 : decode cX6_isTrue 0 = .ok (.aload_n 0, 1) := gz_d tdX6_isTrue_t0_ok 0 rfl
theorem dX6_isTrue_1 : decode cX6_isTrue 1 = .ok (.getfield 21, 3) := gz_d tdX6_isTrue_t0_ok 1 rfl
theorem dX6_isTrue_4 : decode cX6_isTrue 4 = .ok (.iload_n 1, 1) := gz_d tdX6_isTrue_t0_ok 2 rfl
theorem dX6_isTrue_5 : decode cX6_isTrue 5 = .ok (.iload_n 2, 1) := gz_d tdX6_isTrue_t0_ok 3 rfl
theorem dX6_isTrue_6 : decode cX6_isTrue 6 = .ok (.iload_n 3, 1) := gz_d tdX6_isTrue_t0_ok 4 rfl
theorem dX6_isTrue_7 : decode cX6_isTrue 7 = .ok (.invokestatic 61, 3) := gz_d tdX6_isTrue_t0_ok 5 rfl
theorem dX6_isTrue_10 : decode cX6_isTrue 10 = .ok (.invokestatic 72, 3) := gz_d tdX6_isTrue_t0_ok 6 rfl
theorem dX6_isTrue_13 : decode cX6_isTrue 13 = .ok (.iconst 1, 1) := gz_d tdX6_isTrue_t0_ok 7 rfl
theorem dX6_isTrue_14 : decode cX6_isTrue 14 = .ok (.if_icmp .ne 7, 3) := gz_d tdX6_isTrue_t0_ok 8 rfl
theorem dX6_isTrue_17 : decode cX6_isTrue 17 = .ok (.iconst 1, 1) := gz_d tdX6_isTrue_t0_ok 9 rfl
theorem dX6_isTrue_18 : decode cX6_isTrue 18 = .ok (.goto 4, 3) := gz_d tdX6_isTrue_t0_ok 10 rfl
theorem dX6_isTrue_21 : decode cX6_isTrue 21 = .ok (.iconst 0, 1) := gz_d tdX6_isTrue_t0_ok 11 rfl
theorem dX6_isTrue_22 : decode cX6_isTrue 22 = .ok (.ireturn, 1) := gz_d tdX6_isTrue_t0_ok 12 rfl
def tdX6_isTrueFor_t0 : List (Nat × Instr × Nat) := [(0, .iload_n 1, 1), (1, .ifCond .ne 14, 3), (4, .aload_n 0, 1), (5, .iload_n 2, 1), (6, .iload_n 3, 1), (7, .iload 4, 2), (9, .invokevirtual 76, 3), (12, .goto 11, 3), (15, .aload_n 0, 1), (16, .iload_n 3, 1), (17, .iload_n 2, 1), (18, .iload 4, 2), (20, .invokevirtual 76, 3), (23, .ireturn, 1)]
theorem tdX6_isTrueFor_t0_ok : gz_dec cX6_isTrueFor tdX6_isTrueFor_t0 = true := by decide +kernel
theorem dX6_isTrueFor_0 : decode cX6_isTrueFor 0 = .ok (.iload_n 1, 1) := gz_d tdX6_isTrueFor_t0_ok 0 rfl
theorem dX6_isTrueFor_1 : decode cX6_isTrueFor 1 = .ok (.ifCond .ne 14, 3) := gz_d tdX6_isTrueFor_t0_ok 1 rfl
theorem dX6_isTrueFor_4 : decode cX6_isTrueFor 4 = .ok (.aload_n 0, 1) := gz_d tdX6_isTrueFor_t0_ok 2 rfl
theorem dX6_isTrueFor_5 : decode cX6_isTrueFor 5 = .ok (.iload_n 2, 1) := gz_d tdX6_isTrueFor_t0_ok 3 rfl
theorem dX6_isTrueFor_6 : decode cX6_isTrueFor 6 = .ok (.iload_n 3, 1) := gz_d tdX6_isTrueFor_t0_ok 4 rfl
theorem dX6_isTrueFor_7 : decode cX6_isTrueFor 7 = .ok (.iload 4, 2) := gz_d tdX6_isTrueFor_t0_ok 5 rfl
theorem dX6_isTrueFor_9 : decode cX6_isTrueFor 9 = .ok (.invokevirtual 76, 3) := gz_d tdX6_isTrueFor_t0_ok 6 rfl
theorem dX6_isTrueFor_12 : decode cX6_isTrueFor 12 = .ok (.goto 11, 3) := gz_d tdX6_isTrueFor_t0_ok 7 rfl
theorem dX6_isTrueFor_15 : decode cX6_isTrueFor 15 = .ok (.aload_n 0, 1) := gz_d tdX6_isTrueFor_t0_ok 8 rfl
theorem dX6_isTrueFor_16 : decode cX6_isTrueFor 16 = .ok (.iload_n 3, 1) := gz_d tdX6_isTrueFor_t0_ok 9 rfl
theorem dX6_isTrueFor_17 : decode cX6_isTrueFor 17 = .ok (.iload_n 2, 1) := gz_d tdX6_isTrueFor_t0_ok 10 rfl
theorem dX6_isTrueFor_18 : decode cX6_isTrueFor 18 = .ok (.iload 4, 2) := gz_d tdX6_isTrueFor_t0_ok 11 rfl
theorem dX6_isTrueFor_20 : decode cX6_isTrueFor 20 = .ok (.invokevirtual 76, 3) := gz_d tdX6_isTrueFor_t0_ok 12 rfl
theorem dX6_isTrueFor_23 : decode cX6_isTrueFor 23 = .ok (.ireturn, 1) := gz_d tdX6_isTrueFor_t0_ok 13 rfl
def tdX6_waysToHold_t0 : List (Nat × Instr × Nat) := [(0, .aload_n 0, 1), (1, .iconst 1, 1), (2, .iload_n 1, 1), (3, .isub, 1), (4, .invokevirtual 80, 3), (7, .astore 4, 2), (9, .iconst 0, 1), (10, .istore 5, 2), (12, .iconst 0, 1), (13, .istore 6, 2), (15, .iload 6, 2), (17, .aload 4, 2), (19, .getfield 43, 3), (22, .if_icmp .ge 33, 3), (25, .aload_n 0, 1), (26, .iload_n 1, 1), (27, .iload_n 2, 1), (28, .iload 6, 2), (30, .iload_n 3, 1), (31, .invokevirtual 84, 3), (34, .ifCond .eq 15, 3), (37, .iload 5, 2), (39, .aload 4, 2), (41, .iload 6, 2), (43, .invokevirtual 88, 3), (46, .iadd, 1), (47, .istore 5, 2), (49, .iinc 6 1, 3), (52, .goto (-37), 3), (55, .iload 5, 2), (57, .ireturn, 1)]
theorem tdX6_waysToHold_t0_ok : gz_dec cX6_waysToHold tdX6_waysToHold_t0 = true := by decide +kernel
theorem dX6_waysToHold_0 : decode cX6_waysToHold 0 = .ok (.aload_n 0, 1) := gz_d tdX6_waysToHold_t0_ok 0 rfl
theorem dX6_waysToHold_1 : decode cX6_waysToHold 1 = .ok (.iconst 1, 1) := gz_d tdX6_waysToHold_t0_ok 1 rfl
theorem dX6_waysToHold_2 : decode cX6_waysToHold 2 = .ok (.iload_n 1, 1) := gz_d tdX6_waysToHold_t0_ok 2 rfl
theorem dX6_waysToHold_3 : decode cX6_waysToHold 3 = .ok (.isub, 1) := gz_d tdX6_waysToHold_t0_ok 3 rfl
theorem dX6_waysToHold_4 : decode cX6_waysToHold 4 = .ok (.invokevirtual 80, 3) := gz_d tdX6_waysToHold_t0_ok 4 rfl
theorem dX6_waysToHold_7 : decode cX6_waysToHold 7 = .ok (.astore 4, 2) := gz_d tdX6_waysToHold_t0_ok 5 rfl
theorem dX6_waysToHold_9 : decode cX6_waysToHold 9 = .ok (.iconst 0, 1) := gz_d tdX6_waysToHold_t0_ok 6 rfl
theorem dX6_waysToHold_10 : decode cX6_waysToHold 10 = .ok (.istore 5, 2) := gz_d tdX6_waysToHold_t0_ok 7 rfl
theorem dX6_waysToHold_12 : decode cX6_waysToHold 12 = .ok (.iconst 0, 1) := gz_d tdX6_waysToHold_t0_ok 8 rfl
theorem dX6_waysToHold_13 : decode cX6_waysToHold 13 = .ok (.istore 6, 2) := gz_d tdX6_waysToHold_t0_ok 9 rfl
theorem dX6_waysToHold_15 : decode cX6_waysToHold 15 = .ok (.iload 6, 2) := gz_d tdX6_waysToHold_t0_ok 10 rfl
theorem dX6_waysToHold_17 : decode cX6_waysToHold 17 = .ok (.aload 4, 2) := gz_d tdX6_waysToHold_t0_ok 11 rfl
theorem dX6_waysToHold_19 : decode cX6_waysToHold 19 = .ok (.getfield 43, 3) := gz_d tdX6_waysToHold_t0_ok 12 rfl
theorem dX6_waysToHold_22 : decode cX6_waysToHold 22 = .ok (.if_icmp .ge 33, 3) := gz_d tdX6_waysToHold_t0_ok 13 rfl
theorem dX6_waysToHold_25 : decode cX6_waysToHold 25 = .ok (.aload_n 0, 1) := gz_d tdX6_waysToHold_t0_ok 14 rfl
theorem dX6_waysToHold_26 : decode cX6_waysToHold 26 = .ok (.iload_n 1, 1) := gz_d tdX6_waysToHold_t0_ok 15 rfl
theorem dX6_waysToHold_27 : decode cX6_waysToHold 27 = .ok (.iload_n 2, 1) := gz_d tdX6_waysToHold_t0_ok 16 rfl
theorem dX6_waysToHold_28 : decode cX6_waysToHold 28 = .ok (.iload 6, 2) := gz_d tdX6_waysToHold_t0_ok 17 rfl
theorem dX6_waysToHold_30 : decode cX6_waysToHold 30 = .ok (.iload_n 3, 1) := gz_d tdX6_waysToHold_t0_ok 18 rfl
theorem dX6_waysToHold_31 : decode cX6_waysToHold 31 = .ok (.invokevirtual 84, 3) := gz_d tdX6_waysToHold_t0_ok 19 rfl
theorem dX6_waysToHold_34 : decode cX6_waysToHold 34 = .ok (.ifCond .eq 15, 3) := gz_d tdX6_waysToHold_t0_ok 20 rfl
theorem dX6_waysToHold_37 : decode cX6_waysToHold 37 = .ok (.iload 5, 2) := gz_d tdX6_waysToHold_t0_ok 21 rfl
theorem dX6_waysToHold_39 : decode cX6_waysToHold 39 = .ok (.aload 4, 2) := gz_d tdX6_waysToHold_t0_ok 22 rfl
theorem dX6_waysToHold_41 : decode cX6_waysToHold 41 = .ok (.iload 6, 2) := gz_d tdX6_waysToHold_t0_ok 23 rfl
theorem dX6_waysToHold_43 : decode cX6_waysToHold 43 = .ok (.invokevirtual 88, 3) := gz_d tdX6_waysToHold_t0_ok 24 rfl
theorem dX6_waysToHold_46 : decode cX6_waysToHold 46 = .ok (.iadd, 1) := gz_d tdX6_waysToHold_t0_ok 25 rfl
theorem dX6_waysToHold_47 : decode cX6_waysToHold 47 = .ok (.istore 5, 2) := gz_d tdX6_waysToHold_t0_ok 26 rfl
theorem dX6_waysToHold_49 : decode cX6_waysToHold 49 = .ok (.iinc 6 1, 3) := gz_d tdX6_waysToHold_t0_ok 27 rfl
theorem dX6_waysToHold_52 : decode cX6_waysToHold 52 = .ok (.goto (-37), 3) := gz_d tdX6_waysToHold_t0_ok 28 rfl
theorem dX6_waysToHold_55 : decode cX6_waysToHold 55 = .ok (.iload 5, 2) := gz_d tdX6_waysToHold_t0_ok 29 rfl
theorem dX6_waysToHold_57 : decode cX6_waysToHold 57 = .ok (.ireturn, 1) := gz_d tdX6_waysToHold_t0_ok 30 rfl
def tdX6_meanOf_t0 : List (Nat × Instr × Nat) := [(0, .aload_n 0, 1), (1, .getfield 12, 3), (4, .invokevirtual 92, 3), (7, .aload_n 0, 1), (8, .getfield 18, 3), (11, .invokevirtual 92, 3), (14, .imul, 1), (15, .i2d, 1), (16, .dstore_n 3, 1), (17, .dload_n 3, 1), (18, .dconst 0, 1), (19, .dcmp .l, 1), (20, .ifCond .le 9, 3), (23, .dload_n 1, 1), (24, .dload_n 3, 1), (25, .ddiv, 1), (26, .goto 4, 3), (29, .dconst 0, 1), (30, .dreturn, 1)]
theorem tdX6_meanOf_t0_ok : gz_dec cX6_meanOf tdX6_meanOf_t0 = true := by decide +kernel
theorem dX6_meanOf_0 : decode cX6_meanOf 0 = .ok (.aload_n 0, 1) := gz_d tdX6_meanOf_t0_ok 0 rfl
theorem dX6_meanOf_1 : decode cX6_meanOf 1 = .ok (.getfield 12, 3) := gz_d tdX6_meanOf_t0_ok 1 rfl
theorem dX6_meanOf_4 : decode cX6_meanOf 4 = .ok (.invokevirtual 92, 3) := gz_d tdX6_meanOf_t0_ok 2 rfl
theorem dX6_meanOf_7 : decode cX6_meanOf 7 = .ok (.aload_n 0, 1) := gz_d tdX6_meanOf_t0_ok 3 rfl
theorem dX6_meanOf_8 : decode cX6_meanOf 8 = .ok (.getfield 18, 3) := gz_d tdX6_meanOf_t0_ok 4 rfl
theorem dX6_meanOf_11 : decode cX6_meanOf 11 = .ok (.invokevirtual 92, 3) := gz_d tdX6_meanOf_t0_ok 5 rfl
theorem dX6_meanOf_14 : decode cX6_meanOf 14 = .ok (.imul, 1) := gz_d tdX6_meanOf_t0_ok 6 rfl
theorem dX6_meanOf_15 : decode cX6_meanOf 15 = .ok (.i2d, 1) := gz_d tdX6_meanOf_t0_ok 7 rfl
theorem dX6_meanOf_16 : decode cX6_meanOf 16 = .ok (.dstore_n 3, 1) := gz_d tdX6_meanOf_t0_ok 8 rfl
theorem dX6_meanOf_17 : decode cX6_meanOf 17 = .ok (.dload_n 3, 1) := gz_d tdX6_meanOf_t0_ok 9 rfl
theorem dX6_meanOf_18 : decode cX6_meanOf 18 = .ok (.dconst 0, 1) := gz_d tdX6_meanOf_t0_ok 10 rfl
theorem dX6_meanOf_19 : decode cX6_meanOf 19 = .ok (.dcmp .l, 1) := gz_d tdX6_meanOf_t0_ok 11 rfl
theorem dX6_meanOf_20 : decode cX6_meanOf 20 = .ok (.ifCond .le 9, 3) := gz_d tdX6_meanOf_t0_ok 12 rfl
theorem dX6_meanOf_23 : decode cX6_meanOf 23 = .ok (.dload_n 1, 1) := gz_d tdX6_meanOf_t0_ok 13 rfl
theorem dX6_meanOf_24 : decode cX6_meanOf 24 = .ok (.dload_n 3, 1) := gz_d tdX6_meanOf_t0_ok 14 rfl
theorem dX6_meanOf_25 : decode cX6_meanOf 25 = .ok (.ddiv, 1) := gz_d tdX6_meanOf_t0_ok 15 rfl
theorem dX6_meanOf_26 : decode cX6_meanOf 26 = .ok (.goto 4, 3) := gz_d tdX6_meanOf_t0_ok 16 rfl
theorem dX6_meanOf_29 : decode cX6_meanOf 29 = .ok (.dconst 0, 1) := gz_d tdX6_meanOf_t0_ok 17 rfl
theorem dX6_meanOf_30 : decode cX6_meanOf 30 = .ok (.dreturn, 1) := gz_d tdX6_meanOf_t0_ok 18 rfl
def tdX7_init_t0 : List (Nat × Instr × Nat) := [(0, .aload_n 0, 1), (1, .invokespecial 3, 3), (4, .aload_n 0, 1), (5, .new 9, 3), (8, .dup, 1), (9, .invokespecial 11, 3), (12, .putfield 12, 3), (15, .aload_n 0, 1), (16, .new 16, 3), (19, .dup, 1), (20, .invokespecial 18, 3), (23, .putfield 19, 3), (26, .aload_n 0, 1), (27, .new 23, 3), (30, .dup, 1), (31, .aload_n 0, 1), (32, .getfield 12, 3), (35, .invokespecial 25, 3), (38, .putfield 28, 3), (41, .aload_n 0, 1), (42, .new 32, 3), (45, .dup, 1), (46, .aload_n 0, 1), (47, .getfield 12, 3), (50, .invokespecial 34, 3), (53, .putfield 35, 3), (56, .aload_n 0, 1), (57, .new 39, 3), (60, .dup, 1), (61, .aload_n 0, 1), (62, .getfield 12, 3), (65, .invokespecial 41, 3), (68, .putfield 42, 3), (71, .aload_n 0, 1), (72, .getfield 12, 3), (75, .iconst 1, 1), (76, .iconst 1, 1), (77, .iconst 2, 1), (78, .iconst 0, 1), (79, .invokevirtual 46, 3), (82, .return_, 1)]
theorem tdX7_init_t0_ok : gz_dec cX7_init tdX7_init_t0 = true := by decide +kernel
theorem dX7_init_0 : decode cX7_init 0 = .ok (.aload_n 0, 1) := gz_d tdX7_init_t0_ok 0 rfl
theorem dX7_init_1 : decode cX7_init 1 = .ok (.invokespecial 3, 3) := gz_d tdX7_init_t0_ok 1 rfl
theorem dX7_init_4 : decode cX7_init 4 = .ok (.aload_n 0, 1) := gz_d tdX7_init_t0_ok 2 rfl
theorem dX7_init_5 : decode cX7_init 5 = .ok (.new 9, 3) := gz_d tdX7_init_t0_ok 3 rfl
theorem dX7_init_8 : decode cX7_init 8 = .ok (.dup, 1) := gz_d tdX7_init_t0_ok 4 rfl
theorem dX7_init_9 : decode cX7_init 9 = .ok (.invokespecial 11, 3) := gz_d tdX7_init_t0_ok 5 rfl
theorem dX7_init_12 : decode cX7_init 12 = .ok (.putfield 12, 3) := gz_d tdX7_init_t0_ok 6 rfl
theorem dX7_init_15 : decode cX7_init 15 = .ok (.aload_n 0, 1) := gz_d tdX7_init_t0_ok 7 rfl
theorem dX7_init_16 : decode cX7_init 16 = .ok (.new 16, 3) := gz_d tdX7_init_t0_ok 8 rfl
theorem dX7_init_19 : decode cX7_init 19 = .ok (.dup, 1) := gz_d tdX7_init_t0_ok 9 rfl
theorem dX7_init_20 : decode cX7_init 20 = .ok (.invokespecial 18, 3) := gz_d tdX7_init_t0_ok 10 rfl
theorem dX7_init_23 : decode cX7_init 23 = .ok (.putfield 19, 3) := gz_d tdX7_init_t0_ok 11 rfl
theorem dX7_init_26 : decode cX7_init 26 = .ok (.aload_n 0, 1) := gz_d tdX7_init_t0_ok 12 rfl
theorem dX7_init_27 : decode cX7_init 27 = .ok (.new 23, 3) := gz_d tdX7_init_t0_ok 13 rfl
theorem dX7_init_30 : decode cX7_init 30 = .ok (.dup, 1) := gz_d tdX7_init_t0_ok 14 rfl
theorem dX7_init_31 : decode cX7_init 31 = .ok (.aload_n 0, 1) := gz_d tdX7_init_t0_ok 15 rfl
theorem dX7_init_32 : decode cX7_init 32 = .ok (.getfield 12, 3) := gz_d tdX7_init_t0_ok 16 rfl
theorem dX7_init_35 : decode cX7_init 35 = .ok (.invokespecial 25, 3) := gz_d tdX7_init_t0_ok 17 rfl
theorem dX7_init_38 : decode cX7_init 38 = .ok (.putfield 28, 3) := gz_d tdX7_init_t0_ok 18 rfl
theorem dX7_init_41 : decode cX7_init 41 = .ok (.aload_n 0, 1) := gz_d tdX7_init_t0_ok 19 rfl
theorem dX7_init_42 : decode cX7_init 42 = .ok (.new 32, 3) := gz_d tdX7_init_t0_ok 20 rfl
theorem dX7_init_45 : decode cX7_init 45 = .ok (.dup, 1) := gz_d tdX7_init_t0_ok 21 rfl
theorem dX7_init_46 : decode cX7_init 46 = .ok (.aload_n 0, 1) := gz_d tdX7_init_t0_ok 22 rfl
theorem dX7_init_47 : decode cX7_init 47 = .ok (.getfield 12, 3) := gz_d tdX7_init_t0_ok 23 rfl
theorem dX7_init_50 : decode cX7_init 50 = .ok (.invokespecial 34, 3) := gz_d tdX7_init_t0_ok 24 rfl
theorem dX7_init_53 : decode cX7_init 53 = .ok (.putfield 35, 3) := gz_d tdX7_init_t0_ok 25 rfl
theorem dX7_init_56 : decode cX7_init 56 = .ok (.aload_n 0, 1) := gz_d tdX7_init_t0_ok 26 rfl
theorem dX7_init_57 : decode cX7_init 57 = .ok (.new 39, 3) := gz_d tdX7_init_t0_ok 27 rfl
theorem dX7_init_60 : decode cX7_init 60 = .ok (.dup, 1) := gz_d tdX7_init_t0_ok 28 rfl
theorem dX7_init_61 : decode cX7_init 61 = .ok (.aload_n 0, 1) := gz_d tdX7_init_t0_ok 29 rfl
theorem dX7_init_62 : decode cX7_init 62 = .ok (.getfield 12, 3) := gz_d tdX7_init_t0_ok 30 rfl
theorem dX7_init_65 : decode cX7_init 65 = .ok (.invokespecial 41, 3) := gz_d tdX7_init_t0_ok 31 rfl
theorem dX7_init_68 : decode cX7_init 68 = .ok (.putfield 42, 3) := gz_d tdX7_init_t0_ok 32 rfl
theorem dX7_init_71 : decode cX7_init 71 = .ok (.aload_n 0, 1) := gz_d tdX7_init_t0_ok 33 rfl
theorem dX7_init_72 : decode cX7_init 72 = .ok (.getfield 12, 3) := gz_d tdX7_init_t0_ok 34 rfl
theorem dX7_init_75 : decode cX7_init 75 = .ok (.iconst 1, 1) := gz_d tdX7_init_t0_ok 35 rfl
theorem dX7_init_76 : decode cX7_init 76 = .ok (.iconst 1, 1) := gz_d tdX7_init_t0_ok 36 rfl
theorem dX7_init_77 : decode cX7_init 77 = .ok (.iconst 2, 1) := gz_d tdX7_init_t0_ok 37 rfl
theorem dX7_init_78 : decode cX7_init 78 = .ok (.iconst 0, 1) := gz_d tdX7_init_t0_ok 38 rfl
theorem dX7_init_79 : decode cX7_init 79 = .ok (.invokevirtual 46, 3) := gz_d tdX7_init_t0_ok 39 rfl
theorem dX7_init_82 : decode cX7_init 82 = .ok (.return_, 1) := gz_d tdX7_init_t0_ok 40 rfl
def tdX7_cups_t0 : List (Nat × Instr × Nat) := [(0, .iload_n 1, 1), (1, .iconst 1, 1), (2, .iconst 3, 1), (3, .invokestatic 50, 3), (6, .ifCond .eq 12, 3), (9, .iload_n 2, 1), (10, .iconst 1, 1), (11, .iconst 3, 1), (12, .invokestatic 50, 3), (15, .ifCond .ne 6, 3), (18, .bipush (-2), 2), (20, .ireturn, 1), (21, .iload_n 3, 1), (22, .iconst 2, 1), (23, .iconst 4, 1), (24, .invokestatic 50, 3), (27, .ifCond .eq 13, 3), (30, .iload_n 1, 1), (31, .iload_n 2, 1), (32, .iadd, 1), (33, .iload_n 3, 1), (34, .imul, 1), (35, .bipush 8, 2), (37, .if_icmp .le 6, 3), (40, .bipush (-2), 2), (42, .ireturn, 1), (43, .aload_n 0, 1), (44, .getfield 12, 3), (47, .iload_n 1, 1), (48, .iload_n 2, 1), (49, .iload_n 3, 1), (50, .iload 4, 2), (52, .invokevirtual 46, 3), (55, .aload_n 0, 1), (56, .getfield 19, 3), (59, .invokevirtual 54, 3), (62, .aload_n 0, 1), (63, .getfield 42, 3), (66, .invokevirtual 57, 3), (69, .aload_n 0, 1), (70, .getfield 12, 3), (73, .getfield 60, 3), (76, .ireturn, 1)]
theorem tdX7_cups_t0_ok : gz_dec cX7_cups tdX7_cups_t0 = true := by decide +kernel
theorem dX7_cups_0 : decode cX7_cups 0 = .ok (.iload_n 1, 1) := gz_d tdX7_cups_t0_ok 0 rfl
theorem dX7_cups_1 : decode cX7_cups 1 = .ok (.iconst 1, 1) := gz_d tdX7_cups_t0_ok 1 rfl
theorem dX7_cups_2 : decode cX7_cups 2 = .ok (.iconst 3, 1) := gz_d tdX7_cups_t0_ok 2 rfl
theorem dX7_cups_3 : decode cX7_cups 3 = .ok (.invokestatic 50, 3) := gz_d tdX7_cups_t0_ok 3 rfl
theorem dX7_cups_6 : decode cX7_cups 6 = .ok (.ifCond .eq 12, 3) := gz_d tdX7_cups_t0_ok 4 rfl
theorem dX7_cups_9 : decode cX7_cups 9 = .ok (.iload_n 2, 1) := gz_d tdX7_cups_t0_ok 5 rfl
theorem dX7_cups_10 : decode cX7_cups 10 = .ok (.iconst 1, 1) := gz_d tdX7_cups_t0_ok 6 rfl
theorem dX7_cups_11 : decode cX7_cups 11 = .ok (.iconst 3, 1) := gz_d tdX7_cups_t0_ok 7 rfl
theorem dX7_cups_12 : decode cX7_cups 12 = .ok (.invokestatic 50, 3) := gz_d tdX7_cups_t0_ok 8 rfl
theorem dX7_cups_15 : decode cX7_cups 15 = .ok (.ifCond .ne 6, 3) := gz_d tdX7_cups_t0_ok 9 rfl
theorem dX7_cups_18 : decode cX7_cups 18 = .ok (.bipush (-2), 2) := gz_d tdX7_cups_t0_ok 10 rfl
theorem dX7_cups_20 : decode cX7_cups 20 = .ok (.ireturn, 1) := gz_d tdX7_cups_t0_ok 11 rfl
theorem dX7_cups_21 : decode cX7_cups 21 = .ok (.iload_n 3, 1) := gz_d tdX7_cups_t0_ok 12 rfl
theorem dX7_cups_22 : decode cX7_cups 22 = .ok (.iconst 2, 1) := gz_d tdX7_cups_t0_ok 13 rfl
theorem dX7_cups_23 : decode cX7_cups 23 = .ok (.iconst 4, 1) := gz_d tdX7_cups_t0_ok 14 rfl
theorem dX7_cups_24 : decode cX7_cups 24 = .ok (.invokestatic 50, 3) := gz_d tdX7_cups_t0_ok 15 rfl
theorem dX7_cups_27 : decode cX7_cups 27 = .ok (.ifCond .eq 13, 3) := gz_d tdX7_cups_t0_ok 16 rfl
theorem dX7_cups_30 : decode cX7_cups 30 = .ok (.iload_n 1, 1) := gz_d tdX7_cups_t0_ok 17 rfl
theorem dX7_cups_31 : decode cX7_cups 31 = .ok (.iload_n 2, 1) := gz_d tdX7_cups_t0_ok 18 rfl
theorem dX7_cups_32 : decode cX7_cups 32 = .ok (.iadd, 1) := gz_d tdX7_cups_t0_ok 19 rfl
theorem dX7_cups_33 : decode cX7_cups 33 = .ok (.iload_n 3, 1) := gz_d tdX7_cups_t0_ok 20 rfl
theorem dX7_cups_34 : decode cX7_cups 34 = .ok (.imul, 1) := gz_d tdX7_cups_t0_ok 21 rfl
theorem dX7_cups_35 : decode cX7_cups 35 = .ok (.bipush 8, 2) := gz_d tdX7_cups_t0_ok 22 rfl
theorem dX7_cups_37 : decode cX7_cups 37 = .ok (.if_icmp .le 6, 3) := gz_d tdX7_cups_t0_ok 23 rfl
theorem dX7_cups_40 : decode cX7_cups 40 = .ok (.bipush (-2), 2) := gz_d tdX7_cups_t0_ok 24 rfl
theorem dX7_cups_42 : decode cX7_cups 42 = .ok (.ireturn, 1) := gz_d tdX7_cups_t0_ok 25 rfl
theorem dX7_cups_43 : decode cX7_cups 43 = .ok (.aload_n 0, 1) := gz_d tdX7_cups_t0_ok 26 rfl
theorem dX7_cups_44 : decode cX7_cups 44 = .ok (.getfield 12, 3) := gz_d tdX7_cups_t0_ok 27 rfl
theorem dX7_cups_47 : decode cX7_cups 47 = .ok (.iload_n 1, 1) := gz_d tdX7_cups_t0_ok 28 rfl
theorem dX7_cups_48 : decode cX7_cups 48 = .ok (.iload_n 2, 1) := gz_d tdX7_cups_t0_ok 29 rfl
theorem dX7_cups_49 : decode cX7_cups 49 = .ok (.iload_n 3, 1) := gz_d tdX7_cups_t0_ok 30 rfl
theorem dX7_cups_50 : decode cX7_cups 50 = .ok (.iload 4, 2) := gz_d tdX7_cups_t0_ok 31 rfl
theorem dX7_cups_52 : decode cX7_cups 52 = .ok (.invokevirtual 46, 3) := gz_d tdX7_cups_t0_ok 32 rfl
theorem dX7_cups_55 : decode cX7_cups 55 = .ok (.aload_n 0, 1) := gz_d tdX7_cups_t0_ok 33 rfl
theorem dX7_cups_56 : decode cX7_cups 56 = .ok (.getfield 19, 3) := gz_d tdX7_cups_t0_ok 34 rfl
theorem dX7_cups_59 : decode cX7_cups 59 = .ok (.invokevirtual 54, 3) := gz_d tdX7_cups_t0_ok 35 rfl
theorem dX7_cups_62 : decode cX7_cups 62 = .ok (.aload_n 0, 1) := gz_d tdX7_cups_t0_ok 36 rfl
theorem dX7_cups_63 : decode cX7_cups 63 = .ok (.getfield 42, 3) := gz_d tdX7_cups_t0_ok 37 rfl
theorem dX7_cups_66 : decode cX7_cups 66 = .ok (.invokevirtual 57, 3) := gz_d tdX7_cups_t0_ok 38 rfl
theorem dX7_cups_69 : decode cX7_cups 69 = .ok (.aload_n 0, 1) := gz_d tdX7_cups_t0_ok 39 rfl
theorem dX7_cups_70 : decode cX7_cups 70 = .ok (.getfield 12, 3) := gz_d tdX7_cups_t0_ok 40 rfl
theorem dX7_cups_73 : decode cX7_cups 73 = .ok (.getfield 60, 3) := gz_d tdX7_cups_t0_ok 41 rfl
theorem dX7_cups_76 : decode cX7_cups 76 = .ok (.ireturn, 1) := gz_d tdX7_cups_t0_ok 42 rfl
def tdX7_hands_t0 : List (Nat × Instr × Nat) := [(0, .iload_n 1, 1), (1, .invokestatic 64, 3), (4, .ifCond .eq 17, 3), (7, .aload_n 0, 1), (8, .getfield 12, 3), (11, .iload_n 1, 1), (12, .invokevirtual 68, 3), (15, .getfield 72, 3), (18, .goto 5, 3), (21, .bipush (-2), 2), (23, .ireturn, 1)]
theorem tdX7_hands_t0_ok : gz_dec cX7_hands tdX7_hands_t0 = true := by decide +kernel
theorem dX7_hands_0 : decode cX7_hands 0 = .ok (.iload_n 1, 1) := gz_d tdX7_hands_t0_ok 0 rfl
theorem dX7_hands_1 : decode cX7_hands 1 = .ok (.invokestatic 64, 3) := gz_d tdX7_hands_t0_ok 1 rfl
theorem dX7_hands_4 : decode cX7_hands 4 = .ok (.ifCond .eq 17, 3) := gz_d tdX7_hands_t0_ok 2 rfl
theorem dX7_hands_7 : decode cX7_hands 7 = .ok (.aload_n 0, 1) := gz_d tdX7_hands_t0_ok 3 rfl
theorem dX7_hands_8 : decode cX7_hands 8 = .ok (.getfield 12, 3) := gz_d tdX7_hands_t0_ok 4 rfl
theorem dX7_hands_11 : decode cX7_hands 11 = .ok (.iload_n 1, 1) := gz_d tdX7_hands_t0_ok 5 rfl
theorem dX7_hands_12 : decode cX7_hands 12 = .ok (.invokevirtual 68, 3) := gz_d tdX7_hands_t0_ok 6 rfl
theorem dX7_hands_15 : decode cX7_hands 15 = .ok (.getfield 72, 3) := gz_d tdX7_hands_t0_ok 7 rfl
theorem dX7_hands_18 : decode cX7_hands 18 = .ok (.goto 5, 3) := gz_d tdX7_hands_t0_ok 8 rfl
theorem dX7_hands_21 : decode cX7_hands 21 = .ok (.bipush (-2), 2) := gz_d tdX7_hands_t0_ok 9 rfl
theorem dX7_hands_23 : decode cX7_hands 23 = .ok (.ireturn, 1) := gz_d tdX7_hands_t0_ok 10 rfl
def tdX7_hand_t0 : List (Nat × Instr × Nat) := [(0, .aload_n 0, 1), (1, .iload_n 1, 1), (2, .iload_n 2, 1), (3, .invokevirtual 77, 3), (6, .ifCond .eq 20, 3), (9, .iload_n 3, 1), (10, .iconst 0, 1), (11, .aload_n 0, 1), (12, .getfield 12, 3), (15, .getfield 81, 3), (18, .iconst 1, 1), (19, .isub, 1), (20, .invokestatic 50, 3), (23, .ifCond .ne 6, 3), (26, .bipush (-100), 2), (28, .ireturn, 1), (29, .aload_n 0, 1), (30, .getfield 12, 3), (33, .iload_n 1, 1), (34, .invokevirtual 68, 3), (37, .iload_n 2, 1), (38, .iload_n 3, 1), (39, .invokevirtual 84, 3), (42, .ireturn, 1)]
theorem tdX7_hand_t0_ok : gz_dec cX7_hand tdX7_hand_t0 = true := by decide +kernel
theorem dX7_hand_0 : decode cX7_hand 0 = .ok (.aload_n 0, 1) := gz_d tdX7_hand_t0_ok 0 rfl
theorem dX7_hand_1 : decode cX7_hand 1 = .ok (.iload_n 1, 1) := gz_d tdX7_hand_t0_ok 1 rfl
theorem dX7_hand_2 : decode cX7_hand 2 = .ok (.iload_n 2, 1) := gz_d tdX7_hand_t0_ok 2 rfl
theorem dX7_hand_3 : decode cX7_hand 3 = .ok (.invokevirtual 77, 3) := gz_d tdX7_hand_t0_ok 3 rfl
theorem dX7_hand_6 : decode cX7_hand 6 = .ok (.ifCond .eq 20, 3) := gz_d tdX7_hand_t0_ok 4 rfl
theorem dX7_hand_9 : decode cX7_hand 9 = .ok (.iload_n 3, 1) := gz_d tdX7_hand_t0_ok 5 rfl
theorem dX7_hand_10 : decode cX7_hand 10 = .ok (.iconst 0, 1) := gz_d tdX7_hand_t0_ok 6 rfl
theorem dX7_hand_11 : decode cX7_hand 11 = .ok (.aload_n 0, 1) := gz_d tdX7_hand_t0_ok 7 rfl
theorem dX7_hand_12 : decode cX7_hand 12 = .ok (.getfield 12, 3) := gz_d tdX7_hand_t0_ok 8 rfl
theorem dX7_hand_15 : decode cX7_hand 15 = .ok (.getfield 81, 3) := gz_d tdX7_hand_t0_ok 9 rfl
theorem dX7_hand_18 : decode cX7_hand 18 = .ok (.iconst 1, 1) := gz_d tdX7_hand_t0_ok 10 rfl
theorem dX7_hand_19 : decode cX7_hand 19 = .ok (.isub, 1) := gz_d tdX7_hand_t0_ok 11 rfl
theorem dX7_hand_20 : decode cX7_hand 20 = .ok (.invokestatic 50, 3) := gz_d tdX7_hand_t0_ok 12 rfl
theorem dX7_hand_23 : decode cX7_hand 23 = .ok (.ifCond .ne 6, 3) := gz_d tdX7_hand_t0_ok 13 rfl
theorem dX7_hand_26 : decode cX7_hand 26 = .ok (.bipush (-100), 2) := gz_d tdX7_hand_t0_ok 14 rfl
theorem dX7_hand_28 : decode cX7_hand 28 = .ok (.ireturn, 1) := gz_d tdX7_hand_t0_ok 15 rfl
theorem dX7_hand_29 : decode cX7_hand 29 = .ok (.aload_n 0, 1) := gz_d tdX7_hand_t0_ok 16 rfl
theorem dX7_hand_30 : decode cX7_hand 30 = .ok (.getfield 12, 3) := gz_d tdX7_hand_t0_ok 17 rfl
theorem dX7_hand_33 : decode cX7_hand 33 = .ok (.iload_n 1, 1) := gz_d tdX7_hand_t0_ok 18 rfl
theorem dX7_hand_34 : decode cX7_hand 34 = .ok (.invokevirtual 68, 3) := gz_d tdX7_hand_t0_ok 19 rfl
theorem dX7_hand_37 : decode cX7_hand 37 = .ok (.iload_n 2, 1) := gz_d tdX7_hand_t0_ok 20 rfl
theorem dX7_hand_38 : decode cX7_hand 38 = .ok (.iload_n 3, 1) := gz_d tdX7_hand_t0_ok 21 rfl
theorem dX7_hand_39 : decode cX7_hand 39 = .ok (.invokevirtual 84, 3) := gz_d tdX7_hand_t0_ok 22 rfl
theorem dX7_hand_42 : decode cX7_hand 42 = .ok (.ireturn, 1) := gz_d tdX7_hand_t0_ok 23 rfl
def tdX7_throwsOf_t0 : List (Nat × Instr × Nat) := [(0, .aload_n 0, 1), (1, .iload_n 1, 1), (2, .iload_n 2, 1), (3, .invokevirtual 77, 3), (6, .ifCond .eq 18, 3), (9, .aload_n 0, 1), (10, .getfield 12, 3), (13, .iload_n 1, 1), (14, .invokevirtual 68, 3), (17, .iload_n 2, 1), (18, .invokevirtual 88, 3), (21, .goto 5, 3), (24, .bipush (-2), 2), (26, .ireturn, 1)]
theorem tdX7_throwsOf_t0_ok : gz_dec cX7_throwsOf tdX7_throwsOf_t0 = true := by decide +kernel
theorem dX7_throwsOf_0 : decode cX7_throwsOf 0 = .ok (.aload_n 0, 1) := gz_d tdX7_throwsOf_t0_ok 0 rfl
theorem dX7_throwsOf_1 : decode cX7_throwsOf 1 = .ok (.iload_n 1, 1) := gz_d tdX7_throwsOf_t0_ok 1 rfl
theorem dX7_throwsOf_2 : decode cX7_throwsOf 2 = .ok (.iload_n 2, 1) := gz_d tdX7_throwsOf_t0_ok 2 rfl
theorem dX7_throwsOf_3 : decode cX7_throwsOf 3 = .ok (.invokevirtual 77, 3) := gz_d tdX7_throwsOf_t0_ok 3 rfl
theorem dX7_throwsOf_6 : decode cX7_throwsOf 6 = .ok (.ifCond .eq 18, 3) := gz_d tdX7_throwsOf_t0_ok 4 rfl
theorem dX7_throwsOf_9 : decode cX7_throwsOf 9 = .ok (.aload_n 0, 1) := gz_d tdX7_throwsOf_t0_ok 5 rfl
theorem dX7_throwsOf_10 : decode cX7_throwsOf 10 = .ok (.getfield 12, 3) := gz_d tdX7_throwsOf_t0_ok 6 rfl
theorem dX7_throwsOf_13 : decode cX7_throwsOf 13 = .ok (.iload_n 1, 1) := gz_d tdX7_throwsOf_t0_ok 7 rfl
theorem dX7_throwsOf_14 : decode cX7_throwsOf 14 = .ok (.invokevirtual 68, 3) := gz_d tdX7_throwsOf_t0_ok 8 rfl
theorem dX7_throwsOf_17 : decode cX7_throwsOf 17 = .ok (.iload_n 2, 1) := gz_d tdX7_throwsOf_t0_ok 9 rfl
theorem dX7_throwsOf_18 : decode cX7_throwsOf 18 = .ok (.invokevirtual 88, 3) := gz_d tdX7_throwsOf_t0_ok 10 rfl
theorem dX7_throwsOf_21 : decode cX7_throwsOf 21 = .ok (.goto 5, 3) := gz_d tdX7_throwsOf_t0_ok 11 rfl
theorem dX7_throwsOf_24 : decode cX7_throwsOf 24 = .ok (.bipush (-2), 2) := gz_d tdX7_throwsOf_t0_ok 12 rfl
theorem dX7_throwsOf_26 : decode cX7_throwsOf 26 = .ok (.ireturn, 1) := gz_d tdX7_throwsOf_t0_ok 13 rfl
def tdX7_holds_t0 : List (Nat × Instr × Nat) := [(0, .aload_n 0, 1), (1, .iconst 0, 1), (2, .iload_n 1, 1), (3, .invokevirtual 77, 3), (6, .ifCond .eq 20, 3), (9, .aload_n 0, 1), (10, .iconst 1, 1), (11, .iload_n 2, 1), (12, .invokevirtual 77, 3), (15, .ifCond .eq 11, 3), (18, .aload_n 0, 1), (19, .iload_n 3, 1), (20, .invokevirtual 92, 3), (23, .ifCond .ne 6, 3), (26, .bipush (-2), 2), (28, .ireturn, 1), (29, .aload_n 0, 1), (30, .getfield 12, 3), (33, .iload_n 1, 1), (34, .iload_n 2, 1), (35, .iload_n 3, 1), (36, .invokevirtual 95, 3), (39, .ifCond .eq 7, 3), (42, .iconst 1, 1), (43, .goto 4, 3), (46, .iconst 0, 1), (47, .ireturn, 1)]
theorem tdX7_holds_t0_ok : gz_dec cX7_holds tdX7_holds_t0 = true := by decide +kernel
theorem dX7_holds_0 : decode cX7_holds 0 = .ok (.aload_n 0, 1) := gz_d tdX7_holds_t0_ok 0 rfl
theorem dX7_holds_1 : decode cX7_holds 1 = .ok (.iconst 0, 1) := gz_d tdX7_holds_t0_ok 1 rfl
theorem dX7_holds_2 : decode cX7_holds 2 = .ok (.iload_n 1, 1) := gz_d tdX7_holds_t0_ok 2 rfl
theorem dX7_holds_3 : decode cX7_holds 3 = .ok (.invokevirtual 77, 3) := gz_d tdX7_holds_t0_ok 3 rfl
theorem dX7_holds_6 : decode cX7_holds 6 = .ok (.ifCond .eq 20, 3) := gz_d tdX7_holds_t0_ok 4 rfl
theorem dX7_holds_9 : decode cX7_holds 9 = .ok (.aload_n 0, 1) := gz_d tdX7_holds_t0_ok 5 rfl
theorem dX7_holds_10 : decode cX7_holds 10 = .ok (.iconst 1, 1) := gz_d tdX7_holds_t0_ok 6 rfl
theorem dX7_holds_11 : decode cX7_holds 11 = .ok (.iload_n 2, 1) := gz_d tdX7_holds_t0_ok 7 rfl
theorem dX7_holds_12 : decode cX7_holds 12 = .ok (.invokevirtual 77, 3) := gz_d tdX7_holds_t0_ok 8 rfl
theorem dX7_holds_15 : decode cX7_holds 15 = .ok (.ifCond .eq 11, 3) := gz_d tdX7_holds_t0_ok 9 rfl
theorem dX7_holds_18 : decode cX7_holds 18 = .ok (.aload_n 0, 1) := gz_d tdX7_holds_t0_ok 10 rfl
theorem dX7_holds_19 : decode cX7_holds 19 = .ok (.iload_n 3, 1) := gz_d tdX7_holds_t0_ok 11 rfl
theorem dX7_holds_20 : decode cX7_holds 20 = .ok (.invokevirtual 92, 3) := gz_d tdX7_holds_t0_ok 12 rfl
theorem dX7_holds_23 : decode cX7_holds 23 = .ok (.ifCond .ne 6, 3) := gz_d tdX7_holds_t0_ok 13 rfl
theorem dX7_holds_26 : decode cX7_holds 26 = .ok (.bipush (-2), 2) := gz_d tdX7_holds_t0_ok 14 rfl
theorem dX7_holds_28 : decode cX7_holds 28 = .ok (.ireturn, 1) := gz_d tdX7_holds_t0_ok 15 rfl
theorem dX7_holds_29 : decode cX7_holds 29 = .ok (.aload_n 0, 1) := gz_d tdX7_holds_t0_ok 16 rfl
theorem dX7_holds_30 : decode cX7_holds 30 = .ok (.getfield 12, 3) := gz_d tdX7_holds_t0_ok 17 rfl
theorem dX7_holds_33 : decode cX7_holds 33 = .ok (.iload_n 1, 1) := gz_d tdX7_holds_t0_ok 18 rfl
theorem dX7_holds_34 : decode cX7_holds 34 = .ok (.iload_n 2, 1) := gz_d tdX7_holds_t0_ok 19 rfl
theorem dX7_holds_35 : decode cX7_holds 35 = .ok (.iload_n 3, 1) := gz_d tdX7_holds_t0_ok 20 rfl
theorem dX7_holds_36 : decode cX7_holds 36 = .ok (.invokevirtual 95, 3) := gz_d tdX7_holds_t0_ok 21 rfl
theorem dX7_holds_39 : decode cX7_holds 39 = .ok (.ifCond .eq 7, 3) := gz_d tdX7_holds_t0_ok 22 rfl
theorem dX7_holds_42 : decode cX7_holds 42 = .ok (.iconst 1, 1) := gz_d tdX7_holds_t0_ok 23 rfl
theorem dX7_holds_43 : decode cX7_holds 43 = .ok (.goto 4, 3) := gz_d tdX7_holds_t0_ok 24 rfl
theorem dX7_holds_46 : decode cX7_holds 46 = .ok (.iconst 0, 1) := gz_d tdX7_holds_t0_ok 25 rfl
theorem dX7_holds_47 : decode cX7_holds 47 = .ok (.ireturn, 1) := gz_d tdX7_holds_t0_ok 26 rfl
def tdX7_chance_t0 : List (Nat × Instr × Nat) := [(0, .aload_n 0, 1), (1, .iload_n 1, 1), (2, .iload_n 2, 1), (3, .invokevirtual 77, 3), (6, .ifCond .eq 21, 3), (9, .aload_n 0, 1), (10, .iload_n 3, 1), (11, .invokevirtual 92, 3), (14, .ifCond .eq 13, 3), (17, .iload 4, 2), (19, .iconst 0, 1), (20, .iconst 1, 1), (21, .invokestatic 50, 3), (24, .ifCond .ne 6, 3), (27, .bipush (-2), 2), (29, .ireturn, 1), (30, .aload_n 0, 1), (31, .getfield 12, 3), (34, .iload_n 1, 1), (35, .iload_n 2, 1), (36, .iload_n 3, 1), (37, .invokevirtual 98, 3), (40, .istore 5, 2), (42, .aload_n 0, 1), (43, .getfield 12, 3), (46, .iconst 1, 1), (47, .iload_n 1, 1), (48, .isub, 1), (49, .invokevirtual 68, 3), (52, .invokevirtual 102, 3), (55, .istore 6, 2), (57, .iload 5, 2), (59, .iload 6, 2), (61, .invokestatic 106, 3), (64, .istore 7, 2), (66, .iload 4, 2), (68, .ifCond .ne 8, 3), (71, .iload 5, 2), (73, .goto 5, 3), (76, .iload 6, 2), (78, .iload 7, 2), (80, .invokestatic 109, 3), (83, .ireturn, 1)]
theorem tdX7_chance_t0_ok : gz_dec cX7_chance tdX7_chance_t0 = true := by decide +kernel
theorem dX7_chance_0 : decode cX7_chance 0 = .ok (.aload_n 0, 1) := gz_d tdX7_chance_t0_ok 0 rfl
theorem dX7_chance_1 : decode cX7_chance 1 = .ok (.iload_n 1, 1) := gz_d tdX7_chance_t0_ok 1 rfl
theorem dX7_chance_2 : decode cX7_chance 2 = .ok (.iload_n 2, 1) := gz_d tdX7_chance_t0_ok 2 rfl
theorem dX7_chance_3 : decode cX7_chance 3 = .ok (.invokevirtual 77, 3) := gz_d tdX7_chance_t0_ok 3 rfl
theorem dX7_chance_6 : decode cX7_chance 6 = .ok (.ifCond .eq 21, 3) := gz_d tdX7_chance_t0_ok 4 rfl
theorem dX7_chance_9 : decode cX7_chance 9 = .ok (.aload_n 0, 1) := gz_d tdX7_chance_t0_ok 5 rfl
theorem dX7_chance_10 : decode cX7_chance 10 = .ok (.iload_n 3, 1) := gz_d tdX7_chance_t0_ok 6 rfl
theorem dX7_chance_11 : decode cX7_chance 11 = .ok (.invokevirtual 92, 3) := gz_d tdX7_chance_t0_ok 7 rfl
theorem dX7_chance_14 : decode cX7_chance 14 = .ok (.ifCond .eq 13, 3) := gz_d tdX7_chance_t0_ok 8 rfl
theorem dX7_chance_17 : decode cX7_chance 17 = .ok (.iload 4, 2) := gz_d tdX7_chance_t0_ok 9 rfl
theorem dX7_chance_19 : decode cX7_chance 19 = .ok (.iconst 0, 1) := gz_d tdX7_chance_t0_ok 10 rfl
theorem dX7_chance_20 : decode cX7_chance 20 = .ok (.iconst 1, 1) := gz_d tdX7_chance_t0_ok 11 rfl
theorem dX7_chance_21 : decode cX7_chance 21 = .ok (.invokestatic 50, 3) := gz_d tdX7_chance_t0_ok 12 rfl
theorem dX7_chance_24 : decode cX7_chance 24 = .ok (.ifCond .ne 6, 3) := gz_d tdX7_chance_t0_ok 13 rfl
theorem dX7_chance_27 : decode cX7_chance 27 = .ok (.bipush (-2), 2) := gz_d tdX7_chance_t0_ok 14 rfl
theorem dX7_chance_29 : decode cX7_chance 29 = .ok (.ireturn, 1) := gz_d tdX7_chance_t0_ok 15 rfl
theorem dX7_chance_30 : decode cX7_chance 30 = .ok (.aload_n 0, 1) := gz_d tdX7_chance_t0_ok 16 rfl
theorem dX7_chance_31 : decode cX7_chance 31 = .ok (.getfield 12, 3) := gz_d tdX7_chance_t0_ok 17 rfl
theorem dX7_chance_34 : decode cX7_chance 34 = .ok (.iload_n 1, 1) := gz_d tdX7_chance_t0_ok 18 rfl
theorem dX7_chance_35 : decode cX7_chance 35 = .ok (.iload_n 2, 1) := gz_d tdX7_chance_t0_ok 19 rfl
theorem dX7_chance_36 : decode cX7_chance 36 = .ok (.iload_n 3, 1) := gz_d tdX7_chance_t0_ok 20 rfl
theorem dX7_chance_37 : decode cX7_chance 37 = .ok (.invokevirtual 98, 3) := gz_d tdX7_chance_t0_ok 21 rfl
theorem dX7_chance_40 : decode cX7_chance 40 = .ok (.istore 5, 2) := gz_d tdX7_chance_t0_ok 22 rfl
theorem dX7_chance_42 : decode cX7_chance 42 = .ok (.aload_n 0, 1) := gz_d tdX7_chance_t0_ok 23 rfl
theorem dX7_chance_43 : decode cX7_chance 43 = .ok (.getfield 12, 3) := gz_d tdX7_chance_t0_ok 24 rfl
theorem dX7_chance_46 : decode cX7_chance 46 = .ok (.iconst 1, 1) := gz_d tdX7_chance_t0_ok 25 rfl
theorem dX7_chance_47 : decode cX7_chance 47 = .ok (.iload_n 1, 1) := gz_d tdX7_chance_t0_ok 26 rfl
theorem dX7_chance_48 : decode cX7_chance 48 = .ok (.isub, 1) := gz_d tdX7_chance_t0_ok 27 rfl
theorem dX7_chance_49 : decode cX7_chance 49 = .ok (.invokevirtual 68, 3) := gz_d tdX7_chance_t0_ok 28 rfl
theorem dX7_chance_52 : decode cX7_chance 52 = .ok (.invokevirtual 102, 3) := gz_d tdX7_chance_t0_ok 29 rfl
theorem dX7_chance_55 : decode cX7_chance 55 = .ok (.istore 6, 2) := gz_d tdX7_chance_t0_ok 30 rfl
theorem dX7_chance_57 : decode cX7_chance 57 = .ok (.iload 5, 2) := gz_d tdX7_chance_t0_ok 31 rfl
theorem dX7_chance_59 : decode cX7_chance 59 = .ok (.iload 6, 2) := gz_d tdX7_chance_t0_ok 32 rfl
theorem dX7_chance_61 : decode cX7_chance 61 = .ok (.invokestatic 106, 3) := gz_d tdX7_chance_t0_ok 33 rfl
theorem dX7_chance_64 : decode cX7_chance 64 = .ok (.istore 7, 2) := gz_d tdX7_chance_t0_ok 34 rfl
theorem dX7_chance_66 : decode cX7_chance 66 = .ok (.iload 4, 2) := gz_d tdX7_chance_t0_ok 35 rfl
theorem dX7_chance_68 : decode cX7_chance 68 = .ok (.ifCond .ne 8, 3) := gz_d tdX7_chance_t0_ok 36 rfl
theorem dX7_chance_71 : decode cX7_chance 71 = .ok (.iload 5, 2) := gz_d tdX7_chance_t0_ok 37 rfl
theorem dX7_chance_73 : decode cX7_chance 73 = .ok (.goto 5, 3) := gz_d tdX7_chance_t0_ok 38 rfl
theorem dX7_chance_76 : decode cX7_chance 76 = .ok (.iload 6, 2) := gz_d tdX7_chance_t0_ok 39 rfl
theorem dX7_chance_78 : decode cX7_chance 78 = .ok (.iload 7, 2) := gz_d tdX7_chance_t0_ok 40 rfl
theorem dX7_chance_80 : decode cX7_chance 80 = .ok (.invokestatic 109, 3) := gz_d tdX7_chance_t0_ok 41 rfl
theorem dX7_chance_83 : decode cX7_chance 83 = .ok (.ireturn, 1) := gz_d tdX7_chance_t0_ok 42 rfl
def tdX7_surest_t0 : List (Nat × Instr × Nat) := [(0, .aload_n 0, 1), (1, .iload_n 1, 1), (2, .iload_n 2, 1), (3, .invokevirtual 77, 3), (6, .ifCond .eq 24, 3), (9, .iload_n 3, 1), (10, .iconst 1, 1), (11, .bipush 100, 2), (13, .invokestatic 50, 3), (16, .ifCond .eq 14, 3), (19, .iload 4, 2), (21, .iconst 1, 1), (22, .bipush 100, 2), (24, .invokestatic 50, 3), (27, .ifCond .ne 6, 3), (30, .bipush (-2), 2), (32, .ireturn, 1), (33, .aload_n 0, 1), (34, .getfield 12, 3), (37, .iconst 1, 1), (38, .iload_n 1, 1), (39, .isub, 1), (40, .invokevirtual 68, 3), (43, .invokevirtual 102, 3), (46, .istore 5, 2), (48, .aload_n 0, 1), (49, .getfield 12, 3), (52, .getfield 60, 3), (55, .iconst 1, 1), (56, .isub, 1), (57, .istore 6, 2), (59, .iload 6, 2), (61, .ifCond .lt 33, 3), (64, .aload_n 0, 1), (65, .getfield 12, 3), (68, .iload_n 1, 1), (69, .iload_n 2, 1), (70, .iload 6, 2), (72, .invokevirtual 98, 3), (75, .iload 4, 2), (77, .imul, 1), (78, .iload_n 3, 1), (79, .iload 5, 2), (81, .imul, 1), (82, .if_icmp .lt 6, 3), (85, .iload 6, 2), (87, .ireturn, 1), (88, .iinc 6 (-1), 3), (91, .goto (-32), 3), (94, .iconst (-1), 1), (95, .ireturn, 1)]
theorem tdX7_surest_t0_ok : gz_dec cX7_surest tdX7_surest_t0 = true := by decide +kernel
theorem dX7_surest_0 : decode cX7_surest 0 = .ok (.aload_n 0, 1) := gz_d tdX7_surest_t0_ok 0 rfl
theorem dX7_surest_1 : decode cX7_surest 1 = .ok (.iload_n 1, 1) := gz_d tdX7_surest_t0_ok 1 rfl
theorem dX7_surest_2 : decode cX7_surest 2 = .ok (.iload_n 2, 1) := gz_d tdX7_surest_t0_ok 2 rfl
theorem dX7_surest_3 : decode cX7_surest 3 = .ok (.invokevirtual 77, 3) := gz_d tdX7_surest_t0_ok 3 rfl
theorem dX7_surest_6 : decode cX7_surest 6 = .ok (.ifCond .eq 24, 3) := gz_d tdX7_surest_t0_ok 4 rfl
theorem dX7_surest_9 : decode cX7_surest 9 = .ok (.iload_n 3, 1) := gz_d tdX7_surest_t0_ok 5 rfl
theorem dX7_surest_10 : decode cX7_surest 10 = .ok (.iconst 1, 1) := gz_d tdX7_surest_t0_ok 6 rfl
theorem dX7_surest_11 : decode cX7_surest 11 = .ok (.bipush 100, 2) := gz_d tdX7_surest_t0_ok 7 rfl
theorem dX7_surest_13 : decode cX7_surest 13 = .ok (.invokestatic 50, 3) := gz_d tdX7_surest_t0_ok 8 rfl
theorem dX7_surest_16 : decode cX7_surest 16 = .ok (.ifCond .eq 14, 3) := gz_d tdX7_surest_t0_ok 9 rfl
theorem dX7_surest_19 : decode cX7_surest 19 = .ok (.iload 4, 2) := gz_d tdX7_surest_t0_ok 10 rfl
theorem dX7_surest_21 : decode cX7_surest 21 = .ok (.iconst 1, 1) := gz_d tdX7_surest_t0_ok 11 rfl
theorem dX7_surest_22 : decode cX7_surest 22 = .ok (.bipush 100, 2) := gz_d tdX7_surest_t0_ok 12 rfl
theorem dX7_surest_24 : decode cX7_surest 24 = .ok (.invokestatic 50, 3) := gz_d tdX7_surest_t0_ok 13 rfl
theorem dX7_surest_27 : decode cX7_surest 27 = .ok (.ifCond .ne 6, 3) := gz_d tdX7_surest_t0_ok 14 rfl
theorem dX7_surest_30 : decode cX7_surest 30 = .ok (.bipush (-2), 2) := gz_d tdX7_surest_t0_ok 15 rfl
theorem dX7_surest_32 : decode cX7_surest 32 = .ok (.ireturn, 1) := gz_d tdX7_surest_t0_ok 16 rfl
theorem dX7_surest_33 : decode cX7_surest 33 = .ok (.aload_n 0, 1) := gz_d tdX7_surest_t0_ok 17 rfl
theorem dX7_surest_34 : decode cX7_surest 34 = .ok (.getfield 12, 3) := gz_d tdX7_surest_t0_ok 18 rfl
theorem dX7_surest_37 : decode cX7_surest 37 = .ok (.iconst 1, 1) := gz_d tdX7_surest_t0_ok 19 rfl
theorem dX7_surest_38 : decode cX7_surest 38 = .ok (.iload_n 1, 1) := gz_d tdX7_surest_t0_ok 20 rfl
theorem dX7_surest_39 : decode cX7_surest 39 = .ok (.isub, 1) := gz_d tdX7_surest_t0_ok 21 rfl
theorem dX7_surest_40 : decode cX7_surest 40 = .ok (.invokevirtual 68, 3) := gz_d tdX7_surest_t0_ok 22 rfl
theorem dX7_surest_43 : decode cX7_surest 43 = .ok (.invokevirtual 102, 3) := gz_d tdX7_surest_t0_ok 23 rfl
theorem dX7_surest_46 : decode cX7_surest 46 = .ok (.istore 5, 2) := gz_d tdX7_surest_t0_ok 24 rfl
theorem dX7_surest_48 : decode cX7_surest 48 = .ok (.aload_n 0, 1) := gz_d tdX7_surest_t0_ok 25 rfl
theorem dX7_surest_49 : decode cX7_surest 49 = .ok (.getfield 12, 3) := gz_d tdX7_surest_t0_ok 26 rfl
theorem dX7_surest_52 : decode cX7_surest 52 = .ok (.getfield 60, 3) := gz_d tdX7_surest_t0_ok 27 rfl
theorem dX7_surest_55 : decode cX7_surest 55 = .ok (.iconst 1, 1) := gz_d tdX7_surest_t0_ok 28 rfl
theorem dX7_surest_56 : decode cX7_surest 56 = .ok (.isub, 1) := gz_d tdX7_surest_t0_ok 29 rfl
theorem dX7_surest_57 : decode cX7_surest 57 = .ok (.istore 6, 2) := gz_d tdX7_surest_t0_ok 30 rfl
theorem dX7_surest_59 : decode cX7_surest 59 = .ok (.iload 6, 2) := gz_d tdX7_surest_t0_ok 31 rfl
theorem dX7_surest_61 : decode cX7_surest 61 = .ok (.ifCond .lt 33, 3) := gz_d tdX7_surest_t0_ok 32 rfl
theorem dX7_surest_64 : decode cX7_surest 64 = .ok (.aload_n 0, 1) := gz_d tdX7_surest_t0_ok 33 rfl
theorem dX7_surest_65 : decode cX7_surest 65 = .ok (.getfield 12, 3) := gz_d tdX7_surest_t0_ok 34 rfl
theorem dX7_surest_68 : decode cX7_surest 68 = .ok (.iload_n 1, 1) := gz_d tdX7_surest_t0_ok 35 rfl
theorem dX7_surest_69 : decode cX7_surest 69 = .ok (.iload_n 2, 1) := gz_d tdX7_surest_t0_ok 36 rfl
theorem dX7_surest_70 : decode cX7_surest 70 = .ok (.iload 6, 2) := gz_d tdX7_surest_t0_ok 37 rfl
theorem dX7_surest_72 : decode cX7_surest 72 = .ok (.invokevirtual 98, 3) := gz_d tdX7_surest_t0_ok 38 rfl
theorem dX7_surest_75 : decode cX7_surest 75 = .ok (.iload 4, 2) := gz_d tdX7_surest_t0_ok 39 rfl
theorem dX7_surest_77 : decode cX7_surest 77 = .ok (.imul, 1) := gz_d tdX7_surest_t0_ok 40 rfl
theorem dX7_surest_78 : decode cX7_surest 78 = .ok (.iload_n 3, 1) := gz_d tdX7_surest_t0_ok 41 rfl
theorem dX7_surest_79 : decode cX7_surest 79 = .ok (.iload 5, 2) := gz_d tdX7_surest_t0_ok 42 rfl
theorem dX7_surest_81 : decode cX7_surest 81 = .ok (.imul, 1) := gz_d tdX7_surest_t0_ok 43 rfl
theorem dX7_surest_82 : decode cX7_surest 82 = .ok (.if_icmp .lt 6, 3) := gz_d tdX7_surest_t0_ok 44 rfl
theorem dX7_surest_85 : decode cX7_surest 85 = .ok (.iload 6, 2) := gz_d tdX7_surest_t0_ok 45 rfl
theorem dX7_surest_87 : decode cX7_surest 87 = .ok (.ireturn, 1) := gz_d tdX7_surest_t0_ok 46 rfl
theorem dX7_surest_88 : decode cX7_surest 88 = .ok (.iinc 6 (-1), 3) := gz_d tdX7_surest_t0_ok 47 rfl
theorem dX7_surest_91 : decode cX7_surest 91 = .ok (.goto (-32), 3) := gz_d tdX7_surest_t0_ok 48 rfl
theorem dX7_surest_94 : decode cX7_surest 94 = .ok (.iconst (-1), 1) := gz_d tdX7_surest_t0_ok 49 rfl
theorem dX7_surest_95 : decode cX7_surest 95 = .ok (.ireturn, 1) := gz_d tdX7_surest_t0_ok 50 rfl
def tdX7_weigh_t0 : List (Nat × Instr × Nat) := [(0, .iload_n 1, 1), (1, .invokestatic 112, 3), (4, .ifCond .eq 21, 3), (7, .aload_n 0, 1), (8, .iload_n 2, 1), (9, .iload_n 3, 1), (10, .invokevirtual 77, 3), (13, .ifCond .eq 12, 3), (16, .aload_n 0, 1), (17, .iload 4, 2), (19, .invokevirtual 115, 3), (22, .ifCond .ne 6, 3), (25, .bipush (-2), 2), (27, .ireturn, 1), (28, .aload_n 0, 1), (29, .iload 5, 2), (31, .invokevirtual 115, 3), (34, .ifCond .eq 24, 3), (37, .iload 4, 2), (39, .iload 5, 2), (41, .invokestatic 118, 3), (44, .ifCond .eq 14, 3), (47, .iload 6, 2), (49, .iconst 0, 1), (50, .bipush 20, 2), (52, .invokestatic 50, 3), (55, .ifCond .ne 6, 3), (58, .bipush (-2), 2), (60, .ireturn, 1), (61, .aload_n 0, 1), (62, .getfield 19, 3), (65, .aload_n 0, 1), (66, .getfield 19, 3), (69, .iload_n 1, 1), (70, .aload_n 0, 1), (71, .getfield 12, 3), (74, .iload_n 2, 1), (75, .invokevirtual 68, 3), (78, .getfield 121, 3), (81, .iload_n 3, 1), (82, .iload 4, 2), (84, .iload 5, 2), (86, .invokevirtual 124, 3), (89, .iload 6, 2), (91, .invokevirtual 128, 3), (94, .ireturn, 1)]
theorem tdX7_weigh_t0_ok : gz_dec cX7_weigh tdX7_weigh_t0 = true := by decide +kernel
theorem dX7_weigh_0 : decode cX7_weigh 0 = .ok (.iload_n 1, 1) := gz_d tdX7_weigh_t0_ok 0 rfl
theorem dX7_weigh_1 : decode cX7_weigh 1 = .ok (.invokestatic 112, 3) := gz_d tdX7_weigh_t0_ok 1 rfl
theorem dX7_weigh_4 : decode cX7_weigh 4 = .ok (.ifCond .eq 21, 3) := gz_d tdX7_weigh_t0_ok 2 rfl
theorem dX7_weigh_7 : decode cX7_weigh 7 = .ok (.aload_n 0, 1) := gz_d tdX7_weigh_t0_ok 3 rfl
theorem dX7_weigh_8 : decode cX7_weigh 8 = .ok (.iload_n 2, 1) := gz_d tdX7_weigh_t0_ok 4 rfl
theorem dX7_weigh_9 : decode cX7_weigh 9 = .ok (.iload_n 3, 1) := gz_d tdX7_weigh_t0_ok 5 rfl
theorem dX7_weigh_10 : decode cX7_weigh 10 = .ok (.invokevirtual 77, 3) := gz_d tdX7_weigh_t0_ok 6 rfl
theorem dX7_weigh_13 : decode cX7_weigh 13 = .ok (.ifCond .eq 12, 3) := gz_d tdX7_weigh_t0_ok 7 rfl
theorem dX7_weigh_16 : decode cX7_weigh 16 = .ok (.aload_n 0, 1) := gz_d tdX7_weigh_t0_ok 8 rfl
theorem dX7_weigh_17 : decode cX7_weigh 17 = .ok (.iload 4, 2) := gz_d tdX7_weigh_t0_ok 9 rfl
theorem dX7_weigh_19 : decode cX7_weigh 19 = .ok (.invokevirtual 115, 3) := gz_d tdX7_weigh_t0_ok 10 rfl
theorem dX7_weigh_22 : decode cX7_weigh 22 = .ok (.ifCond .ne 6, 3) := gz_d tdX7_weigh_t0_ok 11 rfl
theorem dX7_weigh_25 : decode cX7_weigh 25 = .ok (.bipush (-2), 2) := gz_d tdX7_weigh_t0_ok 12 rfl
theorem dX7_weigh_27 : decode cX7_weigh 27 = .ok (.ireturn, 1) := gz_d tdX7_weigh_t0_ok 13 rfl
theorem dX7_weigh_28 : decode cX7_weigh 28 = .ok (.aload_n 0, 1) := gz_d tdX7_weigh_t0_ok 14 rfl
theorem dX7_weigh_29 : decode cX7_weigh 29 = .ok (.iload 5, 2) := gz_d tdX7_weigh_t0_ok 15 rfl
theorem dX7_weigh_31 : decode cX7_weigh 31 = .ok (.invokevirtual 115, 3) := gz_d tdX7_weigh_t0_ok 16 rfl
theorem dX7_weigh_34 : decode cX7_weigh 34 = .ok (.ifCond .eq 24, 3) := gz_d tdX7_weigh_t0_ok 17 rfl
theorem dX7_weigh_37 : decode cX7_weigh 37 = .ok (.iload 4, 2) := gz_d tdX7_weigh_t0_ok 18 rfl
theorem dX7_weigh_39 : decode cX7_weigh 39 = .ok (.iload 5, 2) := gz_d tdX7_weigh_t0_ok 19 rfl
theorem dX7_weigh_41 : decode cX7_weigh 41 = .ok (.invokestatic 118, 3) := gz_d tdX7_weigh_t0_ok 20 rfl
theorem dX7_weigh_44 : decode cX7_weigh 44 = .ok (.ifCond .eq 14, 3) := gz_d tdX7_weigh_t0_ok 21 rfl
theorem dX7_weigh_47 : decode cX7_weigh 47 = .ok (.iload 6, 2) := gz_d tdX7_weigh_t0_ok 22 rfl
theorem dX7_weigh_49 : decode cX7_weigh 49 = .ok (.iconst 0, 1) := gz_d tdX7_weigh_t0_ok 23 rfl
theorem dX7_weigh_50 : decode cX7_weigh 50 = .ok (.bipush 20, 2) := gz_d tdX7_weigh_t0_ok 24 rfl
theorem dX7_weigh_52 : decode cX7_weigh 52 = .ok (.invokestatic 50, 3) := gz_d tdX7_weigh_t0_ok 25 rfl
theorem dX7_weigh_55 : decode cX7_weigh 55 = .ok (.ifCond .ne 6, 3) := gz_d tdX7_weigh_t0_ok 26 rfl
theorem dX7_weigh_58 : decode cX7_weigh 58 = .ok (.bipush (-2), 2) := gz_d tdX7_weigh_t0_ok 27 rfl
theorem dX7_weigh_60 : decode cX7_weigh 60 = .ok (.ireturn, 1) := gz_d tdX7_weigh_t0_ok 28 rfl
theorem dX7_weigh_61 : decode cX7_weigh 61 = .ok (.aload_n 0, 1) := gz_d tdX7_weigh_t0_ok 29 rfl
theorem dX7_weigh_62 : decode cX7_weigh 62 = .ok (.getfield 19, 3) := gz_d tdX7_weigh_t0_ok 30 rfl
theorem dX7_weigh_65 : decode cX7_weigh 65 = .ok (.aload_n 0, 1) := gz_d tdX7_weigh_t0_ok 31 rfl
theorem dX7_weigh_66 : decode cX7_weigh 66 = .ok (.getfield 19, 3) := gz_d tdX7_weigh_t0_ok 32 rfl
theorem dX7_weigh_69 : decode cX7_weigh 69 = .ok (.iload_n 1, 1) := gz_d tdX7_weigh_t0_ok 33 rfl
theorem dX7_weigh_70 : decode cX7_weigh 70 = .ok (.aload_n 0, 1) := gz_d tdX7_weigh_t0_ok 34 rfl
theorem dX7_weigh_71 : decode cX7_weigh 71 = .ok (.getfield 12, 3) := gz_d tdX7_weigh_t0_ok 35 rfl
theorem dX7_weigh_74 : decode cX7_weigh 74 = .ok (.iload_n 2, 1) := gz_d tdX7_weigh_t0_ok 36 rfl
theorem dX7_weigh_75 : decode cX7_weigh 75 = .ok (.invokevirtual 68, 3) := gz_d tdX7_weigh_t0_ok 37 rfl
theorem dX7_weigh_78 : decode cX7_weigh 78 = .ok (.getfield 121, 3) := gz_d tdX7_weigh_t0_ok 38 rfl
theorem dX7_weigh_81 : decode cX7_weigh 81 = .ok (.iload_n 3, 1) := gz_d tdX7_weigh_t0_ok 39 rfl
theorem dX7_weigh_82 : decode cX7_weigh 82 = .ok (.iload 4, 2) := gz_d tdX7_weigh_t0_ok 40 rfl
theorem dX7_weigh_84 : decode cX7_weigh 84 = .ok (.iload 5, 2) := gz_d tdX7_weigh_t0_ok 41 rfl
theorem dX7_weigh_86 : decode cX7_weigh 86 = .ok (.invokevirtual 124, 3) := gz_d tdX7_weigh_t0_ok 42 rfl
theorem dX7_weigh_89 : decode cX7_weigh 89 = .ok (.iload 6, 2) := gz_d tdX7_weigh_t0_ok 43 rfl
theorem dX7_weigh_91 : decode cX7_weigh 91 = .ok (.invokevirtual 128, 3) := gz_d tdX7_weigh_t0_ok 44 rfl
theorem dX7_weigh_94 : decode cX7_weigh 94 = .ok (.ireturn, 1) := gz_d tdX7_weigh_t0_ok 45 rfl
def tdX7_worth_t0 : List (Nat × Instr × Nat) := [(0, .iload_n 1, 1), (1, .invokestatic 112, 3), (4, .ifCond .eq 10, 3), (7, .iload_n 2, 1), (8, .invokestatic 112, 3), (11, .ifCond .ne 7, 3), (14, .ldc2_w 131, 3), (17, .lreturn, 1), (18, .aload_n 0, 1), (19, .getfield 28, 3), (22, .aload_n 0, 1), (23, .getfield 19, 3), (26, .iload_n 1, 1), (27, .iload_n 2, 1), (28, .invokevirtual 133, 3), (31, .invokestatic 137, 3), (34, .lreturn, 1)]
theorem tdX7_worth_t0_ok : gz_dec cX7_worth tdX7_worth_t0 = true := by decide +kernel
theorem dX7_worth_0 : decode cX7_worth 0 = .ok (.iload_n 1, 1) := gz_d tdX7_worth_t0_ok 0 rfl
theorem dX7_worth_1 : decode cX7_worth 1 = .ok (.invokestatic 112, 3) := gz_d tdX7_worth_t0_ok 1 rfl
theorem dX7_worth_4 : decode cX7_worth 4 = .ok (.ifCond .eq 10, 3) := gz_d tdX7_worth_t0_ok 2 rfl
theorem dX7_worth_7 : decode cX7_worth 7 = .ok (.iload_n 2, 1) := gz_d tdX7_worth_t0_ok 3 rfl
theorem dX7_worth_8 : decode cX7_worth 8 = .ok (.invokestatic 112, 3) := gz_d tdX7_worth_t0_ok 4 rfl
theorem dX7_worth_11 : decode cX7_worth 11 = .ok (.ifCond .ne 7, 3) := gz_d tdX7_worth_t0_ok 5 rfl
theorem dX7_worth_14 : decode cX7_worth 14 = .ok (.ldc2_w 131, 3) := gz_d tdX7_worth_t0_ok 6 rfl
theorem dX7_worth_17 : decode cX7_worth 17 = .ok (.lreturn, 1) := gz_d tdX7_worth_t0_ok 7 rfl
theorem dX7_worth_18 : decode cX7_worth 18 = .ok (.aload_n 0, 1) := gz_d tdX7_worth_t0_ok 8 rfl
theorem dX7_worth_19 : decode cX7_worth 19 = .ok (.getfield 28, 3) := gz_d tdX7_worth_t0_ok 9 rfl
theorem dX7_worth_22 : decode cX7_worth 22 = .ok (.aload_n 0, 1) := gz_d tdX7_worth_t0_ok 10 rfl
theorem dX7_worth_23 : decode cX7_worth 23 = .ok (.getfield 19, 3) := gz_d tdX7_worth_t0_ok 11 rfl
theorem dX7_worth_26 : decode cX7_worth 26 = .ok (.iload_n 1, 1) := gz_d tdX7_worth_t0_ok 12 rfl
theorem dX7_worth_27 : decode cX7_worth 27 = .ok (.iload_n 2, 1) := gz_d tdX7_worth_t0_ok 13 rfl
theorem dX7_worth_28 : decode cX7_worth 28 = .ok (.invokevirtual 133, 3) := gz_d tdX7_worth_t0_ok 14 rfl
theorem dX7_worth_31 : decode cX7_worth 31 = .ok (.invokestatic 137, 3) := gz_d tdX7_worth_t0_ok 15 rfl
theorem dX7_worth_34 : decode cX7_worth 34 = .ok (.lreturn, 1) := gz_d tdX7_worth_t0_ok 16 rfl
def tdX7_answer_t0 : List (Nat × Instr × Nat) := [(0, .iload_n 1, 1), (1, .invokestatic 64, 3), (4, .ifCond .eq 10, 3), (7, .iload_n 2, 1), (8, .invokestatic 112, 3), (11, .ifCond .ne 7, 3), (14, .ldc2_w 131, 3), (17, .lreturn, 1), (18, .aload_n 0, 1), (19, .getfield 35, 3), (22, .aload_n 0, 1), (23, .getfield 19, 3), (26, .iload_n 2, 1), (27, .iload_n 1, 1), (28, .invokevirtual 141, 3), (31, .aload_n 0, 1), (32, .getfield 35, 3), (35, .invokevirtual 145, 3), (38, .invokestatic 137, 3), (41, .lreturn, 1)]
theorem tdX7_answer_t0_ok : gz_dec cX7_answer tdX7_answer_t0 = true := by decide +kernel
theorem dX7_answer_0 : decode cX7_answer 0 = .ok (.iload_n 1, 1) := gz_d tdX7_answer_t0_ok 0 rfl
theorem dX7_answer_1 : decode cX7_answer 1 = .ok (.invokestatic 64, 3) := gz_d tdX7_answer_t0_ok 1 rfl
theorem dX7_answer_4 : decode cX7_answer 4 = .ok (.ifCond .eq 10, 3) := gz_d tdX7_answer_t0_ok 2 rfl
theorem dX7_answer_7 : decode cX7_answer 7 = .ok (.iload_n 2, 1) := gz_d tdX7_answer_t0_ok 3 rfl
theorem dX7_answer_8 : decode cX7_answer 8 = .ok (.invokestatic 112, 3) := gz_d tdX7_answer_t0_ok 4 rfl
theorem dX7_answer_11 : decode cX7_answer 11 = .ok (.ifCond .ne 7, 3) := gz_d tdX7_answer_t0_ok 5 rfl
theorem dX7_answer_14 : decode cX7_answer 14 = .ok (.ldc2_w 131, 3) := gz_d tdX7_answer_t0_ok 6 rfl
theorem dX7_answer_17 : decode cX7_answer 17 = .ok (.lreturn, 1) := gz_d tdX7_answer_t0_ok 7 rfl
theorem dX7_answer_18 : decode cX7_answer 18 = .ok (.aload_n 0, 1) := gz_d tdX7_answer_t0_ok 8 rfl
theorem dX7_answer_19 : decode cX7_answer 19 = .ok (.getfield 35, 3) := gz_d tdX7_answer_t0_ok 9 rfl
theorem dX7_answer_22 : decode cX7_answer 22 = .ok (.aload_n 0, 1) := gz_d tdX7_answer_t0_ok 10 rfl
theorem dX7_answer_23 : decode cX7_answer 23 = .ok (.getfield 19, 3) := gz_d tdX7_answer_t0_ok 11 rfl
theorem dX7_answer_26 : decode cX7_answer 26 = .ok (.iload_n 2, 1) := gz_d tdX7_answer_t0_ok 12 rfl
theorem dX7_answer_27 : decode cX7_answer 27 = .ok (.iload_n 1, 1) := gz_d tdX7_answer_t0_ok 13 rfl
theorem dX7_answer_28 : decode cX7_answer 28 = .ok (.invokevirtual 141, 3) := gz_d tdX7_answer_t0_ok 14 rfl
theorem dX7_answer_31 : decode cX7_answer 31 = .ok (.aload_n 0, 1) := gz_d tdX7_answer_t0_ok 15 rfl
theorem dX7_answer_32 : decode cX7_answer 32 = .ok (.getfield 35, 3) := gz_d tdX7_answer_t0_ok 16 rfl
theorem dX7_answer_35 : decode cX7_answer 35 = .ok (.invokevirtual 145, 3) := gz_d tdX7_answer_t0_ok 17 rfl
theorem dX7_answer_38 : decode cX7_answer 38 = .ok (.invokestatic 137, 3) := gz_d tdX7_answer_t0_ok 18 rfl
theorem dX7_answer_41 : decode cX7_answer 41 = .ok (.lreturn, 1) := gz_d tdX7_answer_t0_ok 19 rfl
def tdX7_opening_t0 : List (Nat × Instr × Nat) := [(0, .iload_n 1, 1), (1, .invokestatic 112, 3), (4, .ifCond .eq 12, 3), (7, .aload_n 0, 1), (8, .iconst 0, 1), (9, .iload_n 2, 1), (10, .invokevirtual 77, 3), (13, .ifCond .ne 6, 3), (16, .bipush (-100), 2), (18, .ireturn, 1), (19, .aload_n 0, 1), (20, .getfield 35, 3), (23, .aload_n 0, 1), (24, .getfield 19, 3), (27, .iload_n 1, 1), (28, .iconst 0, 1), (29, .invokevirtual 141, 3), (32, .aload_n 0, 1), (33, .getfield 35, 3), (36, .iload_n 2, 1), (37, .invokevirtual 149, 3), (40, .ireturn, 1)]
theorem tdX7_opening_t0_ok : gz_dec cX7_opening tdX7_opening_t0 = true := by decide +kernel
theorem dX7_opening_0 : decode cX7_opening 0 = .ok (.iload_n 1, 1) := gz_d tdX7_opening_t0_ok 0 rfl
theorem dX7_opening_1 : decode cX7_opening 1 = .ok (.invokestatic 112, 3) := gz_d tdX7_opening_t0_ok 1 rfl
theorem dX7_opening_4 : decode cX7_opening 4 = .ok (.ifCond .eq 12, 3) := gz_d tdX7_opening_t0_ok 2 rfl
theorem dX7_opening_7 : decode cX7_opening 7 = .ok (.aload_n 0, 1) := gz_d tdX7_opening_t0_ok 3 rfl
theorem dX7_opening_8 : decode cX7_opening 8 = .ok (.iconst 0, 1) := gz_d tdX7_opening_t0_ok 4 rfl
theorem dX7_opening_9 : decode cX7_opening 9 = .ok (.iload_n 2, 1) := gz_d tdX7_opening_t0_ok 5 rfl
theorem dX7_opening_10 : decode cX7_opening 10 = .ok (.invokevirtual 77, 3) := gz_d tdX7_opening_t0_ok 6 rfl
theorem dX7_opening_13 : decode cX7_opening 13 = .ok (.ifCond .ne 6, 3) := gz_d tdX7_opening_t0_ok 7 rfl
theorem dX7_opening_16 : decode cX7_opening 16 = .ok (.bipush (-100), 2) := gz_d tdX7_opening_t0_ok 8 rfl
theorem dX7_opening_18 : decode cX7_opening 18 = .ok (.ireturn, 1) := gz_d tdX7_opening_t0_ok 9 rfl
theorem dX7_opening_19 : decode cX7_opening 19 = .ok (.aload_n 0, 1) := gz_d tdX7_opening_t0_ok 10 rfl
theorem dX7_opening_20 : decode cX7_opening 20 = .ok (.getfield 35, 3) := gz_d tdX7_opening_t0_ok 11 rfl
theorem dX7_opening_23 : decode cX7_opening 23 = .ok (.aload_n 0, 1) := gz_d tdX7_opening_t0_ok 12 rfl
theorem dX7_opening_24 : decode cX7_opening 24 = .ok (.getfield 19, 3) := gz_d tdX7_opening_t0_ok 13 rfl
theorem dX7_opening_27 : decode cX7_opening 27 = .ok (.iload_n 1, 1) := gz_d tdX7_opening_t0_ok 14 rfl
theorem dX7_opening_28 : decode cX7_opening 28 = .ok (.iconst 0, 1) := gz_d tdX7_opening_t0_ok 15 rfl
theorem dX7_opening_29 : decode cX7_opening 29 = .ok (.invokevirtual 141, 3) := gz_d tdX7_opening_t0_ok 16 rfl
theorem dX7_opening_32 : decode cX7_opening 32 = .ok (.aload_n 0, 1) := gz_d tdX7_opening_t0_ok 17 rfl
theorem dX7_opening_33 : decode cX7_opening 33 = .ok (.getfield 35, 3) := gz_d tdX7_opening_t0_ok 18 rfl
theorem dX7_opening_36 : decode cX7_opening 36 = .ok (.iload_n 2, 1) := gz_d tdX7_opening_t0_ok 19 rfl
theorem dX7_opening_37 : decode cX7_opening 37 = .ok (.invokevirtual 149, 3) := gz_d tdX7_opening_t0_ok 20 rfl
theorem dX7_opening_40 : decode cX7_opening 40 = .ok (.ireturn, 1) := gz_d tdX7_opening_t0_ok 21 rfl
def tdX7_reply_t0 : List (Nat × Instr × Nat) := [(0, .iload_n 1, 1), (1, .invokestatic 112, 3), (4, .ifCond .eq 20, 3), (7, .aload_n 0, 1), (8, .iconst 1, 1), (9, .iload_n 2, 1), (10, .invokevirtual 77, 3), (13, .ifCond .eq 11, 3), (16, .aload_n 0, 1), (17, .iload_n 3, 1), (18, .invokevirtual 92, 3), (21, .ifCond .ne 6, 3), (24, .bipush (-100), 2), (26, .ireturn, 1), (27, .aload_n 0, 1), (28, .getfield 35, 3), (31, .aload_n 0, 1), (32, .getfield 19, 3), (35, .iload_n 1, 1), (36, .iconst 1, 1), (37, .invokevirtual 141, 3), (40, .aload_n 0, 1), (41, .getfield 35, 3), (44, .iload_n 2, 1), (45, .iload_n 3, 1), (46, .invokevirtual 152, 3), (49, .ireturn, 1)]
theorem tdX7_reply_t0_ok : gz_dec cX7_reply tdX7_reply_t0 = true := by decide +kernel
theorem dX7_reply_0 : decode cX7_reply 0 = .ok (.iload_n 1, 1) := gz_d tdX7_reply_t0_ok 0 rfl
theorem dX7_reply_1 : decode cX7_reply 1 = .ok (.invokestatic 112, 3) := gz_d tdX7_reply_t0_ok 1 rfl
theorem dX7_reply_4 : decode cX7_reply 4 = .ok (.ifCond .eq 20, 3) := gz_d tdX7_reply_t0_ok 2 rfl
theorem dX7_reply_7 : decode cX7_reply 7 = .ok (.aload_n 0, 1) := gz_d tdX7_reply_t0_ok 3 rfl
theorem dX7_reply_8 : decode cX7_reply 8 = .ok (.iconst 1, 1) := gz_d tdX7_reply_t0_ok 4 rfl
theorem dX7_reply_9 : decode cX7_reply 9 = .ok (.iload_n 2, 1) := gz_d tdX7_reply_t0_ok 5 rfl
theorem dX7_reply_10 : decode cX7_reply 10 = .ok (.invokevirtual 77, 3) := gz_d tdX7_reply_t0_ok 6 rfl
theorem dX7_reply_13 : decode cX7_reply 13 = .ok (.ifCond .eq 11, 3) := gz_d tdX7_reply_t0_ok 7 rfl
theorem dX7_reply_16 : decode cX7_reply 16 = .ok (.aload_n 0, 1) := gz_d tdX7_reply_t0_ok 8 rfl
theorem dX7_reply_17 : decode cX7_reply 17 = .ok (.iload_n 3, 1) := gz_d tdX7_reply_t0_ok 9 rfl
theorem dX7_reply_18 : decode cX7_reply 18 = .ok (.invokevirtual 92, 3) := gz_d tdX7_reply_t0_ok 10 rfl
theorem dX7_reply_21 : decode cX7_reply 21 = .ok (.ifCond .ne 6, 3) := gz_d tdX7_reply_t0_ok 11 rfl
theorem dX7_reply_24 : decode cX7_reply 24 = .ok (.bipush (-100), 2) := gz_d tdX7_reply_t0_ok 12 rfl
theorem dX7_reply_26 : decode cX7_reply 26 = .ok (.ireturn, 1) := gz_d tdX7_reply_t0_ok 13 rfl
theorem dX7_reply_27 : decode cX7_reply 27 = .ok (.aload_n 0, 1) := gz_d tdX7_reply_t0_ok 14 rfl
theorem dX7_reply_28 : decode cX7_reply 28 = .ok (.getfield 35, 3) := gz_d tdX7_reply_t0_ok 15 rfl
theorem dX7_reply_31 : decode cX7_reply 31 = .ok (.aload_n 0, 1) := gz_d tdX7_reply_t0_ok 16 rfl
theorem dX7_reply_32 : decode cX7_reply 32 = .ok (.getfield 19, 3) := gz_d tdX7_reply_t0_ok 17 rfl
theorem dX7_reply_35 : decode cX7_reply 35 = .ok (.iload_n 1, 1) := gz_d tdX7_reply_t0_ok 18 rfl
theorem dX7_reply_36 : decode cX7_reply 36 = .ok (.iconst 1, 1) := gz_d tdX7_reply_t0_ok 19 rfl
theorem dX7_reply_37 : decode cX7_reply 37 = .ok (.invokevirtual 141, 3) := gz_d tdX7_reply_t0_ok 20 rfl
theorem dX7_reply_40 : decode cX7_reply 40 = .ok (.aload_n 0, 1) := gz_d tdX7_reply_t0_ok 21 rfl
theorem dX7_reply_41 : decode cX7_reply 41 = .ok (.getfield 35, 3) := gz_d tdX7_reply_t0_ok 22 rfl
theorem dX7_reply_44 : decode cX7_reply 44 = .ok (.iload_n 2, 1) := gz_d tdX7_reply_t0_ok 23 rfl
theorem dX7_reply_45 : decode cX7_reply 45 = .ok (.iload_n 3, 1) := gz_d tdX7_reply_t0_ok 24 rfl
theorem dX7_reply_46 : decode cX7_reply 46 = .ok (.invokevirtual 152, 3) := gz_d tdX7_reply_t0_ok 25 rfl
theorem dX7_reply_49 : decode cX7_reply 49 = .ok (.ireturn, 1) := gz_d tdX7_reply_t0_ok 26 rfl
def tdX7_round_t0 : List (Nat × Instr × Nat) := [(0, .iload_n 1, 1), (1, .ifCond .ge 6, 3), (4, .bipush (-2), 2), (6, .ireturn, 1), (7, .aload_n 0, 1), (8, .getfield 42, 3), (11, .iload_n 1, 1), (12, .invokevirtual 155, 3), (15, .aload_n 0, 1), (16, .getfield 42, 3), (19, .iconst 0, 1), (20, .invokevirtual 159, 3), (23, .ireturn, 1)]
theorem tdX7_round_t0_ok : gz_dec cX7_round tdX7_round_t0 = true := by decide +kernel
theorem dX7_round_0 : decode cX7_round 0 = .ok (.iload_n 1, 1) := gz_d tdX7_round_t0_ok 0 rfl
theorem dX7_round_1 : decode cX7_round 1 = .ok (.ifCond .ge 6, 3) := gz_d tdX7_round_t0_ok 1 rfl
theorem dX7_round_4 : decode cX7_round 4 = .ok (.bipush (-2), 2) := gz_d tdX7_round_t0_ok 2 rfl
theorem dX7_round_6 : decode cX7_round 6 = .ok (.ireturn, 1) := gz_d tdX7_round_t0_ok 3 rfl
theorem dX7_round_7 : decode cX7_round 7 = .ok (.aload_n 0, 1) := gz_d tdX7_round_t0_ok 4 rfl
theorem dX7_round_8 : decode cX7_round 8 = .ok (.getfield 42, 3) := gz_d tdX7_round_t0_ok 5 rfl
theorem dX7_round_11 : decode cX7_round 11 = .ok (.iload_n 1, 1) := gz_d tdX7_round_t0_ok 6 rfl
theorem dX7_round_12 : decode cX7_round 12 = .ok (.invokevirtual 155, 3) := gz_d tdX7_round_t0_ok 7 rfl
theorem dX7_round_15 : decode cX7_round 15 = .ok (.aload_n 0, 1) := gz_d tdX7_round_t0_ok 8 rfl
theorem dX7_round_16 : decode cX7_round 16 = .ok (.getfield 42, 3) := gz_d tdX7_round_t0_ok 9 rfl
theorem dX7_round_19 : decode cX7_round 19 = .ok (.iconst 0, 1) := gz_d tdX7_round_t0_ok 10 rfl
theorem dX7_round_20 : decode cX7_round 20 = .ok (.invokevirtual 159, 3) := gz_d tdX7_round_t0_ok 11 rfl
theorem dX7_round_23 : decode cX7_round 23 = .ok (.ireturn, 1) := gz_d tdX7_round_t0_ok 12 rfl
def tdX7_held_t0 : List (Nat × Instr × Nat) := [(0, .iload_n 1, 1), (1, .invokestatic 64, 3), (4, .ifCond .ne 6, 3), (7, .bipush (-2), 2), (9, .ireturn, 1), (10, .aload_n 0, 1), (11, .getfield 42, 3), (14, .getfield 162, 3), (17, .ifCond .eq 14, 3), (20, .aload_n 0, 1), (21, .getfield 42, 3), (24, .iload_n 1, 1), (25, .invokevirtual 159, 3), (28, .goto 5, 3), (31, .bipush (-3), 2), (33, .ireturn, 1)]
theorem tdX7_held_t0_ok : gz_dec cX7_held tdX7_held_t0 = true := by decide +kernel
theorem dX7_held_0 : decode cX7_held 0 = .ok (.iload_n 1, 1) := gz_d tdX7_held_t0_ok 0 rfl
theorem dX7_held_1 : decode cX7_held 1 = .ok (.invokestatic 64, 3) := gz_d tdX7_held_t0_ok 1 rfl
theorem dX7_held_4 : decode cX7_held 4 = .ok (.ifCond .ne 6, 3) := gz_d tdX7_held_t0_ok 2 rfl
theorem dX7_held_7 : decode cX7_held 7 = .ok (.bipush (-2), 2) := gz_d tdX7_held_t0_ok 3 rfl
theorem dX7_held_9 : decode cX7_held 9 = .ok (.ireturn, 1) := gz_d tdX7_held_t0_ok 4 rfl
theorem dX7_held_10 : decode cX7_held 10 = .ok (.aload_n 0, 1) := gz_d tdX7_held_t0_ok 5 rfl
theorem dX7_held_11 : decode cX7_held 11 = .ok (.getfield 42, 3) := gz_d tdX7_held_t0_ok 6 rfl
theorem dX7_held_14 : decode cX7_held 14 = .ok (.getfield 162, 3) := gz_d tdX7_held_t0_ok 7 rfl
theorem dX7_held_17 : decode cX7_held 17 = .ok (.ifCond .eq 14, 3) := gz_d tdX7_held_t0_ok 8 rfl
theorem dX7_held_20 : decode cX7_held 20 = .ok (.aload_n 0, 1) := gz_d tdX7_held_t0_ok 9 rfl
theorem dX7_held_21 : decode cX7_held 21 = .ok (.getfield 42, 3) := gz_d tdX7_held_t0_ok 10 rfl
theorem dX7_held_24 : decode cX7_held 24 = .ok (.iload_n 1, 1) := gz_d tdX7_held_t0_ok 11 rfl
theorem dX7_held_25 : decode cX7_held 25 = .ok (.invokevirtual 159, 3) := gz_d tdX7_held_t0_ok 12 rfl
theorem dX7_held_28 : decode cX7_held 28 = .ok (.goto 5, 3) := gz_d tdX7_held_t0_ok 13 rfl
theorem dX7_held_31 : decode cX7_held 31 = .ok (.bipush (-3), 2) := gz_d tdX7_held_t0_ok 14 rfl
theorem dX7_held_33 : decode cX7_held 33 = .ok (.ireturn, 1) := gz_d tdX7_held_t0_ok 15 rfl
def tdX7_move_t0 : List (Nat × Instr × Nat) := [(0, .aload_n 0, 1), (1, .iload_n 1, 1), (2, .invokevirtual 115, 3), (5, .ifCond .ne 6, 3), (8, .bipush (-2), 2), (10, .ireturn, 1), (11, .aload_n 0, 1), (12, .getfield 42, 3), (15, .invokevirtual 166, 3), (18, .ifCond .eq 17, 3), (21, .aload_n 0, 1), (22, .getfield 42, 3), (25, .getfield 170, 3), (28, .iload_n 1, 1), (29, .invokestatic 118, 3), (32, .ifCond .ne 6, 3), (35, .bipush (-3), 2), (37, .ireturn, 1), (38, .iload_n 1, 1), (39, .iconst (-1), 1), (40, .if_icmp .ne 20, 3), (43, .aload_n 0, 1), (44, .getfield 42, 3), (47, .invokevirtual 173, 3), (50, .aload_n 0, 1), (51, .getfield 42, 3), (54, .getfield 176, 3), (57, .iconst 1, 1), (58, .iadd, 1), (59, .ireturn, 1), (60, .aload_n 0, 1), (61, .getfield 42, 3), (64, .iload_n 1, 1), (65, .invokevirtual 179, 3), (68, .iconst 0, 1), (69, .ireturn, 1)]
theorem tdX7_move_t0_ok : gz_dec cX7_move tdX7_move_t0 = true := by decide +kernel
theorem dX7_move_0 : decode cX7_move 0 = .ok (.aload_n 0, 1) := gz_d tdX7_move_t0_ok 0 rfl
theorem dX7_move_1 : decode cX7_move 1 = .ok (.iload_n 1, 1) := gz_d tdX7_move_t0_ok 1 rfl
theorem dX7_move_2 : decode cX7_move 2 = .ok (.invokevirtual 115, 3) := gz_d tdX7_move_t0_ok 2 rfl
theorem dX7_move_5 : decode cX7_move 5 = .ok (.ifCond .ne 6, 3) := gz_d tdX7_move_t0_ok 3 rfl
theorem dX7_move_8 : decode cX7_move 8 = .ok (.bipush (-2), 2) := gz_d tdX7_move_t0_ok 4 rfl
theorem dX7_move_10 : decode cX7_move 10 = .ok (.ireturn, 1) := gz_d tdX7_move_t0_ok 5 rfl
theorem dX7_move_11 : decode cX7_move 11 = .ok (.aload_n 0, 1) := gz_d tdX7_move_t0_ok 6 rfl
theorem dX7_move_12 : decode cX7_move 12 = .ok (.getfield 42, 3) := gz_d tdX7_move_t0_ok 7 rfl
theorem dX7_move_15 : decode cX7_move 15 = .ok (.invokevirtual 166, 3) := gz_d tdX7_move_t0_ok 8 rfl
theorem dX7_move_18 : decode cX7_move 18 = .ok (.ifCond .eq 17, 3) := gz_d tdX7_move_t0_ok 9 rfl
theorem dX7_move_21 : decode cX7_move 21 = .ok (.aload_n 0, 1) := gz_d tdX7_move_t0_ok 10 rfl
theorem dX7_move_22 : decode cX7_move 22 = .ok (.getfield 42, 3) := gz_d tdX7_move_t0_ok 11 rfl
theorem dX7_move_25 : decode cX7_move 25 = .ok (.getfield 170, 3) := gz_d tdX7_move_t0_ok 12 rfl
theorem dX7_move_28 : decode cX7_move 28 = .ok (.iload_n 1, 1) := gz_d tdX7_move_t0_ok 13 rfl
theorem dX7_move_29 : decode cX7_move 29 = .ok (.invokestatic 118, 3) := gz_d tdX7_move_t0_ok 14 rfl
theorem dX7_move_32 : decode cX7_move 32 = .ok (.ifCond .ne 6, 3) := gz_d tdX7_move_t0_ok 15 rfl
theorem dX7_move_35 : decode cX7_move 35 = .ok (.bipush (-3), 2) := gz_d tdX7_move_t0_ok 16 rfl
theorem dX7_move_37 : decode cX7_move 37 = .ok (.ireturn, 1) := gz_d tdX7_move_t0_ok 17 rfl
theorem dX7_move_38 : decode cX7_move 38 = .ok (.iload_n 1, 1) := gz_d tdX7_move_t0_ok 18 rfl
theorem dX7_move_39 : decode cX7_move 39 = .ok (.iconst (-1), 1) := gz_d tdX7_move_t0_ok 19 rfl
theorem dX7_move_40 : decode cX7_move 40 = .ok (.if_icmp .ne 20, 3) := gz_d tdX7_move_t0_ok 20 rfl
theorem dX7_move_43 : decode cX7_move 43 = .ok (.aload_n 0, 1) := gz_d tdX7_move_t0_ok 21 rfl
theorem dX7_move_44 : decode cX7_move 44 = .ok (.getfield 42, 3) := gz_d tdX7_move_t0_ok 22 rfl
theorem dX7_move_47 : decode cX7_move 47 = .ok (.invokevirtual 173, 3) := gz_d tdX7_move_t0_ok 23 rfl
theorem dX7_move_50 : decode cX7_move 50 = .ok (.aload_n 0, 1) := gz_d tdX7_move_t0_ok 24 rfl
theorem dX7_move_51 : decode cX7_move 51 = .ok (.getfield 42, 3) := gz_d tdX7_move_t0_ok 25 rfl
theorem dX7_move_54 : decode cX7_move 54 = .ok (.getfield 176, 3) := gz_d tdX7_move_t0_ok 26 rfl
theorem dX7_move_57 : decode cX7_move 57 = .ok (.iconst 1, 1) := gz_d tdX7_move_t0_ok 27 rfl
theorem dX7_move_58 : decode cX7_move 58 = .ok (.iadd, 1) := gz_d tdX7_move_t0_ok 28 rfl
theorem dX7_move_59 : decode cX7_move 59 = .ok (.ireturn, 1) := gz_d tdX7_move_t0_ok 29 rfl
theorem dX7_move_60 : decode cX7_move 60 = .ok (.aload_n 0, 1) := gz_d tdX7_move_t0_ok 30 rfl
theorem dX7_move_61 : decode cX7_move 61 = .ok (.getfield 42, 3) := gz_d tdX7_move_t0_ok 31 rfl
theorem dX7_move_64 : decode cX7_move 64 = .ok (.iload_n 1, 1) := gz_d tdX7_move_t0_ok 32 rfl
theorem dX7_move_65 : decode cX7_move 65 = .ok (.invokevirtual 179, 3) := gz_d tdX7_move_t0_ok 33 rfl
theorem dX7_move_68 : decode cX7_move 68 = .ok (.iconst 0, 1) := gz_d tdX7_move_t0_ok 34 rfl
theorem dX7_move_69 : decode cX7_move 69 = .ok (.ireturn, 1) := gz_d tdX7_move_t0_ok 35 rfl
def tdX7_about_t0 : List (Nat × Instr × Nat) := [(0, .iload_n 1, 1), (1, .iconst 0, 1), (2, .iconst 3, 1), (3, .invokestatic 50, 3), (6, .ifCond .ne 6, 3), (9, .bipush (-2), 2), (11, .ireturn, 1), (12, .aload_n 0, 1), (13, .getfield 42, 3), (16, .getfield 162, 3), (19, .ifCond .eq 14, 3), (22, .aload_n 0, 1), (23, .getfield 42, 3), (26, .iload_n 1, 1), (27, .invokevirtual 182, 3), (30, .goto 5, 3), (33, .bipush (-3), 2), (35, .ireturn, 1)]
theorem tdX7_about_t0_ok : gz_dec cX7_about tdX7_about_t0 = true := by decide +kernel
theorem dX7_about_0 : decode cX7_about 0 = .ok (.iload_n 1, 1) := gz_d tdX7_about_t0_ok 0 rfl
theorem dX7_about_1 : decode cX7_about 1 = .ok (.iconst 0, 1) := gz_d tdX7_about_t0_ok 1 rfl
theorem dX7_about_2 : decode cX7_about 2 = .ok (.iconst 3, 1) := gz_d tdX7_about_t0_ok 2 rfl
theorem dX7_about_3 : decode cX7_about 3 = .ok (.invokestatic 50, 3) := gz_d tdX7_about_t0_ok 3 rfl
theorem dX7_about_6 : decode cX7_about 6 = .ok (.ifCond .ne 6, 3) := gz_d tdX7_about_t0_ok 4 rfl
theorem dX7_about_9 : decode cX7_about 9 = .ok (.bipush (-2), 2) := gz_d tdX7_about_t0_ok 5 rfl
theorem dX7_about_11 : decode cX7_about 11 = .ok (.ireturn, 1) := gz_d tdX7_about_t0_ok 6 rfl
theorem dX7_about_12 : decode cX7_about 12 = .ok (.aload_n 0, 1) := gz_d tdX7_about_t0_ok 7 rfl
theorem dX7_about_13 : decode cX7_about 13 = .ok (.getfield 42, 3) := gz_d tdX7_about_t0_ok 8 rfl
theorem dX7_about_16 : decode cX7_about 16 = .ok (.getfield 162, 3) := gz_d tdX7_about_t0_ok 9 rfl
theorem dX7_about_19 : decode cX7_about 19 = .ok (.ifCond .eq 14, 3) := gz_d tdX7_about_t0_ok 10 rfl
theorem dX7_about_22 : decode cX7_about 22 = .ok (.aload_n 0, 1) := gz_d tdX7_about_t0_ok 11 rfl
theorem dX7_about_23 : decode cX7_about 23 = .ok (.getfield 42, 3) := gz_d tdX7_about_t0_ok 12 rfl
theorem dX7_about_26 : decode cX7_about 26 = .ok (.iload_n 1, 1) := gz_d tdX7_about_t0_ok 13 rfl
theorem dX7_about_27 : decode cX7_about 27 = .ok (.invokevirtual 182, 3) := gz_d tdX7_about_t0_ok 14 rfl
theorem dX7_about_30 : decode cX7_about 30 = .ok (.goto 5, 3) := gz_d tdX7_about_t0_ok 15 rfl
theorem dX7_about_33 : decode cX7_about 33 = .ok (.bipush (-3), 2) := gz_d tdX7_about_t0_ok 16 rfl
theorem dX7_about_35 : decode cX7_about 35 = .ok (.ireturn, 1) := gz_d tdX7_about_t0_ok 17 rfl
def tdX7_count_t0 : List (Nat × Instr × Nat) := [(0, .iload_n 1, 1), (1, .tableswitch 115 0 6 #[43, 55, 67, 75, 91, 99, 107], 43), (44, .aload_n 0, 1), (45, .getfield 12, 3), (48, .iconst 0, 1), (49, .invokevirtual 68, 3), (52, .getfield 121, 3), (55, .ireturn, 1), (56, .aload_n 0, 1), (57, .getfield 12, 3), (60, .iconst 1, 1), (61, .invokevirtual 68, 3), (64, .getfield 121, 3), (67, .ireturn, 1), (68, .aload_n 0, 1), (69, .getfield 12, 3), (72, .getfield 81, 3), (75, .ireturn, 1), (76, .aload_n 0, 1), (77, .getfield 12, 3), (80, .getfield 185, 3), (83, .ifCond .eq 7, 3), (86, .iconst 1, 1), (87, .goto 4, 3), (90, .iconst 0, 1), (91, .ireturn, 1), (92, .aload_n 0, 1), (93, .getfield 12, 3), (96, .getfield 60, 3), (99, .ireturn, 1), (100, .aload_n 0, 1), (101, .getfield 42, 3), (104, .getfield 188, 3), (107, .ireturn, 1), (108, .aload_n 0, 1), (109, .getfield 42, 3), (112, .getfield 191, 3), (115, .ireturn, 1), (116, .bipush (-2), 2), (118, .ireturn, 1)]
theorem tdX7_count_t0_ok : gz_dec cX7_count tdX7_count_t0 = true := by decide +kernel
theorem dX7_count_0 : decode cX7_count 0 = .ok (.iload_n 1, 1) := gz_d tdX7_count_t0_ok 0 rfl
theorem dX7_count_1 : decode cX7_count 1 = .ok (.tableswitch 115 0 6 #[43, 55, 67, 75, 91, 99, 107], 43) := gz_d tdX7_count_t0_ok 1 rfl
theorem dX7_count_44 : decode cX7_count 44 = .ok (.aload_n 0, 1) := gz_d tdX7_count_t0_ok 2 rfl
theorem dX7_count_45 : decode cX7_count 45 = .ok (.getfield 12, 3) := gz_d tdX7_count_t0_ok 3 rfl
theorem dX7_count_48 : decode cX7_count 48 = .ok (.iconst 0, 1) := gz_d tdX7_count_t0_ok 4 rfl
theorem dX7_count_49 : decode cX7_count 49 = .ok (.invokevirtual 68, 3) := gz_d tdX7_count_t0_ok 5 rfl
theorem dX7_count_52 : decode cX7_count 52 = .ok (.getfield 121, 3) := gz_d tdX7_count_t0_ok 6 rfl
theorem dX7_count_55 : decode cX7_count 55 = .ok (.ireturn, 1) := gz_d tdX7_count_t0_ok 7 rfl
theorem dX7_count_56 : decode cX7_count 56 = .ok (.aload_n 0, 1) := gz_d tdX7_count_t0_ok 8 rfl
theorem dX7_count_57 : decode cX7_count 57 = .ok (.getfield 12, 3) := gz_d tdX7_count_t0_ok 9 rfl
theorem dX7_count_60 : decode cX7_count 60 = .ok (.iconst 1, 1) := gz_d tdX7_count_t0_ok 10 rfl
theorem dX7_count_61 : decode cX7_count 61 = .ok (.invokevirtual 68, 3) := gz_d tdX7_count_t0_ok 11 rfl
theorem dX7_count_64 : decode cX7_count 64 = .ok (.getfield 121, 3) := gz_d tdX7_count_t0_ok 12 rfl
theorem dX7_count_67 : decode cX7_count 67 = .ok (.ireturn, 1) := gz_d tdX7_count_t0_ok 13 rfl
theorem dX7_count_68 : decode cX7_count 68 = .ok (.aload_n 0, 1) := gz_d tdX7_count_t0_ok 14 rfl
theorem dX7_count_69 : decode cX7_count 69 = .ok (.getfield 12, 3) := gz_d tdX7_count_t0_ok 15 rfl
theorem dX7_count_72 : decode cX7_count 72 = .ok (.getfield 81, 3) := gz_d tdX7_count_t0_ok 16 rfl
theorem dX7_count_75 : decode cX7_count 75 = .ok (.ireturn, 1) := gz_d tdX7_count_t0_ok 17 rfl
theorem dX7_count_76 : decode cX7_count 76 = .ok (.aload_n 0, 1) := gz_d tdX7_count_t0_ok 18 rfl
theorem dX7_count_77 : decode cX7_count 77 = .ok (.getfield 12, 3) := gz_d tdX7_count_t0_ok 19 rfl
theorem dX7_count_80 : decode cX7_count 80 = .ok (.getfield 185, 3) := gz_d tdX7_count_t0_ok 20 rfl
theorem dX7_count_83 : decode cX7_count 83 = .ok (.ifCond .eq 7, 3) := gz_d tdX7_count_t0_ok 21 rfl
theorem dX7_count_86 : decode cX7_count 86 = .ok (.iconst 1, 1) := gz_d tdX7_count_t0_ok 22 rfl
theorem dX7_count_87 : decode cX7_count 87 = .ok (.goto 4, 3) := gz_d tdX7_count_t0_ok 23 rfl
theorem dX7_count_90 : decode cX7_count 90 = .ok (.iconst 0, 1) := gz_d tdX7_count_t0_ok 24 rfl
theorem dX7_count_91 : decode cX7_count 91 = .ok (.ireturn, 1) := gz_d tdX7_count_t0_ok 25 rfl
theorem dX7_count_92 : decode cX7_count 92 = .ok (.aload_n 0, 1) := gz_d tdX7_count_t0_ok 26 rfl
theorem dX7_count_93 : decode cX7_count 93 = .ok (.getfield 12, 3) := gz_d tdX7_count_t0_ok 27 rfl
theorem dX7_count_96 : decode cX7_count 96 = .ok (.getfield 60, 3) := gz_d tdX7_count_t0_ok 28 rfl
theorem dX7_count_99 : decode cX7_count 99 = .ok (.ireturn, 1) := gz_d tdX7_count_t0_ok 29 rfl
theorem dX7_count_100 : decode cX7_count 100 = .ok (.aload_n 0, 1) := gz_d tdX7_count_t0_ok 30 rfl
theorem dX7_count_101 : decode cX7_count 101 = .ok (.getfield 42, 3) := gz_d tdX7_count_t0_ok 31 rfl
theorem dX7_count_104 : decode cX7_count 104 = .ok (.getfield 188, 3) := gz_d tdX7_count_t0_ok 32 rfl
theorem dX7_count_107 : decode cX7_count 107 = .ok (.ireturn, 1) := gz_d tdX7_count_t0_ok 33 rfl
theorem dX7_count_108 : decode cX7_count 108 = .ok (.aload_n 0, 1) := gz_d tdX7_count_t0_ok 34 rfl
theorem dX7_count_109 : decode cX7_count 109 = .ok (.getfield 42, 3) := gz_d tdX7_count_t0_ok 35 rfl
theorem dX7_count_112 : decode cX7_count 112 = .ok (.getfield 191, 3) := gz_d tdX7_count_t0_ok 36 rfl
theorem dX7_count_115 : decode cX7_count 115 = .ok (.ireturn, 1) := gz_d tdX7_count_t0_ok 37 rfl
theorem dX7_count_116 : decode cX7_count 116 = .ok (.bipush (-2), 2) := gz_d tdX7_count_t0_ok 38 rfl
theorem dX7_count_118 : decode cX7_count 118 = .ok (.ireturn, 1) := gz_d tdX7_count_t0_ok 39 rfl
def tdX7_digest_t0 : List (Nat × Instr × Nat) := [(0, .ldc2_w 194, 3), (3, .lstore_n 1, 1), (4, .iconst 0, 1), (5, .istore_n 3, 1), (6, .iload_n 3, 1), (7, .bipush 7, 2), (9, .if_icmp .ge 22, 3), (12, .ldc2_w 196, 3), (15, .lload_n 1, 1), (16, .lmul, 1), (17, .aload_n 0, 1), (18, .iload_n 3, 1), (19, .invokevirtual 198, 3), (22, .i2l, 1), (23, .ladd, 1), (24, .lstore_n 1, 1), (25, .iinc 3 1, 3), (28, .goto (-22), 3), (31, .iconst 0, 1), (32, .istore_n 3, 1), (33, .iload_n 3, 1), (34, .iconst 4, 1), (35, .if_icmp .ge 50, 3), (38, .iconst 0, 1), (39, .istore 4, 2), (41, .iload 4, 2), (43, .iconst 2, 1), (44, .if_icmp .ge 35, 3), (47, .aload_n 0, 1), (48, .getfield 19, 3), (51, .lload_n 1, 1), (52, .iload_n 3, 1), (53, .aload_n 0, 1), (54, .getfield 12, 3), (57, .iload 4, 2), (59, .invokevirtual 68, 3), (62, .aload_n 0, 1), (63, .getfield 12, 3), (66, .getfield 60, 3), (69, .invokevirtual 201, 3), (72, .lstore_n 1, 1), (73, .iinc 4 1, 3), (76, .goto (-35), 3), (79, .iinc 3 1, 3), (82, .goto (-49), 3), (85, .aload_n 0, 1), (86, .getfield 42, 3), (89, .getfield 162, 3), (92, .ifCond .ne 5, 3), (95, .lload_n 1, 1), (96, .lreturn, 1), (97, .iconst 0, 1), (98, .istore_n 3, 1), (99, .iload_n 3, 1), (100, .iconst 4, 1), (101, .if_icmp .ge 25, 3), (104, .ldc2_w 196, 3), (107, .lload_n 1, 1), (108, .lmul, 1), (109, .aload_n 0, 1)]
theorem tdX7_digest_t0_ok : gz_dec cX7_digest tdX7_digest_t0 = true := by decide +kernel
theorem dX7_digest_0 : decode cX7_digest 0 = .ok (.ldc2_w 194, 3) := gz_d tdX7_digest_t0_ok 0 rfl
theorem dX7_digest_3 : decode cX7_digest 3 = .ok (.lstore_n 1, 1) := gz_d tdX7_digest_t0_ok 1 rfl
theorem dX7_digest_4 : decode cX7_digest 4 = .ok (.iconst 0, 1) := gz_d tdX7_digest_t0_ok 2 rfl
theorem dX7_digest_5 : decode cX7_digest 5 = .ok (.istore_n 3, 1) := gz_d tdX7_digest_t0_ok 3 rfl
theorem dX7_digest_6 : decode cX7_digest 6 = .ok (.iload_n 3, 1) := gz_d tdX7_digest_t0_ok 4 rfl
theorem dX7_digest_7 : decode cX7_digest 7 = .ok (.bipush 7, 2) := gz_d tdX7_digest_t0_ok 5 rfl
theorem dX7_digest_9 : decode cX7_digest 9 = .ok (.if_icmp .ge 22, 3) := gz_d tdX7_digest_t0_ok 6 rfl
theorem dX7_digest_12 : decode cX7_digest 12 = .ok (.ldc2_w 196, 3) := gz_d tdX7_digest_t0_ok 7 rfl
theorem dX7_digest_15 : decode cX7_digest 15 = .ok (.lload_n 1, 1) := gz_d tdX7_digest_t0_ok 8 rfl
theorem dX7_digest_16 : decode cX7_digest 16 = .ok (.lmul, 1) := gz_d tdX7_digest_t0_ok 9 rfl
theorem dX7_digest_17 : decode cX7_digest 17 = .ok (.aload_n 0, 1) := gz_d tdX7_digest_t0_ok 10 rfl
theorem dX7_digest_18 : decode cX7_digest 18 = .ok (.iload_n 3, 1) := gz_d tdX7_digest_t0_ok 11 rfl
theorem dX7_digest_19 : decode cX7_digest 19 = .ok (.invokevirtual 198, 3) := gz_d tdX7_digest_t0_ok 12 rfl
theorem dX7_digest_22 : decode cX7_digest 22 = .ok (.i2l, 1) := gz_d tdX7_digest_t0_ok 13 rfl
theorem dX7_digest_23 : decode cX7_digest 23 = .ok (.ladd, 1) := gz_d tdX7_digest_t0_ok 14 rfl
theorem dX7_digest_24 : decode cX7_digest 24 = .ok (.lstore_n 1, 1) := gz_d tdX7_digest_t0_ok 15 rfl
theorem dX7_digest_25 : decode cX7_digest 25 = .ok (.iinc 3 1, 3) := gz_d tdX7_digest_t0_ok 16 rfl
theorem dX7_digest_28 : decode cX7_digest 28 = .ok (.goto (-22), 3) := gz_d tdX7_digest_t0_ok 17 rfl
theorem dX7_digest_31 : decode cX7_digest 31 = .ok (.iconst 0, 1) := gz_d tdX7_digest_t0_ok 18 rfl
theorem dX7_digest_32 : decode cX7_digest 32 = .ok (.istore_n 3, 1) := gz_d tdX7_digest_t0_ok 19 rfl
theorem dX7_digest_33 : decode cX7_digest 33 = .ok (.iload_n 3, 1) := gz_d tdX7_digest_t0_ok 20 rfl
theorem dX7_digest_34 : decode cX7_digest 34 = .ok (.iconst 4, 1) := gz_d tdX7_digest_t0_ok 21 rfl
theorem dX7_digest_35 : decode cX7_digest 35 = .ok (.if_icmp .ge 50, 3) := gz_d tdX7_digest_t0_ok 22 rfl
theorem dX7_digest_38 : decode cX7_digest 38 = .ok (.iconst 0, 1) := gz_d tdX7_digest_t0_ok 23 rfl
theorem dX7_digest_39 : decode cX7_digest 39 = .ok (.istore 4, 2) := gz_d tdX7_digest_t0_ok 24 rfl
theorem dX7_digest_41 : decode cX7_digest 41 = .ok (.iload 4, 2) := gz_d tdX7_digest_t0_ok 25 rfl
theorem dX7_digest_43 : decode cX7_digest 43 = .ok (.iconst 2, 1) := gz_d tdX7_digest_t0_ok 26 rfl
theorem dX7_digest_44 : decode cX7_digest 44 = .ok (.if_icmp .ge 35, 3) := gz_d tdX7_digest_t0_ok 27 rfl
theorem dX7_digest_47 : decode cX7_digest 47 = .ok (.aload_n 0, 1) := gz_d tdX7_digest_t0_ok 28 rfl
theorem dX7_digest_48 : decode cX7_digest 48 = .ok (.getfield 19, 3) := gz_d tdX7_digest_t0_ok 29 rfl
theorem dX7_digest_51 : decode cX7_digest 51 = .ok (.lload_n 1, 1) := gz_d tdX7_digest_t0_ok 30 rfl
theorem dX7_digest_52 : decode cX7_digest 52 = .ok (.iload_n 3, 1) := gz_d tdX7_digest_t0_ok 31 rfl
theorem dX7_digest_53 : decode cX7_digest 53 = .ok (.aload_n 0, 1) := gz_d tdX7_digest_t0_ok 32 rfl
theorem dX7_digest_54 : decode cX7_digest 54 = .ok (.getfield 12, 3) := gz_d tdX7_digest_t0_ok 33 rfl
theorem dX7_digest_57 : decode cX7_digest 57 = .ok (.iload 4, 2) := gz_d tdX7_digest_t0_ok 34 rfl
theorem dX7_digest_59 : decode cX7_digest 59 = .ok (.invokevirtual 68, 3) := gz_d tdX7_digest_t0_ok 35 rfl
theorem dX7_digest_62 : decode cX7_digest 62 = .ok (.aload_n 0, 1) := gz_d tdX7_digest_t0_ok 36 rfl
theorem dX7_digest_63 : decode cX7_digest 63 = .ok (.getfield 12, 3) := gz_d tdX7_digest_t0_ok 37 rfl
theorem dX7_digest_66 : decode cX7_digest 66 = .ok (.getfield 60, 3) := gz_d tdX7_digest_t0_ok 38 rfl
theorem dX7_digest_69 : decode cX7_digest 69 = .ok (.invokevirtual 201, 3) := gz_d tdX7_digest_t0_ok 39 rfl
theorem dX7_digest_72 : decode cX7_digest 72 = .ok (.lstore_n 1, 1) := gz_d tdX7_digest_t0_ok 40 rfl
theorem dX7_digest_73 : decode cX7_digest 73 = .ok (.iinc 4 1, 3) := gz_d tdX7_digest_t0_ok 41 rfl
theorem dX7_digest_76 : decode cX7_digest 76 = .ok (.goto (-35), 3) := gz_d tdX7_digest_t0_ok 42 rfl
theorem dX7_digest_79 : decode cX7_digest 79 = .ok (.iinc 3 1, 3) := gz_d tdX7_digest_t0_ok 43 rfl
theorem dX7_digest_82 : decode cX7_digest 82 = .ok (.goto (-49), 3) := gz_d tdX7_digest_t0_ok 44 rfl
theorem dX7_digest_85 : decode cX7_digest 85 = .ok (.aload_n 0, 1) := gz_d tdX7_digest_t0_ok 45 rfl
theorem dX7_digest_86 : decode cX7_digest 86 = .ok (.getfield 42, 3) := gz_d tdX7_digest_t0_ok 46 rfl
theorem dX7_digest_89 : decode cX7_digest 89 = .ok (.getfield 162, 3) := gz_d tdX7_digest_t0_ok 47 rfl
theorem dX7_digest_92 : decode cX7_digest 92 = .ok (.ifCond .ne 5, 3) := gz_d tdX7_digest_t0_ok 48 rfl
theorem dX7_digest_95 : decode cX7_digest 95 = .ok (.lload_n 1, 1) := gz_d tdX7_digest_t0_ok 49 rfl
theorem dX7_digest_96 : decode cX7_digest 96 = .ok (.lreturn, 1) := gz_d tdX7_digest_t0_ok 50 rfl
theorem dX7_digest_97 : decode cX7_digest 97 = .ok (.iconst 0, 1) := gz_d tdX7_digest_t0_ok 51 rfl
theorem dX7_digest_98 : decode cX7_digest 98 = .ok (.istore_n 3, 1) := gz_d tdX7_digest_t0_ok 52 rfl
theorem dX7_digest_99 : decode cX7_digest 99 = .ok (.iload_n 3, 1) := gz_d tdX7_digest_t0_ok 53 rfl
theorem dX7_digest_100 : decode cX7_digest 100 = .ok (.iconst 4, 1) := gz_d tdX7_digest_t0_ok 54 rfl
theorem dX7_digest_101 : decode cX7_digest 101 = .ok (.if_icmp .ge 25, 3) := gz_d tdX7_digest_t0_ok 55 rfl
theorem dX7_digest_104 : decode cX7_digest 104 = .ok (.ldc2_w 196, 3) := gz_d tdX7_digest_t0_ok 56 rfl
theorem dX7_digest_107 : decode cX7_digest 107 = .ok (.lload_n 1, 1) := gz_d tdX7_digest_t0_ok 57 rfl
theorem dX7_digest_108 : decode cX7_digest 108 = .ok (.lmul, 1) := gz_d tdX7_digest_t0_ok 58 rfl
theorem dX7_digest_109 : decode cX7_digest 109 = .ok (.aload_n 0, 1) := gz_d tdX7_digest_t0_ok 59 rfl
def tdX7_digest_t1 : List (Nat × Instr × Nat) := [(110, .getfield 42, 3), (113, .iload_n 3, 1), (114, .invokevirtual 182, 3), (117, .i2l, 1), (118, .ladd, 1), (119, .lstore_n 1, 1), (120, .iinc 3 1, 3), (123, .goto (-24), 3), (126, .ldc2_w 196, 3), (129, .lload_n 1, 1), (130, .lmul, 1), (131, .aload_n 0, 1), (132, .getfield 42, 3), (135, .iconst 0, 1), (136, .invokevirtual 159, 3), (139, .i2l, 1), (140, .ladd, 1), (141, .lstore_n 1, 1), (142, .ldc2_w 196, 3), (145, .lload_n 1, 1), (146, .lmul, 1), (147, .aload_n 0, 1), (148, .getfield 42, 3), (151, .iconst 1, 1), (152, .invokevirtual 159, 3), (155, .i2l, 1), (156, .ladd, 1), (157, .lreturn, 1)]
theorem tdX7_digest_t1_ok : gz_dec cX7_digest tdX7_digest_t1 = true := by decide +kernel
theorem dX7_digest_110 : decode cX7_digest 110 = .ok (.getfield 42, 3) := gz_d tdX7_digest_t1_ok 0 rfl
theorem dX7_digest_113 : decode cX7_digest 113 = .ok (.iload_n 3, 1) := gz_d tdX7_digest_t1_ok 1 rfl
theorem dX7_digest_114 : decode cX7_digest 114 = .ok (.invokevirtual 182, 3) := gz_d tdX7_digest_t1_ok 2 rfl
theorem dX7_digest_117 : decode cX7_digest 117 = .ok (.i2l, 1) := gz_d tdX7_digest_t1_ok 3 rfl
theorem dX7_digest_118 : decode cX7_digest 118 = .ok (.ladd, 1) := gz_d tdX7_digest_t1_ok 4 rfl
theorem dX7_digest_119 : decode cX7_digest 119 = .ok (.lstore_n 1, 1) := gz_d tdX7_digest_t1_ok 5 rfl
theorem dX7_digest_120 : decode cX7_digest 120 = .ok (.iinc 3 1, 3) := gz_d tdX7_digest_t1_ok 6 rfl
theorem dX7_digest_123 : decode cX7_digest 123 = .ok (.goto (-24), 3) := gz_d tdX7_digest_t1_ok 7 rfl
theorem dX7_digest_126 : decode cX7_digest 126 = .ok (.ldc2_w 196, 3) := gz_d tdX7_digest_t1_ok 8 rfl
theorem dX7_digest_129 : decode cX7_digest 129 = .ok (.lload_n 1, 1) := gz_d tdX7_digest_t1_ok 9 rfl
theorem dX7_digest_130 : decode cX7_digest 130 = .ok (.lmul, 1) := gz_d tdX7_digest_t1_ok 10 rfl
theorem dX7_digest_131 : decode cX7_digest 131 = .ok (.aload_n 0, 1) := gz_d tdX7_digest_t1_ok 11 rfl
theorem dX7_digest_132 : decode cX7_digest 132 = .ok (.getfield 42, 3) := gz_d tdX7_digest_t1_ok 12 rfl
theorem dX7_digest_135 : decode cX7_digest 135 = .ok (.iconst 0, 1) := gz_d tdX7_digest_t1_ok 13 rfl
theorem dX7_digest_136 : decode cX7_digest 136 = .ok (.invokevirtual 159, 3) := gz_d tdX7_digest_t1_ok 14 rfl
theorem dX7_digest_139 : decode cX7_digest 139 = .ok (.i2l, 1) := gz_d tdX7_digest_t1_ok 15 rfl
theorem dX7_digest_140 : decode cX7_digest 140 = .ok (.ladd, 1) := gz_d tdX7_digest_t1_ok 16 rfl
theorem dX7_digest_141 : decode cX7_digest 141 = .ok (.lstore_n 1, 1) := gz_d tdX7_digest_t1_ok 17 rfl
theorem dX7_digest_142 : decode cX7_digest 142 = .ok (.ldc2_w 196, 3) := gz_d tdX7_digest_t1_ok 18 rfl
theorem dX7_digest_145 : decode cX7_digest 145 = .ok (.lload_n 1, 1) := gz_d tdX7_digest_t1_ok 19 rfl
theorem dX7_digest_146 : decode cX7_digest 146 = .ok (.lmul, 1) := gz_d tdX7_digest_t1_ok 20 rfl
theorem dX7_digest_147 : decode cX7_digest 147 = .ok (.aload_n 0, 1) := gz_d tdX7_digest_t1_ok 21 rfl
theorem dX7_digest_148 : decode cX7_digest 148 = .ok (.getfield 42, 3) := gz_d tdX7_digest_t1_ok 22 rfl
theorem dX7_digest_151 : decode cX7_digest 151 = .ok (.iconst 1, 1) := gz_d tdX7_digest_t1_ok 23 rfl
theorem dX7_digest_152 : decode cX7_digest 152 = .ok (.invokevirtual 159, 3) := gz_d tdX7_digest_t1_ok 24 rfl
theorem dX7_digest_155 : decode cX7_digest 155 = .ok (.i2l, 1) := gz_d tdX7_digest_t1_ok 25 rfl
theorem dX7_digest_156 : decode cX7_digest 156 = .ok (.ladd, 1) := gz_d tdX7_digest_t1_ok 26 rfl
theorem dX7_digest_157 : decode cX7_digest 157 = .ok (.lreturn, 1) := gz_d tdX7_digest_t1_ok 27 rfl
def tdX7_within_t0 : List (Nat × Instr × Nat) := [(0, .iload_n 0, 1), (1, .iload_n 1, 1), (2, .if_icmp .lt 12, 3), (5, .iload_n 0, 1), (6, .iload_n 2, 1), (7, .if_icmp .gt 7, 3), (10, .iconst 1, 1), (11, .goto 4, 3), (14, .iconst 0, 1), (15, .ireturn, 1)]
theorem tdX7_within_t0_ok : gz_dec cX7_within tdX7_within_t0 = true := by decide +kernel
theorem dX7_within_0 : decode cX7_within 0 = .ok (.iload_n 0, 1) := gz_d tdX7_within_t0_ok 0 rfl
theorem dX7_within_1 : decode cX7_within 1 = .ok (.iload_n 1, 1) := gz_d tdX7_within_t0_ok 1 rfl
theorem dX7_within_2 : decode cX7_within 2 = .ok (.if_icmp .lt 12, 3) := gz_d tdX7_within_t0_ok 2 rfl
theorem dX7_within_5 : decode cX7_within 5 = .ok (.iload_n 0, 1) := gz_d tdX7_within_t0_ok 3 rfl
theorem dX7_within_6 : decode cX7_within 6 = .ok (.iload_n 2, 1) := gz_d tdX7_within_t0_ok 4 rfl
theorem dX7_within_7 : decode cX7_within 7 = .ok (.if_icmp .gt 7, 3) := gz_d tdX7_within_t0_ok 5 rfl
theorem dX7_within_10 : decode cX7_within 10 = .ok (.iconst 1, 1) := gz_d tdX7_within_t0_ok 6 rfl
theorem dX7_within_11 : decode cX7_within 11 = .ok (.goto 4, 3) := gz_d tdX7_within_t0_ok 7 rfl
theorem dX7_within_14 : decode cX7_within 14 = .ok (.iconst 0, 1) := gz_d tdX7_within_t0_ok 8 rfl
theorem dX7_within_15 : decode cX7_within 15 = .ok (.ireturn, 1) := gz_d tdX7_within_t0_ok 9 rfl
def tdX7_isPlayer_t0 : List (Nat × Instr × Nat) := [(0, .iload_n 0, 1), (1, .iconst 0, 1), (2, .iconst 1, 1), (3, .invokestatic 50, 3), (6, .ireturn, 1)]
theorem tdX7_isPlayer_t0_ok : gz_dec cX7_isPlayer tdX7_isPlayer_t0 = true := by decide +kernel
theorem dX7_isPlayer_0 : decode cX7_isPlayer 0 = .ok (.iload_n 0, 1) := gz_d tdX7_isPlayer_t0_ok 0 rfl
theorem dX7_isPlayer_1 : decode cX7_isPlayer 1 = .ok (.iconst 0, 1) := gz_d tdX7_isPlayer_t0_ok 1 rfl
theorem dX7_isPlayer_2 : decode cX7_isPlayer 2 = .ok (.iconst 1, 1) := gz_d tdX7_isPlayer_t0_ok 2 rfl
theorem dX7_isPlayer_3 : decode cX7_isPlayer 3 = .ok (.invokestatic 50, 3) := gz_d tdX7_isPlayer_t0_ok 3 rfl
theorem dX7_isPlayer_6 : decode cX7_isPlayer 6 = .ok (.ireturn, 1) := gz_d tdX7_isPlayer_t0_ok 4 rfl
def tdX7_isPlan_t0 : List (Nat × Instr × Nat) := [(0, .iload_n 0, 1), (1, .iconst 0, 1), (2, .iconst 3, 1), (3, .invokestatic 50, 3), (6, .ireturn, 1)]
theorem tdX7_isPlan_t0_ok : gz_dec cX7_isPlan tdX7_isPlan_t0 = true := by decide +kernel
theorem dX7_isPlan_0 : decode cX7_isPlan 0 = .ok (.iload_n 0, 1) := gz_d tdX7_isPlan_t0_ok 0 rfl
theorem dX7_isPlan_1 : decode cX7_isPlan 1 = .ok (.iconst 0, 1) := gz_d tdX7_isPlan_t0_ok 1 rfl
theorem dX7_isPlan_2 : decode cX7_isPlan 2 = .ok (.iconst 3, 1) := gz_d tdX7_isPlan_t0_ok 2 rfl
theorem dX7_isPlan_3 : decode cX7_isPlan 3 = .ok (.invokestatic 50, 3) := gz_d tdX7_isPlan_t0_ok 3 rfl
theorem dX7_isPlan_6 : decode cX7_isPlan 6 = .ok (.ireturn, 1) := gz_d tdX7_isPlan_t0_ok 4 rfl
def tdX7_isHand_t0 : List (Nat × Instr × Nat) := [(0, .iload_n 1, 1), (1, .invokestatic 64, 3), (4, .ifCond .eq 28, 3), (7, .iload_n 2, 1), (8, .iconst 0, 1), (9, .aload_n 0, 1), (10, .getfield 12, 3), (13, .iload_n 1, 1), (14, .invokevirtual 68, 3), (17, .getfield 72, 3), (20, .iconst 1, 1), (21, .isub, 1), (22, .invokestatic 50, 3), (25, .ifCond .eq 7, 3), (28, .iconst 1, 1), (29, .goto 4, 3), (32, .iconst 0, 1), (33, .ireturn, 1)]
theorem tdX7_isHand_t0_ok : gz_dec cX7_isHand tdX7_isHand_t0 = true := by decide +kernel
theorem dX7_isHand_0 : decode cX7_isHand 0 = .ok (.iload_n 1, 1) := gz_d tdX7_isHand_t0_ok 0 rfl
theorem dX7_isHand_1 : decode cX7_isHand 1 = .ok (.invokestatic 64, 3) := gz_d tdX7_isHand_t0_ok 1 rfl
theorem dX7_isHand_4 : decode cX7_isHand 4 = .ok (.ifCond .eq 28, 3) := gz_d tdX7_isHand_t0_ok 2 rfl
theorem dX7_isHand_7 : decode cX7_isHand 7 = .ok (.iload_n 2, 1) := gz_d tdX7_isHand_t0_ok 3 rfl
theorem dX7_isHand_8 : decode cX7_isHand 8 = .ok (.iconst 0, 1) := gz_d tdX7_isHand_t0_ok 4 rfl
theorem dX7_isHand_9 : decode cX7_isHand 9 = .ok (.aload_n 0, 1) := gz_d tdX7_isHand_t0_ok 5 rfl
theorem dX7_isHand_10 : decode cX7_isHand 10 = .ok (.getfield 12, 3) := gz_d tdX7_isHand_t0_ok 6 rfl
theorem dX7_isHand_13 : decode cX7_isHand 13 = .ok (.iload_n 1, 1) := gz_d tdX7_isHand_t0_ok 7 rfl
theorem dX7_isHand_14 : decode cX7_isHand 14 = .ok (.invokevirtual 68, 3) := gz_d tdX7_isHand_t0_ok 8 rfl
theorem dX7_isHand_17 : decode cX7_isHand 17 = .ok (.getfield 72, 3) := gz_d tdX7_isHand_t0_ok 9 rfl
theorem dX7_isHand_20 : decode cX7_isHand 20 = .ok (.iconst 1, 1) := gz_d tdX7_isHand_t0_ok 10 rfl
theorem dX7_isHand_21 : decode cX7_isHand 21 = .ok (.isub, 1) := gz_d tdX7_isHand_t0_ok 11 rfl
theorem dX7_isHand_22 : decode cX7_isHand 22 = .ok (.invokestatic 50, 3) := gz_d tdX7_isHand_t0_ok 12 rfl
theorem dX7_isHand_25 : decode cX7_isHand 25 = .ok (.ifCond .eq 7, 3) := gz_d tdX7_isHand_t0_ok 13 rfl
theorem dX7_isHand_28 : decode cX7_isHand 28 = .ok (.iconst 1, 1) := gz_d tdX7_isHand_t0_ok 14 rfl
theorem dX7_isHand_29 : decode cX7_isHand 29 = .ok (.goto 4, 3) := gz_d tdX7_isHand_t0_ok 15 rfl
theorem dX7_isHand_32 : decode cX7_isHand 32 = .ok (.iconst 0, 1) := gz_d tdX7_isHand_t0_ok 16 rfl
theorem dX7_isHand_33 : decode cX7_isHand 33 = .ok (.ireturn, 1) := gz_d tdX7_isHand_t0_ok 17 rfl
def tdX7_isBid_t0 : List (Nat × Instr × Nat) := [(0, .iload_n 1, 1), (1, .iconst 0, 1), (2, .aload_n 0, 1), (3, .getfield 12, 3), (6, .getfield 60, 3), (9, .iconst 1, 1), (10, .isub, 1), (11, .invokestatic 50, 3), (14, .ireturn, 1)]
theorem tdX7_isBid_t0_ok : gz_dec cX7_isBid tdX7_isBid_t0 = true := by decide +kernel
theorem dX7_isBid_0 : decode cX7_isBid 0 = .ok (.iload_n 1, 1) := gz_d tdX7_isBid_t0_ok 0 rfl
theorem dX7_isBid_1 : decode cX7_isBid 1 = .ok (.iconst 0, 1) := gz_d tdX7_isBid_t0_ok 1 rfl
theorem dX7_isBid_2 : decode cX7_isBid 2 = .ok (.aload_n 0, 1) := gz_d tdX7_isBid_t0_ok 2 rfl
theorem dX7_isBid_3 : decode cX7_isBid 3 = .ok (.getfield 12, 3) := gz_d tdX7_isBid_t0_ok 3 rfl
theorem dX7_isBid_6 : decode cX7_isBid 6 = .ok (.getfield 60, 3) := gz_d tdX7_isBid_t0_ok 4 rfl
theorem dX7_isBid_9 : decode cX7_isBid 9 = .ok (.iconst 1, 1) := gz_d tdX7_isBid_t0_ok 5 rfl
theorem dX7_isBid_10 : decode cX7_isBid 10 = .ok (.isub, 1) := gz_d tdX7_isBid_t0_ok 6 rfl
theorem dX7_isBid_11 : decode cX7_isBid 11 = .ok (.invokestatic 50, 3) := gz_d tdX7_isBid_t0_ok 7 rfl
theorem dX7_isBid_14 : decode cX7_isBid 14 = .ok (.ireturn, 1) := gz_d tdX7_isBid_t0_ok 8 rfl
def tdX7_isBidOrNone_t0 : List (Nat × Instr × Nat) := [(0, .iload_n 1, 1), (1, .iconst (-1), 1), (2, .if_icmp .eq 11, 3), (5, .aload_n 0, 1), (6, .iload_n 1, 1), (7, .invokevirtual 92, 3), (10, .ifCond .eq 7, 3), (13, .iconst 1, 1), (14, .goto 4, 3), (17, .iconst 0, 1), (18, .ireturn, 1)]
theorem tdX7_isBidOrNone_t0_ok : gz_dec cX7_isBidOrNone tdX7_isBidOrNone_t0 = true := by decide +kernel
theorem dX7_isBidOrNone_0 : decode cX7_isBidOrNone 0 = .ok (.iload_n 1, 1) := gz_d tdX7_isBidOrNone_t0_ok 0 rfl
theorem dX7_isBidOrNone_1 : decode cX7_isBidOrNone 1 = .ok (.iconst (-1), 1) := gz_d tdX7_isBidOrNone_t0_ok 1 rfl
theorem dX7_isBidOrNone_2 : decode cX7_isBidOrNone 2 = .ok (.if_icmp .eq 11, 3) := gz_d tdX7_isBidOrNone_t0_ok 2 rfl
theorem dX7_isBidOrNone_5 : decode cX7_isBidOrNone 5 = .ok (.aload_n 0, 1) := gz_d tdX7_isBidOrNone_t0_ok 3 rfl
theorem dX7_isBidOrNone_6 : decode cX7_isBidOrNone 6 = .ok (.iload_n 1, 1) := gz_d tdX7_isBidOrNone_t0_ok 4 rfl
theorem dX7_isBidOrNone_7 : decode cX7_isBidOrNone 7 = .ok (.invokevirtual 92, 3) := gz_d tdX7_isBidOrNone_t0_ok 5 rfl
theorem dX7_isBidOrNone_10 : decode cX7_isBidOrNone 10 = .ok (.ifCond .eq 7, 3) := gz_d tdX7_isBidOrNone_t0_ok 6 rfl
theorem dX7_isBidOrNone_13 : decode cX7_isBidOrNone 13 = .ok (.iconst 1, 1) := gz_d tdX7_isBidOrNone_t0_ok 7 rfl
theorem dX7_isBidOrNone_14 : decode cX7_isBidOrNone 14 = .ok (.goto 4, 3) := gz_d tdX7_isBidOrNone_t0_ok 8 rfl
theorem dX7_isBidOrNone_17 : decode cX7_isBidOrNone 17 = .ok (.iconst 0, 1) := gz_d tdX7_isBidOrNone_t0_ok 9 rfl
theorem dX7_isBidOrNone_18 : decode cX7_isBidOrNone 18 = .ok (.ireturn, 1) := gz_d tdX7_isBidOrNone_t0_ok 10 rfl
def tdX7_mayFollow_t0 : List (Nat × Instr × Nat) := [(0, .iload_n 1, 1), (1, .iconst (-1), 1), (2, .if_icmp .ne 16, 3), (5, .iload_n 0, 1), (6, .iconst (-1), 1), (7, .if_icmp .eq 7, 3), (10, .iconst 1, 1), (11, .goto 17, 3), (14, .iconst 0, 1), (15, .goto 13, 3), (18, .iload_n 1, 1), (19, .iload_n 0, 1), (20, .if_icmp .le 7, 3), (23, .iconst 1, 1), (24, .goto 4, 3), (27, .iconst 0, 1), (28, .ireturn, 1)]
theorem tdX7_mayFollow_t0_ok : gz_dec cX7_mayFollow tdX7_mayFollow_t0 = true := by decide +kernel
theorem dX7_mayFollow_0 : decode cX7_mayFollow 0 = .ok (.iload_n 1, 1) := gz_d tdX7_mayFollow_t0_ok 0 rfl
theorem dX7_mayFollow_1 : decode cX7_mayFollow 1 = .ok (.iconst (-1), 1) := gz_d tdX7_mayFollow_t0_ok 1 rfl
theorem dX7_mayFollow_2 : decode cX7_mayFollow 2 = .ok (.if_icmp .ne 16, 3) := gz_d tdX7_mayFollow_t0_ok 2 rfl
theorem dX7_mayFollow_5 : decode cX7_mayFollow 5 = .ok (.iload_n 0, 1) := gz_d tdX7_mayFollow_t0_ok 3 rfl
theorem dX7_mayFollow_6 : decode cX7_mayFollow 6 = .ok (.iconst (-1), 1) := gz_d tdX7_mayFollow_t0_ok 4 rfl
theorem dX7_mayFollow_7 : decode cX7_mayFollow 7 = .ok (.if_icmp .eq 7, 3) := gz_d tdX7_mayFollow_t0_ok 5 rfl
theorem dX7_mayFollow_10 : decode cX7_mayFollow 10 = .ok (.iconst 1, 1) := gz_d tdX7_mayFollow_t0_ok 6 rfl
theorem dX7_mayFollow_11 : decode cX7_mayFollow 11 = .ok (.goto 17, 3) := gz_d tdX7_mayFollow_t0_ok 7 rfl
theorem dX7_mayFollow_14 : decode cX7_mayFollow 14 = .ok (.iconst 0, 1) := gz_d tdX7_mayFollow_t0_ok 8 rfl
theorem dX7_mayFollow_15 : decode cX7_mayFollow 15 = .ok (.goto 13, 3) := gz_d tdX7_mayFollow_t0_ok 9 rfl
theorem dX7_mayFollow_18 : decode cX7_mayFollow 18 = .ok (.iload_n 1, 1) := gz_d tdX7_mayFollow_t0_ok 10 rfl
theorem dX7_mayFollow_19 : decode cX7_mayFollow 19 = .ok (.iload_n 0, 1) := gz_d tdX7_mayFollow_t0_ok 11 rfl
theorem dX7_mayFollow_20 : decode cX7_mayFollow 20 = .ok (.if_icmp .le 7, 3) := gz_d tdX7_mayFollow_t0_ok 12 rfl
theorem dX7_mayFollow_23 : decode cX7_mayFollow 23 = .ok (.iconst 1, 1) := gz_d tdX7_mayFollow_t0_ok 13 rfl
theorem dX7_mayFollow_24 : decode cX7_mayFollow 24 = .ok (.goto 4, 3) := gz_d tdX7_mayFollow_t0_ok 14 rfl
theorem dX7_mayFollow_27 : decode cX7_mayFollow 27 = .ok (.iconst 0, 1) := gz_d tdX7_mayFollow_t0_ok 15 rfl
theorem dX7_mayFollow_28 : decode cX7_mayFollow 28 = .ok (.ireturn, 1) := gz_d tdX7_mayFollow_t0_ok 16 rfl
def tdX7_at_t0 : List (Nat × Instr × Nat) := [(0, .iload_n 1, 1), (1, .ifCond .lt 15, 3), (4, .iload_n 1, 1), (5, .aload_n 0, 1), (6, .arraylength, 1), (7, .if_icmp .ge 9, 3), (10, .aload_n 0, 1), (11, .iload_n 1, 1), (12, .iaload, 1), (13, .goto 4, 3), (16, .iconst 0, 1), (17, .ireturn, 1)]
theorem tdX7_at_t0_ok : gz_dec cX7_at tdX7_at_t0 = true := by decide +kernel
theorem dX7_at_0 : decode cX7_at 0 = .ok (.iload_n 1, 1) := gz_d tdX7_at_t0_ok 0 rfl
theorem dX7_at_1 : decode cX7_at 1 = .ok (.ifCond .lt 15, 3) := gz_d tdX7_at_t0_ok 1 rfl
theorem dX7_at_4 : decode cX7_at 4 = .ok (.iload_n 1, 1) := gz_d tdX7_at_t0_ok 2 rfl
theorem dX7_at_5 : decode cX7_at 5 = .ok (.aload_n 0, 1) := gz_d tdX7_at_t0_ok 3 rfl
theorem dX7_at_6 : decode cX7_at 6 = .ok (.arraylength, 1) := gz_d tdX7_at_t0_ok 4 rfl
theorem dX7_at_7 : decode cX7_at 7 = .ok (.if_icmp .ge 9, 3) := gz_d tdX7_at_t0_ok 5 rfl
theorem dX7_at_10 : decode cX7_at 10 = .ok (.aload_n 0, 1) := gz_d tdX7_at_t0_ok 6 rfl
theorem dX7_at_11 : decode cX7_at 11 = .ok (.iload_n 1, 1) := gz_d tdX7_at_t0_ok 7 rfl
theorem dX7_at_12 : decode cX7_at 12 = .ok (.iaload, 1) := gz_d tdX7_at_t0_ok 8 rfl
theorem dX7_at_13 : decode cX7_at 13 = .ok (.goto 4, 3) := gz_d tdX7_at_t0_ok 9 rfl
theorem dX7_at_16 : decode cX7_at 16 = .ok (.iconst 0, 1) := gz_d tdX7_at_t0_ok 10 rfl
theorem dX7_at_17 : decode cX7_at 17 = .ok (.ireturn, 1) := gz_d tdX7_at_t0_ok 11 rfl
def tdX7_put_t0 : List (Nat × Instr × Nat) := [(0, .iload_n 1, 1), (1, .ifCond .lt 13, 3), (4, .iload_n 1, 1), (5, .aload_n 0, 1), (6, .arraylength, 1), (7, .if_icmp .ge 7, 3), (10, .aload_n 0, 1), (11, .iload_n 1, 1), (12, .iload_n 2, 1), (13, .iastore, 1), (14, .return_, 1)]
theorem tdX7_put_t0_ok : gz_dec cX7_put tdX7_put_t0 = true := by decide +kernel
theorem dX7_put_0 : decode cX7_put 0 = .ok (.iload_n 1, 1) := gz_d tdX7_put_t0_ok 0 rfl
theorem dX7_put_1 : decode cX7_put 1 = .ok (.ifCond .lt 13, 3) := gz_d tdX7_put_t0_ok 1 rfl
theorem dX7_put_4 : decode cX7_put 4 = .ok (.iload_n 1, 1) := gz_d tdX7_put_t0_ok 2 rfl
theorem dX7_put_5 : decode cX7_put 5 = .ok (.aload_n 0, 1) := gz_d tdX7_put_t0_ok 3 rfl
theorem dX7_put_6 : decode cX7_put 6 = .ok (.arraylength, 1) := gz_d tdX7_put_t0_ok 4 rfl
theorem dX7_put_7 : decode cX7_put 7 = .ok (.if_icmp .ge 7, 3) := gz_d tdX7_put_t0_ok 5 rfl
theorem dX7_put_10 : decode cX7_put 10 = .ok (.aload_n 0, 1) := gz_d tdX7_put_t0_ok 6 rfl
theorem dX7_put_11 : decode cX7_put 11 = .ok (.iload_n 1, 1) := gz_d tdX7_put_t0_ok 7 rfl
theorem dX7_put_12 : decode cX7_put 12 = .ok (.iload_n 2, 1) := gz_d tdX7_put_t0_ok 8 rfl
theorem dX7_put_13 : decode cX7_put 13 = .ok (.iastore, 1) := gz_d tdX7_put_t0_ok 9 rfl
theorem dX7_put_14 : decode cX7_put 14 = .ok (.return_, 1) := gz_d tdX7_put_t0_ok 10 rfl
def tdX7_realAt_t0 : List (Nat × Instr × Nat) := [(0, .iload_n 1, 1), (1, .ifCond .lt 15, 3), (4, .iload_n 1, 1), (5, .aload_n 0, 1), (6, .arraylength, 1), (7, .if_icmp .ge 9, 3), (10, .aload_n 0, 1), (11, .iload_n 1, 1), (12, .daload, 1), (13, .goto 4, 3), (16, .dconst 0, 1), (17, .dreturn, 1)]
theorem tdX7_realAt_t0_ok : gz_dec cX7_realAt tdX7_realAt_t0 = true := by decide +kernel
theorem dX7_realAt_0 : decode cX7_realAt 0 = .ok (.iload_n 1, 1) := gz_d tdX7_realAt_t0_ok 0 rfl
theorem dX7_realAt_1 : decode cX7_realAt 1 = .ok (.ifCond .lt 15, 3) := gz_d tdX7_realAt_t0_ok 1 rfl
theorem dX7_realAt_4 : decode cX7_realAt 4 = .ok (.iload_n 1, 1) := gz_d tdX7_realAt_t0_ok 2 rfl
theorem dX7_realAt_5 : decode cX7_realAt 5 = .ok (.aload_n 0, 1) := gz_d tdX7_realAt_t0_ok 3 rfl
theorem dX7_realAt_6 : decode cX7_realAt 6 = .ok (.arraylength, 1) := gz_d tdX7_realAt_t0_ok 4 rfl
theorem dX7_realAt_7 : decode cX7_realAt 7 = .ok (.if_icmp .ge 9, 3) := gz_d tdX7_realAt_t0_ok 5 rfl
theorem dX7_realAt_10 : decode cX7_realAt 10 = .ok (.aload_n 0, 1) := gz_d tdX7_realAt_t0_ok 6 rfl
theorem dX7_realAt_11 : decode cX7_realAt 11 = .ok (.iload_n 1, 1) := gz_d tdX7_realAt_t0_ok 7 rfl
theorem dX7_realAt_12 : decode cX7_realAt 12 = .ok (.daload, 1) := gz_d tdX7_realAt_t0_ok 8 rfl
theorem dX7_realAt_13 : decode cX7_realAt 13 = .ok (.goto 4, 3) := gz_d tdX7_realAt_t0_ok 9 rfl
theorem dX7_realAt_16 : decode cX7_realAt 16 = .ok (.dconst 0, 1) := gz_d tdX7_realAt_t0_ok 10 rfl
theorem dX7_realAt_17 : decode cX7_realAt 17 = .ok (.dreturn, 1) := gz_d tdX7_realAt_t0_ok 11 rfl
def tdX7_putReal_t0 : List (Nat × Instr × Nat) := [(0, .iload_n 1, 1), (1, .ifCond .lt 13, 3), (4, .iload_n 1, 1), (5, .aload_n 0, 1), (6, .arraylength, 1), (7, .if_icmp .ge 7, 3), (10, .aload_n 0, 1), (11, .iload_n 1, 1), (12, .dload_n 2, 1), (13, .dastore, 1), (14, .return_, 1)]
theorem tdX7_putReal_t0_ok : gz_dec cX7_putReal tdX7_putReal_t0 = true := by decide +kernel
theorem dX7_putReal_0 : decode cX7_putReal 0 = .ok (.iload_n 1, 1) := gz_d tdX7_putReal_t0_ok 0 rfl
theorem dX7_putReal_1 : decode cX7_putReal 1 = .ok (.ifCond .lt 13, 3) := gz_d tdX7_putReal_t0_ok 1 rfl
theorem dX7_putReal_4 : decode cX7_putReal 4 = .ok (.iload_n 1, 1) := gz_d tdX7_putReal_t0_ok 2 rfl
theorem dX7_putReal_5 : decode cX7_putReal 5 = .ok (.aload_n 0, 1) := gz_d tdX7_putReal_t0_ok 3 rfl
theorem dX7_putReal_6 : decode cX7_putReal 6 = .ok (.arraylength, 1) := gz_d tdX7_putReal_t0_ok 4 rfl
theorem dX7_putReal_7 : decode cX7_putReal 7 = .ok (.if_icmp .ge 7, 3) := gz_d tdX7_putReal_t0_ok 5 rfl
theorem dX7_putReal_10 : decode cX7_putReal 10 = .ok (.aload_n 0, 1) := gz_d tdX7_putReal_t0_ok 6 rfl
theorem dX7_putReal_11 : decode cX7_putReal 11 = .ok (.iload_n 1, 1) := gz_d tdX7_putReal_t0_ok 7 rfl
theorem dX7_putReal_12 : decode cX7_putReal 12 = .ok (.dload_n 2, 1) := gz_d tdX7_putReal_t0_ok 8 rfl
theorem dX7_putReal_13 : decode cX7_putReal 13 = .ok (.dastore, 1) := gz_d tdX7_putReal_t0_ok 9 rfl
theorem dX7_putReal_14 : decode cX7_putReal 14 = .ok (.return_, 1) := gz_d tdX7_putReal_t0_ok 10 rfl
def tdX7_cut_t0 : List (Nat × Instr × Nat) := [(0, .iload_n 1, 1), (1, .ifCond .le 9, 3), (4, .iload_n 0, 1), (5, .iload_n 1, 1), (6, .idiv, 1), (7, .goto 4, 3), (10, .iconst 0, 1), (11, .ireturn, 1)]
theorem tdX7_cut_t0_ok : gz_dec cX7_cut tdX7_cut_t0 = true := by decide +kernel
theorem dX7_cut_0 : decode cX7_cut 0 = .ok (.iload_n 1, 1) := gz_d tdX7_cut_t0_ok 0 rfl
theorem dX7_cut_1 : decode cX7_cut 1 = .ok (.ifCond .le 9, 3) := gz_d tdX7_cut_t0_ok 1 rfl
theorem dX7_cut_4 : decode cX7_cut 4 = .ok (.iload_n 0, 1) := gz_d tdX7_cut_t0_ok 2 rfl
theorem dX7_cut_5 : decode cX7_cut 5 = .ok (.iload_n 1, 1) := gz_d tdX7_cut_t0_ok 3 rfl
theorem dX7_cut_6 : decode cX7_cut 6 = .ok (.idiv, 1) := gz_d tdX7_cut_t0_ok 4 rfl
theorem dX7_cut_7 : decode cX7_cut 7 = .ok (.goto 4, 3) := gz_d tdX7_cut_t0_ok 5 rfl
theorem dX7_cut_10 : decode cX7_cut 10 = .ok (.iconst 0, 1) := gz_d tdX7_cut_t0_ok 6 rfl
theorem dX7_cut_11 : decode cX7_cut 11 = .ok (.ireturn, 1) := gz_d tdX7_cut_t0_ok 7 rfl
def tdX7_leftOver_t0 : List (Nat × Instr × Nat) := [(0, .iload_n 1, 1), (1, .ifCond .le 9, 3), (4, .iload_n 0, 1), (5, .iload_n 1, 1), (6, .irem, 1), (7, .goto 4, 3), (10, .iconst 0, 1), (11, .ireturn, 1)]
theorem tdX7_leftOver_t0_ok : gz_dec cX7_leftOver tdX7_leftOver_t0 = true := by decide +kernel
theorem dX7_leftOver_0 : decode cX7_leftOver 0 = .ok (.iload_n 1, 1) := gz_d tdX7_leftOver_t0_ok 0 rfl
theorem dX7_leftOver_1 : decode cX7_leftOver 1 = .ok (.ifCond .le 9, 3) := gz_d tdX7_leftOver_t0_ok 1 rfl
theorem dX7_leftOver_4 : decode cX7_leftOver 4 = .ok (.iload_n 0, 1) := gz_d tdX7_leftOver_t0_ok 2 rfl
theorem dX7_leftOver_5 : decode cX7_leftOver 5 = .ok (.iload_n 1, 1) := gz_d tdX7_leftOver_t0_ok 3 rfl
theorem dX7_leftOver_6 : decode cX7_leftOver 6 = .ok (.irem, 1) := gz_d tdX7_leftOver_t0_ok 4 rfl
theorem dX7_leftOver_7 : decode cX7_leftOver 7 = .ok (.goto 4, 3) := gz_d tdX7_leftOver_t0_ok 5 rfl
theorem dX7_leftOver_10 : decode cX7_leftOver 10 = .ok (.iconst 0, 1) := gz_d tdX7_leftOver_t0_ok 6 rfl
theorem dX7_leftOver_11 : decode cX7_leftOver 11 = .ok (.ireturn, 1) := gz_d tdX7_leftOver_t0_ok 7 rfl
def tdX7_commonDivisor_t0 : List (Nat × Instr × Nat) := [(0, .iload_n 1, 1), (1, .istore_n 2, 1), (2, .iload_n 0, 1), (3, .istore_n 3, 1), (4, .iconst 0, 1), (5, .istore 4, 2), (7, .iload 4, 2), (9, .bipush 64, 2), (11, .if_icmp .ge 25, 3), (14, .iload_n 3, 1), (15, .ifCond .le 21, 3), (18, .iload_n 2, 1), (19, .iload_n 3, 1), (20, .invokestatic 205, 3), (23, .istore 5, 2), (25, .iload_n 3, 1), (26, .istore_n 2, 1), (27, .iload 5, 2), (29, .istore_n 3, 1), (30, .iinc 4 1, 3), (33, .goto (-26), 3), (36, .iload_n 2, 1), (37, .ireturn, 1)]
theorem tdX7_commonDivisor_t0_ok : gz_dec cX7_commonDivisor tdX7_commonDivisor_t0 = true := by decide +kernel
theorem dX7_commonDivisor_0 : decode cX7_commonDivisor 0 = .ok (.iload_n 1, 1) := gz_d tdX7_commonDivisor_t0_ok 0 rfl
theorem dX7_commonDivisor_1 : decode cX7_commonDivisor 1 = .ok (.istore_n 2, 1) := gz_d tdX7_commonDivisor_t0_ok 1 rfl
theorem dX7_commonDivisor_2 : decode cX7_commonDivisor 2 = .ok (.iload_n 0, 1) := gz_d tdX7_commonDivisor_t0_ok 2 rfl
theorem dX7_commonDivisor_3 : decode cX7_commonDivisor 3 = .ok (.istore_n 3, 1) := gz_d tdX7_commonDivisor_t0_ok 3 rfl
theorem dX7_commonDivisor_4 : decode cX7_commonDivisor 4 = .ok (.iconst 0, 1) := gz_d tdX7_commonDivisor_t0_ok 4 rfl
theorem dX7_commonDivisor_5 : decode cX7_commonDivisor 5 = .ok (.istore 4, 2) := gz_d tdX7_commonDivisor_t0_ok 5 rfl
theorem dX7_commonDivisor_7 : decode cX7_commonDivisor 7 = .ok (.iload 4, 2) := gz_d tdX7_commonDivisor_t0_ok 6 rfl
theorem dX7_commonDivisor_9 : decode cX7_commonDivisor 9 = .ok (.bipush 64, 2) := gz_d tdX7_commonDivisor_t0_ok 7 rfl
theorem dX7_commonDivisor_11 : decode cX7_commonDivisor 11 = .ok (.if_icmp .ge 25, 3) := gz_d tdX7_commonDivisor_t0_ok 8 rfl
theorem dX7_commonDivisor_14 : decode cX7_commonDivisor 14 = .ok (.iload_n 3, 1) := gz_d tdX7_commonDivisor_t0_ok 9 rfl
theorem dX7_commonDivisor_15 : decode cX7_commonDivisor 15 = .ok (.ifCond .le 21, 3) := gz_d tdX7_commonDivisor_t0_ok 10 rfl
theorem dX7_commonDivisor_18 : decode cX7_commonDivisor 18 = .ok (.iload_n 2, 1) := gz_d tdX7_commonDivisor_t0_ok 11 rfl
theorem dX7_commonDivisor_19 : decode cX7_commonDivisor 19 = .ok (.iload_n 3, 1) := gz_d tdX7_commonDivisor_t0_ok 12 rfl
theorem dX7_commonDivisor_20 : decode cX7_commonDivisor 20 = .ok (.invokestatic 205, 3) := gz_d tdX7_commonDivisor_t0_ok 13 rfl
theorem dX7_commonDivisor_23 : decode cX7_commonDivisor 23 = .ok (.istore 5, 2) := gz_d tdX7_commonDivisor_t0_ok 14 rfl
theorem dX7_commonDivisor_25 : decode cX7_commonDivisor 25 = .ok (.iload_n 3, 1) := gz_d tdX7_commonDivisor_t0_ok 15 rfl
theorem dX7_commonDivisor_26 : decode cX7_commonDivisor 26 = .ok (.istore_n 2, 1) := gz_d tdX7_commonDivisor_t0_ok 16 rfl
theorem dX7_commonDivisor_27 : decode cX7_commonDivisor 27 = .ok (.iload 5, 2) := gz_d tdX7_commonDivisor_t0_ok 17 rfl
theorem dX7_commonDivisor_29 : decode cX7_commonDivisor 29 = .ok (.istore_n 3, 1) := gz_d tdX7_commonDivisor_t0_ok 18 rfl
theorem dX7_commonDivisor_30 : decode cX7_commonDivisor 30 = .ok (.iinc 4 1, 3) := gz_d tdX7_commonDivisor_t0_ok 19 rfl
theorem dX7_commonDivisor_33 : decode cX7_commonDivisor 33 = .ok (.goto (-26), 3) := gz_d tdX7_commonDivisor_t0_ok 20 rfl
theorem dX7_commonDivisor_36 : decode cX7_commonDivisor 36 = .ok (.iload_n 2, 1) := gz_d tdX7_commonDivisor_t0_ok 21 rfl
theorem dX7_commonDivisor_37 : decode cX7_commonDivisor 37 = .ok (.ireturn, 1) := gz_d tdX7_commonDivisor_t0_ok 22 rfl
def tdX7_bitsOf_t0 : List (Nat × Instr × Nat) := [(0, .dload_n 0, 1), (1, .dconst 0, 1), (2, .dcmp .l, 1), (3, .ifCond .le 7, 3), (6, .dload_n 0, 1), (7, .goto 4, 3), (10, .dconst 0, 1), (11, .dstore_n 2, 1), (12, .ldc2_w 208, 3), (15, .lstore 4, 2), (17, .dload_n 2, 1), (18, .ldc2_w 210, 3), (21, .dcmp .l, 1), (22, .ifCond .lt 27, 3), (25, .lload 4, 2), (27, .ldc2_w 212, 3), (30, .lcmp, 1), (31, .ifCond .ge 18, 3), (34, .dload_n 2, 1), (35, .ldc2_w 210, 3), (38, .ddiv, 1), (39, .dstore_n 2, 1), (40, .lload 4, 2), (42, .lconst 1, 1), (43, .ladd, 1), (44, .lstore 4, 2), (46, .goto (-29), 3), (49, .dload_n 2, 1), (50, .dconst 1, 1), (51, .dcmp .g, 1), (52, .ifCond .ge 25, 3), (55, .lload 4, 2), (57, .lconst 1, 1), (58, .lcmp, 1), (59, .ifCond .le 18, 3), (62, .dload_n 2, 1), (63, .ldc2_w 210, 3), (66, .dmul, 1), (67, .dstore_n 2, 1), (68, .lload 4, 2), (70, .lconst 1, 1), (71, .lsub, 1), (72, .lstore 4, 2), (74, .goto (-25), 3), (77, .lload 4, 2), (79, .lconst 1, 1), (80, .lsub, 1), (81, .bipush 52, 2), (83, .lshl, 1), (84, .dload_n 2, 1), (85, .ldc2_w 214, 3), (88, .dmul, 1), (89, .d2l, 1), (90, .ladd, 1), (91, .lreturn, 1)]
theorem tdX7_bitsOf_t0_ok : gz_dec cX7_bitsOf tdX7_bitsOf_t0 = true := by decide +kernel
theorem dX7_bitsOf_0 : decode cX7_bitsOf 0 = .ok (.dload_n 0, 1) := gz_d tdX7_bitsOf_t0_ok 0 rfl
theorem dX7_bitsOf_1 : decode cX7_bitsOf 1 = .ok (.dconst 0, 1) := gz_d tdX7_bitsOf_t0_ok 1 rfl
theorem dX7_bitsOf_2 : decode cX7_bitsOf 2 = .ok (.dcmp .l, 1) := gz_d tdX7_bitsOf_t0_ok 2 rfl
theorem dX7_bitsOf_3 : decode cX7_bitsOf 3 = .ok (.ifCond .le 7, 3) := gz_d tdX7_bitsOf_t0_ok 3 rfl
theorem dX7_bitsOf_6 : decode cX7_bitsOf 6 = .ok (.dload_n 0, 1) := gz_d tdX7_bitsOf_t0_ok 4 rfl
theorem dX7_bitsOf_7 : decode cX7_bitsOf 7 = .ok (.goto 4, 3) := gz_d tdX7_bitsOf_t0_ok 5 rfl
theorem dX7_bitsOf_10 : decode cX7_bitsOf 10 = .ok (.dconst 0, 1) := gz_d tdX7_bitsOf_t0_ok 6 rfl
theorem dX7_bitsOf_11 : decode cX7_bitsOf 11 = .ok (.dstore_n 2, 1) := gz_d tdX7_bitsOf_t0_ok 7 rfl
theorem dX7_bitsOf_12 : decode cX7_bitsOf 12 = .ok (.ldc2_w 208, 3) := gz_d tdX7_bitsOf_t0_ok 8 rfl
theorem dX7_bitsOf_15 : decode cX7_bitsOf 15 = .ok (.lstore 4, 2) := gz_d tdX7_bitsOf_t0_ok 9 rfl
theorem dX7_bitsOf_17 : decode cX7_bitsOf 17 = .ok (.dload_n 2, 1) := gz_d tdX7_bitsOf_t0_ok 10 rfl
theorem dX7_bitsOf_18 : decode cX7_bitsOf 18 = .ok (.ldc2_w 210, 3) := gz_d tdX7_bitsOf_t0_ok 11 rfl
theorem dX7_bitsOf_21 : decode cX7_bitsOf 21 = .ok (.dcmp .l, 1) := gz_d tdX7_bitsOf_t0_ok 12 rfl
theorem dX7_bitsOf_22 : decode cX7_bitsOf 22 = .ok (.ifCond .lt 27, 3) := gz_d tdX7_bitsOf_t0_ok 13 rfl
theorem dX7_bitsOf_25 : decode cX7_bitsOf 25 = .ok (.lload 4, 2) := gz_d tdX7_bitsOf_t0_ok 14 rfl
theorem dX7_bitsOf_27 : decode cX7_bitsOf 27 = .ok (.ldc2_w 212, 3) := gz_d tdX7_bitsOf_t0_ok 15 rfl
theorem dX7_bitsOf_30 : decode cX7_bitsOf 30 = .ok (.lcmp, 1) := gz_d tdX7_bitsOf_t0_ok 16 rfl
theorem dX7_bitsOf_31 : decode cX7_bitsOf 31 = .ok (.ifCond .ge 18, 3) := gz_d tdX7_bitsOf_t0_ok 17 rfl
theorem dX7_bitsOf_34 : decode cX7_bitsOf 34 = .ok (.dload_n 2, 1) := gz_d tdX7_bitsOf_t0_ok 18 rfl
theorem dX7_bitsOf_35 : decode cX7_bitsOf 35 = .ok (.ldc2_w 210, 3) := gz_d tdX7_bitsOf_t0_ok 19 rfl
theorem dX7_bitsOf_38 : decode cX7_bitsOf 38 = .ok (.ddiv, 1) := gz_d tdX7_bitsOf_t0_ok 20 rfl
theorem dX7_bitsOf_39 : decode cX7_bitsOf 39 = .ok (.dstore_n 2, 1) := gz_d tdX7_bitsOf_t0_ok 21 rfl
theorem dX7_bitsOf_40 : decode cX7_bitsOf 40 = .ok (.lload 4, 2) := gz_d tdX7_bitsOf_t0_ok 22 rfl
theorem dX7_bitsOf_42 : decode cX7_bitsOf 42 = .ok (.lconst 1, 1) := gz_d tdX7_bitsOf_t0_ok 23 rfl
theorem dX7_bitsOf_43 : decode cX7_bitsOf 43 = .ok (.ladd, 1) := gz_d tdX7_bitsOf_t0_ok 24 rfl
theorem dX7_bitsOf_44 : decode cX7_bitsOf 44 = .ok (.lstore 4, 2) := gz_d tdX7_bitsOf_t0_ok 25 rfl
theorem dX7_bitsOf_46 : decode cX7_bitsOf 46 = .ok (.goto (-29), 3) := gz_d tdX7_bitsOf_t0_ok 26 rfl
theorem dX7_bitsOf_49 : decode cX7_bitsOf 49 = .ok (.dload_n 2, 1) := gz_d tdX7_bitsOf_t0_ok 27 rfl
theorem dX7_bitsOf_50 : decode cX7_bitsOf 50 = .ok (.dconst 1, 1) := gz_d tdX7_bitsOf_t0_ok 28 rfl
theorem dX7_bitsOf_51 : decode cX7_bitsOf 51 = .ok (.dcmp .g, 1) := gz_d tdX7_bitsOf_t0_ok 29 rfl
theorem dX7_bitsOf_52 : decode cX7_bitsOf 52 = .ok (.ifCond .ge 25, 3) := gz_d tdX7_bitsOf_t0_ok 30 rfl
theorem dX7_bitsOf_55 : decode cX7_bitsOf 55 = .ok (.lload 4, 2) := gz_d tdX7_bitsOf_t0_ok 31 rfl
theorem dX7_bitsOf_57 : decode cX7_bitsOf 57 = .ok (.lconst 1, 1) := gz_d tdX7_bitsOf_t0_ok 32 rfl
theorem dX7_bitsOf_58 : decode cX7_bitsOf 58 = .ok (.lcmp, 1) := gz_d tdX7_bitsOf_t0_ok 33 rfl
theorem dX7_bitsOf_59 : decode cX7_bitsOf 59 = .ok (.ifCond .le 18, 3) := gz_d tdX7_bitsOf_t0_ok 34 rfl
theorem dX7_bitsOf_62 : decode cX7_bitsOf 62 = .ok (.dload_n 2, 1) := gz_d tdX7_bitsOf_t0_ok 35 rfl
theorem dX7_bitsOf_63 : decode cX7_bitsOf 63 = .ok (.ldc2_w 210, 3) := gz_d tdX7_bitsOf_t0_ok 36 rfl
theorem dX7_bitsOf_66 : decode cX7_bitsOf 66 = .ok (.dmul, 1) := gz_d tdX7_bitsOf_t0_ok 37 rfl
theorem dX7_bitsOf_67 : decode cX7_bitsOf 67 = .ok (.dstore_n 2, 1) := gz_d tdX7_bitsOf_t0_ok 38 rfl
theorem dX7_bitsOf_68 : decode cX7_bitsOf 68 = .ok (.lload 4, 2) := gz_d tdX7_bitsOf_t0_ok 39 rfl
theorem dX7_bitsOf_70 : decode cX7_bitsOf 70 = .ok (.lconst 1, 1) := gz_d tdX7_bitsOf_t0_ok 40 rfl
theorem dX7_bitsOf_71 : decode cX7_bitsOf 71 = .ok (.lsub, 1) := gz_d tdX7_bitsOf_t0_ok 41 rfl
theorem dX7_bitsOf_72 : decode cX7_bitsOf 72 = .ok (.lstore 4, 2) := gz_d tdX7_bitsOf_t0_ok 42 rfl
theorem dX7_bitsOf_74 : decode cX7_bitsOf 74 = .ok (.goto (-25), 3) := gz_d tdX7_bitsOf_t0_ok 43 rfl
theorem dX7_bitsOf_77 : decode cX7_bitsOf 77 = .ok (.lload 4, 2) := gz_d tdX7_bitsOf_t0_ok 44 rfl
theorem dX7_bitsOf_79 : decode cX7_bitsOf 79 = .ok (.lconst 1, 1) := gz_d tdX7_bitsOf_t0_ok 45 rfl
theorem dX7_bitsOf_80 : decode cX7_bitsOf 80 = .ok (.lsub, 1) := gz_d tdX7_bitsOf_t0_ok 46 rfl
theorem dX7_bitsOf_81 : decode cX7_bitsOf 81 = .ok (.bipush 52, 2) := gz_d tdX7_bitsOf_t0_ok 47 rfl
theorem dX7_bitsOf_83 : decode cX7_bitsOf 83 = .ok (.lshl, 1) := gz_d tdX7_bitsOf_t0_ok 48 rfl
theorem dX7_bitsOf_84 : decode cX7_bitsOf 84 = .ok (.dload_n 2, 1) := gz_d tdX7_bitsOf_t0_ok 49 rfl
theorem dX7_bitsOf_85 : decode cX7_bitsOf 85 = .ok (.ldc2_w 214, 3) := gz_d tdX7_bitsOf_t0_ok 50 rfl
theorem dX7_bitsOf_88 : decode cX7_bitsOf 88 = .ok (.dmul, 1) := gz_d tdX7_bitsOf_t0_ok 51 rfl
theorem dX7_bitsOf_89 : decode cX7_bitsOf 89 = .ok (.d2l, 1) := gz_d tdX7_bitsOf_t0_ok 52 rfl
theorem dX7_bitsOf_90 : decode cX7_bitsOf 90 = .ok (.ladd, 1) := gz_d tdX7_bitsOf_t0_ok 53 rfl
theorem dX7_bitsOf_91 : decode cX7_bitsOf 91 = .ok (.lreturn, 1) := gz_d tdX7_bitsOf_t0_ok 54 rfl
def tdX8_init_t0 : List (Nat × Instr × Nat) := [(0, .aload_n 0, 1), (1, .invokespecial 1, 3), (4, .aload_n 0, 1), (5, .iconst 1, 1), (6, .putfield 7, 3), (9, .aload_n 0, 1), (10, .iconst 1, 1), (11, .putfield 13, 3), (14, .aload_n 0, 1), (15, .iconst 2, 1), (16, .putfield 16, 3), (19, .aload_n 0, 1), (20, .bipush 32, 2), (22, .newarray .int, 2), (24, .putfield 19, 3), (27, .aload_n 0, 1), (28, .iconst 2, 1), (29, .newarray .int, 2), (31, .putfield 23, 3), (34, .aload_n 0, 1), (35, .bipush 8, 2), (37, .newarray .int, 2), (39, .putfield 26, 3), (42, .aload_n 0, 1), (43, .sipush 3888, 3), (46, .newarray .int, 2), (48, .putfield 29, 3), (51, .aload_n 0, 1), (52, .iconst 2, 1), (53, .newarray .int, 2), (55, .putfield 32, 3), (58, .aload_n 0, 1), (59, .iconst 3, 1), (60, .newarray .int, 2), (62, .putfield 35, 3), (65, .aload_n 0, 1), (66, .bipush 18, 2), (68, .newarray .double, 2), (70, .putfield 38, 3), (73, .aload_n 0, 1), (74, .bipush 40, 2), (76, .newarray .double, 2), (78, .putfield 42, 3), (81, .aload_n 0, 1), (82, .bipush 10, 2), (84, .newarray .int, 2), (86, .putfield 45, 3), (89, .aload_n 0, 1), (90, .bipush 10, 2), (92, .newarray .int, 2), (94, .putfield 48, 3), (97, .aload_n 0, 1), (98, .bipush 10, 2), (100, .newarray .double, 2), (102, .putfield 51, 3), (105, .aload_n 0, 1), (106, .bipush 10, 2), (108, .newarray .int, 2), (110, .putfield 54, 3), (113, .aload_n 0, 1)]
theorem tdX8_init_t0_ok : gz_dec cX8_init tdX8_init_t0 = true := by decide +kernel
theorem dX8_init_0 : decode cX8_init 0 = .ok (.aload_n 0, 1) := gz_d tdX8_init_t0_ok 0 rfl
theorem dX8_init_1 : decode cX8_init 1 = .ok (.invokespecial 1, 3) := gz_d tdX8_init_t0_ok 1 rfl
theorem dX8_init_4 : decode cX8_init 4 = .ok (.aload_n 0, 1) := gz_d tdX8_init_t0_ok 2 rfl
theorem dX8_init_5 : decode cX8_init 5 = .ok (.iconst 1, 1) := gz_d tdX8_init_t0_ok 3 rfl
theorem dX8_init_6 : decode cX8_init 6 = .ok (.putfield 7, 3) := gz_d tdX8_init_t0_ok 4 rfl
theorem dX8_init_9 : decode cX8_init 9 = .ok (.aload_n 0, 1) := gz_d tdX8_init_t0_ok 5 rfl
theorem dX8_init_10 : decode cX8_init 10 = .ok (.iconst 1, 1) := gz_d tdX8_init_t0_ok 6 rfl
theorem dX8_init_11 : decode cX8_init 11 = .ok (.putfield 13, 3) := gz_d tdX8_init_t0_ok 7 rfl
theorem dX8_init_14 : decode cX8_init 14 = .ok (.aload_n 0, 1) := gz_d tdX8_init_t0_ok 8 rfl
theorem dX8_init_15 : decode cX8_init 15 = .ok (.iconst 2, 1) := gz_d tdX8_init_t0_ok 9 rfl
theorem dX8_init_16 : decode cX8_init 16 = .ok (.putfield 16, 3) := gz_d tdX8_init_t0_ok 10 rfl
theorem dX8_init_19 : decode cX8_init 19 = .ok (.aload_n 0, 1) := gz_d tdX8_init_t0_ok 11 rfl
theorem dX8_init_20 : decode cX8_init 20 = .ok (.bipush 32, 2) := gz_d tdX8_init_t0_ok 12 rfl
theorem dX8_init_22 : decode cX8_init 22 = .ok (.newarray .int, 2) := gz_d tdX8_init_t0_ok 13 rfl
theorem dX8_init_24 : decode cX8_init 24 = .ok (.putfield 19, 3) := gz_d tdX8_init_t0_ok 14 rfl
theorem dX8_init_27 : decode cX8_init 27 = .ok (.aload_n 0, 1) := gz_d tdX8_init_t0_ok 15 rfl
theorem dX8_init_28 : decode cX8_init 28 = .ok (.iconst 2, 1) := gz_d tdX8_init_t0_ok 16 rfl
theorem dX8_init_29 : decode cX8_init 29 = .ok (.newarray .int, 2) := gz_d tdX8_init_t0_ok 17 rfl
theorem dX8_init_31 : decode cX8_init 31 = .ok (.putfield 23, 3) := gz_d tdX8_init_t0_ok 18 rfl
theorem dX8_init_34 : decode cX8_init 34 = .ok (.aload_n 0, 1) := gz_d tdX8_init_t0_ok 19 rfl
theorem dX8_init_35 : decode cX8_init 35 = .ok (.bipush 8, 2) := gz_d tdX8_init_t0_ok 20 rfl
theorem dX8_init_37 : decode cX8_init 37 = .ok (.newarray .int, 2) := gz_d tdX8_init_t0_ok 21 rfl
theorem dX8_init_39 : decode cX8_init 39 = .ok (.putfield 26, 3) := gz_d tdX8_init_t0_ok 22 rfl
theorem dX8_init_42 : decode cX8_init 42 = .ok (.aload_n 0, 1) := gz_d tdX8_init_t0_ok 23 rfl
theorem dX8_init_43 : decode cX8_init 43 = .ok (.sipush 3888, 3) := gz_d tdX8_init_t0_ok 24 rfl
theorem dX8_init_46 : decode cX8_init 46 = .ok (.newarray .int, 2) := gz_d tdX8_init_t0_ok 25 rfl
theorem dX8_init_48 : decode cX8_init 48 = .ok (.putfield 29, 3) := gz_d tdX8_init_t0_ok 26 rfl
theorem dX8_init_51 : decode cX8_init 51 = .ok (.aload_n 0, 1) := gz_d tdX8_init_t0_ok 27 rfl
theorem dX8_init_52 : decode cX8_init 52 = .ok (.iconst 2, 1) := gz_d tdX8_init_t0_ok 28 rfl
theorem dX8_init_53 : decode cX8_init 53 = .ok (.newarray .int, 2) := gz_d tdX8_init_t0_ok 29 rfl
theorem dX8_init_55 : decode cX8_init 55 = .ok (.putfield 32, 3) := gz_d tdX8_init_t0_ok 30 rfl
theorem dX8_init_58 : decode cX8_init 58 = .ok (.aload_n 0, 1) := gz_d tdX8_init_t0_ok 31 rfl
theorem dX8_init_59 : decode cX8_init 59 = .ok (.iconst 3, 1) := gz_d tdX8_init_t0_ok 32 rfl
theorem dX8_init_60 : decode cX8_init 60 = .ok (.newarray .int, 2) := gz_d tdX8_init_t0_ok 33 rfl
theorem dX8_init_62 : decode cX8_init 62 = .ok (.putfield 35, 3) := gz_d tdX8_init_t0_ok 34 rfl
theorem dX8_init_65 : decode cX8_init 65 = .ok (.aload_n 0, 1) := gz_d tdX8_init_t0_ok 35 rfl
theorem dX8_init_66 : decode cX8_init 66 = .ok (.bipush 18, 2) := gz_d tdX8_init_t0_ok 36 rfl
theorem dX8_init_68 : decode cX8_init 68 = .ok (.newarray .double, 2) := gz_d tdX8_init_t0_ok 37 rfl
theorem dX8_init_70 : decode cX8_init 70 = .ok (.putfield 38, 3) := gz_d tdX8_init_t0_ok 38 rfl
theorem dX8_init_73 : decode cX8_init 73 = .ok (.aload_n 0, 1) := gz_d tdX8_init_t0_ok 39 rfl
theorem dX8_init_74 : decode cX8_init 74 = .ok (.bipush 40, 2) := gz_d tdX8_init_t0_ok 40 rfl
theorem dX8_init_76 : decode cX8_init 76 = .ok (.newarray .double, 2) := gz_d tdX8_init_t0_ok 41 rfl
theorem dX8_init_78 : decode cX8_init 78 = .ok (.putfield 42, 3) := gz_d tdX8_init_t0_ok 42 rfl
theorem dX8_init_81 : decode cX8_init 81 = .ok (.aload_n 0, 1) := gz_d tdX8_init_t0_ok 43 rfl
theorem dX8_init_82 : decode cX8_init 82 = .ok (.bipush 10, 2) := gz_d tdX8_init_t0_ok 44 rfl
theorem dX8_init_84 : decode cX8_init 84 = .ok (.newarray .int, 2) := gz_d tdX8_init_t0_ok 45 rfl
theorem dX8_init_86 : decode cX8_init 86 = .ok (.putfield 45, 3) := gz_d tdX8_init_t0_ok 46 rfl
theorem dX8_init_89 : decode cX8_init 89 = .ok (.aload_n 0, 1) := gz_d tdX8_init_t0_ok 47 rfl
theorem dX8_init_90 : decode cX8_init 90 = .ok (.bipush 10, 2) := gz_d tdX8_init_t0_ok 48 rfl
theorem dX8_init_92 : decode cX8_init 92 = .ok (.newarray .int, 2) := gz_d tdX8_init_t0_ok 49 rfl
theorem dX8_init_94 : decode cX8_init 94 = .ok (.putfield 48, 3) := gz_d tdX8_init_t0_ok 50 rfl
theorem dX8_init_97 : decode cX8_init 97 = .ok (.aload_n 0, 1) := gz_d tdX8_init_t0_ok 51 rfl
theorem dX8_init_98 : decode cX8_init 98 = .ok (.bipush 10, 2) := gz_d tdX8_init_t0_ok 52 rfl
theorem dX8_init_100 : decode cX8_init 100 = .ok (.newarray .double, 2) := gz_d tdX8_init_t0_ok 53 rfl
theorem dX8_init_102 : decode cX8_init 102 = .ok (.putfield 51, 3) := gz_d tdX8_init_t0_ok 54 rfl
theorem dX8_init_105 : decode cX8_init 105 = .ok (.aload_n 0, 1) := gz_d tdX8_init_t0_ok 55 rfl
theorem dX8_init_106 : decode cX8_init 106 = .ok (.bipush 10, 2) := gz_d tdX8_init_t0_ok 56 rfl
theorem dX8_init_108 : decode cX8_init 108 = .ok (.newarray .int, 2) := gz_d tdX8_init_t0_ok 57 rfl
theorem dX8_init_110 : decode cX8_init 110 = .ok (.putfield 54, 3) := gz_d tdX8_init_t0_ok 58 rfl
theorem dX8_init_113 : decode cX8_init 113 = .ok (.aload_n 0, 1) := gz_d tdX8_init_t0_ok 59 rfl
def tdX8_init_t1 : List (Nat × Instr × Nat) := [(114, .bipush 10, 2), (116, .newarray .boolean, 2), (118, .putfield 57, 3), (121, .aload_n 0, 1), (122, .iconst 4, 1), (123, .newarray .int, 2), (125, .putfield 61, 3), (128, .aload_n 0, 1), (129, .invokevirtual 64, 3), (132, .return_, 1)]
theorem tdX8_init_t1_ok : gz_dec cX8_init tdX8_init_t1 = true := by decide +kernel
theorem dX8_init_114 : decode cX8_init 114 = .ok (.bipush 10, 2) := gz_d tdX8_init_t1_ok 0 rfl
theorem dX8_init_116 : decode cX8_init 116 = .ok (.newarray .boolean, 2) := gz_d tdX8_init_t1_ok 1 rfl
theorem dX8_init_118 : decode cX8_init 118 = .ok (.putfield 57, 3) := gz_d tdX8_init_t1_ok 2 rfl
theorem dX8_init_121 : decode cX8_init 121 = .ok (.aload_n 0, 1) := gz_d tdX8_init_t1_ok 3 rfl
theorem dX8_init_122 : decode cX8_init 122 = .ok (.iconst 4, 1) := gz_d tdX8_init_t1_ok 4 rfl
theorem dX8_init_123 : decode cX8_init 123 = .ok (.newarray .int, 2) := gz_d tdX8_init_t1_ok 5 rfl
theorem dX8_init_125 : decode cX8_init 125 = .ok (.putfield 61, 3) := gz_d tdX8_init_t1_ok 6 rfl
theorem dX8_init_128 : decode cX8_init 128 = .ok (.aload_n 0, 1) := gz_d tdX8_init_t1_ok 7 rfl
theorem dX8_init_129 : decode cX8_init 129 = .ok (.invokevirtual 64, 3) := gz_d tdX8_init_t1_ok 8 rfl
theorem dX8_init_132 : decode cX8_init 132 = .ok (.return_, 1) := gz_d tdX8_init_t1_ok 9 rfl
def tdX8_in_t0 : List (Nat × Instr × Nat) := [(0, .iload_n 0, 1), (1, .iload_n 1, 1), (2, .if_icmp .lt 12, 3), (5, .iload_n 0, 1), (6, .iload_n 2, 1), (7, .if_icmp .gt 7, 3), (10, .iconst 1, 1), (11, .goto 4, 3), (14, .iconst 0, 1), (15, .ireturn, 1)]
theorem tdX8_in_t0_ok : gz_dec cX8_in tdX8_in_t0 = true := by decide +kernel
theorem dX8_in_0 : decode cX8_in 0 = .ok (.iload_n 0, 1) := gz_d tdX8_in_t0_ok 0 rfl
theorem dX8_in_1 : decode cX8_in 1 = .ok (.iload_n 1, 1) := gz_d tdX8_in_t0_ok 1 rfl
theorem dX8_in_2 : decode cX8_in 2 = .ok (.if_icmp .lt 12, 3) := gz_d tdX8_in_t0_ok 2 rfl
theorem dX8_in_5 : decode cX8_in 5 = .ok (.iload_n 0, 1) := gz_d tdX8_in_t0_ok 3 rfl
theorem dX8_in_6 : decode cX8_in 6 = .ok (.iload_n 2, 1) := gz_d tdX8_in_t0_ok 4 rfl
theorem dX8_in_7 : decode cX8_in 7 = .ok (.if_icmp .gt 7, 3) := gz_d tdX8_in_t0_ok 5 rfl
theorem dX8_in_10 : decode cX8_in 10 = .ok (.iconst 1, 1) := gz_d tdX8_in_t0_ok 6 rfl
theorem dX8_in_11 : decode cX8_in 11 = .ok (.goto 4, 3) := gz_d tdX8_in_t0_ok 7 rfl
theorem dX8_in_14 : decode cX8_in 14 = .ok (.iconst 0, 1) := gz_d tdX8_in_t0_ok 8 rfl
theorem dX8_in_15 : decode cX8_in 15 = .ok (.ireturn, 1) := gz_d tdX8_in_t0_ok 9 rfl
def tdX8_dice_t0 : List (Nat × Instr × Nat) := [(0, .iload_n 1, 1), (1, .ifCond .ne 10, 3), (4, .aload_n 0, 1), (5, .getfield 7, 3), (8, .goto 7, 3), (11, .aload_n 0, 1), (12, .getfield 13, 3), (15, .ireturn, 1)]
theorem tdX8_dice_t0_ok : gz_dec cX8_dice tdX8_dice_t0 = true := by decide +kernel
theorem dX8_dice_0 : decode cX8_dice 0 = .ok (.iload_n 1, 1) := gz_d tdX8_dice_t0_ok 0 rfl
theorem dX8_dice_1 : decode cX8_dice 1 = .ok (.ifCond .ne 10, 3) := gz_d tdX8_dice_t0_ok 1 rfl
theorem dX8_dice_4 : decode cX8_dice 4 = .ok (.aload_n 0, 1) := gz_d tdX8_dice_t0_ok 2 rfl
theorem dX8_dice_5 : decode cX8_dice 5 = .ok (.getfield 7, 3) := gz_d tdX8_dice_t0_ok 3 rfl
theorem dX8_dice_8 : decode cX8_dice 8 = .ok (.goto 7, 3) := gz_d tdX8_dice_t0_ok 4 rfl
theorem dX8_dice_11 : decode cX8_dice 11 = .ok (.aload_n 0, 1) := gz_d tdX8_dice_t0_ok 5 rfl
theorem dX8_dice_12 : decode cX8_dice 12 = .ok (.getfield 13, 3) := gz_d tdX8_dice_t0_ok 6 rfl
theorem dX8_dice_15 : decode cX8_dice 15 = .ok (.ireturn, 1) := gz_d tdX8_dice_t0_ok 7 rfl
def tdX8_most_t0 : List (Nat × Instr × Nat) := [(0, .aload_n 0, 1), (1, .getfield 7, 3), (4, .aload_n 0, 1), (5, .getfield 13, 3), (8, .iadd, 1), (9, .aload_n 0, 1), (10, .getfield 16, 3), (13, .imul, 1), (14, .ireturn, 1)]
theorem tdX8_most_t0_ok : gz_dec cX8_most tdX8_most_t0 = true := by decide +kernel
theorem dX8_most_0 : decode cX8_most 0 = .ok (.aload_n 0, 1) := gz_d tdX8_most_t0_ok 0 rfl
theorem dX8_most_1 : decode cX8_most 1 = .ok (.getfield 7, 3) := gz_d tdX8_most_t0_ok 1 rfl
theorem dX8_most_4 : decode cX8_most 4 = .ok (.aload_n 0, 1) := gz_d tdX8_most_t0_ok 2 rfl
theorem dX8_most_5 : decode cX8_most 5 = .ok (.getfield 13, 3) := gz_d tdX8_most_t0_ok 3 rfl
theorem dX8_most_8 : decode cX8_most 8 = .ok (.iadd, 1) := gz_d tdX8_most_t0_ok 4 rfl
theorem dX8_most_9 : decode cX8_most 9 = .ok (.aload_n 0, 1) := gz_d tdX8_most_t0_ok 5 rfl
theorem dX8_most_10 : decode cX8_most 10 = .ok (.getfield 16, 3) := gz_d tdX8_most_t0_ok 6 rfl
theorem dX8_most_13 : decode cX8_most 13 = .ok (.imul, 1) := gz_d tdX8_most_t0_ok 7 rfl
theorem dX8_most_14 : decode cX8_most 14 = .ok (.ireturn, 1) := gz_d tdX8_most_t0_ok 8 rfl
def tdX8_product_t0 : List (Nat × Instr × Nat) := [(0, .iload_n 0, 1), (1, .iconst 2, 1), (2, .if_icmp .ge 7, 3), (5, .iconst 1, 1), (6, .goto 14, 3), (9, .iload_n 0, 1), (10, .iconst 2, 1), (11, .if_icmp .ne 7, 3), (14, .iconst 2, 1), (15, .goto 5, 3), (18, .bipush 6, 2), (20, .ireturn, 1)]
theorem tdX8_product_t0_ok : gz_dec cX8_product tdX8_product_t0 = true := by decide +kernel
theorem dX8_product_0 : decode cX8_product 0 = .ok (.iload_n 0, 1) := gz_d tdX8_product_t0_ok 0 rfl
theorem dX8_product_1 : decode cX8_product 1 = .ok (.iconst 2, 1) := gz_d tdX8_product_t0_ok 1 rfl
theorem dX8_product_2 : decode cX8_product 2 = .ok (.if_icmp .ge 7, 3) := gz_d tdX8_product_t0_ok 2 rfl
theorem dX8_product_5 : decode cX8_product 5 = .ok (.iconst 1, 1) := gz_d tdX8_product_t0_ok 3 rfl
theorem dX8_product_6 : decode cX8_product 6 = .ok (.goto 14, 3) := gz_d tdX8_product_t0_ok 4 rfl
theorem dX8_product_9 : decode cX8_product 9 = .ok (.iload_n 0, 1) := gz_d tdX8_product_t0_ok 5 rfl
theorem dX8_product_10 : decode cX8_product 10 = .ok (.iconst 2, 1) := gz_d tdX8_product_t0_ok 6 rfl
theorem dX8_product_11 : decode cX8_product 11 = .ok (.if_icmp .ne 7, 3) := gz_d tdX8_product_t0_ok 7 rfl
theorem dX8_product_14 : decode cX8_product 14 = .ok (.iconst 2, 1) := gz_d tdX8_product_t0_ok 8 rfl
theorem dX8_product_15 : decode cX8_product 15 = .ok (.goto 5, 3) := gz_d tdX8_product_t0_ok 9 rfl
theorem dX8_product_18 : decode cX8_product 18 = .ok (.bipush 6, 2) := gz_d tdX8_product_t0_ok 10 rfl
theorem dX8_product_20 : decode cX8_product 20 = .ok (.ireturn, 1) := gz_d tdX8_product_t0_ok 11 rfl
end
section
def tdX8_layHands_t0 : List (Nat × Instr × Nat) := [(0, .aload_n 0, 1), (1, .iload_n 1, 1), (2, .invokevirtual 67, 3), (5, .istore_n 2, 1), (6, .iconst 1, 1), (7, .istore_n 3, 1), (8, .iconst 0, 1), (9, .istore 4, 2), (11, .iload 4, 2), (13, .iload_n 2, 1), (14, .if_icmp .ge 16, 3), (17, .iload_n 3, 1), (18, .aload_n 0, 1), (19, .getfield 16, 3), (22, .imul, 1), (23, .istore_n 3, 1), (24, .iinc 4 1, 3), (27, .goto (-16), 3), (30, .iconst 0, 1), (31, .istore 4, 2), (33, .iconst 0, 1), (34, .istore 5, 2), (36, .iload 5, 2), (38, .iload_n 3, 1), (39, .if_icmp .ge 205, 3), (42, .iload 5, 2), (44, .istore 6, 2), (46, .iconst 1, 1), (47, .istore 7, 2), (49, .iload_n 2, 1), (50, .iconst 1, 1), (51, .isub, 1), (52, .istore 8, 2), (54, .iload 8, 2), (56, .ifCond .lt 71, 3), (59, .aload_n 0, 1), (60, .getfield 35, 3), (63, .iload 8, 2), (65, .iload 6, 2), (67, .aload_n 0, 1), (68, .getfield 16, 3), (71, .irem, 1), (72, .iastore, 1), (73, .iload 6, 2), (75, .aload_n 0, 1), (76, .getfield 16, 3), (79, .idiv, 1), (80, .istore 6, 2), (82, .iload 7, 2), (84, .ifCond .eq 34, 3), (87, .iload 8, 2), (89, .iload_n 2, 1), (90, .iconst 1, 1), (91, .isub, 1), (92, .if_icmp .eq 22, 3), (95, .aload_n 0, 1), (96, .getfield 35, 3), (99, .iload 8, 2), (101, .iaload, 1), (102, .aload_n 0, 1)]
theorem tdX8_layHands_t0_ok : gz_dec cX8_layHands tdX8_layHands_t0 = true := by decide +kernel
theorem dX8_layHands_0 : decode cX8_layHands 0 = .ok (.aload_n 0, 1) := gz_d tdX8_layHands_t0_ok 0 rfl
theorem dX8_layHands_1 : decode cX8_layHands 1 = .ok (.iload_n 1, 1) := gz_d tdX8_layHands_t0_ok 1 rfl
theorem dX8_layHands_2 : decode cX8_layHands 2 = .ok (.invokevirtual 67, 3) := gz_d tdX8_layHands_t0_ok 2 rfl
theorem dX8_layHands_5 : decode cX8_layHands 5 = .ok (.istore_n 2, 1) := gz_d tdX8_layHands_t0_ok 3 rfl
theorem dX8_layHands_6 : decode cX8_layHands 6 = .ok (.iconst 1, 1) := gz_d tdX8_layHands_t0_ok 4 rfl
theorem dX8_layHands_7 : decode cX8_layHands 7 = .ok (.istore_n 3, 1) := gz_d tdX8_layHands_t0_ok 5 rfl
theorem dX8_layHands_8 : decode cX8_layHands 8 = .ok (.iconst 0, 1) := gz_d tdX8_layHands_t0_ok 6 rfl
theorem dX8_layHands_9 : decode cX8_layHands 9 = .ok (.istore 4, 2) := gz_d tdX8_layHands_t0_ok 7 rfl
theorem dX8_layHands_11 : decode cX8_layHands 11 = .ok (.iload 4, 2) := gz_d tdX8_layHands_t0_ok 8 rfl
theorem dX8_layHands_13 : decode cX8_layHands 13 = .ok (.iload_n 2, 1) := gz_d tdX8_layHands_t0_ok 9 rfl
theorem dX8_layHands_14 : decode cX8_layHands 14 = .ok (.if_icmp .ge 16, 3) := gz_d tdX8_layHands_t0_ok 10 rfl
theorem dX8_layHands_17 : decode cX8_layHands 17 = .ok (.iload_n 3, 1) := gz_d tdX8_layHands_t0_ok 11 rfl
theorem dX8_layHands_18 : decode cX8_layHands 18 = .ok (.aload_n 0, 1) := gz_d tdX8_layHands_t0_ok 12 rfl
theorem dX8_layHands_19 : decode cX8_layHands 19 = .ok (.getfield 16, 3) := gz_d tdX8_layHands_t0_ok 13 rfl
theorem dX8_layHands_22 : decode cX8_layHands 22 = .ok (.imul, 1) := gz_d tdX8_layHands_t0_ok 14 rfl
theorem dX8_layHands_23 : decode cX8_layHands 23 = .ok (.istore_n 3, 1) := gz_d tdX8_layHands_t0_ok 15 rfl
theorem dX8_layHands_24 : decode cX8_layHands 24 = .ok (.iinc 4 1, 3) := gz_d tdX8_layHands_t0_ok 16 rfl
theorem dX8_layHands_27 : decode cX8_layHands 27 = .ok (.goto (-16), 3) := gz_d tdX8_layHands_t0_ok 17 rfl
theorem dX8_layHands_30 : decode cX8_layHands 30 = .ok (.iconst 0, 1) := gz_d tdX8_layHands_t0_ok 18 rfl
theorem dX8_layHands_31 : decode cX8_layHands 31 = .ok (.istore 4, 2) := gz_d tdX8_layHands_t0_ok 19 rfl
theorem dX8_layHands_33 : decode cX8_layHands 33 = .ok (.iconst 0, 1) := gz_d tdX8_layHands_t0_ok 20 rfl
theorem dX8_layHands_34 : decode cX8_layHands 34 = .ok (.istore 5, 2) := gz_d tdX8_layHands_t0_ok 21 rfl
theorem dX8_layHands_36 : decode cX8_layHands 36 = .ok (.iload 5, 2) := gz_d tdX8_layHands_t0_ok 22 rfl
theorem dX8_layHands_38 : decode cX8_layHands 38 = .ok (.iload_n 3, 1) := gz_d tdX8_layHands_t0_ok 23 rfl
theorem dX8_layHands_39 : decode cX8_layHands 39 = .ok (.if_icmp .ge 205, 3) := gz_d tdX8_layHands_t0_ok 24 rfl
theorem dX8_layHands_42 : decode cX8_layHands 42 = .ok (.iload 5, 2) := gz_d tdX8_layHands_t0_ok 25 rfl
theorem dX8_layHands_44 : decode cX8_layHands 44 = .ok (.istore 6, 2) := gz_d tdX8_layHands_t0_ok 26 rfl
theorem dX8_layHands_46 : decode cX8_layHands 46 = .ok (.iconst 1, 1) := gz_d tdX8_layHands_t0_ok 27 rfl
theorem dX8_layHands_47 : decode cX8_layHands 47 = .ok (.istore 7, 2) := gz_d tdX8_layHands_t0_ok 28 rfl
theorem dX8_layHands_49 : decode cX8_layHands 49 = .ok (.iload_n 2, 1) := gz_d tdX8_layHands_t0_ok 29 rfl
theorem dX8_layHands_50 : decode cX8_layHands 50 = .ok (.iconst 1, 1) := gz_d tdX8_layHands_t0_ok 30 rfl
theorem dX8_layHands_51 : decode cX8_layHands 51 = .ok (.isub, 1) := gz_d tdX8_layHands_t0_ok 31 rfl
theorem dX8_layHands_52 : decode cX8_layHands 52 = .ok (.istore 8, 2) := gz_d tdX8_layHands_t0_ok 32 rfl
theorem dX8_layHands_54 : decode cX8_layHands 54 = .ok (.iload 8, 2) := gz_d tdX8_layHands_t0_ok 33 rfl
theorem dX8_layHands_56 : decode cX8_layHands 56 = .ok (.ifCond .lt 71, 3) := gz_d tdX8_layHands_t0_ok 34 rfl
theorem dX8_layHands_59 : decode cX8_layHands 59 = .ok (.aload_n 0, 1) := gz_d tdX8_layHands_t0_ok 35 rfl
theorem dX8_layHands_60 : decode cX8_layHands 60 = .ok (.getfield 35, 3) := gz_d tdX8_layHands_t0_ok 36 rfl
theorem dX8_layHands_63 : decode cX8_layHands 63 = .ok (.iload 8, 2) := gz_d tdX8_layHands_t0_ok 37 rfl
theorem dX8_layHands_65 : decode cX8_layHands 65 = .ok (.iload 6, 2) := gz_d tdX8_layHands_t0_ok 38 rfl
theorem dX8_layHands_67 : decode cX8_layHands 67 = .ok (.aload_n 0, 1) := gz_d tdX8_layHands_t0_ok 39 rfl
theorem dX8_layHands_68 : decode cX8_layHands 68 = .ok (.getfield 16, 3) := gz_d tdX8_layHands_t0_ok 40 rfl
theorem dX8_layHands_71 : decode cX8_layHands 71 = .ok (.irem, 1) := gz_d tdX8_layHands_t0_ok 41 rfl
theorem dX8_layHands_72 : decode cX8_layHands 72 = .ok (.iastore, 1) := gz_d tdX8_layHands_t0_ok 42 rfl
theorem dX8_layHands_73 : decode cX8_layHands 73 = .ok (.iload 6, 2) := gz_d tdX8_layHands_t0_ok 43 rfl
theorem dX8_layHands_75 : decode cX8_layHands 75 = .ok (.aload_n 0, 1) := gz_d tdX8_layHands_t0_ok 44 rfl
theorem dX8_layHands_76 : decode cX8_layHands 76 = .ok (.getfield 16, 3) := gz_d tdX8_layHands_t0_ok 45 rfl
theorem dX8_layHands_79 : decode cX8_layHands 79 = .ok (.idiv, 1) := gz_d tdX8_layHands_t0_ok 46 rfl
theorem dX8_layHands_80 : decode cX8_layHands 80 = .ok (.istore 6, 2) := gz_d tdX8_layHands_t0_ok 47 rfl
theorem dX8_layHands_82 : decode cX8_layHands 82 = .ok (.iload 7, 2) := gz_d tdX8_layHands_t0_ok 48 rfl
theorem dX8_layHands_84 : decode cX8_layHands 84 = .ok (.ifCond .eq 34, 3) := gz_d tdX8_layHands_t0_ok 49 rfl
theorem dX8_layHands_87 : decode cX8_layHands 87 = .ok (.iload 8, 2) := gz_d tdX8_layHands_t0_ok 50 rfl
theorem dX8_layHands_89 : decode cX8_layHands 89 = .ok (.iload_n 2, 1) := gz_d tdX8_layHands_t0_ok 51 rfl
theorem dX8_layHands_90 : decode cX8_layHands 90 = .ok (.iconst 1, 1) := gz_d tdX8_layHands_t0_ok 52 rfl
theorem dX8_layHands_91 : decode cX8_layHands 91 = .ok (.isub, 1) := gz_d tdX8_layHands_t0_ok 53 rfl
theorem dX8_layHands_92 : decode cX8_layHands 92 = .ok (.if_icmp .eq 22, 3) := gz_d tdX8_layHands_t0_ok 54 rfl
theorem dX8_layHands_95 : decode cX8_layHands 95 = .ok (.aload_n 0, 1) := gz_d tdX8_layHands_t0_ok 55 rfl
theorem dX8_layHands_96 : decode cX8_layHands 96 = .ok (.getfield 35, 3) := gz_d tdX8_layHands_t0_ok 56 rfl
theorem dX8_layHands_99 : decode cX8_layHands 99 = .ok (.iload 8, 2) := gz_d tdX8_layHands_t0_ok 57 rfl
theorem dX8_layHands_101 : decode cX8_layHands 101 = .ok (.iaload, 1) := gz_d tdX8_layHands_t0_ok 58 rfl
theorem dX8_layHands_102 : decode cX8_layHands 102 = .ok (.aload_n 0, 1) := gz_d tdX8_layHands_t0_ok 59 rfl
def tdX8_layHands_t1 : List (Nat × Instr × Nat) := [(103, .getfield 35, 3), (106, .iload 8, 2), (108, .iconst 1, 1), (109, .iadd, 1), (110, .iaload, 1), (111, .if_icmp .gt 7, 3), (114, .iconst 1, 1), (115, .goto 4, 3), (118, .iconst 0, 1), (119, .istore 7, 2), (121, .iinc 8 (-1), 3), (124, .goto (-70), 3), (127, .iload 7, 2), (129, .ifCond .eq 109, 3), (132, .iload_n 2, 1), (133, .invokestatic 71, 3), (136, .istore 8, 2), (138, .iconst 0, 1), (139, .istore 9, 2), (141, .iload 9, 2), (143, .iconst 4, 1), (144, .if_icmp .ge 78, 3), (147, .iconst 0, 1), (148, .istore 10, 2), (150, .iconst 0, 1), (151, .istore 11, 2), (153, .iload 11, 2), (155, .iload_n 2, 1), (156, .if_icmp .ge 31, 3), (159, .iload 10, 2), (161, .aload_n 0, 1), (162, .getfield 35, 3), (165, .iload 11, 2), (167, .iaload, 1), (168, .iload 9, 2), (170, .if_icmp .ne 7, 3), (173, .iconst 1, 1), (174, .goto 4, 3), (177, .iconst 0, 1), (178, .iadd, 1), (179, .istore 10, 2), (181, .iinc 11 1, 3), (184, .goto (-31), 3), (187, .aload_n 0, 1), (188, .getfield 19, 3), (191, .bipush 16, 2), (193, .iload_n 1, 1), (194, .imul, 1), (195, .iconst 4, 1), (196, .iload 4, 2), (198, .imul, 1), (199, .iadd, 1), (200, .iload 9, 2), (202, .iadd, 1), (203, .iload 10, 2), (205, .iastore, 1), (206, .iload 8, 2), (208, .iload 10, 2), (210, .invokestatic 71, 3), (213, .idiv, 1)]
theorem tdX8_layHands_t1_ok : gz_dec cX8_layHands tdX8_layHands_t1 = true := by decide +kernel
theorem dX8_layHands_103 : decode cX8_layHands 103 = .ok (.getfield 35, 3) := gz_d tdX8_layHands_t1_ok 0 rfl
theorem dX8_layHands_106 : decode cX8_layHands 106 = .ok (.iload 8, 2) := gz_d tdX8_layHands_t1_ok 1 rfl
theorem dX8_layHands_108 : decode cX8_layHands 108 = .ok (.iconst 1, 1) := gz_d tdX8_layHands_t1_ok 2 rfl
theorem dX8_layHands_109 : decode cX8_layHands 109 = .ok (.iadd, 1) := gz_d tdX8_layHands_t1_ok 3 rfl
theorem dX8_layHands_110 : decode cX8_layHands 110 = .ok (.iaload, 1) := gz_d tdX8_layHands_t1_ok 4 rfl
theorem dX8_layHands_111 : decode cX8_layHands 111 = .ok (.if_icmp .gt 7, 3) := gz_d tdX8_layHands_t1_ok 5 rfl
theorem dX8_layHands_114 : decode cX8_layHands 114 = .ok (.iconst 1, 1) := gz_d tdX8_layHands_t1_ok 6 rfl
theorem dX8_layHands_115 : decode cX8_layHands 115 = .ok (.goto 4, 3) := gz_d tdX8_layHands_t1_ok 7 rfl
theorem dX8_layHands_118 : decode cX8_layHands 118 = .ok (.iconst 0, 1) := gz_d tdX8_layHands_t1_ok 8 rfl
theorem dX8_layHands_119 : decode cX8_layHands 119 = .ok (.istore 7, 2) := gz_d tdX8_layHands_t1_ok 9 rfl
theorem dX8_layHands_121 : decode cX8_layHands 121 = .ok (.iinc 8 (-1), 3) := gz_d tdX8_layHands_t1_ok 10 rfl
theorem dX8_layHands_124 : decode cX8_layHands 124 = .ok (.goto (-70), 3) := gz_d tdX8_layHands_t1_ok 11 rfl
theorem dX8_layHands_127 : decode cX8_layHands 127 = .ok (.iload 7, 2) := gz_d tdX8_layHands_t1_ok 12 rfl
theorem dX8_layHands_129 : decode cX8_layHands 129 = .ok (.ifCond .eq 109, 3) := gz_d tdX8_layHands_t1_ok 13 rfl
theorem dX8_layHands_132 : decode cX8_layHands 132 = .ok (.iload_n 2, 1) := gz_d tdX8_layHands_t1_ok 14 rfl
theorem dX8_layHands_133 : decode cX8_layHands 133 = .ok (.invokestatic 71, 3) := gz_d tdX8_layHands_t1_ok 15 rfl
theorem dX8_layHands_136 : decode cX8_layHands 136 = .ok (.istore 8, 2) := gz_d tdX8_layHands_t1_ok 16 rfl
theorem dX8_layHands_138 : decode cX8_layHands 138 = .ok (.iconst 0, 1) := gz_d tdX8_layHands_t1_ok 17 rfl
theorem dX8_layHands_139 : decode cX8_layHands 139 = .ok (.istore 9, 2) := gz_d tdX8_layHands_t1_ok 18 rfl
theorem dX8_layHands_141 : decode cX8_layHands 141 = .ok (.iload 9, 2) := gz_d tdX8_layHands_t1_ok 19 rfl
theorem dX8_layHands_143 : decode cX8_layHands 143 = .ok (.iconst 4, 1) := gz_d tdX8_layHands_t1_ok 20 rfl
theorem dX8_layHands_144 : decode cX8_layHands 144 = .ok (.if_icmp .ge 78, 3) := gz_d tdX8_layHands_t1_ok 21 rfl
theorem dX8_layHands_147 : decode cX8_layHands 147 = .ok (.iconst 0, 1) := gz_d tdX8_layHands_t1_ok 22 rfl
theorem dX8_layHands_148 : decode cX8_layHands 148 = .ok (.istore 10, 2) := gz_d tdX8_layHands_t1_ok 23 rfl
theorem dX8_layHands_150 : decode cX8_layHands 150 = .ok (.iconst 0, 1) := gz_d tdX8_layHands_t1_ok 24 rfl
theorem dX8_layHands_151 : decode cX8_layHands 151 = .ok (.istore 11, 2) := gz_d tdX8_layHands_t1_ok 25 rfl
theorem dX8_layHands_153 : decode cX8_layHands 153 = .ok (.iload 11, 2) := gz_d tdX8_layHands_t1_ok 26 rfl
theorem dX8_layHands_155 : decode cX8_layHands 155 = .ok (.iload_n 2, 1) := gz_d tdX8_layHands_t1_ok 27 rfl
theorem dX8_layHands_156 : decode cX8_layHands 156 = .ok (.if_icmp .ge 31, 3) := gz_d tdX8_layHands_t1_ok 28 rfl
theorem dX8_layHands_159 : decode cX8_layHands 159 = .ok (.iload 10, 2) := gz_d tdX8_layHands_t1_ok 29 rfl
theorem dX8_layHands_161 : decode cX8_layHands 161 = .ok (.aload_n 0, 1) := gz_d tdX8_layHands_t1_ok 30 rfl
theorem dX8_layHands_162 : decode cX8_layHands 162 = .ok (.getfield 35, 3) := gz_d tdX8_layHands_t1_ok 31 rfl
theorem dX8_layHands_165 : decode cX8_layHands 165 = .ok (.iload 11, 2) := gz_d tdX8_layHands_t1_ok 32 rfl
theorem dX8_layHands_167 : decode cX8_layHands 167 = .ok (.iaload, 1) := gz_d tdX8_layHands_t1_ok 33 rfl
theorem dX8_layHands_168 : decode cX8_layHands 168 = .ok (.iload 9, 2) := gz_d tdX8_layHands_t1_ok 34 rfl
theorem dX8_layHands_170 : decode cX8_layHands 170 = .ok (.if_icmp .ne 7, 3) := gz_d tdX8_layHands_t1_ok 35 rfl
theorem dX8_layHands_173 : decode cX8_layHands 173 = .ok (.iconst 1, 1) := gz_d tdX8_layHands_t1_ok 36 rfl
theorem dX8_layHands_174 : decode cX8_layHands 174 = .ok (.goto 4, 3) := gz_d tdX8_layHands_t1_ok 37 rfl
theorem dX8_layHands_177 : decode cX8_layHands 177 = .ok (.iconst 0, 1) := gz_d tdX8_layHands_t1_ok 38 rfl
theorem dX8_layHands_178 : decode cX8_layHands 178 = .ok (.iadd, 1) := gz_d tdX8_layHands_t1_ok 39 rfl
theorem dX8_layHands_179 : decode cX8_layHands 179 = .ok (.istore 10, 2) := gz_d tdX8_layHands_t1_ok 40 rfl
theorem dX8_layHands_181 : decode cX8_layHands 181 = .ok (.iinc 11 1, 3) := gz_d tdX8_layHands_t1_ok 41 rfl
theorem dX8_layHands_184 : decode cX8_layHands 184 = .ok (.goto (-31), 3) := gz_d tdX8_layHands_t1_ok 42 rfl
theorem dX8_layHands_187 : decode cX8_layHands 187 = .ok (.aload_n 0, 1) := gz_d tdX8_layHands_t1_ok 43 rfl
theorem dX8_layHands_188 : decode cX8_layHands 188 = .ok (.getfield 19, 3) := gz_d tdX8_layHands_t1_ok 44 rfl
theorem dX8_layHands_191 : decode cX8_layHands 191 = .ok (.bipush 16, 2) := gz_d tdX8_layHands_t1_ok 45 rfl
theorem dX8_layHands_193 : decode cX8_layHands 193 = .ok (.iload_n 1, 1) := gz_d tdX8_layHands_t1_ok 46 rfl
theorem dX8_layHands_194 : decode cX8_layHands 194 = .ok (.imul, 1) := gz_d tdX8_layHands_t1_ok 47 rfl
theorem dX8_layHands_195 : decode cX8_layHands 195 = .ok (.iconst 4, 1) := gz_d tdX8_layHands_t1_ok 48 rfl
theorem dX8_layHands_196 : decode cX8_layHands 196 = .ok (.iload 4, 2) := gz_d tdX8_layHands_t1_ok 49 rfl
theorem dX8_layHands_198 : decode cX8_layHands 198 = .ok (.imul, 1) := gz_d tdX8_layHands_t1_ok 50 rfl
theorem dX8_layHands_199 : decode cX8_layHands 199 = .ok (.iadd, 1) := gz_d tdX8_layHands_t1_ok 51 rfl
theorem dX8_layHands_200 : decode cX8_layHands 200 = .ok (.iload 9, 2) := gz_d tdX8_layHands_t1_ok 52 rfl
theorem dX8_layHands_202 : decode cX8_layHands 202 = .ok (.iadd, 1) := gz_d tdX8_layHands_t1_ok 53 rfl
theorem dX8_layHands_203 : decode cX8_layHands 203 = .ok (.iload 10, 2) := gz_d tdX8_layHands_t1_ok 54 rfl
theorem dX8_layHands_205 : decode cX8_layHands 205 = .ok (.iastore, 1) := gz_d tdX8_layHands_t1_ok 55 rfl
theorem dX8_layHands_206 : decode cX8_layHands 206 = .ok (.iload 8, 2) := gz_d tdX8_layHands_t1_ok 56 rfl
theorem dX8_layHands_208 : decode cX8_layHands 208 = .ok (.iload 10, 2) := gz_d tdX8_layHands_t1_ok 57 rfl
theorem dX8_layHands_210 : decode cX8_layHands 210 = .ok (.invokestatic 71, 3) := gz_d tdX8_layHands_t1_ok 58 rfl
theorem dX8_layHands_213 : decode cX8_layHands 213 = .ok (.idiv, 1) := gz_d tdX8_layHands_t1_ok 59 rfl
def tdX8_layHands_t2 : List (Nat × Instr × Nat) := [(214, .istore 8, 2), (216, .iinc 9 1, 3), (219, .goto (-78), 3), (222, .aload_n 0, 1), (223, .getfield 26, 3), (226, .iconst 4, 1), (227, .iload_n 1, 1), (228, .imul, 1), (229, .iload 4, 2), (231, .iadd, 1), (232, .iload 8, 2), (234, .iastore, 1), (235, .iinc 4 1, 3), (238, .iinc 5 1, 3), (241, .goto (-205), 3), (244, .aload_n 0, 1), (245, .getfield 23, 3), (248, .iload_n 1, 1), (249, .iload 4, 2), (251, .iastore, 1), (252, .return_, 1)]
theorem tdX8_layHands_t2_ok : gz_dec cX8_layHands tdX8_layHands_t2 = true := by decide +kernel
theorem dX8_layHands_214 : decode cX8_layHands 214 = .ok (.istore 8, 2) := gz_d tdX8_layHands_t2_ok 0 rfl
theorem dX8_layHands_216 : decode cX8_layHands 216 = .ok (.iinc 9 1, 3) := gz_d tdX8_layHands_t2_ok 1 rfl
theorem dX8_layHands_219 : decode cX8_layHands 219 = .ok (.goto (-78), 3) := gz_d tdX8_layHands_t2_ok 2 rfl
theorem dX8_layHands_222 : decode cX8_layHands 222 = .ok (.aload_n 0, 1) := gz_d tdX8_layHands_t2_ok 3 rfl
theorem dX8_layHands_223 : decode cX8_layHands 223 = .ok (.getfield 26, 3) := gz_d tdX8_layHands_t2_ok 4 rfl
theorem dX8_layHands_226 : decode cX8_layHands 226 = .ok (.iconst 4, 1) := gz_d tdX8_layHands_t2_ok 5 rfl
theorem dX8_layHands_227 : decode cX8_layHands 227 = .ok (.iload_n 1, 1) := gz_d tdX8_layHands_t2_ok 6 rfl
theorem dX8_layHands_228 : decode cX8_layHands 228 = .ok (.imul, 1) := gz_d tdX8_layHands_t2_ok 7 rfl
theorem dX8_layHands_229 : decode cX8_layHands 229 = .ok (.iload 4, 2) := gz_d tdX8_layHands_t2_ok 8 rfl
theorem dX8_layHands_231 : decode cX8_layHands 231 = .ok (.iadd, 1) := gz_d tdX8_layHands_t2_ok 9 rfl
theorem dX8_layHands_232 : decode cX8_layHands 232 = .ok (.iload 8, 2) := gz_d tdX8_layHands_t2_ok 10 rfl
theorem dX8_layHands_234 : decode cX8_layHands 234 = .ok (.iastore, 1) := gz_d tdX8_layHands_t2_ok 11 rfl
theorem dX8_layHands_235 : decode cX8_layHands 235 = .ok (.iinc 4 1, 3) := gz_d tdX8_layHands_t2_ok 12 rfl
theorem dX8_layHands_238 : decode cX8_layHands 238 = .ok (.iinc 5 1, 3) := gz_d tdX8_layHands_t2_ok 13 rfl
theorem dX8_layHands_241 : decode cX8_layHands 241 = .ok (.goto (-205), 3) := gz_d tdX8_layHands_t2_ok 14 rfl
theorem dX8_layHands_244 : decode cX8_layHands 244 = .ok (.aload_n 0, 1) := gz_d tdX8_layHands_t2_ok 15 rfl
theorem dX8_layHands_245 : decode cX8_layHands 245 = .ok (.getfield 23, 3) := gz_d tdX8_layHands_t2_ok 16 rfl
theorem dX8_layHands_248 : decode cX8_layHands 248 = .ok (.iload_n 1, 1) := gz_d tdX8_layHands_t2_ok 17 rfl
theorem dX8_layHands_249 : decode cX8_layHands 249 = .ok (.iload 4, 2) := gz_d tdX8_layHands_t2_ok 18 rfl
theorem dX8_layHands_251 : decode cX8_layHands 251 = .ok (.iastore, 1) := gz_d tdX8_layHands_t2_ok 19 rfl
theorem dX8_layHands_252 : decode cX8_layHands 252 = .ok (.return_, 1) := gz_d tdX8_layHands_t2_ok 20 rfl
def tdX8_lay_t0 : List (Nat × Instr × Nat) := [(0, .aload_n 0, 1), (1, .iconst 0, 1), (2, .invokevirtual 74, 3), (5, .aload_n 0, 1), (6, .iconst 1, 1), (7, .invokevirtual 74, 3), (10, .iconst 0, 1), (11, .istore_n 1, 1), (12, .iload_n 1, 1), (13, .sipush 3888, 3), (16, .if_icmp .ge 16, 3), (19, .aload_n 0, 1), (20, .getfield 29, 3), (23, .iload_n 1, 1), (24, .iconst 1, 1), (25, .iastore, 1), (26, .iinc 1 1, 3), (29, .goto (-17), 3), (32, .aload_n 0, 1), (33, .iconst 0, 1), (34, .putfield 78, 3), (37, .return_, 1)]
theorem tdX8_lay_t0_ok : gz_dec cX8_lay tdX8_lay_t0 = true := by decide +kernel
theorem dX8_lay_0 : decode cX8_lay 0 = .ok (.aload_n 0, 1) := gz_d tdX8_lay_t0_ok 0 rfl
theorem dX8_lay_1 : decode cX8_lay 1 = .ok (.iconst 0, 1) := gz_d tdX8_lay_t0_ok 1 rfl
theorem dX8_lay_2 : decode cX8_lay 2 = .ok (.invokevirtual 74, 3) := gz_d tdX8_lay_t0_ok 2 rfl
theorem dX8_lay_5 : decode cX8_lay 5 = .ok (.aload_n 0, 1) := gz_d tdX8_lay_t0_ok 3 rfl
theorem dX8_lay_6 : decode cX8_lay 6 = .ok (.iconst 1, 1) := gz_d tdX8_lay_t0_ok 4 rfl
theorem dX8_lay_7 : decode cX8_lay 7 = .ok (.invokevirtual 74, 3) := gz_d tdX8_lay_t0_ok 5 rfl
theorem dX8_lay_10 : decode cX8_lay 10 = .ok (.iconst 0, 1) := gz_d tdX8_lay_t0_ok 6 rfl
theorem dX8_lay_11 : decode cX8_lay 11 = .ok (.istore_n 1, 1) := gz_d tdX8_lay_t0_ok 7 rfl
theorem dX8_lay_12 : decode cX8_lay 12 = .ok (.iload_n 1, 1) := gz_d tdX8_lay_t0_ok 8 rfl
theorem dX8_lay_13 : decode cX8_lay 13 = .ok (.sipush 3888, 3) := gz_d tdX8_lay_t0_ok 9 rfl
theorem dX8_lay_16 : decode cX8_lay 16 = .ok (.if_icmp .ge 16, 3) := gz_d tdX8_lay_t0_ok 10 rfl
theorem dX8_lay_19 : decode cX8_lay 19 = .ok (.aload_n 0, 1) := gz_d tdX8_lay_t0_ok 11 rfl
theorem dX8_lay_20 : decode cX8_lay 20 = .ok (.getfield 29, 3) := gz_d tdX8_lay_t0_ok 12 rfl
theorem dX8_lay_23 : decode cX8_lay 23 = .ok (.iload_n 1, 1) := gz_d tdX8_lay_t0_ok 13 rfl
theorem dX8_lay_24 : decode cX8_lay 24 = .ok (.iconst 1, 1) := gz_d tdX8_lay_t0_ok 14 rfl
theorem dX8_lay_25 : decode cX8_lay 25 = .ok (.iastore, 1) := gz_d tdX8_lay_t0_ok 15 rfl
theorem dX8_lay_26 : decode cX8_lay 26 = .ok (.iinc 1 1, 3) := gz_d tdX8_lay_t0_ok 16 rfl
theorem dX8_lay_29 : decode cX8_lay 29 = .ok (.goto (-17), 3) := gz_d tdX8_lay_t0_ok 17 rfl
theorem dX8_lay_32 : decode cX8_lay 32 = .ok (.aload_n 0, 1) := gz_d tdX8_lay_t0_ok 18 rfl
theorem dX8_lay_33 : decode cX8_lay 33 = .ok (.iconst 0, 1) := gz_d tdX8_lay_t0_ok 19 rfl
theorem dX8_lay_34 : decode cX8_lay 34 = .ok (.putfield 78, 3) := gz_d tdX8_lay_t0_ok 20 rfl
theorem dX8_lay_37 : decode cX8_lay 37 = .ok (.return_, 1) := gz_d tdX8_lay_t0_ok 21 rfl
def tdX8_cups_t0 : List (Nat × Instr × Nat) := [(0, .iload_n 1, 1), (1, .iconst 1, 1), (2, .iconst 3, 1), (3, .invokestatic 82, 3), (6, .ifCond .eq 31, 3), (9, .iload_n 2, 1), (10, .iconst 1, 1), (11, .iconst 3, 1), (12, .invokestatic 82, 3), (15, .ifCond .eq 22, 3), (18, .iload_n 3, 1), (19, .iconst 2, 1), (20, .iconst 4, 1), (21, .invokestatic 82, 3), (24, .ifCond .eq 13, 3), (27, .iload_n 1, 1), (28, .iload_n 2, 1), (29, .iadd, 1), (30, .iload_n 3, 1), (31, .imul, 1), (32, .bipush 8, 2), (34, .if_icmp .le 6, 3), (37, .bipush (-2), 2), (39, .ireturn, 1), (40, .aload_n 0, 1), (41, .iload_n 1, 1), (42, .putfield 7, 3), (45, .aload_n 0, 1), (46, .iload_n 2, 1), (47, .putfield 13, 3), (50, .aload_n 0, 1), (51, .iload_n 3, 1), (52, .putfield 16, 3), (55, .aload_n 0, 1), (56, .iload 4, 2), (58, .putfield 86, 3), (61, .aload_n 0, 1), (62, .invokevirtual 64, 3), (65, .aload_n 0, 1), (66, .invokevirtual 89, 3), (69, .ireturn, 1)]
theorem tdX8_cups_t0_ok : gz_dec cX8_cups tdX8_cups_t0 = true := by decide +kernel
theorem dX8_cups_0 : decode cX8_cups 0 = .ok (.iload_n 1, 1) := gz_d tdX8_cups_t0_ok 0 rfl
theorem dX8_cups_1 : decode cX8_cups 1 = .ok (.iconst 1, 1) := gz_d tdX8_cups_t0_ok 1 rfl
theorem dX8_cups_2 : decode cX8_cups 2 = .ok (.iconst 3, 1) := gz_d tdX8_cups_t0_ok 2 rfl
theorem dX8_cups_3 : decode cX8_cups 3 = .ok (.invokestatic 82, 3) := gz_d tdX8_cups_t0_ok 3 rfl
theorem dX8_cups_6 : decode cX8_cups 6 = .ok (.ifCond .eq 31, 3) := gz_d tdX8_cups_t0_ok 4 rfl
theorem dX8_cups_9 : decode cX8_cups 9 = .ok (.iload_n 2, 1) := gz_d tdX8_cups_t0_ok 5 rfl
theorem dX8_cups_10 : decode cX8_cups 10 = .ok (.iconst 1, 1) := gz_d tdX8_cups_t0_ok 6 rfl
theorem dX8_cups_11 : decode cX8_cups 11 = .ok (.iconst 3, 1) := gz_d tdX8_cups_t0_ok 7 rfl
theorem dX8_cups_12 : decode cX8_cups 12 = .ok (.invokestatic 82, 3) := gz_d tdX8_cups_t0_ok 8 rfl
theorem dX8_cups_15 : decode cX8_cups 15 = .ok (.ifCond .eq 22, 3) := gz_d tdX8_cups_t0_ok 9 rfl
theorem dX8_cups_18 : decode cX8_cups 18 = .ok (.iload_n 3, 1) := gz_d tdX8_cups_t0_ok 10 rfl
theorem dX8_cups_19 : decode cX8_cups 19 = .ok (.iconst 2, 1) := gz_d tdX8_cups_t0_ok 11 rfl
theorem dX8_cups_20 : decode cX8_cups 20 = .ok (.iconst 4, 1) := gz_d tdX8_cups_t0_ok 12 rfl
theorem dX8_cups_21 : decode cX8_cups 21 = .ok (.invokestatic 82, 3) := gz_d tdX8_cups_t0_ok 13 rfl
theorem dX8_cups_24 : decode cX8_cups 24 = .ok (.ifCond .eq 13, 3) := gz_d tdX8_cups_t0_ok 14 rfl
theorem dX8_cups_27 : decode cX8_cups 27 = .ok (.iload_n 1, 1) := gz_d tdX8_cups_t0_ok 15 rfl
theorem dX8_cups_28 : decode cX8_cups 28 = .ok (.iload_n 2, 1) := gz_d tdX8_cups_t0_ok 16 rfl
theorem dX8_cups_29 : decode cX8_cups 29 = .ok (.iadd, 1) := gz_d tdX8_cups_t0_ok 17 rfl
theorem dX8_cups_30 : decode cX8_cups 30 = .ok (.iload_n 3, 1) := gz_d tdX8_cups_t0_ok 18 rfl
theorem dX8_cups_31 : decode cX8_cups 31 = .ok (.imul, 1) := gz_d tdX8_cups_t0_ok 19 rfl
theorem dX8_cups_32 : decode cX8_cups 32 = .ok (.bipush 8, 2) := gz_d tdX8_cups_t0_ok 20 rfl
theorem dX8_cups_34 : decode cX8_cups 34 = .ok (.if_icmp .le 6, 3) := gz_d tdX8_cups_t0_ok 21 rfl
theorem dX8_cups_37 : decode cX8_cups 37 = .ok (.bipush (-2), 2) := gz_d tdX8_cups_t0_ok 22 rfl
theorem dX8_cups_39 : decode cX8_cups 39 = .ok (.ireturn, 1) := gz_d tdX8_cups_t0_ok 23 rfl
theorem dX8_cups_40 : decode cX8_cups 40 = .ok (.aload_n 0, 1) := gz_d tdX8_cups_t0_ok 24 rfl
theorem dX8_cups_41 : decode cX8_cups 41 = .ok (.iload_n 1, 1) := gz_d tdX8_cups_t0_ok 25 rfl
theorem dX8_cups_42 : decode cX8_cups 42 = .ok (.putfield 7, 3) := gz_d tdX8_cups_t0_ok 26 rfl
theorem dX8_cups_45 : decode cX8_cups 45 = .ok (.aload_n 0, 1) := gz_d tdX8_cups_t0_ok 27 rfl
theorem dX8_cups_46 : decode cX8_cups 46 = .ok (.iload_n 2, 1) := gz_d tdX8_cups_t0_ok 28 rfl
theorem dX8_cups_47 : decode cX8_cups 47 = .ok (.putfield 13, 3) := gz_d tdX8_cups_t0_ok 29 rfl
theorem dX8_cups_50 : decode cX8_cups 50 = .ok (.aload_n 0, 1) := gz_d tdX8_cups_t0_ok 30 rfl
theorem dX8_cups_51 : decode cX8_cups 51 = .ok (.iload_n 3, 1) := gz_d tdX8_cups_t0_ok 31 rfl
theorem dX8_cups_52 : decode cX8_cups 52 = .ok (.putfield 16, 3) := gz_d tdX8_cups_t0_ok 32 rfl
theorem dX8_cups_55 : decode cX8_cups 55 = .ok (.aload_n 0, 1) := gz_d tdX8_cups_t0_ok 33 rfl
theorem dX8_cups_56 : decode cX8_cups 56 = .ok (.iload 4, 2) := gz_d tdX8_cups_t0_ok 34 rfl
theorem dX8_cups_58 : decode cX8_cups 58 = .ok (.putfield 86, 3) := gz_d tdX8_cups_t0_ok 35 rfl
theorem dX8_cups_61 : decode cX8_cups 61 = .ok (.aload_n 0, 1) := gz_d tdX8_cups_t0_ok 36 rfl
theorem dX8_cups_62 : decode cX8_cups 62 = .ok (.invokevirtual 64, 3) := gz_d tdX8_cups_t0_ok 37 rfl
theorem dX8_cups_65 : decode cX8_cups 65 = .ok (.aload_n 0, 1) := gz_d tdX8_cups_t0_ok 38 rfl
theorem dX8_cups_66 : decode cX8_cups 66 = .ok (.invokevirtual 89, 3) := gz_d tdX8_cups_t0_ok 39 rfl
theorem dX8_cups_69 : decode cX8_cups 69 = .ok (.ireturn, 1) := gz_d tdX8_cups_t0_ok 40 rfl
def tdX8_isPlayer_t0 : List (Nat × Instr × Nat) := [(0, .iload_n 0, 1), (1, .iconst 0, 1), (2, .iconst 1, 1), (3, .invokestatic 82, 3), (6, .ireturn, 1)]
theorem tdX8_isPlayer_t0_ok : gz_dec cX8_isPlayer tdX8_isPlayer_t0 = true := by decide +kernel
theorem dX8_isPlayer_0 : decode cX8_isPlayer 0 = .ok (.iload_n 0, 1) := gz_d tdX8_isPlayer_t0_ok 0 rfl
theorem dX8_isPlayer_1 : decode cX8_isPlayer 1 = .ok (.iconst 0, 1) := gz_d tdX8_isPlayer_t0_ok 1 rfl
theorem dX8_isPlayer_2 : decode cX8_isPlayer 2 = .ok (.iconst 1, 1) := gz_d tdX8_isPlayer_t0_ok 2 rfl
theorem dX8_isPlayer_3 : decode cX8_isPlayer 3 = .ok (.invokestatic 82, 3) := gz_d tdX8_isPlayer_t0_ok 3 rfl
theorem dX8_isPlayer_6 : decode cX8_isPlayer 6 = .ok (.ireturn, 1) := gz_d tdX8_isPlayer_t0_ok 4 rfl
def tdX8_isHand_t0 : List (Nat × Instr × Nat) := [(0, .iload_n 1, 1), (1, .invokestatic 93, 3), (4, .ifCond .eq 23, 3), (7, .iload_n 2, 1), (8, .iconst 0, 1), (9, .aload_n 0, 1), (10, .getfield 23, 3), (13, .iload_n 1, 1), (14, .iaload, 1), (15, .iconst 1, 1), (16, .isub, 1), (17, .invokestatic 82, 3), (20, .ifCond .eq 7, 3), (23, .iconst 1, 1), (24, .goto 4, 3), (27, .iconst 0, 1), (28, .ireturn, 1)]
theorem tdX8_isHand_t0_ok : gz_dec cX8_isHand tdX8_isHand_t0 = true := by decide +kernel
theorem dX8_isHand_0 : decode cX8_isHand 0 = .ok (.iload_n 1, 1) := gz_d tdX8_isHand_t0_ok 0 rfl
theorem dX8_isHand_1 : decode cX8_isHand 1 = .ok (.invokestatic 93, 3) := gz_d tdX8_isHand_t0_ok 1 rfl
theorem dX8_isHand_4 : decode cX8_isHand 4 = .ok (.ifCond .eq 23, 3) := gz_d tdX8_isHand_t0_ok 2 rfl
theorem dX8_isHand_7 : decode cX8_isHand 7 = .ok (.iload_n 2, 1) := gz_d tdX8_isHand_t0_ok 3 rfl
theorem dX8_isHand_8 : decode cX8_isHand 8 = .ok (.iconst 0, 1) := gz_d tdX8_isHand_t0_ok 4 rfl
theorem dX8_isHand_9 : decode cX8_isHand 9 = .ok (.aload_n 0, 1) := gz_d tdX8_isHand_t0_ok 5 rfl
theorem dX8_isHand_10 : decode cX8_isHand 10 = .ok (.getfield 23, 3) := gz_d tdX8_isHand_t0_ok 6 rfl
theorem dX8_isHand_13 : decode cX8_isHand 13 = .ok (.iload_n 1, 1) := gz_d tdX8_isHand_t0_ok 7 rfl
theorem dX8_isHand_14 : decode cX8_isHand 14 = .ok (.iaload, 1) := gz_d tdX8_isHand_t0_ok 8 rfl
theorem dX8_isHand_15 : decode cX8_isHand 15 = .ok (.iconst 1, 1) := gz_d tdX8_isHand_t0_ok 9 rfl
theorem dX8_isHand_16 : decode cX8_isHand 16 = .ok (.isub, 1) := gz_d tdX8_isHand_t0_ok 10 rfl
theorem dX8_isHand_17 : decode cX8_isHand 17 = .ok (.invokestatic 82, 3) := gz_d tdX8_isHand_t0_ok 11 rfl
theorem dX8_isHand_20 : decode cX8_isHand 20 = .ok (.ifCond .eq 7, 3) := gz_d tdX8_isHand_t0_ok 12 rfl
theorem dX8_isHand_23 : decode cX8_isHand 23 = .ok (.iconst 1, 1) := gz_d tdX8_isHand_t0_ok 13 rfl
theorem dX8_isHand_24 : decode cX8_isHand 24 = .ok (.goto 4, 3) := gz_d tdX8_isHand_t0_ok 14 rfl
theorem dX8_isHand_27 : decode cX8_isHand 27 = .ok (.iconst 0, 1) := gz_d tdX8_isHand_t0_ok 15 rfl
theorem dX8_isHand_28 : decode cX8_isHand 28 = .ok (.ireturn, 1) := gz_d tdX8_isHand_t0_ok 16 rfl
def tdX8_isBid_t0 : List (Nat × Instr × Nat) := [(0, .iload_n 1, 1), (1, .iconst 0, 1), (2, .aload_n 0, 1), (3, .invokevirtual 89, 3), (6, .iconst 1, 1), (7, .isub, 1), (8, .invokestatic 82, 3), (11, .ireturn, 1)]
theorem tdX8_isBid_t0_ok : gz_dec cX8_isBid tdX8_isBid_t0 = true := by decide +kernel
theorem dX8_isBid_0 : decode cX8_isBid 0 = .ok (.iload_n 1, 1) := gz_d tdX8_isBid_t0_ok 0 rfl
theorem dX8_isBid_1 : decode cX8_isBid 1 = .ok (.iconst 0, 1) := gz_d tdX8_isBid_t0_ok 1 rfl
theorem dX8_isBid_2 : decode cX8_isBid 2 = .ok (.aload_n 0, 1) := gz_d tdX8_isBid_t0_ok 2 rfl
theorem dX8_isBid_3 : decode cX8_isBid 3 = .ok (.invokevirtual 89, 3) := gz_d tdX8_isBid_t0_ok 3 rfl
theorem dX8_isBid_6 : decode cX8_isBid 6 = .ok (.iconst 1, 1) := gz_d tdX8_isBid_t0_ok 4 rfl
theorem dX8_isBid_7 : decode cX8_isBid 7 = .ok (.isub, 1) := gz_d tdX8_isBid_t0_ok 5 rfl
theorem dX8_isBid_8 : decode cX8_isBid 8 = .ok (.invokestatic 82, 3) := gz_d tdX8_isBid_t0_ok 6 rfl
theorem dX8_isBid_11 : decode cX8_isBid 11 = .ok (.ireturn, 1) := gz_d tdX8_isBid_t0_ok 7 rfl
def tdX8_hands_t0 : List (Nat × Instr × Nat) := [(0, .iload_n 1, 1), (1, .invokestatic 93, 3), (4, .ifCond .eq 12, 3), (7, .aload_n 0, 1), (8, .getfield 23, 3), (11, .iload_n 1, 1), (12, .iaload, 1), (13, .goto 5, 3), (16, .bipush (-2), 2), (18, .ireturn, 1)]
theorem tdX8_hands_t0_ok : gz_dec cX8_hands tdX8_hands_t0 = true := by decide +kernel
theorem dX8_hands_0 : decode cX8_hands 0 = .ok (.iload_n 1, 1) := gz_d tdX8_hands_t0_ok 0 rfl
theorem dX8_hands_1 : decode cX8_hands 1 = .ok (.invokestatic 93, 3) := gz_d tdX8_hands_t0_ok 1 rfl
theorem dX8_hands_4 : decode cX8_hands 4 = .ok (.ifCond .eq 12, 3) := gz_d tdX8_hands_t0_ok 2 rfl
theorem dX8_hands_7 : decode cX8_hands 7 = .ok (.aload_n 0, 1) := gz_d tdX8_hands_t0_ok 3 rfl
theorem dX8_hands_8 : decode cX8_hands 8 = .ok (.getfield 23, 3) := gz_d tdX8_hands_t0_ok 4 rfl
theorem dX8_hands_11 : decode cX8_hands 11 = .ok (.iload_n 1, 1) := gz_d tdX8_hands_t0_ok 5 rfl
theorem dX8_hands_12 : decode cX8_hands 12 = .ok (.iaload, 1) := gz_d tdX8_hands_t0_ok 6 rfl
theorem dX8_hands_13 : decode cX8_hands 13 = .ok (.goto 5, 3) := gz_d tdX8_hands_t0_ok 7 rfl
theorem dX8_hands_16 : decode cX8_hands 16 = .ok (.bipush (-2), 2) := gz_d tdX8_hands_t0_ok 8 rfl
theorem dX8_hands_18 : decode cX8_hands 18 = .ok (.ireturn, 1) := gz_d tdX8_hands_t0_ok 9 rfl
def tdX8_hand_t0 : List (Nat × Instr × Nat) := [(0, .aload_n 0, 1), (1, .iload_n 1, 1), (2, .iload_n 2, 1), (3, .invokevirtual 97, 3), (6, .ifCond .eq 35, 3), (9, .iload_n 3, 1), (10, .iconst 0, 1), (11, .aload_n 0, 1), (12, .getfield 16, 3), (15, .iconst 1, 1), (16, .isub, 1), (17, .invokestatic 82, 3), (20, .ifCond .eq 21, 3), (23, .aload_n 0, 1), (24, .getfield 19, 3), (27, .bipush 16, 2), (29, .iload_n 1, 1), (30, .imul, 1), (31, .iconst 4, 1), (32, .iload_n 2, 1), (33, .imul, 1), (34, .iadd, 1), (35, .iload_n 3, 1), (36, .iadd, 1), (37, .iaload, 1), (38, .goto 5, 3), (41, .bipush (-100), 2), (43, .ireturn, 1)]
theorem tdX8_hand_t0_ok : gz_dec cX8_hand tdX8_hand_t0 = true := by decide +kernel
theorem dX8_hand_0 : decode cX8_hand 0 = .ok (.aload_n 0, 1) := gz_d tdX8_hand_t0_ok 0 rfl
theorem dX8_hand_1 : decode cX8_hand 1 = .ok (.iload_n 1, 1) := gz_d tdX8_hand_t0_ok 1 rfl
theorem dX8_hand_2 : decode cX8_hand 2 = .ok (.iload_n 2, 1) := gz_d tdX8_hand_t0_ok 2 rfl
theorem dX8_hand_3 : decode cX8_hand 3 = .ok (.invokevirtual 97, 3) := gz_d tdX8_hand_t0_ok 3 rfl
theorem dX8_hand_6 : decode cX8_hand 6 = .ok (.ifCond .eq 35, 3) := gz_d tdX8_hand_t0_ok 4 rfl
theorem dX8_hand_9 : decode cX8_hand 9 = .ok (.iload_n 3, 1) := gz_d tdX8_hand_t0_ok 5 rfl
theorem dX8_hand_10 : decode cX8_hand 10 = .ok (.iconst 0, 1) := gz_d tdX8_hand_t0_ok 6 rfl
theorem dX8_hand_11 : decode cX8_hand 11 = .ok (.aload_n 0, 1) := gz_d tdX8_hand_t0_ok 7 rfl
theorem dX8_hand_12 : decode cX8_hand 12 = .ok (.getfield 16, 3) := gz_d tdX8_hand_t0_ok 8 rfl
theorem dX8_hand_15 : decode cX8_hand 15 = .ok (.iconst 1, 1) := gz_d tdX8_hand_t0_ok 9 rfl
theorem dX8_hand_16 : decode cX8_hand 16 = .ok (.isub, 1) := gz_d tdX8_hand_t0_ok 10 rfl
theorem dX8_hand_17 : decode cX8_hand 17 = .ok (.invokestatic 82, 3) := gz_d tdX8_hand_t0_ok 11 rfl
theorem dX8_hand_20 : decode cX8_hand 20 = .ok (.ifCond .eq 21, 3) := gz_d tdX8_hand_t0_ok 12 rfl
theorem dX8_hand_23 : decode cX8_hand 23 = .ok (.aload_n 0, 1) := gz_d tdX8_hand_t0_ok 13 rfl
theorem dX8_hand_24 : decode cX8_hand 24 = .ok (.getfield 19, 3) := gz_d tdX8_hand_t0_ok 14 rfl
theorem dX8_hand_27 : decode cX8_hand 27 = .ok (.bipush 16, 2) := gz_d tdX8_hand_t0_ok 15 rfl
theorem dX8_hand_29 : decode cX8_hand 29 = .ok (.iload_n 1, 1) := gz_d tdX8_hand_t0_ok 16 rfl
theorem dX8_hand_30 : decode cX8_hand 30 = .ok (.imul, 1) := gz_d tdX8_hand_t0_ok 17 rfl
theorem dX8_hand_31 : decode cX8_hand 31 = .ok (.iconst 4, 1) := gz_d tdX8_hand_t0_ok 18 rfl
theorem dX8_hand_32 : decode cX8_hand 32 = .ok (.iload_n 2, 1) := gz_d tdX8_hand_t0_ok 19 rfl
theorem dX8_hand_33 : decode cX8_hand 33 = .ok (.imul, 1) := gz_d tdX8_hand_t0_ok 20 rfl
theorem dX8_hand_34 : decode cX8_hand 34 = .ok (.iadd, 1) := gz_d tdX8_hand_t0_ok 21 rfl
theorem dX8_hand_35 : decode cX8_hand 35 = .ok (.iload_n 3, 1) := gz_d tdX8_hand_t0_ok 22 rfl
theorem dX8_hand_36 : decode cX8_hand 36 = .ok (.iadd, 1) := gz_d tdX8_hand_t0_ok 23 rfl
theorem dX8_hand_37 : decode cX8_hand 37 = .ok (.iaload, 1) := gz_d tdX8_hand_t0_ok 24 rfl
theorem dX8_hand_38 : decode cX8_hand 38 = .ok (.goto 5, 3) := gz_d tdX8_hand_t0_ok 25 rfl
theorem dX8_hand_41 : decode cX8_hand 41 = .ok (.bipush (-100), 2) := gz_d tdX8_hand_t0_ok 26 rfl
theorem dX8_hand_43 : decode cX8_hand 43 = .ok (.ireturn, 1) := gz_d tdX8_hand_t0_ok 27 rfl
def tdX8_throwsOf_t0 : List (Nat × Instr × Nat) := [(0, .aload_n 0, 1), (1, .iload_n 1, 1), (2, .iload_n 2, 1), (3, .invokevirtual 97, 3), (6, .ifCond .eq 16, 3), (9, .aload_n 0, 1), (10, .getfield 26, 3), (13, .iconst 4, 1), (14, .iload_n 1, 1), (15, .imul, 1), (16, .iload_n 2, 1), (17, .iadd, 1), (18, .iaload, 1), (19, .goto 5, 3), (22, .bipush (-2), 2), (24, .ireturn, 1)]
theorem tdX8_throwsOf_t0_ok : gz_dec cX8_throwsOf tdX8_throwsOf_t0 = true := by decide +kernel
theorem dX8_throwsOf_0 : decode cX8_throwsOf 0 = .ok (.aload_n 0, 1) := gz_d tdX8_throwsOf_t0_ok 0 rfl
theorem dX8_throwsOf_1 : decode cX8_throwsOf 1 = .ok (.iload_n 1, 1) := gz_d tdX8_throwsOf_t0_ok 1 rfl
theorem dX8_throwsOf_2 : decode cX8_throwsOf 2 = .ok (.iload_n 2, 1) := gz_d tdX8_throwsOf_t0_ok 2 rfl
theorem dX8_throwsOf_3 : decode cX8_throwsOf 3 = .ok (.invokevirtual 97, 3) := gz_d tdX8_throwsOf_t0_ok 3 rfl
theorem dX8_throwsOf_6 : decode cX8_throwsOf 6 = .ok (.ifCond .eq 16, 3) := gz_d tdX8_throwsOf_t0_ok 4 rfl
theorem dX8_throwsOf_9 : decode cX8_throwsOf 9 = .ok (.aload_n 0, 1) := gz_d tdX8_throwsOf_t0_ok 5 rfl
theorem dX8_throwsOf_10 : decode cX8_throwsOf 10 = .ok (.getfield 26, 3) := gz_d tdX8_throwsOf_t0_ok 6 rfl
theorem dX8_throwsOf_13 : decode cX8_throwsOf 13 = .ok (.iconst 4, 1) := gz_d tdX8_throwsOf_t0_ok 7 rfl
theorem dX8_throwsOf_14 : decode cX8_throwsOf 14 = .ok (.iload_n 1, 1) := gz_d tdX8_throwsOf_t0_ok 8 rfl
theorem dX8_throwsOf_15 : decode cX8_throwsOf 15 = .ok (.imul, 1) := gz_d tdX8_throwsOf_t0_ok 9 rfl
theorem dX8_throwsOf_16 : decode cX8_throwsOf 16 = .ok (.iload_n 2, 1) := gz_d tdX8_throwsOf_t0_ok 10 rfl
theorem dX8_throwsOf_17 : decode cX8_throwsOf 17 = .ok (.iadd, 1) := gz_d tdX8_throwsOf_t0_ok 11 rfl
theorem dX8_throwsOf_18 : decode cX8_throwsOf 18 = .ok (.iaload, 1) := gz_d tdX8_throwsOf_t0_ok 12 rfl
theorem dX8_throwsOf_19 : decode cX8_throwsOf 19 = .ok (.goto 5, 3) := gz_d tdX8_throwsOf_t0_ok 13 rfl
theorem dX8_throwsOf_22 : decode cX8_throwsOf 22 = .ok (.bipush (-2), 2) := gz_d tdX8_throwsOf_t0_ok 14 rfl
theorem dX8_throwsOf_24 : decode cX8_throwsOf 24 = .ok (.ireturn, 1) := gz_d tdX8_throwsOf_t0_ok 15 rfl
def tdX8_countsFor_t0 : List (Nat × Instr × Nat) := [(0, .bipush 16, 2), (2, .iload_n 1, 1), (3, .imul, 1), (4, .iconst 4, 1), (5, .iload_n 2, 1), (6, .imul, 1), (7, .iadd, 1), (8, .istore 4, 2), (10, .aload_n 0, 1), (11, .getfield 19, 3), (14, .iload 4, 2), (16, .iload_n 3, 1), (17, .iadd, 1), (18, .iaload, 1), (19, .iload_n 3, 1), (20, .ifCond .le 20, 3), (23, .aload_n 0, 1), (24, .getfield 86, 3), (27, .ifCond .eq 13, 3), (30, .aload_n 0, 1), (31, .getfield 19, 3), (34, .iload 4, 2), (36, .iaload, 1), (37, .goto 4, 3), (40, .iconst 0, 1), (41, .iadd, 1), (42, .ireturn, 1)]
theorem tdX8_countsFor_t0_ok : gz_dec cX8_countsFor tdX8_countsFor_t0 = true := by decide +kernel
theorem dX8_countsFor_0 : decode cX8_countsFor 0 = .ok (.bipush 16, 2) := gz_d tdX8_countsFor_t0_ok 0 rfl
theorem dX8_countsFor_2 : decode cX8_countsFor 2 = .ok (.iload_n 1, 1) := gz_d tdX8_countsFor_t0_ok 1 rfl
theorem dX8_countsFor_3 : decode cX8_countsFor 3 = .ok (.imul, 1) := gz_d tdX8_countsFor_t0_ok 2 rfl
theorem dX8_countsFor_4 : decode cX8_countsFor 4 = .ok (.iconst 4, 1) := gz_d tdX8_countsFor_t0_ok 3 rfl
theorem dX8_countsFor_5 : decode cX8_countsFor 5 = .ok (.iload_n 2, 1) := gz_d tdX8_countsFor_t0_ok 4 rfl
theorem dX8_countsFor_6 : decode cX8_countsFor 6 = .ok (.imul, 1) := gz_d tdX8_countsFor_t0_ok 5 rfl
theorem dX8_countsFor_7 : decode cX8_countsFor 7 = .ok (.iadd, 1) := gz_d tdX8_countsFor_t0_ok 6 rfl
theorem dX8_countsFor_8 : decode cX8_countsFor 8 = .ok (.istore 4, 2) := gz_d tdX8_countsFor_t0_ok 7 rfl
theorem dX8_countsFor_10 : decode cX8_countsFor 10 = .ok (.aload_n 0, 1) := gz_d tdX8_countsFor_t0_ok 8 rfl
theorem dX8_countsFor_11 : decode cX8_countsFor 11 = .ok (.getfield 19, 3) := gz_d tdX8_countsFor_t0_ok 9 rfl
theorem dX8_countsFor_14 : decode cX8_countsFor 14 = .ok (.iload 4, 2) := gz_d tdX8_countsFor_t0_ok 10 rfl
theorem dX8_countsFor_16 : decode cX8_countsFor 16 = .ok (.iload_n 3, 1) := gz_d tdX8_countsFor_t0_ok 11 rfl
theorem dX8_countsFor_17 : decode cX8_countsFor 17 = .ok (.iadd, 1) := gz_d tdX8_countsFor_t0_ok 12 rfl
theorem dX8_countsFor_18 : decode cX8_countsFor 18 = .ok (.iaload, 1) := gz_d tdX8_countsFor_t0_ok 13 rfl
theorem dX8_countsFor_19 : decode cX8_countsFor 19 = .ok (.iload_n 3, 1) := gz_d tdX8_countsFor_t0_ok 14 rfl
theorem dX8_countsFor_20 : decode cX8_countsFor 20 = .ok (.ifCond .le 20, 3) := gz_d tdX8_countsFor_t0_ok 15 rfl
theorem dX8_countsFor_23 : decode cX8_countsFor 23 = .ok (.aload_n 0, 1) := gz_d tdX8_countsFor_t0_ok 16 rfl
theorem dX8_countsFor_24 : decode cX8_countsFor 24 = .ok (.getfield 86, 3) := gz_d tdX8_countsFor_t0_ok 17 rfl
theorem dX8_countsFor_27 : decode cX8_countsFor 27 = .ok (.ifCond .eq 13, 3) := gz_d tdX8_countsFor_t0_ok 18 rfl
theorem dX8_countsFor_30 : decode cX8_countsFor 30 = .ok (.aload_n 0, 1) := gz_d tdX8_countsFor_t0_ok 19 rfl
theorem dX8_countsFor_31 : decode cX8_countsFor 31 = .ok (.getfield 19, 3) := gz_d tdX8_countsFor_t0_ok 20 rfl
theorem dX8_countsFor_34 : decode cX8_countsFor 34 = .ok (.iload 4, 2) := gz_d tdX8_countsFor_t0_ok 21 rfl
theorem dX8_countsFor_36 : decode cX8_countsFor 36 = .ok (.iaload, 1) := gz_d tdX8_countsFor_t0_ok 22 rfl
theorem dX8_countsFor_37 : decode cX8_countsFor 37 = .ok (.goto 4, 3) := gz_d tdX8_countsFor_t0_ok 23 rfl
theorem dX8_countsFor_40 : decode cX8_countsFor 40 = .ok (.iconst 0, 1) := gz_d tdX8_countsFor_t0_ok 24 rfl
theorem dX8_countsFor_41 : decode cX8_countsFor 41 = .ok (.iadd, 1) := gz_d tdX8_countsFor_t0_ok 25 rfl
theorem dX8_countsFor_42 : decode cX8_countsFor 42 = .ok (.ireturn, 1) := gz_d tdX8_countsFor_t0_ok 26 rfl
def tdX8_doesHold_t0 : List (Nat × Instr × Nat) := [(0, .iload_n 3, 1), (1, .aload_n 0, 1), (2, .getfield 16, 3), (5, .irem, 1), (6, .istore 4, 2), (8, .aload_n 0, 1), (9, .iconst 0, 1), (10, .iload_n 1, 1), (11, .iload 4, 2), (13, .invokevirtual 101, 3), (16, .aload_n 0, 1), (17, .iconst 1, 1), (18, .iload_n 2, 1), (19, .iload 4, 2), (21, .invokevirtual 101, 3), (24, .iadd, 1), (25, .iload_n 3, 1), (26, .aload_n 0, 1), (27, .getfield 16, 3), (30, .idiv, 1), (31, .iconst 1, 1), (32, .iadd, 1), (33, .if_icmp .lt 7, 3), (36, .iconst 1, 1), (37, .goto 4, 3), (40, .iconst 0, 1), (41, .ireturn, 1)]
theorem tdX8_doesHold_t0_ok : gz_dec cX8_doesHold tdX8_doesHold_t0 = true := by decide +kernel
theorem dX8_doesHold_0 : decode cX8_doesHold 0 = .ok (.iload_n 3, 1) := gz_d tdX8_doesHold_t0_ok 0 rfl
theorem dX8_doesHold_1 : decode cX8_doesHold 1 = .ok (.aload_n 0, 1) := gz_d tdX8_doesHold_t0_ok 1 rfl
theorem dX8_doesHold_2 : decode cX8_doesHold 2 = .ok (.getfield 16, 3) := gz_d tdX8_doesHold_t0_ok 2 rfl
theorem dX8_doesHold_5 : decode cX8_doesHold 5 = .ok (.irem, 1) := gz_d tdX8_doesHold_t0_ok 3 rfl
theorem dX8_doesHold_6 : decode cX8_doesHold 6 = .ok (.istore 4, 2) := gz_d tdX8_doesHold_t0_ok 4 rfl
theorem dX8_doesHold_8 : decode cX8_doesHold 8 = .ok (.aload_n 0, 1) := gz_d tdX8_doesHold_t0_ok 5 rfl
theorem dX8_doesHold_9 : decode cX8_doesHold 9 = .ok (.iconst 0, 1) := gz_d tdX8_doesHold_t0_ok 6 rfl
theorem dX8_doesHold_10 : decode cX8_doesHold 10 = .ok (.iload_n 1, 1) := gz_d tdX8_doesHold_t0_ok 7 rfl
theorem dX8_doesHold_11 : decode cX8_doesHold 11 = .ok (.iload 4, 2) := gz_d tdX8_doesHold_t0_ok 8 rfl
theorem dX8_doesHold_13 : decode cX8_doesHold 13 = .ok (.invokevirtual 101, 3) := gz_d tdX8_doesHold_t0_ok 9 rfl
theorem dX8_doesHold_16 : decode cX8_doesHold 16 = .ok (.aload_n 0, 1) := gz_d tdX8_doesHold_t0_ok 10 rfl
theorem dX8_doesHold_17 : decode cX8_doesHold 17 = .ok (.iconst 1, 1) := gz_d tdX8_doesHold_t0_ok 11 rfl
theorem dX8_doesHold_18 : decode cX8_doesHold 18 = .ok (.iload_n 2, 1) := gz_d tdX8_doesHold_t0_ok 12 rfl
theorem dX8_doesHold_19 : decode cX8_doesHold 19 = .ok (.iload 4, 2) := gz_d tdX8_doesHold_t0_ok 13 rfl
theorem dX8_doesHold_21 : decode cX8_doesHold 21 = .ok (.invokevirtual 101, 3) := gz_d tdX8_doesHold_t0_ok 14 rfl
theorem dX8_doesHold_24 : decode cX8_doesHold 24 = .ok (.iadd, 1) := gz_d tdX8_doesHold_t0_ok 15 rfl
theorem dX8_doesHold_25 : decode cX8_doesHold 25 = .ok (.iload_n 3, 1) := gz_d tdX8_doesHold_t0_ok 16 rfl
theorem dX8_doesHold_26 : decode cX8_doesHold 26 = .ok (.aload_n 0, 1) := gz_d tdX8_doesHold_t0_ok 17 rfl
theorem dX8_doesHold_27 : decode cX8_doesHold 27 = .ok (.getfield 16, 3) := gz_d tdX8_doesHold_t0_ok 18 rfl
theorem dX8_doesHold_30 : decode cX8_doesHold 30 = .ok (.idiv, 1) := gz_d tdX8_doesHold_t0_ok 19 rfl
theorem dX8_doesHold_31 : decode cX8_doesHold 31 = .ok (.iconst 1, 1) := gz_d tdX8_doesHold_t0_ok 20 rfl
theorem dX8_doesHold_32 : decode cX8_doesHold 32 = .ok (.iadd, 1) := gz_d tdX8_doesHold_t0_ok 21 rfl
theorem dX8_doesHold_33 : decode cX8_doesHold 33 = .ok (.if_icmp .lt 7, 3) := gz_d tdX8_doesHold_t0_ok 22 rfl
theorem dX8_doesHold_36 : decode cX8_doesHold 36 = .ok (.iconst 1, 1) := gz_d tdX8_doesHold_t0_ok 23 rfl
theorem dX8_doesHold_37 : decode cX8_doesHold 37 = .ok (.goto 4, 3) := gz_d tdX8_doesHold_t0_ok 24 rfl
theorem dX8_doesHold_40 : decode cX8_doesHold 40 = .ok (.iconst 0, 1) := gz_d tdX8_doesHold_t0_ok 25 rfl
theorem dX8_doesHold_41 : decode cX8_doesHold 41 = .ok (.ireturn, 1) := gz_d tdX8_doesHold_t0_ok 26 rfl
def tdX8_holds_t0 : List (Nat × Instr × Nat) := [(0, .aload_n 0, 1), (1, .iconst 0, 1), (2, .iload_n 1, 1), (3, .invokevirtual 97, 3), (6, .ifCond .eq 38, 3), (9, .aload_n 0, 1), (10, .iconst 1, 1), (11, .iload_n 2, 1), (12, .invokevirtual 97, 3), (15, .ifCond .eq 29, 3), (18, .aload_n 0, 1), (19, .iload_n 3, 1), (20, .invokevirtual 105, 3), (23, .ifCond .eq 21, 3), (26, .aload_n 0, 1), (27, .iload_n 1, 1), (28, .iload_n 2, 1), (29, .iload_n 3, 1), (30, .invokevirtual 108, 3), (33, .ifCond .eq 7, 3), (36, .iconst 1, 1), (37, .goto 9, 3), (40, .iconst 0, 1), (41, .goto 5, 3), (44, .bipush (-2), 2), (46, .ireturn, 1)]
theorem tdX8_holds_t0_ok : gz_dec cX8_holds tdX8_holds_t0 = true := by decide +kernel
theorem dX8_holds_0 : decode cX8_holds 0 = .ok (.aload_n 0, 1) := gz_d tdX8_holds_t0_ok 0 rfl
theorem dX8_holds_1 : decode cX8_holds 1 = .ok (.iconst 0, 1) := gz_d tdX8_holds_t0_ok 1 rfl
theorem dX8_holds_2 : decode cX8_holds 2 = .ok (.iload_n 1, 1) := gz_d tdX8_holds_t0_ok 2 rfl
theorem dX8_holds_3 : decode cX8_holds 3 = .ok (.invokevirtual 97, 3) := gz_d tdX8_holds_t0_ok 3 rfl
theorem dX8_holds_6 : decode cX8_holds 6 = .ok (.ifCond .eq 38, 3) := gz_d tdX8_holds_t0_ok 4 rfl
theorem dX8_holds_9 : decode cX8_holds 9 = .ok (.aload_n 0, 1) := gz_d tdX8_holds_t0_ok 5 rfl
theorem dX8_holds_10 : decode cX8_holds 10 = .ok (.iconst 1, 1) := gz_d tdX8_holds_t0_ok 6 rfl
theorem dX8_holds_11 : decode cX8_holds 11 = .ok (.iload_n 2, 1) := gz_d tdX8_holds_t0_ok 7 rfl
theorem dX8_holds_12 : decode cX8_holds 12 = .ok (.invokevirtual 97, 3) := gz_d tdX8_holds_t0_ok 8 rfl
theorem dX8_holds_15 : decode cX8_holds 15 = .ok (.ifCond .eq 29, 3) := gz_d tdX8_holds_t0_ok 9 rfl
theorem dX8_holds_18 : decode cX8_holds 18 = .ok (.aload_n 0, 1) := gz_d tdX8_holds_t0_ok 10 rfl
theorem dX8_holds_19 : decode cX8_holds 19 = .ok (.iload_n 3, 1) := gz_d tdX8_holds_t0_ok 11 rfl
theorem dX8_holds_20 : decode cX8_holds 20 = .ok (.invokevirtual 105, 3) := gz_d tdX8_holds_t0_ok 12 rfl
theorem dX8_holds_23 : decode cX8_holds 23 = .ok (.ifCond .eq 21, 3) := gz_d tdX8_holds_t0_ok 13 rfl
theorem dX8_holds_26 : decode cX8_holds 26 = .ok (.aload_n 0, 1) := gz_d tdX8_holds_t0_ok 14 rfl
theorem dX8_holds_27 : decode cX8_holds 27 = .ok (.iload_n 1, 1) := gz_d tdX8_holds_t0_ok 15 rfl
theorem dX8_holds_28 : decode cX8_holds 28 = .ok (.iload_n 2, 1) := gz_d tdX8_holds_t0_ok 16 rfl
theorem dX8_holds_29 : decode cX8_holds 29 = .ok (.iload_n 3, 1) := gz_d tdX8_holds_t0_ok 17 rfl
theorem dX8_holds_30 : decode cX8_holds 30 = .ok (.invokevirtual 108, 3) := gz_d tdX8_holds_t0_ok 18 rfl
theorem dX8_holds_33 : decode cX8_holds 33 = .ok (.ifCond .eq 7, 3) := gz_d tdX8_holds_t0_ok 19 rfl
theorem dX8_holds_36 : decode cX8_holds 36 = .ok (.iconst 1, 1) := gz_d tdX8_holds_t0_ok 20 rfl
theorem dX8_holds_37 : decode cX8_holds 37 = .ok (.goto 9, 3) := gz_d tdX8_holds_t0_ok 21 rfl
theorem dX8_holds_40 : decode cX8_holds 40 = .ok (.iconst 0, 1) := gz_d tdX8_holds_t0_ok 22 rfl
theorem dX8_holds_41 : decode cX8_holds 41 = .ok (.goto 5, 3) := gz_d tdX8_holds_t0_ok 23 rfl
theorem dX8_holds_44 : decode cX8_holds 44 = .ok (.bipush (-2), 2) := gz_d tdX8_holds_t0_ok 24 rfl
theorem dX8_holds_46 : decode cX8_holds 46 = .ok (.ireturn, 1) := gz_d tdX8_holds_t0_ok 25 rfl
def tdX8_throwsFor_t0 : List (Nat × Instr × Nat) := [(0, .iconst 1, 1), (1, .iload_n 1, 1), (2, .isub, 1), (3, .istore 4, 2), (5, .iconst 0, 1), (6, .istore 5, 2), (8, .iconst 0, 1), (9, .istore 6, 2), (11, .iload 6, 2), (13, .aload_n 0, 1), (14, .getfield 23, 3), (17, .iload 4, 2), (19, .iaload, 1), (20, .if_icmp .ge 58, 3), (23, .iload 5, 2), (25, .aload_n 0, 1), (26, .iload_n 1, 1), (27, .ifCond .ne 7, 3), (30, .iload_n 2, 1), (31, .goto 5, 3), (34, .iload 6, 2), (36, .iload_n 1, 1), (37, .ifCond .ne 8, 3), (40, .iload 6, 2), (42, .goto 4, 3), (45, .iload_n 2, 1), (46, .iload_n 3, 1), (47, .invokevirtual 108, 3), (50, .ifCond .eq 18, 3), (53, .aload_n 0, 1), (54, .getfield 26, 3), (57, .iconst 4, 1), (58, .iload 4, 2), (60, .imul, 1), (61, .iload 6, 2), (63, .iadd, 1), (64, .iaload, 1), (65, .goto 4, 3), (68, .iconst 0, 1), (69, .iadd, 1), (70, .istore 5, 2), (72, .iinc 6 1, 3), (75, .goto (-64), 3), (78, .iload 5, 2), (80, .ireturn, 1)]
theorem tdX8_throwsFor_t0_ok : gz_dec cX8_throwsFor tdX8_throwsFor_t0 = true := by decide +kernel
theorem dX8_throwsFor_0 : decode cX8_throwsFor 0 = .ok (.iconst 1, 1) := gz_d tdX8_throwsFor_t0_ok 0 rfl
theorem dX8_throwsFor_1 : decode cX8_throwsFor 1 = .ok (.iload_n 1, 1) := gz_d tdX8_throwsFor_t0_ok 1 rfl
theorem dX8_throwsFor_2 : decode cX8_throwsFor 2 = .ok (.isub, 1) := gz_d tdX8_throwsFor_t0_ok 2 rfl
theorem dX8_throwsFor_3 : decode cX8_throwsFor 3 = .ok (.istore 4, 2) := gz_d tdX8_throwsFor_t0_ok 3 rfl
theorem dX8_throwsFor_5 : decode cX8_throwsFor 5 = .ok (.iconst 0, 1) := gz_d tdX8_throwsFor_t0_ok 4 rfl
theorem dX8_throwsFor_6 : decode cX8_throwsFor 6 = .ok (.istore 5, 2) := gz_d tdX8_throwsFor_t0_ok 5 rfl
theorem dX8_throwsFor_8 : decode cX8_throwsFor 8 = .ok (.iconst 0, 1) := gz_d tdX8_throwsFor_t0_ok 6 rfl
theorem dX8_throwsFor_9 : decode cX8_throwsFor 9 = .ok (.istore 6, 2) := gz_d tdX8_throwsFor_t0_ok 7 rfl
theorem dX8_throwsFor_11 : decode cX8_throwsFor 11 = .ok (.iload 6, 2) := gz_d tdX8_throwsFor_t0_ok 8 rfl
theorem dX8_throwsFor_13 : decode cX8_throwsFor 13 = .ok (.aload_n 0, 1) := gz_d tdX8_throwsFor_t0_ok 9 rfl
theorem dX8_throwsFor_14 : decode cX8_throwsFor 14 = .ok (.getfield 23, 3) := gz_d tdX8_throwsFor_t0_ok 10 rfl
theorem dX8_throwsFor_17 : decode cX8_throwsFor 17 = .ok (.iload 4, 2) := gz_d tdX8_throwsFor_t0_ok 11 rfl
theorem dX8_throwsFor_19 : decode cX8_throwsFor 19 = .ok (.iaload, 1) := gz_d tdX8_throwsFor_t0_ok 12 rfl
theorem dX8_throwsFor_20 : decode cX8_throwsFor 20 = .ok (.if_icmp .ge 58, 3) := gz_d tdX8_throwsFor_t0_ok 13 rfl
theorem dX8_throwsFor_23 : decode cX8_throwsFor 23 = .ok (.iload 5, 2) := gz_d tdX8_throwsFor_t0_ok 14 rfl
theorem dX8_throwsFor_25 : decode cX8_throwsFor 25 = .ok (.aload_n 0, 1) := gz_d tdX8_throwsFor_t0_ok 15 rfl
theorem dX8_throwsFor_26 : decode cX8_throwsFor 26 = .ok (.iload_n 1, 1) := gz_d tdX8_throwsFor_t0_ok 16 rfl
theorem dX8_throwsFor_27 : decode cX8_throwsFor 27 = .ok (.ifCond .ne 7, 3) := gz_d tdX8_throwsFor_t0_ok 17 rfl
theorem dX8_throwsFor_30 : decode cX8_throwsFor 30 = .ok (.iload_n 2, 1) := gz_d tdX8_throwsFor_t0_ok 18 rfl
theorem dX8_throwsFor_31 : decode cX8_throwsFor 31 = .ok (.goto 5, 3) := gz_d tdX8_throwsFor_t0_ok 19 rfl
theorem dX8_throwsFor_34 : decode cX8_throwsFor 34 = .ok (.iload 6, 2) := gz_d tdX8_throwsFor_t0_ok 20 rfl
theorem dX8_throwsFor_36 : decode cX8_throwsFor 36 = .ok (.iload_n 1, 1) := gz_d tdX8_throwsFor_t0_ok 21 rfl
theorem dX8_throwsFor_37 : decode cX8_throwsFor 37 = .ok (.ifCond .ne 8, 3) := gz_d tdX8_throwsFor_t0_ok 22 rfl
theorem dX8_throwsFor_40 : decode cX8_throwsFor 40 = .ok (.iload 6, 2) := gz_d tdX8_throwsFor_t0_ok 23 rfl
theorem dX8_throwsFor_42 : decode cX8_throwsFor 42 = .ok (.goto 4, 3) := gz_d tdX8_throwsFor_t0_ok 24 rfl
theorem dX8_throwsFor_45 : decode cX8_throwsFor 45 = .ok (.iload_n 2, 1) := gz_d tdX8_throwsFor_t0_ok 25 rfl
theorem dX8_throwsFor_46 : decode cX8_throwsFor 46 = .ok (.iload_n 3, 1) := gz_d tdX8_throwsFor_t0_ok 26 rfl
theorem dX8_throwsFor_47 : decode cX8_throwsFor 47 = .ok (.invokevirtual 108, 3) := gz_d tdX8_throwsFor_t0_ok 27 rfl
theorem dX8_throwsFor_50 : decode cX8_throwsFor 50 = .ok (.ifCond .eq 18, 3) := gz_d tdX8_throwsFor_t0_ok 28 rfl
theorem dX8_throwsFor_53 : decode cX8_throwsFor 53 = .ok (.aload_n 0, 1) := gz_d tdX8_throwsFor_t0_ok 29 rfl
theorem dX8_throwsFor_54 : decode cX8_throwsFor 54 = .ok (.getfield 26, 3) := gz_d tdX8_throwsFor_t0_ok 30 rfl
theorem dX8_throwsFor_57 : decode cX8_throwsFor 57 = .ok (.iconst 4, 1) := gz_d tdX8_throwsFor_t0_ok 31 rfl
theorem dX8_throwsFor_58 : decode cX8_throwsFor 58 = .ok (.iload 4, 2) := gz_d tdX8_throwsFor_t0_ok 32 rfl
theorem dX8_throwsFor_60 : decode cX8_throwsFor 60 = .ok (.imul, 1) := gz_d tdX8_throwsFor_t0_ok 33 rfl
theorem dX8_throwsFor_61 : decode cX8_throwsFor 61 = .ok (.iload 6, 2) := gz_d tdX8_throwsFor_t0_ok 34 rfl
theorem dX8_throwsFor_63 : decode cX8_throwsFor 63 = .ok (.iadd, 1) := gz_d tdX8_throwsFor_t0_ok 35 rfl
theorem dX8_throwsFor_64 : decode cX8_throwsFor 64 = .ok (.iaload, 1) := gz_d tdX8_throwsFor_t0_ok 36 rfl
theorem dX8_throwsFor_65 : decode cX8_throwsFor 65 = .ok (.goto 4, 3) := gz_d tdX8_throwsFor_t0_ok 37 rfl
theorem dX8_throwsFor_68 : decode cX8_throwsFor 68 = .ok (.iconst 0, 1) := gz_d tdX8_throwsFor_t0_ok 38 rfl
theorem dX8_throwsFor_69 : decode cX8_throwsFor 69 = .ok (.iadd, 1) := gz_d tdX8_throwsFor_t0_ok 39 rfl
theorem dX8_throwsFor_70 : decode cX8_throwsFor 70 = .ok (.istore 5, 2) := gz_d tdX8_throwsFor_t0_ok 40 rfl
theorem dX8_throwsFor_72 : decode cX8_throwsFor 72 = .ok (.iinc 6 1, 3) := gz_d tdX8_throwsFor_t0_ok 41 rfl
theorem dX8_throwsFor_75 : decode cX8_throwsFor 75 = .ok (.goto (-64), 3) := gz_d tdX8_throwsFor_t0_ok 42 rfl
theorem dX8_throwsFor_78 : decode cX8_throwsFor 78 = .ok (.iload 5, 2) := gz_d tdX8_throwsFor_t0_ok 43 rfl
theorem dX8_throwsFor_80 : decode cX8_throwsFor 80 = .ok (.ireturn, 1) := gz_d tdX8_throwsFor_t0_ok 44 rfl
def tdX8_power_t0 : List (Nat × Instr × Nat) := [(0, .iconst 1, 1), (1, .istore_n 2, 1), (2, .iconst 0, 1), (3, .istore_n 3, 1), (4, .iload_n 3, 1), (5, .iload_n 1, 1), (6, .if_icmp .ge 16, 3), (9, .iload_n 2, 1), (10, .aload_n 0, 1), (11, .getfield 16, 3), (14, .imul, 1), (15, .istore_n 2, 1), (16, .iinc 3 1, 3), (19, .goto (-15), 3), (22, .iload_n 2, 1), (23, .ireturn, 1)]
theorem tdX8_power_t0_ok : gz_dec cX8_power tdX8_power_t0 = true := by decide +kernel
theorem dX8_power_0 : decode cX8_power 0 = .ok (.iconst 1, 1) := gz_d tdX8_power_t0_ok 0 rfl
theorem dX8_power_1 : decode cX8_power 1 = .ok (.istore_n 2, 1) := gz_d tdX8_power_t0_ok 1 rfl
theorem dX8_power_2 : decode cX8_power 2 = .ok (.iconst 0, 1) := gz_d tdX8_power_t0_ok 2 rfl
theorem dX8_power_3 : decode cX8_power 3 = .ok (.istore_n 3, 1) := gz_d tdX8_power_t0_ok 3 rfl
theorem dX8_power_4 : decode cX8_power 4 = .ok (.iload_n 3, 1) := gz_d tdX8_power_t0_ok 4 rfl
theorem dX8_power_5 : decode cX8_power 5 = .ok (.iload_n 1, 1) := gz_d tdX8_power_t0_ok 5 rfl
theorem dX8_power_6 : decode cX8_power 6 = .ok (.if_icmp .ge 16, 3) := gz_d tdX8_power_t0_ok 6 rfl
theorem dX8_power_9 : decode cX8_power 9 = .ok (.iload_n 2, 1) := gz_d tdX8_power_t0_ok 7 rfl
theorem dX8_power_10 : decode cX8_power 10 = .ok (.aload_n 0, 1) := gz_d tdX8_power_t0_ok 8 rfl
theorem dX8_power_11 : decode cX8_power 11 = .ok (.getfield 16, 3) := gz_d tdX8_power_t0_ok 9 rfl
theorem dX8_power_14 : decode cX8_power 14 = .ok (.imul, 1) := gz_d tdX8_power_t0_ok 10 rfl
theorem dX8_power_15 : decode cX8_power 15 = .ok (.istore_n 2, 1) := gz_d tdX8_power_t0_ok 11 rfl
theorem dX8_power_16 : decode cX8_power 16 = .ok (.iinc 3 1, 3) := gz_d tdX8_power_t0_ok 12 rfl
theorem dX8_power_19 : decode cX8_power 19 = .ok (.goto (-15), 3) := gz_d tdX8_power_t0_ok 13 rfl
theorem dX8_power_22 : decode cX8_power 22 = .ok (.iload_n 2, 1) := gz_d tdX8_power_t0_ok 14 rfl
theorem dX8_power_23 : decode cX8_power 23 = .ok (.ireturn, 1) := gz_d tdX8_power_t0_ok 15 rfl
def tdX8_chance_t0 : List (Nat × Instr × Nat) := [(0, .aload_n 0, 1), (1, .iload_n 1, 1), (2, .iload_n 2, 1), (3, .invokevirtual 97, 3), (6, .ifCond .eq 21, 3), (9, .aload_n 0, 1), (10, .iload_n 3, 1), (11, .invokevirtual 105, 3), (14, .ifCond .eq 13, 3), (17, .iload 4, 2), (19, .iconst 0, 1), (20, .iconst 1, 1), (21, .invokestatic 82, 3), (24, .ifCond .ne 6, 3), (27, .bipush (-2), 2), (29, .ireturn, 1), (30, .aload_n 0, 1), (31, .iload_n 1, 1), (32, .iload_n 2, 1), (33, .iload_n 3, 1), (34, .invokevirtual 111, 3), (37, .istore 5, 2), (39, .aload_n 0, 1), (40, .aload_n 0, 1), (41, .iconst 1, 1), (42, .iload_n 1, 1), (43, .isub, 1), (44, .invokevirtual 67, 3), (47, .invokevirtual 114, 3), (50, .istore 6, 2), (52, .iload 5, 2), (54, .istore 7, 2), (56, .iload 6, 2), (58, .istore 8, 2), (60, .iload 8, 2), (62, .ifCond .eq 21, 3), (65, .iload 7, 2), (67, .iload 8, 2), (69, .irem, 1), (70, .istore 9, 2), (72, .iload 8, 2), (74, .istore 7, 2), (76, .iload 9, 2), (78, .istore 8, 2), (80, .goto (-20), 3), (83, .iload 4, 2), (85, .ifCond .ne 11, 3), (88, .iload 5, 2), (90, .iload 7, 2), (92, .idiv, 1), (93, .goto 8, 3), (96, .iload 6, 2), (98, .iload 7, 2), (100, .idiv, 1), (101, .ireturn, 1)]
theorem tdX8_chance_t0_ok : gz_dec cX8_chance tdX8_chance_t0 = true := by decide +kernel
theorem dX8_chance_0 : decode cX8_chance 0 = .ok (.aload_n 0, 1) := gz_d tdX8_chance_t0_ok 0 rfl
theorem dX8_chance_1 : decode cX8_chance 1 = .ok (.iload_n 1, 1) := gz_d tdX8_chance_t0_ok 1 rfl
theorem dX8_chance_2 : decode cX8_chance 2 = .ok (.iload_n 2, 1) := gz_d tdX8_chance_t0_ok 2 rfl
theorem dX8_chance_3 : decode cX8_chance 3 = .ok (.invokevirtual 97, 3) := gz_d tdX8_chance_t0_ok 3 rfl
theorem dX8_chance_6 : decode cX8_chance 6 = .ok (.ifCond .eq 21, 3) := gz_d tdX8_chance_t0_ok 4 rfl
theorem dX8_chance_9 : decode cX8_chance 9 = .ok (.aload_n 0, 1) := gz_d tdX8_chance_t0_ok 5 rfl
theorem dX8_chance_10 : decode cX8_chance 10 = .ok (.iload_n 3, 1) := gz_d tdX8_chance_t0_ok 6 rfl
theorem dX8_chance_11 : decode cX8_chance 11 = .ok (.invokevirtual 105, 3) := gz_d tdX8_chance_t0_ok 7 rfl
theorem dX8_chance_14 : decode cX8_chance 14 = .ok (.ifCond .eq 13, 3) := gz_d tdX8_chance_t0_ok 8 rfl
theorem dX8_chance_17 : decode cX8_chance 17 = .ok (.iload 4, 2) := gz_d tdX8_chance_t0_ok 9 rfl
theorem dX8_chance_19 : decode cX8_chance 19 = .ok (.iconst 0, 1) := gz_d tdX8_chance_t0_ok 10 rfl
theorem dX8_chance_20 : decode cX8_chance 20 = .ok (.iconst 1, 1) := gz_d tdX8_chance_t0_ok 11 rfl
theorem dX8_chance_21 : decode cX8_chance 21 = .ok (.invokestatic 82, 3) := gz_d tdX8_chance_t0_ok 12 rfl
theorem dX8_chance_24 : decode cX8_chance 24 = .ok (.ifCond .ne 6, 3) := gz_d tdX8_chance_t0_ok 13 rfl
theorem dX8_chance_27 : decode cX8_chance 27 = .ok (.bipush (-2), 2) := gz_d tdX8_chance_t0_ok 14 rfl
theorem dX8_chance_29 : decode cX8_chance 29 = .ok (.ireturn, 1) := gz_d tdX8_chance_t0_ok 15 rfl
theorem dX8_chance_30 : decode cX8_chance 30 = .ok (.aload_n 0, 1) := gz_d tdX8_chance_t0_ok 16 rfl
theorem dX8_chance_31 : decode cX8_chance 31 = .ok (.iload_n 1, 1) := gz_d tdX8_chance_t0_ok 17 rfl
theorem dX8_chance_32 : decode cX8_chance 32 = .ok (.iload_n 2, 1) := gz_d tdX8_chance_t0_ok 18 rfl
theorem dX8_chance_33 : decode cX8_chance 33 = .ok (.iload_n 3, 1) := gz_d tdX8_chance_t0_ok 19 rfl
theorem dX8_chance_34 : decode cX8_chance 34 = .ok (.invokevirtual 111, 3) := gz_d tdX8_chance_t0_ok 20 rfl
theorem dX8_chance_37 : decode cX8_chance 37 = .ok (.istore 5, 2) := gz_d tdX8_chance_t0_ok 21 rfl
theorem dX8_chance_39 : decode cX8_chance 39 = .ok (.aload_n 0, 1) := gz_d tdX8_chance_t0_ok 22 rfl
theorem dX8_chance_40 : decode cX8_chance 40 = .ok (.aload_n 0, 1) := gz_d tdX8_chance_t0_ok 23 rfl
theorem dX8_chance_41 : decode cX8_chance 41 = .ok (.iconst 1, 1) := gz_d tdX8_chance_t0_ok 24 rfl
theorem dX8_chance_42 : decode cX8_chance 42 = .ok (.iload_n 1, 1) := gz_d tdX8_chance_t0_ok 25 rfl
theorem dX8_chance_43 : decode cX8_chance 43 = .ok (.isub, 1) := gz_d tdX8_chance_t0_ok 26 rfl
theorem dX8_chance_44 : decode cX8_chance 44 = .ok (.invokevirtual 67, 3) := gz_d tdX8_chance_t0_ok 27 rfl
theorem dX8_chance_47 : decode cX8_chance 47 = .ok (.invokevirtual 114, 3) := gz_d tdX8_chance_t0_ok 28 rfl
theorem dX8_chance_50 : decode cX8_chance 50 = .ok (.istore 6, 2) := gz_d tdX8_chance_t0_ok 29 rfl
theorem dX8_chance_52 : decode cX8_chance 52 = .ok (.iload 5, 2) := gz_d tdX8_chance_t0_ok 30 rfl
theorem dX8_chance_54 : decode cX8_chance 54 = .ok (.istore 7, 2) := gz_d tdX8_chance_t0_ok 31 rfl
theorem dX8_chance_56 : decode cX8_chance 56 = .ok (.iload 6, 2) := gz_d tdX8_chance_t0_ok 32 rfl
theorem dX8_chance_58 : decode cX8_chance 58 = .ok (.istore 8, 2) := gz_d tdX8_chance_t0_ok 33 rfl
theorem dX8_chance_60 : decode cX8_chance 60 = .ok (.iload 8, 2) := gz_d tdX8_chance_t0_ok 34 rfl
theorem dX8_chance_62 : decode cX8_chance 62 = .ok (.ifCond .eq 21, 3) := gz_d tdX8_chance_t0_ok 35 rfl
theorem dX8_chance_65 : decode cX8_chance 65 = .ok (.iload 7, 2) := gz_d tdX8_chance_t0_ok 36 rfl
theorem dX8_chance_67 : decode cX8_chance 67 = .ok (.iload 8, 2) := gz_d tdX8_chance_t0_ok 37 rfl
theorem dX8_chance_69 : decode cX8_chance 69 = .ok (.irem, 1) := gz_d tdX8_chance_t0_ok 38 rfl
theorem dX8_chance_70 : decode cX8_chance 70 = .ok (.istore 9, 2) := gz_d tdX8_chance_t0_ok 39 rfl
theorem dX8_chance_72 : decode cX8_chance 72 = .ok (.iload 8, 2) := gz_d tdX8_chance_t0_ok 40 rfl
theorem dX8_chance_74 : decode cX8_chance 74 = .ok (.istore 7, 2) := gz_d tdX8_chance_t0_ok 41 rfl
theorem dX8_chance_76 : decode cX8_chance 76 = .ok (.iload 9, 2) := gz_d tdX8_chance_t0_ok 42 rfl
theorem dX8_chance_78 : decode cX8_chance 78 = .ok (.istore 8, 2) := gz_d tdX8_chance_t0_ok 43 rfl
theorem dX8_chance_80 : decode cX8_chance 80 = .ok (.goto (-20), 3) := gz_d tdX8_chance_t0_ok 44 rfl
theorem dX8_chance_83 : decode cX8_chance 83 = .ok (.iload 4, 2) := gz_d tdX8_chance_t0_ok 45 rfl
theorem dX8_chance_85 : decode cX8_chance 85 = .ok (.ifCond .ne 11, 3) := gz_d tdX8_chance_t0_ok 46 rfl
theorem dX8_chance_88 : decode cX8_chance 88 = .ok (.iload 5, 2) := gz_d tdX8_chance_t0_ok 47 rfl
theorem dX8_chance_90 : decode cX8_chance 90 = .ok (.iload 7, 2) := gz_d tdX8_chance_t0_ok 48 rfl
theorem dX8_chance_92 : decode cX8_chance 92 = .ok (.idiv, 1) := gz_d tdX8_chance_t0_ok 49 rfl
theorem dX8_chance_93 : decode cX8_chance 93 = .ok (.goto 8, 3) := gz_d tdX8_chance_t0_ok 50 rfl
theorem dX8_chance_96 : decode cX8_chance 96 = .ok (.iload 6, 2) := gz_d tdX8_chance_t0_ok 51 rfl
theorem dX8_chance_98 : decode cX8_chance 98 = .ok (.iload 7, 2) := gz_d tdX8_chance_t0_ok 52 rfl
theorem dX8_chance_100 : decode cX8_chance 100 = .ok (.idiv, 1) := gz_d tdX8_chance_t0_ok 53 rfl
theorem dX8_chance_101 : decode cX8_chance 101 = .ok (.ireturn, 1) := gz_d tdX8_chance_t0_ok 54 rfl
def tdX8_surest_t0 : List (Nat × Instr × Nat) := [(0, .aload_n 0, 1), (1, .iload_n 1, 1), (2, .iload_n 2, 1), (3, .invokevirtual 97, 3), (6, .ifCond .eq 24, 3), (9, .iload_n 3, 1), (10, .iconst 1, 1), (11, .bipush 100, 2), (13, .invokestatic 82, 3), (16, .ifCond .eq 14, 3), (19, .iload 4, 2), (21, .iconst 1, 1), (22, .bipush 100, 2), (24, .invokestatic 82, 3), (27, .ifCond .ne 6, 3), (30, .bipush (-2), 2), (32, .ireturn, 1), (33, .aload_n 0, 1), (34, .aload_n 0, 1), (35, .iconst 1, 1), (36, .iload_n 1, 1), (37, .isub, 1), (38, .invokevirtual 67, 3), (41, .invokevirtual 114, 3), (44, .istore 5, 2), (46, .aload_n 0, 1), (47, .invokevirtual 89, 3), (50, .iconst 1, 1), (51, .isub, 1), (52, .istore 6, 2), (54, .iload 6, 2), (56, .ifCond .lt 30, 3), (59, .aload_n 0, 1), (60, .iload_n 1, 1), (61, .iload_n 2, 1), (62, .iload 6, 2), (64, .invokevirtual 111, 3), (67, .iload 4, 2), (69, .imul, 1), (70, .iload_n 3, 1), (71, .iload 5, 2), (73, .imul, 1), (74, .if_icmp .lt 6, 3), (77, .iload 6, 2), (79, .ireturn, 1), (80, .iinc 6 (-1), 3), (83, .goto (-29), 3), (86, .iconst (-1), 1), (87, .ireturn, 1)]
theorem tdX8_surest_t0_ok : gz_dec cX8_surest tdX8_surest_t0 = true := by decide +kernel
theorem dX8_surest_0 : decode cX8_surest 0 = .ok (.aload_n 0, 1) := gz_d tdX8_surest_t0_ok 0 rfl
theorem dX8_surest_1 : decode cX8_surest 1 = .ok (.iload_n 1, 1) := gz_d tdX8_surest_t0_ok 1 rfl
theorem dX8_surest_2 : decode cX8_surest 2 = .ok (.iload_n 2, 1) := gz_d tdX8_surest_t0_ok 2 rfl
theorem dX8_surest_3 : decode cX8_surest 3 = .ok (.invokevirtual 97, 3) := gz_d tdX8_surest_t0_ok 3 rfl
theorem dX8_surest_6 : decode cX8_surest 6 = .ok (.ifCond .eq 24, 3) := gz_d tdX8_surest_t0_ok 4 rfl
theorem dX8_surest_9 : decode cX8_surest 9 = .ok (.iload_n 3, 1) := gz_d tdX8_surest_t0_ok 5 rfl
theorem dX8_surest_10 : decode cX8_surest 10 = .ok (.iconst 1, 1) := gz_d tdX8_surest_t0_ok 6 rfl
theorem dX8_surest_11 : decode cX8_surest 11 = .ok (.bipush 100, 2) := gz_d tdX8_surest_t0_ok 7 rfl
theorem dX8_surest_13 : decode cX8_surest 13 = .ok (.invokestatic 82, 3) := gz_d tdX8_surest_t0_ok 8 rfl
theorem dX8_surest_16 : decode cX8_surest 16 = .ok (.ifCond .eq 14, 3) := gz_d tdX8_surest_t0_ok 9 rfl
theorem dX8_surest_19 : decode cX8_surest 19 = .ok (.iload 4, 2) := gz_d tdX8_surest_t0_ok 10 rfl
theorem dX8_surest_21 : decode cX8_surest 21 = .ok (.iconst 1, 1) := gz_d tdX8_surest_t0_ok 11 rfl
theorem dX8_surest_22 : decode cX8_surest 22 = .ok (.bipush 100, 2) := gz_d tdX8_surest_t0_ok 12 rfl
theorem dX8_surest_24 : decode cX8_surest 24 = .ok (.invokestatic 82, 3) := gz_d tdX8_surest_t0_ok 13 rfl
theorem dX8_surest_27 : decode cX8_surest 27 = .ok (.ifCond .ne 6, 3) := gz_d tdX8_surest_t0_ok 14 rfl
theorem dX8_surest_30 : decode cX8_surest 30 = .ok (.bipush (-2), 2) := gz_d tdX8_surest_t0_ok 15 rfl
theorem dX8_surest_32 : decode cX8_surest 32 = .ok (.ireturn, 1) := gz_d tdX8_surest_t0_ok 16 rfl
theorem dX8_surest_33 : decode cX8_surest 33 = .ok (.aload_n 0, 1) := gz_d tdX8_surest_t0_ok 17 rfl
theorem dX8_surest_34 : decode cX8_surest 34 = .ok (.aload_n 0, 1) := gz_d tdX8_surest_t0_ok 18 rfl
theorem dX8_surest_35 : decode cX8_surest 35 = .ok (.iconst 1, 1) := gz_d tdX8_surest_t0_ok 19 rfl
theorem dX8_surest_36 : decode cX8_surest 36 = .ok (.iload_n 1, 1) := gz_d tdX8_surest_t0_ok 20 rfl
theorem dX8_surest_37 : decode cX8_surest 37 = .ok (.isub, 1) := gz_d tdX8_surest_t0_ok 21 rfl
theorem dX8_surest_38 : decode cX8_surest 38 = .ok (.invokevirtual 67, 3) := gz_d tdX8_surest_t0_ok 22 rfl
theorem dX8_surest_41 : decode cX8_surest 41 = .ok (.invokevirtual 114, 3) := gz_d tdX8_surest_t0_ok 23 rfl
theorem dX8_surest_44 : decode cX8_surest 44 = .ok (.istore 5, 2) := gz_d tdX8_surest_t0_ok 24 rfl
theorem dX8_surest_46 : decode cX8_surest 46 = .ok (.aload_n 0, 1) := gz_d tdX8_surest_t0_ok 25 rfl
theorem dX8_surest_47 : decode cX8_surest 47 = .ok (.invokevirtual 89, 3) := gz_d tdX8_surest_t0_ok 26 rfl
theorem dX8_surest_50 : decode cX8_surest 50 = .ok (.iconst 1, 1) := gz_d tdX8_surest_t0_ok 27 rfl
theorem dX8_surest_51 : decode cX8_surest 51 = .ok (.isub, 1) := gz_d tdX8_surest_t0_ok 28 rfl
theorem dX8_surest_52 : decode cX8_surest 52 = .ok (.istore 6, 2) := gz_d tdX8_surest_t0_ok 29 rfl
theorem dX8_surest_54 : decode cX8_surest 54 = .ok (.iload 6, 2) := gz_d tdX8_surest_t0_ok 30 rfl
theorem dX8_surest_56 : decode cX8_surest 56 = .ok (.ifCond .lt 30, 3) := gz_d tdX8_surest_t0_ok 31 rfl
theorem dX8_surest_59 : decode cX8_surest 59 = .ok (.aload_n 0, 1) := gz_d tdX8_surest_t0_ok 32 rfl
theorem dX8_surest_60 : decode cX8_surest 60 = .ok (.iload_n 1, 1) := gz_d tdX8_surest_t0_ok 33 rfl
theorem dX8_surest_61 : decode cX8_surest 61 = .ok (.iload_n 2, 1) := gz_d tdX8_surest_t0_ok 34 rfl
theorem dX8_surest_62 : decode cX8_surest 62 = .ok (.iload 6, 2) := gz_d tdX8_surest_t0_ok 35 rfl
theorem dX8_surest_64 : decode cX8_surest 64 = .ok (.invokevirtual 111, 3) := gz_d tdX8_surest_t0_ok 36 rfl
theorem dX8_surest_67 : decode cX8_surest 67 = .ok (.iload 4, 2) := gz_d tdX8_surest_t0_ok 37 rfl
theorem dX8_surest_69 : decode cX8_surest 69 = .ok (.imul, 1) := gz_d tdX8_surest_t0_ok 38 rfl
theorem dX8_surest_70 : decode cX8_surest 70 = .ok (.iload_n 3, 1) := gz_d tdX8_surest_t0_ok 39 rfl
theorem dX8_surest_71 : decode cX8_surest 71 = .ok (.iload 5, 2) := gz_d tdX8_surest_t0_ok 40 rfl
theorem dX8_surest_73 : decode cX8_surest 73 = .ok (.imul, 1) := gz_d tdX8_surest_t0_ok 41 rfl
theorem dX8_surest_74 : decode cX8_surest 74 = .ok (.if_icmp .lt 6, 3) := gz_d tdX8_surest_t0_ok 42 rfl
theorem dX8_surest_77 : decode cX8_surest 77 = .ok (.iload 6, 2) := gz_d tdX8_surest_t0_ok 43 rfl
theorem dX8_surest_79 : decode cX8_surest 79 = .ok (.ireturn, 1) := gz_d tdX8_surest_t0_ok 44 rfl
theorem dX8_surest_80 : decode cX8_surest 80 = .ok (.iinc 6 (-1), 3) := gz_d tdX8_surest_t0_ok 45 rfl
theorem dX8_surest_83 : decode cX8_surest 83 = .ok (.goto (-29), 3) := gz_d tdX8_surest_t0_ok 46 rfl
theorem dX8_surest_86 : decode cX8_surest 86 = .ok (.iconst (-1), 1) := gz_d tdX8_surest_t0_ok 47 rfl
theorem dX8_surest_87 : decode cX8_surest 87 = .ok (.ireturn, 1) := gz_d tdX8_surest_t0_ok 48 rfl
def tdX8_isPlan_t0 : List (Nat × Instr × Nat) := [(0, .iload_n 0, 1), (1, .iconst 0, 1), (2, .iconst 3, 1), (3, .invokestatic 82, 3), (6, .ireturn, 1)]
theorem tdX8_isPlan_t0_ok : gz_dec cX8_isPlan tdX8_isPlan_t0 = true := by decide +kernel
theorem dX8_isPlan_0 : decode cX8_isPlan 0 = .ok (.iload_n 0, 1) := gz_d tdX8_isPlan_t0_ok 0 rfl
theorem dX8_isPlan_1 : decode cX8_isPlan 1 = .ok (.iconst 0, 1) := gz_d tdX8_isPlan_t0_ok 1 rfl
theorem dX8_isPlan_2 : decode cX8_isPlan 2 = .ok (.iconst 3, 1) := gz_d tdX8_isPlan_t0_ok 2 rfl
theorem dX8_isPlan_3 : decode cX8_isPlan 3 = .ok (.invokestatic 82, 3) := gz_d tdX8_isPlan_t0_ok 3 rfl
theorem dX8_isPlan_6 : decode cX8_isPlan 6 = .ok (.ireturn, 1) := gz_d tdX8_isPlan_t0_ok 4 rfl
def tdX8_mayMove_t0 : List (Nat × Instr × Nat) := [(0, .iload_n 2, 1), (1, .iconst (-1), 1), (2, .if_icmp .ne 16, 3), (5, .iload_n 1, 1), (6, .iconst (-1), 1), (7, .if_icmp .eq 7, 3), (10, .iconst 1, 1), (11, .goto 25, 3), (14, .iconst 0, 1), (15, .goto 21, 3), (18, .aload_n 0, 1), (19, .iload_n 2, 1), (20, .invokevirtual 105, 3), (23, .ifCond .eq 12, 3), (26, .iload_n 2, 1), (27, .iload_n 1, 1), (28, .if_icmp .le 7, 3), (31, .iconst 1, 1), (32, .goto 4, 3), (35, .iconst 0, 1), (36, .ireturn, 1)]
theorem tdX8_mayMove_t0_ok : gz_dec cX8_mayMove tdX8_mayMove_t0 = true := by decide +kernel
theorem dX8_mayMove_0 : decode cX8_mayMove 0 = .ok (.iload_n 2, 1) := gz_d tdX8_mayMove_t0_ok 0 rfl
theorem dX8_mayMove_1 : decode cX8_mayMove 1 = .ok (.iconst (-1), 1) := gz_d tdX8_mayMove_t0_ok 1 rfl
theorem dX8_mayMove_2 : decode cX8_mayMove 2 = .ok (.if_icmp .ne 16, 3) := gz_d tdX8_mayMove_t0_ok 2 rfl
theorem dX8_mayMove_5 : decode cX8_mayMove 5 = .ok (.iload_n 1, 1) := gz_d tdX8_mayMove_t0_ok 3 rfl
theorem dX8_mayMove_6 : decode cX8_mayMove 6 = .ok (.iconst (-1), 1) := gz_d tdX8_mayMove_t0_ok 4 rfl
theorem dX8_mayMove_7 : decode cX8_mayMove 7 = .ok (.if_icmp .eq 7, 3) := gz_d tdX8_mayMove_t0_ok 5 rfl
theorem dX8_mayMove_10 : decode cX8_mayMove 10 = .ok (.iconst 1, 1) := gz_d tdX8_mayMove_t0_ok 6 rfl
theorem dX8_mayMove_11 : decode cX8_mayMove 11 = .ok (.goto 25, 3) := gz_d tdX8_mayMove_t0_ok 7 rfl
theorem dX8_mayMove_14 : decode cX8_mayMove 14 = .ok (.iconst 0, 1) := gz_d tdX8_mayMove_t0_ok 8 rfl
theorem dX8_mayMove_15 : decode cX8_mayMove 15 = .ok (.goto 21, 3) := gz_d tdX8_mayMove_t0_ok 9 rfl
theorem dX8_mayMove_18 : decode cX8_mayMove 18 = .ok (.aload_n 0, 1) := gz_d tdX8_mayMove_t0_ok 10 rfl
theorem dX8_mayMove_19 : decode cX8_mayMove 19 = .ok (.iload_n 2, 1) := gz_d tdX8_mayMove_t0_ok 11 rfl
theorem dX8_mayMove_20 : decode cX8_mayMove 20 = .ok (.invokevirtual 105, 3) := gz_d tdX8_mayMove_t0_ok 12 rfl
theorem dX8_mayMove_23 : decode cX8_mayMove 23 = .ok (.ifCond .eq 12, 3) := gz_d tdX8_mayMove_t0_ok 13 rfl
theorem dX8_mayMove_26 : decode cX8_mayMove 26 = .ok (.iload_n 2, 1) := gz_d tdX8_mayMove_t0_ok 14 rfl
theorem dX8_mayMove_27 : decode cX8_mayMove 27 = .ok (.iload_n 1, 1) := gz_d tdX8_mayMove_t0_ok 15 rfl
theorem dX8_mayMove_28 : decode cX8_mayMove 28 = .ok (.if_icmp .le 7, 3) := gz_d tdX8_mayMove_t0_ok 16 rfl
theorem dX8_mayMove_31 : decode cX8_mayMove 31 = .ok (.iconst 1, 1) := gz_d tdX8_mayMove_t0_ok 17 rfl
theorem dX8_mayMove_32 : decode cX8_mayMove 32 = .ok (.goto 4, 3) := gz_d tdX8_mayMove_t0_ok 18 rfl
theorem dX8_mayMove_35 : decode cX8_mayMove 35 = .ok (.iconst 0, 1) := gz_d tdX8_mayMove_t0_ok 19 rfl
theorem dX8_mayMove_36 : decode cX8_mayMove 36 = .ok (.ireturn, 1) := gz_d tdX8_mayMove_t0_ok 20 rfl
def tdX8_at_t0 : List (Nat × Instr × Nat) := [(0, .iload_n 1, 1), (1, .iconst 3, 1), (2, .imul, 1), (3, .aload_n 0, 1), (4, .iload_n 2, 1), (5, .invokevirtual 67, 3), (8, .iadd, 1), (9, .iconst 1, 1), (10, .isub, 1), (11, .iconst 4, 1), (12, .imul, 1), (13, .iload_n 3, 1), (14, .iadd, 1), (15, .bipush 9, 2), (17, .imul, 1), (18, .iload 4, 2), (20, .iadd, 1), (21, .iconst 1, 1), (22, .iadd, 1), (23, .bipush 9, 2), (25, .imul, 1), (26, .iload 5, 2), (28, .iadd, 1), (29, .iconst 1, 1), (30, .iadd, 1), (31, .ireturn, 1)]
theorem tdX8_at_t0_ok : gz_dec cX8_at tdX8_at_t0 = true := by decide +kernel
theorem dX8_at_0 : decode cX8_at 0 = .ok (.iload_n 1, 1) := gz_d tdX8_at_t0_ok 0 rfl
theorem dX8_at_1 : decode cX8_at 1 = .ok (.iconst 3, 1) := gz_d tdX8_at_t0_ok 1 rfl
theorem dX8_at_2 : decode cX8_at 2 = .ok (.imul, 1) := gz_d tdX8_at_t0_ok 2 rfl
theorem dX8_at_3 : decode cX8_at 3 = .ok (.aload_n 0, 1) := gz_d tdX8_at_t0_ok 3 rfl
theorem dX8_at_4 : decode cX8_at 4 = .ok (.iload_n 2, 1) := gz_d tdX8_at_t0_ok 4 rfl
theorem dX8_at_5 : decode cX8_at 5 = .ok (.invokevirtual 67, 3) := gz_d tdX8_at_t0_ok 5 rfl
theorem dX8_at_8 : decode cX8_at 8 = .ok (.iadd, 1) := gz_d tdX8_at_t0_ok 6 rfl
theorem dX8_at_9 : decode cX8_at 9 = .ok (.iconst 1, 1) := gz_d tdX8_at_t0_ok 7 rfl
theorem dX8_at_10 : decode cX8_at 10 = .ok (.isub, 1) := gz_d tdX8_at_t0_ok 8 rfl
theorem dX8_at_11 : decode cX8_at 11 = .ok (.iconst 4, 1) := gz_d tdX8_at_t0_ok 9 rfl
theorem dX8_at_12 : decode cX8_at 12 = .ok (.imul, 1) := gz_d tdX8_at_t0_ok 10 rfl
theorem dX8_at_13 : decode cX8_at 13 = .ok (.iload_n 3, 1) := gz_d tdX8_at_t0_ok 11 rfl
theorem dX8_at_14 : decode cX8_at 14 = .ok (.iadd, 1) := gz_d tdX8_at_t0_ok 12 rfl
theorem dX8_at_15 : decode cX8_at 15 = .ok (.bipush 9, 2) := gz_d tdX8_at_t0_ok 13 rfl
theorem dX8_at_17 : decode cX8_at 17 = .ok (.imul, 1) := gz_d tdX8_at_t0_ok 14 rfl
theorem dX8_at_18 : decode cX8_at 18 = .ok (.iload 4, 2) := gz_d tdX8_at_t0_ok 15 rfl
theorem dX8_at_20 : decode cX8_at 20 = .ok (.iadd, 1) := gz_d tdX8_at_t0_ok 16 rfl
theorem dX8_at_21 : decode cX8_at 21 = .ok (.iconst 1, 1) := gz_d tdX8_at_t0_ok 17 rfl
theorem dX8_at_22 : decode cX8_at 22 = .ok (.iadd, 1) := gz_d tdX8_at_t0_ok 18 rfl
theorem dX8_at_23 : decode cX8_at 23 = .ok (.bipush 9, 2) := gz_d tdX8_at_t0_ok 19 rfl
theorem dX8_at_25 : decode cX8_at 25 = .ok (.imul, 1) := gz_d tdX8_at_t0_ok 20 rfl
theorem dX8_at_26 : decode cX8_at 26 = .ok (.iload 5, 2) := gz_d tdX8_at_t0_ok 21 rfl
theorem dX8_at_28 : decode cX8_at 28 = .ok (.iadd, 1) := gz_d tdX8_at_t0_ok 22 rfl
theorem dX8_at_29 : decode cX8_at 29 = .ok (.iconst 1, 1) := gz_d tdX8_at_t0_ok 23 rfl
theorem dX8_at_30 : decode cX8_at 30 = .ok (.iadd, 1) := gz_d tdX8_at_t0_ok 24 rfl
theorem dX8_at_31 : decode cX8_at 31 = .ok (.ireturn, 1) := gz_d tdX8_at_t0_ok 25 rfl
def tdX8_weigh_t0 : List (Nat × Instr × Nat) := [(0, .iload_n 1, 1), (1, .invokestatic 117, 3), (4, .ifCond .eq 49, 3), (7, .aload_n 0, 1), (8, .iload_n 2, 1), (9, .iload_n 3, 1), (10, .invokevirtual 97, 3), (13, .ifCond .eq 40, 3), (16, .iload 4, 2), (18, .iconst (-1), 1), (19, .if_icmp .eq 12, 3), (22, .aload_n 0, 1), (23, .iload 4, 2), (25, .invokevirtual 105, 3), (28, .ifCond .eq 25, 3), (31, .aload_n 0, 1), (32, .iload 4, 2), (34, .iload 5, 2), (36, .invokevirtual 120, 3), (39, .ifCond .eq 14, 3), (42, .iload 6, 2), (44, .iconst 0, 1), (45, .bipush 20, 2), (47, .invokestatic 82, 3), (50, .ifCond .ne 6, 3), (53, .bipush (-2), 2), (55, .ireturn, 1), (56, .aload_n 0, 1), (57, .iload_n 1, 1), (58, .iload_n 2, 1), (59, .iload_n 3, 1), (60, .iload 4, 2), (62, .iload 5, 2), (64, .invokevirtual 123, 3), (67, .istore 7, 2), (69, .aload_n 0, 1), (70, .getfield 29, 3), (73, .iload 7, 2), (75, .iaload, 1), (76, .istore 8, 2), (78, .aload_n 0, 1), (79, .getfield 29, 3), (82, .iload 7, 2), (84, .iload 6, 2), (86, .iastore, 1), (87, .iload 8, 2), (89, .ireturn, 1)]
theorem tdX8_weigh_t0_ok : gz_dec cX8_weigh tdX8_weigh_t0 = true := by decide +kernel
theorem dX8_weigh_0 : decode cX8_weigh 0 = .ok (.iload_n 1, 1) := gz_d tdX8_weigh_t0_ok 0 rfl
theorem dX8_weigh_1 : decode cX8_weigh 1 = .ok (.invokestatic 117, 3) := gz_d tdX8_weigh_t0_ok 1 rfl
theorem dX8_weigh_4 : decode cX8_weigh 4 = .ok (.ifCond .eq 49, 3) := gz_d tdX8_weigh_t0_ok 2 rfl
theorem dX8_weigh_7 : decode cX8_weigh 7 = .ok (.aload_n 0, 1) := gz_d tdX8_weigh_t0_ok 3 rfl
theorem dX8_weigh_8 : decode cX8_weigh 8 = .ok (.iload_n 2, 1) := gz_d tdX8_weigh_t0_ok 4 rfl
theorem dX8_weigh_9 : decode cX8_weigh 9 = .ok (.iload_n 3, 1) := gz_d tdX8_weigh_t0_ok 5 rfl
theorem dX8_weigh_10 : decode cX8_weigh 10 = .ok (.invokevirtual 97, 3) := gz_d tdX8_weigh_t0_ok 6 rfl
theorem dX8_weigh_13 : decode cX8_weigh 13 = .ok (.ifCond .eq 40, 3) := gz_d tdX8_weigh_t0_ok 7 rfl
theorem dX8_weigh_16 : decode cX8_weigh 16 = .ok (.iload 4, 2) := gz_d tdX8_weigh_t0_ok 8 rfl
theorem dX8_weigh_18 : decode cX8_weigh 18 = .ok (.iconst (-1), 1) := gz_d tdX8_weigh_t0_ok 9 rfl
theorem dX8_weigh_19 : decode cX8_weigh 19 = .ok (.if_icmp .eq 12, 3) := gz_d tdX8_weigh_t0_ok 10 rfl
theorem dX8_weigh_22 : decode cX8_weigh 22 = .ok (.aload_n 0, 1) := gz_d tdX8_weigh_t0_ok 11 rfl
theorem dX8_weigh_23 : decode cX8_weigh 23 = .ok (.iload 4, 2) := gz_d tdX8_weigh_t0_ok 12 rfl
theorem dX8_weigh_25 : decode cX8_weigh 25 = .ok (.invokevirtual 105, 3) := gz_d tdX8_weigh_t0_ok 13 rfl
theorem dX8_weigh_28 : decode cX8_weigh 28 = .ok (.ifCond .eq 25, 3) := gz_d tdX8_weigh_t0_ok 14 rfl
theorem dX8_weigh_31 : decode cX8_weigh 31 = .ok (.aload_n 0, 1) := gz_d tdX8_weigh_t0_ok 15 rfl
theorem dX8_weigh_32 : decode cX8_weigh 32 = .ok (.iload 4, 2) := gz_d tdX8_weigh_t0_ok 16 rfl
theorem dX8_weigh_34 : decode cX8_weigh 34 = .ok (.iload 5, 2) := gz_d tdX8_weigh_t0_ok 17 rfl
theorem dX8_weigh_36 : decode cX8_weigh 36 = .ok (.invokevirtual 120, 3) := gz_d tdX8_weigh_t0_ok 18 rfl
theorem dX8_weigh_39 : decode cX8_weigh 39 = .ok (.ifCond .eq 14, 3) := gz_d tdX8_weigh_t0_ok 19 rfl
theorem dX8_weigh_42 : decode cX8_weigh 42 = .ok (.iload 6, 2) := gz_d tdX8_weigh_t0_ok 20 rfl
theorem dX8_weigh_44 : decode cX8_weigh 44 = .ok (.iconst 0, 1) := gz_d tdX8_weigh_t0_ok 21 rfl
theorem dX8_weigh_45 : decode cX8_weigh 45 = .ok (.bipush 20, 2) := gz_d tdX8_weigh_t0_ok 22 rfl
theorem dX8_weigh_47 : decode cX8_weigh 47 = .ok (.invokestatic 82, 3) := gz_d tdX8_weigh_t0_ok 23 rfl
theorem dX8_weigh_50 : decode cX8_weigh 50 = .ok (.ifCond .ne 6, 3) := gz_d tdX8_weigh_t0_ok 24 rfl
theorem dX8_weigh_53 : decode cX8_weigh 53 = .ok (.bipush (-2), 2) := gz_d tdX8_weigh_t0_ok 25 rfl
theorem dX8_weigh_55 : decode cX8_weigh 55 = .ok (.ireturn, 1) := gz_d tdX8_weigh_t0_ok 26 rfl
theorem dX8_weigh_56 : decode cX8_weigh 56 = .ok (.aload_n 0, 1) := gz_d tdX8_weigh_t0_ok 27 rfl
theorem dX8_weigh_57 : decode cX8_weigh 57 = .ok (.iload_n 1, 1) := gz_d tdX8_weigh_t0_ok 28 rfl
theorem dX8_weigh_58 : decode cX8_weigh 58 = .ok (.iload_n 2, 1) := gz_d tdX8_weigh_t0_ok 29 rfl
theorem dX8_weigh_59 : decode cX8_weigh 59 = .ok (.iload_n 3, 1) := gz_d tdX8_weigh_t0_ok 30 rfl
theorem dX8_weigh_60 : decode cX8_weigh 60 = .ok (.iload 4, 2) := gz_d tdX8_weigh_t0_ok 31 rfl
theorem dX8_weigh_62 : decode cX8_weigh 62 = .ok (.iload 5, 2) := gz_d tdX8_weigh_t0_ok 32 rfl
theorem dX8_weigh_64 : decode cX8_weigh 64 = .ok (.invokevirtual 123, 3) := gz_d tdX8_weigh_t0_ok 33 rfl
theorem dX8_weigh_67 : decode cX8_weigh 67 = .ok (.istore 7, 2) := gz_d tdX8_weigh_t0_ok 34 rfl
theorem dX8_weigh_69 : decode cX8_weigh 69 = .ok (.aload_n 0, 1) := gz_d tdX8_weigh_t0_ok 35 rfl
theorem dX8_weigh_70 : decode cX8_weigh 70 = .ok (.getfield 29, 3) := gz_d tdX8_weigh_t0_ok 36 rfl
theorem dX8_weigh_73 : decode cX8_weigh 73 = .ok (.iload 7, 2) := gz_d tdX8_weigh_t0_ok 37 rfl
theorem dX8_weigh_75 : decode cX8_weigh 75 = .ok (.iaload, 1) := gz_d tdX8_weigh_t0_ok 38 rfl
theorem dX8_weigh_76 : decode cX8_weigh 76 = .ok (.istore 8, 2) := gz_d tdX8_weigh_t0_ok 39 rfl
theorem dX8_weigh_78 : decode cX8_weigh 78 = .ok (.aload_n 0, 1) := gz_d tdX8_weigh_t0_ok 40 rfl
theorem dX8_weigh_79 : decode cX8_weigh 79 = .ok (.getfield 29, 3) := gz_d tdX8_weigh_t0_ok 41 rfl
theorem dX8_weigh_82 : decode cX8_weigh 82 = .ok (.iload 7, 2) := gz_d tdX8_weigh_t0_ok 42 rfl
theorem dX8_weigh_84 : decode cX8_weigh 84 = .ok (.iload 6, 2) := gz_d tdX8_weigh_t0_ok 43 rfl
theorem dX8_weigh_86 : decode cX8_weigh 86 = .ok (.iastore, 1) := gz_d tdX8_weigh_t0_ok 44 rfl
theorem dX8_weigh_87 : decode cX8_weigh 87 = .ok (.iload 8, 2) := gz_d tdX8_weigh_t0_ok 45 rfl
theorem dX8_weigh_89 : decode cX8_weigh 89 = .ok (.ireturn, 1) := gz_d tdX8_weigh_t0_ok 46 rfl
def tdX8_total_t0 : List (Nat × Instr × Nat) := [(0, .iconst 0, 1), (1, .istore 5, 2), (3, .iload 4, 2), (5, .iconst (-1), 1), (6, .if_icmp .ne 7, 3), (9, .iconst 0, 1), (10, .goto 4, 3), (13, .iconst (-1), 1), (14, .istore 6, 2), (16, .iload 6, 2), (18, .aload_n 0, 1), (19, .invokevirtual 89, 3), (22, .if_icmp .ge 45, 3), (25, .iload 5, 2), (27, .aload_n 0, 1), (28, .iload 4, 2), (30, .iload 6, 2), (32, .invokevirtual 120, 3), (35, .ifCond .eq 22, 3), (38, .aload_n 0, 1), (39, .getfield 29, 3), (42, .aload_n 0, 1), (43, .iload_n 1, 1), (44, .iload_n 2, 1), (45, .iload_n 3, 1), (46, .iload 4, 2), (48, .iload 6, 2), (50, .invokevirtual 123, 3), (53, .iaload, 1), (54, .goto 4, 3), (57, .iconst 0, 1), (58, .iadd, 1), (59, .istore 5, 2), (61, .iinc 6 1, 3), (64, .goto (-48), 3), (67, .iload 5, 2), (69, .ireturn, 1)]
theorem tdX8_total_t0_ok : gz_dec cX8_total tdX8_total_t0 = true := by decide +kernel
theorem dX8_total_0 : decode cX8_total 0 = .ok (.iconst 0, 1) := gz_d tdX8_total_t0_ok 0 rfl
theorem dX8_total_1 : decode cX8_total 1 = .ok (.istore 5, 2) := gz_d tdX8_total_t0_ok 1 rfl
theorem dX8_total_3 : decode cX8_total 3 = .ok (.iload 4, 2) := gz_d tdX8_total_t0_ok 2 rfl
theorem dX8_total_5 : decode cX8_total 5 = .ok (.iconst (-1), 1) := gz_d tdX8_total_t0_ok 3 rfl
theorem dX8_total_6 : decode cX8_total 6 = .ok (.if_icmp .ne 7, 3) := gz_d tdX8_total_t0_ok 4 rfl
theorem dX8_total_9 : decode cX8_total 9 = .ok (.iconst 0, 1) := gz_d tdX8_total_t0_ok 5 rfl
theorem dX8_total_10 : decode cX8_total 10 = .ok (.goto 4, 3) := gz_d tdX8_total_t0_ok 6 rfl
theorem dX8_total_13 : decode cX8_total 13 = .ok (.iconst (-1), 1) := gz_d tdX8_total_t0_ok 7 rfl
theorem dX8_total_14 : decode cX8_total 14 = .ok (.istore 6, 2) := gz_d tdX8_total_t0_ok 8 rfl
theorem dX8_total_16 : decode cX8_total 16 = .ok (.iload 6, 2) := gz_d tdX8_total_t0_ok 9 rfl
theorem dX8_total_18 : decode cX8_total 18 = .ok (.aload_n 0, 1) := gz_d tdX8_total_t0_ok 10 rfl
theorem dX8_total_19 : decode cX8_total 19 = .ok (.invokevirtual 89, 3) := gz_d tdX8_total_t0_ok 11 rfl
theorem dX8_total_22 : decode cX8_total 22 = .ok (.if_icmp .ge 45, 3) := gz_d tdX8_total_t0_ok 12 rfl
theorem dX8_total_25 : decode cX8_total 25 = .ok (.iload 5, 2) := gz_d tdX8_total_t0_ok 13 rfl
theorem dX8_total_27 : decode cX8_total 27 = .ok (.aload_n 0, 1) := gz_d tdX8_total_t0_ok 14 rfl
theorem dX8_total_28 : decode cX8_total 28 = .ok (.iload 4, 2) := gz_d tdX8_total_t0_ok 15 rfl
theorem dX8_total_30 : decode cX8_total 30 = .ok (.iload 6, 2) := gz_d tdX8_total_t0_ok 16 rfl
theorem dX8_total_32 : decode cX8_total 32 = .ok (.invokevirtual 120, 3) := gz_d tdX8_total_t0_ok 17 rfl
theorem dX8_total_35 : decode cX8_total 35 = .ok (.ifCond .eq 22, 3) := gz_d tdX8_total_t0_ok 18 rfl
theorem dX8_total_38 : decode cX8_total 38 = .ok (.aload_n 0, 1) := gz_d tdX8_total_t0_ok 19 rfl
theorem dX8_total_39 : decode cX8_total 39 = .ok (.getfield 29, 3) := gz_d tdX8_total_t0_ok 20 rfl
theorem dX8_total_42 : decode cX8_total 42 = .ok (.aload_n 0, 1) := gz_d tdX8_total_t0_ok 21 rfl
theorem dX8_total_43 : decode cX8_total 43 = .ok (.iload_n 1, 1) := gz_d tdX8_total_t0_ok 22 rfl
theorem dX8_total_44 : decode cX8_total 44 = .ok (.iload_n 2, 1) := gz_d tdX8_total_t0_ok 23 rfl
theorem dX8_total_45 : decode cX8_total 45 = .ok (.iload_n 3, 1) := gz_d tdX8_total_t0_ok 24 rfl
theorem dX8_total_46 : decode cX8_total 46 = .ok (.iload 4, 2) := gz_d tdX8_total_t0_ok 25 rfl
theorem dX8_total_48 : decode cX8_total 48 = .ok (.iload 6, 2) := gz_d tdX8_total_t0_ok 26 rfl
theorem dX8_total_50 : decode cX8_total 50 = .ok (.invokevirtual 123, 3) := gz_d tdX8_total_t0_ok 27 rfl
theorem dX8_total_53 : decode cX8_total 53 = .ok (.iaload, 1) := gz_d tdX8_total_t0_ok 28 rfl
theorem dX8_total_54 : decode cX8_total 54 = .ok (.goto 4, 3) := gz_d tdX8_total_t0_ok 29 rfl
theorem dX8_total_57 : decode cX8_total 57 = .ok (.iconst 0, 1) := gz_d tdX8_total_t0_ok 30 rfl
theorem dX8_total_58 : decode cX8_total 58 = .ok (.iadd, 1) := gz_d tdX8_total_t0_ok 31 rfl
theorem dX8_total_59 : decode cX8_total 59 = .ok (.istore 5, 2) := gz_d tdX8_total_t0_ok 32 rfl
theorem dX8_total_61 : decode cX8_total 61 = .ok (.iinc 6 1, 3) := gz_d tdX8_total_t0_ok 33 rfl
theorem dX8_total_64 : decode cX8_total 64 = .ok (.goto (-48), 3) := gz_d tdX8_total_t0_ok 34 rfl
theorem dX8_total_67 : decode cX8_total 67 = .ok (.iload 5, 2) := gz_d tdX8_total_t0_ok 35 rfl
theorem dX8_total_69 : decode cX8_total 69 = .ok (.ireturn, 1) := gz_d tdX8_total_t0_ok 36 rfl
def tdX8_part_t0 : List (Nat × Instr × Nat) := [(0, .aload_n 0, 1), (1, .iload_n 1, 1), (2, .iload_n 2, 1), (3, .iload_n 3, 1), (4, .iload 4, 2), (6, .invokevirtual 127, 3), (9, .istore 6, 2), (11, .iload 6, 2), (13, .ifCond .ne 25, 3), (16, .iload 5, 2), (18, .iload 4, 2), (20, .iconst (-1), 1), (21, .if_icmp .ne 7, 3), (24, .iconst 0, 1), (25, .goto 4, 3), (28, .iconst (-1), 1), (29, .if_icmp .ne 7, 3), (32, .dconst 1, 1), (33, .goto 4, 3), (36, .dconst 0, 1), (37, .dreturn, 1), (38, .aload_n 0, 1), (39, .getfield 29, 3), (42, .aload_n 0, 1), (43, .iload_n 1, 1), (44, .iload_n 2, 1), (45, .iload_n 3, 1), (46, .iload 4, 2), (48, .iload 5, 2), (50, .invokevirtual 123, 3), (53, .iaload, 1), (54, .i2d, 1), (55, .iload 6, 2), (57, .i2d, 1), (58, .ddiv, 1), (59, .dreturn, 1)]
theorem tdX8_part_t0_ok : gz_dec cX8_part tdX8_part_t0 = true := by decide +kernel
theorem dX8_part_0 : decode cX8_part 0 = .ok (.aload_n 0, 1) := gz_d tdX8_part_t0_ok 0 rfl
theorem dX8_part_1 : decode cX8_part 1 = .ok (.iload_n 1, 1) := gz_d tdX8_part_t0_ok 1 rfl
theorem dX8_part_2 : decode cX8_part 2 = .ok (.iload_n 2, 1) := gz_d tdX8_part_t0_ok 2 rfl
theorem dX8_part_3 : decode cX8_part 3 = .ok (.iload_n 3, 1) := gz_d tdX8_part_t0_ok 3 rfl
theorem dX8_part_4 : decode cX8_part 4 = .ok (.iload 4, 2) := gz_d tdX8_part_t0_ok 4 rfl
theorem dX8_part_6 : decode cX8_part 6 = .ok (.invokevirtual 127, 3) := gz_d tdX8_part_t0_ok 5 rfl
theorem dX8_part_9 : decode cX8_part 9 = .ok (.istore 6, 2) := gz_d tdX8_part_t0_ok 6 rfl
theorem dX8_part_11 : decode cX8_part 11 = .ok (.iload 6, 2) := gz_d tdX8_part_t0_ok 7 rfl
theorem dX8_part_13 : decode cX8_part 13 = .ok (.ifCond .ne 25, 3) := gz_d tdX8_part_t0_ok 8 rfl
theorem dX8_part_16 : decode cX8_part 16 = .ok (.iload 5, 2) := gz_d tdX8_part_t0_ok 9 rfl
theorem dX8_part_18 : decode cX8_part 18 = .ok (.iload 4, 2) := gz_d tdX8_part_t0_ok 10 rfl
theorem dX8_part_20 : decode cX8_part 20 = .ok (.iconst (-1), 1) := gz_d tdX8_part_t0_ok 11 rfl
theorem dX8_part_21 : decode cX8_part 21 = .ok (.if_icmp .ne 7, 3) := gz_d tdX8_part_t0_ok 12 rfl
theorem dX8_part_24 : decode cX8_part 24 = .ok (.iconst 0, 1) := gz_d tdX8_part_t0_ok 13 rfl
theorem dX8_part_25 : decode cX8_part 25 = .ok (.goto 4, 3) := gz_d tdX8_part_t0_ok 14 rfl
theorem dX8_part_28 : decode cX8_part 28 = .ok (.iconst (-1), 1) := gz_d tdX8_part_t0_ok 15 rfl
theorem dX8_part_29 : decode cX8_part 29 = .ok (.if_icmp .ne 7, 3) := gz_d tdX8_part_t0_ok 16 rfl
theorem dX8_part_32 : decode cX8_part 32 = .ok (.dconst 1, 1) := gz_d tdX8_part_t0_ok 17 rfl
theorem dX8_part_33 : decode cX8_part 33 = .ok (.goto 4, 3) := gz_d tdX8_part_t0_ok 18 rfl
theorem dX8_part_36 : decode cX8_part 36 = .ok (.dconst 0, 1) := gz_d tdX8_part_t0_ok 19 rfl
theorem dX8_part_37 : decode cX8_part 37 = .ok (.dreturn, 1) := gz_d tdX8_part_t0_ok 20 rfl
theorem dX8_part_38 : decode cX8_part 38 = .ok (.aload_n 0, 1) := gz_d tdX8_part_t0_ok 21 rfl
theorem dX8_part_39 : decode cX8_part 39 = .ok (.getfield 29, 3) := gz_d tdX8_part_t0_ok 22 rfl
theorem dX8_part_42 : decode cX8_part 42 = .ok (.aload_n 0, 1) := gz_d tdX8_part_t0_ok 23 rfl
theorem dX8_part_43 : decode cX8_part 43 = .ok (.iload_n 1, 1) := gz_d tdX8_part_t0_ok 24 rfl
theorem dX8_part_44 : decode cX8_part 44 = .ok (.iload_n 2, 1) := gz_d tdX8_part_t0_ok 25 rfl
theorem dX8_part_45 : decode cX8_part 45 = .ok (.iload_n 3, 1) := gz_d tdX8_part_t0_ok 26 rfl
theorem dX8_part_46 : decode cX8_part 46 = .ok (.iload 4, 2) := gz_d tdX8_part_t0_ok 27 rfl
theorem dX8_part_48 : decode cX8_part 48 = .ok (.iload 5, 2) := gz_d tdX8_part_t0_ok 28 rfl
theorem dX8_part_50 : decode cX8_part 50 = .ok (.invokevirtual 123, 3) := gz_d tdX8_part_t0_ok 29 rfl
theorem dX8_part_53 : decode cX8_part 53 = .ok (.iaload, 1) := gz_d tdX8_part_t0_ok 30 rfl
theorem dX8_part_54 : decode cX8_part 54 = .ok (.i2d, 1) := gz_d tdX8_part_t0_ok 31 rfl
theorem dX8_part_55 : decode cX8_part 55 = .ok (.iload 6, 2) := gz_d tdX8_part_t0_ok 32 rfl
theorem dX8_part_57 : decode cX8_part 57 = .ok (.i2d, 1) := gz_d tdX8_part_t0_ok 33 rfl
theorem dX8_part_58 : decode cX8_part 58 = .ok (.ddiv, 1) := gz_d tdX8_part_t0_ok 34 rfl
theorem dX8_part_59 : decode cX8_part 59 = .ok (.dreturn, 1) := gz_d tdX8_part_t0_ok 35 rfl
def tdX8_wins_t0 : List (Nat × Instr × Nat) := [(0, .aload_n 0, 1), (1, .iload_n 3, 1), (2, .iload 4, 2), (4, .iload 5, 2), (6, .invokevirtual 108, 3), (9, .iload_n 1, 1), (10, .iload_n 2, 1), (11, .if_icmp .eq 7, 3), (14, .iconst 1, 1), (15, .goto 4, 3), (18, .iconst 0, 1), (19, .if_icmp .ne 7, 3), (22, .iconst 1, 1), (23, .goto 4, 3), (26, .iconst 0, 1), (27, .ireturn, 1)]
theorem tdX8_wins_t0_ok : gz_dec cX8_wins tdX8_wins_t0 = true := by decide +kernel
theorem dX8_wins_0 : decode cX8_wins 0 = .ok (.aload_n 0, 1) := gz_d tdX8_wins_t0_ok 0 rfl
theorem dX8_wins_1 : decode cX8_wins 1 = .ok (.iload_n 3, 1) := gz_d tdX8_wins_t0_ok 1 rfl
theorem dX8_wins_2 : decode cX8_wins 2 = .ok (.iload 4, 2) := gz_d tdX8_wins_t0_ok 2 rfl
theorem dX8_wins_4 : decode cX8_wins 4 = .ok (.iload 5, 2) := gz_d tdX8_wins_t0_ok 3 rfl
theorem dX8_wins_6 : decode cX8_wins 6 = .ok (.invokevirtual 108, 3) := gz_d tdX8_wins_t0_ok 4 rfl
theorem dX8_wins_9 : decode cX8_wins 9 = .ok (.iload_n 1, 1) := gz_d tdX8_wins_t0_ok 5 rfl
theorem dX8_wins_10 : decode cX8_wins 10 = .ok (.iload_n 2, 1) := gz_d tdX8_wins_t0_ok 6 rfl
theorem dX8_wins_11 : decode cX8_wins 11 = .ok (.if_icmp .eq 7, 3) := gz_d tdX8_wins_t0_ok 7 rfl
theorem dX8_wins_14 : decode cX8_wins 14 = .ok (.iconst 1, 1) := gz_d tdX8_wins_t0_ok 8 rfl
theorem dX8_wins_15 : decode cX8_wins 15 = .ok (.goto 4, 3) := gz_d tdX8_wins_t0_ok 9 rfl
theorem dX8_wins_18 : decode cX8_wins 18 = .ok (.iconst 0, 1) := gz_d tdX8_wins_t0_ok 10 rfl
theorem dX8_wins_19 : decode cX8_wins 19 = .ok (.if_icmp .ne 7, 3) := gz_d tdX8_wins_t0_ok 11 rfl
theorem dX8_wins_22 : decode cX8_wins 22 = .ok (.iconst 1, 1) := gz_d tdX8_wins_t0_ok 12 rfl
theorem dX8_wins_23 : decode cX8_wins 23 = .ok (.goto 4, 3) := gz_d tdX8_wins_t0_ok 13 rfl
theorem dX8_wins_26 : decode cX8_wins 26 = .ok (.iconst 0, 1) := gz_d tdX8_wins_t0_ok 14 rfl
theorem dX8_wins_27 : decode cX8_wins 27 = .ok (.ireturn, 1) := gz_d tdX8_wins_t0_ok 15 rfl
def tdX8_worthOf_t0 : List (Nat × Instr × Nat) := [(0, .aload_n 0, 1), (1, .invokevirtual 89, 3), (4, .iconst 1, 1), (5, .isub, 1), (6, .istore 5, 2), (8, .iload 5, 2), (10, .iconst (-1), 1), (11, .if_icmp .lt 186, 3), (14, .iconst 0, 1), (15, .istore 6, 2), (17, .iload 6, 2), (19, .iconst 2, 1), (20, .if_icmp .ge 171, 3), (23, .iload 6, 2), (25, .ifCond .ne 7, 3), (28, .iload_n 1, 1), (29, .goto 4, 3), (32, .iload_n 2, 1), (33, .istore 7, 2), (35, .iload 6, 2), (37, .ifCond .ne 7, 3), (40, .iload_n 3, 1), (41, .goto 5, 3), (44, .iload 4, 2), (46, .istore 8, 2), (48, .dconst 0, 1), (49, .dstore 9, 2), (51, .iconst (-1), 1), (52, .istore 11, 2), (54, .iload 11, 2), (56, .aload_n 0, 1), (57, .invokevirtual 89, 3), (60, .if_icmp .ge 99, 3), (63, .aload_n 0, 1), (64, .iload 5, 2), (66, .iload 11, 2), (68, .invokevirtual 120, 3), (71, .ifCond .eq 82, 3), (74, .aload_n 0, 1), (75, .iload 7, 2), (77, .iload 6, 2), (79, .iload 8, 2), (81, .iload 5, 2), (83, .iload 11, 2), (85, .invokevirtual 131, 3), (88, .dstore 12, 2), (90, .dload 12, 2), (92, .dconst 0, 1), (93, .dcmp .l, 1), (94, .ifCond .le 59, 3), (97, .iload 11, 2), (99, .iconst (-1), 1), (100, .if_icmp .ne 26, 3), (103, .aload_n 0, 1), (104, .iconst 0, 1), (105, .iload 6, 2), (107, .iload_n 3, 1), (108, .iload 4, 2), (110, .iload 5, 2), (112, .invokevirtual 135, 3)]
theorem tdX8_worthOf_t0_ok : gz_dec cX8_worthOf tdX8_worthOf_t0 = true := by decide +kernel
theorem dX8_worthOf_0 : decode cX8_worthOf 0 = .ok (.aload_n 0, 1) := gz_d tdX8_worthOf_t0_ok 0 rfl
theorem dX8_worthOf_1 : decode cX8_worthOf 1 = .ok (.invokevirtual 89, 3) := gz_d tdX8_worthOf_t0_ok 1 rfl
theorem dX8_worthOf_4 : decode cX8_worthOf 4 = .ok (.iconst 1, 1) := gz_d tdX8_worthOf_t0_ok 2 rfl
theorem dX8_worthOf_5 : decode cX8_worthOf 5 = .ok (.isub, 1) := gz_d tdX8_worthOf_t0_ok 3 rfl
theorem dX8_worthOf_6 : decode cX8_worthOf 6 = .ok (.istore 5, 2) := gz_d tdX8_worthOf_t0_ok 4 rfl
theorem dX8_worthOf_8 : decode cX8_worthOf 8 = .ok (.iload 5, 2) := gz_d tdX8_worthOf_t0_ok 5 rfl
theorem dX8_worthOf_10 : decode cX8_worthOf 10 = .ok (.iconst (-1), 1) := gz_d tdX8_worthOf_t0_ok 6 rfl
theorem dX8_worthOf_11 : decode cX8_worthOf 11 = .ok (.if_icmp .lt 186, 3) := gz_d tdX8_worthOf_t0_ok 7 rfl
theorem dX8_worthOf_14 : decode cX8_worthOf 14 = .ok (.iconst 0, 1) := gz_d tdX8_worthOf_t0_ok 8 rfl
theorem dX8_worthOf_15 : decode cX8_worthOf 15 = .ok (.istore 6, 2) := gz_d tdX8_worthOf_t0_ok 9 rfl
theorem dX8_worthOf_17 : decode cX8_worthOf 17 = .ok (.iload 6, 2) := gz_d tdX8_worthOf_t0_ok 10 rfl
theorem dX8_worthOf_19 : decode cX8_worthOf 19 = .ok (.iconst 2, 1) := gz_d tdX8_worthOf_t0_ok 11 rfl
theorem dX8_worthOf_20 : decode cX8_worthOf 20 = .ok (.if_icmp .ge 171, 3) := gz_d tdX8_worthOf_t0_ok 12 rfl
theorem dX8_worthOf_23 : decode cX8_worthOf 23 = .ok (.iload 6, 2) := gz_d tdX8_worthOf_t0_ok 13 rfl
theorem dX8_worthOf_25 : decode cX8_worthOf 25 = .ok (.ifCond .ne 7, 3) := gz_d tdX8_worthOf_t0_ok 14 rfl
theorem dX8_worthOf_28 : decode cX8_worthOf 28 = .ok (.iload_n 1, 1) := gz_d tdX8_worthOf_t0_ok 15 rfl
theorem dX8_worthOf_29 : decode cX8_worthOf 29 = .ok (.goto 4, 3) := gz_d tdX8_worthOf_t0_ok 16 rfl
theorem dX8_worthOf_32 : decode cX8_worthOf 32 = .ok (.iload_n 2, 1) := gz_d tdX8_worthOf_t0_ok 17 rfl
theorem dX8_worthOf_33 : decode cX8_worthOf 33 = .ok (.istore 7, 2) := gz_d tdX8_worthOf_t0_ok 18 rfl
theorem dX8_worthOf_35 : decode cX8_worthOf 35 = .ok (.iload 6, 2) := gz_d tdX8_worthOf_t0_ok 19 rfl
theorem dX8_worthOf_37 : decode cX8_worthOf 37 = .ok (.ifCond .ne 7, 3) := gz_d tdX8_worthOf_t0_ok 20 rfl
theorem dX8_worthOf_40 : decode cX8_worthOf 40 = .ok (.iload_n 3, 1) := gz_d tdX8_worthOf_t0_ok 21 rfl
theorem dX8_worthOf_41 : decode cX8_worthOf 41 = .ok (.goto 5, 3) := gz_d tdX8_worthOf_t0_ok 22 rfl
theorem dX8_worthOf_44 : decode cX8_worthOf 44 = .ok (.iload 4, 2) := gz_d tdX8_worthOf_t0_ok 23 rfl
theorem dX8_worthOf_46 : decode cX8_worthOf 46 = .ok (.istore 8, 2) := gz_d tdX8_worthOf_t0_ok 24 rfl
theorem dX8_worthOf_48 : decode cX8_worthOf 48 = .ok (.dconst 0, 1) := gz_d tdX8_worthOf_t0_ok 25 rfl
theorem dX8_worthOf_49 : decode cX8_worthOf 49 = .ok (.dstore 9, 2) := gz_d tdX8_worthOf_t0_ok 26 rfl
theorem dX8_worthOf_51 : decode cX8_worthOf 51 = .ok (.iconst (-1), 1) := gz_d tdX8_worthOf_t0_ok 27 rfl
theorem dX8_worthOf_52 : decode cX8_worthOf 52 = .ok (.istore 11, 2) := gz_d tdX8_worthOf_t0_ok 28 rfl
theorem dX8_worthOf_54 : decode cX8_worthOf 54 = .ok (.iload 11, 2) := gz_d tdX8_worthOf_t0_ok 29 rfl
theorem dX8_worthOf_56 : decode cX8_worthOf 56 = .ok (.aload_n 0, 1) := gz_d tdX8_worthOf_t0_ok 30 rfl
theorem dX8_worthOf_57 : decode cX8_worthOf 57 = .ok (.invokevirtual 89, 3) := gz_d tdX8_worthOf_t0_ok 31 rfl
theorem dX8_worthOf_60 : decode cX8_worthOf 60 = .ok (.if_icmp .ge 99, 3) := gz_d tdX8_worthOf_t0_ok 32 rfl
theorem dX8_worthOf_63 : decode cX8_worthOf 63 = .ok (.aload_n 0, 1) := gz_d tdX8_worthOf_t0_ok 33 rfl
theorem dX8_worthOf_64 : decode cX8_worthOf 64 = .ok (.iload 5, 2) := gz_d tdX8_worthOf_t0_ok 34 rfl
theorem dX8_worthOf_66 : decode cX8_worthOf 66 = .ok (.iload 11, 2) := gz_d tdX8_worthOf_t0_ok 35 rfl
theorem dX8_worthOf_68 : decode cX8_worthOf 68 = .ok (.invokevirtual 120, 3) := gz_d tdX8_worthOf_t0_ok 36 rfl
theorem dX8_worthOf_71 : decode cX8_worthOf 71 = .ok (.ifCond .eq 82, 3) := gz_d tdX8_worthOf_t0_ok 37 rfl
theorem dX8_worthOf_74 : decode cX8_worthOf 74 = .ok (.aload_n 0, 1) := gz_d tdX8_worthOf_t0_ok 38 rfl
theorem dX8_worthOf_75 : decode cX8_worthOf 75 = .ok (.iload 7, 2) := gz_d tdX8_worthOf_t0_ok 39 rfl
theorem dX8_worthOf_77 : decode cX8_worthOf 77 = .ok (.iload 6, 2) := gz_d tdX8_worthOf_t0_ok 40 rfl
theorem dX8_worthOf_79 : decode cX8_worthOf 79 = .ok (.iload 8, 2) := gz_d tdX8_worthOf_t0_ok 41 rfl
theorem dX8_worthOf_81 : decode cX8_worthOf 81 = .ok (.iload 5, 2) := gz_d tdX8_worthOf_t0_ok 42 rfl
theorem dX8_worthOf_83 : decode cX8_worthOf 83 = .ok (.iload 11, 2) := gz_d tdX8_worthOf_t0_ok 43 rfl
theorem dX8_worthOf_85 : decode cX8_worthOf 85 = .ok (.invokevirtual 131, 3) := gz_d tdX8_worthOf_t0_ok 44 rfl
theorem dX8_worthOf_88 : decode cX8_worthOf 88 = .ok (.dstore 12, 2) := gz_d tdX8_worthOf_t0_ok 45 rfl
theorem dX8_worthOf_90 : decode cX8_worthOf 90 = .ok (.dload 12, 2) := gz_d tdX8_worthOf_t0_ok 46 rfl
theorem dX8_worthOf_92 : decode cX8_worthOf 92 = .ok (.dconst 0, 1) := gz_d tdX8_worthOf_t0_ok 47 rfl
theorem dX8_worthOf_93 : decode cX8_worthOf 93 = .ok (.dcmp .l, 1) := gz_d tdX8_worthOf_t0_ok 48 rfl
theorem dX8_worthOf_94 : decode cX8_worthOf 94 = .ok (.ifCond .le 59, 3) := gz_d tdX8_worthOf_t0_ok 49 rfl
theorem dX8_worthOf_97 : decode cX8_worthOf 97 = .ok (.iload 11, 2) := gz_d tdX8_worthOf_t0_ok 50 rfl
theorem dX8_worthOf_99 : decode cX8_worthOf 99 = .ok (.iconst (-1), 1) := gz_d tdX8_worthOf_t0_ok 51 rfl
theorem dX8_worthOf_100 : decode cX8_worthOf 100 = .ok (.if_icmp .ne 26, 3) := gz_d tdX8_worthOf_t0_ok 52 rfl
theorem dX8_worthOf_103 : decode cX8_worthOf 103 = .ok (.aload_n 0, 1) := gz_d tdX8_worthOf_t0_ok 53 rfl
theorem dX8_worthOf_104 : decode cX8_worthOf 104 = .ok (.iconst 0, 1) := gz_d tdX8_worthOf_t0_ok 54 rfl
theorem dX8_worthOf_105 : decode cX8_worthOf 105 = .ok (.iload 6, 2) := gz_d tdX8_worthOf_t0_ok 55 rfl
theorem dX8_worthOf_107 : decode cX8_worthOf 107 = .ok (.iload_n 3, 1) := gz_d tdX8_worthOf_t0_ok 56 rfl
theorem dX8_worthOf_108 : decode cX8_worthOf 108 = .ok (.iload 4, 2) := gz_d tdX8_worthOf_t0_ok 57 rfl
theorem dX8_worthOf_110 : decode cX8_worthOf 110 = .ok (.iload 5, 2) := gz_d tdX8_worthOf_t0_ok 58 rfl
theorem dX8_worthOf_112 : decode cX8_worthOf 112 = .ok (.invokevirtual 135, 3) := gz_d tdX8_worthOf_t0_ok 59 rfl
def tdX8_worthOf_t1 : List (Nat × Instr × Nat) := [(115, .ifCond .eq 7, 3), (118, .dconst 1, 1), (119, .goto 22, 3), (122, .dconst 0, 1), (123, .goto 18, 3), (126, .aload_n 0, 1), (127, .getfield 38, 3), (130, .bipush 9, 2), (132, .iconst 1, 1), (133, .iload 6, 2), (135, .isub, 1), (136, .imul, 1), (137, .iload 11, 2), (139, .iadd, 1), (140, .daload, 1), (141, .dstore 14, 2), (143, .dload 9, 2), (145, .dload 12, 2), (147, .dload 14, 2), (149, .dmul, 1), (150, .dadd, 1), (151, .dstore 9, 2), (153, .iinc 11 1, 3), (156, .goto (-102), 3), (159, .aload_n 0, 1), (160, .getfield 38, 3), (163, .bipush 9, 2), (165, .iload 6, 2), (167, .imul, 1), (168, .iload 5, 2), (170, .iconst (-1), 1), (171, .if_icmp .ne 8, 3), (174, .bipush 8, 2), (176, .goto 5, 3), (179, .iload 5, 2), (181, .iadd, 1), (182, .dload 9, 2), (184, .dastore, 1), (185, .iinc 6 1, 3), (188, .goto (-171), 3), (191, .iinc 5 (-1), 3), (194, .goto (-186), 3), (197, .aload_n 0, 1), (198, .getfield 38, 3), (201, .bipush 8, 2), (203, .daload, 1), (204, .dreturn, 1)]
theorem tdX8_worthOf_t1_ok : gz_dec cX8_worthOf tdX8_worthOf_t1 = true := by decide +kernel
theorem dX8_worthOf_115 : decode cX8_worthOf 115 = .ok (.ifCond .eq 7, 3) := gz_d tdX8_worthOf_t1_ok 0 rfl
theorem dX8_worthOf_118 : decode cX8_worthOf 118 = .ok (.dconst 1, 1) := gz_d tdX8_worthOf_t1_ok 1 rfl
theorem dX8_worthOf_119 : decode cX8_worthOf 119 = .ok (.goto 22, 3) := gz_d tdX8_worthOf_t1_ok 2 rfl
theorem dX8_worthOf_122 : decode cX8_worthOf 122 = .ok (.dconst 0, 1) := gz_d tdX8_worthOf_t1_ok 3 rfl
theorem dX8_worthOf_123 : decode cX8_worthOf 123 = .ok (.goto 18, 3) := gz_d tdX8_worthOf_t1_ok 4 rfl
theorem dX8_worthOf_126 : decode cX8_worthOf 126 = .ok (.aload_n 0, 1) := gz_d tdX8_worthOf_t1_ok 5 rfl
theorem dX8_worthOf_127 : decode cX8_worthOf 127 = .ok (.getfield 38, 3) := gz_d tdX8_worthOf_t1_ok 6 rfl
theorem dX8_worthOf_130 : decode cX8_worthOf 130 = .ok (.bipush 9, 2) := gz_d tdX8_worthOf_t1_ok 7 rfl
theorem dX8_worthOf_132 : decode cX8_worthOf 132 = .ok (.iconst 1, 1) := gz_d tdX8_worthOf_t1_ok 8 rfl
theorem dX8_worthOf_133 : decode cX8_worthOf 133 = .ok (.iload 6, 2) := gz_d tdX8_worthOf_t1_ok 9 rfl
theorem dX8_worthOf_135 : decode cX8_worthOf 135 = .ok (.isub, 1) := gz_d tdX8_worthOf_t1_ok 10 rfl
theorem dX8_worthOf_136 : decode cX8_worthOf 136 = .ok (.imul, 1) := gz_d tdX8_worthOf_t1_ok 11 rfl
theorem dX8_worthOf_137 : decode cX8_worthOf 137 = .ok (.iload 11, 2) := gz_d tdX8_worthOf_t1_ok 12 rfl
theorem dX8_worthOf_139 : decode cX8_worthOf 139 = .ok (.iadd, 1) := gz_d tdX8_worthOf_t1_ok 13 rfl
theorem dX8_worthOf_140 : decode cX8_worthOf 140 = .ok (.daload, 1) := gz_d tdX8_worthOf_t1_ok 14 rfl
theorem dX8_worthOf_141 : decode cX8_worthOf 141 = .ok (.dstore 14, 2) := gz_d tdX8_worthOf_t1_ok 15 rfl
theorem dX8_worthOf_143 : decode cX8_worthOf 143 = .ok (.dload 9, 2) := gz_d tdX8_worthOf_t1_ok 16 rfl
theorem dX8_worthOf_145 : decode cX8_worthOf 145 = .ok (.dload 12, 2) := gz_d tdX8_worthOf_t1_ok 17 rfl
theorem dX8_worthOf_147 : decode cX8_worthOf 147 = .ok (.dload 14, 2) := gz_d tdX8_worthOf_t1_ok 18 rfl
theorem dX8_worthOf_149 : decode cX8_worthOf 149 = .ok (.dmul, 1) := gz_d tdX8_worthOf_t1_ok 19 rfl
theorem dX8_worthOf_150 : decode cX8_worthOf 150 = .ok (.dadd, 1) := gz_d tdX8_worthOf_t1_ok 20 rfl
theorem dX8_worthOf_151 : decode cX8_worthOf 151 = .ok (.dstore 9, 2) := gz_d tdX8_worthOf_t1_ok 21 rfl
theorem dX8_worthOf_153 : decode cX8_worthOf 153 = .ok (.iinc 11 1, 3) := gz_d tdX8_worthOf_t1_ok 22 rfl
theorem dX8_worthOf_156 : decode cX8_worthOf 156 = .ok (.goto (-102), 3) := gz_d tdX8_worthOf_t1_ok 23 rfl
theorem dX8_worthOf_159 : decode cX8_worthOf 159 = .ok (.aload_n 0, 1) := gz_d tdX8_worthOf_t1_ok 24 rfl
theorem dX8_worthOf_160 : decode cX8_worthOf 160 = .ok (.getfield 38, 3) := gz_d tdX8_worthOf_t1_ok 25 rfl
theorem dX8_worthOf_163 : decode cX8_worthOf 163 = .ok (.bipush 9, 2) := gz_d tdX8_worthOf_t1_ok 26 rfl
theorem dX8_worthOf_165 : decode cX8_worthOf 165 = .ok (.iload 6, 2) := gz_d tdX8_worthOf_t1_ok 27 rfl
theorem dX8_worthOf_167 : decode cX8_worthOf 167 = .ok (.imul, 1) := gz_d tdX8_worthOf_t1_ok 28 rfl
theorem dX8_worthOf_168 : decode cX8_worthOf 168 = .ok (.iload 5, 2) := gz_d tdX8_worthOf_t1_ok 29 rfl
theorem dX8_worthOf_170 : decode cX8_worthOf 170 = .ok (.iconst (-1), 1) := gz_d tdX8_worthOf_t1_ok 30 rfl
theorem dX8_worthOf_171 : decode cX8_worthOf 171 = .ok (.if_icmp .ne 8, 3) := gz_d tdX8_worthOf_t1_ok 31 rfl
theorem dX8_worthOf_174 : decode cX8_worthOf 174 = .ok (.bipush 8, 2) := gz_d tdX8_worthOf_t1_ok 32 rfl
theorem dX8_worthOf_176 : decode cX8_worthOf 176 = .ok (.goto 5, 3) := gz_d tdX8_worthOf_t1_ok 33 rfl
theorem dX8_worthOf_179 : decode cX8_worthOf 179 = .ok (.iload 5, 2) := gz_d tdX8_worthOf_t1_ok 34 rfl
theorem dX8_worthOf_181 : decode cX8_worthOf 181 = .ok (.iadd, 1) := gz_d tdX8_worthOf_t1_ok 35 rfl
theorem dX8_worthOf_182 : decode cX8_worthOf 182 = .ok (.dload 9, 2) := gz_d tdX8_worthOf_t1_ok 36 rfl
theorem dX8_worthOf_184 : decode cX8_worthOf 184 = .ok (.dastore, 1) := gz_d tdX8_worthOf_t1_ok 37 rfl
theorem dX8_worthOf_185 : decode cX8_worthOf 185 = .ok (.iinc 6 1, 3) := gz_d tdX8_worthOf_t1_ok 38 rfl
theorem dX8_worthOf_188 : decode cX8_worthOf 188 = .ok (.goto (-171), 3) := gz_d tdX8_worthOf_t1_ok 39 rfl
theorem dX8_worthOf_191 : decode cX8_worthOf 191 = .ok (.iinc 5 (-1), 3) := gz_d tdX8_worthOf_t1_ok 40 rfl
theorem dX8_worthOf_194 : decode cX8_worthOf 194 = .ok (.goto (-186), 3) := gz_d tdX8_worthOf_t1_ok 41 rfl
theorem dX8_worthOf_197 : decode cX8_worthOf 197 = .ok (.aload_n 0, 1) := gz_d tdX8_worthOf_t1_ok 42 rfl
theorem dX8_worthOf_198 : decode cX8_worthOf 198 = .ok (.getfield 38, 3) := gz_d tdX8_worthOf_t1_ok 43 rfl
theorem dX8_worthOf_201 : decode cX8_worthOf 201 = .ok (.bipush 8, 2) := gz_d tdX8_worthOf_t1_ok 44 rfl
theorem dX8_worthOf_203 : decode cX8_worthOf 203 = .ok (.daload, 1) := gz_d tdX8_worthOf_t1_ok 45 rfl
theorem dX8_worthOf_204 : decode cX8_worthOf 204 = .ok (.dreturn, 1) := gz_d tdX8_worthOf_t1_ok 46 rfl
def tdX8_worth_t0 : List (Nat × Instr × Nat) := [(0, .iload_n 1, 1), (1, .invokestatic 117, 3), (4, .ifCond .eq 10, 3), (7, .iload_n 2, 1), (8, .invokestatic 117, 3), (11, .ifCond .ne 7, 3), (14, .ldc2_w 139, 3), (17, .lreturn, 1), (18, .dconst 0, 1), (19, .dstore_n 3, 1), (20, .iconst 0, 1), (21, .istore 5, 2), (23, .iload 5, 2), (25, .aload_n 0, 1), (26, .getfield 23, 3), (29, .iconst 0, 1), (30, .iaload, 1), (31, .if_icmp .ge 61, 3), (34, .iconst 0, 1), (35, .istore 6, 2), (37, .iload 6, 2), (39, .aload_n 0, 1), (40, .getfield 23, 3), (43, .iconst 1, 1), (44, .iaload, 1), (45, .if_icmp .ge 41, 3), (48, .dload_n 3, 1), (49, .aload_n 0, 1), (50, .getfield 26, 3), (53, .iload 5, 2), (55, .iaload, 1), (56, .aload_n 0, 1), (57, .getfield 26, 3), (60, .iconst 4, 1), (61, .iload 6, 2), (63, .iadd, 1), (64, .iaload, 1), (65, .imul, 1), (66, .i2d, 1), (67, .aload_n 0, 1), (68, .iload_n 1, 1), (69, .iload_n 2, 1), (70, .iload 5, 2), (72, .iload 6, 2), (74, .invokevirtual 141, 3), (77, .dmul, 1), (78, .dadd, 1), (79, .dstore_n 3, 1), (80, .iinc 6 1, 3), (83, .goto (-46), 3), (86, .iinc 5 1, 3), (89, .goto (-66), 3), (92, .dload_n 3, 1), (93, .aload_n 0, 1), (94, .aload_n 0, 1), (95, .getfield 7, 3), (98, .aload_n 0, 1), (99, .getfield 13, 3), (102, .iadd, 1), (103, .invokevirtual 114, 3)]
theorem tdX8_worth_t0_ok : gz_dec cX8_worth tdX8_worth_t0 = true := by decide +kernel
theorem dX8_worth_0 : decode cX8_worth 0 = .ok (.iload_n 1, 1) := gz_d tdX8_worth_t0_ok 0 rfl
theorem dX8_worth_1 : decode cX8_worth 1 = .ok (.invokestatic 117, 3) := gz_d tdX8_worth_t0_ok 1 rfl
theorem dX8_worth_4 : decode cX8_worth 4 = .ok (.ifCond .eq 10, 3) := gz_d tdX8_worth_t0_ok 2 rfl
theorem dX8_worth_7 : decode cX8_worth 7 = .ok (.iload_n 2, 1) := gz_d tdX8_worth_t0_ok 3 rfl
theorem dX8_worth_8 : decode cX8_worth 8 = .ok (.invokestatic 117, 3) := gz_d tdX8_worth_t0_ok 4 rfl
theorem dX8_worth_11 : decode cX8_worth 11 = .ok (.ifCond .ne 7, 3) := gz_d tdX8_worth_t0_ok 5 rfl
theorem dX8_worth_14 : decode cX8_worth 14 = .ok (.ldc2_w 139, 3) := gz_d tdX8_worth_t0_ok 6 rfl
theorem dX8_worth_17 : decode cX8_worth 17 = .ok (.lreturn, 1) := gz_d tdX8_worth_t0_ok 7 rfl
theorem dX8_worth_18 : decode cX8_worth 18 = .ok (.dconst 0, 1) := gz_d tdX8_worth_t0_ok 8 rfl
theorem dX8_worth_19 : decode cX8_worth 19 = .ok (.dstore_n 3, 1) := gz_d tdX8_worth_t0_ok 9 rfl
theorem dX8_worth_20 : decode cX8_worth 20 = .ok (.iconst 0, 1) := gz_d tdX8_worth_t0_ok 10 rfl
theorem dX8_worth_21 : decode cX8_worth 21 = .ok (.istore 5, 2) := gz_d tdX8_worth_t0_ok 11 rfl
theorem dX8_worth_23 : decode cX8_worth 23 = .ok (.iload 5, 2) := gz_d tdX8_worth_t0_ok 12 rfl
theorem dX8_worth_25 : decode cX8_worth 25 = .ok (.aload_n 0, 1) := gz_d tdX8_worth_t0_ok 13 rfl
theorem dX8_worth_26 : decode cX8_worth 26 = .ok (.getfield 23, 3) := gz_d tdX8_worth_t0_ok 14 rfl
theorem dX8_worth_29 : decode cX8_worth 29 = .ok (.iconst 0, 1) := gz_d tdX8_worth_t0_ok 15 rfl
theorem dX8_worth_30 : decode cX8_worth 30 = .ok (.iaload, 1) := gz_d tdX8_worth_t0_ok 16 rfl
theorem dX8_worth_31 : decode cX8_worth 31 = .ok (.if_icmp .ge 61, 3) := gz_d tdX8_worth_t0_ok 17 rfl
theorem dX8_worth_34 : decode cX8_worth 34 = .ok (.iconst 0, 1) := gz_d tdX8_worth_t0_ok 18 rfl
theorem dX8_worth_35 : decode cX8_worth 35 = .ok (.istore 6, 2) := gz_d tdX8_worth_t0_ok 19 rfl
theorem dX8_worth_37 : decode cX8_worth 37 = .ok (.iload 6, 2) := gz_d tdX8_worth_t0_ok 20 rfl
theorem dX8_worth_39 : decode cX8_worth 39 = .ok (.aload_n 0, 1) := gz_d tdX8_worth_t0_ok 21 rfl
theorem dX8_worth_40 : decode cX8_worth 40 = .ok (.getfield 23, 3) := gz_d tdX8_worth_t0_ok 22 rfl
theorem dX8_worth_43 : decode cX8_worth 43 = .ok (.iconst 1, 1) := gz_d tdX8_worth_t0_ok 23 rfl
theorem dX8_worth_44 : decode cX8_worth 44 = .ok (.iaload, 1) := gz_d tdX8_worth_t0_ok 24 rfl
theorem dX8_worth_45 : decode cX8_worth 45 = .ok (.if_icmp .ge 41, 3) := gz_d tdX8_worth_t0_ok 25 rfl
theorem dX8_worth_48 : decode cX8_worth 48 = .ok (.dload_n 3, 1) := gz_d tdX8_worth_t0_ok 26 rfl
theorem dX8_worth_49 : decode cX8_worth 49 = .ok (.aload_n 0, 1) := gz_d tdX8_worth_t0_ok 27 rfl
theorem dX8_worth_50 : decode cX8_worth 50 = .ok (.getfield 26, 3) := gz_d tdX8_worth_t0_ok 28 rfl
theorem dX8_worth_53 : decode cX8_worth 53 = .ok (.iload 5, 2) := gz_d tdX8_worth_t0_ok 29 rfl
theorem dX8_worth_55 : decode cX8_worth 55 = .ok (.iaload, 1) := gz_d tdX8_worth_t0_ok 30 rfl
theorem dX8_worth_56 : decode cX8_worth 56 = .ok (.aload_n 0, 1) := gz_d tdX8_worth_t0_ok 31 rfl
theorem dX8_worth_57 : decode cX8_worth 57 = .ok (.getfield 26, 3) := gz_d tdX8_worth_t0_ok 32 rfl
theorem dX8_worth_60 : decode cX8_worth 60 = .ok (.iconst 4, 1) := gz_d tdX8_worth_t0_ok 33 rfl
theorem dX8_worth_61 : decode cX8_worth 61 = .ok (.iload 6, 2) := gz_d tdX8_worth_t0_ok 34 rfl
theorem dX8_worth_63 : decode cX8_worth 63 = .ok (.iadd, 1) := gz_d tdX8_worth_t0_ok 35 rfl
theorem dX8_worth_64 : decode cX8_worth 64 = .ok (.iaload, 1) := gz_d tdX8_worth_t0_ok 36 rfl
theorem dX8_worth_65 : decode cX8_worth 65 = .ok (.imul, 1) := gz_d tdX8_worth_t0_ok 37 rfl
theorem dX8_worth_66 : decode cX8_worth 66 = .ok (.i2d, 1) := gz_d tdX8_worth_t0_ok 38 rfl
theorem dX8_worth_67 : decode cX8_worth 67 = .ok (.aload_n 0, 1) := gz_d tdX8_worth_t0_ok 39 rfl
theorem dX8_worth_68 : decode cX8_worth 68 = .ok (.iload_n 1, 1) := gz_d tdX8_worth_t0_ok 40 rfl
theorem dX8_worth_69 : decode cX8_worth 69 = .ok (.iload_n 2, 1) := gz_d tdX8_worth_t0_ok 41 rfl
theorem dX8_worth_70 : decode cX8_worth 70 = .ok (.iload 5, 2) := gz_d tdX8_worth_t0_ok 42 rfl
theorem dX8_worth_72 : decode cX8_worth 72 = .ok (.iload 6, 2) := gz_d tdX8_worth_t0_ok 43 rfl
theorem dX8_worth_74 : decode cX8_worth 74 = .ok (.invokevirtual 141, 3) := gz_d tdX8_worth_t0_ok 44 rfl
theorem dX8_worth_77 : decode cX8_worth 77 = .ok (.dmul, 1) := gz_d tdX8_worth_t0_ok 45 rfl
theorem dX8_worth_78 : decode cX8_worth 78 = .ok (.dadd, 1) := gz_d tdX8_worth_t0_ok 46 rfl
theorem dX8_worth_79 : decode cX8_worth 79 = .ok (.dstore_n 3, 1) := gz_d tdX8_worth_t0_ok 47 rfl
theorem dX8_worth_80 : decode cX8_worth 80 = .ok (.iinc 6 1, 3) := gz_d tdX8_worth_t0_ok 48 rfl
theorem dX8_worth_83 : decode cX8_worth 83 = .ok (.goto (-46), 3) := gz_d tdX8_worth_t0_ok 49 rfl
theorem dX8_worth_86 : decode cX8_worth 86 = .ok (.iinc 5 1, 3) := gz_d tdX8_worth_t0_ok 50 rfl
theorem dX8_worth_89 : decode cX8_worth 89 = .ok (.goto (-66), 3) := gz_d tdX8_worth_t0_ok 51 rfl
theorem dX8_worth_92 : decode cX8_worth 92 = .ok (.dload_n 3, 1) := gz_d tdX8_worth_t0_ok 52 rfl
theorem dX8_worth_93 : decode cX8_worth 93 = .ok (.aload_n 0, 1) := gz_d tdX8_worth_t0_ok 53 rfl
theorem dX8_worth_94 : decode cX8_worth 94 = .ok (.aload_n 0, 1) := gz_d tdX8_worth_t0_ok 54 rfl
theorem dX8_worth_95 : decode cX8_worth 95 = .ok (.getfield 7, 3) := gz_d tdX8_worth_t0_ok 55 rfl
theorem dX8_worth_98 : decode cX8_worth 98 = .ok (.aload_n 0, 1) := gz_d tdX8_worth_t0_ok 56 rfl
theorem dX8_worth_99 : decode cX8_worth 99 = .ok (.getfield 13, 3) := gz_d tdX8_worth_t0_ok 57 rfl
theorem dX8_worth_102 : decode cX8_worth 102 = .ok (.iadd, 1) := gz_d tdX8_worth_t0_ok 58 rfl
theorem dX8_worth_103 : decode cX8_worth 103 = .ok (.invokevirtual 114, 3) := gz_d tdX8_worth_t0_ok 59 rfl
def tdX8_worth_t1 : List (Nat × Instr × Nat) := [(106, .i2d, 1), (107, .ddiv, 1), (108, .invokestatic 145, 3), (111, .lreturn, 1)]
theorem tdX8_worth_t1_ok : gz_dec cX8_worth tdX8_worth_t1 = true := by decide +kernel
theorem dX8_worth_106 : decode cX8_worth 106 = .ok (.i2d, 1) := gz_d tdX8_worth_t1_ok 0 rfl
theorem dX8_worth_107 : decode cX8_worth 107 = .ok (.ddiv, 1) := gz_d tdX8_worth_t1_ok 1 rfl
theorem dX8_worth_108 : decode cX8_worth 108 = .ok (.invokestatic 145, 3) := gz_d tdX8_worth_t1_ok 2 rfl
theorem dX8_worth_111 : decode cX8_worth 111 = .ok (.lreturn, 1) := gz_d tdX8_worth_t1_ok 3 rfl
def tdX8_enter_t0 : List (Nat × Instr × Nat) := [(0, .aload_n 0, 1), (1, .getfield 45, 3), (4, .iload_n 1, 1), (5, .iload_n 2, 1), (6, .iastore, 1), (7, .aload_n 0, 1), (8, .getfield 48, 3), (11, .iload_n 1, 1), (12, .iconst (-1), 1), (13, .iastore, 1), (14, .aload_n 0, 1), (15, .getfield 51, 3), (18, .iload_n 1, 1), (19, .dconst 0, 1), (20, .dastore, 1), (21, .aload_n 0, 1), (22, .getfield 54, 3), (25, .iload_n 1, 1), (26, .iconst (-1), 1), (27, .iastore, 1), (28, .aload_n 0, 1), (29, .getfield 57, 3), (32, .iload_n 1, 1), (33, .iconst 0, 1), (34, .bastore, 1), (35, .return_, 1)]
theorem tdX8_enter_t0_ok : gz_dec cX8_enter tdX8_enter_t0 = true := by decide +kernel
theorem dX8_enter_0 : decode cX8_enter 0 = .ok (.aload_n 0, 1) := gz_d tdX8_enter_t0_ok 0 rfl
theorem dX8_enter_1 : decode cX8_enter 1 = .ok (.getfield 45, 3) := gz_d tdX8_enter_t0_ok 1 rfl
theorem dX8_enter_4 : decode cX8_enter 4 = .ok (.iload_n 1, 1) := gz_d tdX8_enter_t0_ok 2 rfl
theorem dX8_enter_5 : decode cX8_enter 5 = .ok (.iload_n 2, 1) := gz_d tdX8_enter_t0_ok 3 rfl
theorem dX8_enter_6 : decode cX8_enter 6 = .ok (.iastore, 1) := gz_d tdX8_enter_t0_ok 4 rfl
theorem dX8_enter_7 : decode cX8_enter 7 = .ok (.aload_n 0, 1) := gz_d tdX8_enter_t0_ok 5 rfl
theorem dX8_enter_8 : decode cX8_enter 8 = .ok (.getfield 48, 3) := gz_d tdX8_enter_t0_ok 6 rfl
theorem dX8_enter_11 : decode cX8_enter 11 = .ok (.iload_n 1, 1) := gz_d tdX8_enter_t0_ok 7 rfl
theorem dX8_enter_12 : decode cX8_enter 12 = .ok (.iconst (-1), 1) := gz_d tdX8_enter_t0_ok 8 rfl
theorem dX8_enter_13 : decode cX8_enter 13 = .ok (.iastore, 1) := gz_d tdX8_enter_t0_ok 9 rfl
theorem dX8_enter_14 : decode cX8_enter 14 = .ok (.aload_n 0, 1) := gz_d tdX8_enter_t0_ok 10 rfl
theorem dX8_enter_15 : decode cX8_enter 15 = .ok (.getfield 51, 3) := gz_d tdX8_enter_t0_ok 11 rfl
theorem dX8_enter_18 : decode cX8_enter 18 = .ok (.iload_n 1, 1) := gz_d tdX8_enter_t0_ok 12 rfl
theorem dX8_enter_19 : decode cX8_enter 19 = .ok (.dconst 0, 1) := gz_d tdX8_enter_t0_ok 13 rfl
theorem dX8_enter_20 : decode cX8_enter 20 = .ok (.dastore, 1) := gz_d tdX8_enter_t0_ok 14 rfl
theorem dX8_enter_21 : decode cX8_enter 21 = .ok (.aload_n 0, 1) := gz_d tdX8_enter_t0_ok 15 rfl
theorem dX8_enter_22 : decode cX8_enter 22 = .ok (.getfield 54, 3) := gz_d tdX8_enter_t0_ok 16 rfl
theorem dX8_enter_25 : decode cX8_enter 25 = .ok (.iload_n 1, 1) := gz_d tdX8_enter_t0_ok 17 rfl
theorem dX8_enter_26 : decode cX8_enter 26 = .ok (.iconst (-1), 1) := gz_d tdX8_enter_t0_ok 18 rfl
theorem dX8_enter_27 : decode cX8_enter 27 = .ok (.iastore, 1) := gz_d tdX8_enter_t0_ok 19 rfl
theorem dX8_enter_28 : decode cX8_enter 28 = .ok (.aload_n 0, 1) := gz_d tdX8_enter_t0_ok 20 rfl
theorem dX8_enter_29 : decode cX8_enter 29 = .ok (.getfield 57, 3) := gz_d tdX8_enter_t0_ok 21 rfl
theorem dX8_enter_32 : decode cX8_enter 32 = .ok (.iload_n 1, 1) := gz_d tdX8_enter_t0_ok 22 rfl
theorem dX8_enter_33 : decode cX8_enter 33 = .ok (.iconst 0, 1) := gz_d tdX8_enter_t0_ok 23 rfl
theorem dX8_enter_34 : decode cX8_enter 34 = .ok (.bastore, 1) := gz_d tdX8_enter_t0_ok 24 rfl
theorem dX8_enter_35 : decode cX8_enter 35 = .ok (.return_, 1) := gz_d tdX8_enter_t0_ok 25 rfl
def tdX8_offer_t0 : List (Nat × Instr × Nat) := [(0, .aload_n 0, 1), (1, .getfield 57, 3), (4, .iload_n 1, 1), (5, .baload, 1), (6, .ifCond .eq 14, 3), (9, .dload_n 2, 1), (10, .aload_n 0, 1), (11, .getfield 51, 3), (14, .iload_n 1, 1), (15, .daload, 1), (16, .dcmp .l, 1), (17, .ifCond .le 29, 3), (20, .aload_n 0, 1), (21, .getfield 57, 3), (24, .iload_n 1, 1), (25, .iconst 1, 1), (26, .bastore, 1), (27, .aload_n 0, 1), (28, .getfield 51, 3), (31, .iload_n 1, 1), (32, .dload_n 2, 1), (33, .dastore, 1), (34, .aload_n 0, 1), (35, .getfield 54, 3), (38, .iload_n 1, 1), (39, .aload_n 0, 1), (40, .getfield 48, 3), (43, .iload_n 1, 1), (44, .iaload, 1), (45, .iastore, 1), (46, .return_, 1)]
theorem tdX8_offer_t0_ok : gz_dec cX8_offer tdX8_offer_t0 = true := by decide +kernel
theorem dX8_offer_0 : decode cX8_offer 0 = .ok (.aload_n 0, 1) := gz_d tdX8_offer_t0_ok 0 rfl
theorem dX8_offer_1 : decode cX8_offer 1 = .ok (.getfield 57, 3) := gz_d tdX8_offer_t0_ok 1 rfl
theorem dX8_offer_4 : decode cX8_offer 4 = .ok (.iload_n 1, 1) := gz_d tdX8_offer_t0_ok 2 rfl
theorem dX8_offer_5 : decode cX8_offer 5 = .ok (.baload, 1) := gz_d tdX8_offer_t0_ok 3 rfl
theorem dX8_offer_6 : decode cX8_offer 6 = .ok (.ifCond .eq 14, 3) := gz_d tdX8_offer_t0_ok 4 rfl
theorem dX8_offer_9 : decode cX8_offer 9 = .ok (.dload_n 2, 1) := gz_d tdX8_offer_t0_ok 5 rfl
theorem dX8_offer_10 : decode cX8_offer 10 = .ok (.aload_n 0, 1) := gz_d tdX8_offer_t0_ok 6 rfl
theorem dX8_offer_11 : decode cX8_offer 11 = .ok (.getfield 51, 3) := gz_d tdX8_offer_t0_ok 7 rfl
theorem dX8_offer_14 : decode cX8_offer 14 = .ok (.iload_n 1, 1) := gz_d tdX8_offer_t0_ok 8 rfl
theorem dX8_offer_15 : decode cX8_offer 15 = .ok (.daload, 1) := gz_d tdX8_offer_t0_ok 9 rfl
theorem dX8_offer_16 : decode cX8_offer 16 = .ok (.dcmp .l, 1) := gz_d tdX8_offer_t0_ok 10 rfl
theorem dX8_offer_17 : decode cX8_offer 17 = .ok (.ifCond .le 29, 3) := gz_d tdX8_offer_t0_ok 11 rfl
theorem dX8_offer_20 : decode cX8_offer 20 = .ok (.aload_n 0, 1) := gz_d tdX8_offer_t0_ok 12 rfl
theorem dX8_offer_21 : decode cX8_offer 21 = .ok (.getfield 57, 3) := gz_d tdX8_offer_t0_ok 13 rfl
theorem dX8_offer_24 : decode cX8_offer 24 = .ok (.iload_n 1, 1) := gz_d tdX8_offer_t0_ok 14 rfl
theorem dX8_offer_25 : decode cX8_offer 25 = .ok (.iconst 1, 1) := gz_d tdX8_offer_t0_ok 15 rfl
theorem dX8_offer_26 : decode cX8_offer 26 = .ok (.bastore, 1) := gz_d tdX8_offer_t0_ok 16 rfl
theorem dX8_offer_27 : decode cX8_offer 27 = .ok (.aload_n 0, 1) := gz_d tdX8_offer_t0_ok 17 rfl
theorem dX8_offer_28 : decode cX8_offer 28 = .ok (.getfield 51, 3) := gz_d tdX8_offer_t0_ok 18 rfl
theorem dX8_offer_31 : decode cX8_offer 31 = .ok (.iload_n 1, 1) := gz_d tdX8_offer_t0_ok 19 rfl
theorem dX8_offer_32 : decode cX8_offer 32 = .ok (.dload_n 2, 1) := gz_d tdX8_offer_t0_ok 20 rfl
theorem dX8_offer_33 : decode cX8_offer 33 = .ok (.dastore, 1) := gz_d tdX8_offer_t0_ok 21 rfl
theorem dX8_offer_34 : decode cX8_offer 34 = .ok (.aload_n 0, 1) := gz_d tdX8_offer_t0_ok 22 rfl
theorem dX8_offer_35 : decode cX8_offer 35 = .ok (.getfield 54, 3) := gz_d tdX8_offer_t0_ok 23 rfl
theorem dX8_offer_38 : decode cX8_offer 38 = .ok (.iload_n 1, 1) := gz_d tdX8_offer_t0_ok 24 rfl
theorem dX8_offer_39 : decode cX8_offer 39 = .ok (.aload_n 0, 1) := gz_d tdX8_offer_t0_ok 25 rfl
theorem dX8_offer_40 : decode cX8_offer 40 = .ok (.getfield 48, 3) := gz_d tdX8_offer_t0_ok 26 rfl
theorem dX8_offer_43 : decode cX8_offer 43 = .ok (.iload_n 1, 1) := gz_d tdX8_offer_t0_ok 27 rfl
theorem dX8_offer_44 : decode cX8_offer 44 = .ok (.iaload, 1) := gz_d tdX8_offer_t0_ok 28 rfl
theorem dX8_offer_45 : decode cX8_offer 45 = .ok (.iastore, 1) := gz_d tdX8_offer_t0_ok 29 rfl
theorem dX8_offer_46 : decode cX8_offer 46 = .ok (.return_, 1) := gz_d tdX8_offer_t0_ok 30 rfl
def tdX8_leads_t0 : List (Nat × Instr × Nat) := [(0, .iconst 1, 1), (1, .iload_n 1, 1), (2, .isub, 1), (3, .istore 5, 2), (5, .iconst 0, 1), (6, .istore 6, 2), (8, .iconst 0, 1), (9, .istore 7, 2), (11, .iload 7, 2), (13, .aload_n 0, 1), (14, .getfield 23, 3), (17, .iload 5, 2), (19, .iaload, 1), (20, .if_icmp .ge 74, 3), (23, .aload_n 0, 1), (24, .getfield 42, 3), (27, .iconst 4, 1), (28, .iload_n 3, 1), (29, .imul, 1), (30, .iload 7, 2), (32, .iadd, 1), (33, .daload, 1), (34, .aload_n 0, 1), (35, .iload_n 2, 1), (36, .iload 5, 2), (38, .iload 7, 2), (40, .aload_n 0, 1), (41, .getfield 45, 3), (44, .iload_n 3, 1), (45, .iaload, 1), (46, .iload 4, 2), (48, .invokevirtual 131, 3), (51, .dmul, 1), (52, .dstore 8, 2), (54, .aload_n 0, 1), (55, .getfield 42, 3), (58, .iconst 4, 1), (59, .iload_n 3, 1), (60, .imul, 1), (61, .iconst 4, 1), (62, .iadd, 1), (63, .iload 7, 2), (65, .iadd, 1), (66, .dload 8, 2), (68, .dastore, 1), (69, .iload 6, 2), (71, .ifCond .ne 10, 3), (74, .dload 8, 2), (76, .dconst 0, 1), (77, .dcmp .l, 1), (78, .ifCond .eq 7, 3), (81, .iconst 1, 1), (82, .goto 4, 3), (85, .iconst 0, 1), (86, .istore 6, 2), (88, .iinc 7 1, 3), (91, .goto (-80), 3), (94, .iload 6, 2), (96, .ireturn, 1)]
theorem tdX8_leads_t0_ok : gz_dec cX8_leads tdX8_leads_t0 = true := by decide +kernel
theorem dX8_leads_0 : decode cX8_leads 0 = .ok (.iconst 1, 1) := gz_d tdX8_leads_t0_ok 0 rfl
theorem dX8_leads_1 : decode cX8_leads 1 = .ok (.iload_n 1, 1) := gz_d tdX8_leads_t0_ok 1 rfl
theorem dX8_leads_2 : decode cX8_leads 2 = .ok (.isub, 1) := gz_d tdX8_leads_t0_ok 2 rfl
theorem dX8_leads_3 : decode cX8_leads 3 = .ok (.istore 5, 2) := gz_d tdX8_leads_t0_ok 3 rfl
theorem dX8_leads_5 : decode cX8_leads 5 = .ok (.iconst 0, 1) := gz_d tdX8_leads_t0_ok 4 rfl
theorem dX8_leads_6 : decode cX8_leads 6 = .ok (.istore 6, 2) := gz_d tdX8_leads_t0_ok 5 rfl
theorem dX8_leads_8 : decode cX8_leads 8 = .ok (.iconst 0, 1) := gz_d tdX8_leads_t0_ok 6 rfl
theorem dX8_leads_9 : decode cX8_leads 9 = .ok (.istore 7, 2) := gz_d tdX8_leads_t0_ok 7 rfl
theorem dX8_leads_11 : decode cX8_leads 11 = .ok (.iload 7, 2) := gz_d tdX8_leads_t0_ok 8 rfl
theorem dX8_leads_13 : decode cX8_leads 13 = .ok (.aload_n 0, 1) := gz_d tdX8_leads_t0_ok 9 rfl
theorem dX8_leads_14 : decode cX8_leads 14 = .ok (.getfield 23, 3) := gz_d tdX8_leads_t0_ok 10 rfl
theorem dX8_leads_17 : decode cX8_leads 17 = .ok (.iload 5, 2) := gz_d tdX8_leads_t0_ok 11 rfl
theorem dX8_leads_19 : decode cX8_leads 19 = .ok (.iaload, 1) := gz_d tdX8_leads_t0_ok 12 rfl
theorem dX8_leads_20 : decode cX8_leads 20 = .ok (.if_icmp .ge 74, 3) := gz_d tdX8_leads_t0_ok 13 rfl
theorem dX8_leads_23 : decode cX8_leads 23 = .ok (.aload_n 0, 1) := gz_d tdX8_leads_t0_ok 14 rfl
theorem dX8_leads_24 : decode cX8_leads 24 = .ok (.getfield 42, 3) := gz_d tdX8_leads_t0_ok 15 rfl
theorem dX8_leads_27 : decode cX8_leads 27 = .ok (.iconst 4, 1) := gz_d tdX8_leads_t0_ok 16 rfl
theorem dX8_leads_28 : decode cX8_leads 28 = .ok (.iload_n 3, 1) := gz_d tdX8_leads_t0_ok 17 rfl
theorem dX8_leads_29 : decode cX8_leads 29 = .ok (.imul, 1) := gz_d tdX8_leads_t0_ok 18 rfl
theorem dX8_leads_30 : decode cX8_leads 30 = .ok (.iload 7, 2) := gz_d tdX8_leads_t0_ok 19 rfl
theorem dX8_leads_32 : decode cX8_leads 32 = .ok (.iadd, 1) := gz_d tdX8_leads_t0_ok 20 rfl
theorem dX8_leads_33 : decode cX8_leads 33 = .ok (.daload, 1) := gz_d tdX8_leads_t0_ok 21 rfl
theorem dX8_leads_34 : decode cX8_leads 34 = .ok (.aload_n 0, 1) := gz_d tdX8_leads_t0_ok 22 rfl
theorem dX8_leads_35 : decode cX8_leads 35 = .ok (.iload_n 2, 1) := gz_d tdX8_leads_t0_ok 23 rfl
theorem dX8_leads_36 : decode cX8_leads 36 = .ok (.iload 5, 2) := gz_d tdX8_leads_t0_ok 24 rfl
theorem dX8_leads_38 : decode cX8_leads 38 = .ok (.iload 7, 2) := gz_d tdX8_leads_t0_ok 25 rfl
theorem dX8_leads_40 : decode cX8_leads 40 = .ok (.aload_n 0, 1) := gz_d tdX8_leads_t0_ok 26 rfl
theorem dX8_leads_41 : decode cX8_leads 41 = .ok (.getfield 45, 3) := gz_d tdX8_leads_t0_ok 27 rfl
theorem dX8_leads_44 : decode cX8_leads 44 = .ok (.iload_n 3, 1) := gz_d tdX8_leads_t0_ok 28 rfl
theorem dX8_leads_45 : decode cX8_leads 45 = .ok (.iaload, 1) := gz_d tdX8_leads_t0_ok 29 rfl
theorem dX8_leads_46 : decode cX8_leads 46 = .ok (.iload 4, 2) := gz_d tdX8_leads_t0_ok 30 rfl
theorem dX8_leads_48 : decode cX8_leads 48 = .ok (.invokevirtual 131, 3) := gz_d tdX8_leads_t0_ok 31 rfl
theorem dX8_leads_51 : decode cX8_leads 51 = .ok (.dmul, 1) := gz_d tdX8_leads_t0_ok 32 rfl
theorem dX8_leads_52 : decode cX8_leads 52 = .ok (.dstore 8, 2) := gz_d tdX8_leads_t0_ok 33 rfl
theorem dX8_leads_54 : decode cX8_leads 54 = .ok (.aload_n 0, 1) := gz_d tdX8_leads_t0_ok 34 rfl
theorem dX8_leads_55 : decode cX8_leads 55 = .ok (.getfield 42, 3) := gz_d tdX8_leads_t0_ok 35 rfl
theorem dX8_leads_58 : decode cX8_leads 58 = .ok (.iconst 4, 1) := gz_d tdX8_leads_t0_ok 36 rfl
theorem dX8_leads_59 : decode cX8_leads 59 = .ok (.iload_n 3, 1) := gz_d tdX8_leads_t0_ok 37 rfl
theorem dX8_leads_60 : decode cX8_leads 60 = .ok (.imul, 1) := gz_d tdX8_leads_t0_ok 38 rfl
theorem dX8_leads_61 : decode cX8_leads 61 = .ok (.iconst 4, 1) := gz_d tdX8_leads_t0_ok 39 rfl
theorem dX8_leads_62 : decode cX8_leads 62 = .ok (.iadd, 1) := gz_d tdX8_leads_t0_ok 40 rfl
theorem dX8_leads_63 : decode cX8_leads 63 = .ok (.iload 7, 2) := gz_d tdX8_leads_t0_ok 41 rfl
theorem dX8_leads_65 : decode cX8_leads 65 = .ok (.iadd, 1) := gz_d tdX8_leads_t0_ok 42 rfl
theorem dX8_leads_66 : decode cX8_leads 66 = .ok (.dload 8, 2) := gz_d tdX8_leads_t0_ok 43 rfl
theorem dX8_leads_68 : decode cX8_leads 68 = .ok (.dastore, 1) := gz_d tdX8_leads_t0_ok 44 rfl
theorem dX8_leads_69 : decode cX8_leads 69 = .ok (.iload 6, 2) := gz_d tdX8_leads_t0_ok 45 rfl
theorem dX8_leads_71 : decode cX8_leads 71 = .ok (.ifCond .ne 10, 3) := gz_d tdX8_leads_t0_ok 46 rfl
theorem dX8_leads_74 : decode cX8_leads 74 = .ok (.dload 8, 2) := gz_d tdX8_leads_t0_ok 47 rfl
theorem dX8_leads_76 : decode cX8_leads 76 = .ok (.dconst 0, 1) := gz_d tdX8_leads_t0_ok 48 rfl
theorem dX8_leads_77 : decode cX8_leads 77 = .ok (.dcmp .l, 1) := gz_d tdX8_leads_t0_ok 49 rfl
theorem dX8_leads_78 : decode cX8_leads 78 = .ok (.ifCond .eq 7, 3) := gz_d tdX8_leads_t0_ok 50 rfl
theorem dX8_leads_81 : decode cX8_leads 81 = .ok (.iconst 1, 1) := gz_d tdX8_leads_t0_ok 51 rfl
theorem dX8_leads_82 : decode cX8_leads 82 = .ok (.goto 4, 3) := gz_d tdX8_leads_t0_ok 52 rfl
theorem dX8_leads_85 : decode cX8_leads 85 = .ok (.iconst 0, 1) := gz_d tdX8_leads_t0_ok 53 rfl
theorem dX8_leads_86 : decode cX8_leads 86 = .ok (.istore 6, 2) := gz_d tdX8_leads_t0_ok 54 rfl
theorem dX8_leads_88 : decode cX8_leads 88 = .ok (.iinc 7 1, 3) := gz_d tdX8_leads_t0_ok 55 rfl
theorem dX8_leads_91 : decode cX8_leads 91 = .ok (.goto (-80), 3) := gz_d tdX8_leads_t0_ok 56 rfl
theorem dX8_leads_94 : decode cX8_leads 94 = .ok (.iload 6, 2) := gz_d tdX8_leads_t0_ok 57 rfl
theorem dX8_leads_96 : decode cX8_leads 96 = .ok (.ireturn, 1) := gz_d tdX8_leads_t0_ok 58 rfl
def tdX8_winsBy_t0 : List (Nat × Instr × Nat) := [(0, .aload_n 0, 1), (1, .iload_n 1, 1), (2, .iload_n 2, 1), (3, .iload_n 1, 1), (4, .ifCond .ne 7, 3), (7, .iload_n 3, 1), (8, .goto 5, 3), (11, .iload 4, 2), (13, .iload_n 1, 1), (14, .ifCond .ne 8, 3), (17, .iload 4, 2), (19, .goto 4, 3), (22, .iload_n 3, 1), (23, .iload 5, 2), (25, .invokevirtual 135, 3), (28, .ireturn, 1)]
theorem tdX8_winsBy_t0_ok : gz_dec cX8_winsBy tdX8_winsBy_t0 = true := by decide +kernel
theorem dX8_winsBy_0 : decode cX8_winsBy 0 = .ok (.aload_n 0, 1) := gz_d tdX8_winsBy_t0_ok 0 rfl
theorem dX8_winsBy_1 : decode cX8_winsBy 1 = .ok (.iload_n 1, 1) := gz_d tdX8_winsBy_t0_ok 1 rfl
theorem dX8_winsBy_2 : decode cX8_winsBy 2 = .ok (.iload_n 2, 1) := gz_d tdX8_winsBy_t0_ok 2 rfl
theorem dX8_winsBy_3 : decode cX8_winsBy 3 = .ok (.iload_n 1, 1) := gz_d tdX8_winsBy_t0_ok 3 rfl
theorem dX8_winsBy_4 : decode cX8_winsBy 4 = .ok (.ifCond .ne 7, 3) := gz_d tdX8_winsBy_t0_ok 4 rfl
theorem dX8_winsBy_7 : decode cX8_winsBy 7 = .ok (.iload_n 3, 1) := gz_d tdX8_winsBy_t0_ok 5 rfl
theorem dX8_winsBy_8 : decode cX8_winsBy 8 = .ok (.goto 5, 3) := gz_d tdX8_winsBy_t0_ok 6 rfl
theorem dX8_winsBy_11 : decode cX8_winsBy 11 = .ok (.iload 4, 2) := gz_d tdX8_winsBy_t0_ok 7 rfl
theorem dX8_winsBy_13 : decode cX8_winsBy 13 = .ok (.iload_n 1, 1) := gz_d tdX8_winsBy_t0_ok 8 rfl
theorem dX8_winsBy_14 : decode cX8_winsBy 14 = .ok (.ifCond .ne 8, 3) := gz_d tdX8_winsBy_t0_ok 9 rfl
theorem dX8_winsBy_17 : decode cX8_winsBy 17 = .ok (.iload 4, 2) := gz_d tdX8_winsBy_t0_ok 10 rfl
theorem dX8_winsBy_19 : decode cX8_winsBy 19 = .ok (.goto 4, 3) := gz_d tdX8_winsBy_t0_ok 11 rfl
theorem dX8_winsBy_22 : decode cX8_winsBy 22 = .ok (.iload_n 3, 1) := gz_d tdX8_winsBy_t0_ok 12 rfl
theorem dX8_winsBy_23 : decode cX8_winsBy 23 = .ok (.iload 5, 2) := gz_d tdX8_winsBy_t0_ok 13 rfl
theorem dX8_winsBy_25 : decode cX8_winsBy 25 = .ok (.invokevirtual 135, 3) := gz_d tdX8_winsBy_t0_ok 14 rfl
theorem dX8_winsBy_28 : decode cX8_winsBy 28 = .ok (.ireturn, 1) := gz_d tdX8_winsBy_t0_ok 15 rfl
def tdX8_call_t0 : List (Nat × Instr × Nat) := [(0, .iload 4, 2), (2, .iconst 2, 1), (3, .irem, 1), (4, .istore 5, 2), (6, .iconst 1, 1), (7, .iload_n 1, 1), (8, .isub, 1), (9, .istore 6, 2), (11, .iload 5, 2), (13, .iload_n 1, 1), (14, .if_icmp .ne 75, 3), (17, .dconst 0, 1), (18, .dstore 7, 2), (20, .iconst 0, 1), (21, .istore 9, 2), (23, .iload 9, 2), (25, .aload_n 0, 1), (26, .getfield 23, 3), (29, .iload 6, 2), (31, .iaload, 1), (32, .if_icmp .ge 46, 3), (35, .aload_n 0, 1), (36, .iload_n 1, 1), (37, .iload 5, 2), (39, .iload_n 3, 1), (40, .iload 9, 2), (42, .aload_n 0, 1), (43, .getfield 45, 3), (46, .iload 4, 2), (48, .iaload, 1), (49, .invokevirtual 151, 3), (52, .ifCond .eq 20, 3), (55, .dload 7, 2), (57, .aload_n 0, 1), (58, .getfield 42, 3), (61, .iconst 4, 1), (62, .iload 4, 2), (64, .imul, 1), (65, .iload 9, 2), (67, .iadd, 1), (68, .daload, 1), (69, .dadd, 1), (70, .dstore 7, 2), (72, .iinc 9 1, 3), (75, .goto (-52), 3), (78, .aload_n 0, 1), (79, .iload 4, 2), (81, .dload 7, 2), (83, .invokevirtual 154, 3), (86, .goto 85, 3), (89, .aload_n 0, 1), (90, .iload_n 1, 1), (91, .iload_n 2, 1), (92, .iload 4, 2), (94, .iconst (-1), 1), (95, .invokevirtual 158, 3), (98, .ifCond .eq 73, 3), (101, .iconst 0, 1), (102, .istore 7, 2), (104, .iload 7, 2)]
theorem tdX8_call_t0_ok : gz_dec cX8_call tdX8_call_t0 = true := by decide +kernel
theorem dX8_call_0 : decode cX8_call 0 = .ok (.iload 4, 2) := gz_d tdX8_call_t0_ok 0 rfl
theorem dX8_call_2 : decode cX8_call 2 = .ok (.iconst 2, 1) := gz_d tdX8_call_t0_ok 1 rfl
theorem dX8_call_3 : decode cX8_call 3 = .ok (.irem, 1) := gz_d tdX8_call_t0_ok 2 rfl
theorem dX8_call_4 : decode cX8_call 4 = .ok (.istore 5, 2) := gz_d tdX8_call_t0_ok 3 rfl
theorem dX8_call_6 : decode cX8_call 6 = .ok (.iconst 1, 1) := gz_d tdX8_call_t0_ok 4 rfl
theorem dX8_call_7 : decode cX8_call 7 = .ok (.iload_n 1, 1) := gz_d tdX8_call_t0_ok 5 rfl
theorem dX8_call_8 : decode cX8_call 8 = .ok (.isub, 1) := gz_d tdX8_call_t0_ok 6 rfl
theorem dX8_call_9 : decode cX8_call 9 = .ok (.istore 6, 2) := gz_d tdX8_call_t0_ok 7 rfl
theorem dX8_call_11 : decode cX8_call 11 = .ok (.iload 5, 2) := gz_d tdX8_call_t0_ok 8 rfl
theorem dX8_call_13 : decode cX8_call 13 = .ok (.iload_n 1, 1) := gz_d tdX8_call_t0_ok 9 rfl
theorem dX8_call_14 : decode cX8_call 14 = .ok (.if_icmp .ne 75, 3) := gz_d tdX8_call_t0_ok 10 rfl
theorem dX8_call_17 : decode cX8_call 17 = .ok (.dconst 0, 1) := gz_d tdX8_call_t0_ok 11 rfl
theorem dX8_call_18 : decode cX8_call 18 = .ok (.dstore 7, 2) := gz_d tdX8_call_t0_ok 12 rfl
theorem dX8_call_20 : decode cX8_call 20 = .ok (.iconst 0, 1) := gz_d tdX8_call_t0_ok 13 rfl
theorem dX8_call_21 : decode cX8_call 21 = .ok (.istore 9, 2) := gz_d tdX8_call_t0_ok 14 rfl
theorem dX8_call_23 : decode cX8_call 23 = .ok (.iload 9, 2) := gz_d tdX8_call_t0_ok 15 rfl
theorem dX8_call_25 : decode cX8_call 25 = .ok (.aload_n 0, 1) := gz_d tdX8_call_t0_ok 16 rfl
theorem dX8_call_26 : decode cX8_call 26 = .ok (.getfield 23, 3) := gz_d tdX8_call_t0_ok 17 rfl
theorem dX8_call_29 : decode cX8_call 29 = .ok (.iload 6, 2) := gz_d tdX8_call_t0_ok 18 rfl
theorem dX8_call_31 : decode cX8_call 31 = .ok (.iaload, 1) := gz_d tdX8_call_t0_ok 19 rfl
theorem dX8_call_32 : decode cX8_call 32 = .ok (.if_icmp .ge 46, 3) := gz_d tdX8_call_t0_ok 20 rfl
theorem dX8_call_35 : decode cX8_call 35 = .ok (.aload_n 0, 1) := gz_d tdX8_call_t0_ok 21 rfl
theorem dX8_call_36 : decode cX8_call 36 = .ok (.iload_n 1, 1) := gz_d tdX8_call_t0_ok 22 rfl
theorem dX8_call_37 : decode cX8_call 37 = .ok (.iload 5, 2) := gz_d tdX8_call_t0_ok 23 rfl
theorem dX8_call_39 : decode cX8_call 39 = .ok (.iload_n 3, 1) := gz_d tdX8_call_t0_ok 24 rfl
theorem dX8_call_40 : decode cX8_call 40 = .ok (.iload 9, 2) := gz_d tdX8_call_t0_ok 25 rfl
theorem dX8_call_42 : decode cX8_call 42 = .ok (.aload_n 0, 1) := gz_d tdX8_call_t0_ok 26 rfl
theorem dX8_call_43 : decode cX8_call 43 = .ok (.getfield 45, 3) := gz_d tdX8_call_t0_ok 27 rfl
theorem dX8_call_46 : decode cX8_call 46 = .ok (.iload 4, 2) := gz_d tdX8_call_t0_ok 28 rfl
theorem dX8_call_48 : decode cX8_call 48 = .ok (.iaload, 1) := gz_d tdX8_call_t0_ok 29 rfl
theorem dX8_call_49 : decode cX8_call 49 = .ok (.invokevirtual 151, 3) := gz_d tdX8_call_t0_ok 30 rfl
theorem dX8_call_52 : decode cX8_call 52 = .ok (.ifCond .eq 20, 3) := gz_d tdX8_call_t0_ok 31 rfl
theorem dX8_call_55 : decode cX8_call 55 = .ok (.dload 7, 2) := gz_d tdX8_call_t0_ok 32 rfl
theorem dX8_call_57 : decode cX8_call 57 = .ok (.aload_n 0, 1) := gz_d tdX8_call_t0_ok 33 rfl
theorem dX8_call_58 : decode cX8_call 58 = .ok (.getfield 42, 3) := gz_d tdX8_call_t0_ok 34 rfl
theorem dX8_call_61 : decode cX8_call 61 = .ok (.iconst 4, 1) := gz_d tdX8_call_t0_ok 35 rfl
theorem dX8_call_62 : decode cX8_call 62 = .ok (.iload 4, 2) := gz_d tdX8_call_t0_ok 36 rfl
theorem dX8_call_64 : decode cX8_call 64 = .ok (.imul, 1) := gz_d tdX8_call_t0_ok 37 rfl
theorem dX8_call_65 : decode cX8_call 65 = .ok (.iload 9, 2) := gz_d tdX8_call_t0_ok 38 rfl
theorem dX8_call_67 : decode cX8_call 67 = .ok (.iadd, 1) := gz_d tdX8_call_t0_ok 39 rfl
theorem dX8_call_68 : decode cX8_call 68 = .ok (.daload, 1) := gz_d tdX8_call_t0_ok 40 rfl
theorem dX8_call_69 : decode cX8_call 69 = .ok (.dadd, 1) := gz_d tdX8_call_t0_ok 41 rfl
theorem dX8_call_70 : decode cX8_call 70 = .ok (.dstore 7, 2) := gz_d tdX8_call_t0_ok 42 rfl
theorem dX8_call_72 : decode cX8_call 72 = .ok (.iinc 9 1, 3) := gz_d tdX8_call_t0_ok 43 rfl
theorem dX8_call_75 : decode cX8_call 75 = .ok (.goto (-52), 3) := gz_d tdX8_call_t0_ok 44 rfl
theorem dX8_call_78 : decode cX8_call 78 = .ok (.aload_n 0, 1) := gz_d tdX8_call_t0_ok 45 rfl
theorem dX8_call_79 : decode cX8_call 79 = .ok (.iload 4, 2) := gz_d tdX8_call_t0_ok 46 rfl
theorem dX8_call_81 : decode cX8_call 81 = .ok (.dload 7, 2) := gz_d tdX8_call_t0_ok 47 rfl
theorem dX8_call_83 : decode cX8_call 83 = .ok (.invokevirtual 154, 3) := gz_d tdX8_call_t0_ok 48 rfl
theorem dX8_call_86 : decode cX8_call 86 = .ok (.goto 85, 3) := gz_d tdX8_call_t0_ok 49 rfl
theorem dX8_call_89 : decode cX8_call 89 = .ok (.aload_n 0, 1) := gz_d tdX8_call_t0_ok 50 rfl
theorem dX8_call_90 : decode cX8_call 90 = .ok (.iload_n 1, 1) := gz_d tdX8_call_t0_ok 51 rfl
theorem dX8_call_91 : decode cX8_call 91 = .ok (.iload_n 2, 1) := gz_d tdX8_call_t0_ok 52 rfl
theorem dX8_call_92 : decode cX8_call 92 = .ok (.iload 4, 2) := gz_d tdX8_call_t0_ok 53 rfl
theorem dX8_call_94 : decode cX8_call 94 = .ok (.iconst (-1), 1) := gz_d tdX8_call_t0_ok 54 rfl
theorem dX8_call_95 : decode cX8_call 95 = .ok (.invokevirtual 158, 3) := gz_d tdX8_call_t0_ok 55 rfl
theorem dX8_call_98 : decode cX8_call 98 = .ok (.ifCond .eq 73, 3) := gz_d tdX8_call_t0_ok 56 rfl
theorem dX8_call_101 : decode cX8_call 101 = .ok (.iconst 0, 1) := gz_d tdX8_call_t0_ok 57 rfl
theorem dX8_call_102 : decode cX8_call 102 = .ok (.istore 7, 2) := gz_d tdX8_call_t0_ok 58 rfl
theorem dX8_call_104 : decode cX8_call 104 = .ok (.iload 7, 2) := gz_d tdX8_call_t0_ok 59 rfl
def tdX8_call_t1 : List (Nat × Instr × Nat) := [(106, .aload_n 0, 1), (107, .getfield 23, 3), (110, .iload 6, 2), (112, .iaload, 1), (113, .if_icmp .ge 58, 3), (116, .aload_n 0, 1), (117, .iload_n 1, 1), (118, .iload 5, 2), (120, .iload_n 3, 1), (121, .iload 7, 2), (123, .aload_n 0, 1), (124, .getfield 45, 3), (127, .iload 4, 2), (129, .iaload, 1), (130, .invokevirtual 151, 3), (133, .ifCond .eq 32, 3), (136, .aload_n 0, 1), (137, .getfield 51, 3), (140, .iload 4, 2), (142, .aload_n 0, 1), (143, .getfield 51, 3), (146, .iload 4, 2), (148, .daload, 1), (149, .aload_n 0, 1), (150, .getfield 42, 3), (153, .iconst 4, 1), (154, .iload 4, 2), (156, .imul, 1), (157, .iconst 4, 1), (158, .iadd, 1), (159, .iload 7, 2), (161, .iadd, 1), (162, .daload, 1), (163, .dadd, 1), (164, .dastore, 1), (165, .iinc 7 1, 3), (168, .goto (-64), 3), (171, .return_, 1)]
theorem tdX8_call_t1_ok : gz_dec cX8_call tdX8_call_t1 = true := by decide +kernel
theorem dX8_call_106 : decode cX8_call 106 = .ok (.aload_n 0, 1) := gz_d tdX8_call_t1_ok 0 rfl
theorem dX8_call_107 : decode cX8_call 107 = .ok (.getfield 23, 3) := gz_d tdX8_call_t1_ok 1 rfl
theorem dX8_call_110 : decode cX8_call 110 = .ok (.iload 6, 2) := gz_d tdX8_call_t1_ok 2 rfl
theorem dX8_call_112 : decode cX8_call 112 = .ok (.iaload, 1) := gz_d tdX8_call_t1_ok 3 rfl
theorem dX8_call_113 : decode cX8_call 113 = .ok (.if_icmp .ge 58, 3) := gz_d tdX8_call_t1_ok 4 rfl
theorem dX8_call_116 : decode cX8_call 116 = .ok (.aload_n 0, 1) := gz_d tdX8_call_t1_ok 5 rfl
theorem dX8_call_117 : decode cX8_call 117 = .ok (.iload_n 1, 1) := gz_d tdX8_call_t1_ok 6 rfl
theorem dX8_call_118 : decode cX8_call 118 = .ok (.iload 5, 2) := gz_d tdX8_call_t1_ok 7 rfl
theorem dX8_call_120 : decode cX8_call 120 = .ok (.iload_n 3, 1) := gz_d tdX8_call_t1_ok 8 rfl
theorem dX8_call_121 : decode cX8_call 121 = .ok (.iload 7, 2) := gz_d tdX8_call_t1_ok 9 rfl
theorem dX8_call_123 : decode cX8_call 123 = .ok (.aload_n 0, 1) := gz_d tdX8_call_t1_ok 10 rfl
theorem dX8_call_124 : decode cX8_call 124 = .ok (.getfield 45, 3) := gz_d tdX8_call_t1_ok 11 rfl
theorem dX8_call_127 : decode cX8_call 127 = .ok (.iload 4, 2) := gz_d tdX8_call_t1_ok 12 rfl
theorem dX8_call_129 : decode cX8_call 129 = .ok (.iaload, 1) := gz_d tdX8_call_t1_ok 13 rfl
theorem dX8_call_130 : decode cX8_call 130 = .ok (.invokevirtual 151, 3) := gz_d tdX8_call_t1_ok 14 rfl
theorem dX8_call_133 : decode cX8_call 133 = .ok (.ifCond .eq 32, 3) := gz_d tdX8_call_t1_ok 15 rfl
theorem dX8_call_136 : decode cX8_call 136 = .ok (.aload_n 0, 1) := gz_d tdX8_call_t1_ok 16 rfl
theorem dX8_call_137 : decode cX8_call 137 = .ok (.getfield 51, 3) := gz_d tdX8_call_t1_ok 17 rfl
theorem dX8_call_140 : decode cX8_call 140 = .ok (.iload 4, 2) := gz_d tdX8_call_t1_ok 18 rfl
theorem dX8_call_142 : decode cX8_call 142 = .ok (.aload_n 0, 1) := gz_d tdX8_call_t1_ok 19 rfl
theorem dX8_call_143 : decode cX8_call 143 = .ok (.getfield 51, 3) := gz_d tdX8_call_t1_ok 20 rfl
theorem dX8_call_146 : decode cX8_call 146 = .ok (.iload 4, 2) := gz_d tdX8_call_t1_ok 21 rfl
theorem dX8_call_148 : decode cX8_call 148 = .ok (.daload, 1) := gz_d tdX8_call_t1_ok 22 rfl
theorem dX8_call_149 : decode cX8_call 149 = .ok (.aload_n 0, 1) := gz_d tdX8_call_t1_ok 23 rfl
theorem dX8_call_150 : decode cX8_call 150 = .ok (.getfield 42, 3) := gz_d tdX8_call_t1_ok 24 rfl
theorem dX8_call_153 : decode cX8_call 153 = .ok (.iconst 4, 1) := gz_d tdX8_call_t1_ok 25 rfl
theorem dX8_call_154 : decode cX8_call 154 = .ok (.iload 4, 2) := gz_d tdX8_call_t1_ok 26 rfl
theorem dX8_call_156 : decode cX8_call 156 = .ok (.imul, 1) := gz_d tdX8_call_t1_ok 27 rfl
theorem dX8_call_157 : decode cX8_call 157 = .ok (.iconst 4, 1) := gz_d tdX8_call_t1_ok 28 rfl
theorem dX8_call_158 : decode cX8_call 158 = .ok (.iadd, 1) := gz_d tdX8_call_t1_ok 29 rfl
theorem dX8_call_159 : decode cX8_call 159 = .ok (.iload 7, 2) := gz_d tdX8_call_t1_ok 30 rfl
theorem dX8_call_161 : decode cX8_call 161 = .ok (.iadd, 1) := gz_d tdX8_call_t1_ok 31 rfl
theorem dX8_call_162 : decode cX8_call 162 = .ok (.daload, 1) := gz_d tdX8_call_t1_ok 32 rfl
theorem dX8_call_163 : decode cX8_call 163 = .ok (.dadd, 1) := gz_d tdX8_call_t1_ok 33 rfl
theorem dX8_call_164 : decode cX8_call 164 = .ok (.dastore, 1) := gz_d tdX8_call_t1_ok 34 rfl
theorem dX8_call_165 : decode cX8_call 165 = .ok (.iinc 7 1, 3) := gz_d tdX8_call_t1_ok 35 rfl
theorem dX8_call_168 : decode cX8_call 168 = .ok (.goto (-64), 3) := gz_d tdX8_call_t1_ok 36 rfl
theorem dX8_call_171 : decode cX8_call 171 = .ok (.return_, 1) := gz_d tdX8_call_t1_ok 37 rfl
def tdX8_answerOf_t0 : List (Nat × Instr × Nat) := [(0, .iload 4, 2), (2, .istore 5, 2), (4, .iconst 0, 1), (5, .istore 6, 2), (7, .iload 6, 2), (9, .ifCond .ne 274, 3), (12, .aload_n 0, 1), (13, .getfield 48, 3), (16, .iload 5, 2), (18, .iaload, 1), (19, .istore 7, 2), (21, .iload 5, 2), (23, .iconst 2, 1), (24, .irem, 1), (25, .istore 8, 2), (27, .iload 7, 2), (29, .aload_n 0, 1), (30, .invokevirtual 89, 3), (33, .if_icmp .ne 78, 3), (36, .iload 5, 2), (38, .iload 4, 2), (40, .if_icmp .ne 9, 3), (43, .iconst 1, 1), (44, .istore 6, 2), (46, .goto 234, 3), (49, .aload_n 0, 1), (50, .getfield 51, 3), (53, .iload 5, 2), (55, .daload, 1), (56, .dstore 9, 2), (58, .iinc 5 (-1), 3), (61, .iload 5, 2), (63, .iconst 2, 1), (64, .irem, 1), (65, .iload_n 1, 1), (66, .if_icmp .ne 14, 3), (69, .aload_n 0, 1), (70, .iload 5, 2), (72, .dload 9, 2), (74, .invokevirtual 154, 3), (77, .goto 20, 3), (80, .aload_n 0, 1), (81, .getfield 51, 3), (84, .iload 5, 2), (86, .aload_n 0, 1), (87, .getfield 51, 3), (90, .iload 5, 2), (92, .daload, 1), (93, .dload 9, 2), (95, .dadd, 1), (96, .dastore, 1), (97, .aload_n 0, 1), (98, .getfield 48, 3), (101, .iload 5, 2), (103, .dup2, 1), (104, .iaload, 1), (105, .iconst 1, 1), (106, .iadd, 1), (107, .iastore, 1), (108, .goto 172, 3)]
theorem tdX8_answerOf_t0_ok : gz_dec cX8_answerOf tdX8_answerOf_t0 = true := by decide +kernel
theorem dX8_answerOf_0 : decode cX8_answerOf 0 = .ok (.iload 4, 2) := gz_d tdX8_answerOf_t0_ok 0 rfl
theorem dX8_answerOf_2 : decode cX8_answerOf 2 = .ok (.istore 5, 2) := gz_d tdX8_answerOf_t0_ok 1 rfl
theorem dX8_answerOf_4 : decode cX8_answerOf 4 = .ok (.iconst 0, 1) := gz_d tdX8_answerOf_t0_ok 2 rfl
theorem dX8_answerOf_5 : decode cX8_answerOf 5 = .ok (.istore 6, 2) := gz_d tdX8_answerOf_t0_ok 3 rfl
theorem dX8_answerOf_7 : decode cX8_answerOf 7 = .ok (.iload 6, 2) := gz_d tdX8_answerOf_t0_ok 4 rfl
theorem dX8_answerOf_9 : decode cX8_answerOf 9 = .ok (.ifCond .ne 274, 3) := gz_d tdX8_answerOf_t0_ok 5 rfl
theorem dX8_answerOf_12 : decode cX8_answerOf 12 = .ok (.aload_n 0, 1) := gz_d tdX8_answerOf_t0_ok 6 rfl
theorem dX8_answerOf_13 : decode cX8_answerOf 13 = .ok (.getfield 48, 3) := gz_d tdX8_answerOf_t0_ok 7 rfl
theorem dX8_answerOf_16 : decode cX8_answerOf 16 = .ok (.iload 5, 2) := gz_d tdX8_answerOf_t0_ok 8 rfl
theorem dX8_answerOf_18 : decode cX8_answerOf 18 = .ok (.iaload, 1) := gz_d tdX8_answerOf_t0_ok 9 rfl
theorem dX8_answerOf_19 : decode cX8_answerOf 19 = .ok (.istore 7, 2) := gz_d tdX8_answerOf_t0_ok 10 rfl
theorem dX8_answerOf_21 : decode cX8_answerOf 21 = .ok (.iload 5, 2) := gz_d tdX8_answerOf_t0_ok 11 rfl
theorem dX8_answerOf_23 : decode cX8_answerOf 23 = .ok (.iconst 2, 1) := gz_d tdX8_answerOf_t0_ok 12 rfl
theorem dX8_answerOf_24 : decode cX8_answerOf 24 = .ok (.irem, 1) := gz_d tdX8_answerOf_t0_ok 13 rfl
theorem dX8_answerOf_25 : decode cX8_answerOf 25 = .ok (.istore 8, 2) := gz_d tdX8_answerOf_t0_ok 14 rfl
theorem dX8_answerOf_27 : decode cX8_answerOf 27 = .ok (.iload 7, 2) := gz_d tdX8_answerOf_t0_ok 15 rfl
theorem dX8_answerOf_29 : decode cX8_answerOf 29 = .ok (.aload_n 0, 1) := gz_d tdX8_answerOf_t0_ok 16 rfl
theorem dX8_answerOf_30 : decode cX8_answerOf 30 = .ok (.invokevirtual 89, 3) := gz_d tdX8_answerOf_t0_ok 17 rfl
theorem dX8_answerOf_33 : decode cX8_answerOf 33 = .ok (.if_icmp .ne 78, 3) := gz_d tdX8_answerOf_t0_ok 18 rfl
theorem dX8_answerOf_36 : decode cX8_answerOf 36 = .ok (.iload 5, 2) := gz_d tdX8_answerOf_t0_ok 19 rfl
theorem dX8_answerOf_38 : decode cX8_answerOf 38 = .ok (.iload 4, 2) := gz_d tdX8_answerOf_t0_ok 20 rfl
theorem dX8_answerOf_40 : decode cX8_answerOf 40 = .ok (.if_icmp .ne 9, 3) := gz_d tdX8_answerOf_t0_ok 21 rfl
theorem dX8_answerOf_43 : decode cX8_answerOf 43 = .ok (.iconst 1, 1) := gz_d tdX8_answerOf_t0_ok 22 rfl
theorem dX8_answerOf_44 : decode cX8_answerOf 44 = .ok (.istore 6, 2) := gz_d tdX8_answerOf_t0_ok 23 rfl
theorem dX8_answerOf_46 : decode cX8_answerOf 46 = .ok (.goto 234, 3) := gz_d tdX8_answerOf_t0_ok 24 rfl
theorem dX8_answerOf_49 : decode cX8_answerOf 49 = .ok (.aload_n 0, 1) := gz_d tdX8_answerOf_t0_ok 25 rfl
theorem dX8_answerOf_50 : decode cX8_answerOf 50 = .ok (.getfield 51, 3) := gz_d tdX8_answerOf_t0_ok 26 rfl
theorem dX8_answerOf_53 : decode cX8_answerOf 53 = .ok (.iload 5, 2) := gz_d tdX8_answerOf_t0_ok 27 rfl
theorem dX8_answerOf_55 : decode cX8_answerOf 55 = .ok (.daload, 1) := gz_d tdX8_answerOf_t0_ok 28 rfl
theorem dX8_answerOf_56 : decode cX8_answerOf 56 = .ok (.dstore 9, 2) := gz_d tdX8_answerOf_t0_ok 29 rfl
theorem dX8_answerOf_58 : decode cX8_answerOf 58 = .ok (.iinc 5 (-1), 3) := gz_d tdX8_answerOf_t0_ok 30 rfl
theorem dX8_answerOf_61 : decode cX8_answerOf 61 = .ok (.iload 5, 2) := gz_d tdX8_answerOf_t0_ok 31 rfl
theorem dX8_answerOf_63 : decode cX8_answerOf 63 = .ok (.iconst 2, 1) := gz_d tdX8_answerOf_t0_ok 32 rfl
theorem dX8_answerOf_64 : decode cX8_answerOf 64 = .ok (.irem, 1) := gz_d tdX8_answerOf_t0_ok 33 rfl
theorem dX8_answerOf_65 : decode cX8_answerOf 65 = .ok (.iload_n 1, 1) := gz_d tdX8_answerOf_t0_ok 34 rfl
theorem dX8_answerOf_66 : decode cX8_answerOf 66 = .ok (.if_icmp .ne 14, 3) := gz_d tdX8_answerOf_t0_ok 35 rfl
theorem dX8_answerOf_69 : decode cX8_answerOf 69 = .ok (.aload_n 0, 1) := gz_d tdX8_answerOf_t0_ok 36 rfl
theorem dX8_answerOf_70 : decode cX8_answerOf 70 = .ok (.iload 5, 2) := gz_d tdX8_answerOf_t0_ok 37 rfl
theorem dX8_answerOf_72 : decode cX8_answerOf 72 = .ok (.dload 9, 2) := gz_d tdX8_answerOf_t0_ok 38 rfl
theorem dX8_answerOf_74 : decode cX8_answerOf 74 = .ok (.invokevirtual 154, 3) := gz_d tdX8_answerOf_t0_ok 39 rfl
theorem dX8_answerOf_77 : decode cX8_answerOf 77 = .ok (.goto 20, 3) := gz_d tdX8_answerOf_t0_ok 40 rfl
theorem dX8_answerOf_80 : decode cX8_answerOf 80 = .ok (.aload_n 0, 1) := gz_d tdX8_answerOf_t0_ok 41 rfl
theorem dX8_answerOf_81 : decode cX8_answerOf 81 = .ok (.getfield 51, 3) := gz_d tdX8_answerOf_t0_ok 42 rfl
theorem dX8_answerOf_84 : decode cX8_answerOf 84 = .ok (.iload 5, 2) := gz_d tdX8_answerOf_t0_ok 43 rfl
theorem dX8_answerOf_86 : decode cX8_answerOf 86 = .ok (.aload_n 0, 1) := gz_d tdX8_answerOf_t0_ok 44 rfl
theorem dX8_answerOf_87 : decode cX8_answerOf 87 = .ok (.getfield 51, 3) := gz_d tdX8_answerOf_t0_ok 45 rfl
theorem dX8_answerOf_90 : decode cX8_answerOf 90 = .ok (.iload 5, 2) := gz_d tdX8_answerOf_t0_ok 46 rfl
theorem dX8_answerOf_92 : decode cX8_answerOf 92 = .ok (.daload, 1) := gz_d tdX8_answerOf_t0_ok 47 rfl
theorem dX8_answerOf_93 : decode cX8_answerOf 93 = .ok (.dload 9, 2) := gz_d tdX8_answerOf_t0_ok 48 rfl
theorem dX8_answerOf_95 : decode cX8_answerOf 95 = .ok (.dadd, 1) := gz_d tdX8_answerOf_t0_ok 49 rfl
theorem dX8_answerOf_96 : decode cX8_answerOf 96 = .ok (.dastore, 1) := gz_d tdX8_answerOf_t0_ok 50 rfl
theorem dX8_answerOf_97 : decode cX8_answerOf 97 = .ok (.aload_n 0, 1) := gz_d tdX8_answerOf_t0_ok 51 rfl
theorem dX8_answerOf_98 : decode cX8_answerOf 98 = .ok (.getfield 48, 3) := gz_d tdX8_answerOf_t0_ok 52 rfl
theorem dX8_answerOf_101 : decode cX8_answerOf 101 = .ok (.iload 5, 2) := gz_d tdX8_answerOf_t0_ok 53 rfl
theorem dX8_answerOf_103 : decode cX8_answerOf 103 = .ok (.dup2, 1) := gz_d tdX8_answerOf_t0_ok 54 rfl
theorem dX8_answerOf_104 : decode cX8_answerOf 104 = .ok (.iaload, 1) := gz_d tdX8_answerOf_t0_ok 55 rfl
theorem dX8_answerOf_105 : decode cX8_answerOf 105 = .ok (.iconst 1, 1) := gz_d tdX8_answerOf_t0_ok 56 rfl
theorem dX8_answerOf_106 : decode cX8_answerOf 106 = .ok (.iadd, 1) := gz_d tdX8_answerOf_t0_ok 57 rfl
theorem dX8_answerOf_107 : decode cX8_answerOf 107 = .ok (.iastore, 1) := gz_d tdX8_answerOf_t0_ok 58 rfl
theorem dX8_answerOf_108 : decode cX8_answerOf 108 = .ok (.goto 172, 3) := gz_d tdX8_answerOf_t0_ok 59 rfl
def tdX8_answerOf_t1 : List (Nat × Instr × Nat) := [(111, .aload_n 0, 1), (112, .aload_n 0, 1), (113, .getfield 45, 3), (116, .iload 5, 2), (118, .iaload, 1), (119, .iload 7, 2), (121, .invokevirtual 120, 3), (124, .ifCond .ne 17, 3), (127, .aload_n 0, 1), (128, .getfield 48, 3), (131, .iload 5, 2), (133, .dup2, 1), (134, .iaload, 1), (135, .iconst 1, 1), (136, .iadd, 1), (137, .iastore, 1), (138, .goto 142, 3), (141, .iload 7, 2), (143, .iconst (-1), 1), (144, .if_icmp .ne 26, 3), (147, .aload_n 0, 1), (148, .iload_n 1, 1), (149, .iload_n 2, 1), (150, .iload_n 3, 1), (151, .iload 5, 2), (153, .invokevirtual 162, 3), (156, .aload_n 0, 1), (157, .getfield 48, 3), (160, .iload 5, 2), (162, .dup2, 1), (163, .iaload, 1), (164, .iconst 1, 1), (165, .iadd, 1), (166, .iastore, 1), (167, .goto 113, 3), (170, .iload 8, 2), (172, .iload_n 1, 1), (173, .if_icmp .ne 67, 3), (176, .iconst 0, 1), (177, .istore 9, 2), (179, .iload 9, 2), (181, .aload_n 0, 1), (182, .getfield 23, 3), (185, .iconst 1, 1), (186, .iload_n 1, 1), (187, .isub, 1), (188, .iaload, 1), (189, .if_icmp .ge 35, 3), (192, .aload_n 0, 1), (193, .getfield 42, 3), (196, .iconst 4, 1), (197, .iload 5, 2), (199, .imul, 1), (200, .iconst 4, 1), (201, .iadd, 1), (202, .iload 9, 2), (204, .iadd, 1), (205, .aload_n 0, 1), (206, .getfield 42, 3), (209, .iconst 4, 1)]
theorem tdX8_answerOf_t1_ok : gz_dec cX8_answerOf tdX8_answerOf_t1 = true := by decide +kernel
theorem dX8_answerOf_111 : decode cX8_answerOf 111 = .ok (.aload_n 0, 1) := gz_d tdX8_answerOf_t1_ok 0 rfl
theorem dX8_answerOf_112 : decode cX8_answerOf 112 = .ok (.aload_n 0, 1) := gz_d tdX8_answerOf_t1_ok 1 rfl
theorem dX8_answerOf_113 : decode cX8_answerOf 113 = .ok (.getfield 45, 3) := gz_d tdX8_answerOf_t1_ok 2 rfl
theorem dX8_answerOf_116 : decode cX8_answerOf 116 = .ok (.iload 5, 2) := gz_d tdX8_answerOf_t1_ok 3 rfl
theorem dX8_answerOf_118 : decode cX8_answerOf 118 = .ok (.iaload, 1) := gz_d tdX8_answerOf_t1_ok 4 rfl
theorem dX8_answerOf_119 : decode cX8_answerOf 119 = .ok (.iload 7, 2) := gz_d tdX8_answerOf_t1_ok 5 rfl
theorem dX8_answerOf_121 : decode cX8_answerOf 121 = .ok (.invokevirtual 120, 3) := gz_d tdX8_answerOf_t1_ok 6 rfl
theorem dX8_answerOf_124 : decode cX8_answerOf 124 = .ok (.ifCond .ne 17, 3) := gz_d tdX8_answerOf_t1_ok 7 rfl
theorem dX8_answerOf_127 : decode cX8_answerOf 127 = .ok (.aload_n 0, 1) := gz_d tdX8_answerOf_t1_ok 8 rfl
theorem dX8_answerOf_128 : decode cX8_answerOf 128 = .ok (.getfield 48, 3) := gz_d tdX8_answerOf_t1_ok 9 rfl
theorem dX8_answerOf_131 : decode cX8_answerOf 131 = .ok (.iload 5, 2) := gz_d tdX8_answerOf_t1_ok 10 rfl
theorem dX8_answerOf_133 : decode cX8_answerOf 133 = .ok (.dup2, 1) := gz_d tdX8_answerOf_t1_ok 11 rfl
theorem dX8_answerOf_134 : decode cX8_answerOf 134 = .ok (.iaload, 1) := gz_d tdX8_answerOf_t1_ok 12 rfl
theorem dX8_answerOf_135 : decode cX8_answerOf 135 = .ok (.iconst 1, 1) := gz_d tdX8_answerOf_t1_ok 13 rfl
theorem dX8_answerOf_136 : decode cX8_answerOf 136 = .ok (.iadd, 1) := gz_d tdX8_answerOf_t1_ok 14 rfl
theorem dX8_answerOf_137 : decode cX8_answerOf 137 = .ok (.iastore, 1) := gz_d tdX8_answerOf_t1_ok 15 rfl
theorem dX8_answerOf_138 : decode cX8_answerOf 138 = .ok (.goto 142, 3) := gz_d tdX8_answerOf_t1_ok 16 rfl
theorem dX8_answerOf_141 : decode cX8_answerOf 141 = .ok (.iload 7, 2) := gz_d tdX8_answerOf_t1_ok 17 rfl
theorem dX8_answerOf_143 : decode cX8_answerOf 143 = .ok (.iconst (-1), 1) := gz_d tdX8_answerOf_t1_ok 18 rfl
theorem dX8_answerOf_144 : decode cX8_answerOf 144 = .ok (.if_icmp .ne 26, 3) := gz_d tdX8_answerOf_t1_ok 19 rfl
theorem dX8_answerOf_147 : decode cX8_answerOf 147 = .ok (.aload_n 0, 1) := gz_d tdX8_answerOf_t1_ok 20 rfl
theorem dX8_answerOf_148 : decode cX8_answerOf 148 = .ok (.iload_n 1, 1) := gz_d tdX8_answerOf_t1_ok 21 rfl
theorem dX8_answerOf_149 : decode cX8_answerOf 149 = .ok (.iload_n 2, 1) := gz_d tdX8_answerOf_t1_ok 22 rfl
theorem dX8_answerOf_150 : decode cX8_answerOf 150 = .ok (.iload_n 3, 1) := gz_d tdX8_answerOf_t1_ok 23 rfl
theorem dX8_answerOf_151 : decode cX8_answerOf 151 = .ok (.iload 5, 2) := gz_d tdX8_answerOf_t1_ok 24 rfl
theorem dX8_answerOf_153 : decode cX8_answerOf 153 = .ok (.invokevirtual 162, 3) := gz_d tdX8_answerOf_t1_ok 25 rfl
theorem dX8_answerOf_156 : decode cX8_answerOf 156 = .ok (.aload_n 0, 1) := gz_d tdX8_answerOf_t1_ok 26 rfl
theorem dX8_answerOf_157 : decode cX8_answerOf 157 = .ok (.getfield 48, 3) := gz_d tdX8_answerOf_t1_ok 27 rfl
theorem dX8_answerOf_160 : decode cX8_answerOf 160 = .ok (.iload 5, 2) := gz_d tdX8_answerOf_t1_ok 28 rfl
theorem dX8_answerOf_162 : decode cX8_answerOf 162 = .ok (.dup2, 1) := gz_d tdX8_answerOf_t1_ok 29 rfl
theorem dX8_answerOf_163 : decode cX8_answerOf 163 = .ok (.iaload, 1) := gz_d tdX8_answerOf_t1_ok 30 rfl
theorem dX8_answerOf_164 : decode cX8_answerOf 164 = .ok (.iconst 1, 1) := gz_d tdX8_answerOf_t1_ok 31 rfl
theorem dX8_answerOf_165 : decode cX8_answerOf 165 = .ok (.iadd, 1) := gz_d tdX8_answerOf_t1_ok 32 rfl
theorem dX8_answerOf_166 : decode cX8_answerOf 166 = .ok (.iastore, 1) := gz_d tdX8_answerOf_t1_ok 33 rfl
theorem dX8_answerOf_167 : decode cX8_answerOf 167 = .ok (.goto 113, 3) := gz_d tdX8_answerOf_t1_ok 34 rfl
theorem dX8_answerOf_170 : decode cX8_answerOf 170 = .ok (.iload 8, 2) := gz_d tdX8_answerOf_t1_ok 35 rfl
theorem dX8_answerOf_172 : decode cX8_answerOf 172 = .ok (.iload_n 1, 1) := gz_d tdX8_answerOf_t1_ok 36 rfl
theorem dX8_answerOf_173 : decode cX8_answerOf 173 = .ok (.if_icmp .ne 67, 3) := gz_d tdX8_answerOf_t1_ok 37 rfl
theorem dX8_answerOf_176 : decode cX8_answerOf 176 = .ok (.iconst 0, 1) := gz_d tdX8_answerOf_t1_ok 38 rfl
theorem dX8_answerOf_177 : decode cX8_answerOf 177 = .ok (.istore 9, 2) := gz_d tdX8_answerOf_t1_ok 39 rfl
theorem dX8_answerOf_179 : decode cX8_answerOf 179 = .ok (.iload 9, 2) := gz_d tdX8_answerOf_t1_ok 40 rfl
theorem dX8_answerOf_181 : decode cX8_answerOf 181 = .ok (.aload_n 0, 1) := gz_d tdX8_answerOf_t1_ok 41 rfl
theorem dX8_answerOf_182 : decode cX8_answerOf 182 = .ok (.getfield 23, 3) := gz_d tdX8_answerOf_t1_ok 42 rfl
theorem dX8_answerOf_185 : decode cX8_answerOf 185 = .ok (.iconst 1, 1) := gz_d tdX8_answerOf_t1_ok 43 rfl
theorem dX8_answerOf_186 : decode cX8_answerOf 186 = .ok (.iload_n 1, 1) := gz_d tdX8_answerOf_t1_ok 44 rfl
theorem dX8_answerOf_187 : decode cX8_answerOf 187 = .ok (.isub, 1) := gz_d tdX8_answerOf_t1_ok 45 rfl
theorem dX8_answerOf_188 : decode cX8_answerOf 188 = .ok (.iaload, 1) := gz_d tdX8_answerOf_t1_ok 46 rfl
theorem dX8_answerOf_189 : decode cX8_answerOf 189 = .ok (.if_icmp .ge 35, 3) := gz_d tdX8_answerOf_t1_ok 47 rfl
theorem dX8_answerOf_192 : decode cX8_answerOf 192 = .ok (.aload_n 0, 1) := gz_d tdX8_answerOf_t1_ok 48 rfl
theorem dX8_answerOf_193 : decode cX8_answerOf 193 = .ok (.getfield 42, 3) := gz_d tdX8_answerOf_t1_ok 49 rfl
theorem dX8_answerOf_196 : decode cX8_answerOf 196 = .ok (.iconst 4, 1) := gz_d tdX8_answerOf_t1_ok 50 rfl
theorem dX8_answerOf_197 : decode cX8_answerOf 197 = .ok (.iload 5, 2) := gz_d tdX8_answerOf_t1_ok 51 rfl
theorem dX8_answerOf_199 : decode cX8_answerOf 199 = .ok (.imul, 1) := gz_d tdX8_answerOf_t1_ok 52 rfl
theorem dX8_answerOf_200 : decode cX8_answerOf 200 = .ok (.iconst 4, 1) := gz_d tdX8_answerOf_t1_ok 53 rfl
theorem dX8_answerOf_201 : decode cX8_answerOf 201 = .ok (.iadd, 1) := gz_d tdX8_answerOf_t1_ok 54 rfl
theorem dX8_answerOf_202 : decode cX8_answerOf 202 = .ok (.iload 9, 2) := gz_d tdX8_answerOf_t1_ok 55 rfl
theorem dX8_answerOf_204 : decode cX8_answerOf 204 = .ok (.iadd, 1) := gz_d tdX8_answerOf_t1_ok 56 rfl
theorem dX8_answerOf_205 : decode cX8_answerOf 205 = .ok (.aload_n 0, 1) := gz_d tdX8_answerOf_t1_ok 57 rfl
theorem dX8_answerOf_206 : decode cX8_answerOf 206 = .ok (.getfield 42, 3) := gz_d tdX8_answerOf_t1_ok 58 rfl
theorem dX8_answerOf_209 : decode cX8_answerOf 209 = .ok (.iconst 4, 1) := gz_d tdX8_answerOf_t1_ok 59 rfl
def tdX8_answerOf_t2 : List (Nat × Instr × Nat) := [(210, .iload 5, 2), (212, .imul, 1), (213, .iload 9, 2), (215, .iadd, 1), (216, .daload, 1), (217, .dastore, 1), (218, .iinc 9 1, 3), (221, .goto (-42), 3), (224, .aload_n 0, 1), (225, .iload 5, 2), (227, .iconst 1, 1), (228, .iadd, 1), (229, .iload 7, 2), (231, .invokevirtual 166, 3), (234, .iinc 5 1, 3), (237, .goto 43, 3), (240, .aload_n 0, 1), (241, .iload_n 1, 1), (242, .iload_n 2, 1), (243, .iload 5, 2), (245, .iload 7, 2), (247, .invokevirtual 158, 3), (250, .ifCond .eq 19, 3), (253, .aload_n 0, 1), (254, .iload 5, 2), (256, .iconst 1, 1), (257, .iadd, 1), (258, .iload 7, 2), (260, .invokevirtual 166, 3), (263, .iinc 5 1, 3), (266, .goto 14, 3), (269, .aload_n 0, 1), (270, .getfield 48, 3), (273, .iload 5, 2), (275, .dup2, 1), (276, .iaload, 1), (277, .iconst 1, 1), (278, .iadd, 1), (279, .iastore, 1), (280, .goto (-273), 3), (283, .aload_n 0, 1), (284, .getfield 51, 3), (287, .iload 4, 2), (289, .daload, 1), (290, .dreturn, 1)]
theorem tdX8_answerOf_t2_ok : gz_dec cX8_answerOf tdX8_answerOf_t2 = true := by decide +kernel
theorem dX8_answerOf_210 : decode cX8_answerOf 210 = .ok (.iload 5, 2) := gz_d tdX8_answerOf_t2_ok 0 rfl
theorem dX8_answerOf_212 : decode cX8_answerOf 212 = .ok (.imul, 1) := gz_d tdX8_answerOf_t2_ok 1 rfl
theorem dX8_answerOf_213 : decode cX8_answerOf 213 = .ok (.iload 9, 2) := gz_d tdX8_answerOf_t2_ok 2 rfl
theorem dX8_answerOf_215 : decode cX8_answerOf 215 = .ok (.iadd, 1) := gz_d tdX8_answerOf_t2_ok 3 rfl
theorem dX8_answerOf_216 : decode cX8_answerOf 216 = .ok (.daload, 1) := gz_d tdX8_answerOf_t2_ok 4 rfl
theorem dX8_answerOf_217 : decode cX8_answerOf 217 = .ok (.dastore, 1) := gz_d tdX8_answerOf_t2_ok 5 rfl
theorem dX8_answerOf_218 : decode cX8_answerOf 218 = .ok (.iinc 9 1, 3) := gz_d tdX8_answerOf_t2_ok 6 rfl
theorem dX8_answerOf_221 : decode cX8_answerOf 221 = .ok (.goto (-42), 3) := gz_d tdX8_answerOf_t2_ok 7 rfl
theorem dX8_answerOf_224 : decode cX8_answerOf 224 = .ok (.aload_n 0, 1) := gz_d tdX8_answerOf_t2_ok 8 rfl
theorem dX8_answerOf_225 : decode cX8_answerOf 225 = .ok (.iload 5, 2) := gz_d tdX8_answerOf_t2_ok 9 rfl
theorem dX8_answerOf_227 : decode cX8_answerOf 227 = .ok (.iconst 1, 1) := gz_d tdX8_answerOf_t2_ok 10 rfl
theorem dX8_answerOf_228 : decode cX8_answerOf 228 = .ok (.iadd, 1) := gz_d tdX8_answerOf_t2_ok 11 rfl
theorem dX8_answerOf_229 : decode cX8_answerOf 229 = .ok (.iload 7, 2) := gz_d tdX8_answerOf_t2_ok 12 rfl
theorem dX8_answerOf_231 : decode cX8_answerOf 231 = .ok (.invokevirtual 166, 3) := gz_d tdX8_answerOf_t2_ok 13 rfl
theorem dX8_answerOf_234 : decode cX8_answerOf 234 = .ok (.iinc 5 1, 3) := gz_d tdX8_answerOf_t2_ok 14 rfl
theorem dX8_answerOf_237 : decode cX8_answerOf 237 = .ok (.goto 43, 3) := gz_d tdX8_answerOf_t2_ok 15 rfl
theorem dX8_answerOf_240 : decode cX8_answerOf 240 = .ok (.aload_n 0, 1) := gz_d tdX8_answerOf_t2_ok 16 rfl
theorem dX8_answerOf_241 : decode cX8_answerOf 241 = .ok (.iload_n 1, 1) := gz_d tdX8_answerOf_t2_ok 17 rfl
theorem dX8_answerOf_242 : decode cX8_answerOf 242 = .ok (.iload_n 2, 1) := gz_d tdX8_answerOf_t2_ok 18 rfl
theorem dX8_answerOf_243 : decode cX8_answerOf 243 = .ok (.iload 5, 2) := gz_d tdX8_answerOf_t2_ok 19 rfl
theorem dX8_answerOf_245 : decode cX8_answerOf 245 = .ok (.iload 7, 2) := gz_d tdX8_answerOf_t2_ok 20 rfl
theorem dX8_answerOf_247 : decode cX8_answerOf 247 = .ok (.invokevirtual 158, 3) := gz_d tdX8_answerOf_t2_ok 21 rfl
theorem dX8_answerOf_250 : decode cX8_answerOf 250 = .ok (.ifCond .eq 19, 3) := gz_d tdX8_answerOf_t2_ok 22 rfl
theorem dX8_answerOf_253 : decode cX8_answerOf 253 = .ok (.aload_n 0, 1) := gz_d tdX8_answerOf_t2_ok 23 rfl
theorem dX8_answerOf_254 : decode cX8_answerOf 254 = .ok (.iload 5, 2) := gz_d tdX8_answerOf_t2_ok 24 rfl
theorem dX8_answerOf_256 : decode cX8_answerOf 256 = .ok (.iconst 1, 1) := gz_d tdX8_answerOf_t2_ok 25 rfl
theorem dX8_answerOf_257 : decode cX8_answerOf 257 = .ok (.iadd, 1) := gz_d tdX8_answerOf_t2_ok 26 rfl
theorem dX8_answerOf_258 : decode cX8_answerOf 258 = .ok (.iload 7, 2) := gz_d tdX8_answerOf_t2_ok 27 rfl
theorem dX8_answerOf_260 : decode cX8_answerOf 260 = .ok (.invokevirtual 166, 3) := gz_d tdX8_answerOf_t2_ok 28 rfl
theorem dX8_answerOf_263 : decode cX8_answerOf 263 = .ok (.iinc 5 1, 3) := gz_d tdX8_answerOf_t2_ok 29 rfl
theorem dX8_answerOf_266 : decode cX8_answerOf 266 = .ok (.goto 14, 3) := gz_d tdX8_answerOf_t2_ok 30 rfl
theorem dX8_answerOf_269 : decode cX8_answerOf 269 = .ok (.aload_n 0, 1) := gz_d tdX8_answerOf_t2_ok 31 rfl
theorem dX8_answerOf_270 : decode cX8_answerOf 270 = .ok (.getfield 48, 3) := gz_d tdX8_answerOf_t2_ok 32 rfl
theorem dX8_answerOf_273 : decode cX8_answerOf 273 = .ok (.iload 5, 2) := gz_d tdX8_answerOf_t2_ok 33 rfl
theorem dX8_answerOf_275 : decode cX8_answerOf 275 = .ok (.dup2, 1) := gz_d tdX8_answerOf_t2_ok 34 rfl
theorem dX8_answerOf_276 : decode cX8_answerOf 276 = .ok (.iaload, 1) := gz_d tdX8_answerOf_t2_ok 35 rfl
theorem dX8_answerOf_277 : decode cX8_answerOf 277 = .ok (.iconst 1, 1) := gz_d tdX8_answerOf_t2_ok 36 rfl
theorem dX8_answerOf_278 : decode cX8_answerOf 278 = .ok (.iadd, 1) := gz_d tdX8_answerOf_t2_ok 37 rfl
theorem dX8_answerOf_279 : decode cX8_answerOf 279 = .ok (.iastore, 1) := gz_d tdX8_answerOf_t2_ok 38 rfl
theorem dX8_answerOf_280 : decode cX8_answerOf 280 = .ok (.goto (-273), 3) := gz_d tdX8_answerOf_t2_ok 39 rfl
theorem dX8_answerOf_283 : decode cX8_answerOf 283 = .ok (.aload_n 0, 1) := gz_d tdX8_answerOf_t2_ok 40 rfl
theorem dX8_answerOf_284 : decode cX8_answerOf 284 = .ok (.getfield 51, 3) := gz_d tdX8_answerOf_t2_ok 41 rfl
theorem dX8_answerOf_287 : decode cX8_answerOf 287 = .ok (.iload 4, 2) := gz_d tdX8_answerOf_t2_ok 42 rfl
theorem dX8_answerOf_289 : decode cX8_answerOf 289 = .ok (.daload, 1) := gz_d tdX8_answerOf_t2_ok 43 rfl
theorem dX8_answerOf_290 : decode cX8_answerOf 290 = .ok (.dreturn, 1) := gz_d tdX8_answerOf_t2_ok 44 rfl
def tdX8_begin_t0 : List (Nat × Instr × Nat) := [(0, .aload_n 0, 1), (1, .iconst 0, 1), (2, .iconst (-1), 1), (3, .invokevirtual 166, 3), (6, .iconst 0, 1), (7, .istore_n 2, 1), (8, .iload_n 2, 1), (9, .aload_n 0, 1), (10, .getfield 23, 3), (13, .iconst 1, 1), (14, .iload_n 1, 1), (15, .isub, 1), (16, .iaload, 1), (17, .if_icmp .ge 28, 3), (20, .aload_n 0, 1), (21, .getfield 42, 3), (24, .iload_n 2, 1), (25, .aload_n 0, 1), (26, .getfield 26, 3), (29, .iconst 4, 1), (30, .iconst 1, 1), (31, .iload_n 1, 1), (32, .isub, 1), (33, .imul, 1), (34, .iload_n 2, 1), (35, .iadd, 1), (36, .iaload, 1), (37, .i2d, 1), (38, .dastore, 1), (39, .iinc 2 1, 3), (42, .goto (-34), 3), (45, .return_, 1)]
theorem tdX8_begin_t0_ok : gz_dec cX8_begin tdX8_begin_t0 = true := by decide +kernel
theorem dX8_begin_0 : decode cX8_begin 0 = .ok (.aload_n 0, 1) := gz_d tdX8_begin_t0_ok 0 rfl
theorem dX8_begin_1 : decode cX8_begin 1 = .ok (.iconst 0, 1) := gz_d tdX8_begin_t0_ok 1 rfl
theorem dX8_begin_2 : decode cX8_begin 2 = .ok (.iconst (-1), 1) := gz_d tdX8_begin_t0_ok 2 rfl
theorem dX8_begin_3 : decode cX8_begin 3 = .ok (.invokevirtual 166, 3) := gz_d tdX8_begin_t0_ok 3 rfl
theorem dX8_begin_6 : decode cX8_begin 6 = .ok (.iconst 0, 1) := gz_d tdX8_begin_t0_ok 4 rfl
theorem dX8_begin_7 : decode cX8_begin 7 = .ok (.istore_n 2, 1) := gz_d tdX8_begin_t0_ok 5 rfl
theorem dX8_begin_8 : decode cX8_begin 8 = .ok (.iload_n 2, 1) := gz_d tdX8_begin_t0_ok 6 rfl
theorem dX8_begin_9 : decode cX8_begin 9 = .ok (.aload_n 0, 1) := gz_d tdX8_begin_t0_ok 7 rfl
theorem dX8_begin_10 : decode cX8_begin 10 = .ok (.getfield 23, 3) := gz_d tdX8_begin_t0_ok 8 rfl
theorem dX8_begin_13 : decode cX8_begin 13 = .ok (.iconst 1, 1) := gz_d tdX8_begin_t0_ok 9 rfl
theorem dX8_begin_14 : decode cX8_begin 14 = .ok (.iload_n 1, 1) := gz_d tdX8_begin_t0_ok 10 rfl
theorem dX8_begin_15 : decode cX8_begin 15 = .ok (.isub, 1) := gz_d tdX8_begin_t0_ok 11 rfl
theorem dX8_begin_16 : decode cX8_begin 16 = .ok (.iaload, 1) := gz_d tdX8_begin_t0_ok 12 rfl
theorem dX8_begin_17 : decode cX8_begin 17 = .ok (.if_icmp .ge 28, 3) := gz_d tdX8_begin_t0_ok 13 rfl
theorem dX8_begin_20 : decode cX8_begin 20 = .ok (.aload_n 0, 1) := gz_d tdX8_begin_t0_ok 14 rfl
theorem dX8_begin_21 : decode cX8_begin 21 = .ok (.getfield 42, 3) := gz_d tdX8_begin_t0_ok 15 rfl
theorem dX8_begin_24 : decode cX8_begin 24 = .ok (.iload_n 2, 1) := gz_d tdX8_begin_t0_ok 16 rfl
theorem dX8_begin_25 : decode cX8_begin 25 = .ok (.aload_n 0, 1) := gz_d tdX8_begin_t0_ok 17 rfl
theorem dX8_begin_26 : decode cX8_begin 26 = .ok (.getfield 26, 3) := gz_d tdX8_begin_t0_ok 18 rfl
theorem dX8_begin_29 : decode cX8_begin 29 = .ok (.iconst 4, 1) := gz_d tdX8_begin_t0_ok 19 rfl
theorem dX8_begin_30 : decode cX8_begin 30 = .ok (.iconst 1, 1) := gz_d tdX8_begin_t0_ok 20 rfl
theorem dX8_begin_31 : decode cX8_begin 31 = .ok (.iload_n 1, 1) := gz_d tdX8_begin_t0_ok 21 rfl
theorem dX8_begin_32 : decode cX8_begin 32 = .ok (.isub, 1) := gz_d tdX8_begin_t0_ok 22 rfl
theorem dX8_begin_33 : decode cX8_begin 33 = .ok (.imul, 1) := gz_d tdX8_begin_t0_ok 23 rfl
theorem dX8_begin_34 : decode cX8_begin 34 = .ok (.iload_n 2, 1) := gz_d tdX8_begin_t0_ok 24 rfl
theorem dX8_begin_35 : decode cX8_begin 35 = .ok (.iadd, 1) := gz_d tdX8_begin_t0_ok 25 rfl
theorem dX8_begin_36 : decode cX8_begin 36 = .ok (.iaload, 1) := gz_d tdX8_begin_t0_ok 26 rfl
theorem dX8_begin_37 : decode cX8_begin 37 = .ok (.i2d, 1) := gz_d tdX8_begin_t0_ok 27 rfl
theorem dX8_begin_38 : decode cX8_begin 38 = .ok (.dastore, 1) := gz_d tdX8_begin_t0_ok 28 rfl
theorem dX8_begin_39 : decode cX8_begin 39 = .ok (.iinc 2 1, 3) := gz_d tdX8_begin_t0_ok 29 rfl
theorem dX8_begin_42 : decode cX8_begin 42 = .ok (.goto (-34), 3) := gz_d tdX8_begin_t0_ok 30 rfl
theorem dX8_begin_45 : decode cX8_begin 45 = .ok (.return_, 1) := gz_d tdX8_begin_t0_ok 31 rfl
def tdX8_answer_t0 : List (Nat × Instr × Nat) := [(0, .iload_n 1, 1), (1, .invokestatic 93, 3), (4, .ifCond .eq 10, 3), (7, .iload_n 2, 1), (8, .invokestatic 117, 3), (11, .ifCond .ne 7, 3), (14, .ldc2_w 139, 3), (17, .lreturn, 1), (18, .dconst 0, 1), (19, .dstore_n 3, 1), (20, .iconst 0, 1), (21, .istore 5, 2), (23, .iload 5, 2), (25, .aload_n 0, 1), (26, .getfield 23, 3), (29, .iload_n 1, 1), (30, .iaload, 1), (31, .if_icmp .ge 39, 3), (34, .aload_n 0, 1), (35, .iload_n 1, 1), (36, .invokevirtual 170, 3), (39, .dload_n 3, 1), (40, .aload_n 0, 1), (41, .getfield 26, 3), (44, .iconst 4, 1), (45, .iload_n 1, 1), (46, .imul, 1), (47, .iload 5, 2), (49, .iadd, 1), (50, .iaload, 1), (51, .i2d, 1), (52, .aload_n 0, 1), (53, .iload_n 1, 1), (54, .iload_n 2, 1), (55, .iload 5, 2), (57, .iconst 0, 1), (58, .invokevirtual 173, 3), (61, .dmul, 1), (62, .dadd, 1), (63, .dstore_n 3, 1), (64, .iinc 5 1, 3), (67, .goto (-44), 3), (70, .dload_n 3, 1), (71, .aload_n 0, 1), (72, .aload_n 0, 1), (73, .getfield 7, 3), (76, .aload_n 0, 1), (77, .getfield 13, 3), (80, .iadd, 1), (81, .invokevirtual 114, 3), (84, .i2d, 1), (85, .ddiv, 1), (86, .invokestatic 145, 3), (89, .lreturn, 1)]
theorem tdX8_answer_t0_ok : gz_dec cX8_answer tdX8_answer_t0 = true := by decide +kernel
theorem dX8_answer_0 : decode cX8_answer 0 = .ok (.iload_n 1, 1) := gz_d tdX8_answer_t0_ok 0 rfl
theorem dX8_answer_1 : decode cX8_answer 1 = .ok (.invokestatic 93, 3) := gz_d tdX8_answer_t0_ok 1 rfl
theorem dX8_answer_4 : decode cX8_answer 4 = .ok (.ifCond .eq 10, 3) := gz_d tdX8_answer_t0_ok 2 rfl
theorem dX8_answer_7 : decode cX8_answer 7 = .ok (.iload_n 2, 1) := gz_d tdX8_answer_t0_ok 3 rfl
theorem dX8_answer_8 : decode cX8_answer 8 = .ok (.invokestatic 117, 3) := gz_d tdX8_answer_t0_ok 4 rfl
theorem dX8_answer_11 : decode cX8_answer 11 = .ok (.ifCond .ne 7, 3) := gz_d tdX8_answer_t0_ok 5 rfl
theorem dX8_answer_14 : decode cX8_answer 14 = .ok (.ldc2_w 139, 3) := gz_d tdX8_answer_t0_ok 6 rfl
theorem dX8_answer_17 : decode cX8_answer 17 = .ok (.lreturn, 1) := gz_d tdX8_answer_t0_ok 7 rfl
theorem dX8_answer_18 : decode cX8_answer 18 = .ok (.dconst 0, 1) := gz_d tdX8_answer_t0_ok 8 rfl
theorem dX8_answer_19 : decode cX8_answer 19 = .ok (.dstore_n 3, 1) := gz_d tdX8_answer_t0_ok 9 rfl
theorem dX8_answer_20 : decode cX8_answer 20 = .ok (.iconst 0, 1) := gz_d tdX8_answer_t0_ok 10 rfl
theorem dX8_answer_21 : decode cX8_answer 21 = .ok (.istore 5, 2) := gz_d tdX8_answer_t0_ok 11 rfl
theorem dX8_answer_23 : decode cX8_answer 23 = .ok (.iload 5, 2) := gz_d tdX8_answer_t0_ok 12 rfl
theorem dX8_answer_25 : decode cX8_answer 25 = .ok (.aload_n 0, 1) := gz_d tdX8_answer_t0_ok 13 rfl
theorem dX8_answer_26 : decode cX8_answer 26 = .ok (.getfield 23, 3) := gz_d tdX8_answer_t0_ok 14 rfl
theorem dX8_answer_29 : decode cX8_answer 29 = .ok (.iload_n 1, 1) := gz_d tdX8_answer_t0_ok 15 rfl
theorem dX8_answer_30 : decode cX8_answer 30 = .ok (.iaload, 1) := gz_d tdX8_answer_t0_ok 16 rfl
theorem dX8_answer_31 : decode cX8_answer 31 = .ok (.if_icmp .ge 39, 3) := gz_d tdX8_answer_t0_ok 17 rfl
theorem dX8_answer_34 : decode cX8_answer 34 = .ok (.aload_n 0, 1) := gz_d tdX8_answer_t0_ok 18 rfl
theorem dX8_answer_35 : decode cX8_answer 35 = .ok (.iload_n 1, 1) := gz_d tdX8_answer_t0_ok 19 rfl
theorem dX8_answer_36 : decode cX8_answer 36 = .ok (.invokevirtual 170, 3) := gz_d tdX8_answer_t0_ok 20 rfl
theorem dX8_answer_39 : decode cX8_answer 39 = .ok (.dload_n 3, 1) := gz_d tdX8_answer_t0_ok 21 rfl
theorem dX8_answer_40 : decode cX8_answer 40 = .ok (.aload_n 0, 1) := gz_d tdX8_answer_t0_ok 22 rfl
theorem dX8_answer_41 : decode cX8_answer 41 = .ok (.getfield 26, 3) := gz_d tdX8_answer_t0_ok 23 rfl
theorem dX8_answer_44 : decode cX8_answer 44 = .ok (.iconst 4, 1) := gz_d tdX8_answer_t0_ok 24 rfl
theorem dX8_answer_45 : decode cX8_answer 45 = .ok (.iload_n 1, 1) := gz_d tdX8_answer_t0_ok 25 rfl
theorem dX8_answer_46 : decode cX8_answer 46 = .ok (.imul, 1) := gz_d tdX8_answer_t0_ok 26 rfl
theorem dX8_answer_47 : decode cX8_answer 47 = .ok (.iload 5, 2) := gz_d tdX8_answer_t0_ok 27 rfl
theorem dX8_answer_49 : decode cX8_answer 49 = .ok (.iadd, 1) := gz_d tdX8_answer_t0_ok 28 rfl
theorem dX8_answer_50 : decode cX8_answer 50 = .ok (.iaload, 1) := gz_d tdX8_answer_t0_ok 29 rfl
theorem dX8_answer_51 : decode cX8_answer 51 = .ok (.i2d, 1) := gz_d tdX8_answer_t0_ok 30 rfl
theorem dX8_answer_52 : decode cX8_answer 52 = .ok (.aload_n 0, 1) := gz_d tdX8_answer_t0_ok 31 rfl
theorem dX8_answer_53 : decode cX8_answer 53 = .ok (.iload_n 1, 1) := gz_d tdX8_answer_t0_ok 32 rfl
theorem dX8_answer_54 : decode cX8_answer 54 = .ok (.iload_n 2, 1) := gz_d tdX8_answer_t0_ok 33 rfl
theorem dX8_answer_55 : decode cX8_answer 55 = .ok (.iload 5, 2) := gz_d tdX8_answer_t0_ok 34 rfl
theorem dX8_answer_57 : decode cX8_answer 57 = .ok (.iconst 0, 1) := gz_d tdX8_answer_t0_ok 35 rfl
theorem dX8_answer_58 : decode cX8_answer 58 = .ok (.invokevirtual 173, 3) := gz_d tdX8_answer_t0_ok 36 rfl
theorem dX8_answer_61 : decode cX8_answer 61 = .ok (.dmul, 1) := gz_d tdX8_answer_t0_ok 37 rfl
theorem dX8_answer_62 : decode cX8_answer 62 = .ok (.dadd, 1) := gz_d tdX8_answer_t0_ok 38 rfl
theorem dX8_answer_63 : decode cX8_answer 63 = .ok (.dstore_n 3, 1) := gz_d tdX8_answer_t0_ok 39 rfl
theorem dX8_answer_64 : decode cX8_answer 64 = .ok (.iinc 5 1, 3) := gz_d tdX8_answer_t0_ok 40 rfl
theorem dX8_answer_67 : decode cX8_answer 67 = .ok (.goto (-44), 3) := gz_d tdX8_answer_t0_ok 41 rfl
theorem dX8_answer_70 : decode cX8_answer 70 = .ok (.dload_n 3, 1) := gz_d tdX8_answer_t0_ok 42 rfl
theorem dX8_answer_71 : decode cX8_answer 71 = .ok (.aload_n 0, 1) := gz_d tdX8_answer_t0_ok 43 rfl
theorem dX8_answer_72 : decode cX8_answer 72 = .ok (.aload_n 0, 1) := gz_d tdX8_answer_t0_ok 44 rfl
theorem dX8_answer_73 : decode cX8_answer 73 = .ok (.getfield 7, 3) := gz_d tdX8_answer_t0_ok 45 rfl
theorem dX8_answer_76 : decode cX8_answer 76 = .ok (.aload_n 0, 1) := gz_d tdX8_answer_t0_ok 46 rfl
theorem dX8_answer_77 : decode cX8_answer 77 = .ok (.getfield 13, 3) := gz_d tdX8_answer_t0_ok 47 rfl
theorem dX8_answer_80 : decode cX8_answer 80 = .ok (.iadd, 1) := gz_d tdX8_answer_t0_ok 48 rfl
theorem dX8_answer_81 : decode cX8_answer 81 = .ok (.invokevirtual 114, 3) := gz_d tdX8_answer_t0_ok 49 rfl
theorem dX8_answer_84 : decode cX8_answer 84 = .ok (.i2d, 1) := gz_d tdX8_answer_t0_ok 50 rfl
theorem dX8_answer_85 : decode cX8_answer 85 = .ok (.ddiv, 1) := gz_d tdX8_answer_t0_ok 51 rfl
theorem dX8_answer_86 : decode cX8_answer 86 = .ok (.invokestatic 145, 3) := gz_d tdX8_answer_t0_ok 52 rfl
theorem dX8_answer_89 : decode cX8_answer 89 = .ok (.lreturn, 1) := gz_d tdX8_answer_t0_ok 53 rfl
def tdX8_opening_t0 : List (Nat × Instr × Nat) := [(0, .iload_n 1, 1), (1, .invokestatic 117, 3), (4, .ifCond .eq 12, 3), (7, .aload_n 0, 1), (8, .iconst 0, 1), (9, .iload_n 2, 1), (10, .invokevirtual 97, 3), (13, .ifCond .ne 6, 3), (16, .bipush (-100), 2), (18, .ireturn, 1), (19, .aload_n 0, 1), (20, .iconst 0, 1), (21, .invokevirtual 170, 3), (24, .aload_n 0, 1), (25, .iconst 0, 1), (26, .iload_n 1, 1), (27, .iload_n 2, 1), (28, .iconst 0, 1), (29, .invokevirtual 173, 3), (32, .dstore_n 3, 1), (33, .aload_n 0, 1), (34, .getfield 54, 3), (37, .iconst 0, 1), (38, .iaload, 1), (39, .ireturn, 1)]
theorem tdX8_opening_t0_ok : gz_dec cX8_opening tdX8_opening_t0 = true := by decide +kernel
theorem dX8_opening_0 : decode cX8_opening 0 = .ok (.iload_n 1, 1) := gz_d tdX8_opening_t0_ok 0 rfl
theorem dX8_opening_1 : decode cX8_opening 1 = .ok (.invokestatic 117, 3) := gz_d tdX8_opening_t0_ok 1 rfl
theorem dX8_opening_4 : decode cX8_opening 4 = .ok (.ifCond .eq 12, 3) := gz_d tdX8_opening_t0_ok 2 rfl
theorem dX8_opening_7 : decode cX8_opening 7 = .ok (.aload_n 0, 1) := gz_d tdX8_opening_t0_ok 3 rfl
theorem dX8_opening_8 : decode cX8_opening 8 = .ok (.iconst 0, 1) := gz_d tdX8_opening_t0_ok 4 rfl
theorem dX8_opening_9 : decode cX8_opening 9 = .ok (.iload_n 2, 1) := gz_d tdX8_opening_t0_ok 5 rfl
theorem dX8_opening_10 : decode cX8_opening 10 = .ok (.invokevirtual 97, 3) := gz_d tdX8_opening_t0_ok 6 rfl
theorem dX8_opening_13 : decode cX8_opening 13 = .ok (.ifCond .ne 6, 3) := gz_d tdX8_opening_t0_ok 7 rfl
theorem dX8_opening_16 : decode cX8_opening 16 = .ok (.bipush (-100), 2) := gz_d tdX8_opening_t0_ok 8 rfl
theorem dX8_opening_18 : decode cX8_opening 18 = .ok (.ireturn, 1) := gz_d tdX8_opening_t0_ok 9 rfl
theorem dX8_opening_19 : decode cX8_opening 19 = .ok (.aload_n 0, 1) := gz_d tdX8_opening_t0_ok 10 rfl
theorem dX8_opening_20 : decode cX8_opening 20 = .ok (.iconst 0, 1) := gz_d tdX8_opening_t0_ok 11 rfl
theorem dX8_opening_21 : decode cX8_opening 21 = .ok (.invokevirtual 170, 3) := gz_d tdX8_opening_t0_ok 12 rfl
theorem dX8_opening_24 : decode cX8_opening 24 = .ok (.aload_n 0, 1) := gz_d tdX8_opening_t0_ok 13 rfl
theorem dX8_opening_25 : decode cX8_opening 25 = .ok (.iconst 0, 1) := gz_d tdX8_opening_t0_ok 14 rfl
theorem dX8_opening_26 : decode cX8_opening 26 = .ok (.iload_n 1, 1) := gz_d tdX8_opening_t0_ok 15 rfl
theorem dX8_opening_27 : decode cX8_opening 27 = .ok (.iload_n 2, 1) := gz_d tdX8_opening_t0_ok 16 rfl
theorem dX8_opening_28 : decode cX8_opening 28 = .ok (.iconst 0, 1) := gz_d tdX8_opening_t0_ok 17 rfl
theorem dX8_opening_29 : decode cX8_opening 29 = .ok (.invokevirtual 173, 3) := gz_d tdX8_opening_t0_ok 18 rfl
theorem dX8_opening_32 : decode cX8_opening 32 = .ok (.dstore_n 3, 1) := gz_d tdX8_opening_t0_ok 19 rfl
theorem dX8_opening_33 : decode cX8_opening 33 = .ok (.aload_n 0, 1) := gz_d tdX8_opening_t0_ok 20 rfl
theorem dX8_opening_34 : decode cX8_opening 34 = .ok (.getfield 54, 3) := gz_d tdX8_opening_t0_ok 21 rfl
theorem dX8_opening_37 : decode cX8_opening 37 = .ok (.iconst 0, 1) := gz_d tdX8_opening_t0_ok 22 rfl
theorem dX8_opening_38 : decode cX8_opening 38 = .ok (.iaload, 1) := gz_d tdX8_opening_t0_ok 23 rfl
theorem dX8_opening_39 : decode cX8_opening 39 = .ok (.ireturn, 1) := gz_d tdX8_opening_t0_ok 24 rfl
def tdX8_reply_t0 : List (Nat × Instr × Nat) := [(0, .iload_n 1, 1), (1, .invokestatic 117, 3), (4, .ifCond .eq 20, 3), (7, .aload_n 0, 1), (8, .iconst 1, 1), (9, .iload_n 2, 1), (10, .invokevirtual 97, 3), (13, .ifCond .eq 11, 3), (16, .aload_n 0, 1), (17, .iload_n 3, 1), (18, .invokevirtual 105, 3), (21, .ifCond .ne 6, 3), (24, .bipush (-100), 2), (26, .ireturn, 1), (27, .aload_n 0, 1), (28, .iconst 1, 1), (29, .invokevirtual 170, 3), (32, .aload_n 0, 1), (33, .iconst 1, 1), (34, .iload_n 1, 1), (35, .iconst 0, 1), (36, .iload_n 3, 1), (37, .invokevirtual 158, 3), (40, .istore 4, 2), (42, .aload_n 0, 1), (43, .iconst 1, 1), (44, .iload_n 3, 1), (45, .invokevirtual 166, 3), (48, .aload_n 0, 1), (49, .iconst 1, 1), (50, .iload_n 1, 1), (51, .iload_n 2, 1), (52, .iconst 1, 1), (53, .invokevirtual 173, 3), (56, .dstore 5, 2), (58, .aload_n 0, 1), (59, .getfield 54, 3), (62, .iconst 1, 1), (63, .iaload, 1), (64, .ireturn, 1)]
theorem tdX8_reply_t0_ok : gz_dec cX8_reply tdX8_reply_t0 = true := by decide +kernel
theorem dX8_reply_0 : decode cX8_reply 0 = .ok (.iload_n 1, 1) := gz_d tdX8_reply_t0_ok 0 rfl
theorem dX8_reply_1 : decode cX8_reply 1 = .ok (.invokestatic 117, 3) := gz_d tdX8_reply_t0_ok 1 rfl
theorem dX8_reply_4 : decode cX8_reply 4 = .ok (.ifCond .eq 20, 3) := gz_d tdX8_reply_t0_ok 2 rfl
theorem dX8_reply_7 : decode cX8_reply 7 = .ok (.aload_n 0, 1) := gz_d tdX8_reply_t0_ok 3 rfl
theorem dX8_reply_8 : decode cX8_reply 8 = .ok (.iconst 1, 1) := gz_d tdX8_reply_t0_ok 4 rfl
theorem dX8_reply_9 : decode cX8_reply 9 = .ok (.iload_n 2, 1) := gz_d tdX8_reply_t0_ok 5 rfl
theorem dX8_reply_10 : decode cX8_reply 10 = .ok (.invokevirtual 97, 3) := gz_d tdX8_reply_t0_ok 6 rfl
theorem dX8_reply_13 : decode cX8_reply 13 = .ok (.ifCond .eq 11, 3) := gz_d tdX8_reply_t0_ok 7 rfl
theorem dX8_reply_16 : decode cX8_reply 16 = .ok (.aload_n 0, 1) := gz_d tdX8_reply_t0_ok 8 rfl
theorem dX8_reply_17 : decode cX8_reply 17 = .ok (.iload_n 3, 1) := gz_d tdX8_reply_t0_ok 9 rfl
theorem dX8_reply_18 : decode cX8_reply 18 = .ok (.invokevirtual 105, 3) := gz_d tdX8_reply_t0_ok 10 rfl
theorem dX8_reply_21 : decode cX8_reply 21 = .ok (.ifCond .ne 6, 3) := gz_d tdX8_reply_t0_ok 11 rfl
theorem dX8_reply_24 : decode cX8_reply 24 = .ok (.bipush (-100), 2) := gz_d tdX8_reply_t0_ok 12 rfl
theorem dX8_reply_26 : decode cX8_reply 26 = .ok (.ireturn, 1) := gz_d tdX8_reply_t0_ok 13 rfl
theorem dX8_reply_27 : decode cX8_reply 27 = .ok (.aload_n 0, 1) := gz_d tdX8_reply_t0_ok 14 rfl
theorem dX8_reply_28 : decode cX8_reply 28 = .ok (.iconst 1, 1) := gz_d tdX8_reply_t0_ok 15 rfl
theorem dX8_reply_29 : decode cX8_reply 29 = .ok (.invokevirtual 170, 3) := gz_d tdX8_reply_t0_ok 16 rfl
theorem dX8_reply_32 : decode cX8_reply 32 = .ok (.aload_n 0, 1) := gz_d tdX8_reply_t0_ok 17 rfl
theorem dX8_reply_33 : decode cX8_reply 33 = .ok (.iconst 1, 1) := gz_d tdX8_reply_t0_ok 18 rfl
theorem dX8_reply_34 : decode cX8_reply 34 = .ok (.iload_n 1, 1) := gz_d tdX8_reply_t0_ok 19 rfl
theorem dX8_reply_35 : decode cX8_reply 35 = .ok (.iconst 0, 1) := gz_d tdX8_reply_t0_ok 20 rfl
theorem dX8_reply_36 : decode cX8_reply 36 = .ok (.iload_n 3, 1) := gz_d tdX8_reply_t0_ok 21 rfl
theorem dX8_reply_37 : decode cX8_reply 37 = .ok (.invokevirtual 158, 3) := gz_d tdX8_reply_t0_ok 22 rfl
theorem dX8_reply_40 : decode cX8_reply 40 = .ok (.istore 4, 2) := gz_d tdX8_reply_t0_ok 23 rfl
theorem dX8_reply_42 : decode cX8_reply 42 = .ok (.aload_n 0, 1) := gz_d tdX8_reply_t0_ok 24 rfl
theorem dX8_reply_43 : decode cX8_reply 43 = .ok (.iconst 1, 1) := gz_d tdX8_reply_t0_ok 25 rfl
theorem dX8_reply_44 : decode cX8_reply 44 = .ok (.iload_n 3, 1) := gz_d tdX8_reply_t0_ok 26 rfl
theorem dX8_reply_45 : decode cX8_reply 45 = .ok (.invokevirtual 166, 3) := gz_d tdX8_reply_t0_ok 27 rfl
theorem dX8_reply_48 : decode cX8_reply 48 = .ok (.aload_n 0, 1) := gz_d tdX8_reply_t0_ok 28 rfl
theorem dX8_reply_49 : decode cX8_reply 49 = .ok (.iconst 1, 1) := gz_d tdX8_reply_t0_ok 29 rfl
theorem dX8_reply_50 : decode cX8_reply 50 = .ok (.iload_n 1, 1) := gz_d tdX8_reply_t0_ok 30 rfl
theorem dX8_reply_51 : decode cX8_reply 51 = .ok (.iload_n 2, 1) := gz_d tdX8_reply_t0_ok 31 rfl
theorem dX8_reply_52 : decode cX8_reply 52 = .ok (.iconst 1, 1) := gz_d tdX8_reply_t0_ok 32 rfl
theorem dX8_reply_53 : decode cX8_reply 53 = .ok (.invokevirtual 173, 3) := gz_d tdX8_reply_t0_ok 33 rfl
theorem dX8_reply_56 : decode cX8_reply 56 = .ok (.dstore 5, 2) := gz_d tdX8_reply_t0_ok 34 rfl
theorem dX8_reply_58 : decode cX8_reply 58 = .ok (.aload_n 0, 1) := gz_d tdX8_reply_t0_ok 35 rfl
theorem dX8_reply_59 : decode cX8_reply 59 = .ok (.getfield 54, 3) := gz_d tdX8_reply_t0_ok 36 rfl
theorem dX8_reply_62 : decode cX8_reply 62 = .ok (.iconst 1, 1) := gz_d tdX8_reply_t0_ok 37 rfl
theorem dX8_reply_63 : decode cX8_reply 63 = .ok (.iaload, 1) := gz_d tdX8_reply_t0_ok 38 rfl
theorem dX8_reply_64 : decode cX8_reply 64 = .ok (.ireturn, 1) := gz_d tdX8_reply_t0_ok 39 rfl
def tdX8_drawn_t0 : List (Nat × Instr × Nat) := [(0, .aload_n 0, 1), (1, .iload_n 1, 1), (2, .invokevirtual 67, 3), (5, .istore_n 2, 1), (6, .iconst 0, 1), (7, .istore_n 3, 1), (8, .iload_n 3, 1), (9, .iconst 4, 1), (10, .if_icmp .ge 16, 3), (13, .aload_n 0, 1), (14, .getfield 61, 3), (17, .iload_n 3, 1), (18, .iconst 0, 1), (19, .iastore, 1), (20, .iinc 3 1, 3), (23, .goto (-15), 3), (26, .iconst 0, 1), (27, .istore_n 3, 1), (28, .iload_n 3, 1), (29, .iload_n 2, 1), (30, .if_icmp .ge 48, 3), (33, .aload_n 0, 1), (34, .aload_n 0, 1), (35, .getfield 176, 3), (38, .ldc 179, 2), (40, .imul, 1), (41, .sipush 12345, 3), (44, .iadd, 1), (45, .ldc 180, 2), (47, .iand, 1), (48, .putfield 176, 3), (51, .aload_n 0, 1), (52, .getfield 61, 3), (55, .aload_n 0, 1), (56, .getfield 176, 3), (59, .ldc 181, 2), (61, .idiv, 1), (62, .aload_n 0, 1), (63, .getfield 16, 3), (66, .irem, 1), (67, .dup2, 1), (68, .iaload, 1), (69, .iconst 1, 1), (70, .iadd, 1), (71, .iastore, 1), (72, .iinc 3 1, 3), (75, .goto (-47), 3), (78, .iconst (-1), 1), (79, .istore_n 3, 1), (80, .iconst 0, 1), (81, .istore 4, 2), (83, .iload 4, 2), (85, .aload_n 0, 1), (86, .getfield 23, 3), (89, .iload_n 1, 1), (90, .iaload, 1), (91, .if_icmp .ge 78, 3), (94, .iconst 1, 1), (95, .istore 5, 2), (97, .iconst 0, 1)]
theorem tdX8_drawn_t0_ok : gz_dec cX8_drawn tdX8_drawn_t0 = true := by decide +kernel
theorem dX8_drawn_0 : decode cX8_drawn 0 = .ok (.aload_n 0, 1) := gz_d tdX8_drawn_t0_ok 0 rfl
theorem dX8_drawn_1 : decode cX8_drawn 1 = .ok (.iload_n 1, 1) := gz_d tdX8_drawn_t0_ok 1 rfl
theorem dX8_drawn_2 : decode cX8_drawn 2 = .ok (.invokevirtual 67, 3) := gz_d tdX8_drawn_t0_ok 2 rfl
theorem dX8_drawn_5 : decode cX8_drawn 5 = .ok (.istore_n 2, 1) := gz_d tdX8_drawn_t0_ok 3 rfl
theorem dX8_drawn_6 : decode cX8_drawn 6 = .ok (.iconst 0, 1) := gz_d tdX8_drawn_t0_ok 4 rfl
theorem dX8_drawn_7 : decode cX8_drawn 7 = .ok (.istore_n 3, 1) := gz_d tdX8_drawn_t0_ok 5 rfl
theorem dX8_drawn_8 : decode cX8_drawn 8 = .ok (.iload_n 3, 1) := gz_d tdX8_drawn_t0_ok 6 rfl
theorem dX8_drawn_9 : decode cX8_drawn 9 = .ok (.iconst 4, 1) := gz_d tdX8_drawn_t0_ok 7 rfl
theorem dX8_drawn_10 : decode cX8_drawn 10 = .ok (.if_icmp .ge 16, 3) := gz_d tdX8_drawn_t0_ok 8 rfl
theorem dX8_drawn_13 : decode cX8_drawn 13 = .ok (.aload_n 0, 1) := gz_d tdX8_drawn_t0_ok 9 rfl
theorem dX8_drawn_14 : decode cX8_drawn 14 = .ok (.getfield 61, 3) := gz_d tdX8_drawn_t0_ok 10 rfl
theorem dX8_drawn_17 : decode cX8_drawn 17 = .ok (.iload_n 3, 1) := gz_d tdX8_drawn_t0_ok 11 rfl
theorem dX8_drawn_18 : decode cX8_drawn 18 = .ok (.iconst 0, 1) := gz_d tdX8_drawn_t0_ok 12 rfl
theorem dX8_drawn_19 : decode cX8_drawn 19 = .ok (.iastore, 1) := gz_d tdX8_drawn_t0_ok 13 rfl
theorem dX8_drawn_20 : decode cX8_drawn 20 = .ok (.iinc 3 1, 3) := gz_d tdX8_drawn_t0_ok 14 rfl
theorem dX8_drawn_23 : decode cX8_drawn 23 = .ok (.goto (-15), 3) := gz_d tdX8_drawn_t0_ok 15 rfl
theorem dX8_drawn_26 : decode cX8_drawn 26 = .ok (.iconst 0, 1) := gz_d tdX8_drawn_t0_ok 16 rfl
theorem dX8_drawn_27 : decode cX8_drawn 27 = .ok (.istore_n 3, 1) := gz_d tdX8_drawn_t0_ok 17 rfl
theorem dX8_drawn_28 : decode cX8_drawn 28 = .ok (.iload_n 3, 1) := gz_d tdX8_drawn_t0_ok 18 rfl
theorem dX8_drawn_29 : decode cX8_drawn 29 = .ok (.iload_n 2, 1) := gz_d tdX8_drawn_t0_ok 19 rfl
theorem dX8_drawn_30 : decode cX8_drawn 30 = .ok (.if_icmp .ge 48, 3) := gz_d tdX8_drawn_t0_ok 20 rfl
theorem dX8_drawn_33 : decode cX8_drawn 33 = .ok (.aload_n 0, 1) := gz_d tdX8_drawn_t0_ok 21 rfl
theorem dX8_drawn_34 : decode cX8_drawn 34 = .ok (.aload_n 0, 1) := gz_d tdX8_drawn_t0_ok 22 rfl
theorem dX8_drawn_35 : decode cX8_drawn 35 = .ok (.getfield 176, 3) := gz_d tdX8_drawn_t0_ok 23 rfl
theorem dX8_drawn_38 : decode cX8_drawn 38 = .ok (.ldc 179, 2) := gz_d tdX8_drawn_t0_ok 24 rfl
theorem dX8_drawn_40 : decode cX8_drawn 40 = .ok (.imul, 1) := gz_d tdX8_drawn_t0_ok 25 rfl
theorem dX8_drawn_41 : decode cX8_drawn 41 = .ok (.sipush 12345, 3) := gz_d tdX8_drawn_t0_ok 26 rfl
theorem dX8_drawn_44 : decode cX8_drawn 44 = .ok (.iadd, 1) := gz_d tdX8_drawn_t0_ok 27 rfl
theorem dX8_drawn_45 : decode cX8_drawn 45 = .ok (.ldc 180, 2) := gz_d tdX8_drawn_t0_ok 28 rfl
theorem dX8_drawn_47 : decode cX8_drawn 47 = .ok (.iand, 1) := gz_d tdX8_drawn_t0_ok 29 rfl
theorem dX8_drawn_48 : decode cX8_drawn 48 = .ok (.putfield 176, 3) := gz_d tdX8_drawn_t0_ok 30 rfl
theorem dX8_drawn_51 : decode cX8_drawn 51 = .ok (.aload_n 0, 1) := gz_d tdX8_drawn_t0_ok 31 rfl
theorem dX8_drawn_52 : decode cX8_drawn 52 = .ok (.getfield 61, 3) := gz_d tdX8_drawn_t0_ok 32 rfl
theorem dX8_drawn_55 : decode cX8_drawn 55 = .ok (.aload_n 0, 1) := gz_d tdX8_drawn_t0_ok 33 rfl
theorem dX8_drawn_56 : decode cX8_drawn 56 = .ok (.getfield 176, 3) := gz_d tdX8_drawn_t0_ok 34 rfl
theorem dX8_drawn_59 : decode cX8_drawn 59 = .ok (.ldc 181, 2) := gz_d tdX8_drawn_t0_ok 35 rfl
theorem dX8_drawn_61 : decode cX8_drawn 61 = .ok (.idiv, 1) := gz_d tdX8_drawn_t0_ok 36 rfl
theorem dX8_drawn_62 : decode cX8_drawn 62 = .ok (.aload_n 0, 1) := gz_d tdX8_drawn_t0_ok 37 rfl
theorem dX8_drawn_63 : decode cX8_drawn 63 = .ok (.getfield 16, 3) := gz_d tdX8_drawn_t0_ok 38 rfl
theorem dX8_drawn_66 : decode cX8_drawn 66 = .ok (.irem, 1) := gz_d tdX8_drawn_t0_ok 39 rfl
theorem dX8_drawn_67 : decode cX8_drawn 67 = .ok (.dup2, 1) := gz_d tdX8_drawn_t0_ok 40 rfl
theorem dX8_drawn_68 : decode cX8_drawn 68 = .ok (.iaload, 1) := gz_d tdX8_drawn_t0_ok 41 rfl
theorem dX8_drawn_69 : decode cX8_drawn 69 = .ok (.iconst 1, 1) := gz_d tdX8_drawn_t0_ok 42 rfl
theorem dX8_drawn_70 : decode cX8_drawn 70 = .ok (.iadd, 1) := gz_d tdX8_drawn_t0_ok 43 rfl
theorem dX8_drawn_71 : decode cX8_drawn 71 = .ok (.iastore, 1) := gz_d tdX8_drawn_t0_ok 44 rfl
theorem dX8_drawn_72 : decode cX8_drawn 72 = .ok (.iinc 3 1, 3) := gz_d tdX8_drawn_t0_ok 45 rfl
theorem dX8_drawn_75 : decode cX8_drawn 75 = .ok (.goto (-47), 3) := gz_d tdX8_drawn_t0_ok 46 rfl
theorem dX8_drawn_78 : decode cX8_drawn 78 = .ok (.iconst (-1), 1) := gz_d tdX8_drawn_t0_ok 47 rfl
theorem dX8_drawn_79 : decode cX8_drawn 79 = .ok (.istore_n 3, 1) := gz_d tdX8_drawn_t0_ok 48 rfl
theorem dX8_drawn_80 : decode cX8_drawn 80 = .ok (.iconst 0, 1) := gz_d tdX8_drawn_t0_ok 49 rfl
theorem dX8_drawn_81 : decode cX8_drawn 81 = .ok (.istore 4, 2) := gz_d tdX8_drawn_t0_ok 50 rfl
theorem dX8_drawn_83 : decode cX8_drawn 83 = .ok (.iload 4, 2) := gz_d tdX8_drawn_t0_ok 51 rfl
theorem dX8_drawn_85 : decode cX8_drawn 85 = .ok (.aload_n 0, 1) := gz_d tdX8_drawn_t0_ok 52 rfl
theorem dX8_drawn_86 : decode cX8_drawn 86 = .ok (.getfield 23, 3) := gz_d tdX8_drawn_t0_ok 53 rfl
theorem dX8_drawn_89 : decode cX8_drawn 89 = .ok (.iload_n 1, 1) := gz_d tdX8_drawn_t0_ok 54 rfl
theorem dX8_drawn_90 : decode cX8_drawn 90 = .ok (.iaload, 1) := gz_d tdX8_drawn_t0_ok 55 rfl
theorem dX8_drawn_91 : decode cX8_drawn 91 = .ok (.if_icmp .ge 78, 3) := gz_d tdX8_drawn_t0_ok 56 rfl
theorem dX8_drawn_94 : decode cX8_drawn 94 = .ok (.iconst 1, 1) := gz_d tdX8_drawn_t0_ok 57 rfl
theorem dX8_drawn_95 : decode cX8_drawn 95 = .ok (.istore 5, 2) := gz_d tdX8_drawn_t0_ok 58 rfl
theorem dX8_drawn_97 : decode cX8_drawn 97 = .ok (.iconst 0, 1) := gz_d tdX8_drawn_t0_ok 59 rfl
def tdX8_drawn_t1 : List (Nat × Instr × Nat) := [(98, .istore 6, 2), (100, .iload 6, 2), (102, .iconst 4, 1), (103, .if_icmp .ge 48, 3), (106, .iload 5, 2), (108, .ifCond .eq 34, 3), (111, .aload_n 0, 1), (112, .getfield 19, 3), (115, .bipush 16, 2), (117, .iload_n 1, 1), (118, .imul, 1), (119, .iconst 4, 1), (120, .iload 4, 2), (122, .imul, 1), (123, .iadd, 1), (124, .iload 6, 2), (126, .iadd, 1), (127, .iaload, 1), (128, .aload_n 0, 1), (129, .getfield 61, 3), (132, .iload 6, 2), (134, .iaload, 1), (135, .if_icmp .ne 7, 3), (138, .iconst 1, 1), (139, .goto 4, 3), (142, .iconst 0, 1), (143, .istore 5, 2), (145, .iinc 6 1, 3), (148, .goto (-48), 3), (151, .iload 5, 2), (153, .ifCond .eq 8, 3), (156, .iload 4, 2), (158, .goto 4, 3), (161, .iload_n 3, 1), (162, .istore_n 3, 1), (163, .iinc 4 1, 3), (166, .goto (-83), 3), (169, .iload_n 3, 1), (170, .ireturn, 1)]
theorem tdX8_drawn_t1_ok : gz_dec cX8_drawn tdX8_drawn_t1 = true := by decide +kernel
theorem dX8_drawn_98 : decode cX8_drawn 98 = .ok (.istore 6, 2) := gz_d tdX8_drawn_t1_ok 0 rfl
theorem dX8_drawn_100 : decode cX8_drawn 100 = .ok (.iload 6, 2) := gz_d tdX8_drawn_t1_ok 1 rfl
theorem dX8_drawn_102 : decode cX8_drawn 102 = .ok (.iconst 4, 1) := gz_d tdX8_drawn_t1_ok 2 rfl
theorem dX8_drawn_103 : decode cX8_drawn 103 = .ok (.if_icmp .ge 48, 3) := gz_d tdX8_drawn_t1_ok 3 rfl
theorem dX8_drawn_106 : decode cX8_drawn 106 = .ok (.iload 5, 2) := gz_d tdX8_drawn_t1_ok 4 rfl
theorem dX8_drawn_108 : decode cX8_drawn 108 = .ok (.ifCond .eq 34, 3) := gz_d tdX8_drawn_t1_ok 5 rfl
theorem dX8_drawn_111 : decode cX8_drawn 111 = .ok (.aload_n 0, 1) := gz_d tdX8_drawn_t1_ok 6 rfl
theorem dX8_drawn_112 : decode cX8_drawn 112 = .ok (.getfield 19, 3) := gz_d tdX8_drawn_t1_ok 7 rfl
theorem dX8_drawn_115 : decode cX8_drawn 115 = .ok (.bipush 16, 2) := gz_d tdX8_drawn_t1_ok 8 rfl
theorem dX8_drawn_117 : decode cX8_drawn 117 = .ok (.iload_n 1, 1) := gz_d tdX8_drawn_t1_ok 9 rfl
theorem dX8_drawn_118 : decode cX8_drawn 118 = .ok (.imul, 1) := gz_d tdX8_drawn_t1_ok 10 rfl
theorem dX8_drawn_119 : decode cX8_drawn 119 = .ok (.iconst 4, 1) := gz_d tdX8_drawn_t1_ok 11 rfl
theorem dX8_drawn_120 : decode cX8_drawn 120 = .ok (.iload 4, 2) := gz_d tdX8_drawn_t1_ok 12 rfl
theorem dX8_drawn_122 : decode cX8_drawn 122 = .ok (.imul, 1) := gz_d tdX8_drawn_t1_ok 13 rfl
theorem dX8_drawn_123 : decode cX8_drawn 123 = .ok (.iadd, 1) := gz_d tdX8_drawn_t1_ok 14 rfl
theorem dX8_drawn_124 : decode cX8_drawn 124 = .ok (.iload 6, 2) := gz_d tdX8_drawn_t1_ok 15 rfl
theorem dX8_drawn_126 : decode cX8_drawn 126 = .ok (.iadd, 1) := gz_d tdX8_drawn_t1_ok 16 rfl
theorem dX8_drawn_127 : decode cX8_drawn 127 = .ok (.iaload, 1) := gz_d tdX8_drawn_t1_ok 17 rfl
theorem dX8_drawn_128 : decode cX8_drawn 128 = .ok (.aload_n 0, 1) := gz_d tdX8_drawn_t1_ok 18 rfl
theorem dX8_drawn_129 : decode cX8_drawn 129 = .ok (.getfield 61, 3) := gz_d tdX8_drawn_t1_ok 19 rfl
theorem dX8_drawn_132 : decode cX8_drawn 132 = .ok (.iload 6, 2) := gz_d tdX8_drawn_t1_ok 20 rfl
theorem dX8_drawn_134 : decode cX8_drawn 134 = .ok (.iaload, 1) := gz_d tdX8_drawn_t1_ok 21 rfl
theorem dX8_drawn_135 : decode cX8_drawn 135 = .ok (.if_icmp .ne 7, 3) := gz_d tdX8_drawn_t1_ok 22 rfl
theorem dX8_drawn_138 : decode cX8_drawn 138 = .ok (.iconst 1, 1) := gz_d tdX8_drawn_t1_ok 23 rfl
theorem dX8_drawn_139 : decode cX8_drawn 139 = .ok (.goto 4, 3) := gz_d tdX8_drawn_t1_ok 24 rfl
theorem dX8_drawn_142 : decode cX8_drawn 142 = .ok (.iconst 0, 1) := gz_d tdX8_drawn_t1_ok 25 rfl
theorem dX8_drawn_143 : decode cX8_drawn 143 = .ok (.istore 5, 2) := gz_d tdX8_drawn_t1_ok 26 rfl
theorem dX8_drawn_145 : decode cX8_drawn 145 = .ok (.iinc 6 1, 3) := gz_d tdX8_drawn_t1_ok 27 rfl
theorem dX8_drawn_148 : decode cX8_drawn 148 = .ok (.goto (-48), 3) := gz_d tdX8_drawn_t1_ok 28 rfl
theorem dX8_drawn_151 : decode cX8_drawn 151 = .ok (.iload 5, 2) := gz_d tdX8_drawn_t1_ok 29 rfl
theorem dX8_drawn_153 : decode cX8_drawn 153 = .ok (.ifCond .eq 8, 3) := gz_d tdX8_drawn_t1_ok 30 rfl
theorem dX8_drawn_156 : decode cX8_drawn 156 = .ok (.iload 4, 2) := gz_d tdX8_drawn_t1_ok 31 rfl
theorem dX8_drawn_158 : decode cX8_drawn 158 = .ok (.goto 4, 3) := gz_d tdX8_drawn_t1_ok 32 rfl
theorem dX8_drawn_161 : decode cX8_drawn 161 = .ok (.iload_n 3, 1) := gz_d tdX8_drawn_t1_ok 33 rfl
theorem dX8_drawn_162 : decode cX8_drawn 162 = .ok (.istore_n 3, 1) := gz_d tdX8_drawn_t1_ok 34 rfl
theorem dX8_drawn_163 : decode cX8_drawn 163 = .ok (.iinc 4 1, 3) := gz_d tdX8_drawn_t1_ok 35 rfl
theorem dX8_drawn_166 : decode cX8_drawn 166 = .ok (.goto (-83), 3) := gz_d tdX8_drawn_t1_ok 36 rfl
theorem dX8_drawn_169 : decode cX8_drawn 169 = .ok (.iload_n 3, 1) := gz_d tdX8_drawn_t1_ok 37 rfl
theorem dX8_drawn_170 : decode cX8_drawn 170 = .ok (.ireturn, 1) := gz_d tdX8_drawn_t1_ok 38 rfl
def tdX8_round_t0 : List (Nat × Instr × Nat) := [(0, .iload_n 1, 1), (1, .ifCond .ge 6, 3), (4, .bipush (-2), 2), (6, .ireturn, 1), (7, .aload_n 0, 1), (8, .iload_n 1, 1), (9, .putfield 176, 3), (12, .aload_n 0, 1), (13, .getfield 32, 3), (16, .iconst 0, 1), (17, .aload_n 0, 1), (18, .iconst 0, 1), (19, .invokevirtual 182, 3), (22, .iastore, 1), (23, .aload_n 0, 1), (24, .getfield 32, 3), (27, .iconst 1, 1), (28, .aload_n 0, 1), (29, .iconst 1, 1), (30, .invokevirtual 182, 3), (33, .iastore, 1), (34, .aload_n 0, 1), (35, .iconst 1, 1), (36, .putfield 78, 3), (39, .aload_n 0, 1), (40, .iconst 0, 1), (41, .putfield 185, 3), (44, .aload_n 0, 1), (45, .iconst (-1), 1), (46, .putfield 188, 3), (49, .aload_n 0, 1), (50, .iconst 0, 1), (51, .putfield 191, 3), (54, .aload_n 0, 1), (55, .iconst (-1), 1), (56, .putfield 194, 3), (59, .aload_n 0, 1), (60, .getfield 32, 3), (63, .iconst 0, 1), (64, .iaload, 1), (65, .ireturn, 1)]
theorem tdX8_round_t0_ok : gz_dec cX8_round tdX8_round_t0 = true := by decide +kernel
theorem dX8_round_0 : decode cX8_round 0 = .ok (.iload_n 1, 1) := gz_d tdX8_round_t0_ok 0 rfl
theorem dX8_round_1 : decode cX8_round 1 = .ok (.ifCond .ge 6, 3) := gz_d tdX8_round_t0_ok 1 rfl
theorem dX8_round_4 : decode cX8_round 4 = .ok (.bipush (-2), 2) := gz_d tdX8_round_t0_ok 2 rfl
theorem dX8_round_6 : decode cX8_round 6 = .ok (.ireturn, 1) := gz_d tdX8_round_t0_ok 3 rfl
theorem dX8_round_7 : decode cX8_round 7 = .ok (.aload_n 0, 1) := gz_d tdX8_round_t0_ok 4 rfl
theorem dX8_round_8 : decode cX8_round 8 = .ok (.iload_n 1, 1) := gz_d tdX8_round_t0_ok 5 rfl
theorem dX8_round_9 : decode cX8_round 9 = .ok (.putfield 176, 3) := gz_d tdX8_round_t0_ok 6 rfl
theorem dX8_round_12 : decode cX8_round 12 = .ok (.aload_n 0, 1) := gz_d tdX8_round_t0_ok 7 rfl
theorem dX8_round_13 : decode cX8_round 13 = .ok (.getfield 32, 3) := gz_d tdX8_round_t0_ok 8 rfl
theorem dX8_round_16 : decode cX8_round 16 = .ok (.iconst 0, 1) := gz_d tdX8_round_t0_ok 9 rfl
theorem dX8_round_17 : decode cX8_round 17 = .ok (.aload_n 0, 1) := gz_d tdX8_round_t0_ok 10 rfl
theorem dX8_round_18 : decode cX8_round 18 = .ok (.iconst 0, 1) := gz_d tdX8_round_t0_ok 11 rfl
theorem dX8_round_19 : decode cX8_round 19 = .ok (.invokevirtual 182, 3) := gz_d tdX8_round_t0_ok 12 rfl
theorem dX8_round_22 : decode cX8_round 22 = .ok (.iastore, 1) := gz_d tdX8_round_t0_ok 13 rfl
theorem dX8_round_23 : decode cX8_round 23 = .ok (.aload_n 0, 1) := gz_d tdX8_round_t0_ok 14 rfl
theorem dX8_round_24 : decode cX8_round 24 = .ok (.getfield 32, 3) := gz_d tdX8_round_t0_ok 15 rfl
theorem dX8_round_27 : decode cX8_round 27 = .ok (.iconst 1, 1) := gz_d tdX8_round_t0_ok 16 rfl
theorem dX8_round_28 : decode cX8_round 28 = .ok (.aload_n 0, 1) := gz_d tdX8_round_t0_ok 17 rfl
theorem dX8_round_29 : decode cX8_round 29 = .ok (.iconst 1, 1) := gz_d tdX8_round_t0_ok 18 rfl
theorem dX8_round_30 : decode cX8_round 30 = .ok (.invokevirtual 182, 3) := gz_d tdX8_round_t0_ok 19 rfl
theorem dX8_round_33 : decode cX8_round 33 = .ok (.iastore, 1) := gz_d tdX8_round_t0_ok 20 rfl
theorem dX8_round_34 : decode cX8_round 34 = .ok (.aload_n 0, 1) := gz_d tdX8_round_t0_ok 21 rfl
theorem dX8_round_35 : decode cX8_round 35 = .ok (.iconst 1, 1) := gz_d tdX8_round_t0_ok 22 rfl
theorem dX8_round_36 : decode cX8_round 36 = .ok (.putfield 78, 3) := gz_d tdX8_round_t0_ok 23 rfl
theorem dX8_round_39 : decode cX8_round 39 = .ok (.aload_n 0, 1) := gz_d tdX8_round_t0_ok 24 rfl
theorem dX8_round_40 : decode cX8_round 40 = .ok (.iconst 0, 1) := gz_d tdX8_round_t0_ok 25 rfl
theorem dX8_round_41 : decode cX8_round 41 = .ok (.putfield 185, 3) := gz_d tdX8_round_t0_ok 26 rfl
theorem dX8_round_44 : decode cX8_round 44 = .ok (.aload_n 0, 1) := gz_d tdX8_round_t0_ok 27 rfl
theorem dX8_round_45 : decode cX8_round 45 = .ok (.iconst (-1), 1) := gz_d tdX8_round_t0_ok 28 rfl
theorem dX8_round_46 : decode cX8_round 46 = .ok (.putfield 188, 3) := gz_d tdX8_round_t0_ok 29 rfl
theorem dX8_round_49 : decode cX8_round 49 = .ok (.aload_n 0, 1) := gz_d tdX8_round_t0_ok 30 rfl
theorem dX8_round_50 : decode cX8_round 50 = .ok (.iconst 0, 1) := gz_d tdX8_round_t0_ok 31 rfl
theorem dX8_round_51 : decode cX8_round 51 = .ok (.putfield 191, 3) := gz_d tdX8_round_t0_ok 32 rfl
theorem dX8_round_54 : decode cX8_round 54 = .ok (.aload_n 0, 1) := gz_d tdX8_round_t0_ok 33 rfl
theorem dX8_round_55 : decode cX8_round 55 = .ok (.iconst (-1), 1) := gz_d tdX8_round_t0_ok 34 rfl
theorem dX8_round_56 : decode cX8_round 56 = .ok (.putfield 194, 3) := gz_d tdX8_round_t0_ok 35 rfl
theorem dX8_round_59 : decode cX8_round 59 = .ok (.aload_n 0, 1) := gz_d tdX8_round_t0_ok 36 rfl
theorem dX8_round_60 : decode cX8_round 60 = .ok (.getfield 32, 3) := gz_d tdX8_round_t0_ok 37 rfl
theorem dX8_round_63 : decode cX8_round 63 = .ok (.iconst 0, 1) := gz_d tdX8_round_t0_ok 38 rfl
theorem dX8_round_64 : decode cX8_round 64 = .ok (.iaload, 1) := gz_d tdX8_round_t0_ok 39 rfl
theorem dX8_round_65 : decode cX8_round 65 = .ok (.ireturn, 1) := gz_d tdX8_round_t0_ok 40 rfl
def tdX8_held_t0 : List (Nat × Instr × Nat) := [(0, .iload_n 1, 1), (1, .invokestatic 93, 3), (4, .ifCond .ne 8, 3), (7, .bipush (-2), 2), (9, .goto 21, 3), (12, .aload_n 0, 1), (13, .getfield 78, 3), (16, .ifCond .eq 12, 3), (19, .aload_n 0, 1), (20, .getfield 32, 3), (23, .iload_n 1, 1), (24, .iaload, 1), (25, .goto 5, 3), (28, .bipush (-3), 2), (30, .ireturn, 1)]
theorem tdX8_held_t0_ok : gz_dec cX8_held tdX8_held_t0 = true := by decide +kernel
theorem dX8_held_0 : decode cX8_held 0 = .ok (.iload_n 1, 1) := gz_d tdX8_held_t0_ok 0 rfl
theorem dX8_held_1 : decode cX8_held 1 = .ok (.invokestatic 93, 3) := gz_d tdX8_held_t0_ok 1 rfl
theorem dX8_held_4 : decode cX8_held 4 = .ok (.ifCond .ne 8, 3) := gz_d tdX8_held_t0_ok 2 rfl
theorem dX8_held_7 : decode cX8_held 7 = .ok (.bipush (-2), 2) := gz_d tdX8_held_t0_ok 3 rfl
theorem dX8_held_9 : decode cX8_held 9 = .ok (.goto 21, 3) := gz_d tdX8_held_t0_ok 4 rfl
theorem dX8_held_12 : decode cX8_held 12 = .ok (.aload_n 0, 1) := gz_d tdX8_held_t0_ok 5 rfl
theorem dX8_held_13 : decode cX8_held 13 = .ok (.getfield 78, 3) := gz_d tdX8_held_t0_ok 6 rfl
theorem dX8_held_16 : decode cX8_held 16 = .ok (.ifCond .eq 12, 3) := gz_d tdX8_held_t0_ok 7 rfl
theorem dX8_held_19 : decode cX8_held 19 = .ok (.aload_n 0, 1) := gz_d tdX8_held_t0_ok 8 rfl
theorem dX8_held_20 : decode cX8_held 20 = .ok (.getfield 32, 3) := gz_d tdX8_held_t0_ok 9 rfl
theorem dX8_held_23 : decode cX8_held 23 = .ok (.iload_n 1, 1) := gz_d tdX8_held_t0_ok 10 rfl
theorem dX8_held_24 : decode cX8_held 24 = .ok (.iaload, 1) := gz_d tdX8_held_t0_ok 11 rfl
theorem dX8_held_25 : decode cX8_held 25 = .ok (.goto 5, 3) := gz_d tdX8_held_t0_ok 12 rfl
theorem dX8_held_28 : decode cX8_held 28 = .ok (.bipush (-3), 2) := gz_d tdX8_held_t0_ok 13 rfl
theorem dX8_held_30 : decode cX8_held 30 = .ok (.ireturn, 1) := gz_d tdX8_held_t0_ok 14 rfl
def tdX8_move_t0 : List (Nat × Instr × Nat) := [(0, .iload_n 1, 1), (1, .iconst (-1), 1), (2, .if_icmp .eq 14, 3), (5, .aload_n 0, 1), (6, .iload_n 1, 1), (7, .invokevirtual 105, 3), (10, .ifCond .ne 6, 3), (13, .bipush (-2), 2), (15, .ireturn, 1), (16, .aload_n 0, 1), (17, .getfield 78, 3), (20, .ifCond .eq 23, 3), (23, .aload_n 0, 1), (24, .getfield 185, 3), (27, .iconst (-1), 1), (28, .if_icmp .eq 15, 3), (31, .aload_n 0, 1), (32, .aload_n 0, 1), (33, .getfield 188, 3), (36, .iload_n 1, 1), (37, .invokevirtual 120, 3), (40, .ifCond .ne 6, 3), (43, .bipush (-3), 2), (45, .ireturn, 1), (46, .iload_n 1, 1), (47, .iconst (-1), 1), (48, .if_icmp .eq 30, 3), (51, .aload_n 0, 1), (52, .iload_n 1, 1), (53, .putfield 188, 3), (56, .aload_n 0, 1), (57, .dup, 1), (58, .getfield 191, 3), (61, .iconst 1, 1), (62, .iadd, 1), (63, .putfield 191, 3), (66, .aload_n 0, 1), (67, .iconst 1, 1), (68, .aload_n 0, 1), (69, .getfield 185, 3), (72, .isub, 1), (73, .putfield 185, 3), (76, .iconst 0, 1), (77, .ireturn, 1), (78, .aload_n 0, 1), (79, .aload_n 0, 1), (80, .iconst 0, 1), (81, .aload_n 0, 1), (82, .getfield 185, 3), (85, .aload_n 0, 1), (86, .getfield 32, 3), (89, .iconst 0, 1), (90, .iaload, 1), (91, .aload_n 0, 1), (92, .getfield 32, 3), (95, .iconst 1, 1), (96, .iaload, 1), (97, .aload_n 0, 1), (98, .getfield 188, 3), (101, .invokevirtual 135, 3)]
theorem tdX8_move_t0_ok : gz_dec cX8_move tdX8_move_t0 = true := by decide +kernel
theorem dX8_move_0 : decode cX8_move 0 = .ok (.iload_n 1, 1) := gz_d tdX8_move_t0_ok 0 rfl
theorem dX8_move_1 : decode cX8_move 1 = .ok (.iconst (-1), 1) := gz_d tdX8_move_t0_ok 1 rfl
theorem dX8_move_2 : decode cX8_move 2 = .ok (.if_icmp .eq 14, 3) := gz_d tdX8_move_t0_ok 2 rfl
theorem dX8_move_5 : decode cX8_move 5 = .ok (.aload_n 0, 1) := gz_d tdX8_move_t0_ok 3 rfl
theorem dX8_move_6 : decode cX8_move 6 = .ok (.iload_n 1, 1) := gz_d tdX8_move_t0_ok 4 rfl
theorem dX8_move_7 : decode cX8_move 7 = .ok (.invokevirtual 105, 3) := gz_d tdX8_move_t0_ok 5 rfl
theorem dX8_move_10 : decode cX8_move 10 = .ok (.ifCond .ne 6, 3) := gz_d tdX8_move_t0_ok 6 rfl
theorem dX8_move_13 : decode cX8_move 13 = .ok (.bipush (-2), 2) := gz_d tdX8_move_t0_ok 7 rfl
theorem dX8_move_15 : decode cX8_move 15 = .ok (.ireturn, 1) := gz_d tdX8_move_t0_ok 8 rfl
theorem dX8_move_16 : decode cX8_move 16 = .ok (.aload_n 0, 1) := gz_d tdX8_move_t0_ok 9 rfl
theorem dX8_move_17 : decode cX8_move 17 = .ok (.getfield 78, 3) := gz_d tdX8_move_t0_ok 10 rfl
theorem dX8_move_20 : decode cX8_move 20 = .ok (.ifCond .eq 23, 3) := gz_d tdX8_move_t0_ok 11 rfl
theorem dX8_move_23 : decode cX8_move 23 = .ok (.aload_n 0, 1) := gz_d tdX8_move_t0_ok 12 rfl
theorem dX8_move_24 : decode cX8_move 24 = .ok (.getfield 185, 3) := gz_d tdX8_move_t0_ok 13 rfl
theorem dX8_move_27 : decode cX8_move 27 = .ok (.iconst (-1), 1) := gz_d tdX8_move_t0_ok 14 rfl
theorem dX8_move_28 : decode cX8_move 28 = .ok (.if_icmp .eq 15, 3) := gz_d tdX8_move_t0_ok 15 rfl
theorem dX8_move_31 : decode cX8_move 31 = .ok (.aload_n 0, 1) := gz_d tdX8_move_t0_ok 16 rfl
theorem dX8_move_32 : decode cX8_move 32 = .ok (.aload_n 0, 1) := gz_d tdX8_move_t0_ok 17 rfl
theorem dX8_move_33 : decode cX8_move 33 = .ok (.getfield 188, 3) := gz_d tdX8_move_t0_ok 18 rfl
theorem dX8_move_36 : decode cX8_move 36 = .ok (.iload_n 1, 1) := gz_d tdX8_move_t0_ok 19 rfl
theorem dX8_move_37 : decode cX8_move 37 = .ok (.invokevirtual 120, 3) := gz_d tdX8_move_t0_ok 20 rfl
theorem dX8_move_40 : decode cX8_move 40 = .ok (.ifCond .ne 6, 3) := gz_d tdX8_move_t0_ok 21 rfl
theorem dX8_move_43 : decode cX8_move 43 = .ok (.bipush (-3), 2) := gz_d tdX8_move_t0_ok 22 rfl
theorem dX8_move_45 : decode cX8_move 45 = .ok (.ireturn, 1) := gz_d tdX8_move_t0_ok 23 rfl
theorem dX8_move_46 : decode cX8_move 46 = .ok (.iload_n 1, 1) := gz_d tdX8_move_t0_ok 24 rfl
theorem dX8_move_47 : decode cX8_move 47 = .ok (.iconst (-1), 1) := gz_d tdX8_move_t0_ok 25 rfl
theorem dX8_move_48 : decode cX8_move 48 = .ok (.if_icmp .eq 30, 3) := gz_d tdX8_move_t0_ok 26 rfl
theorem dX8_move_51 : decode cX8_move 51 = .ok (.aload_n 0, 1) := gz_d tdX8_move_t0_ok 27 rfl
theorem dX8_move_52 : decode cX8_move 52 = .ok (.iload_n 1, 1) := gz_d tdX8_move_t0_ok 28 rfl
theorem dX8_move_53 : decode cX8_move 53 = .ok (.putfield 188, 3) := gz_d tdX8_move_t0_ok 29 rfl
theorem dX8_move_56 : decode cX8_move 56 = .ok (.aload_n 0, 1) := gz_d tdX8_move_t0_ok 30 rfl
theorem dX8_move_57 : decode cX8_move 57 = .ok (.dup, 1) := gz_d tdX8_move_t0_ok 31 rfl
theorem dX8_move_58 : decode cX8_move 58 = .ok (.getfield 191, 3) := gz_d tdX8_move_t0_ok 32 rfl
theorem dX8_move_61 : decode cX8_move 61 = .ok (.iconst 1, 1) := gz_d tdX8_move_t0_ok 33 rfl
theorem dX8_move_62 : decode cX8_move 62 = .ok (.iadd, 1) := gz_d tdX8_move_t0_ok 34 rfl
theorem dX8_move_63 : decode cX8_move 63 = .ok (.putfield 191, 3) := gz_d tdX8_move_t0_ok 35 rfl
theorem dX8_move_66 : decode cX8_move 66 = .ok (.aload_n 0, 1) := gz_d tdX8_move_t0_ok 36 rfl
theorem dX8_move_67 : decode cX8_move 67 = .ok (.iconst 1, 1) := gz_d tdX8_move_t0_ok 37 rfl
theorem dX8_move_68 : decode cX8_move 68 = .ok (.aload_n 0, 1) := gz_d tdX8_move_t0_ok 38 rfl
theorem dX8_move_69 : decode cX8_move 69 = .ok (.getfield 185, 3) := gz_d tdX8_move_t0_ok 39 rfl
theorem dX8_move_72 : decode cX8_move 72 = .ok (.isub, 1) := gz_d tdX8_move_t0_ok 40 rfl
theorem dX8_move_73 : decode cX8_move 73 = .ok (.putfield 185, 3) := gz_d tdX8_move_t0_ok 41 rfl
theorem dX8_move_76 : decode cX8_move 76 = .ok (.iconst 0, 1) := gz_d tdX8_move_t0_ok 42 rfl
theorem dX8_move_77 : decode cX8_move 77 = .ok (.ireturn, 1) := gz_d tdX8_move_t0_ok 43 rfl
theorem dX8_move_78 : decode cX8_move 78 = .ok (.aload_n 0, 1) := gz_d tdX8_move_t0_ok 44 rfl
theorem dX8_move_79 : decode cX8_move 79 = .ok (.aload_n 0, 1) := gz_d tdX8_move_t0_ok 45 rfl
theorem dX8_move_80 : decode cX8_move 80 = .ok (.iconst 0, 1) := gz_d tdX8_move_t0_ok 46 rfl
theorem dX8_move_81 : decode cX8_move 81 = .ok (.aload_n 0, 1) := gz_d tdX8_move_t0_ok 47 rfl
theorem dX8_move_82 : decode cX8_move 82 = .ok (.getfield 185, 3) := gz_d tdX8_move_t0_ok 48 rfl
theorem dX8_move_85 : decode cX8_move 85 = .ok (.aload_n 0, 1) := gz_d tdX8_move_t0_ok 49 rfl
theorem dX8_move_86 : decode cX8_move 86 = .ok (.getfield 32, 3) := gz_d tdX8_move_t0_ok 50 rfl
theorem dX8_move_89 : decode cX8_move 89 = .ok (.iconst 0, 1) := gz_d tdX8_move_t0_ok 51 rfl
theorem dX8_move_90 : decode cX8_move 90 = .ok (.iaload, 1) := gz_d tdX8_move_t0_ok 52 rfl
theorem dX8_move_91 : decode cX8_move 91 = .ok (.aload_n 0, 1) := gz_d tdX8_move_t0_ok 53 rfl
theorem dX8_move_92 : decode cX8_move 92 = .ok (.getfield 32, 3) := gz_d tdX8_move_t0_ok 54 rfl
theorem dX8_move_95 : decode cX8_move 95 = .ok (.iconst 1, 1) := gz_d tdX8_move_t0_ok 55 rfl
theorem dX8_move_96 : decode cX8_move 96 = .ok (.iaload, 1) := gz_d tdX8_move_t0_ok 56 rfl
theorem dX8_move_97 : decode cX8_move 97 = .ok (.aload_n 0, 1) := gz_d tdX8_move_t0_ok 57 rfl
theorem dX8_move_98 : decode cX8_move 98 = .ok (.getfield 188, 3) := gz_d tdX8_move_t0_ok 58 rfl
theorem dX8_move_101 : decode cX8_move 101 = .ok (.invokevirtual 135, 3) := gz_d tdX8_move_t0_ok 59 rfl
def tdX8_move_t1 : List (Nat × Instr × Nat) := [(104, .ifCond .eq 7, 3), (107, .iconst 0, 1), (108, .goto 4, 3), (111, .iconst 1, 1), (112, .putfield 194, 3), (115, .aload_n 0, 1), (116, .dup, 1), (117, .getfield 197, 3), (120, .aload_n 0, 1), (121, .getfield 194, 3), (124, .ifCond .ne 7, 3), (127, .iconst 1, 1), (128, .goto 4, 3), (131, .iconst 0, 1), (132, .iadd, 1), (133, .putfield 197, 3), (136, .aload_n 0, 1), (137, .dup, 1), (138, .getfield 200, 3), (141, .aload_n 0, 1), (142, .getfield 194, 3), (145, .iadd, 1), (146, .putfield 200, 3), (149, .aload_n 0, 1), (150, .iconst (-1), 1), (151, .putfield 185, 3), (154, .aload_n 0, 1), (155, .getfield 194, 3), (158, .iconst 1, 1), (159, .iadd, 1), (160, .ireturn, 1)]
theorem tdX8_move_t1_ok : gz_dec cX8_move tdX8_move_t1 = true := by decide +kernel
theorem dX8_move_104 : decode cX8_move 104 = .ok (.ifCond .eq 7, 3) := gz_d tdX8_move_t1_ok 0 rfl
theorem dX8_move_107 : decode cX8_move 107 = .ok (.iconst 0, 1) := gz_d tdX8_move_t1_ok 1 rfl
theorem dX8_move_108 : decode cX8_move 108 = .ok (.goto 4, 3) := gz_d tdX8_move_t1_ok 2 rfl
theorem dX8_move_111 : decode cX8_move 111 = .ok (.iconst 1, 1) := gz_d tdX8_move_t1_ok 3 rfl
theorem dX8_move_112 : decode cX8_move 112 = .ok (.putfield 194, 3) := gz_d tdX8_move_t1_ok 4 rfl
theorem dX8_move_115 : decode cX8_move 115 = .ok (.aload_n 0, 1) := gz_d tdX8_move_t1_ok 5 rfl
theorem dX8_move_116 : decode cX8_move 116 = .ok (.dup, 1) := gz_d tdX8_move_t1_ok 6 rfl
theorem dX8_move_117 : decode cX8_move 117 = .ok (.getfield 197, 3) := gz_d tdX8_move_t1_ok 7 rfl
theorem dX8_move_120 : decode cX8_move 120 = .ok (.aload_n 0, 1) := gz_d tdX8_move_t1_ok 8 rfl
theorem dX8_move_121 : decode cX8_move 121 = .ok (.getfield 194, 3) := gz_d tdX8_move_t1_ok 9 rfl
theorem dX8_move_124 : decode cX8_move 124 = .ok (.ifCond .ne 7, 3) := gz_d tdX8_move_t1_ok 10 rfl
theorem dX8_move_127 : decode cX8_move 127 = .ok (.iconst 1, 1) := gz_d tdX8_move_t1_ok 11 rfl
theorem dX8_move_128 : decode cX8_move 128 = .ok (.goto 4, 3) := gz_d tdX8_move_t1_ok 12 rfl
theorem dX8_move_131 : decode cX8_move 131 = .ok (.iconst 0, 1) := gz_d tdX8_move_t1_ok 13 rfl
theorem dX8_move_132 : decode cX8_move 132 = .ok (.iadd, 1) := gz_d tdX8_move_t1_ok 14 rfl
theorem dX8_move_133 : decode cX8_move 133 = .ok (.putfield 197, 3) := gz_d tdX8_move_t1_ok 15 rfl
theorem dX8_move_136 : decode cX8_move 136 = .ok (.aload_n 0, 1) := gz_d tdX8_move_t1_ok 16 rfl
theorem dX8_move_137 : decode cX8_move 137 = .ok (.dup, 1) := gz_d tdX8_move_t1_ok 17 rfl
theorem dX8_move_138 : decode cX8_move 138 = .ok (.getfield 200, 3) := gz_d tdX8_move_t1_ok 18 rfl
theorem dX8_move_141 : decode cX8_move 141 = .ok (.aload_n 0, 1) := gz_d tdX8_move_t1_ok 19 rfl
theorem dX8_move_142 : decode cX8_move 142 = .ok (.getfield 194, 3) := gz_d tdX8_move_t1_ok 20 rfl
theorem dX8_move_145 : decode cX8_move 145 = .ok (.iadd, 1) := gz_d tdX8_move_t1_ok 21 rfl
theorem dX8_move_146 : decode cX8_move 146 = .ok (.putfield 200, 3) := gz_d tdX8_move_t1_ok 22 rfl
theorem dX8_move_149 : decode cX8_move 149 = .ok (.aload_n 0, 1) := gz_d tdX8_move_t1_ok 23 rfl
theorem dX8_move_150 : decode cX8_move 150 = .ok (.iconst (-1), 1) := gz_d tdX8_move_t1_ok 24 rfl
theorem dX8_move_151 : decode cX8_move 151 = .ok (.putfield 185, 3) := gz_d tdX8_move_t1_ok 25 rfl
theorem dX8_move_154 : decode cX8_move 154 = .ok (.aload_n 0, 1) := gz_d tdX8_move_t1_ok 26 rfl
theorem dX8_move_155 : decode cX8_move 155 = .ok (.getfield 194, 3) := gz_d tdX8_move_t1_ok 27 rfl
theorem dX8_move_158 : decode cX8_move 158 = .ok (.iconst 1, 1) := gz_d tdX8_move_t1_ok 28 rfl
theorem dX8_move_159 : decode cX8_move 159 = .ok (.iadd, 1) := gz_d tdX8_move_t1_ok 29 rfl
theorem dX8_move_160 : decode cX8_move 160 = .ok (.ireturn, 1) := gz_d tdX8_move_t1_ok 30 rfl
def tdX8_about_t0 : List (Nat × Instr × Nat) := [(0, .iload_n 1, 1), (1, .iconst 0, 1), (2, .iconst 3, 1), (3, .invokestatic 82, 3), (6, .ifCond .ne 6, 3), (9, .bipush (-2), 2), (11, .ireturn, 1), (12, .aload_n 0, 1), (13, .getfield 78, 3), (16, .ifCond .ne 8, 3), (19, .bipush (-3), 2), (21, .goto 42, 3), (24, .iload_n 1, 1), (25, .ifCond .ne 10, 3), (28, .aload_n 0, 1), (29, .getfield 185, 3), (32, .goto 31, 3), (35, .iload_n 1, 1), (36, .iconst 1, 1), (37, .if_icmp .ne 10, 3), (40, .aload_n 0, 1), (41, .getfield 188, 3), (44, .goto 19, 3), (47, .iload_n 1, 1), (48, .iconst 2, 1), (49, .if_icmp .ne 10, 3), (52, .aload_n 0, 1), (53, .getfield 191, 3), (56, .goto 7, 3), (59, .aload_n 0, 1), (60, .getfield 194, 3), (63, .ireturn, 1)]
theorem tdX8_about_t0_ok : gz_dec cX8_about tdX8_about_t0 = true := by decide +kernel
theorem dX8_about_0 : decode cX8_about 0 = .ok (.iload_n 1, 1) := gz_d tdX8_about_t0_ok 0 rfl
theorem dX8_about_1 : decode cX8_about 1 = .ok (.iconst 0, 1) := gz_d tdX8_about_t0_ok 1 rfl
theorem dX8_about_2 : decode cX8_about 2 = .ok (.iconst 3, 1) := gz_d tdX8_about_t0_ok 2 rfl
theorem dX8_about_3 : decode cX8_about 3 = .ok (.invokestatic 82, 3) := gz_d tdX8_about_t0_ok 3 rfl
theorem dX8_about_6 : decode cX8_about 6 = .ok (.ifCond .ne 6, 3) := gz_d tdX8_about_t0_ok 4 rfl
theorem dX8_about_9 : decode cX8_about 9 = .ok (.bipush (-2), 2) := gz_d tdX8_about_t0_ok 5 rfl
theorem dX8_about_11 : decode cX8_about 11 = .ok (.ireturn, 1) := gz_d tdX8_about_t0_ok 6 rfl
theorem dX8_about_12 : decode cX8_about 12 = .ok (.aload_n 0, 1) := gz_d tdX8_about_t0_ok 7 rfl
theorem dX8_about_13 : decode cX8_about 13 = .ok (.getfield 78, 3) := gz_d tdX8_about_t0_ok 8 rfl
theorem dX8_about_16 : decode cX8_about 16 = .ok (.ifCond .ne 8, 3) := gz_d tdX8_about_t0_ok 9 rfl
theorem dX8_about_19 : decode cX8_about 19 = .ok (.bipush (-3), 2) := gz_d tdX8_about_t0_ok 10 rfl
theorem dX8_about_21 : decode cX8_about 21 = .ok (.goto 42, 3) := gz_d tdX8_about_t0_ok 11 rfl
theorem dX8_about_24 : decode cX8_about 24 = .ok (.iload_n 1, 1) := gz_d tdX8_about_t0_ok 12 rfl
theorem dX8_about_25 : decode cX8_about 25 = .ok (.ifCond .ne 10, 3) := gz_d tdX8_about_t0_ok 13 rfl
theorem dX8_about_28 : decode cX8_about 28 = .ok (.aload_n 0, 1) := gz_d tdX8_about_t0_ok 14 rfl
theorem dX8_about_29 : decode cX8_about 29 = .ok (.getfield 185, 3) := gz_d tdX8_about_t0_ok 15 rfl
theorem dX8_about_32 : decode cX8_about 32 = .ok (.goto 31, 3) := gz_d tdX8_about_t0_ok 16 rfl
theorem dX8_about_35 : decode cX8_about 35 = .ok (.iload_n 1, 1) := gz_d tdX8_about_t0_ok 17 rfl
theorem dX8_about_36 : decode cX8_about 36 = .ok (.iconst 1, 1) := gz_d tdX8_about_t0_ok 18 rfl
theorem dX8_about_37 : decode cX8_about 37 = .ok (.if_icmp .ne 10, 3) := gz_d tdX8_about_t0_ok 19 rfl
theorem dX8_about_40 : decode cX8_about 40 = .ok (.aload_n 0, 1) := gz_d tdX8_about_t0_ok 20 rfl
theorem dX8_about_41 : decode cX8_about 41 = .ok (.getfield 188, 3) := gz_d tdX8_about_t0_ok 21 rfl
theorem dX8_about_44 : decode cX8_about 44 = .ok (.goto 19, 3) := gz_d tdX8_about_t0_ok 22 rfl
theorem dX8_about_47 : decode cX8_about 47 = .ok (.iload_n 1, 1) := gz_d tdX8_about_t0_ok 23 rfl
theorem dX8_about_48 : decode cX8_about 48 = .ok (.iconst 2, 1) := gz_d tdX8_about_t0_ok 24 rfl
theorem dX8_about_49 : decode cX8_about 49 = .ok (.if_icmp .ne 10, 3) := gz_d tdX8_about_t0_ok 25 rfl
theorem dX8_about_52 : decode cX8_about 52 = .ok (.aload_n 0, 1) := gz_d tdX8_about_t0_ok 26 rfl
theorem dX8_about_53 : decode cX8_about 53 = .ok (.getfield 191, 3) := gz_d tdX8_about_t0_ok 27 rfl
theorem dX8_about_56 : decode cX8_about 56 = .ok (.goto 7, 3) := gz_d tdX8_about_t0_ok 28 rfl
theorem dX8_about_59 : decode cX8_about 59 = .ok (.aload_n 0, 1) := gz_d tdX8_about_t0_ok 29 rfl
theorem dX8_about_60 : decode cX8_about 60 = .ok (.getfield 194, 3) := gz_d tdX8_about_t0_ok 30 rfl
theorem dX8_about_63 : decode cX8_about 63 = .ok (.ireturn, 1) := gz_d tdX8_about_t0_ok 31 rfl
def tdX8_count_t0 : List (Nat × Instr × Nat) := [(0, .iload_n 1, 1), (1, .tableswitch 86 0 6 #[43, 48, 53, 58, 71, 76, 81], 43), (44, .aload_n 0, 1), (45, .getfield 7, 3), (48, .ireturn, 1), (49, .aload_n 0, 1), (50, .getfield 13, 3), (53, .ireturn, 1), (54, .aload_n 0, 1), (55, .getfield 16, 3), (58, .ireturn, 1), (59, .aload_n 0, 1), (60, .getfield 86, 3), (63, .ifCond .eq 7, 3), (66, .iconst 1, 1), (67, .goto 4, 3), (70, .iconst 0, 1), (71, .ireturn, 1), (72, .aload_n 0, 1), (73, .invokevirtual 89, 3), (76, .ireturn, 1), (77, .aload_n 0, 1), (78, .getfield 197, 3), (81, .ireturn, 1), (82, .aload_n 0, 1), (83, .getfield 200, 3), (86, .ireturn, 1), (87, .bipush (-2), 2), (89, .ireturn, 1)]
theorem tdX8_count_t0_ok : gz_dec cX8_count tdX8_count_t0 = true := by decide +kernel
theorem dX8_count_0 : decode cX8_count 0 = .ok (.iload_n 1, 1) := gz_d tdX8_count_t0_ok 0 rfl
theorem dX8_count_1 : decode cX8_count 1 = .ok (.tableswitch 86 0 6 #[43, 48, 53, 58, 71, 76, 81], 43) := gz_d tdX8_count_t0_ok 1 rfl
theorem dX8_count_44 : decode cX8_count 44 = .ok (.aload_n 0, 1) := gz_d tdX8_count_t0_ok 2 rfl
theorem dX8_count_45 : decode cX8_count 45 = .ok (.getfield 7, 3) := gz_d tdX8_count_t0_ok 3 rfl
theorem dX8_count_48 : decode cX8_count 48 = .ok (.ireturn, 1) := gz_d tdX8_count_t0_ok 4 rfl
theorem dX8_count_49 : decode cX8_count 49 = .ok (.aload_n 0, 1) := gz_d tdX8_count_t0_ok 5 rfl
theorem dX8_count_50 : decode cX8_count 50 = .ok (.getfield 13, 3) := gz_d tdX8_count_t0_ok 6 rfl
theorem dX8_count_53 : decode cX8_count 53 = .ok (.ireturn, 1) := gz_d tdX8_count_t0_ok 7 rfl
theorem dX8_count_54 : decode cX8_count 54 = .ok (.aload_n 0, 1) := gz_d tdX8_count_t0_ok 8 rfl
theorem dX8_count_55 : decode cX8_count 55 = .ok (.getfield 16, 3) := gz_d tdX8_count_t0_ok 9 rfl
theorem dX8_count_58 : decode cX8_count 58 = .ok (.ireturn, 1) := gz_d tdX8_count_t0_ok 10 rfl
theorem dX8_count_59 : decode cX8_count 59 = .ok (.aload_n 0, 1) := gz_d tdX8_count_t0_ok 11 rfl
theorem dX8_count_60 : decode cX8_count 60 = .ok (.getfield 86, 3) := gz_d tdX8_count_t0_ok 12 rfl
theorem dX8_count_63 : decode cX8_count 63 = .ok (.ifCond .eq 7, 3) := gz_d tdX8_count_t0_ok 13 rfl
theorem dX8_count_66 : decode cX8_count 66 = .ok (.iconst 1, 1) := gz_d tdX8_count_t0_ok 14 rfl
theorem dX8_count_67 : decode cX8_count 67 = .ok (.goto 4, 3) := gz_d tdX8_count_t0_ok 15 rfl
theorem dX8_count_70 : decode cX8_count 70 = .ok (.iconst 0, 1) := gz_d tdX8_count_t0_ok 16 rfl
theorem dX8_count_71 : decode cX8_count 71 = .ok (.ireturn, 1) := gz_d tdX8_count_t0_ok 17 rfl
theorem dX8_count_72 : decode cX8_count 72 = .ok (.aload_n 0, 1) := gz_d tdX8_count_t0_ok 18 rfl
theorem dX8_count_73 : decode cX8_count 73 = .ok (.invokevirtual 89, 3) := gz_d tdX8_count_t0_ok 19 rfl
theorem dX8_count_76 : decode cX8_count 76 = .ok (.ireturn, 1) := gz_d tdX8_count_t0_ok 20 rfl
theorem dX8_count_77 : decode cX8_count 77 = .ok (.aload_n 0, 1) := gz_d tdX8_count_t0_ok 21 rfl
theorem dX8_count_78 : decode cX8_count 78 = .ok (.getfield 197, 3) := gz_d tdX8_count_t0_ok 22 rfl
theorem dX8_count_81 : decode cX8_count 81 = .ok (.ireturn, 1) := gz_d tdX8_count_t0_ok 23 rfl
theorem dX8_count_82 : decode cX8_count 82 = .ok (.aload_n 0, 1) := gz_d tdX8_count_t0_ok 24 rfl
theorem dX8_count_83 : decode cX8_count 83 = .ok (.getfield 200, 3) := gz_d tdX8_count_t0_ok 25 rfl
theorem dX8_count_86 : decode cX8_count 86 = .ok (.ireturn, 1) := gz_d tdX8_count_t0_ok 26 rfl
theorem dX8_count_87 : decode cX8_count 87 = .ok (.bipush (-2), 2) := gz_d tdX8_count_t0_ok 27 rfl
theorem dX8_count_89 : decode cX8_count 89 = .ok (.ireturn, 1) := gz_d tdX8_count_t0_ok 28 rfl
def tdX8_digest_t0 : List (Nat × Instr × Nat) := [(0, .ldc2_w 203, 3), (3, .lstore_n 1, 1), (4, .iconst 0, 1), (5, .istore_n 3, 1), (6, .iload_n 3, 1), (7, .bipush 7, 2), (9, .if_icmp .ge 22, 3), (12, .ldc2_w 205, 3), (15, .lload_n 1, 1), (16, .lmul, 1), (17, .aload_n 0, 1), (18, .iload_n 3, 1), (19, .invokevirtual 207, 3), (22, .i2l, 1), (23, .ladd, 1), (24, .lstore_n 1, 1), (25, .iinc 3 1, 3), (28, .goto (-22), 3), (31, .iconst 0, 1), (32, .istore_n 3, 1), (33, .iload_n 3, 1), (34, .iconst 4, 1), (35, .if_icmp .ge 122, 3), (38, .iconst 0, 1), (39, .istore 4, 2), (41, .iload 4, 2), (43, .iconst 2, 1), (44, .if_icmp .ge 107, 3), (47, .iconst 0, 1), (48, .istore 5, 2), (50, .iload 5, 2), (52, .aload_n 0, 1), (53, .getfield 23, 3), (56, .iload 4, 2), (58, .iaload, 1), (59, .if_icmp .ge 86, 3), (62, .iconst (-1), 1), (63, .istore 6, 2), (65, .iload 6, 2), (67, .aload_n 0, 1), (68, .invokevirtual 89, 3), (71, .if_icmp .ge 68, 3), (74, .iconst (-1), 1), (75, .istore 7, 2), (77, .iload 7, 2), (79, .aload_n 0, 1), (80, .invokevirtual 89, 3), (83, .if_icmp .ge 50, 3), (86, .aload_n 0, 1), (87, .iload 6, 2), (89, .iload 7, 2), (91, .invokevirtual 120, 3), (94, .ifCond .eq 31, 3), (97, .ldc2_w 205, 3), (100, .lload_n 1, 1), (101, .lmul, 1), (102, .aload_n 0, 1), (103, .getfield 29, 3), (106, .aload_n 0, 1), (107, .iload_n 3, 1)]
theorem tdX8_digest_t0_ok : gz_dec cX8_digest tdX8_digest_t0 = true := by decide +kernel
theorem dX8_digest_0 : decode cX8_digest 0 = .ok (.ldc2_w 203, 3) := gz_d tdX8_digest_t0_ok 0 rfl
theorem dX8_digest_3 : decode cX8_digest 3 = .ok (.lstore_n 1, 1) := gz_d tdX8_digest_t0_ok 1 rfl
theorem dX8_digest_4 : decode cX8_digest 4 = .ok (.iconst 0, 1) := gz_d tdX8_digest_t0_ok 2 rfl
theorem dX8_digest_5 : decode cX8_digest 5 = .ok (.istore_n 3, 1) := gz_d tdX8_digest_t0_ok 3 rfl
theorem dX8_digest_6 : decode cX8_digest 6 = .ok (.iload_n 3, 1) := gz_d tdX8_digest_t0_ok 4 rfl
theorem dX8_digest_7 : decode cX8_digest 7 = .ok (.bipush 7, 2) := gz_d tdX8_digest_t0_ok 5 rfl
theorem dX8_digest_9 : decode cX8_digest 9 = .ok (.if_icmp .ge 22, 3) := gz_d tdX8_digest_t0_ok 6 rfl
theorem dX8_digest_12 : decode cX8_digest 12 = .ok (.ldc2_w 205, 3) := gz_d tdX8_digest_t0_ok 7 rfl
theorem dX8_digest_15 : decode cX8_digest 15 = .ok (.lload_n 1, 1) := gz_d tdX8_digest_t0_ok 8 rfl
theorem dX8_digest_16 : decode cX8_digest 16 = .ok (.lmul, 1) := gz_d tdX8_digest_t0_ok 9 rfl
theorem dX8_digest_17 : decode cX8_digest 17 = .ok (.aload_n 0, 1) := gz_d tdX8_digest_t0_ok 10 rfl
theorem dX8_digest_18 : decode cX8_digest 18 = .ok (.iload_n 3, 1) := gz_d tdX8_digest_t0_ok 11 rfl
theorem dX8_digest_19 : decode cX8_digest 19 = .ok (.invokevirtual 207, 3) := gz_d tdX8_digest_t0_ok 12 rfl
theorem dX8_digest_22 : decode cX8_digest 22 = .ok (.i2l, 1) := gz_d tdX8_digest_t0_ok 13 rfl
theorem dX8_digest_23 : decode cX8_digest 23 = .ok (.ladd, 1) := gz_d tdX8_digest_t0_ok 14 rfl
theorem dX8_digest_24 : decode cX8_digest 24 = .ok (.lstore_n 1, 1) := gz_d tdX8_digest_t0_ok 15 rfl
theorem dX8_digest_25 : decode cX8_digest 25 = .ok (.iinc 3 1, 3) := gz_d tdX8_digest_t0_ok 16 rfl
theorem dX8_digest_28 : decode cX8_digest 28 = .ok (.goto (-22), 3) := gz_d tdX8_digest_t0_ok 17 rfl
theorem dX8_digest_31 : decode cX8_digest 31 = .ok (.iconst 0, 1) := gz_d tdX8_digest_t0_ok 18 rfl
theorem dX8_digest_32 : decode cX8_digest 32 = .ok (.istore_n 3, 1) := gz_d tdX8_digest_t0_ok 19 rfl
theorem dX8_digest_33 : decode cX8_digest 33 = .ok (.iload_n 3, 1) := gz_d tdX8_digest_t0_ok 20 rfl
theorem dX8_digest_34 : decode cX8_digest 34 = .ok (.iconst 4, 1) := gz_d tdX8_digest_t0_ok 21 rfl
theorem dX8_digest_35 : decode cX8_digest 35 = .ok (.if_icmp .ge 122, 3) := gz_d tdX8_digest_t0_ok 22 rfl
theorem dX8_digest_38 : decode cX8_digest 38 = .ok (.iconst 0, 1) := gz_d tdX8_digest_t0_ok 23 rfl
theorem dX8_digest_39 : decode cX8_digest 39 = .ok (.istore 4, 2) := gz_d tdX8_digest_t0_ok 24 rfl
theorem dX8_digest_41 : decode cX8_digest 41 = .ok (.iload 4, 2) := gz_d tdX8_digest_t0_ok 25 rfl
theorem dX8_digest_43 : decode cX8_digest 43 = .ok (.iconst 2, 1) := gz_d tdX8_digest_t0_ok 26 rfl
theorem dX8_digest_44 : decode cX8_digest 44 = .ok (.if_icmp .ge 107, 3) := gz_d tdX8_digest_t0_ok 27 rfl
theorem dX8_digest_47 : decode cX8_digest 47 = .ok (.iconst 0, 1) := gz_d tdX8_digest_t0_ok 28 rfl
theorem dX8_digest_48 : decode cX8_digest 48 = .ok (.istore 5, 2) := gz_d tdX8_digest_t0_ok 29 rfl
theorem dX8_digest_50 : decode cX8_digest 50 = .ok (.iload 5, 2) := gz_d tdX8_digest_t0_ok 30 rfl
theorem dX8_digest_52 : decode cX8_digest 52 = .ok (.aload_n 0, 1) := gz_d tdX8_digest_t0_ok 31 rfl
theorem dX8_digest_53 : decode cX8_digest 53 = .ok (.getfield 23, 3) := gz_d tdX8_digest_t0_ok 32 rfl
theorem dX8_digest_56 : decode cX8_digest 56 = .ok (.iload 4, 2) := gz_d tdX8_digest_t0_ok 33 rfl
theorem dX8_digest_58 : decode cX8_digest 58 = .ok (.iaload, 1) := gz_d tdX8_digest_t0_ok 34 rfl
theorem dX8_digest_59 : decode cX8_digest 59 = .ok (.if_icmp .ge 86, 3) := gz_d tdX8_digest_t0_ok 35 rfl
theorem dX8_digest_62 : decode cX8_digest 62 = .ok (.iconst (-1), 1) := gz_d tdX8_digest_t0_ok 36 rfl
theorem dX8_digest_63 : decode cX8_digest 63 = .ok (.istore 6, 2) := gz_d tdX8_digest_t0_ok 37 rfl
theorem dX8_digest_65 : decode cX8_digest 65 = .ok (.iload 6, 2) := gz_d tdX8_digest_t0_ok 38 rfl
theorem dX8_digest_67 : decode cX8_digest 67 = .ok (.aload_n 0, 1) := gz_d tdX8_digest_t0_ok 39 rfl
theorem dX8_digest_68 : decode cX8_digest 68 = .ok (.invokevirtual 89, 3) := gz_d tdX8_digest_t0_ok 40 rfl
theorem dX8_digest_71 : decode cX8_digest 71 = .ok (.if_icmp .ge 68, 3) := gz_d tdX8_digest_t0_ok 41 rfl
theorem dX8_digest_74 : decode cX8_digest 74 = .ok (.iconst (-1), 1) := gz_d tdX8_digest_t0_ok 42 rfl
theorem dX8_digest_75 : decode cX8_digest 75 = .ok (.istore 7, 2) := gz_d tdX8_digest_t0_ok 43 rfl
theorem dX8_digest_77 : decode cX8_digest 77 = .ok (.iload 7, 2) := gz_d tdX8_digest_t0_ok 44 rfl
theorem dX8_digest_79 : decode cX8_digest 79 = .ok (.aload_n 0, 1) := gz_d tdX8_digest_t0_ok 45 rfl
theorem dX8_digest_80 : decode cX8_digest 80 = .ok (.invokevirtual 89, 3) := gz_d tdX8_digest_t0_ok 46 rfl
theorem dX8_digest_83 : decode cX8_digest 83 = .ok (.if_icmp .ge 50, 3) := gz_d tdX8_digest_t0_ok 47 rfl
theorem dX8_digest_86 : decode cX8_digest 86 = .ok (.aload_n 0, 1) := gz_d tdX8_digest_t0_ok 48 rfl
theorem dX8_digest_87 : decode cX8_digest 87 = .ok (.iload 6, 2) := gz_d tdX8_digest_t0_ok 49 rfl
theorem dX8_digest_89 : decode cX8_digest 89 = .ok (.iload 7, 2) := gz_d tdX8_digest_t0_ok 50 rfl
theorem dX8_digest_91 : decode cX8_digest 91 = .ok (.invokevirtual 120, 3) := gz_d tdX8_digest_t0_ok 51 rfl
theorem dX8_digest_94 : decode cX8_digest 94 = .ok (.ifCond .eq 31, 3) := gz_d tdX8_digest_t0_ok 52 rfl
theorem dX8_digest_97 : decode cX8_digest 97 = .ok (.ldc2_w 205, 3) := gz_d tdX8_digest_t0_ok 53 rfl
theorem dX8_digest_100 : decode cX8_digest 100 = .ok (.lload_n 1, 1) := gz_d tdX8_digest_t0_ok 54 rfl
theorem dX8_digest_101 : decode cX8_digest 101 = .ok (.lmul, 1) := gz_d tdX8_digest_t0_ok 55 rfl
theorem dX8_digest_102 : decode cX8_digest 102 = .ok (.aload_n 0, 1) := gz_d tdX8_digest_t0_ok 56 rfl
theorem dX8_digest_103 : decode cX8_digest 103 = .ok (.getfield 29, 3) := gz_d tdX8_digest_t0_ok 57 rfl
theorem dX8_digest_106 : decode cX8_digest 106 = .ok (.aload_n 0, 1) := gz_d tdX8_digest_t0_ok 58 rfl
theorem dX8_digest_107 : decode cX8_digest 107 = .ok (.iload_n 3, 1) := gz_d tdX8_digest_t0_ok 59 rfl
def tdX8_digest_t1 : List (Nat × Instr × Nat) := [(108, .iload 4, 2), (110, .iload 5, 2), (112, .iload 6, 2), (114, .iload 7, 2), (116, .invokevirtual 123, 3), (119, .iaload, 1), (120, .i2l, 1), (121, .ladd, 1), (122, .goto 4, 3), (125, .lload_n 1, 1), (126, .lstore_n 1, 1), (127, .iinc 7 1, 3), (130, .goto (-53), 3), (133, .iinc 6 1, 3), (136, .goto (-71), 3), (139, .iinc 5 1, 3), (142, .goto (-92), 3), (145, .iinc 4 1, 3), (148, .goto (-107), 3), (151, .iinc 3 1, 3), (154, .goto (-121), 3), (157, .aload_n 0, 1), (158, .getfield 78, 3), (161, .ifCond .eq 57, 3), (164, .iconst 0, 1), (165, .istore_n 3, 1), (166, .iload_n 3, 1), (167, .iconst 4, 1), (168, .if_icmp .ge 22, 3), (171, .ldc2_w 205, 3), (174, .lload_n 1, 1), (175, .lmul, 1), (176, .aload_n 0, 1), (177, .iload_n 3, 1), (178, .invokevirtual 210, 3), (181, .i2l, 1), (182, .ladd, 1), (183, .lstore_n 1, 1), (184, .iinc 3 1, 3), (187, .goto (-21), 3), (190, .ldc2_w 205, 3), (193, .lload_n 1, 1), (194, .lmul, 1), (195, .aload_n 0, 1), (196, .getfield 32, 3), (199, .iconst 0, 1), (200, .iaload, 1), (201, .i2l, 1), (202, .ladd, 1), (203, .lstore_n 1, 1), (204, .ldc2_w 205, 3), (207, .lload_n 1, 1), (208, .lmul, 1), (209, .aload_n 0, 1), (210, .getfield 32, 3), (213, .iconst 1, 1), (214, .iaload, 1), (215, .i2l, 1), (216, .ladd, 1), (217, .lstore_n 1, 1)]
theorem tdX8_digest_t1_ok : gz_dec cX8_digest tdX8_digest_t1 = true := by decide +kernel
theorem dX8_digest_108 : decode cX8_digest 108 = .ok (.iload 4, 2) := gz_d tdX8_digest_t1_ok 0 rfl
theorem dX8_digest_110 : decode cX8_digest 110 = .ok (.iload 5, 2) := gz_d tdX8_digest_t1_ok 1 rfl
theorem dX8_digest_112 : decode cX8_digest 112 = .ok (.iload 6, 2) := gz_d tdX8_digest_t1_ok 2 rfl
theorem dX8_digest_114 : decode cX8_digest 114 = .ok (.iload 7, 2) := gz_d tdX8_digest_t1_ok 3 rfl
theorem dX8_digest_116 : decode cX8_digest 116 = .ok (.invokevirtual 123, 3) := gz_d tdX8_digest_t1_ok 4 rfl
theorem dX8_digest_119 : decode cX8_digest 119 = .ok (.iaload, 1) := gz_d tdX8_digest_t1_ok 5 rfl
theorem dX8_digest_120 : decode cX8_digest 120 = .ok (.i2l, 1) := gz_d tdX8_digest_t1_ok 6 rfl
theorem dX8_digest_121 : decode cX8_digest 121 = .ok (.ladd, 1) := gz_d tdX8_digest_t1_ok 7 rfl
theorem dX8_digest_122 : decode cX8_digest 122 = .ok (.goto 4, 3) := gz_d tdX8_digest_t1_ok 8 rfl
theorem dX8_digest_125 : decode cX8_digest 125 = .ok (.lload_n 1, 1) := gz_d tdX8_digest_t1_ok 9 rfl
theorem dX8_digest_126 : decode cX8_digest 126 = .ok (.lstore_n 1, 1) := gz_d tdX8_digest_t1_ok 10 rfl
theorem dX8_digest_127 : decode cX8_digest 127 = .ok (.iinc 7 1, 3) := gz_d tdX8_digest_t1_ok 11 rfl
theorem dX8_digest_130 : decode cX8_digest 130 = .ok (.goto (-53), 3) := gz_d tdX8_digest_t1_ok 12 rfl
theorem dX8_digest_133 : decode cX8_digest 133 = .ok (.iinc 6 1, 3) := gz_d tdX8_digest_t1_ok 13 rfl
theorem dX8_digest_136 : decode cX8_digest 136 = .ok (.goto (-71), 3) := gz_d tdX8_digest_t1_ok 14 rfl
theorem dX8_digest_139 : decode cX8_digest 139 = .ok (.iinc 5 1, 3) := gz_d tdX8_digest_t1_ok 15 rfl
theorem dX8_digest_142 : decode cX8_digest 142 = .ok (.goto (-92), 3) := gz_d tdX8_digest_t1_ok 16 rfl
theorem dX8_digest_145 : decode cX8_digest 145 = .ok (.iinc 4 1, 3) := gz_d tdX8_digest_t1_ok 17 rfl
theorem dX8_digest_148 : decode cX8_digest 148 = .ok (.goto (-107), 3) := gz_d tdX8_digest_t1_ok 18 rfl
theorem dX8_digest_151 : decode cX8_digest 151 = .ok (.iinc 3 1, 3) := gz_d tdX8_digest_t1_ok 19 rfl
theorem dX8_digest_154 : decode cX8_digest 154 = .ok (.goto (-121), 3) := gz_d tdX8_digest_t1_ok 20 rfl
theorem dX8_digest_157 : decode cX8_digest 157 = .ok (.aload_n 0, 1) := gz_d tdX8_digest_t1_ok 21 rfl
theorem dX8_digest_158 : decode cX8_digest 158 = .ok (.getfield 78, 3) := gz_d tdX8_digest_t1_ok 22 rfl
theorem dX8_digest_161 : decode cX8_digest 161 = .ok (.ifCond .eq 57, 3) := gz_d tdX8_digest_t1_ok 23 rfl
theorem dX8_digest_164 : decode cX8_digest 164 = .ok (.iconst 0, 1) := gz_d tdX8_digest_t1_ok 24 rfl
theorem dX8_digest_165 : decode cX8_digest 165 = .ok (.istore_n 3, 1) := gz_d tdX8_digest_t1_ok 25 rfl
theorem dX8_digest_166 : decode cX8_digest 166 = .ok (.iload_n 3, 1) := gz_d tdX8_digest_t1_ok 26 rfl
theorem dX8_digest_167 : decode cX8_digest 167 = .ok (.iconst 4, 1) := gz_d tdX8_digest_t1_ok 27 rfl
theorem dX8_digest_168 : decode cX8_digest 168 = .ok (.if_icmp .ge 22, 3) := gz_d tdX8_digest_t1_ok 28 rfl
theorem dX8_digest_171 : decode cX8_digest 171 = .ok (.ldc2_w 205, 3) := gz_d tdX8_digest_t1_ok 29 rfl
theorem dX8_digest_174 : decode cX8_digest 174 = .ok (.lload_n 1, 1) := gz_d tdX8_digest_t1_ok 30 rfl
theorem dX8_digest_175 : decode cX8_digest 175 = .ok (.lmul, 1) := gz_d tdX8_digest_t1_ok 31 rfl
theorem dX8_digest_176 : decode cX8_digest 176 = .ok (.aload_n 0, 1) := gz_d tdX8_digest_t1_ok 32 rfl
theorem dX8_digest_177 : decode cX8_digest 177 = .ok (.iload_n 3, 1) := gz_d tdX8_digest_t1_ok 33 rfl
theorem dX8_digest_178 : decode cX8_digest 178 = .ok (.invokevirtual 210, 3) := gz_d tdX8_digest_t1_ok 34 rfl
theorem dX8_digest_181 : decode cX8_digest 181 = .ok (.i2l, 1) := gz_d tdX8_digest_t1_ok 35 rfl
theorem dX8_digest_182 : decode cX8_digest 182 = .ok (.ladd, 1) := gz_d tdX8_digest_t1_ok 36 rfl
theorem dX8_digest_183 : decode cX8_digest 183 = .ok (.lstore_n 1, 1) := gz_d tdX8_digest_t1_ok 37 rfl
theorem dX8_digest_184 : decode cX8_digest 184 = .ok (.iinc 3 1, 3) := gz_d tdX8_digest_t1_ok 38 rfl
theorem dX8_digest_187 : decode cX8_digest 187 = .ok (.goto (-21), 3) := gz_d tdX8_digest_t1_ok 39 rfl
theorem dX8_digest_190 : decode cX8_digest 190 = .ok (.ldc2_w 205, 3) := gz_d tdX8_digest_t1_ok 40 rfl
theorem dX8_digest_193 : decode cX8_digest 193 = .ok (.lload_n 1, 1) := gz_d tdX8_digest_t1_ok 41 rfl
theorem dX8_digest_194 : decode cX8_digest 194 = .ok (.lmul, 1) := gz_d tdX8_digest_t1_ok 42 rfl
theorem dX8_digest_195 : decode cX8_digest 195 = .ok (.aload_n 0, 1) := gz_d tdX8_digest_t1_ok 43 rfl
theorem dX8_digest_196 : decode cX8_digest 196 = .ok (.getfield 32, 3) := gz_d tdX8_digest_t1_ok 44 rfl
theorem dX8_digest_199 : decode cX8_digest 199 = .ok (.iconst 0, 1) := gz_d tdX8_digest_t1_ok 45 rfl
theorem dX8_digest_200 : decode cX8_digest 200 = .ok (.iaload, 1) := gz_d tdX8_digest_t1_ok 46 rfl
theorem dX8_digest_201 : decode cX8_digest 201 = .ok (.i2l, 1) := gz_d tdX8_digest_t1_ok 47 rfl
theorem dX8_digest_202 : decode cX8_digest 202 = .ok (.ladd, 1) := gz_d tdX8_digest_t1_ok 48 rfl
theorem dX8_digest_203 : decode cX8_digest 203 = .ok (.lstore_n 1, 1) := gz_d tdX8_digest_t1_ok 49 rfl
theorem dX8_digest_204 : decode cX8_digest 204 = .ok (.ldc2_w 205, 3) := gz_d tdX8_digest_t1_ok 50 rfl
theorem dX8_digest_207 : decode cX8_digest 207 = .ok (.lload_n 1, 1) := gz_d tdX8_digest_t1_ok 51 rfl
theorem dX8_digest_208 : decode cX8_digest 208 = .ok (.lmul, 1) := gz_d tdX8_digest_t1_ok 52 rfl
theorem dX8_digest_209 : decode cX8_digest 209 = .ok (.aload_n 0, 1) := gz_d tdX8_digest_t1_ok 53 rfl
theorem dX8_digest_210 : decode cX8_digest 210 = .ok (.getfield 32, 3) := gz_d tdX8_digest_t1_ok 54 rfl
theorem dX8_digest_213 : decode cX8_digest 213 = .ok (.iconst 1, 1) := gz_d tdX8_digest_t1_ok 55 rfl
theorem dX8_digest_214 : decode cX8_digest 214 = .ok (.iaload, 1) := gz_d tdX8_digest_t1_ok 56 rfl
theorem dX8_digest_215 : decode cX8_digest 215 = .ok (.i2l, 1) := gz_d tdX8_digest_t1_ok 57 rfl
theorem dX8_digest_216 : decode cX8_digest 216 = .ok (.ladd, 1) := gz_d tdX8_digest_t1_ok 58 rfl
theorem dX8_digest_217 : decode cX8_digest 217 = .ok (.lstore_n 1, 1) := gz_d tdX8_digest_t1_ok 59 rfl
def tdX8_digest_t2 : List (Nat × Instr × Nat) := [(218, .lload_n 1, 1), (219, .lreturn, 1)]
theorem tdX8_digest_t2_ok : gz_dec cX8_digest tdX8_digest_t2 = true := by decide +kernel
theorem dX8_digest_218 : decode cX8_digest 218 = .ok (.lload_n 1, 1) := gz_d tdX8_digest_t2_ok 0 rfl
theorem dX8_digest_219 : decode cX8_digest 219 = .ok (.lreturn, 1) := gz_d tdX8_digest_t2_ok 1 rfl
def tdJxe99ae_isNaN_b9ae7_t0 : List (Nat × Instr × Nat) := [(0, .dload_n 0, 1), (1, .dload_n 0, 1), (2, .dcmp .l, 1), (3, .ifCond .eq 7, 3), (6, .iconst 1, 1), (7, .goto 4, 3), (10, .iconst 0, 1), (11, .ireturn, 1)]
theorem tdJxe99ae_isNaN_b9ae7_t0_ok : gz_dec cJxe99ae_isNaN_b9ae7 tdJxe99ae_isNaN_b9ae7_t0 = true := by decide +kernel
theorem dJxe99ae_isNaN_b9ae7_0 : decode cJxe99ae_isNaN_b9ae7 0 = .ok (.dload_n 0, 1) := gz_d tdJxe99ae_isNaN_b9ae7_t0_ok 0 rfl
theorem dJxe99ae_isNaN_b9ae7_1 : decode cJxe99ae_isNaN_b9ae7 1 = .ok (.dload_n 0, 1) := gz_d tdJxe99ae_isNaN_b9ae7_t0_ok 1 rfl
theorem dJxe99ae_isNaN_b9ae7_2 : decode cJxe99ae_isNaN_b9ae7 2 = .ok (.dcmp .l, 1) := gz_d tdJxe99ae_isNaN_b9ae7_t0_ok 2 rfl
theorem dJxe99ae_isNaN_b9ae7_3 : decode cJxe99ae_isNaN_b9ae7 3 = .ok (.ifCond .eq 7, 3) := gz_d tdJxe99ae_isNaN_b9ae7_t0_ok 3 rfl
theorem dJxe99ae_isNaN_b9ae7_6 : decode cJxe99ae_isNaN_b9ae7 6 = .ok (.iconst 1, 1) := gz_d tdJxe99ae_isNaN_b9ae7_t0_ok 4 rfl
theorem dJxe99ae_isNaN_b9ae7_7 : decode cJxe99ae_isNaN_b9ae7 7 = .ok (.goto 4, 3) := gz_d tdJxe99ae_isNaN_b9ae7_t0_ok 5 rfl
theorem dJxe99ae_isNaN_b9ae7_10 : decode cJxe99ae_isNaN_b9ae7 10 = .ok (.iconst 0, 1) := gz_d tdJxe99ae_isNaN_b9ae7_t0_ok 6 rfl
theorem dJxe99ae_isNaN_b9ae7_11 : decode cJxe99ae_isNaN_b9ae7 11 = .ok (.ireturn, 1) := gz_d tdJxe99ae_isNaN_b9ae7_t0_ok 7 rfl
def tdJxe99ae_doubleToLongBits_ccdee_t0 : List (Nat × Instr × Nat) := [(0, .dload_n 0, 1), (1, .invokestatic 122, 3), (4, .ifCond .ne 8, 3), (7, .dload_n 0, 1), (8, .invokestatic 134, 3), (11, .lreturn, 1), (12, .ldc2_w 137, 3), (15, .lreturn, 1)]
theorem tdJxe99ae_doubleToLongBits_ccdee_t0_ok : gz_dec cJxe99ae_doubleToLongBits_ccdee tdJxe99ae_doubleToLongBits_ccdee_t0 = true := by decide +kernel
theorem dJxe99ae_doubleToLongBits_ccdee_0 : decode cJxe99ae_doubleToLongBits_ccdee 0 = .ok (.dload_n 0, 1) := gz_d tdJxe99ae_doubleToLongBits_ccdee_t0_ok 0 rfl
theorem dJxe99ae_doubleToLongBits_ccdee_1 : decode cJxe99ae_doubleToLongBits_ccdee 1 = .ok (.invokestatic 122, 3) := gz_d tdJxe99ae_doubleToLongBits_ccdee_t0_ok 1 rfl
theorem dJxe99ae_doubleToLongBits_ccdee_4 : decode cJxe99ae_doubleToLongBits_ccdee 4 = .ok (.ifCond .ne 8, 3) := gz_d tdJxe99ae_doubleToLongBits_ccdee_t0_ok 2 rfl
theorem dJxe99ae_doubleToLongBits_ccdee_7 : decode cJxe99ae_doubleToLongBits_ccdee 7 = .ok (.dload_n 0, 1) := gz_d tdJxe99ae_doubleToLongBits_ccdee_t0_ok 3 rfl
theorem dJxe99ae_doubleToLongBits_ccdee_8 : decode cJxe99ae_doubleToLongBits_ccdee 8 = .ok (.invokestatic 134, 3) := gz_d tdJxe99ae_doubleToLongBits_ccdee_t0_ok 4 rfl
theorem dJxe99ae_doubleToLongBits_ccdee_11 : decode cJxe99ae_doubleToLongBits_ccdee 11 = .ok (.lreturn, 1) := gz_d tdJxe99ae_doubleToLongBits_ccdee_t0_ok 5 rfl
theorem dJxe99ae_doubleToLongBits_ccdee_12 : decode cJxe99ae_doubleToLongBits_ccdee 12 = .ok (.ldc2_w 137, 3) := gz_d tdJxe99ae_doubleToLongBits_ccdee_t0_ok 6 rfl
theorem dJxe99ae_doubleToLongBits_ccdee_15 : decode cJxe99ae_doubleToLongBits_ccdee 15 = .ok (.lreturn, 1) := gz_d tdJxe99ae_doubleToLongBits_ccdee_t0_ok 7 rfl
def tdJ7_fill_53178_t0 : List (Nat × Instr × Nat) := [(0, .iconst 0, 1), (1, .istore_n 2, 1), (2, .aload_n 0, 1), (3, .arraylength, 1), (4, .istore_n 3, 1), (5, .iload_n 2, 1), (6, .iload_n 3, 1), (7, .if_icmp .ge 13, 3), (10, .aload_n 0, 1), (11, .iload_n 2, 1), (12, .iload_n 1, 1), (13, .iastore, 1), (14, .iinc 2 1, 3), (17, .goto (-12), 3), (20, .return_, 1)]
theorem tdJ7_fill_53178_t0_ok : gz_dec cJ7_fill_53178 tdJ7_fill_53178_t0 = true := by decide +kernel
theorem dJ7_fill_53178_0 : decode cJ7_fill_53178 0 = .ok (.iconst 0, 1) := gz_d tdJ7_fill_53178_t0_ok 0 rfl
theorem dJ7_fill_53178_1 : decode cJ7_fill_53178 1 = .ok (.istore_n 2, 1) := gz_d tdJ7_fill_53178_t0_ok 1 rfl
theorem dJ7_fill_53178_2 : decode cJ7_fill_53178 2 = .ok (.aload_n 0, 1) := gz_d tdJ7_fill_53178_t0_ok 2 rfl
theorem dJ7_fill_53178_3 : decode cJ7_fill_53178 3 = .ok (.arraylength, 1) := gz_d tdJ7_fill_53178_t0_ok 3 rfl
theorem dJ7_fill_53178_4 : decode cJ7_fill_53178 4 = .ok (.istore_n 3, 1) := gz_d tdJ7_fill_53178_t0_ok 4 rfl
theorem dJ7_fill_53178_5 : decode cJ7_fill_53178 5 = .ok (.iload_n 2, 1) := gz_d tdJ7_fill_53178_t0_ok 5 rfl
theorem dJ7_fill_53178_6 : decode cJ7_fill_53178 6 = .ok (.iload_n 3, 1) := gz_d tdJ7_fill_53178_t0_ok 6 rfl
theorem dJ7_fill_53178_7 : decode cJ7_fill_53178 7 = .ok (.if_icmp .ge 13, 3) := gz_d tdJ7_fill_53178_t0_ok 7 rfl
theorem dJ7_fill_53178_10 : decode cJ7_fill_53178 10 = .ok (.aload_n 0, 1) := gz_d tdJ7_fill_53178_t0_ok 8 rfl
theorem dJ7_fill_53178_11 : decode cJ7_fill_53178 11 = .ok (.iload_n 2, 1) := gz_d tdJ7_fill_53178_t0_ok 9 rfl
theorem dJ7_fill_53178_12 : decode cJ7_fill_53178 12 = .ok (.iload_n 1, 1) := gz_d tdJ7_fill_53178_t0_ok 10 rfl
theorem dJ7_fill_53178_13 : decode cJ7_fill_53178 13 = .ok (.iastore, 1) := gz_d tdJ7_fill_53178_t0_ok 11 rfl
theorem dJ7_fill_53178_14 : decode cJ7_fill_53178 14 = .ok (.iinc 2 1, 3) := gz_d tdJ7_fill_53178_t0_ok 12 rfl
theorem dJ7_fill_53178_17 : decode cJ7_fill_53178 17 = .ok (.goto (-12), 3) := gz_d tdJ7_fill_53178_t0_ok 13 rfl
theorem dJ7_fill_53178_20 : decode cJ7_fill_53178 20 = .ok (.return_, 1) := gz_d tdJ7_fill_53178_t0_ok 14 rfl
def tdJ7_fill_7f8df_t0 : List (Nat × Instr × Nat) := [(0, .iconst 0, 1), (1, .istore_n 3, 1), (2, .aload_n 0, 1), (3, .arraylength, 1), (4, .istore 4, 2), (6, .iload_n 3, 1), (7, .iload 4, 2), (9, .if_icmp .ge 13, 3), (12, .aload_n 0, 1), (13, .iload_n 3, 1), (14, .dload_n 1, 1), (15, .dastore, 1), (16, .iinc 3 1, 3), (19, .goto (-13), 3), (22, .return_, 1)]
theorem tdJ7_fill_7f8df_t0_ok : gz_dec cJ7_fill_7f8df tdJ7_fill_7f8df_t0 = true := by decide +kernel
theorem dJ7_fill_7f8df_0 : decode cJ7_fill_7f8df 0 = .ok (.iconst 0, 1) := gz_d tdJ7_fill_7f8df_t0_ok 0 rfl
theorem dJ7_fill_7f8df_1 : decode cJ7_fill_7f8df 1 = .ok (.istore_n 3, 1) := gz_d tdJ7_fill_7f8df_t0_ok 1 rfl
theorem dJ7_fill_7f8df_2 : decode cJ7_fill_7f8df 2 = .ok (.aload_n 0, 1) := gz_d tdJ7_fill_7f8df_t0_ok 2 rfl
theorem dJ7_fill_7f8df_3 : decode cJ7_fill_7f8df 3 = .ok (.arraylength, 1) := gz_d tdJ7_fill_7f8df_t0_ok 3 rfl
theorem dJ7_fill_7f8df_4 : decode cJ7_fill_7f8df 4 = .ok (.istore 4, 2) := gz_d tdJ7_fill_7f8df_t0_ok 4 rfl
theorem dJ7_fill_7f8df_6 : decode cJ7_fill_7f8df 6 = .ok (.iload_n 3, 1) := gz_d tdJ7_fill_7f8df_t0_ok 5 rfl
theorem dJ7_fill_7f8df_7 : decode cJ7_fill_7f8df 7 = .ok (.iload 4, 2) := gz_d tdJ7_fill_7f8df_t0_ok 6 rfl
theorem dJ7_fill_7f8df_9 : decode cJ7_fill_7f8df 9 = .ok (.if_icmp .ge 13, 3) := gz_d tdJ7_fill_7f8df_t0_ok 7 rfl
theorem dJ7_fill_7f8df_12 : decode cJ7_fill_7f8df 12 = .ok (.aload_n 0, 1) := gz_d tdJ7_fill_7f8df_t0_ok 8 rfl
theorem dJ7_fill_7f8df_13 : decode cJ7_fill_7f8df 13 = .ok (.iload_n 3, 1) := gz_d tdJ7_fill_7f8df_t0_ok 9 rfl
theorem dJ7_fill_7f8df_14 : decode cJ7_fill_7f8df 14 = .ok (.dload_n 1, 1) := gz_d tdJ7_fill_7f8df_t0_ok 10 rfl
theorem dJ7_fill_7f8df_15 : decode cJ7_fill_7f8df 15 = .ok (.dastore, 1) := gz_d tdJ7_fill_7f8df_t0_ok 11 rfl
theorem dJ7_fill_7f8df_16 : decode cJ7_fill_7f8df 16 = .ok (.iinc 3 1, 3) := gz_d tdJ7_fill_7f8df_t0_ok 12 rfl
theorem dJ7_fill_7f8df_19 : decode cJ7_fill_7f8df 19 = .ok (.goto (-13), 3) := gz_d tdJ7_fill_7f8df_t0_ok 13 rfl
theorem dJ7_fill_7f8df_22 : decode cJ7_fill_7f8df 22 = .ok (.return_, 1) := gz_d tdJ7_fill_7f8df_t0_ok 14 rfl
def tdL_law_t0 : List (Nat × Instr × Nat) := [(0, .new 7, 3), (3, .dup, 1), (4, .invokespecial 9, 3), (7, .astore_n 1, 1), (8, .new 10, 3), (11, .dup, 1), (12, .invokespecial 12, 3), (15, .astore_n 2, 1), (16, .iconst 0, 1), (17, .istore_n 3, 1), (18, .iload_n 3, 1), (19, .aload_n 0, 1), (20, .arraylength, 1), (21, .bipush 7, 2), (23, .isub, 1), (24, .if_icmp .gt 767, 3), (27, .aload_n 0, 1), (28, .iload_n 3, 1), (29, .iaload, 1), (30, .bipush 31, 2), (32, .iand, 1), (33, .tableswitch 752 0 17 #[87, 156, 179, 222, 255, 298, 351, 404, 479, 513, 547, 580, 623, 646, 669, 692, 715, 738], 87), (120, .aload_n 1, 1), (121, .aload_n 0, 1), (122, .iload_n 3, 1), (123, .iconst 1, 1), (124, .iadd, 1), (125, .iaload, 1), (126, .aload_n 0, 1), (127, .iload_n 3, 1), (128, .iconst 2, 1), (129, .iadd, 1), (130, .iaload, 1), (131, .aload_n 0, 1), (132, .iload_n 3, 1), (133, .iconst 3, 1), (134, .iadd, 1), (135, .iaload, 1), (136, .aload_n 0, 1), (137, .iload_n 3, 1), (138, .iconst 4, 1), (139, .iadd, 1), (140, .iaload, 1), (141, .ifCond .eq 7, 3), (144, .iconst 1, 1), (145, .goto 4, 3), (148, .iconst 0, 1), (149, .invokevirtual 13, 3), (152, .aload_n 2, 1), (153, .aload_n 0, 1), (154, .iload_n 3, 1), (155, .iconst 1, 1), (156, .iadd, 1), (157, .iaload, 1), (158, .aload_n 0, 1), (159, .iload_n 3, 1), (160, .iconst 2, 1), (161, .iadd, 1), (162, .iaload, 1), (163, .aload_n 0, 1)]
theorem tdL_law_t0_ok : gz_dec cL_law tdL_law_t0 = true := by decide +kernel
theorem dL_law_0 : decode cL_law 0 = .ok (.new 7, 3) := gz_d tdL_law_t0_ok 0 rfl
theorem dL_law_3 : decode cL_law 3 = .ok (.dup, 1) := gz_d tdL_law_t0_ok 1 rfl
theorem dL_law_4 : decode cL_law 4 = .ok (.invokespecial 9, 3) := gz_d tdL_law_t0_ok 2 rfl
theorem dL_law_7 : decode cL_law 7 = .ok (.astore_n 1, 1) := gz_d tdL_law_t0_ok 3 rfl
theorem dL_law_8 : decode cL_law 8 = .ok (.new 10, 3) := gz_d tdL_law_t0_ok 4 rfl
theorem dL_law_11 : decode cL_law 11 = .ok (.dup, 1) := gz_d tdL_law_t0_ok 5 rfl
theorem dL_law_12 : decode cL_law 12 = .ok (.invokespecial 12, 3) := gz_d tdL_law_t0_ok 6 rfl
theorem dL_law_15 : decode cL_law 15 = .ok (.astore_n 2, 1) := gz_d tdL_law_t0_ok 7 rfl
theorem dL_law_16 : decode cL_law 16 = .ok (.iconst 0, 1) := gz_d tdL_law_t0_ok 8 rfl
theorem dL_law_17 : decode cL_law 17 = .ok (.istore_n 3, 1) := gz_d tdL_law_t0_ok 9 rfl
theorem dL_law_18 : decode cL_law 18 = .ok (.iload_n 3, 1) := gz_d tdL_law_t0_ok 10 rfl
theorem dL_law_19 : decode cL_law 19 = .ok (.aload_n 0, 1) := gz_d tdL_law_t0_ok 11 rfl
theorem dL_law_20 : decode cL_law 20 = .ok (.arraylength, 1) := gz_d tdL_law_t0_ok 12 rfl
theorem dL_law_21 : decode cL_law 21 = .ok (.bipush 7, 2) := gz_d tdL_law_t0_ok 13 rfl
theorem dL_law_23 : decode cL_law 23 = .ok (.isub, 1) := gz_d tdL_law_t0_ok 14 rfl
theorem dL_law_24 : decode cL_law 24 = .ok (.if_icmp .gt 767, 3) := gz_d tdL_law_t0_ok 15 rfl
theorem dL_law_27 : decode cL_law 27 = .ok (.aload_n 0, 1) := gz_d tdL_law_t0_ok 16 rfl
theorem dL_law_28 : decode cL_law 28 = .ok (.iload_n 3, 1) := gz_d tdL_law_t0_ok 17 rfl
theorem dL_law_29 : decode cL_law 29 = .ok (.iaload, 1) := gz_d tdL_law_t0_ok 18 rfl
theorem dL_law_30 : decode cL_law 30 = .ok (.bipush 31, 2) := gz_d tdL_law_t0_ok 19 rfl
theorem dL_law_32 : decode cL_law 32 = .ok (.iand, 1) := gz_d tdL_law_t0_ok 20 rfl
theorem dL_law_33 : decode cL_law 33 = .ok (.tableswitch 752 0 17 #[87, 156, 179, 222, 255, 298, 351, 404, 479, 513, 547, 580, 623, 646, 669, 692, 715, 738], 87) := gz_d tdL_law_t0_ok 21 rfl
theorem dL_law_120 : decode cL_law 120 = .ok (.aload_n 1, 1) := gz_d tdL_law_t0_ok 22 rfl
theorem dL_law_121 : decode cL_law 121 = .ok (.aload_n 0, 1) := gz_d tdL_law_t0_ok 23 rfl
theorem dL_law_122 : decode cL_law 122 = .ok (.iload_n 3, 1) := gz_d tdL_law_t0_ok 24 rfl
theorem dL_law_123 : decode cL_law 123 = .ok (.iconst 1, 1) := gz_d tdL_law_t0_ok 25 rfl
theorem dL_law_124 : decode cL_law 124 = .ok (.iadd, 1) := gz_d tdL_law_t0_ok 26 rfl
theorem dL_law_125 : decode cL_law 125 = .ok (.iaload, 1) := gz_d tdL_law_t0_ok 27 rfl
theorem dL_law_126 : decode cL_law 126 = .ok (.aload_n 0, 1) := gz_d tdL_law_t0_ok 28 rfl
theorem dL_law_127 : decode cL_law 127 = .ok (.iload_n 3, 1) := gz_d tdL_law_t0_ok 29 rfl
theorem dL_law_128 : decode cL_law 128 = .ok (.iconst 2, 1) := gz_d tdL_law_t0_ok 30 rfl
theorem dL_law_129 : decode cL_law 129 = .ok (.iadd, 1) := gz_d tdL_law_t0_ok 31 rfl
theorem dL_law_130 : decode cL_law 130 = .ok (.iaload, 1) := gz_d tdL_law_t0_ok 32 rfl
theorem dL_law_131 : decode cL_law 131 = .ok (.aload_n 0, 1) := gz_d tdL_law_t0_ok 33 rfl
theorem dL_law_132 : decode cL_law 132 = .ok (.iload_n 3, 1) := gz_d tdL_law_t0_ok 34 rfl
theorem dL_law_133 : decode cL_law 133 = .ok (.iconst 3, 1) := gz_d tdL_law_t0_ok 35 rfl
theorem dL_law_134 : decode cL_law 134 = .ok (.iadd, 1) := gz_d tdL_law_t0_ok 36 rfl
theorem dL_law_135 : decode cL_law 135 = .ok (.iaload, 1) := gz_d tdL_law_t0_ok 37 rfl
theorem dL_law_136 : decode cL_law 136 = .ok (.aload_n 0, 1) := gz_d tdL_law_t0_ok 38 rfl
theorem dL_law_137 : decode cL_law 137 = .ok (.iload_n 3, 1) := gz_d tdL_law_t0_ok 39 rfl
theorem dL_law_138 : decode cL_law 138 = .ok (.iconst 4, 1) := gz_d tdL_law_t0_ok 40 rfl
theorem dL_law_139 : decode cL_law 139 = .ok (.iadd, 1) := gz_d tdL_law_t0_ok 41 rfl
theorem dL_law_140 : decode cL_law 140 = .ok (.iaload, 1) := gz_d tdL_law_t0_ok 42 rfl
theorem dL_law_141 : decode cL_law 141 = .ok (.ifCond .eq 7, 3) := gz_d tdL_law_t0_ok 43 rfl
theorem dL_law_144 : decode cL_law 144 = .ok (.iconst 1, 1) := gz_d tdL_law_t0_ok 44 rfl
theorem dL_law_145 : decode cL_law 145 = .ok (.goto 4, 3) := gz_d tdL_law_t0_ok 45 rfl
theorem dL_law_148 : decode cL_law 148 = .ok (.iconst 0, 1) := gz_d tdL_law_t0_ok 46 rfl
theorem dL_law_149 : decode cL_law 149 = .ok (.invokevirtual 13, 3) := gz_d tdL_law_t0_ok 47 rfl
theorem dL_law_152 : decode cL_law 152 = .ok (.aload_n 2, 1) := gz_d tdL_law_t0_ok 48 rfl
theorem dL_law_153 : decode cL_law 153 = .ok (.aload_n 0, 1) := gz_d tdL_law_t0_ok 49 rfl
theorem dL_law_154 : decode cL_law 154 = .ok (.iload_n 3, 1) := gz_d tdL_law_t0_ok 50 rfl
theorem dL_law_155 : decode cL_law 155 = .ok (.iconst 1, 1) := gz_d tdL_law_t0_ok 51 rfl
theorem dL_law_156 : decode cL_law 156 = .ok (.iadd, 1) := gz_d tdL_law_t0_ok 52 rfl
theorem dL_law_157 : decode cL_law 157 = .ok (.iaload, 1) := gz_d tdL_law_t0_ok 53 rfl
theorem dL_law_158 : decode cL_law 158 = .ok (.aload_n 0, 1) := gz_d tdL_law_t0_ok 54 rfl
theorem dL_law_159 : decode cL_law 159 = .ok (.iload_n 3, 1) := gz_d tdL_law_t0_ok 55 rfl
theorem dL_law_160 : decode cL_law 160 = .ok (.iconst 2, 1) := gz_d tdL_law_t0_ok 56 rfl
theorem dL_law_161 : decode cL_law 161 = .ok (.iadd, 1) := gz_d tdL_law_t0_ok 57 rfl
theorem dL_law_162 : decode cL_law 162 = .ok (.iaload, 1) := gz_d tdL_law_t0_ok 58 rfl
theorem dL_law_163 : decode cL_law 163 = .ok (.aload_n 0, 1) := gz_d tdL_law_t0_ok 59 rfl
def tdL_law_t1 : List (Nat × Instr × Nat) := [(164, .iload_n 3, 1), (165, .iconst 3, 1), (166, .iadd, 1), (167, .iaload, 1), (168, .aload_n 0, 1), (169, .iload_n 3, 1), (170, .iconst 4, 1), (171, .iadd, 1), (172, .iaload, 1), (173, .ifCond .eq 7, 3), (176, .iconst 1, 1), (177, .goto 4, 3), (180, .iconst 0, 1), (181, .invokevirtual 17, 3), (184, .if_icmp .eq 601, 3), (187, .iconst 0, 1), (188, .ireturn, 1), (189, .aload_n 1, 1), (190, .aload_n 0, 1), (191, .iload_n 3, 1), (192, .iconst 1, 1), (193, .iadd, 1), (194, .iaload, 1), (195, .invokevirtual 18, 3), (198, .aload_n 2, 1), (199, .aload_n 0, 1), (200, .iload_n 3, 1), (201, .iconst 1, 1), (202, .iadd, 1), (203, .iaload, 1), (204, .invokevirtual 22, 3), (207, .if_icmp .eq 578, 3), (210, .iconst 0, 1), (211, .ireturn, 1), (212, .aload_n 1, 1), (213, .aload_n 0, 1), (214, .iload_n 3, 1), (215, .iconst 1, 1), (216, .iadd, 1), (217, .iaload, 1), (218, .aload_n 0, 1), (219, .iload_n 3, 1), (220, .iconst 2, 1), (221, .iadd, 1), (222, .iaload, 1), (223, .aload_n 0, 1), (224, .iload_n 3, 1), (225, .iconst 3, 1), (226, .iadd, 1), (227, .iaload, 1), (228, .invokevirtual 23, 3), (231, .aload_n 2, 1), (232, .aload_n 0, 1), (233, .iload_n 3, 1), (234, .iconst 1, 1), (235, .iadd, 1), (236, .iaload, 1), (237, .aload_n 0, 1), (238, .iload_n 3, 1), (239, .iconst 2, 1)]
theorem tdL_law_t1_ok : gz_dec cL_law tdL_law_t1 = true := by decide +kernel
theorem dL_law_164 : decode cL_law 164 = .ok (.iload_n 3, 1) := gz_d tdL_law_t1_ok 0 rfl
theorem dL_law_165 : decode cL_law 165 = .ok (.iconst 3, 1) := gz_d tdL_law_t1_ok 1 rfl
theorem dL_law_166 : decode cL_law 166 = .ok (.iadd, 1) := gz_d tdL_law_t1_ok 2 rfl
theorem dL_law_167 : decode cL_law 167 = .ok (.iaload, 1) := gz_d tdL_law_t1_ok 3 rfl
theorem dL_law_168 : decode cL_law 168 = .ok (.aload_n 0, 1) := gz_d tdL_law_t1_ok 4 rfl
theorem dL_law_169 : decode cL_law 169 = .ok (.iload_n 3, 1) := gz_d tdL_law_t1_ok 5 rfl
theorem dL_law_170 : decode cL_law 170 = .ok (.iconst 4, 1) := gz_d tdL_law_t1_ok 6 rfl
theorem dL_law_171 : decode cL_law 171 = .ok (.iadd, 1) := gz_d tdL_law_t1_ok 7 rfl
theorem dL_law_172 : decode cL_law 172 = .ok (.iaload, 1) := gz_d tdL_law_t1_ok 8 rfl
theorem dL_law_173 : decode cL_law 173 = .ok (.ifCond .eq 7, 3) := gz_d tdL_law_t1_ok 9 rfl
theorem dL_law_176 : decode cL_law 176 = .ok (.iconst 1, 1) := gz_d tdL_law_t1_ok 10 rfl
theorem dL_law_177 : decode cL_law 177 = .ok (.goto 4, 3) := gz_d tdL_law_t1_ok 11 rfl
theorem dL_law_180 : decode cL_law 180 = .ok (.iconst 0, 1) := gz_d tdL_law_t1_ok 12 rfl
theorem dL_law_181 : decode cL_law 181 = .ok (.invokevirtual 17, 3) := gz_d tdL_law_t1_ok 13 rfl
theorem dL_law_184 : decode cL_law 184 = .ok (.if_icmp .eq 601, 3) := gz_d tdL_law_t1_ok 14 rfl
theorem dL_law_187 : decode cL_law 187 = .ok (.iconst 0, 1) := gz_d tdL_law_t1_ok 15 rfl
theorem dL_law_188 : decode cL_law 188 = .ok (.ireturn, 1) := gz_d tdL_law_t1_ok 16 rfl
theorem dL_law_189 : decode cL_law 189 = .ok (.aload_n 1, 1) := gz_d tdL_law_t1_ok 17 rfl
theorem dL_law_190 : decode cL_law 190 = .ok (.aload_n 0, 1) := gz_d tdL_law_t1_ok 18 rfl
theorem dL_law_191 : decode cL_law 191 = .ok (.iload_n 3, 1) := gz_d tdL_law_t1_ok 19 rfl
theorem dL_law_192 : decode cL_law 192 = .ok (.iconst 1, 1) := gz_d tdL_law_t1_ok 20 rfl
theorem dL_law_193 : decode cL_law 193 = .ok (.iadd, 1) := gz_d tdL_law_t1_ok 21 rfl
theorem dL_law_194 : decode cL_law 194 = .ok (.iaload, 1) := gz_d tdL_law_t1_ok 22 rfl
theorem dL_law_195 : decode cL_law 195 = .ok (.invokevirtual 18, 3) := gz_d tdL_law_t1_ok 23 rfl
theorem dL_law_198 : decode cL_law 198 = .ok (.aload_n 2, 1) := gz_d tdL_law_t1_ok 24 rfl
theorem dL_law_199 : decode cL_law 199 = .ok (.aload_n 0, 1) := gz_d tdL_law_t1_ok 25 rfl
theorem dL_law_200 : decode cL_law 200 = .ok (.iload_n 3, 1) := gz_d tdL_law_t1_ok 26 rfl
theorem dL_law_201 : decode cL_law 201 = .ok (.iconst 1, 1) := gz_d tdL_law_t1_ok 27 rfl
theorem dL_law_202 : decode cL_law 202 = .ok (.iadd, 1) := gz_d tdL_law_t1_ok 28 rfl
theorem dL_law_203 : decode cL_law 203 = .ok (.iaload, 1) := gz_d tdL_law_t1_ok 29 rfl
theorem dL_law_204 : decode cL_law 204 = .ok (.invokevirtual 22, 3) := gz_d tdL_law_t1_ok 30 rfl
theorem dL_law_207 : decode cL_law 207 = .ok (.if_icmp .eq 578, 3) := gz_d tdL_law_t1_ok 31 rfl
theorem dL_law_210 : decode cL_law 210 = .ok (.iconst 0, 1) := gz_d tdL_law_t1_ok 32 rfl
theorem dL_law_211 : decode cL_law 211 = .ok (.ireturn, 1) := gz_d tdL_law_t1_ok 33 rfl
theorem dL_law_212 : decode cL_law 212 = .ok (.aload_n 1, 1) := gz_d tdL_law_t1_ok 34 rfl
theorem dL_law_213 : decode cL_law 213 = .ok (.aload_n 0, 1) := gz_d tdL_law_t1_ok 35 rfl
theorem dL_law_214 : decode cL_law 214 = .ok (.iload_n 3, 1) := gz_d tdL_law_t1_ok 36 rfl
theorem dL_law_215 : decode cL_law 215 = .ok (.iconst 1, 1) := gz_d tdL_law_t1_ok 37 rfl
theorem dL_law_216 : decode cL_law 216 = .ok (.iadd, 1) := gz_d tdL_law_t1_ok 38 rfl
theorem dL_law_217 : decode cL_law 217 = .ok (.iaload, 1) := gz_d tdL_law_t1_ok 39 rfl
theorem dL_law_218 : decode cL_law 218 = .ok (.aload_n 0, 1) := gz_d tdL_law_t1_ok 40 rfl
theorem dL_law_219 : decode cL_law 219 = .ok (.iload_n 3, 1) := gz_d tdL_law_t1_ok 41 rfl
theorem dL_law_220 : decode cL_law 220 = .ok (.iconst 2, 1) := gz_d tdL_law_t1_ok 42 rfl
theorem dL_law_221 : decode cL_law 221 = .ok (.iadd, 1) := gz_d tdL_law_t1_ok 43 rfl
theorem dL_law_222 : decode cL_law 222 = .ok (.iaload, 1) := gz_d tdL_law_t1_ok 44 rfl
theorem dL_law_223 : decode cL_law 223 = .ok (.aload_n 0, 1) := gz_d tdL_law_t1_ok 45 rfl
theorem dL_law_224 : decode cL_law 224 = .ok (.iload_n 3, 1) := gz_d tdL_law_t1_ok 46 rfl
theorem dL_law_225 : decode cL_law 225 = .ok (.iconst 3, 1) := gz_d tdL_law_t1_ok 47 rfl
theorem dL_law_226 : decode cL_law 226 = .ok (.iadd, 1) := gz_d tdL_law_t1_ok 48 rfl
theorem dL_law_227 : decode cL_law 227 = .ok (.iaload, 1) := gz_d tdL_law_t1_ok 49 rfl
theorem dL_law_228 : decode cL_law 228 = .ok (.invokevirtual 23, 3) := gz_d tdL_law_t1_ok 50 rfl
theorem dL_law_231 : decode cL_law 231 = .ok (.aload_n 2, 1) := gz_d tdL_law_t1_ok 51 rfl
theorem dL_law_232 : decode cL_law 232 = .ok (.aload_n 0, 1) := gz_d tdL_law_t1_ok 52 rfl
theorem dL_law_233 : decode cL_law 233 = .ok (.iload_n 3, 1) := gz_d tdL_law_t1_ok 53 rfl
theorem dL_law_234 : decode cL_law 234 = .ok (.iconst 1, 1) := gz_d tdL_law_t1_ok 54 rfl
theorem dL_law_235 : decode cL_law 235 = .ok (.iadd, 1) := gz_d tdL_law_t1_ok 55 rfl
theorem dL_law_236 : decode cL_law 236 = .ok (.iaload, 1) := gz_d tdL_law_t1_ok 56 rfl
theorem dL_law_237 : decode cL_law 237 = .ok (.aload_n 0, 1) := gz_d tdL_law_t1_ok 57 rfl
theorem dL_law_238 : decode cL_law 238 = .ok (.iload_n 3, 1) := gz_d tdL_law_t1_ok 58 rfl
theorem dL_law_239 : decode cL_law 239 = .ok (.iconst 2, 1) := gz_d tdL_law_t1_ok 59 rfl
def tdL_law_t2 : List (Nat × Instr × Nat) := [(240, .iadd, 1), (241, .iaload, 1), (242, .aload_n 0, 1), (243, .iload_n 3, 1), (244, .iconst 3, 1), (245, .iadd, 1), (246, .iaload, 1), (247, .invokevirtual 27, 3), (250, .if_icmp .eq 535, 3), (253, .iconst 0, 1), (254, .ireturn, 1), (255, .aload_n 1, 1), (256, .aload_n 0, 1), (257, .iload_n 3, 1), (258, .iconst 1, 1), (259, .iadd, 1), (260, .iaload, 1), (261, .aload_n 0, 1), (262, .iload_n 3, 1), (263, .iconst 2, 1), (264, .iadd, 1), (265, .iaload, 1), (266, .invokevirtual 28, 3), (269, .aload_n 2, 1), (270, .aload_n 0, 1), (271, .iload_n 3, 1), (272, .iconst 1, 1), (273, .iadd, 1), (274, .iaload, 1), (275, .aload_n 0, 1), (276, .iload_n 3, 1), (277, .iconst 2, 1), (278, .iadd, 1), (279, .iaload, 1), (280, .invokevirtual 32, 3), (283, .if_icmp .eq 502, 3), (286, .iconst 0, 1), (287, .ireturn, 1), (288, .aload_n 1, 1), (289, .aload_n 0, 1), (290, .iload_n 3, 1), (291, .iconst 1, 1), (292, .iadd, 1), (293, .iaload, 1), (294, .aload_n 0, 1), (295, .iload_n 3, 1), (296, .iconst 2, 1), (297, .iadd, 1), (298, .iaload, 1), (299, .aload_n 0, 1), (300, .iload_n 3, 1), (301, .iconst 3, 1), (302, .iadd, 1), (303, .iaload, 1), (304, .invokevirtual 33, 3), (307, .aload_n 2, 1), (308, .aload_n 0, 1), (309, .iload_n 3, 1), (310, .iconst 1, 1), (311, .iadd, 1)]
theorem tdL_law_t2_ok : gz_dec cL_law tdL_law_t2 = true := by decide +kernel
theorem dL_law_240 : decode cL_law 240 = .ok (.iadd, 1) := gz_d tdL_law_t2_ok 0 rfl
theorem dL_law_241 : decode cL_law 241 = .ok (.iaload, 1) := gz_d tdL_law_t2_ok 1 rfl
theorem dL_law_242 : decode cL_law 242 = .ok (.aload_n 0, 1) := gz_d tdL_law_t2_ok 2 rfl
theorem dL_law_243 : decode cL_law 243 = .ok (.iload_n 3, 1) := gz_d tdL_law_t2_ok 3 rfl
theorem dL_law_244 : decode cL_law 244 = .ok (.iconst 3, 1) := gz_d tdL_law_t2_ok 4 rfl
theorem dL_law_245 : decode cL_law 245 = .ok (.iadd, 1) := gz_d tdL_law_t2_ok 5 rfl
theorem dL_law_246 : decode cL_law 246 = .ok (.iaload, 1) := gz_d tdL_law_t2_ok 6 rfl
theorem dL_law_247 : decode cL_law 247 = .ok (.invokevirtual 27, 3) := gz_d tdL_law_t2_ok 7 rfl
theorem dL_law_250 : decode cL_law 250 = .ok (.if_icmp .eq 535, 3) := gz_d tdL_law_t2_ok 8 rfl
theorem dL_law_253 : decode cL_law 253 = .ok (.iconst 0, 1) := gz_d tdL_law_t2_ok 9 rfl
theorem dL_law_254 : decode cL_law 254 = .ok (.ireturn, 1) := gz_d tdL_law_t2_ok 10 rfl
theorem dL_law_255 : decode cL_law 255 = .ok (.aload_n 1, 1) := gz_d tdL_law_t2_ok 11 rfl
theorem dL_law_256 : decode cL_law 256 = .ok (.aload_n 0, 1) := gz_d tdL_law_t2_ok 12 rfl
theorem dL_law_257 : decode cL_law 257 = .ok (.iload_n 3, 1) := gz_d tdL_law_t2_ok 13 rfl
theorem dL_law_258 : decode cL_law 258 = .ok (.iconst 1, 1) := gz_d tdL_law_t2_ok 14 rfl
theorem dL_law_259 : decode cL_law 259 = .ok (.iadd, 1) := gz_d tdL_law_t2_ok 15 rfl
theorem dL_law_260 : decode cL_law 260 = .ok (.iaload, 1) := gz_d tdL_law_t2_ok 16 rfl
theorem dL_law_261 : decode cL_law 261 = .ok (.aload_n 0, 1) := gz_d tdL_law_t2_ok 17 rfl
theorem dL_law_262 : decode cL_law 262 = .ok (.iload_n 3, 1) := gz_d tdL_law_t2_ok 18 rfl
theorem dL_law_263 : decode cL_law 263 = .ok (.iconst 2, 1) := gz_d tdL_law_t2_ok 19 rfl
theorem dL_law_264 : decode cL_law 264 = .ok (.iadd, 1) := gz_d tdL_law_t2_ok 20 rfl
theorem dL_law_265 : decode cL_law 265 = .ok (.iaload, 1) := gz_d tdL_law_t2_ok 21 rfl
theorem dL_law_266 : decode cL_law 266 = .ok (.invokevirtual 28, 3) := gz_d tdL_law_t2_ok 22 rfl
theorem dL_law_269 : decode cL_law 269 = .ok (.aload_n 2, 1) := gz_d tdL_law_t2_ok 23 rfl
theorem dL_law_270 : decode cL_law 270 = .ok (.aload_n 0, 1) := gz_d tdL_law_t2_ok 24 rfl
theorem dL_law_271 : decode cL_law 271 = .ok (.iload_n 3, 1) := gz_d tdL_law_t2_ok 25 rfl
theorem dL_law_272 : decode cL_law 272 = .ok (.iconst 1, 1) := gz_d tdL_law_t2_ok 26 rfl
theorem dL_law_273 : decode cL_law 273 = .ok (.iadd, 1) := gz_d tdL_law_t2_ok 27 rfl
theorem dL_law_274 : decode cL_law 274 = .ok (.iaload, 1) := gz_d tdL_law_t2_ok 28 rfl
theorem dL_law_275 : decode cL_law 275 = .ok (.aload_n 0, 1) := gz_d tdL_law_t2_ok 29 rfl
theorem dL_law_276 : decode cL_law 276 = .ok (.iload_n 3, 1) := gz_d tdL_law_t2_ok 30 rfl
theorem dL_law_277 : decode cL_law 277 = .ok (.iconst 2, 1) := gz_d tdL_law_t2_ok 31 rfl
theorem dL_law_278 : decode cL_law 278 = .ok (.iadd, 1) := gz_d tdL_law_t2_ok 32 rfl
theorem dL_law_279 : decode cL_law 279 = .ok (.iaload, 1) := gz_d tdL_law_t2_ok 33 rfl
theorem dL_law_280 : decode cL_law 280 = .ok (.invokevirtual 32, 3) := gz_d tdL_law_t2_ok 34 rfl
theorem dL_law_283 : decode cL_law 283 = .ok (.if_icmp .eq 502, 3) := gz_d tdL_law_t2_ok 35 rfl
theorem dL_law_286 : decode cL_law 286 = .ok (.iconst 0, 1) := gz_d tdL_law_t2_ok 36 rfl
theorem dL_law_287 : decode cL_law 287 = .ok (.ireturn, 1) := gz_d tdL_law_t2_ok 37 rfl
theorem dL_law_288 : decode cL_law 288 = .ok (.aload_n 1, 1) := gz_d tdL_law_t2_ok 38 rfl
theorem dL_law_289 : decode cL_law 289 = .ok (.aload_n 0, 1) := gz_d tdL_law_t2_ok 39 rfl
theorem dL_law_290 : decode cL_law 290 = .ok (.iload_n 3, 1) := gz_d tdL_law_t2_ok 40 rfl
theorem dL_law_291 : decode cL_law 291 = .ok (.iconst 1, 1) := gz_d tdL_law_t2_ok 41 rfl
theorem dL_law_292 : decode cL_law 292 = .ok (.iadd, 1) := gz_d tdL_law_t2_ok 42 rfl
theorem dL_law_293 : decode cL_law 293 = .ok (.iaload, 1) := gz_d tdL_law_t2_ok 43 rfl
theorem dL_law_294 : decode cL_law 294 = .ok (.aload_n 0, 1) := gz_d tdL_law_t2_ok 44 rfl
theorem dL_law_295 : decode cL_law 295 = .ok (.iload_n 3, 1) := gz_d tdL_law_t2_ok 45 rfl
theorem dL_law_296 : decode cL_law 296 = .ok (.iconst 2, 1) := gz_d tdL_law_t2_ok 46 rfl
theorem dL_law_297 : decode cL_law 297 = .ok (.iadd, 1) := gz_d tdL_law_t2_ok 47 rfl
theorem dL_law_298 : decode cL_law 298 = .ok (.iaload, 1) := gz_d tdL_law_t2_ok 48 rfl
theorem dL_law_299 : decode cL_law 299 = .ok (.aload_n 0, 1) := gz_d tdL_law_t2_ok 49 rfl
theorem dL_law_300 : decode cL_law 300 = .ok (.iload_n 3, 1) := gz_d tdL_law_t2_ok 50 rfl
theorem dL_law_301 : decode cL_law 301 = .ok (.iconst 3, 1) := gz_d tdL_law_t2_ok 51 rfl
theorem dL_law_302 : decode cL_law 302 = .ok (.iadd, 1) := gz_d tdL_law_t2_ok 52 rfl
theorem dL_law_303 : decode cL_law 303 = .ok (.iaload, 1) := gz_d tdL_law_t2_ok 53 rfl
theorem dL_law_304 : decode cL_law 304 = .ok (.invokevirtual 33, 3) := gz_d tdL_law_t2_ok 54 rfl
theorem dL_law_307 : decode cL_law 307 = .ok (.aload_n 2, 1) := gz_d tdL_law_t2_ok 55 rfl
theorem dL_law_308 : decode cL_law 308 = .ok (.aload_n 0, 1) := gz_d tdL_law_t2_ok 56 rfl
theorem dL_law_309 : decode cL_law 309 = .ok (.iload_n 3, 1) := gz_d tdL_law_t2_ok 57 rfl
theorem dL_law_310 : decode cL_law 310 = .ok (.iconst 1, 1) := gz_d tdL_law_t2_ok 58 rfl
theorem dL_law_311 : decode cL_law 311 = .ok (.iadd, 1) := gz_d tdL_law_t2_ok 59 rfl
def tdL_law_t3 : List (Nat × Instr × Nat) := [(312, .iaload, 1), (313, .aload_n 0, 1), (314, .iload_n 3, 1), (315, .iconst 2, 1), (316, .iadd, 1), (317, .iaload, 1), (318, .aload_n 0, 1), (319, .iload_n 3, 1), (320, .iconst 3, 1), (321, .iadd, 1), (322, .iaload, 1), (323, .invokevirtual 36, 3), (326, .if_icmp .eq 459, 3), (329, .iconst 0, 1), (330, .ireturn, 1), (331, .aload_n 1, 1), (332, .aload_n 0, 1), (333, .iload_n 3, 1), (334, .iconst 1, 1), (335, .iadd, 1), (336, .iaload, 1), (337, .aload_n 0, 1), (338, .iload_n 3, 1), (339, .iconst 2, 1), (340, .iadd, 1), (341, .iaload, 1), (342, .aload_n 0, 1), (343, .iload_n 3, 1), (344, .iconst 3, 1), (345, .iadd, 1), (346, .iaload, 1), (347, .aload_n 0, 1), (348, .iload_n 3, 1), (349, .iconst 4, 1), (350, .iadd, 1), (351, .iaload, 1), (352, .invokevirtual 37, 3), (355, .aload_n 2, 1), (356, .aload_n 0, 1), (357, .iload_n 3, 1), (358, .iconst 1, 1), (359, .iadd, 1), (360, .iaload, 1), (361, .aload_n 0, 1), (362, .iload_n 3, 1), (363, .iconst 2, 1), (364, .iadd, 1), (365, .iaload, 1), (366, .aload_n 0, 1), (367, .iload_n 3, 1), (368, .iconst 3, 1), (369, .iadd, 1), (370, .iaload, 1), (371, .aload_n 0, 1), (372, .iload_n 3, 1), (373, .iconst 4, 1), (374, .iadd, 1), (375, .iaload, 1), (376, .invokevirtual 41, 3), (379, .if_icmp .eq 406, 3)]
theorem tdL_law_t3_ok : gz_dec cL_law tdL_law_t3 = true := by decide +kernel
theorem dL_law_312 : decode cL_law 312 = .ok (.iaload, 1) := gz_d tdL_law_t3_ok 0 rfl
theorem dL_law_313 : decode cL_law 313 = .ok (.aload_n 0, 1) := gz_d tdL_law_t3_ok 1 rfl
theorem dL_law_314 : decode cL_law 314 = .ok (.iload_n 3, 1) := gz_d tdL_law_t3_ok 2 rfl
theorem dL_law_315 : decode cL_law 315 = .ok (.iconst 2, 1) := gz_d tdL_law_t3_ok 3 rfl
theorem dL_law_316 : decode cL_law 316 = .ok (.iadd, 1) := gz_d tdL_law_t3_ok 4 rfl
theorem dL_law_317 : decode cL_law 317 = .ok (.iaload, 1) := gz_d tdL_law_t3_ok 5 rfl
theorem dL_law_318 : decode cL_law 318 = .ok (.aload_n 0, 1) := gz_d tdL_law_t3_ok 6 rfl
theorem dL_law_319 : decode cL_law 319 = .ok (.iload_n 3, 1) := gz_d tdL_law_t3_ok 7 rfl
theorem dL_law_320 : decode cL_law 320 = .ok (.iconst 3, 1) := gz_d tdL_law_t3_ok 8 rfl
theorem dL_law_321 : decode cL_law 321 = .ok (.iadd, 1) := gz_d tdL_law_t3_ok 9 rfl
theorem dL_law_322 : decode cL_law 322 = .ok (.iaload, 1) := gz_d tdL_law_t3_ok 10 rfl
theorem dL_law_323 : decode cL_law 323 = .ok (.invokevirtual 36, 3) := gz_d tdL_law_t3_ok 11 rfl
theorem dL_law_326 : decode cL_law 326 = .ok (.if_icmp .eq 459, 3) := gz_d tdL_law_t3_ok 12 rfl
theorem dL_law_329 : decode cL_law 329 = .ok (.iconst 0, 1) := gz_d tdL_law_t3_ok 13 rfl
theorem dL_law_330 : decode cL_law 330 = .ok (.ireturn, 1) := gz_d tdL_law_t3_ok 14 rfl
theorem dL_law_331 : decode cL_law 331 = .ok (.aload_n 1, 1) := gz_d tdL_law_t3_ok 15 rfl
theorem dL_law_332 : decode cL_law 332 = .ok (.aload_n 0, 1) := gz_d tdL_law_t3_ok 16 rfl
theorem dL_law_333 : decode cL_law 333 = .ok (.iload_n 3, 1) := gz_d tdL_law_t3_ok 17 rfl
theorem dL_law_334 : decode cL_law 334 = .ok (.iconst 1, 1) := gz_d tdL_law_t3_ok 18 rfl
theorem dL_law_335 : decode cL_law 335 = .ok (.iadd, 1) := gz_d tdL_law_t3_ok 19 rfl
theorem dL_law_336 : decode cL_law 336 = .ok (.iaload, 1) := gz_d tdL_law_t3_ok 20 rfl
theorem dL_law_337 : decode cL_law 337 = .ok (.aload_n 0, 1) := gz_d tdL_law_t3_ok 21 rfl
theorem dL_law_338 : decode cL_law 338 = .ok (.iload_n 3, 1) := gz_d tdL_law_t3_ok 22 rfl
theorem dL_law_339 : decode cL_law 339 = .ok (.iconst 2, 1) := gz_d tdL_law_t3_ok 23 rfl
theorem dL_law_340 : decode cL_law 340 = .ok (.iadd, 1) := gz_d tdL_law_t3_ok 24 rfl
theorem dL_law_341 : decode cL_law 341 = .ok (.iaload, 1) := gz_d tdL_law_t3_ok 25 rfl
theorem dL_law_342 : decode cL_law 342 = .ok (.aload_n 0, 1) := gz_d tdL_law_t3_ok 26 rfl
theorem dL_law_343 : decode cL_law 343 = .ok (.iload_n 3, 1) := gz_d tdL_law_t3_ok 27 rfl
theorem dL_law_344 : decode cL_law 344 = .ok (.iconst 3, 1) := gz_d tdL_law_t3_ok 28 rfl
theorem dL_law_345 : decode cL_law 345 = .ok (.iadd, 1) := gz_d tdL_law_t3_ok 29 rfl
theorem dL_law_346 : decode cL_law 346 = .ok (.iaload, 1) := gz_d tdL_law_t3_ok 30 rfl
theorem dL_law_347 : decode cL_law 347 = .ok (.aload_n 0, 1) := gz_d tdL_law_t3_ok 31 rfl
theorem dL_law_348 : decode cL_law 348 = .ok (.iload_n 3, 1) := gz_d tdL_law_t3_ok 32 rfl
theorem dL_law_349 : decode cL_law 349 = .ok (.iconst 4, 1) := gz_d tdL_law_t3_ok 33 rfl
theorem dL_law_350 : decode cL_law 350 = .ok (.iadd, 1) := gz_d tdL_law_t3_ok 34 rfl
theorem dL_law_351 : decode cL_law 351 = .ok (.iaload, 1) := gz_d tdL_law_t3_ok 35 rfl
theorem dL_law_352 : decode cL_law 352 = .ok (.invokevirtual 37, 3) := gz_d tdL_law_t3_ok 36 rfl
theorem dL_law_355 : decode cL_law 355 = .ok (.aload_n 2, 1) := gz_d tdL_law_t3_ok 37 rfl
theorem dL_law_356 : decode cL_law 356 = .ok (.aload_n 0, 1) := gz_d tdL_law_t3_ok 38 rfl
theorem dL_law_357 : decode cL_law 357 = .ok (.iload_n 3, 1) := gz_d tdL_law_t3_ok 39 rfl
theorem dL_law_358 : decode cL_law 358 = .ok (.iconst 1, 1) := gz_d tdL_law_t3_ok 40 rfl
theorem dL_law_359 : decode cL_law 359 = .ok (.iadd, 1) := gz_d tdL_law_t3_ok 41 rfl
theorem dL_law_360 : decode cL_law 360 = .ok (.iaload, 1) := gz_d tdL_law_t3_ok 42 rfl
theorem dL_law_361 : decode cL_law 361 = .ok (.aload_n 0, 1) := gz_d tdL_law_t3_ok 43 rfl
theorem dL_law_362 : decode cL_law 362 = .ok (.iload_n 3, 1) := gz_d tdL_law_t3_ok 44 rfl
theorem dL_law_363 : decode cL_law 363 = .ok (.iconst 2, 1) := gz_d tdL_law_t3_ok 45 rfl
theorem dL_law_364 : decode cL_law 364 = .ok (.iadd, 1) := gz_d tdL_law_t3_ok 46 rfl
theorem dL_law_365 : decode cL_law 365 = .ok (.iaload, 1) := gz_d tdL_law_t3_ok 47 rfl
theorem dL_law_366 : decode cL_law 366 = .ok (.aload_n 0, 1) := gz_d tdL_law_t3_ok 48 rfl
theorem dL_law_367 : decode cL_law 367 = .ok (.iload_n 3, 1) := gz_d tdL_law_t3_ok 49 rfl
theorem dL_law_368 : decode cL_law 368 = .ok (.iconst 3, 1) := gz_d tdL_law_t3_ok 50 rfl
theorem dL_law_369 : decode cL_law 369 = .ok (.iadd, 1) := gz_d tdL_law_t3_ok 51 rfl
theorem dL_law_370 : decode cL_law 370 = .ok (.iaload, 1) := gz_d tdL_law_t3_ok 52 rfl
theorem dL_law_371 : decode cL_law 371 = .ok (.aload_n 0, 1) := gz_d tdL_law_t3_ok 53 rfl
theorem dL_law_372 : decode cL_law 372 = .ok (.iload_n 3, 1) := gz_d tdL_law_t3_ok 54 rfl
theorem dL_law_373 : decode cL_law 373 = .ok (.iconst 4, 1) := gz_d tdL_law_t3_ok 55 rfl
theorem dL_law_374 : decode cL_law 374 = .ok (.iadd, 1) := gz_d tdL_law_t3_ok 56 rfl
theorem dL_law_375 : decode cL_law 375 = .ok (.iaload, 1) := gz_d tdL_law_t3_ok 57 rfl
theorem dL_law_376 : decode cL_law 376 = .ok (.invokevirtual 41, 3) := gz_d tdL_law_t3_ok 58 rfl
theorem dL_law_379 : decode cL_law 379 = .ok (.if_icmp .eq 406, 3) := gz_d tdL_law_t3_ok 59 rfl
def tdL_law_t4 : List (Nat × Instr × Nat) := [(382, .iconst 0, 1), (383, .ireturn, 1), (384, .aload_n 1, 1), (385, .aload_n 0, 1), (386, .iload_n 3, 1), (387, .iconst 1, 1), (388, .iadd, 1), (389, .iaload, 1), (390, .aload_n 0, 1), (391, .iload_n 3, 1), (392, .iconst 2, 1), (393, .iadd, 1), (394, .iaload, 1), (395, .aload_n 0, 1), (396, .iload_n 3, 1), (397, .iconst 3, 1), (398, .iadd, 1), (399, .iaload, 1), (400, .aload_n 0, 1), (401, .iload_n 3, 1), (402, .iconst 4, 1), (403, .iadd, 1), (404, .iaload, 1), (405, .invokevirtual 42, 3), (408, .aload_n 2, 1), (409, .aload_n 0, 1), (410, .iload_n 3, 1), (411, .iconst 1, 1), (412, .iadd, 1), (413, .iaload, 1), (414, .aload_n 0, 1), (415, .iload_n 3, 1), (416, .iconst 2, 1), (417, .iadd, 1), (418, .iaload, 1), (419, .aload_n 0, 1), (420, .iload_n 3, 1), (421, .iconst 3, 1), (422, .iadd, 1), (423, .iaload, 1), (424, .aload_n 0, 1), (425, .iload_n 3, 1), (426, .iconst 4, 1), (427, .iadd, 1), (428, .iaload, 1), (429, .invokevirtual 45, 3), (432, .if_icmp .eq 353, 3), (435, .iconst 0, 1), (436, .ireturn, 1), (437, .aload_n 1, 1), (438, .aload_n 0, 1), (439, .iload_n 3, 1), (440, .iconst 1, 1), (441, .iadd, 1), (442, .iaload, 1), (443, .aload_n 0, 1), (444, .iload_n 3, 1), (445, .iconst 2, 1), (446, .iadd, 1), (447, .iaload, 1)]
theorem tdL_law_t4_ok : gz_dec cL_law tdL_law_t4 = true := by decide +kernel
theorem dL_law_382 : decode cL_law 382 = .ok (.iconst 0, 1) := gz_d tdL_law_t4_ok 0 rfl
theorem dL_law_383 : decode cL_law 383 = .ok (.ireturn, 1) := gz_d tdL_law_t4_ok 1 rfl
theorem dL_law_384 : decode cL_law 384 = .ok (.aload_n 1, 1) := gz_d tdL_law_t4_ok 2 rfl
theorem dL_law_385 : decode cL_law 385 = .ok (.aload_n 0, 1) := gz_d tdL_law_t4_ok 3 rfl
theorem dL_law_386 : decode cL_law 386 = .ok (.iload_n 3, 1) := gz_d tdL_law_t4_ok 4 rfl
theorem dL_law_387 : decode cL_law 387 = .ok (.iconst 1, 1) := gz_d tdL_law_t4_ok 5 rfl
theorem dL_law_388 : decode cL_law 388 = .ok (.iadd, 1) := gz_d tdL_law_t4_ok 6 rfl
theorem dL_law_389 : decode cL_law 389 = .ok (.iaload, 1) := gz_d tdL_law_t4_ok 7 rfl
theorem dL_law_390 : decode cL_law 390 = .ok (.aload_n 0, 1) := gz_d tdL_law_t4_ok 8 rfl
theorem dL_law_391 : decode cL_law 391 = .ok (.iload_n 3, 1) := gz_d tdL_law_t4_ok 9 rfl
theorem dL_law_392 : decode cL_law 392 = .ok (.iconst 2, 1) := gz_d tdL_law_t4_ok 10 rfl
theorem dL_law_393 : decode cL_law 393 = .ok (.iadd, 1) := gz_d tdL_law_t4_ok 11 rfl
theorem dL_law_394 : decode cL_law 394 = .ok (.iaload, 1) := gz_d tdL_law_t4_ok 12 rfl
theorem dL_law_395 : decode cL_law 395 = .ok (.aload_n 0, 1) := gz_d tdL_law_t4_ok 13 rfl
theorem dL_law_396 : decode cL_law 396 = .ok (.iload_n 3, 1) := gz_d tdL_law_t4_ok 14 rfl
theorem dL_law_397 : decode cL_law 397 = .ok (.iconst 3, 1) := gz_d tdL_law_t4_ok 15 rfl
theorem dL_law_398 : decode cL_law 398 = .ok (.iadd, 1) := gz_d tdL_law_t4_ok 16 rfl
theorem dL_law_399 : decode cL_law 399 = .ok (.iaload, 1) := gz_d tdL_law_t4_ok 17 rfl
theorem dL_law_400 : decode cL_law 400 = .ok (.aload_n 0, 1) := gz_d tdL_law_t4_ok 18 rfl
theorem dL_law_401 : decode cL_law 401 = .ok (.iload_n 3, 1) := gz_d tdL_law_t4_ok 19 rfl
theorem dL_law_402 : decode cL_law 402 = .ok (.iconst 4, 1) := gz_d tdL_law_t4_ok 20 rfl
theorem dL_law_403 : decode cL_law 403 = .ok (.iadd, 1) := gz_d tdL_law_t4_ok 21 rfl
theorem dL_law_404 : decode cL_law 404 = .ok (.iaload, 1) := gz_d tdL_law_t4_ok 22 rfl
theorem dL_law_405 : decode cL_law 405 = .ok (.invokevirtual 42, 3) := gz_d tdL_law_t4_ok 23 rfl
theorem dL_law_408 : decode cL_law 408 = .ok (.aload_n 2, 1) := gz_d tdL_law_t4_ok 24 rfl
theorem dL_law_409 : decode cL_law 409 = .ok (.aload_n 0, 1) := gz_d tdL_law_t4_ok 25 rfl
theorem dL_law_410 : decode cL_law 410 = .ok (.iload_n 3, 1) := gz_d tdL_law_t4_ok 26 rfl
theorem dL_law_411 : decode cL_law 411 = .ok (.iconst 1, 1) := gz_d tdL_law_t4_ok 27 rfl
theorem dL_law_412 : decode cL_law 412 = .ok (.iadd, 1) := gz_d tdL_law_t4_ok 28 rfl
theorem dL_law_413 : decode cL_law 413 = .ok (.iaload, 1) := gz_d tdL_law_t4_ok 29 rfl
theorem dL_law_414 : decode cL_law 414 = .ok (.aload_n 0, 1) := gz_d tdL_law_t4_ok 30 rfl
theorem dL_law_415 : decode cL_law 415 = .ok (.iload_n 3, 1) := gz_d tdL_law_t4_ok 31 rfl
theorem dL_law_416 : decode cL_law 416 = .ok (.iconst 2, 1) := gz_d tdL_law_t4_ok 32 rfl
theorem dL_law_417 : decode cL_law 417 = .ok (.iadd, 1) := gz_d tdL_law_t4_ok 33 rfl
theorem dL_law_418 : decode cL_law 418 = .ok (.iaload, 1) := gz_d tdL_law_t4_ok 34 rfl
theorem dL_law_419 : decode cL_law 419 = .ok (.aload_n 0, 1) := gz_d tdL_law_t4_ok 35 rfl
theorem dL_law_420 : decode cL_law 420 = .ok (.iload_n 3, 1) := gz_d tdL_law_t4_ok 36 rfl
theorem dL_law_421 : decode cL_law 421 = .ok (.iconst 3, 1) := gz_d tdL_law_t4_ok 37 rfl
theorem dL_law_422 : decode cL_law 422 = .ok (.iadd, 1) := gz_d tdL_law_t4_ok 38 rfl
theorem dL_law_423 : decode cL_law 423 = .ok (.iaload, 1) := gz_d tdL_law_t4_ok 39 rfl
theorem dL_law_424 : decode cL_law 424 = .ok (.aload_n 0, 1) := gz_d tdL_law_t4_ok 40 rfl
theorem dL_law_425 : decode cL_law 425 = .ok (.iload_n 3, 1) := gz_d tdL_law_t4_ok 41 rfl
theorem dL_law_426 : decode cL_law 426 = .ok (.iconst 4, 1) := gz_d tdL_law_t4_ok 42 rfl
theorem dL_law_427 : decode cL_law 427 = .ok (.iadd, 1) := gz_d tdL_law_t4_ok 43 rfl
theorem dL_law_428 : decode cL_law 428 = .ok (.iaload, 1) := gz_d tdL_law_t4_ok 44 rfl
theorem dL_law_429 : decode cL_law 429 = .ok (.invokevirtual 45, 3) := gz_d tdL_law_t4_ok 45 rfl
theorem dL_law_432 : decode cL_law 432 = .ok (.if_icmp .eq 353, 3) := gz_d tdL_law_t4_ok 46 rfl
theorem dL_law_435 : decode cL_law 435 = .ok (.iconst 0, 1) := gz_d tdL_law_t4_ok 47 rfl
theorem dL_law_436 : decode cL_law 436 = .ok (.ireturn, 1) := gz_d tdL_law_t4_ok 48 rfl
theorem dL_law_437 : decode cL_law 437 = .ok (.aload_n 1, 1) := gz_d tdL_law_t4_ok 49 rfl
theorem dL_law_438 : decode cL_law 438 = .ok (.aload_n 0, 1) := gz_d tdL_law_t4_ok 50 rfl
theorem dL_law_439 : decode cL_law 439 = .ok (.iload_n 3, 1) := gz_d tdL_law_t4_ok 51 rfl
theorem dL_law_440 : decode cL_law 440 = .ok (.iconst 1, 1) := gz_d tdL_law_t4_ok 52 rfl
theorem dL_law_441 : decode cL_law 441 = .ok (.iadd, 1) := gz_d tdL_law_t4_ok 53 rfl
theorem dL_law_442 : decode cL_law 442 = .ok (.iaload, 1) := gz_d tdL_law_t4_ok 54 rfl
theorem dL_law_443 : decode cL_law 443 = .ok (.aload_n 0, 1) := gz_d tdL_law_t4_ok 55 rfl
theorem dL_law_444 : decode cL_law 444 = .ok (.iload_n 3, 1) := gz_d tdL_law_t4_ok 56 rfl
theorem dL_law_445 : decode cL_law 445 = .ok (.iconst 2, 1) := gz_d tdL_law_t4_ok 57 rfl
theorem dL_law_446 : decode cL_law 446 = .ok (.iadd, 1) := gz_d tdL_law_t4_ok 58 rfl
theorem dL_law_447 : decode cL_law 447 = .ok (.iaload, 1) := gz_d tdL_law_t4_ok 59 rfl
def tdL_law_t5 : List (Nat × Instr × Nat) := [(448, .aload_n 0, 1), (449, .iload_n 3, 1), (450, .iconst 3, 1), (451, .iadd, 1), (452, .iaload, 1), (453, .aload_n 0, 1), (454, .iload_n 3, 1), (455, .iconst 4, 1), (456, .iadd, 1), (457, .iaload, 1), (458, .aload_n 0, 1), (459, .iload_n 3, 1), (460, .iconst 5, 1), (461, .iadd, 1), (462, .iaload, 1), (463, .aload_n 0, 1), (464, .iload_n 3, 1), (465, .bipush 6, 2), (467, .iadd, 1), (468, .iaload, 1), (469, .invokevirtual 46, 3), (472, .aload_n 2, 1), (473, .aload_n 0, 1), (474, .iload_n 3, 1), (475, .iconst 1, 1), (476, .iadd, 1), (477, .iaload, 1), (478, .aload_n 0, 1), (479, .iload_n 3, 1), (480, .iconst 2, 1), (481, .iadd, 1), (482, .iaload, 1), (483, .aload_n 0, 1), (484, .iload_n 3, 1), (485, .iconst 3, 1), (486, .iadd, 1), (487, .iaload, 1), (488, .aload_n 0, 1), (489, .iload_n 3, 1), (490, .iconst 4, 1), (491, .iadd, 1), (492, .iaload, 1), (493, .aload_n 0, 1), (494, .iload_n 3, 1), (495, .iconst 5, 1), (496, .iadd, 1), (497, .iaload, 1), (498, .aload_n 0, 1), (499, .iload_n 3, 1), (500, .bipush 6, 2), (502, .iadd, 1), (503, .iaload, 1), (504, .invokevirtual 50, 3), (507, .if_icmp .eq 278, 3), (510, .iconst 0, 1), (511, .ireturn, 1), (512, .aload_n 1, 1), (513, .aload_n 0, 1), (514, .iload_n 3, 1), (515, .iconst 1, 1)]
theorem tdL_law_t5_ok : gz_dec cL_law tdL_law_t5 = true := by decide +kernel
theorem dL_law_448 : decode cL_law 448 = .ok (.aload_n 0, 1) := gz_d tdL_law_t5_ok 0 rfl
theorem dL_law_449 : decode cL_law 449 = .ok (.iload_n 3, 1) := gz_d tdL_law_t5_ok 1 rfl
theorem dL_law_450 : decode cL_law 450 = .ok (.iconst 3, 1) := gz_d tdL_law_t5_ok 2 rfl
theorem dL_law_451 : decode cL_law 451 = .ok (.iadd, 1) := gz_d tdL_law_t5_ok 3 rfl
theorem dL_law_452 : decode cL_law 452 = .ok (.iaload, 1) := gz_d tdL_law_t5_ok 4 rfl
theorem dL_law_453 : decode cL_law 453 = .ok (.aload_n 0, 1) := gz_d tdL_law_t5_ok 5 rfl
theorem dL_law_454 : decode cL_law 454 = .ok (.iload_n 3, 1) := gz_d tdL_law_t5_ok 6 rfl
theorem dL_law_455 : decode cL_law 455 = .ok (.iconst 4, 1) := gz_d tdL_law_t5_ok 7 rfl
theorem dL_law_456 : decode cL_law 456 = .ok (.iadd, 1) := gz_d tdL_law_t5_ok 8 rfl
theorem dL_law_457 : decode cL_law 457 = .ok (.iaload, 1) := gz_d tdL_law_t5_ok 9 rfl
theorem dL_law_458 : decode cL_law 458 = .ok (.aload_n 0, 1) := gz_d tdL_law_t5_ok 10 rfl
theorem dL_law_459 : decode cL_law 459 = .ok (.iload_n 3, 1) := gz_d tdL_law_t5_ok 11 rfl
theorem dL_law_460 : decode cL_law 460 = .ok (.iconst 5, 1) := gz_d tdL_law_t5_ok 12 rfl
theorem dL_law_461 : decode cL_law 461 = .ok (.iadd, 1) := gz_d tdL_law_t5_ok 13 rfl
theorem dL_law_462 : decode cL_law 462 = .ok (.iaload, 1) := gz_d tdL_law_t5_ok 14 rfl
theorem dL_law_463 : decode cL_law 463 = .ok (.aload_n 0, 1) := gz_d tdL_law_t5_ok 15 rfl
theorem dL_law_464 : decode cL_law 464 = .ok (.iload_n 3, 1) := gz_d tdL_law_t5_ok 16 rfl
theorem dL_law_465 : decode cL_law 465 = .ok (.bipush 6, 2) := gz_d tdL_law_t5_ok 17 rfl
theorem dL_law_467 : decode cL_law 467 = .ok (.iadd, 1) := gz_d tdL_law_t5_ok 18 rfl
theorem dL_law_468 : decode cL_law 468 = .ok (.iaload, 1) := gz_d tdL_law_t5_ok 19 rfl
theorem dL_law_469 : decode cL_law 469 = .ok (.invokevirtual 46, 3) := gz_d tdL_law_t5_ok 20 rfl
theorem dL_law_472 : decode cL_law 472 = .ok (.aload_n 2, 1) := gz_d tdL_law_t5_ok 21 rfl
theorem dL_law_473 : decode cL_law 473 = .ok (.aload_n 0, 1) := gz_d tdL_law_t5_ok 22 rfl
theorem dL_law_474 : decode cL_law 474 = .ok (.iload_n 3, 1) := gz_d tdL_law_t5_ok 23 rfl
theorem dL_law_475 : decode cL_law 475 = .ok (.iconst 1, 1) := gz_d tdL_law_t5_ok 24 rfl
theorem dL_law_476 : decode cL_law 476 = .ok (.iadd, 1) := gz_d tdL_law_t5_ok 25 rfl
theorem dL_law_477 : decode cL_law 477 = .ok (.iaload, 1) := gz_d tdL_law_t5_ok 26 rfl
theorem dL_law_478 : decode cL_law 478 = .ok (.aload_n 0, 1) := gz_d tdL_law_t5_ok 27 rfl
theorem dL_law_479 : decode cL_law 479 = .ok (.iload_n 3, 1) := gz_d tdL_law_t5_ok 28 rfl
theorem dL_law_480 : decode cL_law 480 = .ok (.iconst 2, 1) := gz_d tdL_law_t5_ok 29 rfl
theorem dL_law_481 : decode cL_law 481 = .ok (.iadd, 1) := gz_d tdL_law_t5_ok 30 rfl
theorem dL_law_482 : decode cL_law 482 = .ok (.iaload, 1) := gz_d tdL_law_t5_ok 31 rfl
theorem dL_law_483 : decode cL_law 483 = .ok (.aload_n 0, 1) := gz_d tdL_law_t5_ok 32 rfl
theorem dL_law_484 : decode cL_law 484 = .ok (.iload_n 3, 1) := gz_d tdL_law_t5_ok 33 rfl
theorem dL_law_485 : decode cL_law 485 = .ok (.iconst 3, 1) := gz_d tdL_law_t5_ok 34 rfl
theorem dL_law_486 : decode cL_law 486 = .ok (.iadd, 1) := gz_d tdL_law_t5_ok 35 rfl
theorem dL_law_487 : decode cL_law 487 = .ok (.iaload, 1) := gz_d tdL_law_t5_ok 36 rfl
theorem dL_law_488 : decode cL_law 488 = .ok (.aload_n 0, 1) := gz_d tdL_law_t5_ok 37 rfl
theorem dL_law_489 : decode cL_law 489 = .ok (.iload_n 3, 1) := gz_d tdL_law_t5_ok 38 rfl
theorem dL_law_490 : decode cL_law 490 = .ok (.iconst 4, 1) := gz_d tdL_law_t5_ok 39 rfl
theorem dL_law_491 : decode cL_law 491 = .ok (.iadd, 1) := gz_d tdL_law_t5_ok 40 rfl
theorem dL_law_492 : decode cL_law 492 = .ok (.iaload, 1) := gz_d tdL_law_t5_ok 41 rfl
theorem dL_law_493 : decode cL_law 493 = .ok (.aload_n 0, 1) := gz_d tdL_law_t5_ok 42 rfl
theorem dL_law_494 : decode cL_law 494 = .ok (.iload_n 3, 1) := gz_d tdL_law_t5_ok 43 rfl
theorem dL_law_495 : decode cL_law 495 = .ok (.iconst 5, 1) := gz_d tdL_law_t5_ok 44 rfl
theorem dL_law_496 : decode cL_law 496 = .ok (.iadd, 1) := gz_d tdL_law_t5_ok 45 rfl
theorem dL_law_497 : decode cL_law 497 = .ok (.iaload, 1) := gz_d tdL_law_t5_ok 46 rfl
theorem dL_law_498 : decode cL_law 498 = .ok (.aload_n 0, 1) := gz_d tdL_law_t5_ok 47 rfl
theorem dL_law_499 : decode cL_law 499 = .ok (.iload_n 3, 1) := gz_d tdL_law_t5_ok 48 rfl
theorem dL_law_500 : decode cL_law 500 = .ok (.bipush 6, 2) := gz_d tdL_law_t5_ok 49 rfl
theorem dL_law_502 : decode cL_law 502 = .ok (.iadd, 1) := gz_d tdL_law_t5_ok 50 rfl
theorem dL_law_503 : decode cL_law 503 = .ok (.iaload, 1) := gz_d tdL_law_t5_ok 51 rfl
theorem dL_law_504 : decode cL_law 504 = .ok (.invokevirtual 50, 3) := gz_d tdL_law_t5_ok 52 rfl
theorem dL_law_507 : decode cL_law 507 = .ok (.if_icmp .eq 278, 3) := gz_d tdL_law_t5_ok 53 rfl
theorem dL_law_510 : decode cL_law 510 = .ok (.iconst 0, 1) := gz_d tdL_law_t5_ok 54 rfl
theorem dL_law_511 : decode cL_law 511 = .ok (.ireturn, 1) := gz_d tdL_law_t5_ok 55 rfl
theorem dL_law_512 : decode cL_law 512 = .ok (.aload_n 1, 1) := gz_d tdL_law_t5_ok 56 rfl
theorem dL_law_513 : decode cL_law 513 = .ok (.aload_n 0, 1) := gz_d tdL_law_t5_ok 57 rfl
theorem dL_law_514 : decode cL_law 514 = .ok (.iload_n 3, 1) := gz_d tdL_law_t5_ok 58 rfl
theorem dL_law_515 : decode cL_law 515 = .ok (.iconst 1, 1) := gz_d tdL_law_t5_ok 59 rfl
def tdL_law_t6 : List (Nat × Instr × Nat) := [(516, .iadd, 1), (517, .iaload, 1), (518, .aload_n 0, 1), (519, .iload_n 3, 1), (520, .iconst 2, 1), (521, .iadd, 1), (522, .iaload, 1), (523, .invokevirtual 51, 3), (526, .aload_n 2, 1), (527, .aload_n 0, 1), (528, .iload_n 3, 1), (529, .iconst 1, 1), (530, .iadd, 1), (531, .iaload, 1), (532, .aload_n 0, 1), (533, .iload_n 3, 1), (534, .iconst 2, 1), (535, .iadd, 1), (536, .iaload, 1), (537, .invokevirtual 55, 3), (540, .lcmp, 1), (541, .ifCond .eq 244, 3), (544, .iconst 0, 1), (545, .ireturn, 1), (546, .aload_n 1, 1), (547, .aload_n 0, 1), (548, .iload_n 3, 1), (549, .iconst 1, 1), (550, .iadd, 1), (551, .iaload, 1), (552, .aload_n 0, 1), (553, .iload_n 3, 1), (554, .iconst 2, 1), (555, .iadd, 1), (556, .iaload, 1), (557, .invokevirtual 56, 3), (560, .aload_n 2, 1), (561, .aload_n 0, 1), (562, .iload_n 3, 1), (563, .iconst 1, 1), (564, .iadd, 1), (565, .iaload, 1), (566, .aload_n 0, 1), (567, .iload_n 3, 1), (568, .iconst 2, 1), (569, .iadd, 1), (570, .iaload, 1), (571, .invokevirtual 59, 3), (574, .lcmp, 1), (575, .ifCond .eq 210, 3), (578, .iconst 0, 1), (579, .ireturn, 1), (580, .aload_n 1, 1), (581, .aload_n 0, 1), (582, .iload_n 3, 1), (583, .iconst 1, 1), (584, .iadd, 1), (585, .iaload, 1), (586, .aload_n 0, 1), (587, .iload_n 3, 1)]
theorem tdL_law_t6_ok : gz_dec cL_law tdL_law_t6 = true := by decide +kernel
theorem dL_law_516 : decode cL_law 516 = .ok (.iadd, 1) := gz_d tdL_law_t6_ok 0 rfl
theorem dL_law_517 : decode cL_law 517 = .ok (.iaload, 1) := gz_d tdL_law_t6_ok 1 rfl
theorem dL_law_518 : decode cL_law 518 = .ok (.aload_n 0, 1) := gz_d tdL_law_t6_ok 2 rfl
theorem dL_law_519 : decode cL_law 519 = .ok (.iload_n 3, 1) := gz_d tdL_law_t6_ok 3 rfl
theorem dL_law_520 : decode cL_law 520 = .ok (.iconst 2, 1) := gz_d tdL_law_t6_ok 4 rfl
theorem dL_law_521 : decode cL_law 521 = .ok (.iadd, 1) := gz_d tdL_law_t6_ok 5 rfl
theorem dL_law_522 : decode cL_law 522 = .ok (.iaload, 1) := gz_d tdL_law_t6_ok 6 rfl
theorem dL_law_523 : decode cL_law 523 = .ok (.invokevirtual 51, 3) := gz_d tdL_law_t6_ok 7 rfl
theorem dL_law_526 : decode cL_law 526 = .ok (.aload_n 2, 1) := gz_d tdL_law_t6_ok 8 rfl
theorem dL_law_527 : decode cL_law 527 = .ok (.aload_n 0, 1) := gz_d tdL_law_t6_ok 9 rfl
theorem dL_law_528 : decode cL_law 528 = .ok (.iload_n 3, 1) := gz_d tdL_law_t6_ok 10 rfl
theorem dL_law_529 : decode cL_law 529 = .ok (.iconst 1, 1) := gz_d tdL_law_t6_ok 11 rfl
theorem dL_law_530 : decode cL_law 530 = .ok (.iadd, 1) := gz_d tdL_law_t6_ok 12 rfl
theorem dL_law_531 : decode cL_law 531 = .ok (.iaload, 1) := gz_d tdL_law_t6_ok 13 rfl
theorem dL_law_532 : decode cL_law 532 = .ok (.aload_n 0, 1) := gz_d tdL_law_t6_ok 14 rfl
theorem dL_law_533 : decode cL_law 533 = .ok (.iload_n 3, 1) := gz_d tdL_law_t6_ok 15 rfl
theorem dL_law_534 : decode cL_law 534 = .ok (.iconst 2, 1) := gz_d tdL_law_t6_ok 16 rfl
theorem dL_law_535 : decode cL_law 535 = .ok (.iadd, 1) := gz_d tdL_law_t6_ok 17 rfl
theorem dL_law_536 : decode cL_law 536 = .ok (.iaload, 1) := gz_d tdL_law_t6_ok 18 rfl
theorem dL_law_537 : decode cL_law 537 = .ok (.invokevirtual 55, 3) := gz_d tdL_law_t6_ok 19 rfl
theorem dL_law_540 : decode cL_law 540 = .ok (.lcmp, 1) := gz_d tdL_law_t6_ok 20 rfl
theorem dL_law_541 : decode cL_law 541 = .ok (.ifCond .eq 244, 3) := gz_d tdL_law_t6_ok 21 rfl
theorem dL_law_544 : decode cL_law 544 = .ok (.iconst 0, 1) := gz_d tdL_law_t6_ok 22 rfl
theorem dL_law_545 : decode cL_law 545 = .ok (.ireturn, 1) := gz_d tdL_law_t6_ok 23 rfl
theorem dL_law_546 : decode cL_law 546 = .ok (.aload_n 1, 1) := gz_d tdL_law_t6_ok 24 rfl
theorem dL_law_547 : decode cL_law 547 = .ok (.aload_n 0, 1) := gz_d tdL_law_t6_ok 25 rfl
theorem dL_law_548 : decode cL_law 548 = .ok (.iload_n 3, 1) := gz_d tdL_law_t6_ok 26 rfl
theorem dL_law_549 : decode cL_law 549 = .ok (.iconst 1, 1) := gz_d tdL_law_t6_ok 27 rfl
theorem dL_law_550 : decode cL_law 550 = .ok (.iadd, 1) := gz_d tdL_law_t6_ok 28 rfl
theorem dL_law_551 : decode cL_law 551 = .ok (.iaload, 1) := gz_d tdL_law_t6_ok 29 rfl
theorem dL_law_552 : decode cL_law 552 = .ok (.aload_n 0, 1) := gz_d tdL_law_t6_ok 30 rfl
theorem dL_law_553 : decode cL_law 553 = .ok (.iload_n 3, 1) := gz_d tdL_law_t6_ok 31 rfl
theorem dL_law_554 : decode cL_law 554 = .ok (.iconst 2, 1) := gz_d tdL_law_t6_ok 32 rfl
theorem dL_law_555 : decode cL_law 555 = .ok (.iadd, 1) := gz_d tdL_law_t6_ok 33 rfl
theorem dL_law_556 : decode cL_law 556 = .ok (.iaload, 1) := gz_d tdL_law_t6_ok 34 rfl
theorem dL_law_557 : decode cL_law 557 = .ok (.invokevirtual 56, 3) := gz_d tdL_law_t6_ok 35 rfl
theorem dL_law_560 : decode cL_law 560 = .ok (.aload_n 2, 1) := gz_d tdL_law_t6_ok 36 rfl
theorem dL_law_561 : decode cL_law 561 = .ok (.aload_n 0, 1) := gz_d tdL_law_t6_ok 37 rfl
theorem dL_law_562 : decode cL_law 562 = .ok (.iload_n 3, 1) := gz_d tdL_law_t6_ok 38 rfl
theorem dL_law_563 : decode cL_law 563 = .ok (.iconst 1, 1) := gz_d tdL_law_t6_ok 39 rfl
theorem dL_law_564 : decode cL_law 564 = .ok (.iadd, 1) := gz_d tdL_law_t6_ok 40 rfl
theorem dL_law_565 : decode cL_law 565 = .ok (.iaload, 1) := gz_d tdL_law_t6_ok 41 rfl
theorem dL_law_566 : decode cL_law 566 = .ok (.aload_n 0, 1) := gz_d tdL_law_t6_ok 42 rfl
theorem dL_law_567 : decode cL_law 567 = .ok (.iload_n 3, 1) := gz_d tdL_law_t6_ok 43 rfl
theorem dL_law_568 : decode cL_law 568 = .ok (.iconst 2, 1) := gz_d tdL_law_t6_ok 44 rfl
theorem dL_law_569 : decode cL_law 569 = .ok (.iadd, 1) := gz_d tdL_law_t6_ok 45 rfl
theorem dL_law_570 : decode cL_law 570 = .ok (.iaload, 1) := gz_d tdL_law_t6_ok 46 rfl
theorem dL_law_571 : decode cL_law 571 = .ok (.invokevirtual 59, 3) := gz_d tdL_law_t6_ok 47 rfl
theorem dL_law_574 : decode cL_law 574 = .ok (.lcmp, 1) := gz_d tdL_law_t6_ok 48 rfl
theorem dL_law_575 : decode cL_law 575 = .ok (.ifCond .eq 210, 3) := gz_d tdL_law_t6_ok 49 rfl
theorem dL_law_578 : decode cL_law 578 = .ok (.iconst 0, 1) := gz_d tdL_law_t6_ok 50 rfl
theorem dL_law_579 : decode cL_law 579 = .ok (.ireturn, 1) := gz_d tdL_law_t6_ok 51 rfl
theorem dL_law_580 : decode cL_law 580 = .ok (.aload_n 1, 1) := gz_d tdL_law_t6_ok 52 rfl
theorem dL_law_581 : decode cL_law 581 = .ok (.aload_n 0, 1) := gz_d tdL_law_t6_ok 53 rfl
theorem dL_law_582 : decode cL_law 582 = .ok (.iload_n 3, 1) := gz_d tdL_law_t6_ok 54 rfl
theorem dL_law_583 : decode cL_law 583 = .ok (.iconst 1, 1) := gz_d tdL_law_t6_ok 55 rfl
theorem dL_law_584 : decode cL_law 584 = .ok (.iadd, 1) := gz_d tdL_law_t6_ok 56 rfl
theorem dL_law_585 : decode cL_law 585 = .ok (.iaload, 1) := gz_d tdL_law_t6_ok 57 rfl
theorem dL_law_586 : decode cL_law 586 = .ok (.aload_n 0, 1) := gz_d tdL_law_t6_ok 58 rfl
theorem dL_law_587 : decode cL_law 587 = .ok (.iload_n 3, 1) := gz_d tdL_law_t6_ok 59 rfl
def tdL_law_t7 : List (Nat × Instr × Nat) := [(588, .iconst 2, 1), (589, .iadd, 1), (590, .iaload, 1), (591, .invokevirtual 60, 3), (594, .aload_n 2, 1), (595, .aload_n 0, 1), (596, .iload_n 3, 1), (597, .iconst 1, 1), (598, .iadd, 1), (599, .iaload, 1), (600, .aload_n 0, 1), (601, .iload_n 3, 1), (602, .iconst 2, 1), (603, .iadd, 1), (604, .iaload, 1), (605, .invokevirtual 63, 3), (608, .if_icmp .eq 177, 3), (611, .iconst 0, 1), (612, .ireturn, 1), (613, .aload_n 1, 1), (614, .aload_n 0, 1), (615, .iload_n 3, 1), (616, .iconst 1, 1), (617, .iadd, 1), (618, .iaload, 1), (619, .aload_n 0, 1), (620, .iload_n 3, 1), (621, .iconst 2, 1), (622, .iadd, 1), (623, .iaload, 1), (624, .aload_n 0, 1), (625, .iload_n 3, 1), (626, .iconst 3, 1), (627, .iadd, 1), (628, .iaload, 1), (629, .invokevirtual 64, 3), (632, .aload_n 2, 1), (633, .aload_n 0, 1), (634, .iload_n 3, 1), (635, .iconst 1, 1), (636, .iadd, 1), (637, .iaload, 1), (638, .aload_n 0, 1), (639, .iload_n 3, 1), (640, .iconst 2, 1), (641, .iadd, 1), (642, .iaload, 1), (643, .aload_n 0, 1), (644, .iload_n 3, 1), (645, .iconst 3, 1), (646, .iadd, 1), (647, .iaload, 1), (648, .invokevirtual 67, 3), (651, .if_icmp .eq 134, 3), (654, .iconst 0, 1), (655, .ireturn, 1), (656, .aload_n 1, 1), (657, .aload_n 0, 1), (658, .iload_n 3, 1), (659, .iconst 1, 1)]
theorem tdL_law_t7_ok : gz_dec cL_law tdL_law_t7 = true := by decide +kernel
theorem dL_law_588 : decode cL_law 588 = .ok (.iconst 2, 1) := gz_d tdL_law_t7_ok 0 rfl
theorem dL_law_589 : decode cL_law 589 = .ok (.iadd, 1) := gz_d tdL_law_t7_ok 1 rfl
theorem dL_law_590 : decode cL_law 590 = .ok (.iaload, 1) := gz_d tdL_law_t7_ok 2 rfl
theorem dL_law_591 : decode cL_law 591 = .ok (.invokevirtual 60, 3) := gz_d tdL_law_t7_ok 3 rfl
theorem dL_law_594 : decode cL_law 594 = .ok (.aload_n 2, 1) := gz_d tdL_law_t7_ok 4 rfl
theorem dL_law_595 : decode cL_law 595 = .ok (.aload_n 0, 1) := gz_d tdL_law_t7_ok 5 rfl
theorem dL_law_596 : decode cL_law 596 = .ok (.iload_n 3, 1) := gz_d tdL_law_t7_ok 6 rfl
theorem dL_law_597 : decode cL_law 597 = .ok (.iconst 1, 1) := gz_d tdL_law_t7_ok 7 rfl
theorem dL_law_598 : decode cL_law 598 = .ok (.iadd, 1) := gz_d tdL_law_t7_ok 8 rfl
theorem dL_law_599 : decode cL_law 599 = .ok (.iaload, 1) := gz_d tdL_law_t7_ok 9 rfl
theorem dL_law_600 : decode cL_law 600 = .ok (.aload_n 0, 1) := gz_d tdL_law_t7_ok 10 rfl
theorem dL_law_601 : decode cL_law 601 = .ok (.iload_n 3, 1) := gz_d tdL_law_t7_ok 11 rfl
theorem dL_law_602 : decode cL_law 602 = .ok (.iconst 2, 1) := gz_d tdL_law_t7_ok 12 rfl
theorem dL_law_603 : decode cL_law 603 = .ok (.iadd, 1) := gz_d tdL_law_t7_ok 13 rfl
theorem dL_law_604 : decode cL_law 604 = .ok (.iaload, 1) := gz_d tdL_law_t7_ok 14 rfl
theorem dL_law_605 : decode cL_law 605 = .ok (.invokevirtual 63, 3) := gz_d tdL_law_t7_ok 15 rfl
theorem dL_law_608 : decode cL_law 608 = .ok (.if_icmp .eq 177, 3) := gz_d tdL_law_t7_ok 16 rfl
theorem dL_law_611 : decode cL_law 611 = .ok (.iconst 0, 1) := gz_d tdL_law_t7_ok 17 rfl
theorem dL_law_612 : decode cL_law 612 = .ok (.ireturn, 1) := gz_d tdL_law_t7_ok 18 rfl
theorem dL_law_613 : decode cL_law 613 = .ok (.aload_n 1, 1) := gz_d tdL_law_t7_ok 19 rfl
theorem dL_law_614 : decode cL_law 614 = .ok (.aload_n 0, 1) := gz_d tdL_law_t7_ok 20 rfl
theorem dL_law_615 : decode cL_law 615 = .ok (.iload_n 3, 1) := gz_d tdL_law_t7_ok 21 rfl
theorem dL_law_616 : decode cL_law 616 = .ok (.iconst 1, 1) := gz_d tdL_law_t7_ok 22 rfl
theorem dL_law_617 : decode cL_law 617 = .ok (.iadd, 1) := gz_d tdL_law_t7_ok 23 rfl
theorem dL_law_618 : decode cL_law 618 = .ok (.iaload, 1) := gz_d tdL_law_t7_ok 24 rfl
theorem dL_law_619 : decode cL_law 619 = .ok (.aload_n 0, 1) := gz_d tdL_law_t7_ok 25 rfl
theorem dL_law_620 : decode cL_law 620 = .ok (.iload_n 3, 1) := gz_d tdL_law_t7_ok 26 rfl
theorem dL_law_621 : decode cL_law 621 = .ok (.iconst 2, 1) := gz_d tdL_law_t7_ok 27 rfl
theorem dL_law_622 : decode cL_law 622 = .ok (.iadd, 1) := gz_d tdL_law_t7_ok 28 rfl
theorem dL_law_623 : decode cL_law 623 = .ok (.iaload, 1) := gz_d tdL_law_t7_ok 29 rfl
theorem dL_law_624 : decode cL_law 624 = .ok (.aload_n 0, 1) := gz_d tdL_law_t7_ok 30 rfl
theorem dL_law_625 : decode cL_law 625 = .ok (.iload_n 3, 1) := gz_d tdL_law_t7_ok 31 rfl
theorem dL_law_626 : decode cL_law 626 = .ok (.iconst 3, 1) := gz_d tdL_law_t7_ok 32 rfl
theorem dL_law_627 : decode cL_law 627 = .ok (.iadd, 1) := gz_d tdL_law_t7_ok 33 rfl
theorem dL_law_628 : decode cL_law 628 = .ok (.iaload, 1) := gz_d tdL_law_t7_ok 34 rfl
theorem dL_law_629 : decode cL_law 629 = .ok (.invokevirtual 64, 3) := gz_d tdL_law_t7_ok 35 rfl
theorem dL_law_632 : decode cL_law 632 = .ok (.aload_n 2, 1) := gz_d tdL_law_t7_ok 36 rfl
theorem dL_law_633 : decode cL_law 633 = .ok (.aload_n 0, 1) := gz_d tdL_law_t7_ok 37 rfl
theorem dL_law_634 : decode cL_law 634 = .ok (.iload_n 3, 1) := gz_d tdL_law_t7_ok 38 rfl
theorem dL_law_635 : decode cL_law 635 = .ok (.iconst 1, 1) := gz_d tdL_law_t7_ok 39 rfl
theorem dL_law_636 : decode cL_law 636 = .ok (.iadd, 1) := gz_d tdL_law_t7_ok 40 rfl
theorem dL_law_637 : decode cL_law 637 = .ok (.iaload, 1) := gz_d tdL_law_t7_ok 41 rfl
theorem dL_law_638 : decode cL_law 638 = .ok (.aload_n 0, 1) := gz_d tdL_law_t7_ok 42 rfl
theorem dL_law_639 : decode cL_law 639 = .ok (.iload_n 3, 1) := gz_d tdL_law_t7_ok 43 rfl
theorem dL_law_640 : decode cL_law 640 = .ok (.iconst 2, 1) := gz_d tdL_law_t7_ok 44 rfl
theorem dL_law_641 : decode cL_law 641 = .ok (.iadd, 1) := gz_d tdL_law_t7_ok 45 rfl
theorem dL_law_642 : decode cL_law 642 = .ok (.iaload, 1) := gz_d tdL_law_t7_ok 46 rfl
theorem dL_law_643 : decode cL_law 643 = .ok (.aload_n 0, 1) := gz_d tdL_law_t7_ok 47 rfl
theorem dL_law_644 : decode cL_law 644 = .ok (.iload_n 3, 1) := gz_d tdL_law_t7_ok 48 rfl
theorem dL_law_645 : decode cL_law 645 = .ok (.iconst 3, 1) := gz_d tdL_law_t7_ok 49 rfl
theorem dL_law_646 : decode cL_law 646 = .ok (.iadd, 1) := gz_d tdL_law_t7_ok 50 rfl
theorem dL_law_647 : decode cL_law 647 = .ok (.iaload, 1) := gz_d tdL_law_t7_ok 51 rfl
theorem dL_law_648 : decode cL_law 648 = .ok (.invokevirtual 67, 3) := gz_d tdL_law_t7_ok 52 rfl
theorem dL_law_651 : decode cL_law 651 = .ok (.if_icmp .eq 134, 3) := gz_d tdL_law_t7_ok 53 rfl
theorem dL_law_654 : decode cL_law 654 = .ok (.iconst 0, 1) := gz_d tdL_law_t7_ok 54 rfl
theorem dL_law_655 : decode cL_law 655 = .ok (.ireturn, 1) := gz_d tdL_law_t7_ok 55 rfl
theorem dL_law_656 : decode cL_law 656 = .ok (.aload_n 1, 1) := gz_d tdL_law_t7_ok 56 rfl
theorem dL_law_657 : decode cL_law 657 = .ok (.aload_n 0, 1) := gz_d tdL_law_t7_ok 57 rfl
theorem dL_law_658 : decode cL_law 658 = .ok (.iload_n 3, 1) := gz_d tdL_law_t7_ok 58 rfl
theorem dL_law_659 : decode cL_law 659 = .ok (.iconst 1, 1) := gz_d tdL_law_t7_ok 59 rfl
def tdL_law_t8 : List (Nat × Instr × Nat) := [(660, .iadd, 1), (661, .iaload, 1), (662, .invokevirtual 68, 3), (665, .aload_n 2, 1), (666, .aload_n 0, 1), (667, .iload_n 3, 1), (668, .iconst 1, 1), (669, .iadd, 1), (670, .iaload, 1), (671, .invokevirtual 71, 3), (674, .if_icmp .eq 111, 3), (677, .iconst 0, 1), (678, .ireturn, 1), (679, .aload_n 1, 1), (680, .aload_n 0, 1), (681, .iload_n 3, 1), (682, .iconst 1, 1), (683, .iadd, 1), (684, .iaload, 1), (685, .invokevirtual 72, 3), (688, .aload_n 2, 1), (689, .aload_n 0, 1), (690, .iload_n 3, 1), (691, .iconst 1, 1), (692, .iadd, 1), (693, .iaload, 1), (694, .invokevirtual 75, 3), (697, .if_icmp .eq 88, 3), (700, .iconst 0, 1), (701, .ireturn, 1), (702, .aload_n 1, 1), (703, .aload_n 0, 1), (704, .iload_n 3, 1), (705, .iconst 1, 1), (706, .iadd, 1), (707, .iaload, 1), (708, .invokevirtual 76, 3), (711, .aload_n 2, 1), (712, .aload_n 0, 1), (713, .iload_n 3, 1), (714, .iconst 1, 1), (715, .iadd, 1), (716, .iaload, 1), (717, .invokevirtual 79, 3), (720, .if_icmp .eq 65, 3), (723, .iconst 0, 1), (724, .ireturn, 1), (725, .aload_n 1, 1), (726, .aload_n 0, 1), (727, .iload_n 3, 1), (728, .iconst 1, 1), (729, .iadd, 1), (730, .iaload, 1), (731, .invokevirtual 80, 3), (734, .aload_n 2, 1), (735, .aload_n 0, 1), (736, .iload_n 3, 1), (737, .iconst 1, 1), (738, .iadd, 1), (739, .iaload, 1)]
theorem tdL_law_t8_ok : gz_dec cL_law tdL_law_t8 = true := by decide +kernel
theorem dL_law_660 : decode cL_law 660 = .ok (.iadd, 1) := gz_d tdL_law_t8_ok 0 rfl
theorem dL_law_661 : decode cL_law 661 = .ok (.iaload, 1) := gz_d tdL_law_t8_ok 1 rfl
theorem dL_law_662 : decode cL_law 662 = .ok (.invokevirtual 68, 3) := gz_d tdL_law_t8_ok 2 rfl
theorem dL_law_665 : decode cL_law 665 = .ok (.aload_n 2, 1) := gz_d tdL_law_t8_ok 3 rfl
theorem dL_law_666 : decode cL_law 666 = .ok (.aload_n 0, 1) := gz_d tdL_law_t8_ok 4 rfl
theorem dL_law_667 : decode cL_law 667 = .ok (.iload_n 3, 1) := gz_d tdL_law_t8_ok 5 rfl
theorem dL_law_668 : decode cL_law 668 = .ok (.iconst 1, 1) := gz_d tdL_law_t8_ok 6 rfl
theorem dL_law_669 : decode cL_law 669 = .ok (.iadd, 1) := gz_d tdL_law_t8_ok 7 rfl
theorem dL_law_670 : decode cL_law 670 = .ok (.iaload, 1) := gz_d tdL_law_t8_ok 8 rfl
theorem dL_law_671 : decode cL_law 671 = .ok (.invokevirtual 71, 3) := gz_d tdL_law_t8_ok 9 rfl
theorem dL_law_674 : decode cL_law 674 = .ok (.if_icmp .eq 111, 3) := gz_d tdL_law_t8_ok 10 rfl
theorem dL_law_677 : decode cL_law 677 = .ok (.iconst 0, 1) := gz_d tdL_law_t8_ok 11 rfl
theorem dL_law_678 : decode cL_law 678 = .ok (.ireturn, 1) := gz_d tdL_law_t8_ok 12 rfl
theorem dL_law_679 : decode cL_law 679 = .ok (.aload_n 1, 1) := gz_d tdL_law_t8_ok 13 rfl
theorem dL_law_680 : decode cL_law 680 = .ok (.aload_n 0, 1) := gz_d tdL_law_t8_ok 14 rfl
theorem dL_law_681 : decode cL_law 681 = .ok (.iload_n 3, 1) := gz_d tdL_law_t8_ok 15 rfl
theorem dL_law_682 : decode cL_law 682 = .ok (.iconst 1, 1) := gz_d tdL_law_t8_ok 16 rfl
theorem dL_law_683 : decode cL_law 683 = .ok (.iadd, 1) := gz_d tdL_law_t8_ok 17 rfl
theorem dL_law_684 : decode cL_law 684 = .ok (.iaload, 1) := gz_d tdL_law_t8_ok 18 rfl
theorem dL_law_685 : decode cL_law 685 = .ok (.invokevirtual 72, 3) := gz_d tdL_law_t8_ok 19 rfl
theorem dL_law_688 : decode cL_law 688 = .ok (.aload_n 2, 1) := gz_d tdL_law_t8_ok 20 rfl
theorem dL_law_689 : decode cL_law 689 = .ok (.aload_n 0, 1) := gz_d tdL_law_t8_ok 21 rfl
theorem dL_law_690 : decode cL_law 690 = .ok (.iload_n 3, 1) := gz_d tdL_law_t8_ok 22 rfl
theorem dL_law_691 : decode cL_law 691 = .ok (.iconst 1, 1) := gz_d tdL_law_t8_ok 23 rfl
theorem dL_law_692 : decode cL_law 692 = .ok (.iadd, 1) := gz_d tdL_law_t8_ok 24 rfl
theorem dL_law_693 : decode cL_law 693 = .ok (.iaload, 1) := gz_d tdL_law_t8_ok 25 rfl
theorem dL_law_694 : decode cL_law 694 = .ok (.invokevirtual 75, 3) := gz_d tdL_law_t8_ok 26 rfl
theorem dL_law_697 : decode cL_law 697 = .ok (.if_icmp .eq 88, 3) := gz_d tdL_law_t8_ok 27 rfl
theorem dL_law_700 : decode cL_law 700 = .ok (.iconst 0, 1) := gz_d tdL_law_t8_ok 28 rfl
theorem dL_law_701 : decode cL_law 701 = .ok (.ireturn, 1) := gz_d tdL_law_t8_ok 29 rfl
theorem dL_law_702 : decode cL_law 702 = .ok (.aload_n 1, 1) := gz_d tdL_law_t8_ok 30 rfl
theorem dL_law_703 : decode cL_law 703 = .ok (.aload_n 0, 1) := gz_d tdL_law_t8_ok 31 rfl
theorem dL_law_704 : decode cL_law 704 = .ok (.iload_n 3, 1) := gz_d tdL_law_t8_ok 32 rfl
theorem dL_law_705 : decode cL_law 705 = .ok (.iconst 1, 1) := gz_d tdL_law_t8_ok 33 rfl
theorem dL_law_706 : decode cL_law 706 = .ok (.iadd, 1) := gz_d tdL_law_t8_ok 34 rfl
theorem dL_law_707 : decode cL_law 707 = .ok (.iaload, 1) := gz_d tdL_law_t8_ok 35 rfl
theorem dL_law_708 : decode cL_law 708 = .ok (.invokevirtual 76, 3) := gz_d tdL_law_t8_ok 36 rfl
theorem dL_law_711 : decode cL_law 711 = .ok (.aload_n 2, 1) := gz_d tdL_law_t8_ok 37 rfl
theorem dL_law_712 : decode cL_law 712 = .ok (.aload_n 0, 1) := gz_d tdL_law_t8_ok 38 rfl
theorem dL_law_713 : decode cL_law 713 = .ok (.iload_n 3, 1) := gz_d tdL_law_t8_ok 39 rfl
theorem dL_law_714 : decode cL_law 714 = .ok (.iconst 1, 1) := gz_d tdL_law_t8_ok 40 rfl
theorem dL_law_715 : decode cL_law 715 = .ok (.iadd, 1) := gz_d tdL_law_t8_ok 41 rfl
theorem dL_law_716 : decode cL_law 716 = .ok (.iaload, 1) := gz_d tdL_law_t8_ok 42 rfl
theorem dL_law_717 : decode cL_law 717 = .ok (.invokevirtual 79, 3) := gz_d tdL_law_t8_ok 43 rfl
theorem dL_law_720 : decode cL_law 720 = .ok (.if_icmp .eq 65, 3) := gz_d tdL_law_t8_ok 44 rfl
theorem dL_law_723 : decode cL_law 723 = .ok (.iconst 0, 1) := gz_d tdL_law_t8_ok 45 rfl
theorem dL_law_724 : decode cL_law 724 = .ok (.ireturn, 1) := gz_d tdL_law_t8_ok 46 rfl
theorem dL_law_725 : decode cL_law 725 = .ok (.aload_n 1, 1) := gz_d tdL_law_t8_ok 47 rfl
theorem dL_law_726 : decode cL_law 726 = .ok (.aload_n 0, 1) := gz_d tdL_law_t8_ok 48 rfl
theorem dL_law_727 : decode cL_law 727 = .ok (.iload_n 3, 1) := gz_d tdL_law_t8_ok 49 rfl
theorem dL_law_728 : decode cL_law 728 = .ok (.iconst 1, 1) := gz_d tdL_law_t8_ok 50 rfl
theorem dL_law_729 : decode cL_law 729 = .ok (.iadd, 1) := gz_d tdL_law_t8_ok 51 rfl
theorem dL_law_730 : decode cL_law 730 = .ok (.iaload, 1) := gz_d tdL_law_t8_ok 52 rfl
theorem dL_law_731 : decode cL_law 731 = .ok (.invokevirtual 80, 3) := gz_d tdL_law_t8_ok 53 rfl
theorem dL_law_734 : decode cL_law 734 = .ok (.aload_n 2, 1) := gz_d tdL_law_t8_ok 54 rfl
theorem dL_law_735 : decode cL_law 735 = .ok (.aload_n 0, 1) := gz_d tdL_law_t8_ok 55 rfl
theorem dL_law_736 : decode cL_law 736 = .ok (.iload_n 3, 1) := gz_d tdL_law_t8_ok 56 rfl
theorem dL_law_737 : decode cL_law 737 = .ok (.iconst 1, 1) := gz_d tdL_law_t8_ok 57 rfl
theorem dL_law_738 : decode cL_law 738 = .ok (.iadd, 1) := gz_d tdL_law_t8_ok 58 rfl
theorem dL_law_739 : decode cL_law 739 = .ok (.iaload, 1) := gz_d tdL_law_t8_ok 59 rfl
def tdL_law_t9 : List (Nat × Instr × Nat) := [(740, .invokevirtual 83, 3), (743, .if_icmp .eq 42, 3), (746, .iconst 0, 1), (747, .ireturn, 1), (748, .aload_n 1, 1), (749, .aload_n 0, 1), (750, .iload_n 3, 1), (751, .iconst 1, 1), (752, .iadd, 1), (753, .iaload, 1), (754, .invokevirtual 84, 3), (757, .aload_n 2, 1), (758, .aload_n 0, 1), (759, .iload_n 3, 1), (760, .iconst 1, 1), (761, .iadd, 1), (762, .iaload, 1), (763, .invokevirtual 87, 3), (766, .if_icmp .eq 19, 3), (769, .iconst 0, 1), (770, .ireturn, 1), (771, .aload_n 1, 1), (772, .invokevirtual 88, 3), (775, .aload_n 2, 1), (776, .invokevirtual 92, 3), (779, .lcmp, 1), (780, .ifCond .eq 5, 3), (783, .iconst 0, 1), (784, .ireturn, 1), (785, .iinc 3 7, 3), (788, .goto (-770), 3), (791, .iconst 1, 1), (792, .ireturn, 1)]
theorem tdL_law_t9_ok : gz_dec cL_law tdL_law_t9 = true := by decide +kernel
theorem dL_law_740 : decode cL_law 740 = .ok (.invokevirtual 83, 3) := gz_d tdL_law_t9_ok 0 rfl
theorem dL_law_743 : decode cL_law 743 = .ok (.if_icmp .eq 42, 3) := gz_d tdL_law_t9_ok 1 rfl
theorem dL_law_746 : decode cL_law 746 = .ok (.iconst 0, 1) := gz_d tdL_law_t9_ok 2 rfl
theorem dL_law_747 : decode cL_law 747 = .ok (.ireturn, 1) := gz_d tdL_law_t9_ok 3 rfl
theorem dL_law_748 : decode cL_law 748 = .ok (.aload_n 1, 1) := gz_d tdL_law_t9_ok 4 rfl
theorem dL_law_749 : decode cL_law 749 = .ok (.aload_n 0, 1) := gz_d tdL_law_t9_ok 5 rfl
theorem dL_law_750 : decode cL_law 750 = .ok (.iload_n 3, 1) := gz_d tdL_law_t9_ok 6 rfl
theorem dL_law_751 : decode cL_law 751 = .ok (.iconst 1, 1) := gz_d tdL_law_t9_ok 7 rfl
theorem dL_law_752 : decode cL_law 752 = .ok (.iadd, 1) := gz_d tdL_law_t9_ok 8 rfl
theorem dL_law_753 : decode cL_law 753 = .ok (.iaload, 1) := gz_d tdL_law_t9_ok 9 rfl
theorem dL_law_754 : decode cL_law 754 = .ok (.invokevirtual 84, 3) := gz_d tdL_law_t9_ok 10 rfl
theorem dL_law_757 : decode cL_law 757 = .ok (.aload_n 2, 1) := gz_d tdL_law_t9_ok 11 rfl
theorem dL_law_758 : decode cL_law 758 = .ok (.aload_n 0, 1) := gz_d tdL_law_t9_ok 12 rfl
theorem dL_law_759 : decode cL_law 759 = .ok (.iload_n 3, 1) := gz_d tdL_law_t9_ok 13 rfl
theorem dL_law_760 : decode cL_law 760 = .ok (.iconst 1, 1) := gz_d tdL_law_t9_ok 14 rfl
theorem dL_law_761 : decode cL_law 761 = .ok (.iadd, 1) := gz_d tdL_law_t9_ok 15 rfl
theorem dL_law_762 : decode cL_law 762 = .ok (.iaload, 1) := gz_d tdL_law_t9_ok 16 rfl
theorem dL_law_763 : decode cL_law 763 = .ok (.invokevirtual 87, 3) := gz_d tdL_law_t9_ok 17 rfl
theorem dL_law_766 : decode cL_law 766 = .ok (.if_icmp .eq 19, 3) := gz_d tdL_law_t9_ok 18 rfl
theorem dL_law_769 : decode cL_law 769 = .ok (.iconst 0, 1) := gz_d tdL_law_t9_ok 19 rfl
theorem dL_law_770 : decode cL_law 770 = .ok (.ireturn, 1) := gz_d tdL_law_t9_ok 20 rfl
theorem dL_law_771 : decode cL_law 771 = .ok (.aload_n 1, 1) := gz_d tdL_law_t9_ok 21 rfl
theorem dL_law_772 : decode cL_law 772 = .ok (.invokevirtual 88, 3) := gz_d tdL_law_t9_ok 22 rfl
theorem dL_law_775 : decode cL_law 775 = .ok (.aload_n 2, 1) := gz_d tdL_law_t9_ok 23 rfl
theorem dL_law_776 : decode cL_law 776 = .ok (.invokevirtual 92, 3) := gz_d tdL_law_t9_ok 24 rfl
theorem dL_law_779 : decode cL_law 779 = .ok (.lcmp, 1) := gz_d tdL_law_t9_ok 25 rfl
theorem dL_law_780 : decode cL_law 780 = .ok (.ifCond .eq 5, 3) := gz_d tdL_law_t9_ok 26 rfl
theorem dL_law_783 : decode cL_law 783 = .ok (.iconst 0, 1) := gz_d tdL_law_t9_ok 27 rfl
theorem dL_law_784 : decode cL_law 784 = .ok (.ireturn, 1) := gz_d tdL_law_t9_ok 28 rfl
theorem dL_law_785 : decode cL_law 785 = .ok (.iinc 3 7, 3) := gz_d tdL_law_t9_ok 29 rfl
theorem dL_law_788 : decode cL_law 788 = .ok (.goto (-770), 3) := gz_d tdL_law_t9_ok 30 rfl
theorem dL_law_791 : decode cL_law 791 = .ok (.iconst 1, 1) := gz_d tdL_law_t9_ok 31 rfl
theorem dL_law_792 : decode cL_law 792 = .ok (.ireturn, 1) := gz_d tdL_law_t9_ok 32 rfl
end
section
/-! THE LAYER: a world of a fixed layout (objects with whole-number fields and fixed references, arrays of whole numbers and doubles); a walk's state is a memory, a place, the variables and the stack -/
abbrev gz_M : Type := (Nat → Nat → Int32) × (Nat → Nat → UInt64)
abbrev gz_C : Type := (Nat × List (Option Nat)) ⊕ (Nat × Nat)
def gz_fv (ad : Nat → Nat) (M : gz_M) (k j : Nat) (f : Option Nat) : Value := match f with
  | some r => .ref (ad r)
  | none => .int (M.1 k j)
def gz_fs (ad : Nat → Nat) (M : gz_M) (k : Nat) (fs : List (Option Nat)) : List Value := fs.mapIdx (fun j f => gz_fv ad M k j f)
def gz_ce (ad : Nat → Nat) (cy : Nat → ClassId) (M : gz_M) (k : Nat) (c : gz_C) : va_E := match c with
  | .inl o => .inr (o.1, gz_fs ad M k o.2)
  | .inr a => cond (Nat.beq a.2 1) (.inl (cy 1, a.1, .inr (.inr (.inr (.inl (M.2 k)))))) (.inl (cy a.2, a.1, .inl (M.1 k)))
def gz_ws (ad : Nat → Nat) (cy : Nat → ClassId) (lay : List gz_C) (M : gz_M) : va_W := lay.mapIdx (fun k c => (ad k, gz_ce ad cy M k c))
def gz_A (ad : Nat → Nat) (lay : List gz_C) : Nat → Prop := fun q => ∃ k, k < lay.length ∧ q = ad k
def gz_inj (ad : Nat → Nat) (lay : List gz_C) : Prop := ∀ i j, i < lay.length → j < lay.length → ad i = ad j → i = j
def gz_up {α : Type} (f : Nat → Nat → α) (k j : Nat) (v : α) : Nat → Nat → α := fun a => if a = k then (fun b => if b = j then v else f a b) else f a
theorem gz_up_ne {α : Type} {f : Nat → Nat → α} {k j i : Nat} {v : α} (h : i ≠ k) : gz_up f k j v i = f i := if_neg h
theorem gz_up_eq {α : Type} {f : Nat → Nat → α} {k j : Nat} {v : α} : gz_up f k j v k = fun b => if b = j then v else f k b := if_pos rfl
theorem gz_up_self {α : Type} {f : Nat → Nat → α} {k j : Nat} {v : α} : gz_up f k j v k j = v := by rw [gz_up_eq]; exact if_pos rfl
theorem gz_up_oth {α : Type} {f : Nat → Nat → α} {k j b : Nat} {v : α} (h : b ≠ j) : gz_up f k j v k b = f k b := by rw [gz_up_eq]; exact if_neg h
theorem gz_ws_get {ad : Nat → Nat} {cy : Nat → ClassId} {lay : List gz_C} {M : gz_M} (i : Nat) : (gz_ws ad cy lay M)[i]? = (lay[i]?).map (fun c => (ad i, gz_ce ad cy M i c)) := by simp [gz_ws]
theorem gz_ws_at {ad : Nat → Nat} {cy : Nat → ClassId} {lay : List gz_C} {M : gz_M} {k : Nat} {c : gz_C} (h : lay[k]? = some c) : (gz_ws ad cy lay M)[k]? = some (ad k, gz_ce ad cy M k c) := by rw [gz_ws_get, h]; rfl
theorem gz_ws_len {ad : Nat → Nat} {cy : Nat → ClassId} {lay : List gz_C} {M : gz_M} : (gz_ws ad cy lay M).length = lay.length := by simp [gz_ws]
theorem gz_D {ad : Nat → Nat} {cy : Nat → ClassId} {lay : List gz_C} (h : gz_inj ad lay) (M : gz_M) : va_D (gz_A ad lay) (gz_ws ad cy lay M) := by
  refine ⟨fun i j p q hi hj he => ?_, fun k q hk => ?_⟩
  · rw [gz_ws_get] at hi hj
    obtain ⟨c1, h1, rfl⟩ := Option.map_eq_some_iff.mp hi
    obtain ⟨c2, h2, rfl⟩ := Option.map_eq_some_iff.mp hj
    exact h i j (List.getElem?_eq_some_iff.mp h1).1 (List.getElem?_eq_some_iff.mp h2).1 he
  · rw [gz_ws_get] at hk
    obtain ⟨c1, h1, rfl⟩ := Option.map_eq_some_iff.mp hk
    exact ⟨k, (List.getElem?_eq_some_iff.mp h1).1, rfl⟩
theorem gz_fs_get {ad : Nat → Nat} {M : gz_M} {k : Nat} {fs : List (Option Nat)} (i : Nat) : (gz_fs ad M k fs)[i]? = (fs[i]?).map (fun f => gz_fv ad M k i f) := by simp [gz_fs]
theorem gz_fs_len {ad : Nat → Nat} {M : gz_M} {k : Nat} {fs : List (Option Nat)} : (gz_fs ad M k fs).length = fs.length := by simp [gz_fs]
theorem gz_ce_ne {ad : Nat → Nat} {cy : Nat → ClassId} {M N : gz_M} {i : Nat} {c : gz_C} (h1 : N.1 i = M.1 i) (h2 : N.2 i = M.2 i) : gz_ce ad cy N i c = gz_ce ad cy M i c := by
  cases c with
  | inl o =>
    have e : gz_fs ad N i o.2 = gz_fs ad M i o.2 := by
      apply List.ext_getElem?
      intro j
      rw [gz_fs_get, gz_fs_get]
      cases o.2[j]? with
      | none => rfl
      | some f =>
        cases f with
        | none => show some (Value.int (N.1 i j)) = some (Value.int (M.1 i j)); rw [h1]
        | some r => rfl
    show Sum.inr (o.1, gz_fs ad N i o.2) = Sum.inr (o.1, gz_fs ad M i o.2)
    rw [e]
  | inr a =>
    show cond (Nat.beq a.2 1) _ _ = cond (Nat.beq a.2 1) _ _
    rw [h1, h2]
theorem gz_set {ad : Nat → Nat} {cy : Nat → ClassId} {lay : List gz_C} {M N : gz_M} {k : Nat} {c : gz_C} {e : va_E} (hk : lay[k]? = some c) (he : e = gz_ce ad cy N k c) (ho : ∀ i, i ≠ k → N.1 i = M.1 i ∧ N.2 i = M.2 i) : (gz_ws ad cy lay M).set k (ad k, e) = gz_ws ad cy lay N := by
  apply List.ext_getElem?
  intro i
  rw [List.getElem?_set, gz_ws_get, gz_ws_get]
  by_cases hi : k = i
  · subst hi
    have hl : k < (gz_ws ad cy lay M).length := by rw [gz_ws_len]; exact (List.getElem?_eq_some_iff.mp hk).1
    rw [if_pos rfl, if_pos hl, hk, he]
    rfl
  · rw [if_neg hi]
    cases lay[i]? with
    | none => rfl
    | some c2 =>
      have h2 := ho i (fun q => hi q.symm)
      show some (ad i, gz_ce ad cy M i c2) = some (ad i, gz_ce ad cy N i c2)
      rw [gz_ce_ne h2.1 h2.2]
theorem gz_setI {ad : Nat → Nat} {cy : Nat → ClassId} {lay : List gz_C} {M : gz_M} {k ci j : Nat} {fs : List (Option Nat)} {v : Int32} (hk : lay[k]? = some (.inl (ci, fs))) (hj : fs[j]? = some none) : (gz_ws ad cy lay M).set k (ad k, .inr (ci, (gz_fs ad M k fs).set j (.int v))) = gz_ws ad cy lay (gz_up M.1 k j v, M.2) := by
  refine gz_set hk ?_ (fun i hi => ⟨gz_up_ne hi, rfl⟩)
  show Sum.inr (ci, (gz_fs ad M k fs).set j (.int v)) = Sum.inr (ci, gz_fs ad (gz_up M.1 k j v, M.2) k fs)
  congr 2
  apply List.ext_getElem?
  intro i
  rw [List.getElem?_set, gz_fs_get, gz_fs_get]
  by_cases hi : j = i
  · subst hi
    rw [if_pos rfl, if_pos (by rw [gz_fs_len]; exact (List.getElem?_eq_some_iff.mp hj).1), hj]
    show some (Value.int v) = some (Value.int (gz_up M.1 k j v k j))
    rw [gz_up_self]
  · rw [if_neg hi]
    cases fs[i]? with
    | none => rfl
    | some f =>
      cases f with
      | none => show some (Value.int (M.1 k i)) = some (Value.int (gz_up M.1 k j v k i)); rw [gz_up_oth (fun q => hi q.symm)]
      | some r => rfl
theorem gz_upd_eq (f : Nat → Nat → Int32) (k j : Nat) (v : Int32) : upd (f k) j v = gz_up f k j v k := by
  funext b
  rw [gz_up_eq]
  by_cases h : b = j
  · subst h; rw [pk_us]; exact (if_pos rfl).symm
  · rw [pk_un h]; exact (if_neg h).symm
theorem gz_updD_eq (f : Nat → Nat → UInt64) (k j : Nat) (v : UInt64) : vf_upd (f k) j v = gz_up f k j v k := by
  funext b
  rw [gz_up_eq]
  rfl
theorem gz_setA {ad : Nat → Nat} {cy : Nat → ClassId} {lay : List gz_C} {M : gz_M} {k n kd j : Nat} {v : Int32} (hk : lay[k]? = some (.inr (n, kd))) (hkd : Nat.beq kd 1 = false) : (gz_ws ad cy lay M).set k (ad k, .inl (cy kd, n, .inl (upd (M.1 k) j v))) = gz_ws ad cy lay (gz_up M.1 k j v, M.2) := by
  refine gz_set hk ?_ (fun i hi => ⟨gz_up_ne hi, rfl⟩)
  rw [gz_upd_eq]
  show _ = cond (Nat.beq kd 1) _ _
  rw [hkd]
  rfl
theorem gz_setD {ad : Nat → Nat} {cy : Nat → ClassId} {lay : List gz_C} {M : gz_M} {k n j : Nat} {v : UInt64} (hk : lay[k]? = some (.inr (n, 1))) : (gz_ws ad cy lay M).set k (ad k, .inl (cy 1, n, .inr (.inr (.inr (.inl (vf_upd (M.2 k) j v)))))) = gz_ws ad cy lay (M.1, gz_up M.2 k j v) := by
  refine gz_set hk ?_ (fun i hi => ⟨rfl, gz_up_ne hi⟩)
  rw [gz_updD_eq]
  rfl
-- the words
def gz_isN : Cond → Bool
  | .methodLinkNest .. => true
  | .fieldLinkNest .. => true
  | _ => false
def gz_XS : List Cond := lw_tbl.filter goodWord
def gz_XN : List Cond := lw_tbl.filter gz_isN
theorem gz_good : GoodIn gz_XS gz_XS := fun w h => ⟨h, good_of_word (List.mem_filter.mp h).2⟩
theorem gz_goodC {ws : List Cond} (h : ∀ w ∈ ws, w ∈ gz_XS) : GoodIn gz_XS (ws ++ gz_XS) := fun w hw => (List.mem_append.mp hw).elim (fun q => gz_good w (h w q)) (fun q => gz_good w q)
theorem gz_mS {w : Cond} (i : Nat) (h : lw_tbl[i]? = some w) (hg : goodWord w = true) : w ∈ gz_XS := List.mem_filter.mpr ⟨List.mem_of_getElem? h, hg⟩
theorem gz_mN {w : Cond} (i : Nat) (h : lw_tbl[i]? = some w) (hg : gz_isN w = true) : w ∈ gz_XN := List.mem_filter.mpr ⟨List.mem_of_getElem? h, hg⟩
theorem gz_nest {s U : State} (hW : s.WarmedH U.vm) (h : ∀ w ∈ gz_XN, va_Nw w s) : ∀ w ∈ gz_XN, va_Nw w U := by
  intro w hw
  have h1 := h w hw
  have h2 := (List.mem_filter.mp hw).2
  unfold gz_isN at h2
  split at h2
  · exact va_Nw.warmM hW h1
  · exact va_Nw.warmF hW h1
  · exact absurd h2 (by decide)
-- the variables
def gz_lg : List (Nat × Value) → Nat → Option Value
  | [], _ => none
  | q :: t, i => cond (Nat.beq q.1 i) (some q.2) (gz_lg t i)
theorem gz_lg_mem : ∀ {lv : List (Nat × Value)} {i : Nat} {v : Value}, gz_lg lv i = some v → (i, v) ∈ lv
  | [], _, _, h => by cases h
  | q :: t, i, v, h => by
    unfold gz_lg at h
    cases hb : Nat.beq q.1 i with
    | true =>
      rw [hb] at h
      have e := Nat.eq_of_beq_eq_true hb
      have e2 : q.2 = v := Option.some.inj h
      rw [← e, ← e2]
      exact List.mem_cons_self
    | false =>
      rw [hb] at h
      exact List.mem_cons_of_mem _ (gz_lg_mem h)
def gz_s1 (lv : List (Nat × Value)) (i : Nat) (v : Value) : List (Nat × Value) := (i, v) :: lv.filter (fun q => !(q.1 == i) && !(q.1 + 1 == i && q.2.category == 2))
def gz_s2 (lv : List (Nat × Value)) (i : Nat) (v : Value) : List (Nat × Value) := (i, v) :: lv.filter (fun q => !(q.1 == i) && (!(q.1 == i + 1) && !(q.1 + 1 == i && q.2.category == 2)))
def gz_all (lv : List (Nat × Value)) : List (Nat × Value) → Prop
  | [] => True
  | q :: t => gz_lg lv q.1 = some q.2 ∧ gz_all lv t
theorem gz_all_mem {lv : List (Nat × Value)} : ∀ {l2 : List (Nat × Value)}, gz_all lv l2 → ∀ q ∈ l2, q ∈ lv
  | [], _, _, h => by cases h
  | _ :: _, h, q, hq => by
    rcases List.mem_cons.mp hq with e | e
    · rw [e]; exact gz_lg_mem h.1
    · exact gz_all_mem h.2 q e
theorem gz_hasA {ls : Array Slot} {nL i : Nat} {lv : List (Nat × Value)} {v : Value} (h : lv_has ls nL lv) (hl : gz_lg lv i = some v) : ls[i]? = some (.val v) := h.2.2 (i, v) (gz_lg_mem hl)
-- the judgement
def gz_rm (d : Nat) : Room := { frames := d, cells := 0, slots := 0, locals := 40 * d }
def gz_ty (cy : Nat → ClassId) : List (ClassId × FieldType) := [(cy 0, .int), (cy 1, .double), (cy 2, .boolean)]
def gz_B (D : va_G) (ad : Nat → Nat) (cy : Nat → ClassId) (lay : List gz_C) (M : gz_M) : State → Prop := fun U => va_P D vwCl (gz_ws ad cy lay M) U.heap ∧ va_K D vwCl (gz_ty cy) U ∧ ∀ w ∈ gz_XN, va_Nw w U
def gz_Q (D : va_G) (ad : Nat → Nat) (cy : Nat → ClassId) (lay : List gz_C) (post : Option Value → gz_M → Prop) : Array Value → State → Outcome → State → Prop := fun _ st oc t => (∃ (v : Option Value) (M : gz_M), oc = .returned v ∧ post v M ∧ va_P D vwCl (gz_ws ad cy lay M) t.heap) ∧ va_F (gz_A ad lay) st t
def gz_Ct (l : Launch) (D : va_G) (ad : Nat → Nat) (cy : Nat → ClassId) (lay : List gz_C) (y : MethodName) (cc : ByteArray) (nL : Nat) (ret : Option FieldType) (d : Nat) (av : List Value) (M : gz_M) (post : Option Value → gz_M → Prop) : Prop :=
  Met l y (.code y cc nL ret :: gz_XS) (gz_rm d) (va_Pc av (gz_B D ad cy lay M)) (gz_Q D ad cy lay post) 0 0 (gz_A ad lay)
def gz_X (p : Program) (s : State) (m : MethodId) (args : Array Value) (meth : Method) (c : Code) (own : String) (cc : ByteArray) (ret : Option FieldType) (nL : Nat) (D : va_G) (ad : Nat → Nat) (cy : Nat → ClassId) (lay : List gz_C) : Prop :=
  p.tables.exec = Jvm.exec ∧ c.code = cc ∧ meth.sig.returnType = ret ∧ c.maxLocals = nL ∧ s.vm.findClass own = some m.cls ∧ (∀ w ∈ gz_XS, w.before args s = true) ∧ (∀ w ∈ gz_XN, va_Nw w s) ∧ va_K D vwCl (gz_ty cy) s ∧ meth.locks = false ∧ gz_inj ad lay
def gz_W (p : Program) (l : Launch) (e : Env) (R : Room) (s : State) (m : MethodId) (args : Array Value) (below : List Frame) (meth : Method) (c : Code) (D : va_G) (ad : Nat → Nat) (cy : Nat → ClassId) (lay : List gz_C) (nL : Nat) (Q : State → Prop) (M : gz_M) (pc : Nat) (lv : List (Nat × Value)) (st : List Value) : Prop :=
  ∀ (H : Heap) (locs : List Loc) (ls : Array Slot), va_P D vwCl (gz_ws ad cy lay M) H → va_S (gz_A ad lay) s.heap H locs → lv_has ls nL lv → W p l e R s m args below meth c H locs 0 0 Q (F0 m pc ls st)
def gz_ps (v : Option Value) (st : List Value) : List Value := match v with
  | none => st
  | some x => x :: st
section GZ
variable {p : Program} {l : Launch} {e : Env} {R : Room} {s : State} {m : MethodId} {args : Array Value} {below : List Frame} {meth : Method} {c : Code} {D : va_G} {ad : Nat → Nat} {cy : Nat → ClassId} {lay : List gz_C} {nL : Nat} {Q : State → Prop} {I : Nat → Nat → Int32} {G : Nat → Nat → UInt64} {M : gz_M} {pc : Nat} {lv : List (Nat × Value)} {st : List Value} {own : String} {cc : ByteArray} {ret : Option FieldType}
theorem gz_met {y : MethodName} {d : Nat} {av : List Value} {post : Option Value → gz_M → Prop} (hy : plainName y.cls = true) (hinj : gz_inj ad lay) (hlen : (lg_sl av).length ≤ nL)
    (body : ∀ (p : Program) (e : Env) (s : State) (m : MethodId) (args : Array Value) (below : List Frame) (meth : Method) (c : Code), gz_X p s m args meth c y.cls cc ret nL D ad cy lay → gz_W p l e (gz_rm d) s m args below meth c D ad cy lay nL (MQ below (gz_Q D ad cy lay post) args s 0 0 (gz_A ad lay)) M 0 (lv_args 0 av) []) : gz_Ct l D ad cy lay y cc nL ret d av M post := by
  refine Met.ofW (cc := cc) (maxL := nL) (ret := ret) hy rfl ?_
  intro p e s m args below meth c s₁ B hml hv
  obtain ⟨rfl, hP, hK, hN⟩ := hv
  have hts := atoms_spec (ws := Cond.code y cc nL ret :: gz_XS) B.pre
  have hX : gz_X p s m av.toArray meth c y.cls cc ret nL D ad cy lay := ⟨B.exec, B.bytes, B.returns, hml, findClass_of_methodNamed B.named, fun w hw => hts w (List.mem_cons_of_mem _ hw), hN, hK, B.notSynchronized, hinj⟩
  have hl := lv_entry av (n := nL) hlen
  rw [lg_entry_eq]
  exact body p e s m _ below meth c hX s.heap [] _ hP va_S.rf hl
theorem gz_lw (lv2 : List (Nat × Value)) (h : gz_all lv lv2) (kk : gz_W p l e R s m args below meth c D ad cy lay nL Q M pc lv2 st) : gz_W p l e R s m args below meth c D ad cy lay nL Q M pc lv st := fun H locs ls hP hS hL => kk H locs ls hP hS ⟨hL.1, hL.2.1, fun q hq => hL.2.2 q (gz_all_mem h q hq)⟩

theorem gz_iload_n (hC : gz_X p s m args meth c own cc ret nL D ad cy lay) {k : Fin 4} {x : Int32} (hd : decode cc pc = .ok (.iload_n k, 1)) (hl : gz_lg lv k = some (.int x)) (kk : gz_W p l e R s m args below meth c D ad cy lay nL Q (I, G) (pc + 1) lv (.int x :: st)) : gz_W p l e R s m args below meth c D ad cy lay nL Q (I, G) (pc) lv (st) := fun H locs ls hP hS hL => lv_iload_n hC.1 hC.2.1 hd rfl (gz_hasA hL hl) (kk H locs ls hP hS hL)
theorem gz_iload (hC : gz_X p s m args meth c own cc ret nL D ad cy lay) {k : Nat} {x : Int32} (hd : decode cc pc = .ok (.iload k, 2)) (hl : gz_lg lv k = some (.int x)) (kk : gz_W p l e R s m args below meth c D ad cy lay nL Q (I, G) (pc + 2) lv (.int x :: st)) : gz_W p l e R s m args below meth c D ad cy lay nL Q (I, G) (pc) lv (st) := fun H locs ls hP hS hL => lv_iload hC.1 hC.2.1 hd (gz_hasA hL hl) (kk H locs ls hP hS hL)
theorem gz_aload_n (hC : gz_X p s m args meth c own cc ret nL D ad cy lay) {k : Fin 4} {x : Nat} (hd : decode cc pc = .ok (.aload_n k, 1)) (hl : gz_lg lv k = some (.ref x)) (kk : gz_W p l e R s m args below meth c D ad cy lay nL Q (I, G) (pc + 1) lv (.ref x :: st)) : gz_W p l e R s m args below meth c D ad cy lay nL Q (I, G) (pc) lv (st) := fun H locs ls hP hS hL => lv_aload_n hC.1 hC.2.1 hd rfl (gz_hasA hL hl) (kk H locs ls hP hS hL)
theorem gz_aload (hC : gz_X p s m args meth c own cc ret nL D ad cy lay) {k : Nat} {x : Nat} (hd : decode cc pc = .ok (.aload k, 2)) (hl : gz_lg lv k = some (.ref x)) (kk : gz_W p l e R s m args below meth c D ad cy lay nL Q (I, G) (pc + 2) lv (.ref x :: st)) : gz_W p l e R s m args below meth c D ad cy lay nL Q (I, G) (pc) lv (st) := fun H locs ls hP hS hL => lv_aload hC.1 hC.2.1 hd (gz_hasA hL hl) (kk H locs ls hP hS hL)
theorem gz_dload_n (hC : gz_X p s m args meth c own cc ret nL D ad cy lay) {k : Fin 4} {x : UInt64} (hd : decode cc pc = .ok (.dload_n k, 1)) (hl : gz_lg lv k = some (.double x)) (kk : gz_W p l e R s m args below meth c D ad cy lay nL Q (I, G) (pc + 1) lv (.double x :: st)) : gz_W p l e R s m args below meth c D ad cy lay nL Q (I, G) (pc) lv (st) := fun H locs ls hP hS hL => lv_dload_n hC.1 hC.2.1 hd rfl (gz_hasA hL hl) (kk H locs ls hP hS hL)
theorem gz_dload (hC : gz_X p s m args meth c own cc ret nL D ad cy lay) {k : Nat} {x : UInt64} (hd : decode cc pc = .ok (.dload k, 2)) (hl : gz_lg lv k = some (.double x)) (kk : gz_W p l e R s m args below meth c D ad cy lay nL Q (I, G) (pc + 2) lv (.double x :: st)) : gz_W p l e R s m args below meth c D ad cy lay nL Q (I, G) (pc) lv (st) := fun H locs ls hP hS hL => lv_dload hC.1 hC.2.1 hd (gz_hasA hL hl) (kk H locs ls hP hS hL)
theorem gz_lload_n (hC : gz_X p s m args meth c own cc ret nL D ad cy lay) {k : Fin 4} {x : Int64} (hd : decode cc pc = .ok (.lload_n k, 1)) (hl : gz_lg lv k = some (.long x)) (kk : gz_W p l e R s m args below meth c D ad cy lay nL Q (I, G) (pc + 1) lv (.long x :: st)) : gz_W p l e R s m args below meth c D ad cy lay nL Q (I, G) (pc) lv (st) := fun H locs ls hP hS hL => lv_lload_n hC.1 hC.2.1 hd rfl (gz_hasA hL hl) (kk H locs ls hP hS hL)
theorem gz_lload (hC : gz_X p s m args meth c own cc ret nL D ad cy lay) {k : Nat} {x : Int64} (hd : decode cc pc = .ok (.lload k, 2)) (hl : gz_lg lv k = some (.long x)) (kk : gz_W p l e R s m args below meth c D ad cy lay nL Q (I, G) (pc + 2) lv (.long x :: st)) : gz_W p l e R s m args below meth c D ad cy lay nL Q (I, G) (pc) lv (st) := fun H locs ls hP hS hL => lv_lload hC.1 hC.2.1 hd (gz_hasA hL hl) (kk H locs ls hP hS hL)
theorem gz_istore_n (hC : gz_X p s m args meth c own cc ret nL D ad cy lay) {k : Fin 4} {x : Int32} (hd : decode cc pc = .ok (.istore_n k, 1)) (hn : (k : Nat) < nL) (kk : gz_W p l e R s m args below meth c D ad cy lay nL Q (I, G) (pc + 1) (gz_s1 lv k (.int x)) (st)) : gz_W p l e R s m args below meth c D ad cy lay nL Q (I, G) (pc) lv (.int x :: st) := fun H locs ls hP hS hL => lv_istore_n hC.1 hC.2.1 hd rfl hL hn rfl (fun ls2 hL2 => kk H locs ls2 hP hS hL2)
theorem gz_istore (hC : gz_X p s m args meth c own cc ret nL D ad cy lay) {k : Nat} {x : Int32} (hd : decode cc pc = .ok (.istore k, 2)) (hn : k < nL) (kk : gz_W p l e R s m args below meth c D ad cy lay nL Q (I, G) (pc + 2) (gz_s1 lv k (.int x)) (st)) : gz_W p l e R s m args below meth c D ad cy lay nL Q (I, G) (pc) lv (.int x :: st) := fun H locs ls hP hS hL => lv_istore hC.1 hC.2.1 hd hL hn rfl (fun ls2 hL2 => kk H locs ls2 hP hS hL2)
theorem gz_astore_n (hC : gz_X p s m args meth c own cc ret nL D ad cy lay) {k : Fin 4} {x : Nat} (hd : decode cc pc = .ok (.astore_n k, 1)) (hn : (k : Nat) < nL) (kk : gz_W p l e R s m args below meth c D ad cy lay nL Q (I, G) (pc + 1) (gz_s1 lv k (.ref x)) (st)) : gz_W p l e R s m args below meth c D ad cy lay nL Q (I, G) (pc) lv (.ref x :: st) := fun H locs ls hP hS hL => lv_astore_n hC.1 hC.2.1 hd rfl hL hn rfl (fun ls2 hL2 => kk H locs ls2 hP hS hL2)
theorem gz_astore (hC : gz_X p s m args meth c own cc ret nL D ad cy lay) {k : Nat} {x : Nat} (hd : decode cc pc = .ok (.astore k, 2)) (hn : k < nL) (kk : gz_W p l e R s m args below meth c D ad cy lay nL Q (I, G) (pc + 2) (gz_s1 lv k (.ref x)) (st)) : gz_W p l e R s m args below meth c D ad cy lay nL Q (I, G) (pc) lv (.ref x :: st) := fun H locs ls hP hS hL => lv_astore hC.1 hC.2.1 hd hL hn rfl (fun ls2 hL2 => kk H locs ls2 hP hS hL2)
theorem gz_dstore_n (hC : gz_X p s m args meth c own cc ret nL D ad cy lay) {k : Fin 4} {x : UInt64} (hd : decode cc pc = .ok (.dstore_n k, 1)) (hn : (k : Nat) + 1 < nL) (kk : gz_W p l e R s m args below meth c D ad cy lay nL Q (I, G) (pc + 1) (gz_s2 lv k (.double x)) (st)) : gz_W p l e R s m args below meth c D ad cy lay nL Q (I, G) (pc) lv (.double x :: st) := fun H locs ls hP hS hL => lv_dstore_n hC.1 hC.2.1 hd rfl hL hn rfl (fun ls2 hL2 => kk H locs ls2 hP hS hL2)
theorem gz_dstore (hC : gz_X p s m args meth c own cc ret nL D ad cy lay) {k : Nat} {x : UInt64} (hd : decode cc pc = .ok (.dstore k, 2)) (hn : k + 1 < nL) (kk : gz_W p l e R s m args below meth c D ad cy lay nL Q (I, G) (pc + 2) (gz_s2 lv k (.double x)) (st)) : gz_W p l e R s m args below meth c D ad cy lay nL Q (I, G) (pc) lv (.double x :: st) := fun H locs ls hP hS hL => lv_dstore hC.1 hC.2.1 hd hL hn rfl (fun ls2 hL2 => kk H locs ls2 hP hS hL2)
theorem gz_lstore_n (hC : gz_X p s m args meth c own cc ret nL D ad cy lay) {k : Fin 4} {x : Int64} (hd : decode cc pc = .ok (.lstore_n k, 1)) (hn : (k : Nat) + 1 < nL) (kk : gz_W p l e R s m args below meth c D ad cy lay nL Q (I, G) (pc + 1) (gz_s2 lv k (.long x)) (st)) : gz_W p l e R s m args below meth c D ad cy lay nL Q (I, G) (pc) lv (.long x :: st) := fun H locs ls hP hS hL => lv_lstore_n hC.1 hC.2.1 hd rfl hL hn rfl (fun ls2 hL2 => kk H locs ls2 hP hS hL2)
theorem gz_lstore (hC : gz_X p s m args meth c own cc ret nL D ad cy lay) {k : Nat} {x : Int64} (hd : decode cc pc = .ok (.lstore k, 2)) (hn : k + 1 < nL) (kk : gz_W p l e R s m args below meth c D ad cy lay nL Q (I, G) (pc + 2) (gz_s2 lv k (.long x)) (st)) : gz_W p l e R s m args below meth c D ad cy lay nL Q (I, G) (pc) lv (.long x :: st) := fun H locs ls hP hS hL => lv_lstore hC.1 hC.2.1 hd hL hn rfl (fun ls2 hL2 => kk H locs ls2 hP hS hL2)
theorem gz_pos : ∀ {lv : List (Nat × Value)} {q : Nat × Value}, q ∈ lv → ∃ k : Nat, lv[k]? = some q := fun h => List.getElem?_of_mem h
theorem gz_iinc (hC : gz_X p s m args meth c own cc ret nL D ad cy lay) {k : Nat} {n : Int} {x : Int32} (v : Int32) (hd : decode cc pc = .ok (.iinc k n, 3)) (hl : gz_lg lv k = some (.int x)) (hv : Int32.ofInt n = v) (hn : k < nL) (kk : gz_W p l e R s m args below meth c D ad cy lay nL Q (I, G) (pc + 3) (gz_s1 lv k (.int (x + v))) (st)) : gz_W p l e R s m args below meth c D ad cy lay nL Q (I, G) (pc) lv (st) := fun H locs ls hP hS hL => by
  obtain ⟨j, hj⟩ := gz_pos (gz_lg_mem hl)
  subst hv
  exact lv_iinc hC.1 hC.2.1 hd hL hj rfl hn rfl (fun ls2 hL2 => kk H locs ls2 hP hS hL2)
theorem gz_iconst (hC : gz_X p s m args meth c own cc ret nL D ad cy lay) {n : Int} (v : Int32) (hd : decode cc pc = .ok (.iconst n, 1)) (hv : Int32.ofInt n = v) (kk : gz_W p l e R s m args below meth c D ad cy lay nL Q (I, G) (pc + 1) lv (.int v :: st)) : gz_W p l e R s m args below meth c D ad cy lay nL Q (I, G) (pc) lv (st) := fun H locs ls hP hS hL => lv_iconst hC.1 hC.2.1 hd hv (kk H locs ls hP hS hL)
theorem gz_bipush (hC : gz_X p s m args meth c own cc ret nL D ad cy lay) {n : Int} (v : Int32) (hd : decode cc pc = .ok (.bipush n, 2)) (hv : (Int8.ofInt n).toInt32 = v) (kk : gz_W p l e R s m args below meth c D ad cy lay nL Q (I, G) (pc + 2) lv (.int v :: st)) : gz_W p l e R s m args below meth c D ad cy lay nL Q (I, G) (pc) lv (st) := fun H locs ls hP hS hL => lv_bipush hC.1 hC.2.1 hd hv (kk H locs ls hP hS hL)
theorem gz_sipush (hC : gz_X p s m args meth c own cc ret nL D ad cy lay) {n : Int} (v : Int32) (hd : decode cc pc = .ok (.sipush n, 3)) (hv : (Int16.ofInt n).toInt32 = v) (kk : gz_W p l e R s m args below meth c D ad cy lay nL Q (I, G) (pc + 3) lv (.int v :: st)) : gz_W p l e R s m args below meth c D ad cy lay nL Q (I, G) (pc) lv (st) := fun H locs ls hP hS hL => lv_sipush hC.1 hC.2.1 hd hv (kk H locs ls hP hS hL)
theorem gz_lconst (hC : gz_X p s m args meth c own cc ret nL D ad cy lay) {n : Fin 2} (v : Int64) (hd : decode cc pc = .ok (.lconst n, 1)) (hv : Int64.ofNat (n : Nat) = v) (kk : gz_W p l e R s m args below meth c D ad cy lay nL Q (I, G) (pc + 1) lv (.long v :: st)) : gz_W p l e R s m args below meth c D ad cy lay nL Q (I, G) (pc) lv (st) := fun H locs ls hP hS hL => lv_lconst hC.1 hC.2.1 hd hv (kk H locs ls hP hS hL)
theorem gz_dconst0 (hC : gz_X p s m args meth c own cc ret nL D ad cy lay) (hd : decode cc pc = .ok (.dconst 0, 1)) (kk : gz_W p l e R s m args below meth c D ad cy lay nL Q (I, G) (pc + 1) lv (.double 0 :: st)) : gz_W p l e R s m args below meth c D ad cy lay nL Q (I, G) (pc) lv (st) := fun H locs ls hP hS hL => lv_dconst0 hC.1 hC.2.1 hd (kk H locs ls hP hS hL)
theorem gz_dconst1 (hC : gz_X p s m args meth c own cc ret nL D ad cy lay) (hd : decode cc pc = .ok (.dconst 1, 1)) (kk : gz_W p l e R s m args below meth c D ad cy lay nL Q (I, G) (pc + 1) lv (.double 4607182418800017408 :: st)) : gz_W p l e R s m args below meth c D ad cy lay nL Q (I, G) (pc) lv (st) := fun H locs ls hP hS hL => lv_dconst1 hC.1 hC.2.1 hd (kk H locs ls hP hS hL)
theorem gz_ldc (hC : gz_X p s m args meth c own cc ret nL D ad cy lay) {idx : Nat} {v : Int32} (hd : decode cc pc = .ok (.ldc idx, 2)) (hw : Cond.constant own idx v ∈ gz_XS) (kk : gz_W p l e R s m args below meth c D ad cy lay nL Q (I, G) (pc + 2) lv (.int v :: st)) : gz_W p l e R s m args below meth c D ad cy lay nL Q (I, G) (pc) lv (st) := fun H locs ls hP hS hL => lv_ldc hC.1 hC.2.1 hC.2.2.2.2.1 (hC.2.2.2.2.2.1 _ hw) hd (kk H locs ls hP hS hL)
theorem gz_ldc2l (hC : gz_X p s m args meth c own cc ret nL D ad cy lay) {idx : Nat} {v : Int64} (hd : decode cc pc = .ok (.ldc2_w idx, 3)) (hw : Cond.constantLong own idx v ∈ gz_XS) (kk : gz_W p l e R s m args below meth c D ad cy lay nL Q (I, G) (pc + 3) lv (.long v :: st)) : gz_W p l e R s m args below meth c D ad cy lay nL Q (I, G) (pc) lv (st) := fun H locs ls hP hS hL => lv_ldc2 hC.1 hC.2.1 hC.2.2.2.2.1 (hC.2.2.2.2.2.1 _ hw) hd (kk H locs ls hP hS hL)
theorem gz_ldc2d (hC : gz_X p s m args meth c own cc ret nL D ad cy lay) {idx : Nat} {v : UInt64} (hd : decode cc pc = .ok (.ldc2_w idx, 3)) (hw : Cond.constantDouble own idx v ∈ gz_XS) (kk : gz_W p l e R s m args below meth c D ad cy lay nL Q (I, G) (pc + 3) lv (.double v :: st)) : gz_W p l e R s m args below meth c D ad cy lay nL Q (I, G) (pc) lv (st) := fun H locs ls hP hS hL => lv_ldc2d hC.1 hC.2.1 hC.2.2.2.2.1 (hC.2.2.2.2.2.1 _ hw) hd (kk H locs ls hP hS hL)
theorem gz_iadd (hC : gz_X p s m args meth c own cc ret nL D ad cy lay) {x y : Int32} (hd : decode cc pc = .ok (.iadd, 1)) (kk : gz_W p l e R s m args below meth c D ad cy lay nL Q (I, G) (pc + 1) lv (.int (x + y) :: st)) : gz_W p l e R s m args below meth c D ad cy lay nL Q (I, G) (pc) lv (.int y :: .int x :: st) := fun H locs ls hP hS hL => lv_iadd hC.1 hC.2.1 hd (kk H locs ls hP hS hL)
theorem gz_isub (hC : gz_X p s m args meth c own cc ret nL D ad cy lay) {x y : Int32} (hd : decode cc pc = .ok (.isub, 1)) (kk : gz_W p l e R s m args below meth c D ad cy lay nL Q (I, G) (pc + 1) lv (.int (x - y) :: st)) : gz_W p l e R s m args below meth c D ad cy lay nL Q (I, G) (pc) lv (.int y :: .int x :: st) := fun H locs ls hP hS hL => lv_isub hC.1 hC.2.1 hd (kk H locs ls hP hS hL)
theorem gz_imul (hC : gz_X p s m args meth c own cc ret nL D ad cy lay) {x y : Int32} (hd : decode cc pc = .ok (.imul, 1)) (kk : gz_W p l e R s m args below meth c D ad cy lay nL Q (I, G) (pc + 1) lv (.int (x * y) :: st)) : gz_W p l e R s m args below meth c D ad cy lay nL Q (I, G) (pc) lv (.int y :: .int x :: st) := fun H locs ls hP hS hL => lv_imul hC.1 hC.2.1 hd (kk H locs ls hP hS hL)
theorem gz_iand (hC : gz_X p s m args meth c own cc ret nL D ad cy lay) {x y : Int32} (hd : decode cc pc = .ok (.iand, 1)) (kk : gz_W p l e R s m args below meth c D ad cy lay nL Q (I, G) (pc + 1) lv (.int (x &&& y) :: st)) : gz_W p l e R s m args below meth c D ad cy lay nL Q (I, G) (pc) lv (.int y :: .int x :: st) := fun H locs ls hP hS hL => lv_iand hC.1 hC.2.1 hd (kk H locs ls hP hS hL)
theorem gz_idiv (hC : gz_X p s m args meth c own cc ret nL D ad cy lay) {x y : Int32} (hd : decode cc pc = .ok (.idiv, 1)) (hne : ¬ y = 0) (kk : gz_W p l e R s m args below meth c D ad cy lay nL Q (I, G) (pc + 1) lv (.int (x / y) :: st)) : gz_W p l e R s m args below meth c D ad cy lay nL Q (I, G) (pc) lv (.int y :: .int x :: st) := fun H locs ls hP hS hL => lv_idiv hC.1 hC.2.1 hd hne (kk H locs ls hP hS hL)
theorem gz_irem (hC : gz_X p s m args meth c own cc ret nL D ad cy lay) {x y : Int32} (hd : decode cc pc = .ok (.irem, 1)) (hne : ¬ y = 0) (kk : gz_W p l e R s m args below meth c D ad cy lay nL Q (I, G) (pc + 1) lv (.int (x - x / y * y) :: st)) : gz_W p l e R s m args below meth c D ad cy lay nL Q (I, G) (pc) lv (.int y :: .int x :: st) := fun H locs ls hP hS hL => lv_irem hC.1 hC.2.1 hd hne (kk H locs ls hP hS hL)
theorem gz_ladd (hC : gz_X p s m args meth c own cc ret nL D ad cy lay) {x y : Int64} (hd : decode cc pc = .ok (.ladd, 1)) (kk : gz_W p l e R s m args below meth c D ad cy lay nL Q (I, G) (pc + 1) lv (.long (x + y) :: st)) : gz_W p l e R s m args below meth c D ad cy lay nL Q (I, G) (pc) lv (.long y :: .long x :: st) := fun H locs ls hP hS hL => lv_ladd hC.1 hC.2.1 hd (kk H locs ls hP hS hL)
theorem gz_lsub (hC : gz_X p s m args meth c own cc ret nL D ad cy lay) {x y : Int64} (hd : decode cc pc = .ok (.lsub, 1)) (kk : gz_W p l e R s m args below meth c D ad cy lay nL Q (I, G) (pc + 1) lv (.long (x - y) :: st)) : gz_W p l e R s m args below meth c D ad cy lay nL Q (I, G) (pc) lv (.long y :: .long x :: st) := fun H locs ls hP hS hL => lv_lsub hC.1 hC.2.1 hd (kk H locs ls hP hS hL)
theorem gz_lmul (hC : gz_X p s m args meth c own cc ret nL D ad cy lay) {x y : Int64} (hd : decode cc pc = .ok (.lmul, 1)) (kk : gz_W p l e R s m args below meth c D ad cy lay nL Q (I, G) (pc + 1) lv (.long (x * y) :: st)) : gz_W p l e R s m args below meth c D ad cy lay nL Q (I, G) (pc) lv (.long y :: .long x :: st) := fun H locs ls hP hS hL => lv_lmul hC.1 hC.2.1 hd (kk H locs ls hP hS hL)
theorem gz_lshl (hC : gz_X p s m args meth c own cc ret nL D ad cy lay) {x : Int64} {y : Int32} (hd : decode cc pc = .ok (.lshl, 1)) (kk : gz_W p l e R s m args below meth c D ad cy lay nL Q (I, G) (pc + 1) lv (.long (x <<< (y.toInt64 &&& 63)) :: st)) : gz_W p l e R s m args below meth c D ad cy lay nL Q (I, G) (pc) lv (.int y :: .long x :: st) := fun H locs ls hP hS hL => lv_lshl hC.1 hC.2.1 hd rfl (kk H locs ls hP hS hL)
theorem gz_i2l (hC : gz_X p s m args meth c own cc ret nL D ad cy lay) {x : Int32} (hd : decode cc pc = .ok (.i2l, 1)) (kk : gz_W p l e R s m args below meth c D ad cy lay nL Q (I, G) (pc + 1) lv (.long x.toInt64 :: st)) : gz_W p l e R s m args below meth c D ad cy lay nL Q (I, G) (pc) lv (.int x :: st) := fun H locs ls hP hS hL => lv_i2l hC.1 hC.2.1 hd rfl (kk H locs ls hP hS hL)
theorem gz_i2d (hC : gz_X p s m args meth c own cc ret nL D ad cy lay) {x : Int32} (hd : decode cc pc = .ok (.i2d, 1)) (kk : gz_W p l e R s m args below meth c D ad cy lay nL Q (I, G) (pc + 1) lv (.double (FP.i2d x) :: st)) : gz_W p l e R s m args below meth c D ad cy lay nL Q (I, G) (pc) lv (.int x :: st) := fun H locs ls hP hS hL => lv_i2d hC.1 hC.2.1 hd (kk H locs ls hP hS hL)
theorem gz_d2l (hC : gz_X p s m args meth c own cc ret nL D ad cy lay) {x : UInt64} (hd : decode cc pc = .ok (.d2l, 1)) (kk : gz_W p l e R s m args below meth c D ad cy lay nL Q (I, G) (pc + 1) lv (.long (FP.d2l x) :: st)) : gz_W p l e R s m args below meth c D ad cy lay nL Q (I, G) (pc) lv (.double x :: st) := fun H locs ls hP hS hL => lv_d2l hC.1 hC.2.1 hd (kk H locs ls hP hS hL)
theorem gz_dadd (hC : gz_X p s m args meth c own cc ret nL D ad cy lay) {x y : UInt64} (hd : decode cc pc = .ok (.dadd, 1)) (hne : vf_n64 (FP.dadd x y)) (kk : gz_W p l e R s m args below meth c D ad cy lay nL Q (I, G) (pc + 1) lv (.double (FP.dadd x y) :: st)) : gz_W p l e R s m args below meth c D ad cy lay nL Q (I, G) (pc) lv (.double y :: .double x :: st) := fun H locs ls hP hS hL => lv_dadd hC.1 hC.2.1 hd hne (kk H locs ls hP hS hL)
theorem gz_dmul (hC : gz_X p s m args meth c own cc ret nL D ad cy lay) {x y : UInt64} (hd : decode cc pc = .ok (.dmul, 1)) (hne : vf_n64 (FP.dmul x y)) (kk : gz_W p l e R s m args below meth c D ad cy lay nL Q (I, G) (pc + 1) lv (.double (FP.dmul x y) :: st)) : gz_W p l e R s m args below meth c D ad cy lay nL Q (I, G) (pc) lv (.double y :: .double x :: st) := fun H locs ls hP hS hL => lv_dmul hC.1 hC.2.1 hd hne (kk H locs ls hP hS hL)
theorem gz_ddiv (hC : gz_X p s m args meth c own cc ret nL D ad cy lay) {x y : UInt64} (hd : decode cc pc = .ok (.ddiv, 1)) (hne : vf_n64 (FP.ddiv x y)) (kk : gz_W p l e R s m args below meth c D ad cy lay nL Q (I, G) (pc + 1) lv (.double (FP.ddiv x y) :: st)) : gz_W p l e R s m args below meth c D ad cy lay nL Q (I, G) (pc) lv (.double y :: .double x :: st) := fun H locs ls hP hS hL => lv_ddiv hC.1 hC.2.1 hd hne (kk H locs ls hP hS hL)
theorem gz_dcmp (hC : gz_X p s m args meth c own cc ret nL D ad cy lay) {x y : UInt64} {op : CmpOp} (hd : decode cc pc = .ok (.dcmp op, 1)) (kk : gz_W p l e R s m args below meth c D ad cy lay nL Q (I, G) (pc + 1) lv (.int (Op.cmpValue (FP.dcmp x y) op) :: st)) : gz_W p l e R s m args below meth c D ad cy lay nL Q (I, G) (pc) lv (.double y :: .double x :: st) := fun H locs ls hP hS hL => lv_dcmp hC.1 hC.2.1 hd (kk H locs ls hP hS hL)
theorem gz_dup (hC : gz_X p s m args meth c own cc ret nL D ad cy lay) {v : Value} (hd : decode cc pc = .ok (.dup, 1)) (hv : v.category = 1) (kk : gz_W p l e R s m args below meth c D ad cy lay nL Q (I, G) (pc + 1) lv (v :: v :: st)) : gz_W p l e R s m args below meth c D ad cy lay nL Q (I, G) (pc) lv (v :: st) := fun H locs ls hP hS hL => lv_dup hC.1 hC.2.1 hd hv (kk H locs ls hP hS hL)
theorem gz_dup2 (hC : gz_X p s m args meth c own cc ret nL D ad cy lay) {v w : Value} (hd : decode cc pc = .ok (.dup2, 1)) (hv : v.category = 1) (hw : w.category = 1) (kk : gz_W p l e R s m args below meth c D ad cy lay nL Q (I, G) (pc + 1) lv (v :: w :: v :: w :: st)) : gz_W p l e R s m args below meth c D ad cy lay nL Q (I, G) (pc) lv (v :: w :: st) := fun H locs ls hP hS hL => lv_dup2_11 hC.1 hC.2.1 hd (by first | exact hv | exact hw) (by first | exact hw | exact hv) (kk H locs ls hP hS hL)
theorem gz_pop2 (hC : gz_X p s m args meth c own cc ret nL D ad cy lay) {v : Value} (hd : decode cc pc = .ok (.pop2, 1)) (hv : v.category = 2) (kk : gz_W p l e R s m args below meth c D ad cy lay nL Q (I, G) (pc + 1) lv (st)) : gz_W p l e R s m args below meth c D ad cy lay nL Q (I, G) (pc) lv (v :: st) := fun H locs ls hP hS hL => lv_pop2_2 hC.1 hC.2.1 hd hv (kk H locs ls hP hS hL)
theorem gz_icmp_eq (hC : gz_X p s m args meth c own cc ret nL D ad cy lay) {x y : Int32} {off : Int} (tgt : Nat) (hd : decode cc pc = .ok (.if_icmp .eq off, 3)) (ht : (pc : Int) + off = (tgt : Int)) (kt : x = y → gz_W p l e R s m args below meth c D ad cy lay nL Q (I, G) (tgt) lv (st)) (kf : ¬ x = y → gz_W p l e R s m args below meth c D ad cy lay nL Q (I, G) (pc + 3) lv (st)) : gz_W p l e R s m args below meth c D ad cy lay nL Q (I, G) (pc) lv (.int y :: .int x :: st) := fun H locs ls hP hS hL => lv_icmp_eq hC.1 hC.2.1 hd ht (fun h => kt h H locs ls hP hS hL) (fun h => kf h H locs ls hP hS hL)
theorem gz_if_eq (hC : gz_X p s m args meth c own cc ret nL D ad cy lay) {x : Int32} {off : Int} (tgt : Nat) (hd : decode cc pc = .ok (.ifCond .eq off, 3)) (ht : (pc : Int) + off = (tgt : Int)) (kt : x = 0 → gz_W p l e R s m args below meth c D ad cy lay nL Q (I, G) (tgt) lv (st)) (kf : ¬ x = 0 → gz_W p l e R s m args below meth c D ad cy lay nL Q (I, G) (pc + 3) lv (st)) : gz_W p l e R s m args below meth c D ad cy lay nL Q (I, G) (pc) lv (.int x :: st) := fun H locs ls hP hS hL => lv_if_eq hC.1 hC.2.1 hd ht (fun h => kt h H locs ls hP hS hL) (fun h => kf h H locs ls hP hS hL)
theorem gz_icmp_ne (hC : gz_X p s m args meth c own cc ret nL D ad cy lay) {x y : Int32} {off : Int} (tgt : Nat) (hd : decode cc pc = .ok (.if_icmp .ne off, 3)) (ht : (pc : Int) + off = (tgt : Int)) (kt : ¬ x = y → gz_W p l e R s m args below meth c D ad cy lay nL Q (I, G) (tgt) lv (st)) (kf : x = y → gz_W p l e R s m args below meth c D ad cy lay nL Q (I, G) (pc + 3) lv (st)) : gz_W p l e R s m args below meth c D ad cy lay nL Q (I, G) (pc) lv (.int y :: .int x :: st) := fun H locs ls hP hS hL => lv_icmp_ne hC.1 hC.2.1 hd ht (fun h => kt h H locs ls hP hS hL) (fun h => kf h H locs ls hP hS hL)
theorem gz_if_ne (hC : gz_X p s m args meth c own cc ret nL D ad cy lay) {x : Int32} {off : Int} (tgt : Nat) (hd : decode cc pc = .ok (.ifCond .ne off, 3)) (ht : (pc : Int) + off = (tgt : Int)) (kt : ¬ x = 0 → gz_W p l e R s m args below meth c D ad cy lay nL Q (I, G) (tgt) lv (st)) (kf : x = 0 → gz_W p l e R s m args below meth c D ad cy lay nL Q (I, G) (pc + 3) lv (st)) : gz_W p l e R s m args below meth c D ad cy lay nL Q (I, G) (pc) lv (.int x :: st) := fun H locs ls hP hS hL => lv_if_ne hC.1 hC.2.1 hd ht (fun h => kt h H locs ls hP hS hL) (fun h => kf h H locs ls hP hS hL)
theorem gz_icmp_lt (hC : gz_X p s m args meth c own cc ret nL D ad cy lay) {x y : Int32} {off : Int} (tgt : Nat) (hd : decode cc pc = .ok (.if_icmp .lt off, 3)) (ht : (pc : Int) + off = (tgt : Int)) (kt : x < y → gz_W p l e R s m args below meth c D ad cy lay nL Q (I, G) (tgt) lv (st)) (kf : ¬ x < y → gz_W p l e R s m args below meth c D ad cy lay nL Q (I, G) (pc + 3) lv (st)) : gz_W p l e R s m args below meth c D ad cy lay nL Q (I, G) (pc) lv (.int y :: .int x :: st) := fun H locs ls hP hS hL => lv_icmp_lt hC.1 hC.2.1 hd ht (fun h => kt h H locs ls hP hS hL) (fun h => kf h H locs ls hP hS hL)
theorem gz_if_lt (hC : gz_X p s m args meth c own cc ret nL D ad cy lay) {x : Int32} {off : Int} (tgt : Nat) (hd : decode cc pc = .ok (.ifCond .lt off, 3)) (ht : (pc : Int) + off = (tgt : Int)) (kt : x < 0 → gz_W p l e R s m args below meth c D ad cy lay nL Q (I, G) (tgt) lv (st)) (kf : ¬ x < 0 → gz_W p l e R s m args below meth c D ad cy lay nL Q (I, G) (pc + 3) lv (st)) : gz_W p l e R s m args below meth c D ad cy lay nL Q (I, G) (pc) lv (.int x :: st) := fun H locs ls hP hS hL => lv_if_lt hC.1 hC.2.1 hd ht (fun h => kt h H locs ls hP hS hL) (fun h => kf h H locs ls hP hS hL)
theorem gz_icmp_ge (hC : gz_X p s m args meth c own cc ret nL D ad cy lay) {x y : Int32} {off : Int} (tgt : Nat) (hd : decode cc pc = .ok (.if_icmp .ge off, 3)) (ht : (pc : Int) + off = (tgt : Int)) (kt : y ≤ x → gz_W p l e R s m args below meth c D ad cy lay nL Q (I, G) (tgt) lv (st)) (kf : ¬ y ≤ x → gz_W p l e R s m args below meth c D ad cy lay nL Q (I, G) (pc + 3) lv (st)) : gz_W p l e R s m args below meth c D ad cy lay nL Q (I, G) (pc) lv (.int y :: .int x :: st) := fun H locs ls hP hS hL => lv_icmp_ge hC.1 hC.2.1 hd ht (fun h => kt h H locs ls hP hS hL) (fun h => kf h H locs ls hP hS hL)
theorem gz_if_ge (hC : gz_X p s m args meth c own cc ret nL D ad cy lay) {x : Int32} {off : Int} (tgt : Nat) (hd : decode cc pc = .ok (.ifCond .ge off, 3)) (ht : (pc : Int) + off = (tgt : Int)) (kt : 0 ≤ x → gz_W p l e R s m args below meth c D ad cy lay nL Q (I, G) (tgt) lv (st)) (kf : ¬ 0 ≤ x → gz_W p l e R s m args below meth c D ad cy lay nL Q (I, G) (pc + 3) lv (st)) : gz_W p l e R s m args below meth c D ad cy lay nL Q (I, G) (pc) lv (.int x :: st) := fun H locs ls hP hS hL => lv_if_ge hC.1 hC.2.1 hd ht (fun h => kt h H locs ls hP hS hL) (fun h => kf h H locs ls hP hS hL)
theorem gz_icmp_gt (hC : gz_X p s m args meth c own cc ret nL D ad cy lay) {x y : Int32} {off : Int} (tgt : Nat) (hd : decode cc pc = .ok (.if_icmp .gt off, 3)) (ht : (pc : Int) + off = (tgt : Int)) (kt : y < x → gz_W p l e R s m args below meth c D ad cy lay nL Q (I, G) (tgt) lv (st)) (kf : ¬ y < x → gz_W p l e R s m args below meth c D ad cy lay nL Q (I, G) (pc + 3) lv (st)) : gz_W p l e R s m args below meth c D ad cy lay nL Q (I, G) (pc) lv (.int y :: .int x :: st) := fun H locs ls hP hS hL => lv_icmp_gt hC.1 hC.2.1 hd ht (fun h => kt h H locs ls hP hS hL) (fun h => kf h H locs ls hP hS hL)
theorem gz_if_gt (hC : gz_X p s m args meth c own cc ret nL D ad cy lay) {x : Int32} {off : Int} (tgt : Nat) (hd : decode cc pc = .ok (.ifCond .gt off, 3)) (ht : (pc : Int) + off = (tgt : Int)) (kt : 0 < x → gz_W p l e R s m args below meth c D ad cy lay nL Q (I, G) (tgt) lv (st)) (kf : ¬ 0 < x → gz_W p l e R s m args below meth c D ad cy lay nL Q (I, G) (pc + 3) lv (st)) : gz_W p l e R s m args below meth c D ad cy lay nL Q (I, G) (pc) lv (.int x :: st) := fun H locs ls hP hS hL => lv_if_gt hC.1 hC.2.1 hd ht (fun h => kt h H locs ls hP hS hL) (fun h => kf h H locs ls hP hS hL)
theorem gz_icmp_le (hC : gz_X p s m args meth c own cc ret nL D ad cy lay) {x y : Int32} {off : Int} (tgt : Nat) (hd : decode cc pc = .ok (.if_icmp .le off, 3)) (ht : (pc : Int) + off = (tgt : Int)) (kt : x ≤ y → gz_W p l e R s m args below meth c D ad cy lay nL Q (I, G) (tgt) lv (st)) (kf : ¬ x ≤ y → gz_W p l e R s m args below meth c D ad cy lay nL Q (I, G) (pc + 3) lv (st)) : gz_W p l e R s m args below meth c D ad cy lay nL Q (I, G) (pc) lv (.int y :: .int x :: st) := fun H locs ls hP hS hL => lv_icmp_le hC.1 hC.2.1 hd ht (fun h => kt h H locs ls hP hS hL) (fun h => kf h H locs ls hP hS hL)
theorem gz_if_le (hC : gz_X p s m args meth c own cc ret nL D ad cy lay) {x : Int32} {off : Int} (tgt : Nat) (hd : decode cc pc = .ok (.ifCond .le off, 3)) (ht : (pc : Int) + off = (tgt : Int)) (kt : x ≤ 0 → gz_W p l e R s m args below meth c D ad cy lay nL Q (I, G) (tgt) lv (st)) (kf : ¬ x ≤ 0 → gz_W p l e R s m args below meth c D ad cy lay nL Q (I, G) (pc + 3) lv (st)) : gz_W p l e R s m args below meth c D ad cy lay nL Q (I, G) (pc) lv (.int x :: st) := fun H locs ls hP hS hL => lv_if_le hC.1 hC.2.1 hd ht (fun h => kt h H locs ls hP hS hL) (fun h => kf h H locs ls hP hS hL)
theorem gz_goto (hC : gz_X p s m args meth c own cc ret nL D ad cy lay) {off : Int} (tgt : Nat) (hd : decode cc pc = .ok (.goto off, 3)) (ht : (pc : Int) + off = (tgt : Int)) (kk : gz_W p l e R s m args below meth c D ad cy lay nL Q (I, G) (tgt) lv (st)) : gz_W p l e R s m args below meth c D ad cy lay nL Q (I, G) (pc) lv (st) := fun H locs ls hP hS hL => lv_goto hC.1 hC.2.1 hd ht (kk H locs ls hP hS hL)
theorem gz_tabIn (hC : gz_X p s m args meth c own cc ret nL D ad cy lay) {dflt lo hi : Int} {offs : Array Int} {len : Nat} {x : Int32} {off : Int} (tgt : Nat) (hd : decode cc pc = .ok (.tableswitch dflt lo hi offs, len)) (h1 : ¬ x.toInt < lo) (h2 : ¬ hi < x.toInt) (ho : offs[(x.toInt - lo).toNat]? = some off) (ht : (pc : Int) + off = (tgt : Int)) (kk : gz_W p l e R s m args below meth c D ad cy lay nL Q (I, G) (tgt) lv (st)) : gz_W p l e R s m args below meth c D ad cy lay nL Q (I, G) (pc) lv (.int x :: st) := fun H locs ls hP hS hL => lv_tableIn hC.1 hC.2.1 hd h1 h2 ho ht (kk H locs ls hP hS hL)
theorem gz_tabOut (hC : gz_X p s m args meth c own cc ret nL D ad cy lay) {dflt lo hi : Int} {offs : Array Int} {len : Nat} {x : Int32} (tgt : Nat) (hd : decode cc pc = .ok (.tableswitch dflt lo hi offs, len)) (h : x.toInt < lo ∨ hi < x.toInt) (ht : (pc : Int) + dflt = (tgt : Int)) (kk : gz_W p l e R s m args below meth c D ad cy lay nL Q (I, G) (tgt) lv (st)) : gz_W p l e R s m args below meth c D ad cy lay nL Q (I, G) (pc) lv (.int x :: st) := fun H locs ls hP hS hL => lv_tableOut hC.1 hC.2.1 hd h ht (kk H locs ls hP hS hL)
/-- what a program decides of a kind of objects -/
def gz_CF (ci : Nat) (C : String) (T : u_T) (N : Nat) (ty0 : Nat → FieldType) : Prop := vwCl[ci]? = some (C, T, N) ∧ (∀ w ∈ u_ws C T N, w ∈ gz_XS) ∧ (∀ k, k < N → parseFieldDescriptor (T k).2.2.1 = some (ty0 k)) ∧ (∀ a, a < N → ∀ b, b < N → a ≠ b → (T a).2.1 ≠ (T b).2.1)
def gz_lk (own : String) (idx : Nat) (T : u_T) (j : Nat) : Prop := Cond.fieldLink own idx (T j).1 (T j).2.1 (T j).2.2.1 ∈ gz_XS
def gz_lkN (own : String) (idx : Nat) (T : u_T) (j : Nat) (host : String) : Prop := Cond.fieldLinkNest own idx (T j).1 (T j).2.1 (T j).2.2.1 host ∈ gz_XN
theorem gz_getI (hC : gz_X p s m args meth c own cc ret nL D ad cy lay) {ci : Nat} {C : String} {T : u_T} {N : Nat} {ty0 : Nat → FieldType} {idx k j : Nat} {fs : List (Option Nat)} (hd : decode cc pc = .ok (.getfield idx, 3)) (hF : gz_CF ci C T N ty0) (hl : gz_lk own idx T j) (hk : lay[k]? = some (.inl (ci, fs))) (hf : fs[j]? = some (none)) (hj : j < N) (kk : gz_W p l e R s m args below meth c D ad cy lay nL Q (I, G) (pc + 3) lv (.int (I k j) :: st)) : gz_W p l e R s m args below meth c D ad cy lay nL Q (I, G) (pc) lv (.ref (ad k) :: st) := fun H locs ls hP hS hL => va_get hC.1 hC.2.1 hC.2.2.2.2.2.1 hF.2.1 hC.2.2.2.2.1 hC.2.2.2.2.2.2.2.1 hP k (gz_ws_at hk) hF.1 j hj (hC.2.2.2.2.2.1 _ hl) (fun _ h9 => h9) (v := .int (I k j)) (by show (gz_fs ad (I, G) k fs)[j]? = _; rw [gz_fs_get, hf]; rfl) hd (kk H locs ls hP hS hL)
theorem gz_getIN (hC : gz_X p s m args meth c own cc ret nL D ad cy lay) {ci : Nat} {C : String} {T : u_T} {N : Nat} {ty0 : Nat → FieldType} {idx k j : Nat} {fs : List (Option Nat)} (hd : decode cc pc = .ok (.getfield idx, 3)) (hF : gz_CF ci C T N ty0) {host : String} (hl : gz_lkN own idx T j host) (hk : lay[k]? = some (.inl (ci, fs))) (hf : fs[j]? = some (none)) (hj : j < N) (kk : gz_W p l e R s m args below meth c D ad cy lay nL Q (I, G) (pc + 3) lv (.int (I k j) :: st)) : gz_W p l e R s m args below meth c D ad cy lay nL Q (I, G) (pc) lv (.ref (ad k) :: st) := fun H locs ls hP hS hL => va_getN hC.1 hC.2.1 hC.2.2.2.2.2.1 hF.2.1 hC.2.2.2.2.1 hC.2.2.2.2.2.2.2.1 hP k (gz_ws_at hk) hF.1 j hj (va_Nw.use rfl (hC.2.2.2.2.2.2.1 _ hl)) (fun _ h9 => h9) (v := .int (I k j)) (by show (gz_fs ad (I, G) k fs)[j]? = _; rw [gz_fs_get, hf]; rfl) hd (kk H locs ls hP hS hL)
theorem gz_getR (hC : gz_X p s m args meth c own cc ret nL D ad cy lay) {ci : Nat} {C : String} {T : u_T} {N : Nat} {ty0 : Nat → FieldType} {idx k j : Nat} {fs : List (Option Nat)} {r : Nat} (hd : decode cc pc = .ok (.getfield idx, 3)) (hF : gz_CF ci C T N ty0) (hl : gz_lk own idx T j) (hk : lay[k]? = some (.inl (ci, fs))) (hf : fs[j]? = some (some r)) (hj : j < N) (kk : gz_W p l e R s m args below meth c D ad cy lay nL Q (I, G) (pc + 3) lv (.ref (ad r) :: st)) : gz_W p l e R s m args below meth c D ad cy lay nL Q (I, G) (pc) lv (.ref (ad k) :: st) := fun H locs ls hP hS hL => va_get hC.1 hC.2.1 hC.2.2.2.2.2.1 hF.2.1 hC.2.2.2.2.1 hC.2.2.2.2.2.2.2.1 hP k (gz_ws_at hk) hF.1 j hj (hC.2.2.2.2.2.1 _ hl) (fun _ h9 => h9) (v := .ref (ad r)) (by show (gz_fs ad (I, G) k fs)[j]? = _; rw [gz_fs_get, hf]; rfl) hd (kk H locs ls hP hS hL)
theorem gz_getRN (hC : gz_X p s m args meth c own cc ret nL D ad cy lay) {ci : Nat} {C : String} {T : u_T} {N : Nat} {ty0 : Nat → FieldType} {idx k j : Nat} {fs : List (Option Nat)} {r : Nat} (hd : decode cc pc = .ok (.getfield idx, 3)) (hF : gz_CF ci C T N ty0) {host : String} (hl : gz_lkN own idx T j host) (hk : lay[k]? = some (.inl (ci, fs))) (hf : fs[j]? = some (some r)) (hj : j < N) (kk : gz_W p l e R s m args below meth c D ad cy lay nL Q (I, G) (pc + 3) lv (.ref (ad r) :: st)) : gz_W p l e R s m args below meth c D ad cy lay nL Q (I, G) (pc) lv (.ref (ad k) :: st) := fun H locs ls hP hS hL => va_getN hC.1 hC.2.1 hC.2.2.2.2.2.1 hF.2.1 hC.2.2.2.2.1 hC.2.2.2.2.2.2.2.1 hP k (gz_ws_at hk) hF.1 j hj (va_Nw.use rfl (hC.2.2.2.2.2.2.1 _ hl)) (fun _ h9 => h9) (v := .ref (ad r)) (by show (gz_fs ad (I, G) k fs)[j]? = _; rw [gz_fs_get, hf]; rfl) hd (kk H locs ls hP hS hL)
theorem gz_put (hC : gz_X p s m args meth c own cc ret nL D ad cy lay) {ci : Nat} {C : String} {T : u_T} {N : Nat} {ty0 : Nat → FieldType} {idx k j : Nat} {fs : List (Option Nat)} {v : Int32} (hd : decode cc pc = .ok (.putfield idx, 3)) (hF : gz_CF ci C T N ty0) (hl : gz_lk own idx T j) (hk : lay[k]? = some (.inl (ci, fs))) (hf : fs[j]? = some none) (hj : j < N) (hfin : (T j).2.2.2 = false) (hn : narrow (ty0 j) (.int v) = .int v) (hfit : fits (ty0 j) (.int v) = true) (kk : gz_W p l e R s m args below meth c D ad cy lay nL Q (gz_up I k j v, G) (pc + 3) lv (st)) : gz_W p l e R s m args below meth c D ad cy lay nL Q (I, G) (pc) lv (.int v :: .ref (ad k) :: st) := fun H locs ls hP hS hL => va_put hC.1 hC.2.1 hC.2.2.2.2.2.1 hF.2.1 ty0 hF.2.2.1 hF.2.2.2 hC.2.2.2.2.1 hC.2.2.2.2.2.2.2.1 hP (gz_D hC.2.2.2.2.2.2.2.2.2 (I, G)) hS k (gz_ws_at hk) hF.1 j hj (hC.2.2.2.2.2.1 _ hl) (fun _ h9 => h9) hfin (hF.2.2.1 j hj) hn hfit (by rw [gz_fs_len]; exact (List.getElem?_eq_some_iff.mp hf).1) hd (fun H1 locs1 hP1 _ hS1 => kk H1 locs1 ls (Eq.mp (congrArg (fun w => va_P D vwCl w H1) (gz_setI (M := (I, G)) hk hf)) hP1) hS1 hL)
theorem gz_putN (hC : gz_X p s m args meth c own cc ret nL D ad cy lay) {ci : Nat} {C : String} {T : u_T} {N : Nat} {ty0 : Nat → FieldType} {idx k j : Nat} {fs : List (Option Nat)} {v : Int32} (hd : decode cc pc = .ok (.putfield idx, 3)) (hF : gz_CF ci C T N ty0) {host : String} (hl : gz_lkN own idx T j host) (hk : lay[k]? = some (.inl (ci, fs))) (hf : fs[j]? = some none) (hj : j < N) (hfin : (T j).2.2.2 = false) (hn : narrow (ty0 j) (.int v) = .int v) (hfit : fits (ty0 j) (.int v) = true) (kk : gz_W p l e R s m args below meth c D ad cy lay nL Q (gz_up I k j v, G) (pc + 3) lv (st)) : gz_W p l e R s m args below meth c D ad cy lay nL Q (I, G) (pc) lv (.int v :: .ref (ad k) :: st) := fun H locs ls hP hS hL => va_putN hC.1 hC.2.1 hC.2.2.2.2.2.1 hF.2.1 ty0 hF.2.2.1 hF.2.2.2 hC.2.2.2.2.1 hC.2.2.2.2.2.2.2.1 hP (gz_D hC.2.2.2.2.2.2.2.2.2 (I, G)) hS k (gz_ws_at hk) hF.1 j hj (va_Nw.use rfl (hC.2.2.2.2.2.2.1 _ hl)) (fun _ h9 => h9) hfin (hF.2.2.1 j hj) hn hfit (by rw [gz_fs_len]; exact (List.getElem?_eq_some_iff.mp hf).1) hd (fun H1 locs1 hP1 _ hS1 => kk H1 locs1 ls (Eq.mp (congrArg (fun w => va_P D vwCl w H1) (gz_setI (M := (I, G)) hk hf)) hP1) hS1 hL)
theorem gz_iald (hC : gz_X p s m args meth c own cc ret nL D ad cy lay) {k n : Nat} {i : Int32} (hd : decode cc pc = .ok (.iaload, 1)) (hk : lay[k]? = some (.inr (n, 0))) (hin : vp_in i n) (kk : gz_W p l e R s m args below meth c D ad cy lay nL Q (I, G) (pc + 1) lv (.int (I k i.toNatClampNeg) :: st)) : gz_W p l e R s m args below meth c D ad cy lay nL Q (I, G) (pc) lv (.int i :: .ref (ad k) :: st) := fun H locs ls hP hS hL => va_iald hC.1 hC.2.1 hC.2.2.2.2.2.2.2.1 hP k 0 (gz_ws_at hk) rfl hin hd (kk H locs ls hP hS hL)
theorem gz_zald (hC : gz_X p s m args meth c own cc ret nL D ad cy lay) {k n : Nat} {i : Int32} (hd : decode cc pc = .ok (.baload, 1)) (hk : lay[k]? = some (.inr (n, 2))) (hin : vp_in i n) (kk : gz_W p l e R s m args below meth c D ad cy lay nL Q (I, G) (pc + 1) lv (.int (I k i.toNatClampNeg) :: st)) : gz_W p l e R s m args below meth c D ad cy lay nL Q (I, G) (pc) lv (.int i :: .ref (ad k) :: st) := fun H locs ls hP hS hL => va_zald hC.1 hC.2.1 hC.2.2.2.2.2.2.2.1 hP k 2 (gz_ws_at hk) rfl hin hd (kk H locs ls hP hS hL)
theorem gz_dald (hC : gz_X p s m args meth c own cc ret nL D ad cy lay) {k n : Nat} {i : Int32} (hd : decode cc pc = .ok (.daload, 1)) (hk : lay[k]? = some (.inr (n, 1))) (hin : vp_in i n) (kk : gz_W p l e R s m args below meth c D ad cy lay nL Q (I, G) (pc + 1) lv (.double (G k i.toNatClampNeg) :: st)) : gz_W p l e R s m args below meth c D ad cy lay nL Q (I, G) (pc) lv (.int i :: .ref (ad k) :: st) := fun H locs ls hP hS hL => va_dald hC.1 hC.2.1 hC.2.2.2.2.2.2.2.1 hP k 1 (gz_ws_at hk) rfl hin hd (kk H locs ls hP hS hL)
theorem gz_iast (hC : gz_X p s m args meth c own cc ret nL D ad cy lay) {k n : Nat} {i x : Int32} (hd : decode cc pc = .ok (.iastore, 1)) (hk : lay[k]? = some (.inr (n, 0))) (hin : vp_in i n) (kk : gz_W p l e R s m args below meth c D ad cy lay nL Q (gz_up I k i.toNatClampNeg x, G) (pc + 1) lv (st)) : gz_W p l e R s m args below meth c D ad cy lay nL Q (I, G) (pc) lv (.int x :: .int i :: .ref (ad k) :: st) := fun H locs ls hP hS hL => va_iast hC.1 hC.2.1 hC.2.2.2.2.2.2.2.1 hP (gz_D hC.2.2.2.2.2.2.2.2.2 (I, G)) hS k 0 (gz_ws_at hk) rfl hin hd (fun H1 locs1 hP1 _ hS1 => kk H1 locs1 ls (Eq.mp (congrArg (fun w => va_P D vwCl w H1) (gz_setA (M := (I, G)) hk rfl)) hP1) hS1 hL)
theorem gz_zast (hC : gz_X p s m args meth c own cc ret nL D ad cy lay) {k n : Nat} {i x : Int32} (hd : decode cc pc = .ok (.bastore, 1)) (hk : lay[k]? = some (.inr (n, 2))) (hin : vp_in i n) (kk : gz_W p l e R s m args below meth c D ad cy lay nL Q (gz_up I k i.toNatClampNeg (vp_nar .boolean x), G) (pc + 1) lv (st)) : gz_W p l e R s m args below meth c D ad cy lay nL Q (I, G) (pc) lv (.int x :: .int i :: .ref (ad k) :: st) := fun H locs ls hP hS hL => va_zast hC.1 hC.2.1 hC.2.2.2.2.2.2.2.1 hP (gz_D hC.2.2.2.2.2.2.2.2.2 (I, G)) hS k 2 (gz_ws_at hk) rfl hin hd (fun H1 locs1 hP1 _ hS1 => kk H1 locs1 ls (Eq.mp (congrArg (fun w => va_P D vwCl w H1) (gz_setA (M := (I, G)) hk rfl)) hP1) hS1 hL)
theorem gz_dast (hC : gz_X p s m args meth c own cc ret nL D ad cy lay) {k n : Nat} {i : Int32} {x : UInt64} (hd : decode cc pc = .ok (.dastore, 1)) (hk : lay[k]? = some (.inr (n, 1))) (hin : vp_in i n) (kk : gz_W p l e R s m args below meth c D ad cy lay nL Q (I, gz_up G k i.toNatClampNeg x) (pc + 1) lv (st)) : gz_W p l e R s m args below meth c D ad cy lay nL Q (I, G) (pc) lv (.double x :: .int i :: .ref (ad k) :: st) := fun H locs ls hP hS hL => va_dast hC.1 hC.2.1 hC.2.2.2.2.2.2.2.1 hP (gz_D hC.2.2.2.2.2.2.2.2.2 (I, G)) hS k 1 (gz_ws_at hk) rfl hin hd (fun H1 locs1 hP1 _ hS1 => kk H1 locs1 ls (Eq.mp (congrArg (fun w => va_P D vwCl w H1) (gz_setD (M := (I, G)) hk)) hP1) hS1 hL)
theorem gz_alenI (hC : gz_X p s m args meth c own cc ret nL D ad cy lay) {k n kd : Nat} (hd : decode cc pc = .ok (.arraylength, 1)) (hk : lay[k]? = some (.inr (n, kd))) (hkd : kd = 0) (kk : gz_W p l e R s m args below meth c D ad cy lay nL Q (I, G) (pc + 1) lv (.int (nI n) :: st)) : gz_W p l e R s m args below meth c D ad cy lay nL Q (I, G) (pc) lv (.ref (ad k) :: st) := fun H locs ls hP hS hL => by
  subst hkd
  exact va_alen hC.1 hC.2.1 hC.2.2.2.2.2.2.2.1 hP k 0 (gz_ws_at hk) rfl rfl hd (kk H locs ls hP hS hL)
theorem gz_alenD (hC : gz_X p s m args meth c own cc ret nL D ad cy lay) {k n : Nat} (hd : decode cc pc = .ok (.arraylength, 1)) (hk : lay[k]? = some (.inr (n, 1))) (kk : gz_W p l e R s m args below meth c D ad cy lay nL Q (I, G) (pc + 1) lv (.int (nI n) :: st)) : gz_W p l e R s m args below meth c D ad cy lay nL Q (I, G) (pc) lv (.ref (ad k) :: st) := fun H locs ls hP hS hL => va_alen hC.1 hC.2.1 hC.2.2.2.2.2.2.2.1 hP k 1 (gz_ws_at hk) rfl rfl hd (kk H locs ls hP hS hL)
/-- what a program decides of a call -/
def gz_pl (y : MethodName) (na : Nat) : Prop := y.cls ≠ "java/lang/invoke/MethodHandle" ∧ y.cls ≠ "java/lang/invoke/VarHandle" ∧ (parseMethodDescriptor y.desc).map (fun d => d.parameters.length) = some na
def gz_KV (own : String) (idx : Nat) (y : MethodName) (b : ByteArray) (n : Nat) (ret : Option FieldType) (na : Nat) : Prop := Cond.methodLink own idx y ∈ gz_XS ∧ Cond.instanceMethod y ∈ gz_XS ∧ Cond.selects y.cls y y ∈ gz_XS ∧ Cond.initialized y.cls ∈ gz_XS ∧ Cond.code y b n ret ∈ gz_XS ∧ gz_pl y na
def gz_KS (own : String) (idx : Nat) (y : MethodName) (b : ByteArray) (n : Nat) (ret : Option FieldType) (na : Nat) : Prop := Cond.methodLink own idx y ∈ gz_XS ∧ Cond.static y ∈ gz_XS ∧ Cond.initialized y.cls ∈ gz_XS ∧ Cond.code y b n ret ∈ gz_XS ∧ gz_pl y na
def gz_KSN (own : String) (idx : Nat) (y : MethodName) (host : String) (b : ByteArray) (n : Nat) (ret : Option FieldType) (na : Nat) : Prop := Cond.methodLinkNest own idx y host ∈ gz_XN ∧ Cond.static y ∈ gz_XS ∧ Cond.initialized y.cls ∈ gz_XS ∧ Cond.code y b n ret ∈ gz_XS ∧ gz_pl y na
def gz_KVN (own : String) (idx : Nat) (y : MethodName) (host : String) (b : ByteArray) (n : Nat) (ret : Option FieldType) (na : Nat) : Prop := Cond.methodLinkNest own idx y host ∈ gz_XN ∧ Cond.instanceMethod y ∈ gz_XS ∧ Cond.selects y.cls y y ∈ gz_XS ∧ Cond.initialized y.cls ∈ gz_XS ∧ Cond.code y b n ret ∈ gz_XS ∧ gz_pl y na
theorem gz_cons {w : Cond} {ws : List Cond} (h : w ∈ gz_XS) (t : GoodIn gz_XS ws) : GoodIn gz_XS (w :: ws) := fun v hv => (List.mem_cons.mp hv).elim (fun q => by rw [q]; exact gz_good w h) (fun q => t v q)
theorem gz_goodV {own : String} {idx : Nat} {y : MethodName} {b : ByteArray} {n : Nat} {ret : Option FieldType} {na : Nat} (h : gz_KV own idx y b n ret na) : GoodIn gz_XS (wsV own idx y.cls y (.code y b n ret :: gz_XS)) := gz_cons h.1 (gz_cons h.2.1 (gz_cons h.2.2.1 (gz_cons h.2.2.2.1 (gz_cons h.2.2.2.2.1 gz_good))))
theorem gz_goodS {own : String} {idx : Nat} {y : MethodName} {b : ByteArray} {n : Nat} {ret : Option FieldType} {na : Nat} (h : gz_KS own idx y b n ret na) : GoodIn gz_XS (va_wsS own idx y (.code y b n ret :: gz_XS)) := gz_cons h.1 (gz_cons h.2.1 (gz_cons h.2.2.1 (gz_cons h.2.2.2.1 gz_good)))
theorem gz_fbl {av : List Value} : FrameBlind (va_Pc av (gz_B D ad cy lay M)) := fun a U g mk q => ⟨q.1, q.2.1, va_K.moved (u := U) (U := U.calling g mk a) (Vm.Alike.refl U.vm) q.2.2.1, fun w hw => by
  have h1 := q.2.2.2 w hw
  have h2 := (List.mem_filter.mp hw).2
  refine va_Nw.same (u := U) ?_ rfl h1
  unfold gz_isN at h2
  split at h2
  · rfl
  · rfl
  · exact absurd h2 (by decide)⟩
theorem gz_pre {H : Heap} {av : List Value} (hC : gz_X p s m args meth c own cc ret nL D ad cy lay) (hP : va_P D vwCl (gz_ws ad cy lay M) H) : ∀ U : State, U.heap = H → s.WarmedH U.vm → va_Pc av (gz_B D ad cy lay M) av.toArray U := fun U hU hW => ⟨rfl, by rw [hU]; exact hP, va_K.moved hW.alike hC.2.2.2.2.2.2.2.1, gz_nest hW hC.2.2.2.2.2.2.1⟩
theorem gz_rf {d d2 n : Nat} (h : d + 1 ≤ d2) (hn : n ≤ 21) : (gz_rm d).frames + 1 ≤ (gz_rm d2).frames ∧ 8 + (n + 11) + (gz_rm d).locals ≤ (gz_rm d2).locals := by
  refine ⟨h, ?_⟩
  show 8 + (n + 11) + 40 * d ≤ 40 * d2
  omega
theorem gz_go {H : Heap} {locs : List Loc} {ls : Array Slot} {rest st0 : List Value} {post : Option Value → gz_M → Prop} {a : Array Value} (hr : va_Run p l e R s m args below meth c H locs 0 0 0 0 (F0 m pc ls st0) rest (gz_Q D ad cy lay post a) (gz_A ad lay)) (hS : va_S (gz_A ad lay) s.heap H locs)
    (kk : ∀ (v : Option Value) (M1 : gz_M) (H1 : Heap) (locs1 : List Loc), post v M1 → va_P D vwCl (gz_ws ad cy lay M1) H1 → va_S (gz_A ad lay) s.heap H1 locs1 → W p l e R s m args below meth c H1 locs1 0 0 Q (F0 m (pc + 3) ls (v.toList ++ rest))) : W p l e R s m args below meth c H locs 0 0 Q (F0 m pc ls st0) := by
  intro T hT X
  obtain ⟨v, st₀, t, T', L, h0, X', hL, e1, e2, ⟨⟨v2, M1, hv, hp, hb⟩, hz, hk⟩, st⟩ := hr T hT X
  cases hv
  rw [h0] at hz hk
  obtain ⟨t2, a1, b1⟩ := kk v M1 T'.heap (locs ++ L) hp (by rw [e1]; exact hb)
    ⟨Nat.le_trans hS.1 (by rw [e1]; exact hz), fun q h1 h2 => by rw [e1, hk q (Nat.lt_of_lt_of_le h1 hS.1) h2]; exact hS.2.1 q h1 h2, fun q hq => by
      rcases List.mem_append.mp hq with h | h
      · exact hS.2.2 q h
      · exact hL q h⟩ T' rfl X'
  exact ⟨t2, st t2 a1, b1⟩
theorem gz_callV0 (hC : gz_X p s m args meth c own cc ret nL D ad cy lay) {idx : Nat} {y : MethodName} {b : ByteArray} {n : Nat} {ret2 : Option FieldType} {d d2 : Nat} {post : Option Value → gz_M → Prop} (hd : decode cc pc = .ok (.invokevirtual idx, 3)) (hK : gz_KV own idx y b n ret2 0) {k ci : Nat} {fs : List (Option Nat)} {T : u_T} {N : Nat} (hk : lay[k]? = some (.inl (ci, fs))) (hcl : vwCl[ci]? = some (y.cls, T, N)) (hdd : d + 1 ≤ d2) (hn : n ≤ 21) (hrm : (st.map fun v => v.category).sum ≤ 8) (hct : gz_Ct l D ad cy lay y b n ret2 d (.ref (ad k) :: []) (I, G) post) (kk : ∀ (v : Option Value) (M1 : gz_M), post v M1 → gz_W p l e (gz_rm d2) s m args below meth c D ad cy lay nL Q M1 (pc + 3) lv (gz_ps v st)) : gz_W p l e (gz_rm d2) s m args below meth c D ad cy lay nL Q (I, G) pc lv (.ref (ad k) :: st) := fun H locs ls hP hS hL => gz_go (va_runV (As := []) (rest := st) ⟨hC.1, hC.2.1, hC.2.2.2.1, hC.2.2.2.2.1, hC.2.2.2.2.2.1⟩ hct (cwV 0 hC.2.2.2.2.2.1 (gz_goodV hK) rfl rfl rfl ⟨rfl, hK.2.2.2.2.2⟩ (gz_rf hdd hn)) ⟨gz_fbl, va_recv hC.2.2.2.2.2.2.2.1 hP hcl (gz_ws_at hk), gz_pre (av := (.ref (ad k) :: [])) hC hP⟩ rfl rfl hL.1 rfl (lv_room hrm) hd ⟨Nat.le_refl 0, Nat.le_refl 0⟩) hS (fun v M1 H1 locs1 hp hP1 hS1 => by cases v <;> exact kk _ M1 hp H1 locs1 ls hP1 hS1 hL)
theorem gz_callV1 (hC : gz_X p s m args meth c own cc ret nL D ad cy lay) {idx : Nat} {y : MethodName} {b : ByteArray} {n : Nat} {ret2 : Option FieldType} {d d2 : Nat} {post : Option Value → gz_M → Prop} {v1 : Value} (hd : decode cc pc = .ok (.invokevirtual idx, 3)) (hK : gz_KV own idx y b n ret2 1) {k ci : Nat} {fs : List (Option Nat)} {T : u_T} {N : Nat} (hk : lay[k]? = some (.inl (ci, fs))) (hcl : vwCl[ci]? = some (y.cls, T, N)) (hdd : d + 1 ≤ d2) (hn : n ≤ 21) (hrm : (st.map fun v => v.category).sum ≤ 8) (hct : gz_Ct l D ad cy lay y b n ret2 d (.ref (ad k) :: [v1]) (I, G) post) (kk : ∀ (v : Option Value) (M1 : gz_M), post v M1 → gz_W p l e (gz_rm d2) s m args below meth c D ad cy lay nL Q M1 (pc + 3) lv (gz_ps v st)) : gz_W p l e (gz_rm d2) s m args below meth c D ad cy lay nL Q (I, G) pc lv (v1 :: .ref (ad k) :: st) := fun H locs ls hP hS hL => gz_go (va_runV (As := [v1]) (rest := st) ⟨hC.1, hC.2.1, hC.2.2.2.1, hC.2.2.2.2.1, hC.2.2.2.2.2.1⟩ hct (cwV 1 hC.2.2.2.2.2.1 (gz_goodV hK) rfl rfl rfl ⟨rfl, hK.2.2.2.2.2⟩ (gz_rf hdd hn)) ⟨gz_fbl, va_recv hC.2.2.2.2.2.2.2.1 hP hcl (gz_ws_at hk), gz_pre (av := (.ref (ad k) :: [v1])) hC hP⟩ rfl rfl hL.1 rfl (lv_room hrm) hd ⟨Nat.le_refl 0, Nat.le_refl 0⟩) hS (fun v M1 H1 locs1 hp hP1 hS1 => by cases v <;> exact kk _ M1 hp H1 locs1 ls hP1 hS1 hL)
theorem gz_callV2 (hC : gz_X p s m args meth c own cc ret nL D ad cy lay) {idx : Nat} {y : MethodName} {b : ByteArray} {n : Nat} {ret2 : Option FieldType} {d d2 : Nat} {post : Option Value → gz_M → Prop} {v1 v2 : Value} (hd : decode cc pc = .ok (.invokevirtual idx, 3)) (hK : gz_KV own idx y b n ret2 2) {k ci : Nat} {fs : List (Option Nat)} {T : u_T} {N : Nat} (hk : lay[k]? = some (.inl (ci, fs))) (hcl : vwCl[ci]? = some (y.cls, T, N)) (hdd : d + 1 ≤ d2) (hn : n ≤ 21) (hrm : (st.map fun v => v.category).sum ≤ 8) (hct : gz_Ct l D ad cy lay y b n ret2 d (.ref (ad k) :: [v1, v2]) (I, G) post) (kk : ∀ (v : Option Value) (M1 : gz_M), post v M1 → gz_W p l e (gz_rm d2) s m args below meth c D ad cy lay nL Q M1 (pc + 3) lv (gz_ps v st)) : gz_W p l e (gz_rm d2) s m args below meth c D ad cy lay nL Q (I, G) pc lv (v2 :: v1 :: .ref (ad k) :: st) := fun H locs ls hP hS hL => gz_go (va_runV (As := [v1, v2]) (rest := st) ⟨hC.1, hC.2.1, hC.2.2.2.1, hC.2.2.2.2.1, hC.2.2.2.2.2.1⟩ hct (cwV 2 hC.2.2.2.2.2.1 (gz_goodV hK) rfl rfl rfl ⟨rfl, hK.2.2.2.2.2⟩ (gz_rf hdd hn)) ⟨gz_fbl, va_recv hC.2.2.2.2.2.2.2.1 hP hcl (gz_ws_at hk), gz_pre (av := (.ref (ad k) :: [v1, v2])) hC hP⟩ rfl rfl hL.1 rfl (lv_room hrm) hd ⟨Nat.le_refl 0, Nat.le_refl 0⟩) hS (fun v M1 H1 locs1 hp hP1 hS1 => by cases v <;> exact kk _ M1 hp H1 locs1 ls hP1 hS1 hL)
theorem gz_callV3 (hC : gz_X p s m args meth c own cc ret nL D ad cy lay) {idx : Nat} {y : MethodName} {b : ByteArray} {n : Nat} {ret2 : Option FieldType} {d d2 : Nat} {post : Option Value → gz_M → Prop} {v1 v2 v3 : Value} (hd : decode cc pc = .ok (.invokevirtual idx, 3)) (hK : gz_KV own idx y b n ret2 3) {k ci : Nat} {fs : List (Option Nat)} {T : u_T} {N : Nat} (hk : lay[k]? = some (.inl (ci, fs))) (hcl : vwCl[ci]? = some (y.cls, T, N)) (hdd : d + 1 ≤ d2) (hn : n ≤ 21) (hrm : (st.map fun v => v.category).sum ≤ 8) (hct : gz_Ct l D ad cy lay y b n ret2 d (.ref (ad k) :: [v1, v2, v3]) (I, G) post) (kk : ∀ (v : Option Value) (M1 : gz_M), post v M1 → gz_W p l e (gz_rm d2) s m args below meth c D ad cy lay nL Q M1 (pc + 3) lv (gz_ps v st)) : gz_W p l e (gz_rm d2) s m args below meth c D ad cy lay nL Q (I, G) pc lv (v3 :: v2 :: v1 :: .ref (ad k) :: st) := fun H locs ls hP hS hL => gz_go (va_runV (As := [v1, v2, v3]) (rest := st) ⟨hC.1, hC.2.1, hC.2.2.2.1, hC.2.2.2.2.1, hC.2.2.2.2.2.1⟩ hct (cwV 3 hC.2.2.2.2.2.1 (gz_goodV hK) rfl rfl rfl ⟨rfl, hK.2.2.2.2.2⟩ (gz_rf hdd hn)) ⟨gz_fbl, va_recv hC.2.2.2.2.2.2.2.1 hP hcl (gz_ws_at hk), gz_pre (av := (.ref (ad k) :: [v1, v2, v3])) hC hP⟩ rfl rfl hL.1 rfl (lv_room hrm) hd ⟨Nat.le_refl 0, Nat.le_refl 0⟩) hS (fun v M1 H1 locs1 hp hP1 hS1 => by cases v <;> exact kk _ M1 hp H1 locs1 ls hP1 hS1 hL)
theorem gz_callV4 (hC : gz_X p s m args meth c own cc ret nL D ad cy lay) {idx : Nat} {y : MethodName} {b : ByteArray} {n : Nat} {ret2 : Option FieldType} {d d2 : Nat} {post : Option Value → gz_M → Prop} {v1 v2 v3 v4 : Value} (hd : decode cc pc = .ok (.invokevirtual idx, 3)) (hK : gz_KV own idx y b n ret2 4) {k ci : Nat} {fs : List (Option Nat)} {T : u_T} {N : Nat} (hk : lay[k]? = some (.inl (ci, fs))) (hcl : vwCl[ci]? = some (y.cls, T, N)) (hdd : d + 1 ≤ d2) (hn : n ≤ 21) (hrm : (st.map fun v => v.category).sum ≤ 8) (hct : gz_Ct l D ad cy lay y b n ret2 d (.ref (ad k) :: [v1, v2, v3, v4]) (I, G) post) (kk : ∀ (v : Option Value) (M1 : gz_M), post v M1 → gz_W p l e (gz_rm d2) s m args below meth c D ad cy lay nL Q M1 (pc + 3) lv (gz_ps v st)) : gz_W p l e (gz_rm d2) s m args below meth c D ad cy lay nL Q (I, G) pc lv (v4 :: v3 :: v2 :: v1 :: .ref (ad k) :: st) := fun H locs ls hP hS hL => gz_go (va_runV (As := [v1, v2, v3, v4]) (rest := st) ⟨hC.1, hC.2.1, hC.2.2.2.1, hC.2.2.2.2.1, hC.2.2.2.2.2.1⟩ hct (cwV 4 hC.2.2.2.2.2.1 (gz_goodV hK) rfl rfl rfl ⟨rfl, hK.2.2.2.2.2⟩ (gz_rf hdd hn)) ⟨gz_fbl, va_recv hC.2.2.2.2.2.2.2.1 hP hcl (gz_ws_at hk), gz_pre (av := (.ref (ad k) :: [v1, v2, v3, v4])) hC hP⟩ rfl rfl hL.1 rfl (lv_room hrm) hd ⟨Nat.le_refl 0, Nat.le_refl 0⟩) hS (fun v M1 H1 locs1 hp hP1 hS1 => by cases v <;> exact kk _ M1 hp H1 locs1 ls hP1 hS1 hL)
theorem gz_callV5 (hC : gz_X p s m args meth c own cc ret nL D ad cy lay) {idx : Nat} {y : MethodName} {b : ByteArray} {n : Nat} {ret2 : Option FieldType} {d d2 : Nat} {post : Option Value → gz_M → Prop} {v1 v2 v3 v4 v5 : Value} (hd : decode cc pc = .ok (.invokevirtual idx, 3)) (hK : gz_KV own idx y b n ret2 5) {k ci : Nat} {fs : List (Option Nat)} {T : u_T} {N : Nat} (hk : lay[k]? = some (.inl (ci, fs))) (hcl : vwCl[ci]? = some (y.cls, T, N)) (hdd : d + 1 ≤ d2) (hn : n ≤ 21) (hrm : (st.map fun v => v.category).sum ≤ 8) (hct : gz_Ct l D ad cy lay y b n ret2 d (.ref (ad k) :: [v1, v2, v3, v4, v5]) (I, G) post) (kk : ∀ (v : Option Value) (M1 : gz_M), post v M1 → gz_W p l e (gz_rm d2) s m args below meth c D ad cy lay nL Q M1 (pc + 3) lv (gz_ps v st)) : gz_W p l e (gz_rm d2) s m args below meth c D ad cy lay nL Q (I, G) pc lv (v5 :: v4 :: v3 :: v2 :: v1 :: .ref (ad k) :: st) := fun H locs ls hP hS hL => gz_go (va_runV (As := [v1, v2, v3, v4, v5]) (rest := st) ⟨hC.1, hC.2.1, hC.2.2.2.1, hC.2.2.2.2.1, hC.2.2.2.2.2.1⟩ hct (cwV 5 hC.2.2.2.2.2.1 (gz_goodV hK) rfl rfl rfl ⟨rfl, hK.2.2.2.2.2⟩ (gz_rf hdd hn)) ⟨gz_fbl, va_recv hC.2.2.2.2.2.2.2.1 hP hcl (gz_ws_at hk), gz_pre (av := (.ref (ad k) :: [v1, v2, v3, v4, v5])) hC hP⟩ rfl rfl hL.1 rfl (lv_room hrm) hd ⟨Nat.le_refl 0, Nat.le_refl 0⟩) hS (fun v M1 H1 locs1 hp hP1 hS1 => by cases v <;> exact kk _ M1 hp H1 locs1 ls hP1 hS1 hL)
theorem gz_callV6 (hC : gz_X p s m args meth c own cc ret nL D ad cy lay) {idx : Nat} {y : MethodName} {b : ByteArray} {n : Nat} {ret2 : Option FieldType} {d d2 : Nat} {post : Option Value → gz_M → Prop} {v1 v2 v3 v4 v5 v6 : Value} (hd : decode cc pc = .ok (.invokevirtual idx, 3)) (hK : gz_KV own idx y b n ret2 6) {k ci : Nat} {fs : List (Option Nat)} {T : u_T} {N : Nat} (hk : lay[k]? = some (.inl (ci, fs))) (hcl : vwCl[ci]? = some (y.cls, T, N)) (hdd : d + 1 ≤ d2) (hn : n ≤ 21) (hrm : (st.map fun v => v.category).sum ≤ 8) (hct : gz_Ct l D ad cy lay y b n ret2 d (.ref (ad k) :: [v1, v2, v3, v4, v5, v6]) (I, G) post) (kk : ∀ (v : Option Value) (M1 : gz_M), post v M1 → gz_W p l e (gz_rm d2) s m args below meth c D ad cy lay nL Q M1 (pc + 3) lv (gz_ps v st)) : gz_W p l e (gz_rm d2) s m args below meth c D ad cy lay nL Q (I, G) pc lv (v6 :: v5 :: v4 :: v3 :: v2 :: v1 :: .ref (ad k) :: st) := fun H locs ls hP hS hL => gz_go (va_runV (As := [v1, v2, v3, v4, v5, v6]) (rest := st) ⟨hC.1, hC.2.1, hC.2.2.2.1, hC.2.2.2.2.1, hC.2.2.2.2.2.1⟩ hct (cwV 6 hC.2.2.2.2.2.1 (gz_goodV hK) rfl rfl rfl ⟨rfl, hK.2.2.2.2.2⟩ (gz_rf hdd hn)) ⟨gz_fbl, va_recv hC.2.2.2.2.2.2.2.1 hP hcl (gz_ws_at hk), gz_pre (av := (.ref (ad k) :: [v1, v2, v3, v4, v5, v6])) hC hP⟩ rfl rfl hL.1 rfl (lv_room hrm) hd ⟨Nat.le_refl 0, Nat.le_refl 0⟩) hS (fun v M1 H1 locs1 hp hP1 hS1 => by cases v <;> exact kk _ M1 hp H1 locs1 ls hP1 hS1 hL)
theorem gz_callS0 (hC : gz_X p s m args meth c own cc ret nL D ad cy lay) {idx : Nat} {y : MethodName} {b : ByteArray} {n : Nat} {ret2 : Option FieldType} {d d2 : Nat} {post : Option Value → gz_M → Prop} (hd : decode cc pc = .ok (.invokestatic idx, 3)) (hK : gz_KS own idx y b n ret2 0) (hdd : d + 1 ≤ d2) (hn : n ≤ 21) (hrm : (st.map fun v => v.category).sum ≤ 8) (hct : gz_Ct l D ad cy lay y b n ret2 d [] (I, G) post) (kk : ∀ (v : Option Value) (M1 : gz_M), post v M1 → gz_W p l e (gz_rm d2) s m args below meth c D ad cy lay nL Q M1 (pc + 3) lv (gz_ps v st)) : gz_W p l e (gz_rm d2) s m args below meth c D ad cy lay nL Q (I, G) pc lv (st) := fun H locs ls hP hS hL => gz_go (va_runS (As := []) (rest := st) ⟨hC.1, hC.2.1, hC.2.2.2.1, hC.2.2.2.2.1, hC.2.2.2.2.2.1⟩ hct (va_cwS 0 hC.2.2.2.2.2.1 (gz_goodS hK) rfl rfl rfl hK.2.2.2.2 (gz_rf hdd hn)) ⟨gz_fbl, gz_pre (av := []) hC hP⟩ rfl rfl hL.1 rfl (lv_room hrm) hd ⟨Nat.le_refl 0, Nat.le_refl 0⟩) hS (fun v M1 H1 locs1 hp hP1 hS1 => by cases v <;> exact kk _ M1 hp H1 locs1 ls hP1 hS1 hL)
theorem gz_callS1 (hC : gz_X p s m args meth c own cc ret nL D ad cy lay) {idx : Nat} {y : MethodName} {b : ByteArray} {n : Nat} {ret2 : Option FieldType} {d d2 : Nat} {post : Option Value → gz_M → Prop} {v1 : Value} (hd : decode cc pc = .ok (.invokestatic idx, 3)) (hK : gz_KS own idx y b n ret2 1) (hdd : d + 1 ≤ d2) (hn : n ≤ 21) (hrm : (st.map fun v => v.category).sum ≤ 8) (hct : gz_Ct l D ad cy lay y b n ret2 d [v1] (I, G) post) (kk : ∀ (v : Option Value) (M1 : gz_M), post v M1 → gz_W p l e (gz_rm d2) s m args below meth c D ad cy lay nL Q M1 (pc + 3) lv (gz_ps v st)) : gz_W p l e (gz_rm d2) s m args below meth c D ad cy lay nL Q (I, G) pc lv (v1 :: st) := fun H locs ls hP hS hL => gz_go (va_runS (As := [v1]) (rest := st) ⟨hC.1, hC.2.1, hC.2.2.2.1, hC.2.2.2.2.1, hC.2.2.2.2.2.1⟩ hct (va_cwS 1 hC.2.2.2.2.2.1 (gz_goodS hK) rfl rfl rfl hK.2.2.2.2 (gz_rf hdd hn)) ⟨gz_fbl, gz_pre (av := [v1]) hC hP⟩ rfl rfl hL.1 rfl (lv_room hrm) hd ⟨Nat.le_refl 0, Nat.le_refl 0⟩) hS (fun v M1 H1 locs1 hp hP1 hS1 => by cases v <;> exact kk _ M1 hp H1 locs1 ls hP1 hS1 hL)
theorem gz_callS2 (hC : gz_X p s m args meth c own cc ret nL D ad cy lay) {idx : Nat} {y : MethodName} {b : ByteArray} {n : Nat} {ret2 : Option FieldType} {d d2 : Nat} {post : Option Value → gz_M → Prop} {v1 v2 : Value} (hd : decode cc pc = .ok (.invokestatic idx, 3)) (hK : gz_KS own idx y b n ret2 2) (hdd : d + 1 ≤ d2) (hn : n ≤ 21) (hrm : (st.map fun v => v.category).sum ≤ 8) (hct : gz_Ct l D ad cy lay y b n ret2 d [v1, v2] (I, G) post) (kk : ∀ (v : Option Value) (M1 : gz_M), post v M1 → gz_W p l e (gz_rm d2) s m args below meth c D ad cy lay nL Q M1 (pc + 3) lv (gz_ps v st)) : gz_W p l e (gz_rm d2) s m args below meth c D ad cy lay nL Q (I, G) pc lv (v2 :: v1 :: st) := fun H locs ls hP hS hL => gz_go (va_runS (As := [v1, v2]) (rest := st) ⟨hC.1, hC.2.1, hC.2.2.2.1, hC.2.2.2.2.1, hC.2.2.2.2.2.1⟩ hct (va_cwS 2 hC.2.2.2.2.2.1 (gz_goodS hK) rfl rfl rfl hK.2.2.2.2 (gz_rf hdd hn)) ⟨gz_fbl, gz_pre (av := [v1, v2]) hC hP⟩ rfl rfl hL.1 rfl (lv_room hrm) hd ⟨Nat.le_refl 0, Nat.le_refl 0⟩) hS (fun v M1 H1 locs1 hp hP1 hS1 => by cases v <;> exact kk _ M1 hp H1 locs1 ls hP1 hS1 hL)
theorem gz_callS3 (hC : gz_X p s m args meth c own cc ret nL D ad cy lay) {idx : Nat} {y : MethodName} {b : ByteArray} {n : Nat} {ret2 : Option FieldType} {d d2 : Nat} {post : Option Value → gz_M → Prop} {v1 v2 v3 : Value} (hd : decode cc pc = .ok (.invokestatic idx, 3)) (hK : gz_KS own idx y b n ret2 3) (hdd : d + 1 ≤ d2) (hn : n ≤ 21) (hrm : (st.map fun v => v.category).sum ≤ 8) (hct : gz_Ct l D ad cy lay y b n ret2 d [v1, v2, v3] (I, G) post) (kk : ∀ (v : Option Value) (M1 : gz_M), post v M1 → gz_W p l e (gz_rm d2) s m args below meth c D ad cy lay nL Q M1 (pc + 3) lv (gz_ps v st)) : gz_W p l e (gz_rm d2) s m args below meth c D ad cy lay nL Q (I, G) pc lv (v3 :: v2 :: v1 :: st) := fun H locs ls hP hS hL => gz_go (va_runS (As := [v1, v2, v3]) (rest := st) ⟨hC.1, hC.2.1, hC.2.2.2.1, hC.2.2.2.2.1, hC.2.2.2.2.2.1⟩ hct (va_cwS 3 hC.2.2.2.2.2.1 (gz_goodS hK) rfl rfl rfl hK.2.2.2.2 (gz_rf hdd hn)) ⟨gz_fbl, gz_pre (av := [v1, v2, v3]) hC hP⟩ rfl rfl hL.1 rfl (lv_room hrm) hd ⟨Nat.le_refl 0, Nat.le_refl 0⟩) hS (fun v M1 H1 locs1 hp hP1 hS1 => by cases v <;> exact kk _ M1 hp H1 locs1 ls hP1 hS1 hL)
theorem gz_callS4 (hC : gz_X p s m args meth c own cc ret nL D ad cy lay) {idx : Nat} {y : MethodName} {b : ByteArray} {n : Nat} {ret2 : Option FieldType} {d d2 : Nat} {post : Option Value → gz_M → Prop} {v1 v2 v3 v4 : Value} (hd : decode cc pc = .ok (.invokestatic idx, 3)) (hK : gz_KS own idx y b n ret2 4) (hdd : d + 1 ≤ d2) (hn : n ≤ 21) (hrm : (st.map fun v => v.category).sum ≤ 8) (hct : gz_Ct l D ad cy lay y b n ret2 d [v1, v2, v3, v4] (I, G) post) (kk : ∀ (v : Option Value) (M1 : gz_M), post v M1 → gz_W p l e (gz_rm d2) s m args below meth c D ad cy lay nL Q M1 (pc + 3) lv (gz_ps v st)) : gz_W p l e (gz_rm d2) s m args below meth c D ad cy lay nL Q (I, G) pc lv (v4 :: v3 :: v2 :: v1 :: st) := fun H locs ls hP hS hL => gz_go (va_runS (As := [v1, v2, v3, v4]) (rest := st) ⟨hC.1, hC.2.1, hC.2.2.2.1, hC.2.2.2.2.1, hC.2.2.2.2.2.1⟩ hct (va_cwS 4 hC.2.2.2.2.2.1 (gz_goodS hK) rfl rfl rfl hK.2.2.2.2 (gz_rf hdd hn)) ⟨gz_fbl, gz_pre (av := [v1, v2, v3, v4]) hC hP⟩ rfl rfl hL.1 rfl (lv_room hrm) hd ⟨Nat.le_refl 0, Nat.le_refl 0⟩) hS (fun v M1 H1 locs1 hp hP1 hS1 => by cases v <;> exact kk _ M1 hp H1 locs1 ls hP1 hS1 hL)
theorem gz_callS5 (hC : gz_X p s m args meth c own cc ret nL D ad cy lay) {idx : Nat} {y : MethodName} {b : ByteArray} {n : Nat} {ret2 : Option FieldType} {d d2 : Nat} {post : Option Value → gz_M → Prop} {v1 v2 v3 v4 v5 : Value} (hd : decode cc pc = .ok (.invokestatic idx, 3)) (hK : gz_KS own idx y b n ret2 5) (hdd : d + 1 ≤ d2) (hn : n ≤ 21) (hrm : (st.map fun v => v.category).sum ≤ 8) (hct : gz_Ct l D ad cy lay y b n ret2 d [v1, v2, v3, v4, v5] (I, G) post) (kk : ∀ (v : Option Value) (M1 : gz_M), post v M1 → gz_W p l e (gz_rm d2) s m args below meth c D ad cy lay nL Q M1 (pc + 3) lv (gz_ps v st)) : gz_W p l e (gz_rm d2) s m args below meth c D ad cy lay nL Q (I, G) pc lv (v5 :: v4 :: v3 :: v2 :: v1 :: st) := fun H locs ls hP hS hL => gz_go (va_runS (As := [v1, v2, v3, v4, v5]) (rest := st) ⟨hC.1, hC.2.1, hC.2.2.2.1, hC.2.2.2.2.1, hC.2.2.2.2.2.1⟩ hct (va_cwS 5 hC.2.2.2.2.2.1 (gz_goodS hK) rfl rfl rfl hK.2.2.2.2 (gz_rf hdd hn)) ⟨gz_fbl, gz_pre (av := [v1, v2, v3, v4, v5]) hC hP⟩ rfl rfl hL.1 rfl (lv_room hrm) hd ⟨Nat.le_refl 0, Nat.le_refl 0⟩) hS (fun v M1 H1 locs1 hp hP1 hS1 => by cases v <;> exact kk _ M1 hp H1 locs1 ls hP1 hS1 hL)
theorem gz_callS6 (hC : gz_X p s m args meth c own cc ret nL D ad cy lay) {idx : Nat} {y : MethodName} {b : ByteArray} {n : Nat} {ret2 : Option FieldType} {d d2 : Nat} {post : Option Value → gz_M → Prop} {v1 v2 v3 v4 v5 v6 : Value} (hd : decode cc pc = .ok (.invokestatic idx, 3)) (hK : gz_KS own idx y b n ret2 6) (hdd : d + 1 ≤ d2) (hn : n ≤ 21) (hrm : (st.map fun v => v.category).sum ≤ 8) (hct : gz_Ct l D ad cy lay y b n ret2 d [v1, v2, v3, v4, v5, v6] (I, G) post) (kk : ∀ (v : Option Value) (M1 : gz_M), post v M1 → gz_W p l e (gz_rm d2) s m args below meth c D ad cy lay nL Q M1 (pc + 3) lv (gz_ps v st)) : gz_W p l e (gz_rm d2) s m args below meth c D ad cy lay nL Q (I, G) pc lv (v6 :: v5 :: v4 :: v3 :: v2 :: v1 :: st) := fun H locs ls hP hS hL => gz_go (va_runS (As := [v1, v2, v3, v4, v5, v6]) (rest := st) ⟨hC.1, hC.2.1, hC.2.2.2.1, hC.2.2.2.2.1, hC.2.2.2.2.2.1⟩ hct (va_cwS 6 hC.2.2.2.2.2.1 (gz_goodS hK) rfl rfl rfl hK.2.2.2.2 (gz_rf hdd hn)) ⟨gz_fbl, gz_pre (av := [v1, v2, v3, v4, v5, v6]) hC hP⟩ rfl rfl hL.1 rfl (lv_room hrm) hd ⟨Nat.le_refl 0, Nat.le_refl 0⟩) hS (fun v M1 H1 locs1 hp hP1 hS1 => by cases v <;> exact kk _ M1 hp H1 locs1 ls hP1 hS1 hL)
theorem gz_callSN0 (hC : gz_X p s m args meth c own cc ret nL D ad cy lay) {idx : Nat} {y : MethodName} {b : ByteArray} {n : Nat} {ret2 : Option FieldType} {d d2 : Nat} {post : Option Value → gz_M → Prop} {host : String} (hd : decode cc pc = .ok (.invokestatic idx, 3)) (hK : gz_KSN own idx y host b n ret2 0) (hdd : d + 1 ≤ d2) (hn : n ≤ 21) (hrm : (st.map fun v => v.category).sum ≤ 8) (hct : gz_Ct l D ad cy lay y b n ret2 d [] (I, G) post) (kk : ∀ (v : Option Value) (M1 : gz_M), post v M1 → gz_W p l e (gz_rm d2) s m args below meth c D ad cy lay nL Q M1 (pc + 3) lv (gz_ps v st)) : gz_W p l e (gz_rm d2) s m args below meth c D ad cy lay nL Q (I, G) pc lv (st) := fun H locs ls hP hS hL => gz_go (va_runSN (As := []) (rest := st) ⟨hC.1, hC.2.1, hC.2.2.2.1, hC.2.2.2.2.1, hC.2.2.2.2.2.1⟩ hct ⟨va_cnB 0 hC.2.2.2.2.2.1 (gz_cons hK.2.2.2.1 gz_good) rfl rfl rfl (hC.2.2.2.2.2.2.1 _ hK.1) (hC.2.2.2.2.2.1 _ hK.2.2.1) hK.2.2.2.2 (gz_rf hdd hn), hC.2.2.2.2.2.1 _ hK.2.1, trivial⟩ ⟨gz_fbl, gz_pre (av := []) hC hP⟩ rfl rfl hL.1 rfl (lv_room hrm) hd ⟨Nat.le_refl 0, Nat.le_refl 0⟩) hS (fun v M1 H1 locs1 hp hP1 hS1 => by cases v <;> exact kk _ M1 hp H1 locs1 ls hP1 hS1 hL)
theorem gz_callSN1 (hC : gz_X p s m args meth c own cc ret nL D ad cy lay) {idx : Nat} {y : MethodName} {b : ByteArray} {n : Nat} {ret2 : Option FieldType} {d d2 : Nat} {post : Option Value → gz_M → Prop} {host : String} {v1 : Value} (hd : decode cc pc = .ok (.invokestatic idx, 3)) (hK : gz_KSN own idx y host b n ret2 1) (hdd : d + 1 ≤ d2) (hn : n ≤ 21) (hrm : (st.map fun v => v.category).sum ≤ 8) (hct : gz_Ct l D ad cy lay y b n ret2 d [v1] (I, G) post) (kk : ∀ (v : Option Value) (M1 : gz_M), post v M1 → gz_W p l e (gz_rm d2) s m args below meth c D ad cy lay nL Q M1 (pc + 3) lv (gz_ps v st)) : gz_W p l e (gz_rm d2) s m args below meth c D ad cy lay nL Q (I, G) pc lv (v1 :: st) := fun H locs ls hP hS hL => gz_go (va_runSN (As := [v1]) (rest := st) ⟨hC.1, hC.2.1, hC.2.2.2.1, hC.2.2.2.2.1, hC.2.2.2.2.2.1⟩ hct ⟨va_cnB 1 hC.2.2.2.2.2.1 (gz_cons hK.2.2.2.1 gz_good) rfl rfl rfl (hC.2.2.2.2.2.2.1 _ hK.1) (hC.2.2.2.2.2.1 _ hK.2.2.1) hK.2.2.2.2 (gz_rf hdd hn), hC.2.2.2.2.2.1 _ hK.2.1, trivial⟩ ⟨gz_fbl, gz_pre (av := [v1]) hC hP⟩ rfl rfl hL.1 rfl (lv_room hrm) hd ⟨Nat.le_refl 0, Nat.le_refl 0⟩) hS (fun v M1 H1 locs1 hp hP1 hS1 => by cases v <;> exact kk _ M1 hp H1 locs1 ls hP1 hS1 hL)
theorem gz_callSN2 (hC : gz_X p s m args meth c own cc ret nL D ad cy lay) {idx : Nat} {y : MethodName} {b : ByteArray} {n : Nat} {ret2 : Option FieldType} {d d2 : Nat} {post : Option Value → gz_M → Prop} {host : String} {v1 v2 : Value} (hd : decode cc pc = .ok (.invokestatic idx, 3)) (hK : gz_KSN own idx y host b n ret2 2) (hdd : d + 1 ≤ d2) (hn : n ≤ 21) (hrm : (st.map fun v => v.category).sum ≤ 8) (hct : gz_Ct l D ad cy lay y b n ret2 d [v1, v2] (I, G) post) (kk : ∀ (v : Option Value) (M1 : gz_M), post v M1 → gz_W p l e (gz_rm d2) s m args below meth c D ad cy lay nL Q M1 (pc + 3) lv (gz_ps v st)) : gz_W p l e (gz_rm d2) s m args below meth c D ad cy lay nL Q (I, G) pc lv (v2 :: v1 :: st) := fun H locs ls hP hS hL => gz_go (va_runSN (As := [v1, v2]) (rest := st) ⟨hC.1, hC.2.1, hC.2.2.2.1, hC.2.2.2.2.1, hC.2.2.2.2.2.1⟩ hct ⟨va_cnB 2 hC.2.2.2.2.2.1 (gz_cons hK.2.2.2.1 gz_good) rfl rfl rfl (hC.2.2.2.2.2.2.1 _ hK.1) (hC.2.2.2.2.2.1 _ hK.2.2.1) hK.2.2.2.2 (gz_rf hdd hn), hC.2.2.2.2.2.1 _ hK.2.1, trivial⟩ ⟨gz_fbl, gz_pre (av := [v1, v2]) hC hP⟩ rfl rfl hL.1 rfl (lv_room hrm) hd ⟨Nat.le_refl 0, Nat.le_refl 0⟩) hS (fun v M1 H1 locs1 hp hP1 hS1 => by cases v <;> exact kk _ M1 hp H1 locs1 ls hP1 hS1 hL)
theorem gz_callSN3 (hC : gz_X p s m args meth c own cc ret nL D ad cy lay) {idx : Nat} {y : MethodName} {b : ByteArray} {n : Nat} {ret2 : Option FieldType} {d d2 : Nat} {post : Option Value → gz_M → Prop} {host : String} {v1 v2 v3 : Value} (hd : decode cc pc = .ok (.invokestatic idx, 3)) (hK : gz_KSN own idx y host b n ret2 3) (hdd : d + 1 ≤ d2) (hn : n ≤ 21) (hrm : (st.map fun v => v.category).sum ≤ 8) (hct : gz_Ct l D ad cy lay y b n ret2 d [v1, v2, v3] (I, G) post) (kk : ∀ (v : Option Value) (M1 : gz_M), post v M1 → gz_W p l e (gz_rm d2) s m args below meth c D ad cy lay nL Q M1 (pc + 3) lv (gz_ps v st)) : gz_W p l e (gz_rm d2) s m args below meth c D ad cy lay nL Q (I, G) pc lv (v3 :: v2 :: v1 :: st) := fun H locs ls hP hS hL => gz_go (va_runSN (As := [v1, v2, v3]) (rest := st) ⟨hC.1, hC.2.1, hC.2.2.2.1, hC.2.2.2.2.1, hC.2.2.2.2.2.1⟩ hct ⟨va_cnB 3 hC.2.2.2.2.2.1 (gz_cons hK.2.2.2.1 gz_good) rfl rfl rfl (hC.2.2.2.2.2.2.1 _ hK.1) (hC.2.2.2.2.2.1 _ hK.2.2.1) hK.2.2.2.2 (gz_rf hdd hn), hC.2.2.2.2.2.1 _ hK.2.1, trivial⟩ ⟨gz_fbl, gz_pre (av := [v1, v2, v3]) hC hP⟩ rfl rfl hL.1 rfl (lv_room hrm) hd ⟨Nat.le_refl 0, Nat.le_refl 0⟩) hS (fun v M1 H1 locs1 hp hP1 hS1 => by cases v <;> exact kk _ M1 hp H1 locs1 ls hP1 hS1 hL)
theorem gz_callSN4 (hC : gz_X p s m args meth c own cc ret nL D ad cy lay) {idx : Nat} {y : MethodName} {b : ByteArray} {n : Nat} {ret2 : Option FieldType} {d d2 : Nat} {post : Option Value → gz_M → Prop} {host : String} {v1 v2 v3 v4 : Value} (hd : decode cc pc = .ok (.invokestatic idx, 3)) (hK : gz_KSN own idx y host b n ret2 4) (hdd : d + 1 ≤ d2) (hn : n ≤ 21) (hrm : (st.map fun v => v.category).sum ≤ 8) (hct : gz_Ct l D ad cy lay y b n ret2 d [v1, v2, v3, v4] (I, G) post) (kk : ∀ (v : Option Value) (M1 : gz_M), post v M1 → gz_W p l e (gz_rm d2) s m args below meth c D ad cy lay nL Q M1 (pc + 3) lv (gz_ps v st)) : gz_W p l e (gz_rm d2) s m args below meth c D ad cy lay nL Q (I, G) pc lv (v4 :: v3 :: v2 :: v1 :: st) := fun H locs ls hP hS hL => gz_go (va_runSN (As := [v1, v2, v3, v4]) (rest := st) ⟨hC.1, hC.2.1, hC.2.2.2.1, hC.2.2.2.2.1, hC.2.2.2.2.2.1⟩ hct ⟨va_cnB 4 hC.2.2.2.2.2.1 (gz_cons hK.2.2.2.1 gz_good) rfl rfl rfl (hC.2.2.2.2.2.2.1 _ hK.1) (hC.2.2.2.2.2.1 _ hK.2.2.1) hK.2.2.2.2 (gz_rf hdd hn), hC.2.2.2.2.2.1 _ hK.2.1, trivial⟩ ⟨gz_fbl, gz_pre (av := [v1, v2, v3, v4]) hC hP⟩ rfl rfl hL.1 rfl (lv_room hrm) hd ⟨Nat.le_refl 0, Nat.le_refl 0⟩) hS (fun v M1 H1 locs1 hp hP1 hS1 => by cases v <;> exact kk _ M1 hp H1 locs1 ls hP1 hS1 hL)
theorem gz_callSN5 (hC : gz_X p s m args meth c own cc ret nL D ad cy lay) {idx : Nat} {y : MethodName} {b : ByteArray} {n : Nat} {ret2 : Option FieldType} {d d2 : Nat} {post : Option Value → gz_M → Prop} {host : String} {v1 v2 v3 v4 v5 : Value} (hd : decode cc pc = .ok (.invokestatic idx, 3)) (hK : gz_KSN own idx y host b n ret2 5) (hdd : d + 1 ≤ d2) (hn : n ≤ 21) (hrm : (st.map fun v => v.category).sum ≤ 8) (hct : gz_Ct l D ad cy lay y b n ret2 d [v1, v2, v3, v4, v5] (I, G) post) (kk : ∀ (v : Option Value) (M1 : gz_M), post v M1 → gz_W p l e (gz_rm d2) s m args below meth c D ad cy lay nL Q M1 (pc + 3) lv (gz_ps v st)) : gz_W p l e (gz_rm d2) s m args below meth c D ad cy lay nL Q (I, G) pc lv (v5 :: v4 :: v3 :: v2 :: v1 :: st) := fun H locs ls hP hS hL => gz_go (va_runSN (As := [v1, v2, v3, v4, v5]) (rest := st) ⟨hC.1, hC.2.1, hC.2.2.2.1, hC.2.2.2.2.1, hC.2.2.2.2.2.1⟩ hct ⟨va_cnB 5 hC.2.2.2.2.2.1 (gz_cons hK.2.2.2.1 gz_good) rfl rfl rfl (hC.2.2.2.2.2.2.1 _ hK.1) (hC.2.2.2.2.2.1 _ hK.2.2.1) hK.2.2.2.2 (gz_rf hdd hn), hC.2.2.2.2.2.1 _ hK.2.1, trivial⟩ ⟨gz_fbl, gz_pre (av := [v1, v2, v3, v4, v5]) hC hP⟩ rfl rfl hL.1 rfl (lv_room hrm) hd ⟨Nat.le_refl 0, Nat.le_refl 0⟩) hS (fun v M1 H1 locs1 hp hP1 hS1 => by cases v <;> exact kk _ M1 hp H1 locs1 ls hP1 hS1 hL)
theorem gz_callSN6 (hC : gz_X p s m args meth c own cc ret nL D ad cy lay) {idx : Nat} {y : MethodName} {b : ByteArray} {n : Nat} {ret2 : Option FieldType} {d d2 : Nat} {post : Option Value → gz_M → Prop} {host : String} {v1 v2 v3 v4 v5 v6 : Value} (hd : decode cc pc = .ok (.invokestatic idx, 3)) (hK : gz_KSN own idx y host b n ret2 6) (hdd : d + 1 ≤ d2) (hn : n ≤ 21) (hrm : (st.map fun v => v.category).sum ≤ 8) (hct : gz_Ct l D ad cy lay y b n ret2 d [v1, v2, v3, v4, v5, v6] (I, G) post) (kk : ∀ (v : Option Value) (M1 : gz_M), post v M1 → gz_W p l e (gz_rm d2) s m args below meth c D ad cy lay nL Q M1 (pc + 3) lv (gz_ps v st)) : gz_W p l e (gz_rm d2) s m args below meth c D ad cy lay nL Q (I, G) pc lv (v6 :: v5 :: v4 :: v3 :: v2 :: v1 :: st) := fun H locs ls hP hS hL => gz_go (va_runSN (As := [v1, v2, v3, v4, v5, v6]) (rest := st) ⟨hC.1, hC.2.1, hC.2.2.2.1, hC.2.2.2.2.1, hC.2.2.2.2.2.1⟩ hct ⟨va_cnB 6 hC.2.2.2.2.2.1 (gz_cons hK.2.2.2.1 gz_good) rfl rfl rfl (hC.2.2.2.2.2.2.1 _ hK.1) (hC.2.2.2.2.2.1 _ hK.2.2.1) hK.2.2.2.2 (gz_rf hdd hn), hC.2.2.2.2.2.1 _ hK.2.1, trivial⟩ ⟨gz_fbl, gz_pre (av := [v1, v2, v3, v4, v5, v6]) hC hP⟩ rfl rfl hL.1 rfl (lv_room hrm) hd ⟨Nat.le_refl 0, Nat.le_refl 0⟩) hS (fun v M1 H1 locs1 hp hP1 hS1 => by cases v <;> exact kk _ M1 hp H1 locs1 ls hP1 hS1 hL)
theorem gz_iret {post : Option Value → gz_M → Prop} {v : Int32} (hC : gz_X p s m args meth c own cc (some .int) nL D ad cy lay) (hd : decode cc pc = .ok (.ireturn, 1)) (hq : post (some (.int v)) (I, G)) : gz_W p l e R s m args below meth c D ad cy lay nL (MQ below (gz_Q D ad cy lay post) args s 0 0 (gz_A ad lay)) (I, G) pc lv [.int v] := fun H locs ls hP hS hL => W.iret hC.1 hC.2.1 hC.2.2.1 (fun t ht hW => ⟨⟨_, (I, G), rfl, hq, by rw [ht]; exact hP⟩, hS.F ht⟩) hS.2.2 hd hC.2.2.2.2.2.2.2.2.1
theorem gz_zret {post : Option Value → gz_M → Prop} {v : Int32} (hb : narrow .boolean (.int v) = .int v) (hC : gz_X p s m args meth c own cc (some .boolean) nL D ad cy lay) (hd : decode cc pc = .ok (.ireturn, 1)) (hq : post (some (.int v)) (I, G)) : gz_W p l e R s m args below meth c D ad cy lay nL (MQ below (gz_Q D ad cy lay post) args s 0 0 (gz_A ad lay)) (I, G) pc lv [.int v] := fun H locs ls hP hS hL => W.zret hC.1 hC.2.1 hC.2.2.1 hb (fun t ht hW => ⟨⟨_, (I, G), rfl, hq, by rw [ht]; exact hP⟩, hS.F ht⟩) hS.2.2 hd hC.2.2.2.2.2.2.2.2.1
theorem gz_lret {post : Option Value → gz_M → Prop} {v : Int64} (hC : gz_X p s m args meth c own cc (some .long) nL D ad cy lay) (hd : decode cc pc = .ok (.lreturn, 1)) (hq : post (some (.long v)) (I, G)) : gz_W p l e R s m args below meth c D ad cy lay nL (MQ below (gz_Q D ad cy lay post) args s 0 0 (gz_A ad lay)) (I, G) pc lv [.long v] := fun H locs ls hP hS hL => W.lret hC.1 hC.2.1 hC.2.2.1 (fun t ht hW => ⟨⟨_, (I, G), rfl, hq, by rw [ht]; exact hP⟩, hS.F ht⟩) hS.2.2 hd hC.2.2.2.2.2.2.2.2.1
theorem gz_dret {post : Option Value → gz_M → Prop} {v : UInt64} (hC : gz_X p s m args meth c own cc (some .double) nL D ad cy lay) (hd : decode cc pc = .ok (.dreturn, 1)) (hq : post (some (.double v)) (I, G)) : gz_W p l e R s m args below meth c D ad cy lay nL (MQ below (gz_Q D ad cy lay post) args s 0 0 (gz_A ad lay)) (I, G) pc lv [.double v] := fun H locs ls hP hS hL => W.dret hC.1 hC.2.1 hC.2.2.1 (fun t ht hW => ⟨⟨_, (I, G), rfl, hq, by rw [ht]; exact hP⟩, hS.F ht⟩) hS.2.2 hd hC.2.2.2.2.2.2.2.2.1
theorem gz_vret {post : Option Value → gz_M → Prop} (hC : gz_X p s m args meth c own cc (none) nL D ad cy lay) (hd : decode cc pc = .ok (.return_, 1)) (hq : post (none) (I, G)) : gz_W p l e R s m args below meth c D ad cy lay nL (MQ below (gz_Q D ad cy lay post) args s 0 0 (gz_A ad lay)) (I, G) pc lv [] := fun H locs ls hP hS hL => W.vret hC.1 hC.2.1 hC.2.2.1 (fun t ht hW => ⟨⟨_, (I, G), rfl, hq, by rw [ht]; exact hP⟩, hS.F ht⟩) hS.2.2 hd hC.2.2.2.2.2.2.2.2.1
theorem gz_aret {post : Option Value → gz_M → Prop} {nm : String} {a : Nat} (hC : gz_X p s m args meth c own cc (some (.object nm)) nL D ad cy lay) (hd : decode cc pc = .ok (.areturn, 1)) (hq : post (some (.ref a)) (I, G)) : gz_W p l e R s m args below meth c D ad cy lay nL (MQ below (gz_Q D ad cy lay post) args s 0 0 (gz_A ad lay)) (I, G) pc lv [.ref a] := fun H locs ls hP hS hL => W.aret hC.1 hC.2.1 hC.2.2.1 (Or.inl ⟨_, rfl⟩) (Or.inr ⟨_, rfl⟩) (fun t ht hW => ⟨⟨_, (I, G), rfl, hq, by rw [ht]; exact hP⟩, hS.F ht⟩) hS.2.2 hd hC.2.2.2.2.2.2.2.2.1
end GZ
def gz_b (b : Bool) : Int32 := cond b 1 0
theorem gz_b0 {b : Bool} (h : gz_b b = 0) : b = false := by cases b with
  | false => rfl
  | true => exact absurd h (by decide)
theorem gz_b1 {b : Bool} (h : ¬ gz_b b = 0) : b = true := by cases b with
  | true => rfl
  | false => exact absurd rfl h
theorem gz_bn (b : Bool) : narrow .boolean (.int (gz_b b)) = .int (gz_b b) := by cases b <;> rfl
theorem gz_bf (b : Bool) : fits .boolean (.int (gz_b b)) = true := by cases b <;> rfl
theorem gz_v {x y : Int32} (h : x = y) : some (Value.int x) = some (Value.int y) := by rw [h]
end
section
/-! what a program decides: kinds, links, calls, constants; the two layouts -/
theorem cf_X0 : gz_CF 0 RX0 TX0 6 tyX0 := ⟨rfl, by
  intro w hw
  obtain ⟨k, hk, rfl⟩ := List.mem_map.mp hw
  have hk2 := List.mem_range.mp hk
  match k, hk2 with
  | 0, _ => exact gz_mS 189 (by decide +kernel) rfl
  | 1, _ => exact gz_mS 191 (by decide +kernel) rfl
  | 2, _ => exact gz_mS 193 (by decide +kernel) rfl
  | 3, _ => exact gz_mS 195 (by decide +kernel) rfl
  | 4, _ => exact gz_mS 197 (by decide +kernel) rfl
  | 5, _ => exact gz_mS 199 (by decide +kernel) rfl
  | k + 6, h => exact absurd h (by omega), tyX0_ok, nmX0⟩
theorem cf_X1 : gz_CF 1 RX1 TX1 6 tyX1 := ⟨rfl, by
  intro w hw
  obtain ⟨k, hk, rfl⟩ := List.mem_map.mp hw
  have hk2 := List.mem_range.mp hk
  match k, hk2 with
  | 0, _ => exact gz_mS 94 (by decide +kernel) rfl
  | 1, _ => exact gz_mS 96 (by decide +kernel) rfl
  | 2, _ => exact gz_mS 98 (by decide +kernel) rfl
  | 3, _ => exact gz_mS 100 (by decide +kernel) rfl
  | 4, _ => exact gz_mS 102 (by decide +kernel) rfl
  | 5, _ => exact gz_mS 104 (by decide +kernel) rfl
  | k + 6, h => exact absurd h (by omega), tyX1_ok, nmX1⟩
theorem cf_X2 : gz_CF 2 RX2 TX2 12 tyX2 := ⟨rfl, by
  intro w hw
  obtain ⟨k, hk, rfl⟩ := List.mem_map.mp hw
  have hk2 := List.mem_range.mp hk
  match k, hk2 with
  | 0, _ => exact gz_mS 225 (by decide +kernel) rfl
  | 1, _ => exact gz_mS 227 (by decide +kernel) rfl
  | 2, _ => exact gz_mS 229 (by decide +kernel) rfl
  | 3, _ => exact gz_mS 231 (by decide +kernel) rfl
  | 4, _ => exact gz_mS 233 (by decide +kernel) rfl
  | 5, _ => exact gz_mS 235 (by decide +kernel) rfl
  | 6, _ => exact gz_mS 237 (by decide +kernel) rfl
  | 7, _ => exact gz_mS 239 (by decide +kernel) rfl
  | 8, _ => exact gz_mS 241 (by decide +kernel) rfl
  | 9, _ => exact gz_mS 243 (by decide +kernel) rfl
  | 10, _ => exact gz_mS 245 (by decide +kernel) rfl
  | 11, _ => exact gz_mS 247 (by decide +kernel) rfl
  | k + 12, h => exact absurd h (by omega), tyX2_ok, nmX2⟩
theorem cf_X3 : gz_CF 3 RX3 TX3 4 tyX3 := ⟨rfl, by
  intro w hw
  obtain ⟨k, hk, rfl⟩ := List.mem_map.mp hw
  have hk2 := List.mem_range.mp hk
  match k, hk2 with
  | 0, _ => exact gz_mS 166 (by decide +kernel) rfl
  | 1, _ => exact gz_mS 168 (by decide +kernel) rfl
  | 2, _ => exact gz_mS 170 (by decide +kernel) rfl
  | 3, _ => exact gz_mS 172 (by decide +kernel) rfl
  | k + 4, h => exact absurd h (by omega), tyX3_ok, nmX3⟩
theorem cf_X4 : gz_CF 4 RX4 TX4 1 tyX4 := ⟨rfl, by
  intro w hw
  obtain ⟨k, hk, rfl⟩ := List.mem_map.mp hw
  have hk2 := List.mem_range.mp hk
  match k, hk2 with
  | 0, _ => exact gz_mS 142 (by decide +kernel) rfl
  | k + 1, h => exact absurd h (by omega), tyX4_ok, nmX4⟩
theorem cf_X5 : gz_CF 5 RX5 TX5 1 tyX5 := ⟨rfl, by
  intro w hw
  obtain ⟨k, hk, rfl⟩ := List.mem_map.mp hw
  have hk2 := List.mem_range.mp hk
  match k, hk2 with
  | 0, _ => exact gz_mS 158 (by decide +kernel) rfl
  | k + 1, h => exact absurd h (by omega), tyX5_ok, nmX5⟩
theorem cf_X6 : gz_CF 6 RX6 TX6 6 tyX6 := ⟨rfl, by
  intro w hw
  obtain ⟨k, hk, rfl⟩ := List.mem_map.mp hw
  have hk2 := List.mem_range.mp hk
  match k, hk2 with
  | 0, _ => exact gz_mS 119 (by decide +kernel) rfl
  | 1, _ => exact gz_mS 121 (by decide +kernel) rfl
  | 2, _ => exact gz_mS 123 (by decide +kernel) rfl
  | 3, _ => exact gz_mS 125 (by decide +kernel) rfl
  | 4, _ => exact gz_mS 127 (by decide +kernel) rfl
  | 5, _ => exact gz_mS 129 (by decide +kernel) rfl
  | k + 6, h => exact absurd h (by omega), tyX6_ok, nmX6⟩
theorem cf_X7 : gz_CF 7 RX7 TX7 5 tyX7 := ⟨rfl, by
  intro w hw
  obtain ⟨k, hk, rfl⟩ := List.mem_map.mp hw
  have hk2 := List.mem_range.mp hk
  match k, hk2 with
  | 0, _ => exact gz_mS 312 (by decide +kernel) rfl
  | 1, _ => exact gz_mS 314 (by decide +kernel) rfl
  | 2, _ => exact gz_mS 316 (by decide +kernel) rfl
  | 3, _ => exact gz_mS 318 (by decide +kernel) rfl
  | 4, _ => exact gz_mS 320 (by decide +kernel) rfl
  | k + 5, h => exact absurd h (by omega), tyX7_ok, nmX7⟩
theorem cf_X8 : gz_CF 8 RX8 TX8 26 tyX8 := ⟨rfl, by
  intro w hw
  obtain ⟨k, hk, rfl⟩ := List.mem_map.mp hw
  have hk2 := List.mem_range.mp hk
  match k, hk2 with
  | 0, _ => exact gz_mS 686 (by decide +kernel) rfl
  | 1, _ => exact gz_mS 688 (by decide +kernel) rfl
  | 2, _ => exact gz_mS 690 (by decide +kernel) rfl
  | 3, _ => exact gz_mS 692 (by decide +kernel) rfl
  | 4, _ => exact gz_mS 694 (by decide +kernel) rfl
  | 5, _ => exact gz_mS 696 (by decide +kernel) rfl
  | 6, _ => exact gz_mS 698 (by decide +kernel) rfl
  | 7, _ => exact gz_mS 700 (by decide +kernel) rfl
  | 8, _ => exact gz_mS 702 (by decide +kernel) rfl
  | 9, _ => exact gz_mS 704 (by decide +kernel) rfl
  | 10, _ => exact gz_mS 706 (by decide +kernel) rfl
  | 11, _ => exact gz_mS 708 (by decide +kernel) rfl
  | 12, _ => exact gz_mS 710 (by decide +kernel) rfl
  | 13, _ => exact gz_mS 712 (by decide +kernel) rfl
  | 14, _ => exact gz_mS 714 (by decide +kernel) rfl
  | 15, _ => exact gz_mS 716 (by decide +kernel) rfl
  | 16, _ => exact gz_mS 718 (by decide +kernel) rfl
  | 17, _ => exact gz_mS 720 (by decide +kernel) rfl
  | 18, _ => exact gz_mS 722 (by decide +kernel) rfl
  | 19, _ => exact gz_mS 724 (by decide +kernel) rfl
  | 20, _ => exact gz_mS 726 (by decide +kernel) rfl
  | 21, _ => exact gz_mS 728 (by decide +kernel) rfl
  | 22, _ => exact gz_mS 730 (by decide +kernel) rfl
  | 23, _ => exact gz_mS 732 (by decide +kernel) rfl
  | 24, _ => exact gz_mS 734 (by decide +kernel) rfl
  | 25, _ => exact gz_mS 736 (by decide +kernel) rfl
  | k + 26, h => exact absurd h (by omega), tyX8_ok, nmX8⟩
theorem wc_X0_init : Cond.code yX0_init cX0_init 2 none ∈ gz_XS := gz_mS 179 (by decide +kernel) rfl
theorem wp_X0_init : gz_pl yX0_init 1 := by unfold gz_pl; decide +kernel
theorem wi_X0_init : Cond.instanceMethod yX0_init ∈ gz_XS := gz_mS 178 (by decide +kernel) rfl
theorem wc_X0_study : Cond.code yX0_study cX0_study 4 none ∈ gz_XS := gz_mS 502 (by decide +kernel) rfl
theorem wp_X0_study : gz_pl yX0_study 3 := by unfold gz_pl; decide +kernel
theorem wi_X0_study : Cond.instanceMethod yX0_study ∈ gz_XS := gz_mS 500 (by decide +kernel) rfl
theorem we_X0_study : Cond.selects yX0_study.cls yX0_study yX0_study ∈ gz_XS := gz_mS 501 (by decide +kernel) rfl
theorem wc_X0_winnings : Cond.code yX0_winnings cX0_winnings 5 (some .double) ∈ gz_XS := gz_mS 512 (by decide +kernel) rfl
theorem wp_X0_winnings : gz_pl yX0_winnings 0 := by unfold gz_pl; decide +kernel
theorem wi_X0_winnings : Cond.instanceMethod yX0_winnings ∈ gz_XS := gz_mS 510 (by decide +kernel) rfl
theorem we_X0_winnings : Cond.selects yX0_winnings.cls yX0_winnings yX0_winnings ∈ gz_XS := gz_mS 511 (by decide +kernel) rfl
theorem wc_X0_firstMove : Cond.code yX0_firstMove cX0_firstMove 2 (some .int) ∈ gz_XS := gz_mS 550 (by decide +kernel) rfl
theorem wp_X0_firstMove : gz_pl yX0_firstMove 1 := by unfold gz_pl; decide +kernel
theorem wi_X0_firstMove : Cond.instanceMethod yX0_firstMove ∈ gz_XS := gz_mS 548 (by decide +kernel) rfl
theorem we_X0_firstMove : Cond.selects yX0_firstMove.cls yX0_firstMove yX0_firstMove ∈ gz_XS := gz_mS 549 (by decide +kernel) rfl
theorem wc_X0_moveBehind : Cond.code yX0_moveBehind cX0_moveBehind 3 (some .int) ∈ gz_XS := gz_mS 558 (by decide +kernel) rfl
theorem wp_X0_moveBehind : gz_pl yX0_moveBehind 2 := by unfold gz_pl; decide +kernel
theorem wi_X0_moveBehind : Cond.instanceMethod yX0_moveBehind ∈ gz_XS := gz_mS 556 (by decide +kernel) rfl
theorem we_X0_moveBehind : Cond.selects yX0_moveBehind.cls yX0_moveBehind yX0_moveBehind ∈ gz_XS := gz_mS 557 (by decide +kernel) rfl
theorem wc_X0_other : Cond.code yX0_other cX0_other 1 (some (.object "DiceCups$Cup")) ∈ gz_XS := gz_mS 506 (by decide +kernel) rfl
theorem wp_X0_other : gz_pl yX0_other 0 := by unfold gz_pl; decide +kernel
theorem wi_X0_other : Cond.instanceMethod yX0_other ∈ gz_XS := gz_mS 505 (by decide +kernel) rfl
theorem we_X0_other : Cond.selects yX0_other.cls yX0_other yX0_other ∈ gz_XS := gz_mS 11 (by decide +kernel) rfl
theorem wc_X0_hold : Cond.code yX0_hold cX0_hold 4 none ∈ gz_XS := gz_mS 516 (by decide +kernel) rfl
theorem wp_X0_hold : gz_pl yX0_hold 1 := by unfold gz_pl; decide +kernel
theorem wi_X0_hold : Cond.instanceMethod yX0_hold ∈ gz_XS := gz_mS 515 (by decide +kernel) rfl
theorem we_X0_hold : Cond.selects yX0_hold.cls yX0_hold yX0_hold ∈ gz_XS := gz_mS 12 (by decide +kernel) rfl
theorem wc_X0_value : Cond.code yX0_value cX0_value 5 (some .double) ∈ gz_XS := gz_mS 522 (by decide +kernel) rfl
theorem wp_X0_value : gz_pl yX0_value 4 := by unfold gz_pl; decide +kernel
theorem wi_X0_value : Cond.instanceMethod yX0_value ∈ gz_XS := gz_mS 521 (by decide +kernel) rfl
theorem we_X0_value : Cond.selects yX0_value.cls yX0_value yX0_value ∈ gz_XS := gz_mS 13 (by decide +kernel) rfl
theorem wc_X0_ownValue : Cond.code yX0_ownValue cX0_ownValue 10 (some .double) ∈ gz_XS := gz_mS 526 (by decide +kernel) rfl
theorem wp_X0_ownValue : gz_pl yX0_ownValue 3 := by unfold gz_pl; decide +kernel
theorem wi_X0_ownValue : Cond.instanceMethod yX0_ownValue ∈ gz_XS := gz_mS 525 (by decide +kernel) rfl
theorem we_X0_ownValue : Cond.selects yX0_ownValue.cls yX0_ownValue yX0_ownValue ∈ gz_XS := gz_mS 14 (by decide +kernel) rfl
theorem wc_X0_otherValue : Cond.code yX0_otherValue cX0_otherValue 7 (some .double) ∈ gz_XS := gz_mS 536 (by decide +kernel) rfl
theorem wp_X0_otherValue : gz_pl yX0_otherValue 3 := by unfold gz_pl; decide +kernel
theorem wi_X0_otherValue : Cond.instanceMethod yX0_otherValue ∈ gz_XS := gz_mS 535 (by decide +kernel) rfl
theorem we_X0_otherValue : Cond.selects yX0_otherValue.cls yX0_otherValue yX0_otherValue ∈ gz_XS := gz_mS 16 (by decide +kernel) rfl
theorem wc_X0_follow : Cond.code yX0_follow cX0_follow 9 (some .boolean) ∈ gz_XS := gz_mS 540 (by decide +kernel) rfl
theorem wp_X0_follow : gz_pl yX0_follow 3 := by unfold gz_pl; decide +kernel
theorem wi_X0_follow : Cond.instanceMethod yX0_follow ∈ gz_XS := gz_mS 539 (by decide +kernel) rfl
theorem we_X0_follow : Cond.selects yX0_follow.cls yX0_follow yX0_follow ∈ gz_XS := gz_mS 17 (by decide +kernel) rfl
theorem wc_X0_addCallWins : Cond.code yX0_addCallWins cX0_addCallWins 10 (some .double) ∈ gz_XS := gz_mS 530 (by decide +kernel) rfl
theorem wp_X0_addCallWins : gz_pl yX0_addCallWins 4 := by unfold gz_pl; decide +kernel
theorem wi_X0_addCallWins : Cond.instanceMethod yX0_addCallWins ∈ gz_XS := gz_mS 529 (by decide +kernel) rfl
theorem we_X0_addCallWins : Cond.selects yX0_addCallWins.cls yX0_addCallWins yX0_addCallWins ∈ gz_XS := gz_mS 15 (by decide +kernel) rfl
theorem wc_X1_init : Cond.code yX1_init cX1_init 1 none ∈ gz_XS := gz_mS 75 (by decide +kernel) rfl
theorem wp_X1_init : gz_pl yX1_init 0 := by unfold gz_pl; decide +kernel
theorem wi_X1_init : Cond.instanceMethod yX1_init ∈ gz_XS := gz_mS 74 (by decide +kernel) rfl
theorem wc_X1_fill : Cond.code yX1_fill cX1_fill 4 none ∈ gz_XS := gz_mS 257 (by decide +kernel) rfl
theorem wp_X1_fill : gz_pl yX1_fill 2 := by unfold gz_pl; decide +kernel
theorem wi_X1_fill : Cond.instanceMethod yX1_fill ∈ gz_XS := gz_mS 255 (by decide +kernel) rfl
theorem we_X1_fill : Cond.selects yX1_fill.cls yX1_fill yX1_fill ∈ gz_XS := gz_mS 256 (by decide +kernel) rfl
theorem wc_X1_writeHand : Cond.code yX1_writeHand cX1_writeHand 4 none ∈ gz_XS := gz_mS 262 (by decide +kernel) rfl
theorem wp_X1_writeHand : gz_pl yX1_writeHand 1 := by unfold gz_pl; decide +kernel
theorem wi_X1_writeHand : Cond.instanceMethod yX1_writeHand ∈ gz_XS := gz_mS 261 (by decide +kernel) rfl
theorem we_X1_writeHand : Cond.selects yX1_writeHand.cls yX1_writeHand yX1_writeHand ∈ gz_XS := gz_mS 0 (by decide +kernel) rfl
theorem wc_X1_stepRow : Cond.code yX1_stepRow cX1_stepRow 4 (some .boolean) ∈ gz_XS := gz_mS 285 (by decide +kernel) rfl
theorem wp_X1_stepRow : gz_pl yX1_stepRow 0 := by unfold gz_pl; decide +kernel
theorem wi_X1_stepRow : Cond.instanceMethod yX1_stepRow ∈ gz_XS := gz_mS 284 (by decide +kernel) rfl
theorem we_X1_stepRow : Cond.selects yX1_stepRow.cls yX1_stepRow yX1_stepRow ∈ gz_XS := gz_mS 1 (by decide +kernel) rfl
theorem wc_X1_factorial : Cond.code yX1_factorial cX1_factorial 3 (some .int) ∈ gz_XS := gz_mS 274 (by decide +kernel) rfl
theorem wp_X1_factorial : gz_pl yX1_factorial 1 := by unfold gz_pl; decide +kernel
theorem wt_X1_factorial : Cond.static yX1_factorial ∈ gz_XS := gz_mS 273 (by decide +kernel) rfl
theorem wc_X1_spotOf : Cond.code yX1_spotOf cX1_spotOf 2 (some .int) ∈ gz_XS := gz_mS 268 (by decide +kernel) rfl
theorem wp_X1_spotOf : gz_pl yX1_spotOf 2 := by unfold gz_pl; decide +kernel
theorem wt_X1_spotOf : Cond.static yX1_spotOf ∈ gz_XS := gz_mS 267 (by decide +kernel) rfl
theorem wc_X1_pipsOf : Cond.code yX1_pipsOf cX1_pipsOf 3 (some .int) ∈ gz_XS := gz_mS 278 (by decide +kernel) rfl
theorem wp_X1_pipsOf : gz_pl yX1_pipsOf 2 := by unfold gz_pl; decide +kernel
theorem wi_X1_pipsOf : Cond.instanceMethod yX1_pipsOf ∈ gz_XS := gz_mS 276 (by decide +kernel) rfl
theorem we_X1_pipsOf : Cond.selects yX1_pipsOf.cls yX1_pipsOf yX1_pipsOf ∈ gz_XS := gz_mS 277 (by decide +kernel) rfl
theorem wc_X1_waysOf : Cond.code yX1_waysOf cX1_waysOf 2 (some .int) ∈ gz_XS := gz_mS 365 (by decide +kernel) rfl
theorem wp_X1_waysOf : gz_pl yX1_waysOf 1 := by unfold gz_pl; decide +kernel
theorem wi_X1_waysOf : Cond.instanceMethod yX1_waysOf ∈ gz_XS := gz_mS 363 (by decide +kernel) rfl
theorem we_X1_waysOf : Cond.selects yX1_waysOf.cls yX1_waysOf yX1_waysOf ∈ gz_XS := gz_mS 364 (by decide +kernel) rfl
theorem wc_X1_allWays : Cond.code yX1_allWays cX1_allWays 3 (some .int) ∈ gz_XS := gz_mS 397 (by decide +kernel) rfl
theorem wp_X1_allWays : gz_pl yX1_allWays 0 := by unfold gz_pl; decide +kernel
theorem wi_X1_allWays : Cond.instanceMethod yX1_allWays ∈ gz_XS := gz_mS 395 (by decide +kernel) rfl
theorem we_X1_allWays : Cond.selects yX1_allWays.cls yX1_allWays yX1_allWays ∈ gz_XS := gz_mS 396 (by decide +kernel) rfl
theorem wc_X1_find : Cond.code yX1_find cX1_find 3 (some .int) ∈ gz_XS := gz_mS 582 (by decide +kernel) rfl
theorem wp_X1_find : gz_pl yX1_find 1 := by unfold gz_pl; decide +kernel
theorem wi_X1_find : Cond.instanceMethod yX1_find ∈ gz_XS := gz_mS 580 (by decide +kernel) rfl
theorem we_X1_find : Cond.selects yX1_find.cls yX1_find yX1_find ∈ gz_XS := gz_mS 581 (by decide +kernel) rfl
theorem wc_X1_isLike : Cond.code yX1_isLike cX1_isLike 4 (some .boolean) ∈ gz_XS := gz_mS 586 (by decide +kernel) rfl
theorem wp_X1_isLike : gz_pl yX1_isLike 2 := by unfold gz_pl; decide +kernel
theorem wi_X1_isLike : Cond.instanceMethod yX1_isLike ∈ gz_XS := gz_mS 585 (by decide +kernel) rfl
theorem we_X1_isLike : Cond.selects yX1_isLike.cls yX1_isLike yX1_isLike ∈ gz_XS := gz_mS 19 (by decide +kernel) rfl
theorem wc_X2_init : Cond.code yX2_init cX2_init 2 none ∈ gz_XS := gz_mS 206 (by decide +kernel) rfl
theorem wp_X2_init : gz_pl yX2_init 1 := by unfold gz_pl; decide +kernel
theorem wi_X2_init : Cond.instanceMethod yX2_init ∈ gz_XS := gz_mS 205 (by decide +kernel) rfl
theorem wc_X2_forget : Cond.code yX2_forget cX2_forget 1 none ∈ gz_XS := gz_mS 337 (by decide +kernel) rfl
theorem wp_X2_forget : gz_pl yX2_forget 0 := by unfold gz_pl; decide +kernel
theorem wi_X2_forget : Cond.instanceMethod yX2_forget ∈ gz_XS := gz_mS 335 (by decide +kernel) rfl
theorem we_X2_forget : Cond.selects yX2_forget.cls yX2_forget yX2_forget ∈ gz_XS := gz_mS 336 (by decide +kernel) rfl
theorem wc_X2_begin : Cond.code yX2_begin cX2_begin 2 none ∈ gz_XS := gz_mS 566 (by decide +kernel) rfl
theorem wp_X2_begin : gz_pl yX2_begin 1 := by unfold gz_pl; decide +kernel
theorem wi_X2_begin : Cond.instanceMethod yX2_begin ∈ gz_XS := gz_mS 564 (by decide +kernel) rfl
theorem we_X2_begin : Cond.selects yX2_begin.cls yX2_begin yX2_begin ∈ gz_XS := gz_mS 565 (by decide +kernel) rfl
theorem wc_X2_draw : Cond.code yX2_draw cX2_draw 4 (some .int) ∈ gz_XS := gz_mS 571 (by decide +kernel) rfl
theorem wp_X2_draw : gz_pl yX2_draw 1 := by unfold gz_pl; decide +kernel
theorem wi_X2_draw : Cond.instanceMethod yX2_draw ∈ gz_XS := gz_mS 570 (by decide +kernel) rfl
theorem we_X2_draw : Cond.selects yX2_draw.cls yX2_draw yX2_draw ∈ gz_XS := gz_mS 18 (by decide +kernel) rfl
theorem wc_X2_handOf : Cond.code yX2_handOf cX2_handOf 2 (some .int) ∈ gz_XS := gz_mS 590 (by decide +kernel) rfl
theorem wp_X2_handOf : gz_pl yX2_handOf 1 := by unfold gz_pl; decide +kernel
theorem wi_X2_handOf : Cond.instanceMethod yX2_handOf ∈ gz_XS := gz_mS 588 (by decide +kernel) rfl
theorem we_X2_handOf : Cond.selects yX2_handOf.cls yX2_handOf yX2_handOf ∈ gz_XS := gz_mS 589 (by decide +kernel) rfl
theorem wc_X2_goesOn : Cond.code yX2_goesOn cX2_goesOn 1 (some .boolean) ∈ gz_XS := gz_mS 602 (by decide +kernel) rfl
theorem wp_X2_goesOn : gz_pl yX2_goesOn 0 := by unfold gz_pl; decide +kernel
theorem wi_X2_goesOn : Cond.instanceMethod yX2_goesOn ∈ gz_XS := gz_mS 600 (by decide +kernel) rfl
theorem we_X2_goesOn : Cond.selects yX2_goesOn.cls yX2_goesOn yX2_goesOn ∈ gz_XS := gz_mS 601 (by decide +kernel) rfl
theorem wc_X2_bid : Cond.code yX2_bid cX2_bid 2 none ∈ gz_XS := gz_mS 611 (by decide +kernel) rfl
theorem wp_X2_bid : gz_pl yX2_bid 1 := by unfold gz_pl; decide +kernel
theorem wi_X2_bid : Cond.instanceMethod yX2_bid ∈ gz_XS := gz_mS 609 (by decide +kernel) rfl
theorem we_X2_bid : Cond.selects yX2_bid.cls yX2_bid yX2_bid ∈ gz_XS := gz_mS 610 (by decide +kernel) rfl
theorem wc_X2_end : Cond.code yX2_end cX2_end 1 none ∈ gz_XS := gz_mS 606 (by decide +kernel) rfl
theorem wp_X2_end : gz_pl yX2_end 0 := by unfold gz_pl; decide +kernel
theorem wi_X2_end : Cond.instanceMethod yX2_end ∈ gz_XS := gz_mS 604 (by decide +kernel) rfl
theorem we_X2_end : Cond.selects yX2_end.cls yX2_end yX2_end ∈ gz_XS := gz_mS 605 (by decide +kernel) rfl
theorem wc_X2_fact : Cond.code yX2_fact cX2_fact 2 (some .int) ∈ gz_XS := gz_mS 619 (by decide +kernel) rfl
theorem wp_X2_fact : gz_pl yX2_fact 1 := by unfold gz_pl; decide +kernel
theorem wi_X2_fact : Cond.instanceMethod yX2_fact ∈ gz_XS := gz_mS 617 (by decide +kernel) rfl
theorem we_X2_fact : Cond.selects yX2_fact.cls yX2_fact yX2_fact ∈ gz_XS := gz_mS 618 (by decide +kernel) rfl
theorem wc_X3_init : Cond.code yX3_init cX3_init 2 none ∈ gz_XS := gz_mS 149 (by decide +kernel) rfl
theorem wp_X3_init : gz_pl yX3_init 1 := by unfold gz_pl; decide +kernel
theorem wi_X3_init : Cond.instanceMethod yX3_init ∈ gz_XS := gz_mS 148 (by decide +kernel) rfl
theorem wc_X3_play : Cond.code yX3_play cX3_play 12 (some .double) ∈ gz_XS := gz_mS 439 (by decide +kernel) rfl
theorem wp_X3_play : gz_pl yX3_play 3 := by unfold gz_pl; decide +kernel
theorem wi_X3_play : Cond.instanceMethod yX3_play ∈ gz_XS := gz_mS 437 (by decide +kernel) rfl
theorem we_X3_play : Cond.selects yX3_play.cls yX3_play yX3_play ∈ gz_XS := gz_mS 438 (by decide +kernel) rfl
theorem wc_X3_expected : Cond.code yX3_expected cX3_expected 5 (some .double) ∈ gz_XS := gz_mS 468 (by decide +kernel) rfl
theorem wp_X3_expected : gz_pl yX3_expected 2 := by unfold gz_pl; decide +kernel
theorem wi_X3_expected : Cond.instanceMethod yX3_expected ∈ gz_XS := gz_mS 467 (by decide +kernel) rfl
theorem we_X3_expected : Cond.selects yX3_expected.cls yX3_expected yX3_expected ∈ gz_XS := gz_mS 9 (by decide +kernel) rfl
theorem wc_X3_expectedAt : Cond.code yX3_expectedAt cX3_expectedAt 14 (some .double) ∈ gz_XS := gz_mS 472 (by decide +kernel) rfl
theorem wp_X3_expectedAt : gz_pl yX3_expectedAt 4 := by unfold gz_pl; decide +kernel
theorem wi_X3_expectedAt : Cond.instanceMethod yX3_expectedAt ∈ gz_XS := gz_mS 471 (by decide +kernel) rfl
theorem we_X3_expectedAt : Cond.selects yX3_expectedAt.cls yX3_expectedAt yX3_expectedAt ∈ gz_XS := gz_mS 10 (by decide +kernel) rfl
theorem wc_X4_init : Cond.code yX4_init cX4_init 1 none ∈ gz_XS := gz_mS 136 (by decide +kernel) rfl
theorem wp_X4_init : gz_pl yX4_init 0 := by unfold gz_pl; decide +kernel
theorem wi_X4_init : Cond.instanceMethod yX4_init ∈ gz_XS := gz_mS 135 (by decide +kernel) rfl
theorem wc_X4_reset : Cond.code yX4_reset cX4_reset 1 none ∈ gz_XS := gz_mS 333 (by decide +kernel) rfl
theorem wp_X4_reset : gz_pl yX4_reset 0 := by unfold gz_pl; decide +kernel
theorem wi_X4_reset : Cond.instanceMethod yX4_reset ∈ gz_XS := gz_mS 331 (by decide +kernel) rfl
theorem we_X4_reset : Cond.selects yX4_reset.cls yX4_reset yX4_reset ∈ gz_XS := gz_mS 332 (by decide +kernel) rfl
theorem wc_X4_spot : Cond.code yX4_spot cX4_spot 7 (some .int) ∈ gz_XS := gz_mS 424 (by decide +kernel) rfl
theorem wp_X4_spot : gz_pl yX4_spot 5 := by unfold gz_pl; decide +kernel
theorem wi_X4_spot : Cond.instanceMethod yX4_spot ∈ gz_XS := gz_mS 422 (by decide +kernel) rfl
theorem we_X4_spot : Cond.selects yX4_spot.cls yX4_spot yX4_spot ∈ gz_XS := gz_mS 423 (by decide +kernel) rfl
theorem wc_X4_change : Cond.code yX4_change cX4_change 4 (some .int) ∈ gz_XS := gz_mS 428 (by decide +kernel) rfl
theorem wp_X4_change : gz_pl yX4_change 2 := by unfold gz_pl; decide +kernel
theorem wi_X4_change : Cond.instanceMethod yX4_change ∈ gz_XS := gz_mS 426 (by decide +kernel) rfl
theorem we_X4_change : Cond.selects yX4_change.cls yX4_change yX4_change ∈ gz_XS := gz_mS 427 (by decide +kernel) rfl
theorem wc_X4_weightAt : Cond.code yX4_weightAt cX4_weightAt 2 (some .int) ∈ gz_XS := gz_mS 457 (by decide +kernel) rfl
theorem wp_X4_weightAt : gz_pl yX4_weightAt 1 := by unfold gz_pl; decide +kernel
theorem wi_X4_weightAt : Cond.instanceMethod yX4_weightAt ∈ gz_XS := gz_mS 455 (by decide +kernel) rfl
theorem we_X4_weightAt : Cond.selects yX4_weightAt.cls yX4_weightAt yX4_weightAt ∈ gz_XS := gz_mS 456 (by decide +kernel) rfl
theorem wc_X4_mix : Cond.code yX4_mix cX4_mix 11 (some .long) ∈ gz_XS := gz_mS 634 (by decide +kernel) rfl
theorem wp_X4_mix : gz_pl yX4_mix 4 := by unfold gz_pl; decide +kernel
theorem wi_X4_mix : Cond.instanceMethod yX4_mix ∈ gz_XS := gz_mS 632 (by decide +kernel) rfl
theorem we_X4_mix : Cond.selects yX4_mix.cls yX4_mix yX4_mix ∈ gz_XS := gz_mS 633 (by decide +kernel) rfl
theorem wc_X5_init : Cond.code yX5_init cX5_init 1 none ∈ gz_XS := gz_mS 155 (by decide +kernel) rfl
theorem wp_X5_init : gz_pl yX5_init 0 := by unfold gz_pl; decide +kernel
theorem wi_X5_init : Cond.instanceMethod yX5_init ∈ gz_XS := gz_mS 154 (by decide +kernel) rfl
theorem wc_X5_take : Cond.code yX5_take cX5_take 7 none ∈ gz_XS := gz_mS 444 (by decide +kernel) rfl
theorem wp_X5_take : gz_pl yX5_take 4 := by unfold gz_pl; decide +kernel
theorem wi_X5_take : Cond.instanceMethod yX5_take ∈ gz_XS := gz_mS 442 (by decide +kernel) rfl
theorem we_X5_take : Cond.selects yX5_take.cls yX5_take yX5_take ∈ gz_XS := gz_mS 443 (by decide +kernel) rfl
theorem wc_X5_takeMoves : Cond.code yX5_takeMoves cX5_takeMoves 10 none ∈ gz_XS := gz_mS 452 (by decide +kernel) rfl
theorem wp_X5_takeMoves : gz_pl yX5_takeMoves 5 := by unfold gz_pl; decide +kernel
theorem wi_X5_takeMoves : Cond.instanceMethod yX5_takeMoves ∈ gz_XS := gz_mS 451 (by decide +kernel) rfl
theorem we_X5_takeMoves : Cond.selects yX5_takeMoves.cls yX5_takeMoves yX5_takeMoves ∈ gz_XS := gz_mS 8 (by decide +kernel) rfl
theorem wc_X5_spotOf : Cond.code yX5_spotOf cX5_spotOf 3 (some .int) ∈ gz_XS := gz_mS 460 (by decide +kernel) rfl
theorem wp_X5_spotOf : gz_pl yX5_spotOf 3 := by unfold gz_pl; decide +kernel
theorem wt_X5_spotOf : Cond.static yX5_spotOf ∈ gz_XS := gz_mS 459 (by decide +kernel) rfl
theorem wc_X5_of : Cond.code yX5_of cX5_of 4 (some .double) ∈ gz_XS := gz_mS 476 (by decide +kernel) rfl
theorem wp_X5_of : gz_pl yX5_of 3 := by unfold gz_pl; decide +kernel
theorem wi_X5_of : Cond.instanceMethod yX5_of ∈ gz_XS := gz_mS 474 (by decide +kernel) rfl
theorem we_X5_of : Cond.selects yX5_of.cls yX5_of yX5_of ∈ gz_XS := gz_mS 475 (by decide +kernel) rfl
theorem wc_X6_init : Cond.code yX6_init cX6_init 1 none ∈ gz_XS := gz_mS 69 (by decide +kernel) rfl
theorem wp_X6_init : gz_pl yX6_init 0 := by unfold gz_pl; decide +kernel
theorem wi_X6_init : Cond.instanceMethod yX6_init ∈ gz_XS := gz_mS 68 (by decide +kernel) rfl
theorem wc_X6_lay : Cond.code yX6_lay cX6_lay 5 none ∈ gz_XS := gz_mS 253 (by decide +kernel) rfl
theorem wp_X6_lay : gz_pl yX6_lay 4 := by unfold gz_pl; decide +kernel
theorem wi_X6_lay : Cond.instanceMethod yX6_lay ∈ gz_XS := gz_mS 251 (by decide +kernel) rfl
theorem we_X6_lay : Cond.selects yX6_lay.cls yX6_lay yX6_lay ∈ gz_XS := gz_mS 252 (by decide +kernel) rfl
theorem wc_X6_judgeBids : Cond.code yX6_judgeBids cX6_judgeBids 4 none ∈ gz_XS := gz_mS 289 (by decide +kernel) rfl
theorem wp_X6_judgeBids : gz_pl yX6_judgeBids 0 := by unfold gz_pl; decide +kernel
theorem wi_X6_judgeBids : Cond.instanceMethod yX6_judgeBids ∈ gz_XS := gz_mS 288 (by decide +kernel) rfl
theorem we_X6_judgeBids : Cond.selects yX6_judgeBids.cls yX6_judgeBids yX6_judgeBids ∈ gz_XS := gz_mS 2 (by decide +kernel) rfl
theorem wc_X6_judge : Cond.code yX6_judge cX6_judge 7 none ∈ gz_XS := gz_mS 293 (by decide +kernel) rfl
theorem wp_X6_judge : gz_pl yX6_judge 3 := by unfold gz_pl; decide +kernel
theorem wi_X6_judge : Cond.instanceMethod yX6_judge ∈ gz_XS := gz_mS 292 (by decide +kernel) rfl
theorem we_X6_judge : Cond.selects yX6_judge.cls yX6_judge yX6_judge ∈ gz_XS := gz_mS 3 (by decide +kernel) rfl
theorem wc_X6_countsFor : Cond.code yX6_countsFor cX6_countsFor 5 (some .int) ∈ gz_XS := gz_mS 301 (by decide +kernel) rfl
theorem wp_X6_countsFor : gz_pl yX6_countsFor 3 := by unfold gz_pl; decide +kernel
theorem wi_X6_countsFor : Cond.instanceMethod yX6_countsFor ∈ gz_XS := gz_mS 300 (by decide +kernel) rfl
theorem we_X6_countsFor : Cond.selects yX6_countsFor.cls yX6_countsFor yX6_countsFor ∈ gz_XS := gz_mS 4 (by decide +kernel) rfl
theorem wc_X6_spotOf : Cond.code yX6_spotOf cX6_spotOf 3 (some .int) ∈ gz_XS := gz_mS 305 (by decide +kernel) rfl
theorem wp_X6_spotOf : gz_pl yX6_spotOf 3 := by unfold gz_pl; decide +kernel
theorem wt_X6_spotOf : Cond.static yX6_spotOf ∈ gz_XS := gz_mS 304 (by decide +kernel) rfl
theorem wc_X6_cup : Cond.code yX6_cup cX6_cup 2 (some (.object "DiceCups$Cup")) ∈ gz_XS := gz_mS 348 (by decide +kernel) rfl
theorem wp_X6_cup : gz_pl yX6_cup 1 := by unfold gz_pl; decide +kernel
theorem wi_X6_cup : Cond.instanceMethod yX6_cup ∈ gz_XS := gz_mS 346 (by decide +kernel) rfl
theorem we_X6_cup : Cond.selects yX6_cup.cls yX6_cup yX6_cup ∈ gz_XS := gz_mS 347 (by decide +kernel) rfl
theorem wc_X6_isTrue : Cond.code yX6_isTrue cX6_isTrue 4 (some .boolean) ∈ gz_XS := gz_mS 377 (by decide +kernel) rfl
theorem wp_X6_isTrue : gz_pl yX6_isTrue 3 := by unfold gz_pl; decide +kernel
theorem wi_X6_isTrue : Cond.instanceMethod yX6_isTrue ∈ gz_XS := gz_mS 375 (by decide +kernel) rfl
theorem we_X6_isTrue : Cond.selects yX6_isTrue.cls yX6_isTrue yX6_isTrue ∈ gz_XS := gz_mS 376 (by decide +kernel) rfl
theorem wc_X6_isTrueFor : Cond.code yX6_isTrueFor cX6_isTrueFor 5 (some .boolean) ∈ gz_XS := gz_mS 391 (by decide +kernel) rfl
theorem wp_X6_isTrueFor : gz_pl yX6_isTrueFor 4 := by unfold gz_pl; decide +kernel
theorem wi_X6_isTrueFor : Cond.instanceMethod yX6_isTrueFor ∈ gz_XS := gz_mS 389 (by decide +kernel) rfl
theorem we_X6_isTrueFor : Cond.selects yX6_isTrueFor.cls yX6_isTrueFor yX6_isTrueFor ∈ gz_XS := gz_mS 390 (by decide +kernel) rfl
theorem wc_X6_waysToHold : Cond.code yX6_waysToHold cX6_waysToHold 7 (some .int) ∈ gz_XS := gz_mS 386 (by decide +kernel) rfl
theorem wp_X6_waysToHold : gz_pl yX6_waysToHold 3 := by unfold gz_pl; decide +kernel
theorem wi_X6_waysToHold : Cond.instanceMethod yX6_waysToHold ∈ gz_XS := gz_mS 384 (by decide +kernel) rfl
theorem we_X6_waysToHold : Cond.selects yX6_waysToHold.cls yX6_waysToHold yX6_waysToHold ∈ gz_XS := gz_mS 385 (by decide +kernel) rfl
theorem wc_X6_meanOf : Cond.code yX6_meanOf cX6_meanOf 5 (some .double) ∈ gz_XS := gz_mS 486 (by decide +kernel) rfl
theorem wp_X6_meanOf : gz_pl yX6_meanOf 1 := by unfold gz_pl; decide +kernel
theorem wi_X6_meanOf : Cond.instanceMethod yX6_meanOf ∈ gz_XS := gz_mS 484 (by decide +kernel) rfl
theorem we_X6_meanOf : Cond.selects yX6_meanOf.cls yX6_meanOf yX6_meanOf ∈ gz_XS := gz_mS 485 (by decide +kernel) rfl
theorem wc_X7_init : Cond.code yX7_init cX7_init 1 none ∈ gz_XS := gz_mS 61 (by decide +kernel) rfl
theorem wp_X7_init : gz_pl yX7_init 0 := by unfold gz_pl; decide +kernel
theorem wi_X7_init : Cond.instanceMethod yX7_init ∈ gz_XS := gz_mS 60 (by decide +kernel) rfl
theorem wc_X7_cups : Cond.code yX7_cups cX7_cups 5 (some .int) ∈ gz_XS := gz_mS 326 (by decide +kernel) rfl
theorem wp_X7_cups : gz_pl yX7_cups 4 := by unfold gz_pl; decide +kernel
theorem wi_X7_cups : Cond.instanceMethod yX7_cups ∈ gz_XS := gz_mS 324 (by decide +kernel) rfl
theorem we_X7_cups : Cond.selects yX7_cups.cls yX7_cups yX7_cups ∈ gz_XS := gz_mS 325 (by decide +kernel) rfl
theorem wc_X7_hands : Cond.code yX7_hands cX7_hands 2 (some .int) ∈ gz_XS := gz_mS 341 (by decide +kernel) rfl
theorem wp_X7_hands : gz_pl yX7_hands 1 := by unfold gz_pl; decide +kernel
theorem wi_X7_hands : Cond.instanceMethod yX7_hands ∈ gz_XS := gz_mS 339 (by decide +kernel) rfl
theorem we_X7_hands : Cond.selects yX7_hands.cls yX7_hands yX7_hands ∈ gz_XS := gz_mS 340 (by decide +kernel) rfl
theorem wc_X7_hand : Cond.code yX7_hand cX7_hand 4 (some .int) ∈ gz_XS := gz_mS 352 (by decide +kernel) rfl
theorem wp_X7_hand : gz_pl yX7_hand 3 := by unfold gz_pl; decide +kernel
theorem wi_X7_hand : Cond.instanceMethod yX7_hand ∈ gz_XS := gz_mS 350 (by decide +kernel) rfl
theorem we_X7_hand : Cond.selects yX7_hand.cls yX7_hand yX7_hand ∈ gz_XS := gz_mS 351 (by decide +kernel) rfl
theorem wc_X7_throwsOf : Cond.code yX7_throwsOf cX7_throwsOf 3 (some .int) ∈ gz_XS := gz_mS 361 (by decide +kernel) rfl
theorem wp_X7_throwsOf : gz_pl yX7_throwsOf 2 := by unfold gz_pl; decide +kernel
theorem wi_X7_throwsOf : Cond.instanceMethod yX7_throwsOf ∈ gz_XS := gz_mS 359 (by decide +kernel) rfl
theorem we_X7_throwsOf : Cond.selects yX7_throwsOf.cls yX7_throwsOf yX7_throwsOf ∈ gz_XS := gz_mS 360 (by decide +kernel) rfl
theorem wc_X7_holds : Cond.code yX7_holds cX7_holds 4 (some .int) ∈ gz_XS := gz_mS 369 (by decide +kernel) rfl
theorem wp_X7_holds : gz_pl yX7_holds 3 := by unfold gz_pl; decide +kernel
theorem wi_X7_holds : Cond.instanceMethod yX7_holds ∈ gz_XS := gz_mS 367 (by decide +kernel) rfl
theorem we_X7_holds : Cond.selects yX7_holds.cls yX7_holds yX7_holds ∈ gz_XS := gz_mS 368 (by decide +kernel) rfl
theorem wc_X7_chance : Cond.code yX7_chance cX7_chance 8 (some .int) ∈ gz_XS := gz_mS 382 (by decide +kernel) rfl
theorem wp_X7_chance : gz_pl yX7_chance 4 := by unfold gz_pl; decide +kernel
theorem wi_X7_chance : Cond.instanceMethod yX7_chance ∈ gz_XS := gz_mS 380 (by decide +kernel) rfl
theorem we_X7_chance : Cond.selects yX7_chance.cls yX7_chance yX7_chance ∈ gz_XS := gz_mS 381 (by decide +kernel) rfl
theorem wc_X7_surest : Cond.code yX7_surest cX7_surest 7 (some .int) ∈ gz_XS := gz_mS 406 (by decide +kernel) rfl
theorem wp_X7_surest : gz_pl yX7_surest 4 := by unfold gz_pl; decide +kernel
theorem wi_X7_surest : Cond.instanceMethod yX7_surest ∈ gz_XS := gz_mS 404 (by decide +kernel) rfl
theorem we_X7_surest : Cond.selects yX7_surest.cls yX7_surest yX7_surest ∈ gz_XS := gz_mS 405 (by decide +kernel) rfl
theorem wc_X7_weigh : Cond.code yX7_weigh cX7_weigh 7 (some .int) ∈ gz_XS := gz_mS 410 (by decide +kernel) rfl
theorem wp_X7_weigh : gz_pl yX7_weigh 6 := by unfold gz_pl; decide +kernel
theorem wi_X7_weigh : Cond.instanceMethod yX7_weigh ∈ gz_XS := gz_mS 408 (by decide +kernel) rfl
theorem we_X7_weigh : Cond.selects yX7_weigh.cls yX7_weigh yX7_weigh ∈ gz_XS := gz_mS 409 (by decide +kernel) rfl
theorem wc_X7_worth : Cond.code yX7_worth cX7_worth 3 (some .long) ∈ gz_XS := gz_mS 434 (by decide +kernel) rfl
theorem wp_X7_worth : gz_pl yX7_worth 2 := by unfold gz_pl; decide +kernel
theorem wi_X7_worth : Cond.instanceMethod yX7_worth ∈ gz_XS := gz_mS 432 (by decide +kernel) rfl
theorem we_X7_worth : Cond.selects yX7_worth.cls yX7_worth yX7_worth ∈ gz_XS := gz_mS 433 (by decide +kernel) rfl
theorem wc_X7_answer : Cond.code yX7_answer cX7_answer 3 (some .long) ∈ gz_XS := gz_mS 498 (by decide +kernel) rfl
theorem wp_X7_answer : gz_pl yX7_answer 2 := by unfold gz_pl; decide +kernel
theorem wi_X7_answer : Cond.instanceMethod yX7_answer ∈ gz_XS := gz_mS 496 (by decide +kernel) rfl
theorem we_X7_answer : Cond.selects yX7_answer.cls yX7_answer yX7_answer ∈ gz_XS := gz_mS 497 (by decide +kernel) rfl
theorem wc_X7_opening : Cond.code yX7_opening cX7_opening 3 (some .int) ∈ gz_XS := gz_mS 546 (by decide +kernel) rfl
theorem wp_X7_opening : gz_pl yX7_opening 2 := by unfold gz_pl; decide +kernel
theorem wi_X7_opening : Cond.instanceMethod yX7_opening ∈ gz_XS := gz_mS 544 (by decide +kernel) rfl
theorem we_X7_opening : Cond.selects yX7_opening.cls yX7_opening yX7_opening ∈ gz_XS := gz_mS 545 (by decide +kernel) rfl
theorem wc_X7_reply : Cond.code yX7_reply cX7_reply 4 (some .int) ∈ gz_XS := gz_mS 554 (by decide +kernel) rfl
theorem wp_X7_reply : gz_pl yX7_reply 3 := by unfold gz_pl; decide +kernel
theorem wi_X7_reply : Cond.instanceMethod yX7_reply ∈ gz_XS := gz_mS 552 (by decide +kernel) rfl
theorem we_X7_reply : Cond.selects yX7_reply.cls yX7_reply yX7_reply ∈ gz_XS := gz_mS 553 (by decide +kernel) rfl
theorem wc_X7_round : Cond.code yX7_round cX7_round 2 (some .int) ∈ gz_XS := gz_mS 562 (by decide +kernel) rfl
theorem wp_X7_round : gz_pl yX7_round 1 := by unfold gz_pl; decide +kernel
theorem wi_X7_round : Cond.instanceMethod yX7_round ∈ gz_XS := gz_mS 560 (by decide +kernel) rfl
theorem we_X7_round : Cond.selects yX7_round.cls yX7_round yX7_round ∈ gz_XS := gz_mS 561 (by decide +kernel) rfl
theorem wc_X7_held : Cond.code yX7_held cX7_held 2 (some .int) ∈ gz_XS := gz_mS 594 (by decide +kernel) rfl
theorem wp_X7_held : gz_pl yX7_held 1 := by unfold gz_pl; decide +kernel
theorem wi_X7_held : Cond.instanceMethod yX7_held ∈ gz_XS := gz_mS 592 (by decide +kernel) rfl
theorem we_X7_held : Cond.selects yX7_held.cls yX7_held yX7_held ∈ gz_XS := gz_mS 593 (by decide +kernel) rfl
theorem wc_X7_move : Cond.code yX7_move cX7_move 2 (some .int) ∈ gz_XS := gz_mS 598 (by decide +kernel) rfl
theorem wp_X7_move : gz_pl yX7_move 1 := by unfold gz_pl; decide +kernel
theorem wi_X7_move : Cond.instanceMethod yX7_move ∈ gz_XS := gz_mS 596 (by decide +kernel) rfl
theorem we_X7_move : Cond.selects yX7_move.cls yX7_move yX7_move ∈ gz_XS := gz_mS 597 (by decide +kernel) rfl
theorem wc_X7_about : Cond.code yX7_about cX7_about 2 (some .int) ∈ gz_XS := gz_mS 615 (by decide +kernel) rfl
theorem wp_X7_about : gz_pl yX7_about 1 := by unfold gz_pl; decide +kernel
theorem wi_X7_about : Cond.instanceMethod yX7_about ∈ gz_XS := gz_mS 613 (by decide +kernel) rfl
theorem we_X7_about : Cond.selects yX7_about.cls yX7_about yX7_about ∈ gz_XS := gz_mS 614 (by decide +kernel) rfl
theorem wc_X7_count : Cond.code yX7_count cX7_count 2 (some .int) ∈ gz_XS := gz_mS 623 (by decide +kernel) rfl
theorem wp_X7_count : gz_pl yX7_count 1 := by unfold gz_pl; decide +kernel
theorem wi_X7_count : Cond.instanceMethod yX7_count ∈ gz_XS := gz_mS 621 (by decide +kernel) rfl
theorem we_X7_count : Cond.selects yX7_count.cls yX7_count yX7_count ∈ gz_XS := gz_mS 622 (by decide +kernel) rfl
theorem wc_X7_digest : Cond.code yX7_digest cX7_digest 5 (some .long) ∈ gz_XS := gz_mS 627 (by decide +kernel) rfl
theorem wp_X7_digest : gz_pl yX7_digest 0 := by unfold gz_pl; decide +kernel
theorem wi_X7_digest : Cond.instanceMethod yX7_digest ∈ gz_XS := gz_mS 625 (by decide +kernel) rfl
theorem we_X7_digest : Cond.selects yX7_digest.cls yX7_digest yX7_digest ∈ gz_XS := gz_mS 626 (by decide +kernel) rfl
theorem wc_X7_within : Cond.code yX7_within cX7_within 3 (some .boolean) ∈ gz_XS := gz_mS 329 (by decide +kernel) rfl
theorem wp_X7_within : gz_pl yX7_within 3 := by unfold gz_pl; decide +kernel
theorem wt_X7_within : Cond.static yX7_within ∈ gz_XS := gz_mS 328 (by decide +kernel) rfl
theorem wc_X7_isPlayer : Cond.code yX7_isPlayer cX7_isPlayer 1 (some .boolean) ∈ gz_XS := gz_mS 344 (by decide +kernel) rfl
theorem wp_X7_isPlayer : gz_pl yX7_isPlayer 1 := by unfold gz_pl; decide +kernel
theorem wt_X7_isPlayer : Cond.static yX7_isPlayer ∈ gz_XS := gz_mS 343 (by decide +kernel) rfl
theorem wc_X7_isPlan : Cond.code yX7_isPlan cX7_isPlan 1 (some .boolean) ∈ gz_XS := gz_mS 413 (by decide +kernel) rfl
theorem wp_X7_isPlan : gz_pl yX7_isPlan 1 := by unfold gz_pl; decide +kernel
theorem wt_X7_isPlan : Cond.static yX7_isPlan ∈ gz_XS := gz_mS 412 (by decide +kernel) rfl
theorem wc_X7_isHand : Cond.code yX7_isHand cX7_isHand 3 (some .boolean) ∈ gz_XS := gz_mS 356 (by decide +kernel) rfl
theorem wp_X7_isHand : gz_pl yX7_isHand 2 := by unfold gz_pl; decide +kernel
theorem wi_X7_isHand : Cond.instanceMethod yX7_isHand ∈ gz_XS := gz_mS 355 (by decide +kernel) rfl
theorem we_X7_isHand : Cond.selects yX7_isHand.cls yX7_isHand yX7_isHand ∈ gz_XS := gz_mS 5 (by decide +kernel) rfl
theorem wc_X7_isBid : Cond.code yX7_isBid cX7_isBid 2 (some .boolean) ∈ gz_XS := gz_mS 373 (by decide +kernel) rfl
theorem wp_X7_isBid : gz_pl yX7_isBid 1 := by unfold gz_pl; decide +kernel
theorem wi_X7_isBid : Cond.instanceMethod yX7_isBid ∈ gz_XS := gz_mS 372 (by decide +kernel) rfl
theorem we_X7_isBid : Cond.selects yX7_isBid.cls yX7_isBid yX7_isBid ∈ gz_XS := gz_mS 6 (by decide +kernel) rfl
theorem wc_X7_isBidOrNone : Cond.code yX7_isBidOrNone cX7_isBidOrNone 2 (some .boolean) ∈ gz_XS := gz_mS 417 (by decide +kernel) rfl
theorem wp_X7_isBidOrNone : gz_pl yX7_isBidOrNone 1 := by unfold gz_pl; decide +kernel
theorem wi_X7_isBidOrNone : Cond.instanceMethod yX7_isBidOrNone ∈ gz_XS := gz_mS 416 (by decide +kernel) rfl
theorem we_X7_isBidOrNone : Cond.selects yX7_isBidOrNone.cls yX7_isBidOrNone yX7_isBidOrNone ∈ gz_XS := gz_mS 7 (by decide +kernel) rfl
theorem wc_X7_mayFollow : Cond.code yX7_mayFollow cX7_mayFollow 2 (some .boolean) ∈ gz_XS := gz_mS 420 (by decide +kernel) rfl
theorem wp_X7_mayFollow : gz_pl yX7_mayFollow 2 := by unfold gz_pl; decide +kernel
theorem wt_X7_mayFollow : Cond.static yX7_mayFollow ∈ gz_XS := gz_mS 419 (by decide +kernel) rfl
theorem wc_X7_at : Cond.code yX7_at cX7_at 2 (some .int) ∈ gz_XS := gz_mS 265 (by decide +kernel) rfl
theorem wp_X7_at : gz_pl yX7_at 2 := by unfold gz_pl; decide +kernel
theorem wt_X7_at : Cond.static yX7_at ∈ gz_XS := gz_mS 264 (by decide +kernel) rfl
theorem wc_X7_put : Cond.code yX7_put cX7_put 3 none ∈ gz_XS := gz_mS 271 (by decide +kernel) rfl
theorem wp_X7_put : gz_pl yX7_put 3 := by unfold gz_pl; decide +kernel
theorem wt_X7_put : Cond.static yX7_put ∈ gz_XS := gz_mS 270 (by decide +kernel) rfl
theorem wc_X7_realAt : Cond.code yX7_realAt cX7_realAt 2 (some .double) ∈ gz_XS := gz_mS 479 (by decide +kernel) rfl
theorem wp_X7_realAt : gz_pl yX7_realAt 2 := by unfold gz_pl; decide +kernel
theorem wt_X7_realAt : Cond.static yX7_realAt ∈ gz_XS := gz_mS 478 (by decide +kernel) rfl
theorem wc_X7_putReal : Cond.code yX7_putReal cX7_putReal 4 none ∈ gz_XS := gz_mS 463 (by decide +kernel) rfl
theorem wp_X7_putReal : gz_pl yX7_putReal 3 := by unfold gz_pl; decide +kernel
theorem wt_X7_putReal : Cond.static yX7_putReal ∈ gz_XS := gz_mS 462 (by decide +kernel) rfl
theorem wc_X7_cut : Cond.code yX7_cut cX7_cut 2 (some .int) ∈ gz_XS := gz_mS 281 (by decide +kernel) rfl
theorem wp_X7_cut : gz_pl yX7_cut 2 := by unfold gz_pl; decide +kernel
theorem wt_X7_cut : Cond.static yX7_cut ∈ gz_XS := gz_mS 280 (by decide +kernel) rfl
theorem wc_X7_leftOver : Cond.code yX7_leftOver cX7_leftOver 2 (some .int) ∈ gz_XS := gz_mS 296 (by decide +kernel) rfl
theorem wp_X7_leftOver : gz_pl yX7_leftOver 2 := by unfold gz_pl; decide +kernel
theorem wt_X7_leftOver : Cond.static yX7_leftOver ∈ gz_XS := gz_mS 295 (by decide +kernel) rfl
theorem wc_X7_commonDivisor : Cond.code yX7_commonDivisor cX7_commonDivisor 6 (some .int) ∈ gz_XS := gz_mS 400 (by decide +kernel) rfl
theorem wp_X7_commonDivisor : gz_pl yX7_commonDivisor 2 := by unfold gz_pl; decide +kernel
theorem wt_X7_commonDivisor : Cond.static yX7_commonDivisor ∈ gz_XS := gz_mS 399 (by decide +kernel) rfl
theorem wc_X7_bitsOf : Cond.code yX7_bitsOf cX7_bitsOf 6 (some .long) ∈ gz_XS := gz_mS 490 (by decide +kernel) rfl
theorem wp_X7_bitsOf : gz_pl yX7_bitsOf 1 := by unfold gz_pl; decide +kernel
theorem wt_X7_bitsOf : Cond.static yX7_bitsOf ∈ gz_XS := gz_mS 489 (by decide +kernel) rfl
theorem wc_X8_init : Cond.code yX8_init cX8_init 1 none ∈ gz_XS := gz_mS 643 (by decide +kernel) rfl
theorem wp_X8_init : gz_pl yX8_init 0 := by unfold gz_pl; decide +kernel
theorem wi_X8_init : Cond.instanceMethod yX8_init ∈ gz_XS := gz_mS 642 (by decide +kernel) rfl
theorem wc_X8_in : Cond.code yX8_in cX8_in 3 (some .boolean) ∈ gz_XS := gz_mS 746 (by decide +kernel) rfl
theorem wp_X8_in : gz_pl yX8_in 3 := by unfold gz_pl; decide +kernel
theorem wt_X8_in : Cond.static yX8_in ∈ gz_XS := gz_mS 745 (by decide +kernel) rfl
theorem wc_X8_dice : Cond.code yX8_dice cX8_dice 2 (some .int) ∈ gz_XS := gz_mS 656 (by decide +kernel) rfl
theorem wp_X8_dice : gz_pl yX8_dice 1 := by unfold gz_pl; decide +kernel
theorem wi_X8_dice : Cond.instanceMethod yX8_dice ∈ gz_XS := gz_mS 655 (by decide +kernel) rfl
theorem we_X8_dice : Cond.selects yX8_dice.cls yX8_dice yX8_dice ∈ gz_XS := gz_mS 22 (by decide +kernel) rfl
theorem wc_X8_most : Cond.code yX8_most cX8_most 1 (some .int) ∈ gz_XS := gz_mS 750 (by decide +kernel) rfl
theorem wp_X8_most : gz_pl yX8_most 0 := by unfold gz_pl; decide +kernel
theorem wi_X8_most : Cond.instanceMethod yX8_most ∈ gz_XS := gz_mS 749 (by decide +kernel) rfl
theorem we_X8_most : Cond.selects yX8_most.cls yX8_most yX8_most ∈ gz_XS := gz_mS 23 (by decide +kernel) rfl
theorem wc_X8_product : Cond.code yX8_product cX8_product 1 (some .int) ∈ gz_XS := gz_mS 659 (by decide +kernel) rfl
theorem wp_X8_product : gz_pl yX8_product 1 := by unfold gz_pl; decide +kernel
theorem wt_X8_product : Cond.static yX8_product ∈ gz_XS := gz_mS 658 (by decide +kernel) rfl
theorem wc_X8_layHands : Cond.code yX8_layHands cX8_layHands 12 none ∈ gz_XS := gz_mS 652 (by decide +kernel) rfl
theorem wp_X8_layHands : gz_pl yX8_layHands 1 := by unfold gz_pl; decide +kernel
theorem wi_X8_layHands : Cond.instanceMethod yX8_layHands ∈ gz_XS := gz_mS 651 (by decide +kernel) rfl
theorem we_X8_layHands : Cond.selects yX8_layHands.cls yX8_layHands yX8_layHands ∈ gz_XS := gz_mS 21 (by decide +kernel) rfl
theorem wc_X8_lay : Cond.code yX8_lay cX8_lay 2 none ∈ gz_XS := gz_mS 648 (by decide +kernel) rfl
theorem wp_X8_lay : gz_pl yX8_lay 0 := by unfold gz_pl; decide +kernel
theorem wi_X8_lay : Cond.instanceMethod yX8_lay ∈ gz_XS := gz_mS 647 (by decide +kernel) rfl
theorem we_X8_lay : Cond.selects yX8_lay.cls yX8_lay yX8_lay ∈ gz_XS := gz_mS 20 (by decide +kernel) rfl
theorem wc_X8_cups : Cond.code yX8_cups cX8_cups 5 (some .int) ∈ gz_XS := gz_mS 743 (by decide +kernel) rfl
theorem wp_X8_cups : gz_pl yX8_cups 4 := by unfold gz_pl; decide +kernel
theorem wi_X8_cups : Cond.instanceMethod yX8_cups ∈ gz_XS := gz_mS 741 (by decide +kernel) rfl
theorem we_X8_cups : Cond.selects yX8_cups.cls yX8_cups yX8_cups ∈ gz_XS := gz_mS 742 (by decide +kernel) rfl
theorem wc_X8_isPlayer : Cond.code yX8_isPlayer cX8_isPlayer 1 (some .boolean) ∈ gz_XS := gz_mS 757 (by decide +kernel) rfl
theorem wp_X8_isPlayer : gz_pl yX8_isPlayer 1 := by unfold gz_pl; decide +kernel
theorem wt_X8_isPlayer : Cond.static yX8_isPlayer ∈ gz_XS := gz_mS 756 (by decide +kernel) rfl
theorem wc_X8_isHand : Cond.code yX8_isHand cX8_isHand 3 (some .boolean) ∈ gz_XS := gz_mS 765 (by decide +kernel) rfl
theorem wp_X8_isHand : gz_pl yX8_isHand 2 := by unfold gz_pl; decide +kernel
theorem wi_X8_isHand : Cond.instanceMethod yX8_isHand ∈ gz_XS := gz_mS 764 (by decide +kernel) rfl
theorem we_X8_isHand : Cond.selects yX8_isHand.cls yX8_isHand yX8_isHand ∈ gz_XS := gz_mS 24 (by decide +kernel) rfl
theorem wc_X8_isBid : Cond.code yX8_isBid cX8_isBid 2 (some .boolean) ∈ gz_XS := gz_mS 777 (by decide +kernel) rfl
theorem wp_X8_isBid : gz_pl yX8_isBid 1 := by unfold gz_pl; decide +kernel
theorem wi_X8_isBid : Cond.instanceMethod yX8_isBid ∈ gz_XS := gz_mS 776 (by decide +kernel) rfl
theorem we_X8_isBid : Cond.selects yX8_isBid.cls yX8_isBid yX8_isBid ∈ gz_XS := gz_mS 25 (by decide +kernel) rfl
theorem wc_X8_hands : Cond.code yX8_hands cX8_hands 2 (some .int) ∈ gz_XS := gz_mS 754 (by decide +kernel) rfl
theorem wp_X8_hands : gz_pl yX8_hands 1 := by unfold gz_pl; decide +kernel
theorem wi_X8_hands : Cond.instanceMethod yX8_hands ∈ gz_XS := gz_mS 752 (by decide +kernel) rfl
theorem we_X8_hands : Cond.selects yX8_hands.cls yX8_hands yX8_hands ∈ gz_XS := gz_mS 753 (by decide +kernel) rfl
theorem wc_X8_hand : Cond.code yX8_hand cX8_hand 4 (some .int) ∈ gz_XS := gz_mS 761 (by decide +kernel) rfl
theorem wp_X8_hand : gz_pl yX8_hand 3 := by unfold gz_pl; decide +kernel
theorem wi_X8_hand : Cond.instanceMethod yX8_hand ∈ gz_XS := gz_mS 759 (by decide +kernel) rfl
theorem we_X8_hand : Cond.selects yX8_hand.cls yX8_hand yX8_hand ∈ gz_XS := gz_mS 760 (by decide +kernel) rfl
theorem wc_X8_throwsOf : Cond.code yX8_throwsOf cX8_throwsOf 3 (some .int) ∈ gz_XS := gz_mS 769 (by decide +kernel) rfl
theorem wp_X8_throwsOf : gz_pl yX8_throwsOf 2 := by unfold gz_pl; decide +kernel
theorem wi_X8_throwsOf : Cond.instanceMethod yX8_throwsOf ∈ gz_XS := gz_mS 767 (by decide +kernel) rfl
theorem we_X8_throwsOf : Cond.selects yX8_throwsOf.cls yX8_throwsOf yX8_throwsOf ∈ gz_XS := gz_mS 768 (by decide +kernel) rfl
theorem wc_X8_countsFor : Cond.code yX8_countsFor cX8_countsFor 5 (some .int) ∈ gz_XS := gz_mS 785 (by decide +kernel) rfl
theorem wp_X8_countsFor : gz_pl yX8_countsFor 3 := by unfold gz_pl; decide +kernel
theorem wi_X8_countsFor : Cond.instanceMethod yX8_countsFor ∈ gz_XS := gz_mS 784 (by decide +kernel) rfl
theorem we_X8_countsFor : Cond.selects yX8_countsFor.cls yX8_countsFor yX8_countsFor ∈ gz_XS := gz_mS 27 (by decide +kernel) rfl
theorem wc_X8_doesHold : Cond.code yX8_doesHold cX8_doesHold 5 (some .boolean) ∈ gz_XS := gz_mS 781 (by decide +kernel) rfl
theorem wp_X8_doesHold : gz_pl yX8_doesHold 3 := by unfold gz_pl; decide +kernel
theorem wi_X8_doesHold : Cond.instanceMethod yX8_doesHold ∈ gz_XS := gz_mS 780 (by decide +kernel) rfl
theorem we_X8_doesHold : Cond.selects yX8_doesHold.cls yX8_doesHold yX8_doesHold ∈ gz_XS := gz_mS 26 (by decide +kernel) rfl
theorem wc_X8_holds : Cond.code yX8_holds cX8_holds 4 (some .int) ∈ gz_XS := gz_mS 773 (by decide +kernel) rfl
theorem wp_X8_holds : gz_pl yX8_holds 3 := by unfold gz_pl; decide +kernel
theorem wi_X8_holds : Cond.instanceMethod yX8_holds ∈ gz_XS := gz_mS 771 (by decide +kernel) rfl
theorem we_X8_holds : Cond.selects yX8_holds.cls yX8_holds yX8_holds ∈ gz_XS := gz_mS 772 (by decide +kernel) rfl
theorem wc_X8_throwsFor : Cond.code yX8_throwsFor cX8_throwsFor 7 (some .int) ∈ gz_XS := gz_mS 793 (by decide +kernel) rfl
theorem wp_X8_throwsFor : gz_pl yX8_throwsFor 3 := by unfold gz_pl; decide +kernel
theorem wi_X8_throwsFor : Cond.instanceMethod yX8_throwsFor ∈ gz_XS := gz_mS 792 (by decide +kernel) rfl
theorem we_X8_throwsFor : Cond.selects yX8_throwsFor.cls yX8_throwsFor yX8_throwsFor ∈ gz_XS := gz_mS 28 (by decide +kernel) rfl
theorem wc_X8_power : Cond.code yX8_power cX8_power 4 (some .int) ∈ gz_XS := gz_mS 797 (by decide +kernel) rfl
theorem wp_X8_power : gz_pl yX8_power 1 := by unfold gz_pl; decide +kernel
theorem wi_X8_power : Cond.instanceMethod yX8_power ∈ gz_XS := gz_mS 796 (by decide +kernel) rfl
theorem we_X8_power : Cond.selects yX8_power.cls yX8_power yX8_power ∈ gz_XS := gz_mS 29 (by decide +kernel) rfl
theorem wc_X8_chance : Cond.code yX8_chance cX8_chance 10 (some .int) ∈ gz_XS := gz_mS 789 (by decide +kernel) rfl
theorem wp_X8_chance : gz_pl yX8_chance 4 := by unfold gz_pl; decide +kernel
theorem wi_X8_chance : Cond.instanceMethod yX8_chance ∈ gz_XS := gz_mS 787 (by decide +kernel) rfl
theorem we_X8_chance : Cond.selects yX8_chance.cls yX8_chance yX8_chance ∈ gz_XS := gz_mS 788 (by decide +kernel) rfl
theorem wc_X8_surest : Cond.code yX8_surest cX8_surest 7 (some .int) ∈ gz_XS := gz_mS 801 (by decide +kernel) rfl
theorem wp_X8_surest : gz_pl yX8_surest 4 := by unfold gz_pl; decide +kernel
theorem wi_X8_surest : Cond.instanceMethod yX8_surest ∈ gz_XS := gz_mS 799 (by decide +kernel) rfl
theorem we_X8_surest : Cond.selects yX8_surest.cls yX8_surest yX8_surest ∈ gz_XS := gz_mS 800 (by decide +kernel) rfl
theorem wc_X8_isPlan : Cond.code yX8_isPlan cX8_isPlan 1 (some .boolean) ∈ gz_XS := gz_mS 808 (by decide +kernel) rfl
theorem wp_X8_isPlan : gz_pl yX8_isPlan 1 := by unfold gz_pl; decide +kernel
theorem wt_X8_isPlan : Cond.static yX8_isPlan ∈ gz_XS := gz_mS 807 (by decide +kernel) rfl
theorem wc_X8_mayMove : Cond.code yX8_mayMove cX8_mayMove 3 (some .boolean) ∈ gz_XS := gz_mS 812 (by decide +kernel) rfl
theorem wp_X8_mayMove : gz_pl yX8_mayMove 2 := by unfold gz_pl; decide +kernel
theorem wi_X8_mayMove : Cond.instanceMethod yX8_mayMove ∈ gz_XS := gz_mS 811 (by decide +kernel) rfl
theorem we_X8_mayMove : Cond.selects yX8_mayMove.cls yX8_mayMove yX8_mayMove ∈ gz_XS := gz_mS 30 (by decide +kernel) rfl
theorem wc_X8_at : Cond.code yX8_at cX8_at 6 (some .int) ∈ gz_XS := gz_mS 816 (by decide +kernel) rfl
theorem wp_X8_at : gz_pl yX8_at 5 := by unfold gz_pl; decide +kernel
theorem wi_X8_at : Cond.instanceMethod yX8_at ∈ gz_XS := gz_mS 815 (by decide +kernel) rfl
theorem we_X8_at : Cond.selects yX8_at.cls yX8_at yX8_at ∈ gz_XS := gz_mS 31 (by decide +kernel) rfl
theorem wc_X8_weigh : Cond.code yX8_weigh cX8_weigh 9 (some .int) ∈ gz_XS := gz_mS 805 (by decide +kernel) rfl
theorem wp_X8_weigh : gz_pl yX8_weigh 6 := by unfold gz_pl; decide +kernel
theorem wi_X8_weigh : Cond.instanceMethod yX8_weigh ∈ gz_XS := gz_mS 803 (by decide +kernel) rfl
theorem we_X8_weigh : Cond.selects yX8_weigh.cls yX8_weigh yX8_weigh ∈ gz_XS := gz_mS 804 (by decide +kernel) rfl
theorem wc_X8_total : Cond.code yX8_total cX8_total 7 (some .int) ∈ gz_XS := gz_mS 833 (by decide +kernel) rfl
theorem wp_X8_total : gz_pl yX8_total 4 := by unfold gz_pl; decide +kernel
theorem wi_X8_total : Cond.instanceMethod yX8_total ∈ gz_XS := gz_mS 832 (by decide +kernel) rfl
theorem we_X8_total : Cond.selects yX8_total.cls yX8_total yX8_total ∈ gz_XS := gz_mS 34 (by decide +kernel) rfl
theorem wc_X8_part : Cond.code yX8_part cX8_part 7 (some .double) ∈ gz_XS := gz_mS 829 (by decide +kernel) rfl
theorem wp_X8_part : gz_pl yX8_part 5 := by unfold gz_pl; decide +kernel
theorem wi_X8_part : Cond.instanceMethod yX8_part ∈ gz_XS := gz_mS 828 (by decide +kernel) rfl
theorem we_X8_part : Cond.selects yX8_part.cls yX8_part yX8_part ∈ gz_XS := gz_mS 33 (by decide +kernel) rfl
theorem wc_X8_wins : Cond.code yX8_wins cX8_wins 6 (some .boolean) ∈ gz_XS := gz_mS 837 (by decide +kernel) rfl
theorem wp_X8_wins : gz_pl yX8_wins 5 := by unfold gz_pl; decide +kernel
theorem wi_X8_wins : Cond.instanceMethod yX8_wins ∈ gz_XS := gz_mS 836 (by decide +kernel) rfl
theorem we_X8_wins : Cond.selects yX8_wins.cls yX8_wins yX8_wins ∈ gz_XS := gz_mS 35 (by decide +kernel) rfl
theorem wc_X8_worthOf : Cond.code yX8_worthOf cX8_worthOf 16 (some .double) ∈ gz_XS := gz_mS 825 (by decide +kernel) rfl
theorem wp_X8_worthOf : gz_pl yX8_worthOf 4 := by unfold gz_pl; decide +kernel
theorem wi_X8_worthOf : Cond.instanceMethod yX8_worthOf ∈ gz_XS := gz_mS 824 (by decide +kernel) rfl
theorem we_X8_worthOf : Cond.selects yX8_worthOf.cls yX8_worthOf yX8_worthOf ∈ gz_XS := gz_mS 32 (by decide +kernel) rfl
theorem wc_X8_worth : Cond.code yX8_worth cX8_worth 7 (some .long) ∈ gz_XS := gz_mS 820 (by decide +kernel) rfl
theorem wp_X8_worth : gz_pl yX8_worth 2 := by unfold gz_pl; decide +kernel
theorem wi_X8_worth : Cond.instanceMethod yX8_worth ∈ gz_XS := gz_mS 818 (by decide +kernel) rfl
theorem we_X8_worth : Cond.selects yX8_worth.cls yX8_worth yX8_worth ∈ gz_XS := gz_mS 819 (by decide +kernel) rfl
theorem wc_X8_enter : Cond.code yX8_enter cX8_enter 3 none ∈ gz_XS := gz_mS 859 (by decide +kernel) rfl
theorem wp_X8_enter : gz_pl yX8_enter 2 := by unfold gz_pl; decide +kernel
theorem wi_X8_enter : Cond.instanceMethod yX8_enter ∈ gz_XS := gz_mS 858 (by decide +kernel) rfl
theorem we_X8_enter : Cond.selects yX8_enter.cls yX8_enter yX8_enter ∈ gz_XS := gz_mS 37 (by decide +kernel) rfl
theorem wc_X8_offer : Cond.code yX8_offer cX8_offer 4 none ∈ gz_XS := gz_mS 867 (by decide +kernel) rfl
theorem wp_X8_offer : gz_pl yX8_offer 2 := by unfold gz_pl; decide +kernel
theorem wi_X8_offer : Cond.instanceMethod yX8_offer ∈ gz_XS := gz_mS 866 (by decide +kernel) rfl
theorem we_X8_offer : Cond.selects yX8_offer.cls yX8_offer yX8_offer ∈ gz_XS := gz_mS 39 (by decide +kernel) rfl
theorem wc_X8_leads : Cond.code yX8_leads cX8_leads 10 (some .boolean) ∈ gz_XS := gz_mS 879 (by decide +kernel) rfl
theorem wp_X8_leads : gz_pl yX8_leads 4 := by unfold gz_pl; decide +kernel
theorem wi_X8_leads : Cond.instanceMethod yX8_leads ∈ gz_XS := gz_mS 878 (by decide +kernel) rfl
theorem we_X8_leads : Cond.selects yX8_leads.cls yX8_leads yX8_leads ∈ gz_XS := gz_mS 42 (by decide +kernel) rfl
theorem wc_X8_winsBy : Cond.code yX8_winsBy cX8_winsBy 6 (some .boolean) ∈ gz_XS := gz_mS 875 (by decide +kernel) rfl
theorem wp_X8_winsBy : gz_pl yX8_winsBy 5 := by unfold gz_pl; decide +kernel
theorem wi_X8_winsBy : Cond.instanceMethod yX8_winsBy ∈ gz_XS := gz_mS 874 (by decide +kernel) rfl
theorem we_X8_winsBy : Cond.selects yX8_winsBy.cls yX8_winsBy yX8_winsBy ∈ gz_XS := gz_mS 41 (by decide +kernel) rfl
theorem wc_X8_call : Cond.code yX8_call cX8_call 10 none ∈ gz_XS := gz_mS 871 (by decide +kernel) rfl
theorem wp_X8_call : gz_pl yX8_call 4 := by unfold gz_pl; decide +kernel
theorem wi_X8_call : Cond.instanceMethod yX8_call ∈ gz_XS := gz_mS 870 (by decide +kernel) rfl
theorem we_X8_call : Cond.selects yX8_call.cls yX8_call yX8_call ∈ gz_XS := gz_mS 40 (by decide +kernel) rfl
theorem wc_X8_answerOf : Cond.code yX8_answerOf cX8_answerOf 11 (some .double) ∈ gz_XS := gz_mS 863 (by decide +kernel) rfl
theorem wp_X8_answerOf : gz_pl yX8_answerOf 4 := by unfold gz_pl; decide +kernel
theorem wi_X8_answerOf : Cond.instanceMethod yX8_answerOf ∈ gz_XS := gz_mS 862 (by decide +kernel) rfl
theorem we_X8_answerOf : Cond.selects yX8_answerOf.cls yX8_answerOf yX8_answerOf ∈ gz_XS := gz_mS 38 (by decide +kernel) rfl
theorem wc_X8_begin : Cond.code yX8_begin cX8_begin 3 none ∈ gz_XS := gz_mS 855 (by decide +kernel) rfl
theorem wp_X8_begin : gz_pl yX8_begin 1 := by unfold gz_pl; decide +kernel
theorem wi_X8_begin : Cond.instanceMethod yX8_begin ∈ gz_XS := gz_mS 854 (by decide +kernel) rfl
theorem we_X8_begin : Cond.selects yX8_begin.cls yX8_begin yX8_begin ∈ gz_XS := gz_mS 36 (by decide +kernel) rfl
theorem wc_X8_answer : Cond.code yX8_answer cX8_answer 6 (some .long) ∈ gz_XS := gz_mS 851 (by decide +kernel) rfl
theorem wp_X8_answer : gz_pl yX8_answer 2 := by unfold gz_pl; decide +kernel
theorem wi_X8_answer : Cond.instanceMethod yX8_answer ∈ gz_XS := gz_mS 849 (by decide +kernel) rfl
theorem we_X8_answer : Cond.selects yX8_answer.cls yX8_answer yX8_answer ∈ gz_XS := gz_mS 850 (by decide +kernel) rfl
theorem wc_X8_opening : Cond.code yX8_opening cX8_opening 5 (some .int) ∈ gz_XS := gz_mS 883 (by decide +kernel) rfl
theorem wp_X8_opening : gz_pl yX8_opening 2 := by unfold gz_pl; decide +kernel
theorem wi_X8_opening : Cond.instanceMethod yX8_opening ∈ gz_XS := gz_mS 881 (by decide +kernel) rfl
theorem we_X8_opening : Cond.selects yX8_opening.cls yX8_opening yX8_opening ∈ gz_XS := gz_mS 882 (by decide +kernel) rfl
theorem wc_X8_reply : Cond.code yX8_reply cX8_reply 7 (some .int) ∈ gz_XS := gz_mS 887 (by decide +kernel) rfl
theorem wp_X8_reply : gz_pl yX8_reply 3 := by unfold gz_pl; decide +kernel
theorem wi_X8_reply : Cond.instanceMethod yX8_reply ∈ gz_XS := gz_mS 885 (by decide +kernel) rfl
theorem we_X8_reply : Cond.selects yX8_reply.cls yX8_reply yX8_reply ∈ gz_XS := gz_mS 886 (by decide +kernel) rfl
theorem wc_X8_drawn : Cond.code yX8_drawn cX8_drawn 7 (some .int) ∈ gz_XS := gz_mS 895 (by decide +kernel) rfl
theorem wp_X8_drawn : gz_pl yX8_drawn 1 := by unfold gz_pl; decide +kernel
theorem wi_X8_drawn : Cond.instanceMethod yX8_drawn ∈ gz_XS := gz_mS 894 (by decide +kernel) rfl
theorem we_X8_drawn : Cond.selects yX8_drawn.cls yX8_drawn yX8_drawn ∈ gz_XS := gz_mS 43 (by decide +kernel) rfl
theorem wc_X8_round : Cond.code yX8_round cX8_round 2 (some .int) ∈ gz_XS := gz_mS 891 (by decide +kernel) rfl
theorem wp_X8_round : gz_pl yX8_round 1 := by unfold gz_pl; decide +kernel
theorem wi_X8_round : Cond.instanceMethod yX8_round ∈ gz_XS := gz_mS 889 (by decide +kernel) rfl
theorem we_X8_round : Cond.selects yX8_round.cls yX8_round yX8_round ∈ gz_XS := gz_mS 890 (by decide +kernel) rfl
theorem wc_X8_held : Cond.code yX8_held cX8_held 2 (some .int) ∈ gz_XS := gz_mS 902 (by decide +kernel) rfl
theorem wp_X8_held : gz_pl yX8_held 1 := by unfold gz_pl; decide +kernel
theorem wi_X8_held : Cond.instanceMethod yX8_held ∈ gz_XS := gz_mS 900 (by decide +kernel) rfl
theorem we_X8_held : Cond.selects yX8_held.cls yX8_held yX8_held ∈ gz_XS := gz_mS 901 (by decide +kernel) rfl
theorem wc_X8_move : Cond.code yX8_move cX8_move 2 (some .int) ∈ gz_XS := gz_mS 906 (by decide +kernel) rfl
theorem wp_X8_move : gz_pl yX8_move 1 := by unfold gz_pl; decide +kernel
theorem wi_X8_move : Cond.instanceMethod yX8_move ∈ gz_XS := gz_mS 904 (by decide +kernel) rfl
theorem we_X8_move : Cond.selects yX8_move.cls yX8_move yX8_move ∈ gz_XS := gz_mS 905 (by decide +kernel) rfl
theorem wc_X8_about : Cond.code yX8_about cX8_about 2 (some .int) ∈ gz_XS := gz_mS 910 (by decide +kernel) rfl
theorem wp_X8_about : gz_pl yX8_about 1 := by unfold gz_pl; decide +kernel
theorem wi_X8_about : Cond.instanceMethod yX8_about ∈ gz_XS := gz_mS 908 (by decide +kernel) rfl
theorem we_X8_about : Cond.selects yX8_about.cls yX8_about yX8_about ∈ gz_XS := gz_mS 909 (by decide +kernel) rfl
theorem wc_X8_count : Cond.code yX8_count cX8_count 2 (some .int) ∈ gz_XS := gz_mS 914 (by decide +kernel) rfl
theorem wp_X8_count : gz_pl yX8_count 1 := by unfold gz_pl; decide +kernel
theorem wi_X8_count : Cond.instanceMethod yX8_count ∈ gz_XS := gz_mS 912 (by decide +kernel) rfl
theorem we_X8_count : Cond.selects yX8_count.cls yX8_count yX8_count ∈ gz_XS := gz_mS 913 (by decide +kernel) rfl
theorem wc_X8_digest : Cond.code yX8_digest cX8_digest 8 (some .long) ∈ gz_XS := gz_mS 918 (by decide +kernel) rfl
theorem wp_X8_digest : gz_pl yX8_digest 0 := by unfold gz_pl; decide +kernel
theorem wi_X8_digest : Cond.instanceMethod yX8_digest ∈ gz_XS := gz_mS 916 (by decide +kernel) rfl
theorem we_X8_digest : Cond.selects yX8_digest.cls yX8_digest yX8_digest ∈ gz_XS := gz_mS 917 (by decide +kernel) rfl
theorem wc_Jxe99ae_isNaN_b9ae7 : Cond.code yJxe99ae_isNaN_b9ae7 cJxe99ae_isNaN_b9ae7 2 (some .boolean) ∈ gz_XS := gz_mS 843 (by decide +kernel) rfl
theorem wp_Jxe99ae_isNaN_b9ae7 : gz_pl yJxe99ae_isNaN_b9ae7 1 := by unfold gz_pl; decide +kernel
theorem wt_Jxe99ae_isNaN_b9ae7 : Cond.static yJxe99ae_isNaN_b9ae7 ∈ gz_XS := gz_mS 842 (by decide +kernel) rfl
theorem wc_Jxe99ae_doubleToLongBits_ccdee : Cond.code yJxe99ae_doubleToLongBits_ccdee cJxe99ae_doubleToLongBits_ccdee 2 (some .long) ∈ gz_XS := gz_mS 840 (by decide +kernel) rfl
theorem wp_Jxe99ae_doubleToLongBits_ccdee : gz_pl yJxe99ae_doubleToLongBits_ccdee 1 := by unfold gz_pl; decide +kernel
theorem wt_Jxe99ae_doubleToLongBits_ccdee : Cond.static yJxe99ae_doubleToLongBits_ccdee ∈ gz_XS := gz_mS 839 (by decide +kernel) rfl
theorem wc_J7_fill_53178 : Cond.code yJ7_fill_53178 cJ7_fill_53178 4 none ∈ gz_XS := gz_mS 140 (by decide +kernel) rfl
theorem wp_J7_fill_53178 : gz_pl yJ7_fill_53178 2 := by unfold gz_pl; decide +kernel
theorem wt_J7_fill_53178 : Cond.static yJ7_fill_53178 ∈ gz_XS := gz_mS 139 (by decide +kernel) rfl
theorem wc_J7_fill_7f8df : Cond.code yJ7_fill_7f8df cJ7_fill_7f8df 5 none ∈ gz_XS := gz_mS 447 (by decide +kernel) rfl
theorem wp_J7_fill_7f8df : gz_pl yJ7_fill_7f8df 2 := by unfold gz_pl; decide +kernel
theorem wt_J7_fill_7f8df : Cond.static yJ7_fill_7f8df ∈ gz_XS := gz_mS 446 (by decide +kernel) rfl
theorem wn_X0 : Cond.initialized RX0 ∈ gz_XS := gz_mS 52 (by decide +kernel) rfl
theorem wn_X1 : Cond.initialized RX1 ∈ gz_XS := gz_mS 47 (by decide +kernel) rfl
theorem wn_X2 : Cond.initialized RX2 ∈ gz_XS := gz_mS 53 (by decide +kernel) rfl
theorem wn_X3 : Cond.initialized RX3 ∈ gz_XS := gz_mS 50 (by decide +kernel) rfl
theorem wn_X4 : Cond.initialized RX4 ∈ gz_XS := gz_mS 48 (by decide +kernel) rfl
theorem wn_X5 : Cond.initialized RX5 ∈ gz_XS := gz_mS 51 (by decide +kernel) rfl
theorem wn_X6 : Cond.initialized RX6 ∈ gz_XS := gz_mS 46 (by decide +kernel) rfl
theorem wn_X7 : Cond.initialized RX7 ∈ gz_XS := gz_mS 45 (by decide +kernel) rfl
theorem wn_X8 : Cond.initialized RX8 ∈ gz_XS := gz_mS 54 (by decide +kernel) rfl
theorem wn_Jxe99ae : Cond.initialized RJxe99ae ∈ gz_XS := gz_mS 56 (by decide +kernel) rfl
theorem wn_Jxd2413 : Cond.initialized RJxd2413 ∈ gz_XS := gz_mS 55 (by decide +kernel) rfl
theorem wn_J7 : Cond.initialized RJ7 ∈ gz_XS := gz_mS 49 (by decide +kernel) rfl
theorem wn_L : Cond.initialized RL ∈ gz_XS := gz_mS 44 (by decide +kernel) rfl
theorem fl_X7_12 : gz_lk RX7 12 TX7 0 := gz_mS 307 (by decide +kernel) rfl
theorem fl_X7_19 : gz_lk RX7 19 TX7 1 := gz_mS 308 (by decide +kernel) rfl
theorem fl_X7_28 : gz_lk RX7 28 TX7 2 := gz_mS 309 (by decide +kernel) rfl
theorem fl_X7_35 : gz_lk RX7 35 TX7 3 := gz_mS 310 (by decide +kernel) rfl
theorem fl_X7_42 : gz_lk RX7 42 TX7 4 := gz_mS 311 (by decide +kernel) rfl
theorem ml_X7_46 : gz_KV RX7 46 yX6_lay cX6_lay 5 none 4 := ⟨gz_mS 250 (by decide +kernel) rfl, wi_X6_lay, we_X6_lay, wn_X6, wc_X6_lay, wp_X6_lay⟩
theorem ml_X7_50 : gz_KS RX7 50 yX7_within cX7_within 3 (some .boolean) 3 := ⟨gz_mS 327 (by decide +kernel) rfl, wt_X7_within, wn_X7, wc_X7_within, wp_X7_within⟩
theorem ml_X7_54 : gz_KV RX7 54 yX4_reset cX4_reset 1 none 0 := ⟨gz_mS 330 (by decide +kernel) rfl, wi_X4_reset, we_X4_reset, wn_X4, wc_X4_reset, wp_X4_reset⟩
theorem ml_X7_57 : gz_KV RX7 57 yX2_forget cX2_forget 1 none 0 := ⟨gz_mS 334 (by decide +kernel) rfl, wi_X2_forget, we_X2_forget, wn_X2, wc_X2_forget, wp_X2_forget⟩
theorem fl_X7_60 : gz_lkN RX7 60 TX6 4 "DiceCups" := gz_mN 116 (by decide +kernel) rfl
theorem ml_X7_64 : gz_KS RX7 64 yX7_isPlayer cX7_isPlayer 1 (some .boolean) 1 := ⟨gz_mS 342 (by decide +kernel) rfl, wt_X7_isPlayer, wn_X7, wc_X7_isPlayer, wp_X7_isPlayer⟩
theorem ml_X7_68 : gz_KV RX7 68 yX6_cup cX6_cup 2 (some (.object "DiceCups$Cup")) 1 := ⟨gz_mS 345 (by decide +kernel) rfl, wi_X6_cup, we_X6_cup, wn_X6, wc_X6_cup, wp_X6_cup⟩
theorem fl_X7_72 : gz_lkN RX7 72 TX1 5 "DiceCups" := gz_mN 91 (by decide +kernel) rfl
theorem ml_X7_77 : gz_KV RX7 77 yX7_isHand cX7_isHand 3 (some .boolean) 2 := ⟨gz_mS 353 (by decide +kernel) rfl, wi_X7_isHand, we_X7_isHand, wn_X7, wc_X7_isHand, wp_X7_isHand⟩
theorem fl_X7_81 : gz_lkN RX7 81 TX6 3 "DiceCups" := gz_mN 112 (by decide +kernel) rfl
theorem ml_X7_84 : gz_KV RX7 84 yX1_pipsOf cX1_pipsOf 3 (some .int) 2 := ⟨gz_mS 357 (by decide +kernel) rfl, wi_X1_pipsOf, we_X1_pipsOf, wn_X1, wc_X1_pipsOf, wp_X1_pipsOf⟩
theorem ml_X7_88 : gz_KV RX7 88 yX1_waysOf cX1_waysOf 2 (some .int) 1 := ⟨gz_mS 362 (by decide +kernel) rfl, wi_X1_waysOf, we_X1_waysOf, wn_X1, wc_X1_waysOf, wp_X1_waysOf⟩
theorem ml_X7_92 : gz_KV RX7 92 yX7_isBid cX7_isBid 2 (some .boolean) 1 := ⟨gz_mS 370 (by decide +kernel) rfl, wi_X7_isBid, we_X7_isBid, wn_X7, wc_X7_isBid, wp_X7_isBid⟩
theorem ml_X7_95 : gz_KV RX7 95 yX6_isTrue cX6_isTrue 4 (some .boolean) 3 := ⟨gz_mS 374 (by decide +kernel) rfl, wi_X6_isTrue, we_X6_isTrue, wn_X6, wc_X6_isTrue, wp_X6_isTrue⟩
theorem ml_X7_98 : gz_KV RX7 98 yX6_waysToHold cX6_waysToHold 7 (some .int) 3 := ⟨gz_mS 383 (by decide +kernel) rfl, wi_X6_waysToHold, we_X6_waysToHold, wn_X6, wc_X6_waysToHold, wp_X6_waysToHold⟩
theorem ml_X7_102 : gz_KV RX7 102 yX1_allWays cX1_allWays 3 (some .int) 0 := ⟨gz_mS 394 (by decide +kernel) rfl, wi_X1_allWays, we_X1_allWays, wn_X1, wc_X1_allWays, wp_X1_allWays⟩
theorem ml_X7_106 : gz_KS RX7 106 yX7_commonDivisor cX7_commonDivisor 6 (some .int) 2 := ⟨gz_mS 398 (by decide +kernel) rfl, wt_X7_commonDivisor, wn_X7, wc_X7_commonDivisor, wp_X7_commonDivisor⟩
theorem ml_X7_109 : gz_KS RX7 109 yX7_cut cX7_cut 2 (some .int) 2 := ⟨gz_mS 402 (by decide +kernel) rfl, wt_X7_cut, wn_X7, wc_X7_cut, wp_X7_cut⟩
theorem ml_X7_112 : gz_KS RX7 112 yX7_isPlan cX7_isPlan 1 (some .boolean) 1 := ⟨gz_mS 411 (by decide +kernel) rfl, wt_X7_isPlan, wn_X7, wc_X7_isPlan, wp_X7_isPlan⟩
theorem ml_X7_115 : gz_KV RX7 115 yX7_isBidOrNone cX7_isBidOrNone 2 (some .boolean) 1 := ⟨gz_mS 414 (by decide +kernel) rfl, wi_X7_isBidOrNone, we_X7_isBidOrNone, wn_X7, wc_X7_isBidOrNone, wp_X7_isBidOrNone⟩
theorem ml_X7_118 : gz_KS RX7 118 yX7_mayFollow cX7_mayFollow 2 (some .boolean) 2 := ⟨gz_mS 418 (by decide +kernel) rfl, wt_X7_mayFollow, wn_X7, wc_X7_mayFollow, wp_X7_mayFollow⟩
theorem fl_X7_121 : gz_lkN RX7 121 TX1 3 "DiceCups" := gz_mN 84 (by decide +kernel) rfl
theorem ml_X7_124 : gz_KV RX7 124 yX4_spot cX4_spot 7 (some .int) 5 := ⟨gz_mS 421 (by decide +kernel) rfl, wi_X4_spot, we_X4_spot, wn_X4, wc_X4_spot, wp_X4_spot⟩
theorem ml_X7_128 : gz_KV RX7 128 yX4_change cX4_change 4 (some .int) 2 := ⟨gz_mS 425 (by decide +kernel) rfl, wi_X4_change, we_X4_change, wn_X4, wc_X4_change, wp_X4_change⟩
theorem kc_X7_131 : Cond.constantLong RX7 131 (-1) ∈ gz_XS := gz_mS 435 (by decide +kernel) rfl
theorem ml_X7_133 : gz_KV RX7 133 yX3_play cX3_play 12 (some .double) 3 := ⟨gz_mS 436 (by decide +kernel) rfl, wi_X3_play, we_X3_play, wn_X3, wc_X3_play, wp_X3_play⟩
theorem ml_X7_137 : gz_KS RX7 137 yX7_bitsOf cX7_bitsOf 6 (some .long) 1 := ⟨gz_mS 488 (by decide +kernel) rfl, wt_X7_bitsOf, wn_X7, wc_X7_bitsOf, wp_X7_bitsOf⟩
theorem ml_X7_141 : gz_KV RX7 141 yX0_study cX0_study 4 none 3 := ⟨gz_mS 499 (by decide +kernel) rfl, wi_X0_study, we_X0_study, wn_X0, wc_X0_study, wp_X0_study⟩
theorem ml_X7_145 : gz_KV RX7 145 yX0_winnings cX0_winnings 5 (some .double) 0 := ⟨gz_mS 509 (by decide +kernel) rfl, wi_X0_winnings, we_X0_winnings, wn_X0, wc_X0_winnings, wp_X0_winnings⟩
theorem ml_X7_149 : gz_KV RX7 149 yX0_firstMove cX0_firstMove 2 (some .int) 1 := ⟨gz_mS 547 (by decide +kernel) rfl, wi_X0_firstMove, we_X0_firstMove, wn_X0, wc_X0_firstMove, wp_X0_firstMove⟩
theorem ml_X7_152 : gz_KV RX7 152 yX0_moveBehind cX0_moveBehind 3 (some .int) 2 := ⟨gz_mS 555 (by decide +kernel) rfl, wi_X0_moveBehind, we_X0_moveBehind, wn_X0, wc_X0_moveBehind, wp_X0_moveBehind⟩
theorem ml_X7_155 : gz_KV RX7 155 yX2_begin cX2_begin 2 none 1 := ⟨gz_mS 563 (by decide +kernel) rfl, wi_X2_begin, we_X2_begin, wn_X2, wc_X2_begin, wp_X2_begin⟩
theorem ml_X7_159 : gz_KV RX7 159 yX2_handOf cX2_handOf 2 (some .int) 1 := ⟨gz_mS 587 (by decide +kernel) rfl, wi_X2_handOf, we_X2_handOf, wn_X2, wc_X2_handOf, wp_X2_handOf⟩
theorem fl_X7_162 : gz_lkN RX7 162 TX2 3 "DiceCups" := gz_mN 212 (by decide +kernel) rfl
theorem ml_X7_166 : gz_KV RX7 166 yX2_goesOn cX2_goesOn 1 (some .boolean) 0 := ⟨gz_mS 599 (by decide +kernel) rfl, wi_X2_goesOn, we_X2_goesOn, wn_X2, wc_X2_goesOn, wp_X2_goesOn⟩
theorem fl_X7_170 : gz_lkN RX7 170 TX2 7 "DiceCups" := gz_mN 217 (by decide +kernel) rfl
theorem ml_X7_173 : gz_KV RX7 173 yX2_end cX2_end 1 none 0 := ⟨gz_mS 603 (by decide +kernel) rfl, wi_X2_end, we_X2_end, wn_X2, wc_X2_end, wp_X2_end⟩
theorem fl_X7_176 : gz_lkN RX7 176 TX2 9 "DiceCups" := gz_mN 220 (by decide +kernel) rfl
theorem ml_X7_179 : gz_KV RX7 179 yX2_bid cX2_bid 2 none 1 := ⟨gz_mS 608 (by decide +kernel) rfl, wi_X2_bid, we_X2_bid, wn_X2, wc_X2_bid, wp_X2_bid⟩
theorem ml_X7_182 : gz_KV RX7 182 yX2_fact cX2_fact 2 (some .int) 1 := ⟨gz_mS 616 (by decide +kernel) rfl, wi_X2_fact, we_X2_fact, wn_X2, wc_X2_fact, wp_X2_fact⟩
theorem fl_X7_185 : gz_lkN RX7 185 TX6 5 "DiceCups" := gz_mN 118 (by decide +kernel) rfl
theorem fl_X7_188 : gz_lkN RX7 188 TX2 10 "DiceCups" := gz_mN 222 (by decide +kernel) rfl
theorem fl_X7_191 : gz_lkN RX7 191 TX2 11 "DiceCups" := gz_mN 224 (by decide +kernel) rfl
theorem kc_X7_194 : Cond.constantLong RX7 194 (191) ∈ gz_XS := gz_mS 628 (by decide +kernel) rfl
theorem kc_X7_196 : Cond.constantLong RX7 196 (31) ∈ gz_XS := gz_mS 629 (by decide +kernel) rfl
theorem ml_X7_198 : gz_KV RX7 198 yX7_count cX7_count 2 (some .int) 1 := ⟨gz_mS 630 (by decide +kernel) rfl, wi_X7_count, we_X7_count, wn_X7, wc_X7_count, wp_X7_count⟩
theorem ml_X7_201 : gz_KV RX7 201 yX4_mix cX4_mix 11 (some .long) 4 := ⟨gz_mS 631 (by decide +kernel) rfl, wi_X4_mix, we_X4_mix, wn_X4, wc_X4_mix, wp_X4_mix⟩
theorem ml_X7_205 : gz_KS RX7 205 yX7_leftOver cX7_leftOver 2 (some .int) 2 := ⟨gz_mS 401 (by decide +kernel) rfl, wt_X7_leftOver, wn_X7, wc_X7_leftOver, wp_X7_leftOver⟩
theorem kc_X7_208 : Cond.constantLong RX7 208 (1023) ∈ gz_XS := gz_mS 491 (by decide +kernel) rfl
theorem kc_X7_210 : Cond.constantDouble RX7 210 (4611686018427387904) ∈ gz_XS := gz_mS 492 (by decide +kernel) rfl
theorem kc_X7_212 : Cond.constantLong RX7 212 (2046) ∈ gz_XS := gz_mS 493 (by decide +kernel) rfl
theorem kc_X7_214 : Cond.constantDouble RX7 214 (4841369599423283200) ∈ gz_XS := gz_mS 494 (by decide +kernel) rfl
theorem fl_X0_12 : gz_lk RX0 12 TX0 1 := gz_mS 184 (by decide +kernel) rfl
theorem fl_X0_18 : gz_lk RX0 18 TX0 2 := gz_mS 185 (by decide +kernel) rfl
theorem fl_X0_22 : gz_lk RX0 22 TX0 0 := gz_mS 183 (by decide +kernel) rfl
theorem fl_X0_26 : gz_lk RX0 26 TX0 3 := gz_mS 186 (by decide +kernel) rfl
theorem ml_X0_30 : gz_KV RX0 30 yX0_other cX0_other 1 (some (.object "DiceCups$Cup")) 0 := ⟨gz_mS 503 (by decide +kernel) rfl, wi_X0_other, we_X0_other, wn_X0, wc_X0_other, wp_X0_other⟩
theorem fl_X0_34 : gz_lkN RX0 34 TX6 4 "DiceCups" := gz_mN 114 (by decide +kernel) rfl
theorem ml_X0_39 : gz_KV RX0 39 yX5_take cX5_take 7 none 4 := ⟨gz_mS 508 (by decide +kernel) rfl, wi_X5_take, we_X5_take, wn_X5, wc_X5_take, wp_X5_take⟩
theorem ml_X0_43 : gz_KV RX0 43 yX6_cup cX6_cup 2 (some (.object "DiceCups$Cup")) 1 := ⟨gz_mS 507 (by decide +kernel) rfl, wi_X6_cup, we_X6_cup, wn_X6, wc_X6_cup, wp_X6_cup⟩
theorem fl_X0_47 : gz_lkN RX0 47 TX1 5 "DiceCups" := gz_mN 92 (by decide +kernel) rfl
theorem ml_X0_52 : gz_KV RX0 52 yX0_hold cX0_hold 4 none 1 := ⟨gz_mS 513 (by decide +kernel) rfl, wi_X0_hold, we_X0_hold, wn_X0, wc_X0_hold, wp_X0_hold⟩
theorem ml_X0_56 : gz_KV RX0 56 yX1_waysOf cX1_waysOf 2 (some .int) 1 := ⟨gz_mS 517 (by decide +kernel) rfl, wi_X1_waysOf, we_X1_waysOf, wn_X1, wc_X1_waysOf, wp_X1_waysOf⟩
theorem ml_X0_60 : gz_KV RX0 60 yX0_value cX0_value 5 (some .double) 4 := ⟨gz_mS 519 (by decide +kernel) rfl, wi_X0_value, we_X0_value, wn_X0, wc_X0_value, wp_X0_value⟩
theorem ml_X0_64 : gz_KV RX0 64 yX6_meanOf cX6_meanOf 5 (some .double) 1 := ⟨gz_mS 542 (by decide +kernel) rfl, wi_X6_meanOf, we_X6_meanOf, wn_X6, wc_X6_meanOf, wp_X6_meanOf⟩
theorem fl_X0_68 : gz_lk RX0 68 TX0 5 := gz_mS 188 (by decide +kernel) rfl
theorem ml_X0_71 : gz_KV RX0 71 yX0_follow cX0_follow 9 (some .boolean) 3 := ⟨gz_mS 537 (by decide +kernel) rfl, wi_X0_follow, we_X0_follow, wn_X0, wc_X0_follow, wp_X0_follow⟩
theorem fl_X0_75 : gz_lk RX0 75 TX0 4 := gz_mS 187 (by decide +kernel) rfl
theorem ml_X0_78 : gz_KSN RX0 78 yX7_putReal "DiceCups" cX7_putReal 4 none 3 := ⟨gz_mN 518 (by decide +kernel) rfl, wt_X7_putReal, wn_X7, wc_X7_putReal, wp_X7_putReal⟩
theorem ml_X0_82 : gz_KV RX0 82 yX0_ownValue cX0_ownValue 10 (some .double) 3 := ⟨gz_mS 523 (by decide +kernel) rfl, wi_X0_ownValue, we_X0_ownValue, wn_X0, wc_X0_ownValue, wp_X0_ownValue⟩
theorem ml_X0_86 : gz_KV RX0 86 yX0_otherValue cX0_otherValue 7 (some .double) 3 := ⟨gz_mS 533 (by decide +kernel) rfl, wi_X0_otherValue, we_X0_otherValue, wn_X0, wc_X0_otherValue, wp_X0_otherValue⟩
theorem ml_X0_89 : gz_KV RX0 89 yX0_addCallWins cX0_addCallWins 10 (some .double) 4 := ⟨gz_mS 527 (by decide +kernel) rfl, wi_X0_addCallWins, we_X0_addCallWins, wn_X0, wc_X0_addCallWins, wp_X0_addCallWins⟩
theorem ml_X0_93 : gz_KSN RX0 93 yX7_realAt "DiceCups" cX7_realAt 2 (some .double) 2 := ⟨gz_mN 532 (by decide +kernel) rfl, wt_X7_realAt, wn_X7, wc_X7_realAt, wp_X7_realAt⟩
theorem ml_X0_97 : gz_KV RX0 97 yX5_of cX5_of 4 (some .double) 3 := ⟨gz_mS 541 (by decide +kernel) rfl, wi_X5_of, we_X5_of, wn_X5, wc_X5_of, wp_X5_of⟩
theorem ml_X0_100 : gz_KV RX0 100 yX6_isTrueFor cX6_isTrueFor 5 (some .boolean) 4 := ⟨gz_mS 531 (by decide +kernel) rfl, wi_X6_isTrueFor, we_X6_isTrueFor, wn_X6, wc_X6_isTrueFor, wp_X6_isTrueFor⟩
theorem fl_X1_9 : gz_lk RX1 9 TX1 0 := gz_mS 77 (by decide +kernel) rfl
theorem fl_X1_15 : gz_lk RX1 15 TX1 1 := gz_mS 78 (by decide +kernel) rfl
theorem fl_X1_18 : gz_lk RX1 18 TX1 2 := gz_mS 79 (by decide +kernel) rfl
theorem fl_X1_21 : gz_lk RX1 21 TX1 3 := gz_mS 80 (by decide +kernel) rfl
theorem fl_X1_25 : gz_lk RX1 25 TX1 4 := gz_mS 85 (by decide +kernel) rfl
theorem fl_X1_28 : gz_lk RX1 28 TX1 5 := gz_mS 87 (by decide +kernel) rfl
theorem ml_X1_31 : gz_KS RX1 31 yJ7_fill_53178 cJ7_fill_53178 4 none 2 := ⟨gz_mS 258 (by decide +kernel) rfl, wt_J7_fill_53178, wn_J7, wc_J7_fill_53178, wp_J7_fill_53178⟩
theorem ml_X1_37 : gz_KV RX1 37 yX1_writeHand cX1_writeHand 4 none 1 := ⟨gz_mS 259 (by decide +kernel) rfl, wi_X1_writeHand, we_X1_writeHand, wn_X1, wc_X1_writeHand, wp_X1_writeHand⟩
theorem ml_X1_41 : gz_KV RX1 41 yX1_stepRow cX1_stepRow 4 (some .boolean) 0 := ⟨gz_mS 282 (by decide +kernel) rfl, wi_X1_stepRow, we_X1_stepRow, wn_X1, wc_X1_stepRow, wp_X1_stepRow⟩
theorem ml_X1_45 : gz_KSN RX1 45 yX7_at "DiceCups" cX7_at 2 (some .int) 2 := ⟨gz_mN 263 (by decide +kernel) rfl, wt_X7_at, wn_X7, wc_X7_at, wp_X7_at⟩
theorem ml_X1_49 : gz_KS RX1 49 yX1_spotOf cX1_spotOf 2 (some .int) 2 := ⟨gz_mS 266 (by decide +kernel) rfl, wt_X1_spotOf, wn_X1, wc_X1_spotOf, wp_X1_spotOf⟩
theorem ml_X1_53 : gz_KSN RX1 53 yX7_put "DiceCups" cX7_put 3 none 3 := ⟨gz_mN 269 (by decide +kernel) rfl, wt_X7_put, wn_X7, wc_X7_put, wp_X7_put⟩
theorem ml_X1_57 : gz_KS RX1 57 yX1_factorial cX1_factorial 3 (some .int) 1 := ⟨gz_mS 272 (by decide +kernel) rfl, wt_X1_factorial, wn_X1, wc_X1_factorial, wp_X1_factorial⟩
theorem ml_X1_61 : gz_KV RX1 61 yX1_pipsOf cX1_pipsOf 3 (some .int) 2 := ⟨gz_mS 275 (by decide +kernel) rfl, wi_X1_pipsOf, we_X1_pipsOf, wn_X1, wc_X1_pipsOf, wp_X1_pipsOf⟩
theorem ml_X1_64 : gz_KSN RX1 64 yX7_cut "DiceCups" cX7_cut 2 (some .int) 2 := ⟨gz_mN 279 (by decide +kernel) rfl, wt_X7_cut, wn_X7, wc_X7_cut, wp_X7_cut⟩
theorem ml_X1_67 : gz_KV RX1 67 yX1_isLike cX1_isLike 4 (some .boolean) 2 := ⟨gz_mS 583 (by decide +kernel) rfl, wi_X1_isLike, we_X1_isLike, wn_X1, wc_X1_isLike, wp_X1_isLike⟩
theorem fl_X2_9 : gz_lk RX2 9 TX2 1 := gz_mS 209 (by decide +kernel) rfl
theorem fl_X2_15 : gz_lk RX2 15 TX2 6 := gz_mS 215 (by decide +kernel) rfl
theorem fl_X2_19 : gz_lk RX2 19 TX2 7 := gz_mS 216 (by decide +kernel) rfl
theorem fl_X2_22 : gz_lk RX2 22 TX2 9 := gz_mS 219 (by decide +kernel) rfl
theorem fl_X2_25 : gz_lk RX2 25 TX2 0 := gz_mS 208 (by decide +kernel) rfl
theorem fl_X2_29 : gz_lk RX2 29 TX2 3 := gz_mS 211 (by decide +kernel) rfl
theorem fl_X2_33 : gz_lk RX2 33 TX2 2 := gz_mS 210 (by decide +kernel) rfl
theorem ml_X2_36 : gz_KV RX2 36 yX6_cup cX6_cup 2 (some (.object "DiceCups$Cup")) 1 := ⟨gz_mS 567 (by decide +kernel) rfl, wi_X6_cup, we_X6_cup, wn_X6, wc_X6_cup, wp_X6_cup⟩
theorem ml_X2_42 : gz_KV RX2 42 yX2_draw cX2_draw 4 (some .int) 1 := ⟨gz_mS 568 (by decide +kernel) rfl, wi_X2_draw, we_X2_draw, wn_X2, wc_X2_draw, wp_X2_draw⟩
theorem fl_X2_46 : gz_lk RX2 46 TX2 4 := gz_mS 213 (by decide +kernel) rfl
theorem fl_X2_49 : gz_lk RX2 49 TX2 5 := gz_mS 214 (by decide +kernel) rfl
theorem fl_X2_52 : gz_lk RX2 52 TX2 8 := gz_mS 218 (by decide +kernel) rfl
theorem ml_X2_55 : gz_KS RX2 55 yJ7_fill_53178 cJ7_fill_53178 4 none 2 := ⟨gz_mS 572 (by decide +kernel) rfl, wt_J7_fill_53178, wn_J7, wc_J7_fill_53178, wp_J7_fill_53178⟩
theorem fl_X2_61 : gz_lkN RX2 61 TX1 3 "DiceCups" := gz_mN 82 (by decide +kernel) rfl
theorem kc_X2_66 : Cond.constant RX2 66 (1103515245) ∈ gz_XS := gz_mS 573 (by decide +kernel) rfl
theorem kc_X2_67 : Cond.constant RX2 67 (2147483647) ∈ gz_XS := gz_mS 574 (by decide +kernel) rfl
theorem kc_X2_68 : Cond.constant RX2 68 (65536) ∈ gz_XS := gz_mS 575 (by decide +kernel) rfl
theorem fl_X2_69 : gz_lkN RX2 69 TX1 4 "DiceCups" := gz_mN 86 (by decide +kernel) rfl
theorem ml_X2_72 : gz_KSN RX2 72 yX7_leftOver "DiceCups" cX7_leftOver 2 (some .int) 2 := ⟨gz_mN 576 (by decide +kernel) rfl, wt_X7_leftOver, wn_X7, wc_X7_leftOver, wp_X7_leftOver⟩
theorem ml_X2_76 : gz_KSN RX2 76 yX7_at "DiceCups" cX7_at 2 (some .int) 2 := ⟨gz_mN 577 (by decide +kernel) rfl, wt_X7_at, wn_X7, wc_X7_at, wp_X7_at⟩
theorem ml_X2_80 : gz_KSN RX2 80 yX7_put "DiceCups" cX7_put 3 none 3 := ⟨gz_mN 578 (by decide +kernel) rfl, wt_X7_put, wn_X7, wc_X7_put, wp_X7_put⟩
theorem ml_X2_84 : gz_KV RX2 84 yX1_find cX1_find 3 (some .int) 1 := ⟨gz_mS 579 (by decide +kernel) rfl, wi_X1_find, we_X1_find, wn_X1, wc_X1_find, wp_X1_find⟩
theorem ml_X2_88 : gz_KV RX2 88 yX6_isTrue cX6_isTrue 4 (some .boolean) 3 := ⟨gz_mS 607 (by decide +kernel) rfl, wi_X6_isTrue, we_X6_isTrue, wn_X6, wc_X6_isTrue, wp_X6_isTrue⟩
theorem fl_X2_92 : gz_lk RX2 92 TX2 10 := gz_mS 221 (by decide +kernel) rfl
theorem fl_X2_95 : gz_lk RX2 95 TX2 11 := gz_mS 223 (by decide +kernel) rfl
theorem fl_X3_12 : gz_lk RX3 12 TX3 1 := gz_mS 163 (by decide +kernel) rfl
theorem fl_X3_18 : gz_lk RX3 18 TX3 2 := gz_mS 164 (by decide +kernel) rfl
theorem fl_X3_21 : gz_lk RX3 21 TX3 3 := gz_mS 165 (by decide +kernel) rfl
theorem fl_X3_25 : gz_lk RX3 25 TX3 0 := gz_mS 162 (by decide +kernel) rfl
theorem ml_X3_29 : gz_KV RX3 29 yX6_cup cX6_cup 2 (some (.object "DiceCups$Cup")) 1 := ⟨gz_mS 440 (by decide +kernel) rfl, wi_X6_cup, we_X6_cup, wn_X6, wc_X6_cup, wp_X6_cup⟩
theorem fl_X3_35 : gz_lkN RX3 35 TX6 4 "DiceCups" := gz_mN 115 (by decide +kernel) rfl
theorem ml_X3_39 : gz_KV RX3 39 yX5_take cX5_take 7 none 4 := ⟨gz_mS 441 (by decide +kernel) rfl, wi_X5_take, we_X5_take, wn_X5, wc_X5_take, wp_X5_take⟩
theorem fl_X3_43 : gz_lkN RX3 43 TX1 5 "DiceCups" := gz_mN 89 (by decide +kernel) rfl
theorem ml_X3_48 : gz_KV RX3 48 yX1_waysOf cX1_waysOf 2 (some .int) 1 := ⟨gz_mS 464 (by decide +kernel) rfl, wi_X1_waysOf, we_X1_waysOf, wn_X1, wc_X1_waysOf, wp_X1_waysOf⟩
theorem ml_X3_52 : gz_KV RX3 52 yX3_expected cX3_expected 5 (some .double) 2 := ⟨gz_mS 465 (by decide +kernel) rfl, wi_X3_expected, we_X3_expected, wn_X3, wc_X3_expected, wp_X3_expected⟩
theorem ml_X3_56 : gz_KV RX3 56 yX6_meanOf cX6_meanOf 5 (some .double) 1 := ⟨gz_mS 483 (by decide +kernel) rfl, wi_X6_meanOf, we_X6_meanOf, wn_X6, wc_X6_meanOf, wp_X6_meanOf⟩
theorem ml_X3_60 : gz_KV RX3 60 yX3_expectedAt cX3_expectedAt 14 (some .double) 4 := ⟨gz_mS 469 (by decide +kernel) rfl, wi_X3_expectedAt, we_X3_expectedAt, wn_X3, wc_X3_expectedAt, wp_X3_expectedAt⟩
theorem ml_X3_64 : gz_KSN RX3 64 yX7_putReal "DiceCups" cX7_putReal 4 none 3 := ⟨gz_mN 482 (by decide +kernel) rfl, wt_X7_putReal, wn_X7, wc_X7_putReal, wp_X7_putReal⟩
theorem ml_X3_68 : gz_KV RX3 68 yX5_of cX5_of 4 (some .double) 3 := ⟨gz_mS 473 (by decide +kernel) rfl, wi_X5_of, we_X5_of, wn_X5, wc_X5_of, wp_X5_of⟩
theorem ml_X3_72 : gz_KV RX3 72 yX6_isTrue cX6_isTrue 4 (some .boolean) 3 := ⟨gz_mS 480 (by decide +kernel) rfl, wi_X6_isTrue, we_X6_isTrue, wn_X6, wc_X6_isTrue, wp_X6_isTrue⟩
theorem ml_X3_76 : gz_KSN RX3 76 yX7_realAt "DiceCups" cX7_realAt 2 (some .double) 2 := ⟨gz_mN 481 (by decide +kernel) rfl, wt_X7_realAt, wn_X7, wc_X7_realAt, wp_X7_realAt⟩
theorem fl_X4_9 : gz_lk RX4 9 TX4 0 := gz_mS 141 (by decide +kernel) rfl
theorem ml_X4_15 : gz_KS RX4 15 yJ7_fill_53178 cJ7_fill_53178 4 none 2 := ⟨gz_mS 138 (by decide +kernel) rfl, wt_J7_fill_53178, wn_J7, wc_J7_fill_53178, wp_J7_fill_53178⟩
theorem ml_X4_21 : gz_KSN RX4 21 yX7_at "DiceCups" cX7_at 2 (some .int) 2 := ⟨gz_mN 429 (by decide +kernel) rfl, wt_X7_at, wn_X7, wc_X7_at, wp_X7_at⟩
theorem ml_X4_25 : gz_KSN RX4 25 yX7_put "DiceCups" cX7_put 3 none 3 := ⟨gz_mN 430 (by decide +kernel) rfl, wt_X7_put, wn_X7, wc_X7_put, wp_X7_put⟩
theorem fl_X4_29 : gz_lkN RX4 29 TX1 5 "DiceCups" := gz_mN 93 (by decide +kernel) rfl
theorem ml_X4_35 : gz_KSN RX4 35 yX7_mayFollow "DiceCups" cX7_mayFollow 2 (some .boolean) 2 := ⟨gz_mN 635 (by decide +kernel) rfl, wt_X7_mayFollow, wn_X7, wc_X7_mayFollow, wp_X7_mayFollow⟩
theorem kc_X4_39 : Cond.constantLong RX4 39 (31) ∈ gz_XS := gz_mS 636 (by decide +kernel) rfl
theorem fl_X4_41 : gz_lkN RX4 41 TX1 3 "DiceCups" := gz_mN 83 (by decide +kernel) rfl
theorem ml_X4_44 : gz_KV RX4 44 yX4_spot cX4_spot 7 (some .int) 5 := ⟨gz_mS 637 (by decide +kernel) rfl, wi_X4_spot, we_X4_spot, wn_X4, wc_X4_spot, wp_X4_spot⟩
theorem ml_X4_48 : gz_KV RX4 48 yX4_weightAt cX4_weightAt 2 (some .int) 1 := ⟨gz_mS 638 (by decide +kernel) rfl, wi_X4_weightAt, we_X4_weightAt, wn_X4, wc_X4_weightAt, wp_X4_weightAt⟩
theorem fl_X5_9 : gz_lk RX5 9 TX5 0 := gz_mS 157 (by decide +kernel) rfl
theorem ml_X5_15 : gz_KS RX5 15 yJ7_fill_7f8df cJ7_fill_7f8df 5 none 2 := ⟨gz_mS 445 (by decide +kernel) rfl, wt_J7_fill_7f8df, wn_J7, wc_J7_fill_7f8df, wp_J7_fill_7f8df⟩
theorem fl_X5_21 : gz_lkN RX5 21 TX1 5 "DiceCups" := gz_mN 88 (by decide +kernel) rfl
theorem fl_X5_27 : gz_lkN RX5 27 TX1 3 "DiceCups" := gz_mN 81 (by decide +kernel) rfl
theorem ml_X5_30 : gz_KV RX5 30 yX4_spot cX4_spot 7 (some .int) 5 := ⟨gz_mS 448 (by decide +kernel) rfl, wi_X4_spot, we_X4_spot, wn_X4, wc_X4_spot, wp_X4_spot⟩
theorem ml_X5_36 : gz_KV RX5 36 yX5_takeMoves cX5_takeMoves 10 none 5 := ⟨gz_mS 449 (by decide +kernel) rfl, wi_X5_takeMoves, we_X5_takeMoves, wn_X5, wc_X5_takeMoves, wp_X5_takeMoves⟩
theorem ml_X5_40 : gz_KSN RX5 40 yX7_mayFollow "DiceCups" cX7_mayFollow 2 (some .boolean) 2 := ⟨gz_mN 453 (by decide +kernel) rfl, wt_X7_mayFollow, wn_X7, wc_X7_mayFollow, wp_X7_mayFollow⟩
theorem ml_X5_44 : gz_KV RX5 44 yX4_weightAt cX4_weightAt 2 (some .int) 1 := ⟨gz_mS 454 (by decide +kernel) rfl, wi_X4_weightAt, we_X4_weightAt, wn_X4, wc_X4_weightAt, wp_X4_weightAt⟩
theorem ml_X5_48 : gz_KS RX5 48 yX5_spotOf cX5_spotOf 3 (some .int) 3 := ⟨gz_mS 458 (by decide +kernel) rfl, wt_X5_spotOf, wn_X5, wc_X5_spotOf, wp_X5_spotOf⟩
theorem ml_X5_52 : gz_KSN RX5 52 yX7_putReal "DiceCups" cX7_putReal 4 none 3 := ⟨gz_mN 461 (by decide +kernel) rfl, wt_X7_putReal, wn_X7, wc_X7_putReal, wp_X7_putReal⟩
theorem ml_X5_56 : gz_KSN RX5 56 yX7_realAt "DiceCups" cX7_realAt 2 (some .double) 2 := ⟨gz_mN 477 (by decide +kernel) rfl, wt_X7_realAt, wn_X7, wc_X7_realAt, wp_X7_realAt⟩
theorem fl_X6_12 : gz_lk RX6 12 TX6 0 := gz_mS 108 (by decide +kernel) rfl
theorem fl_X6_18 : gz_lk RX6 18 TX6 1 := gz_mS 109 (by decide +kernel) rfl
theorem fl_X6_21 : gz_lk RX6 21 TX6 2 := gz_mS 110 (by decide +kernel) rfl
theorem fl_X6_25 : gz_lk RX6 25 TX6 3 := gz_mS 111 (by decide +kernel) rfl
theorem fl_X6_29 : gz_lk RX6 29 TX6 5 := gz_mS 117 (by decide +kernel) rfl
theorem fl_X6_33 : gz_lk RX6 33 TX6 4 := gz_mS 113 (by decide +kernel) rfl
theorem ml_X6_36 : gz_KV RX6 36 yX1_fill cX1_fill 4 none 2 := ⟨gz_mS 254 (by decide +kernel) rfl, wi_X1_fill, we_X1_fill, wn_X1, wc_X1_fill, wp_X1_fill⟩
theorem ml_X6_40 : gz_KV RX6 40 yX6_judgeBids cX6_judgeBids 4 none 0 := ⟨gz_mS 286 (by decide +kernel) rfl, wi_X6_judgeBids, we_X6_judgeBids, wn_X6, wc_X6_judgeBids, wp_X6_judgeBids⟩
theorem fl_X6_43 : gz_lkN RX6 43 TX1 5 "DiceCups" := gz_mN 90 (by decide +kernel) rfl
theorem ml_X6_46 : gz_KV RX6 46 yX6_judge cX6_judge 7 none 3 := ⟨gz_mS 290 (by decide +kernel) rfl, wi_X6_judge, we_X6_judge, wn_X6, wc_X6_judge, wp_X6_judge⟩
theorem ml_X6_50 : gz_KSN RX6 50 yX7_leftOver "DiceCups" cX7_leftOver 2 (some .int) 2 := ⟨gz_mN 294 (by decide +kernel) rfl, wt_X7_leftOver, wn_X7, wc_X7_leftOver, wp_X7_leftOver⟩
theorem ml_X6_54 : gz_KSN RX6 54 yX7_cut "DiceCups" cX7_cut 2 (some .int) 2 := ⟨gz_mN 297 (by decide +kernel) rfl, wt_X7_cut, wn_X7, wc_X7_cut, wp_X7_cut⟩
theorem ml_X6_57 : gz_KV RX6 57 yX6_countsFor cX6_countsFor 5 (some .int) 3 := ⟨gz_mS 298 (by decide +kernel) rfl, wi_X6_countsFor, we_X6_countsFor, wn_X6, wc_X6_countsFor, wp_X6_countsFor⟩
theorem ml_X6_61 : gz_KS RX6 61 yX6_spotOf cX6_spotOf 3 (some .int) 3 := ⟨gz_mS 303 (by decide +kernel) rfl, wt_X6_spotOf, wn_X6, wc_X6_spotOf, wp_X6_spotOf⟩
theorem ml_X6_65 : gz_KSN RX6 65 yX7_put "DiceCups" cX7_put 3 none 3 := ⟨gz_mN 306 (by decide +kernel) rfl, wt_X7_put, wn_X7, wc_X7_put, wp_X7_put⟩
theorem ml_X6_69 : gz_KV RX6 69 yX1_pipsOf cX1_pipsOf 3 (some .int) 2 := ⟨gz_mS 302 (by decide +kernel) rfl, wi_X1_pipsOf, we_X1_pipsOf, wn_X1, wc_X1_pipsOf, wp_X1_pipsOf⟩
theorem ml_X6_72 : gz_KSN RX6 72 yX7_at "DiceCups" cX7_at 2 (some .int) 2 := ⟨gz_mN 378 (by decide +kernel) rfl, wt_X7_at, wn_X7, wc_X7_at, wp_X7_at⟩
theorem ml_X6_76 : gz_KV RX6 76 yX6_isTrue cX6_isTrue 4 (some .boolean) 3 := ⟨gz_mS 392 (by decide +kernel) rfl, wi_X6_isTrue, we_X6_isTrue, wn_X6, wc_X6_isTrue, wp_X6_isTrue⟩
theorem ml_X6_80 : gz_KV RX6 80 yX6_cup cX6_cup 2 (some (.object "DiceCups$Cup")) 1 := ⟨gz_mS 387 (by decide +kernel) rfl, wi_X6_cup, we_X6_cup, wn_X6, wc_X6_cup, wp_X6_cup⟩
theorem ml_X6_84 : gz_KV RX6 84 yX6_isTrueFor cX6_isTrueFor 5 (some .boolean) 4 := ⟨gz_mS 388 (by decide +kernel) rfl, wi_X6_isTrueFor, we_X6_isTrueFor, wn_X6, wc_X6_isTrueFor, wp_X6_isTrueFor⟩
theorem ml_X6_88 : gz_KV RX6 88 yX1_waysOf cX1_waysOf 2 (some .int) 1 := ⟨gz_mS 393 (by decide +kernel) rfl, wi_X1_waysOf, we_X1_waysOf, wn_X1, wc_X1_waysOf, wp_X1_waysOf⟩
theorem ml_X6_92 : gz_KV RX6 92 yX1_allWays cX1_allWays 3 (some .int) 0 := ⟨gz_mS 487 (by decide +kernel) rfl, wi_X1_allWays, we_X1_allWays, wn_X1, wc_X1_allWays, wp_X1_allWays⟩
theorem ml_L_13 : gz_KV RL 13 yX7_cups cX7_cups 5 (some .int) 4 := ⟨gz_mS 323 (by decide +kernel) rfl, wi_X7_cups, we_X7_cups, wn_X7, wc_X7_cups, wp_X7_cups⟩
theorem ml_L_17 : gz_KV RL 17 yX8_cups cX8_cups 5 (some .int) 4 := ⟨gz_mS 740 (by decide +kernel) rfl, wi_X8_cups, we_X8_cups, wn_X8, wc_X8_cups, wp_X8_cups⟩
theorem ml_L_18 : gz_KV RL 18 yX7_hands cX7_hands 2 (some .int) 1 := ⟨gz_mS 338 (by decide +kernel) rfl, wi_X7_hands, we_X7_hands, wn_X7, wc_X7_hands, wp_X7_hands⟩
theorem ml_L_22 : gz_KV RL 22 yX8_hands cX8_hands 2 (some .int) 1 := ⟨gz_mS 751 (by decide +kernel) rfl, wi_X8_hands, we_X8_hands, wn_X8, wc_X8_hands, wp_X8_hands⟩
theorem ml_L_23 : gz_KV RL 23 yX7_hand cX7_hand 4 (some .int) 3 := ⟨gz_mS 349 (by decide +kernel) rfl, wi_X7_hand, we_X7_hand, wn_X7, wc_X7_hand, wp_X7_hand⟩
theorem ml_L_27 : gz_KV RL 27 yX8_hand cX8_hand 4 (some .int) 3 := ⟨gz_mS 758 (by decide +kernel) rfl, wi_X8_hand, we_X8_hand, wn_X8, wc_X8_hand, wp_X8_hand⟩
theorem ml_L_28 : gz_KV RL 28 yX7_throwsOf cX7_throwsOf 3 (some .int) 2 := ⟨gz_mS 358 (by decide +kernel) rfl, wi_X7_throwsOf, we_X7_throwsOf, wn_X7, wc_X7_throwsOf, wp_X7_throwsOf⟩
theorem ml_L_32 : gz_KV RL 32 yX8_throwsOf cX8_throwsOf 3 (some .int) 2 := ⟨gz_mS 766 (by decide +kernel) rfl, wi_X8_throwsOf, we_X8_throwsOf, wn_X8, wc_X8_throwsOf, wp_X8_throwsOf⟩
theorem ml_L_33 : gz_KV RL 33 yX7_holds cX7_holds 4 (some .int) 3 := ⟨gz_mS 366 (by decide +kernel) rfl, wi_X7_holds, we_X7_holds, wn_X7, wc_X7_holds, wp_X7_holds⟩
theorem ml_L_36 : gz_KV RL 36 yX8_holds cX8_holds 4 (some .int) 3 := ⟨gz_mS 770 (by decide +kernel) rfl, wi_X8_holds, we_X8_holds, wn_X8, wc_X8_holds, wp_X8_holds⟩
theorem ml_L_37 : gz_KV RL 37 yX7_chance cX7_chance 8 (some .int) 4 := ⟨gz_mS 379 (by decide +kernel) rfl, wi_X7_chance, we_X7_chance, wn_X7, wc_X7_chance, wp_X7_chance⟩
theorem ml_L_41 : gz_KV RL 41 yX8_chance cX8_chance 10 (some .int) 4 := ⟨gz_mS 786 (by decide +kernel) rfl, wi_X8_chance, we_X8_chance, wn_X8, wc_X8_chance, wp_X8_chance⟩
theorem ml_L_42 : gz_KV RL 42 yX7_surest cX7_surest 7 (some .int) 4 := ⟨gz_mS 403 (by decide +kernel) rfl, wi_X7_surest, we_X7_surest, wn_X7, wc_X7_surest, wp_X7_surest⟩
theorem ml_L_45 : gz_KV RL 45 yX8_surest cX8_surest 7 (some .int) 4 := ⟨gz_mS 798 (by decide +kernel) rfl, wi_X8_surest, we_X8_surest, wn_X8, wc_X8_surest, wp_X8_surest⟩
theorem ml_L_46 : gz_KV RL 46 yX7_weigh cX7_weigh 7 (some .int) 6 := ⟨gz_mS 407 (by decide +kernel) rfl, wi_X7_weigh, we_X7_weigh, wn_X7, wc_X7_weigh, wp_X7_weigh⟩
theorem ml_L_50 : gz_KV RL 50 yX8_weigh cX8_weigh 9 (some .int) 6 := ⟨gz_mS 802 (by decide +kernel) rfl, wi_X8_weigh, we_X8_weigh, wn_X8, wc_X8_weigh, wp_X8_weigh⟩
theorem ml_L_51 : gz_KV RL 51 yX7_worth cX7_worth 3 (some .long) 2 := ⟨gz_mS 431 (by decide +kernel) rfl, wi_X7_worth, we_X7_worth, wn_X7, wc_X7_worth, wp_X7_worth⟩
theorem ml_L_55 : gz_KV RL 55 yX8_worth cX8_worth 7 (some .long) 2 := ⟨gz_mS 817 (by decide +kernel) rfl, wi_X8_worth, we_X8_worth, wn_X8, wc_X8_worth, wp_X8_worth⟩
theorem ml_L_56 : gz_KV RL 56 yX7_answer cX7_answer 3 (some .long) 2 := ⟨gz_mS 495 (by decide +kernel) rfl, wi_X7_answer, we_X7_answer, wn_X7, wc_X7_answer, wp_X7_answer⟩
theorem ml_L_59 : gz_KV RL 59 yX8_answer cX8_answer 6 (some .long) 2 := ⟨gz_mS 848 (by decide +kernel) rfl, wi_X8_answer, we_X8_answer, wn_X8, wc_X8_answer, wp_X8_answer⟩
theorem ml_L_60 : gz_KV RL 60 yX7_opening cX7_opening 3 (some .int) 2 := ⟨gz_mS 543 (by decide +kernel) rfl, wi_X7_opening, we_X7_opening, wn_X7, wc_X7_opening, wp_X7_opening⟩
theorem ml_L_63 : gz_KV RL 63 yX8_opening cX8_opening 5 (some .int) 2 := ⟨gz_mS 880 (by decide +kernel) rfl, wi_X8_opening, we_X8_opening, wn_X8, wc_X8_opening, wp_X8_opening⟩
theorem ml_L_64 : gz_KV RL 64 yX7_reply cX7_reply 4 (some .int) 3 := ⟨gz_mS 551 (by decide +kernel) rfl, wi_X7_reply, we_X7_reply, wn_X7, wc_X7_reply, wp_X7_reply⟩
theorem ml_L_67 : gz_KV RL 67 yX8_reply cX8_reply 7 (some .int) 3 := ⟨gz_mS 884 (by decide +kernel) rfl, wi_X8_reply, we_X8_reply, wn_X8, wc_X8_reply, wp_X8_reply⟩
theorem ml_L_68 : gz_KV RL 68 yX7_round cX7_round 2 (some .int) 1 := ⟨gz_mS 559 (by decide +kernel) rfl, wi_X7_round, we_X7_round, wn_X7, wc_X7_round, wp_X7_round⟩
theorem ml_L_71 : gz_KV RL 71 yX8_round cX8_round 2 (some .int) 1 := ⟨gz_mS 888 (by decide +kernel) rfl, wi_X8_round, we_X8_round, wn_X8, wc_X8_round, wp_X8_round⟩
theorem ml_L_72 : gz_KV RL 72 yX7_held cX7_held 2 (some .int) 1 := ⟨gz_mS 591 (by decide +kernel) rfl, wi_X7_held, we_X7_held, wn_X7, wc_X7_held, wp_X7_held⟩
theorem ml_L_75 : gz_KV RL 75 yX8_held cX8_held 2 (some .int) 1 := ⟨gz_mS 899 (by decide +kernel) rfl, wi_X8_held, we_X8_held, wn_X8, wc_X8_held, wp_X8_held⟩
theorem ml_L_76 : gz_KV RL 76 yX7_move cX7_move 2 (some .int) 1 := ⟨gz_mS 595 (by decide +kernel) rfl, wi_X7_move, we_X7_move, wn_X7, wc_X7_move, wp_X7_move⟩
theorem ml_L_79 : gz_KV RL 79 yX8_move cX8_move 2 (some .int) 1 := ⟨gz_mS 903 (by decide +kernel) rfl, wi_X8_move, we_X8_move, wn_X8, wc_X8_move, wp_X8_move⟩
theorem ml_L_80 : gz_KV RL 80 yX7_about cX7_about 2 (some .int) 1 := ⟨gz_mS 612 (by decide +kernel) rfl, wi_X7_about, we_X7_about, wn_X7, wc_X7_about, wp_X7_about⟩
theorem ml_L_83 : gz_KV RL 83 yX8_about cX8_about 2 (some .int) 1 := ⟨gz_mS 907 (by decide +kernel) rfl, wi_X8_about, we_X8_about, wn_X8, wc_X8_about, wp_X8_about⟩
theorem ml_L_84 : gz_KV RL 84 yX7_count cX7_count 2 (some .int) 1 := ⟨gz_mS 620 (by decide +kernel) rfl, wi_X7_count, we_X7_count, wn_X7, wc_X7_count, wp_X7_count⟩
theorem ml_L_87 : gz_KV RL 87 yX8_count cX8_count 2 (some .int) 1 := ⟨gz_mS 911 (by decide +kernel) rfl, wi_X8_count, we_X8_count, wn_X8, wc_X8_count, wp_X8_count⟩
theorem ml_L_88 : gz_KV RL 88 yX7_digest cX7_digest 5 (some .long) 0 := ⟨gz_mS 624 (by decide +kernel) rfl, wi_X7_digest, we_X7_digest, wn_X7, wc_X7_digest, wp_X7_digest⟩
theorem ml_L_92 : gz_KV RL 92 yX8_digest cX8_digest 8 (some .long) 0 := ⟨gz_mS 915 (by decide +kernel) rfl, wi_X8_digest, we_X8_digest, wn_X8, wc_X8_digest, wp_X8_digest⟩
theorem fl_X8_7 : gz_lk RX8 7 TX8 0 := gz_mS 660 (by decide +kernel) rfl
theorem fl_X8_13 : gz_lk RX8 13 TX8 1 := gz_mS 661 (by decide +kernel) rfl
theorem fl_X8_16 : gz_lk RX8 16 TX8 2 := gz_mS 662 (by decide +kernel) rfl
theorem fl_X8_19 : gz_lk RX8 19 TX8 4 := gz_mS 664 (by decide +kernel) rfl
theorem fl_X8_23 : gz_lk RX8 23 TX8 5 := gz_mS 665 (by decide +kernel) rfl
theorem fl_X8_26 : gz_lk RX8 26 TX8 6 := gz_mS 666 (by decide +kernel) rfl
theorem fl_X8_29 : gz_lk RX8 29 TX8 7 := gz_mS 667 (by decide +kernel) rfl
theorem fl_X8_32 : gz_lk RX8 32 TX8 9 := gz_mS 669 (by decide +kernel) rfl
theorem fl_X8_35 : gz_lk RX8 35 TX8 16 := gz_mS 676 (by decide +kernel) rfl
theorem fl_X8_38 : gz_lk RX8 38 TX8 17 := gz_mS 677 (by decide +kernel) rfl
theorem fl_X8_42 : gz_lk RX8 42 TX8 18 := gz_mS 678 (by decide +kernel) rfl
theorem fl_X8_45 : gz_lk RX8 45 TX8 19 := gz_mS 679 (by decide +kernel) rfl
theorem fl_X8_48 : gz_lk RX8 48 TX8 20 := gz_mS 680 (by decide +kernel) rfl
theorem fl_X8_51 : gz_lk RX8 51 TX8 21 := gz_mS 681 (by decide +kernel) rfl
theorem fl_X8_54 : gz_lk RX8 54 TX8 22 := gz_mS 682 (by decide +kernel) rfl
theorem fl_X8_57 : gz_lk RX8 57 TX8 23 := gz_mS 683 (by decide +kernel) rfl
theorem fl_X8_61 : gz_lk RX8 61 TX8 25 := gz_mS 685 (by decide +kernel) rfl
theorem ml_X8_64 : gz_KV RX8 64 yX8_lay cX8_lay 2 none 0 := ⟨gz_mS 645 (by decide +kernel) rfl, wi_X8_lay, we_X8_lay, wn_X8, wc_X8_lay, wp_X8_lay⟩
theorem ml_X8_67 : gz_KV RX8 67 yX8_dice cX8_dice 2 (some .int) 1 := ⟨gz_mS 653 (by decide +kernel) rfl, wi_X8_dice, we_X8_dice, wn_X8, wc_X8_dice, wp_X8_dice⟩
theorem ml_X8_71 : gz_KS RX8 71 yX8_product cX8_product 1 (some .int) 1 := ⟨gz_mS 657 (by decide +kernel) rfl, wt_X8_product, wn_X8, wc_X8_product, wp_X8_product⟩
theorem ml_X8_74 : gz_KV RX8 74 yX8_layHands cX8_layHands 12 none 1 := ⟨gz_mS 649 (by decide +kernel) rfl, wi_X8_layHands, we_X8_layHands, wn_X8, wc_X8_layHands, wp_X8_layHands⟩
theorem fl_X8_78 : gz_lk RX8 78 TX8 8 := gz_mS 668 (by decide +kernel) rfl
theorem ml_X8_82 : gz_KS RX8 82 yX8_in cX8_in 3 (some .boolean) 3 := ⟨gz_mS 744 (by decide +kernel) rfl, wt_X8_in, wn_X8, wc_X8_in, wp_X8_in⟩
theorem fl_X8_86 : gz_lk RX8 86 TX8 3 := gz_mS 663 (by decide +kernel) rfl
theorem ml_X8_89 : gz_KV RX8 89 yX8_most cX8_most 1 (some .int) 0 := ⟨gz_mS 747 (by decide +kernel) rfl, wi_X8_most, we_X8_most, wn_X8, wc_X8_most, wp_X8_most⟩
theorem ml_X8_93 : gz_KS RX8 93 yX8_isPlayer cX8_isPlayer 1 (some .boolean) 1 := ⟨gz_mS 755 (by decide +kernel) rfl, wt_X8_isPlayer, wn_X8, wc_X8_isPlayer, wp_X8_isPlayer⟩
theorem ml_X8_97 : gz_KV RX8 97 yX8_isHand cX8_isHand 3 (some .boolean) 2 := ⟨gz_mS 762 (by decide +kernel) rfl, wi_X8_isHand, we_X8_isHand, wn_X8, wc_X8_isHand, wp_X8_isHand⟩
theorem ml_X8_101 : gz_KV RX8 101 yX8_countsFor cX8_countsFor 5 (some .int) 3 := ⟨gz_mS 782 (by decide +kernel) rfl, wi_X8_countsFor, we_X8_countsFor, wn_X8, wc_X8_countsFor, wp_X8_countsFor⟩
theorem ml_X8_105 : gz_KV RX8 105 yX8_isBid cX8_isBid 2 (some .boolean) 1 := ⟨gz_mS 774 (by decide +kernel) rfl, wi_X8_isBid, we_X8_isBid, wn_X8, wc_X8_isBid, wp_X8_isBid⟩
theorem ml_X8_108 : gz_KV RX8 108 yX8_doesHold cX8_doesHold 5 (some .boolean) 3 := ⟨gz_mS 778 (by decide +kernel) rfl, wi_X8_doesHold, we_X8_doesHold, wn_X8, wc_X8_doesHold, wp_X8_doesHold⟩
theorem ml_X8_111 : gz_KV RX8 111 yX8_throwsFor cX8_throwsFor 7 (some .int) 3 := ⟨gz_mS 790 (by decide +kernel) rfl, wi_X8_throwsFor, we_X8_throwsFor, wn_X8, wc_X8_throwsFor, wp_X8_throwsFor⟩
theorem ml_X8_114 : gz_KV RX8 114 yX8_power cX8_power 4 (some .int) 1 := ⟨gz_mS 794 (by decide +kernel) rfl, wi_X8_power, we_X8_power, wn_X8, wc_X8_power, wp_X8_power⟩
theorem ml_X8_117 : gz_KS RX8 117 yX8_isPlan cX8_isPlan 1 (some .boolean) 1 := ⟨gz_mS 806 (by decide +kernel) rfl, wt_X8_isPlan, wn_X8, wc_X8_isPlan, wp_X8_isPlan⟩
theorem ml_X8_120 : gz_KV RX8 120 yX8_mayMove cX8_mayMove 3 (some .boolean) 2 := ⟨gz_mS 809 (by decide +kernel) rfl, wi_X8_mayMove, we_X8_mayMove, wn_X8, wc_X8_mayMove, wp_X8_mayMove⟩
theorem ml_X8_123 : gz_KV RX8 123 yX8_at cX8_at 6 (some .int) 5 := ⟨gz_mS 813 (by decide +kernel) rfl, wi_X8_at, we_X8_at, wn_X8, wc_X8_at, wp_X8_at⟩
theorem ml_X8_127 : gz_KV RX8 127 yX8_total cX8_total 7 (some .int) 4 := ⟨gz_mS 830 (by decide +kernel) rfl, wi_X8_total, we_X8_total, wn_X8, wc_X8_total, wp_X8_total⟩
theorem ml_X8_131 : gz_KV RX8 131 yX8_part cX8_part 7 (some .double) 5 := ⟨gz_mS 826 (by decide +kernel) rfl, wi_X8_part, we_X8_part, wn_X8, wc_X8_part, wp_X8_part⟩
theorem ml_X8_135 : gz_KV RX8 135 yX8_wins cX8_wins 6 (some .boolean) 5 := ⟨gz_mS 834 (by decide +kernel) rfl, wi_X8_wins, we_X8_wins, wn_X8, wc_X8_wins, wp_X8_wins⟩
theorem kc_X8_139 : Cond.constantLong RX8 139 (-1) ∈ gz_XS := gz_mS 821 (by decide +kernel) rfl
theorem ml_X8_141 : gz_KV RX8 141 yX8_worthOf cX8_worthOf 16 (some .double) 4 := ⟨gz_mS 822 (by decide +kernel) rfl, wi_X8_worthOf, we_X8_worthOf, wn_X8, wc_X8_worthOf, wp_X8_worthOf⟩
theorem ml_X8_145 : gz_KS RX8 145 yJxe99ae_doubleToLongBits_ccdee cJxe99ae_doubleToLongBits_ccdee 2 (some .long) 1 := ⟨gz_mS 838 (by decide +kernel) rfl, wt_Jxe99ae_doubleToLongBits_ccdee, wn_Jxe99ae, wc_Jxe99ae_doubleToLongBits_ccdee, wp_Jxe99ae_doubleToLongBits_ccdee⟩
theorem ml_X8_151 : gz_KV RX8 151 yX8_winsBy cX8_winsBy 6 (some .boolean) 5 := ⟨gz_mS 872 (by decide +kernel) rfl, wi_X8_winsBy, we_X8_winsBy, wn_X8, wc_X8_winsBy, wp_X8_winsBy⟩
theorem ml_X8_154 : gz_KV RX8 154 yX8_offer cX8_offer 4 none 2 := ⟨gz_mS 864 (by decide +kernel) rfl, wi_X8_offer, we_X8_offer, wn_X8, wc_X8_offer, wp_X8_offer⟩
theorem ml_X8_158 : gz_KV RX8 158 yX8_leads cX8_leads 10 (some .boolean) 4 := ⟨gz_mS 876 (by decide +kernel) rfl, wi_X8_leads, we_X8_leads, wn_X8, wc_X8_leads, wp_X8_leads⟩
theorem ml_X8_162 : gz_KV RX8 162 yX8_call cX8_call 10 none 4 := ⟨gz_mS 868 (by decide +kernel) rfl, wi_X8_call, we_X8_call, wn_X8, wc_X8_call, wp_X8_call⟩
theorem ml_X8_166 : gz_KV RX8 166 yX8_enter cX8_enter 3 none 2 := ⟨gz_mS 856 (by decide +kernel) rfl, wi_X8_enter, we_X8_enter, wn_X8, wc_X8_enter, wp_X8_enter⟩
theorem ml_X8_170 : gz_KV RX8 170 yX8_begin cX8_begin 3 none 1 := ⟨gz_mS 852 (by decide +kernel) rfl, wi_X8_begin, we_X8_begin, wn_X8, wc_X8_begin, wp_X8_begin⟩
theorem ml_X8_173 : gz_KV RX8 173 yX8_answerOf cX8_answerOf 11 (some .double) 4 := ⟨gz_mS 860 (by decide +kernel) rfl, wi_X8_answerOf, we_X8_answerOf, wn_X8, wc_X8_answerOf, wp_X8_answerOf⟩
theorem fl_X8_176 : gz_lk RX8 176 TX8 24 := gz_mS 684 (by decide +kernel) rfl
theorem kc_X8_179 : Cond.constant RX8 179 (1103515245) ∈ gz_XS := gz_mS 896 (by decide +kernel) rfl
theorem kc_X8_180 : Cond.constant RX8 180 (2147483647) ∈ gz_XS := gz_mS 897 (by decide +kernel) rfl
theorem kc_X8_181 : Cond.constant RX8 181 (65536) ∈ gz_XS := gz_mS 898 (by decide +kernel) rfl
theorem ml_X8_182 : gz_KV RX8 182 yX8_drawn cX8_drawn 7 (some .int) 1 := ⟨gz_mS 892 (by decide +kernel) rfl, wi_X8_drawn, we_X8_drawn, wn_X8, wc_X8_drawn, wp_X8_drawn⟩
theorem fl_X8_185 : gz_lk RX8 185 TX8 10 := gz_mS 670 (by decide +kernel) rfl
theorem fl_X8_188 : gz_lk RX8 188 TX8 11 := gz_mS 671 (by decide +kernel) rfl
theorem fl_X8_191 : gz_lk RX8 191 TX8 12 := gz_mS 672 (by decide +kernel) rfl
theorem fl_X8_194 : gz_lk RX8 194 TX8 13 := gz_mS 673 (by decide +kernel) rfl
theorem fl_X8_197 : gz_lk RX8 197 TX8 14 := gz_mS 674 (by decide +kernel) rfl
theorem fl_X8_200 : gz_lk RX8 200 TX8 15 := gz_mS 675 (by decide +kernel) rfl
theorem kc_X8_203 : Cond.constantLong RX8 203 (191) ∈ gz_XS := gz_mS 919 (by decide +kernel) rfl
theorem kc_X8_205 : Cond.constantLong RX8 205 (31) ∈ gz_XS := gz_mS 920 (by decide +kernel) rfl
theorem ml_X8_207 : gz_KV RX8 207 yX8_count cX8_count 2 (some .int) 1 := ⟨gz_mS 921 (by decide +kernel) rfl, wi_X8_count, we_X8_count, wn_X8, wc_X8_count, wp_X8_count⟩
theorem ml_X8_210 : gz_KV RX8 210 yX8_about cX8_about 2 (some .int) 1 := ⟨gz_mS 922 (by decide +kernel) rfl, wi_X8_about, we_X8_about, wn_X8, wc_X8_about, wp_X8_about⟩
theorem ml_Jxe99ae_122 : gz_KS RJxe99ae 122 yJxe99ae_isNaN_b9ae7 cJxe99ae_isNaN_b9ae7 2 (some .boolean) 1 := ⟨gz_mS 841 (by decide +kernel) rfl, wt_Jxe99ae_isNaN_b9ae7, wn_Jxe99ae, wc_Jxe99ae_isNaN_b9ae7, wp_Jxe99ae_isNaN_b9ae7⟩
theorem kc_Jxe99ae_137 : Cond.constantLong RJxe99ae 137 (9221120237041090560) ∈ gz_XS := gz_mS 847 (by decide +kernel) rfl
def lx_lay : List gz_C := [.inl (7, [some 1, some 11, some 13, some 19, some 23]), .inl (6, [some 3, some 7, some 2, none, none, none]), .inr (128, 0),
  .inl (1, [some 4, some 5, some 6, none, none, none]), .inr (16, 0), .inr (4, 0), .inr (3, 0), .inl (1, [some 8, some 9, some 10, none, none, none]), .inr (16, 0), .inr (4, 0), .inr (3, 0),
  .inl (4, [some 12]), .inr (3888, 0), .inl (3, [some 1, some 14, some 16, some 18]), .inl (5, [some 15]), .inr (324, 1), .inl (5, [some 17]), .inr (324, 1), .inr (16, 1),
  .inl (0, [some 1, some 20, some 22, none, none, none]), .inl (5, [some 21]), .inr (324, 1), .inr (40, 1), .inl (2, [some 1, some 24, none, none, none, none, none, none, none, none, none, none]), .inr (4, 0)]
def lm_lay : List gz_C := [.inl (8, [none, none, none, none, some 1, some 2, some 3, some 4, none, some 5, none, none, none, none, none, none, some 6, some 7, some 8, some 9, some 10, some 11, some 12, some 13, none, some 14]),
  .inr (32, 0), .inr (2, 0), .inr (8, 0), .inr (3888, 0), .inr (2, 0), .inr (3, 0), .inr (18, 1), .inr (40, 1), .inr (10, 0), .inr (10, 0), .inr (10, 1), .inr (10, 0), .inr (10, 2), .inr (4, 0)]
end
section
/-! the small static methods of the class -/
/-- x lies from lo to hi -/
def gz_in (x lo hi : Int32) : Bool := !decide (x < lo) && !decide (hi < x)
/-- may a move follow a last bid -/
def gz_mf (last move : Int32) : Bool := cond (decide (move = -1)) (!decide (last = -1)) (decide (last < move))
theorem gz_le2n {x y : Int32} (h : ¬ x ≤ y) : y < x := Int32.not_le.mp h
theorem gz_ltf {x y : Int32} (h : x ≤ y) : ¬ y < x := Int32.not_lt.mpr h
section CT
variable {l : Launch} {D : va_G} {ad : Nat → Nat} {cy : Nat → ClassId}
set_option maxHeartbeats 4000000 in
set_option maxRecDepth 100000 in
theorem ct_X7_within (hJ : gz_inj ad lx_lay) (I : Nat → Nat → Int32) (G : Nat → Nat → UInt64) (x lo hi : Int32) : gz_Ct l D ad cy lx_lay yX7_within cX7_within 3 (some .boolean) 0 [.int x, .int lo, .int hi] (I, G) (fun v M1 => v = some (.int (gz_b (gz_in x lo hi))) ∧ M1 = (I, G)) := by
  refine gz_met (by decide +kernel) hJ (Nat.le_of_ble_eq_true rfl) ?_
  intro p e s m args below meth c hC
  refine gz_iload_n hC dX7_within_0 rfl ?_
  refine gz_iload_n hC dX7_within_1 rfl ?_
  refine gz_icmp_lt hC 14 dX7_within_2 (by decide) (fun c2 => ?_) (fun c2 => ?_)
  · refine gz_iconst hC (0) dX7_within_14 (by decide) ?_
    exact gz_zret rfl hC dX7_within_15 ⟨gz_v (by simp [gz_in, gz_b, *]), rfl⟩
  · refine gz_iload_n hC dX7_within_5 rfl ?_
    refine gz_iload_n hC dX7_within_6 rfl ?_
    refine gz_icmp_gt hC 14 dX7_within_7 (by decide) (fun c7 => ?_) (fun c7 => ?_)
    · refine gz_iconst hC (0) dX7_within_14 (by decide) ?_
      exact gz_zret rfl hC dX7_within_15 ⟨gz_v (by simp [gz_in, gz_b, *]), rfl⟩
    · refine gz_iconst hC (1) dX7_within_10 (by decide) ?_
      refine gz_goto hC 15 dX7_within_11 (by decide) ?_
      exact gz_zret rfl hC dX7_within_15 ⟨gz_v (by simp [gz_in, gz_b, *]), rfl⟩
set_option maxHeartbeats 4000000 in
set_option maxRecDepth 100000 in
theorem ct_X7_isPlayer (hJ : gz_inj ad lx_lay) (I : Nat → Nat → Int32) (G : Nat → Nat → UInt64) (x : Int32) : gz_Ct l D ad cy lx_lay yX7_isPlayer cX7_isPlayer 1 (some .boolean) 1 [.int x] (I, G) (fun v M1 => v = some (.int (gz_b (gz_in x 0 1))) ∧ M1 = (I, G)) := by
  refine gz_met (by decide +kernel) hJ (Nat.le_of_ble_eq_true rfl) ?_
  intro p e s m args below meth c hC
  refine gz_iload_n hC dX7_isPlayer_0 rfl ?_
  refine gz_iconst hC (0) dX7_isPlayer_1 (by decide) ?_
  refine gz_iconst hC (1) dX7_isPlayer_2 (by decide) ?_
  refine gz_callS3 hC dX7_isPlayer_3 ml_X7_50 (by decide) (by decide) (Nat.le_of_ble_eq_true rfl) (ct_X7_within hJ _ _ _ _ _) (fun v3 M3 hp3 => ?_)
  obtain ⟨rfl, rfl⟩ := hp3
  exact gz_zret (gz_bn _) hC dX7_isPlayer_6 ⟨rfl, rfl⟩
set_option maxHeartbeats 4000000 in
set_option maxRecDepth 100000 in
theorem ct_X7_isPlan (hJ : gz_inj ad lx_lay) (I : Nat → Nat → Int32) (G : Nat → Nat → UInt64) (x : Int32) : gz_Ct l D ad cy lx_lay yX7_isPlan cX7_isPlan 1 (some .boolean) 1 [.int x] (I, G) (fun v M1 => v = some (.int (gz_b (gz_in x 0 3))) ∧ M1 = (I, G)) := by
  refine gz_met (by decide +kernel) hJ (Nat.le_of_ble_eq_true rfl) ?_
  intro p e s m args below meth c hC
  refine gz_iload_n hC dX7_isPlan_0 rfl ?_
  refine gz_iconst hC (0) dX7_isPlan_1 (by decide) ?_
  refine gz_iconst hC (3) dX7_isPlan_2 (by decide) ?_
  refine gz_callS3 hC dX7_isPlan_3 ml_X7_50 (by decide) (by decide) (Nat.le_of_ble_eq_true rfl) (ct_X7_within hJ _ _ _ _ _) (fun v3 M3 hp3 => ?_)
  obtain ⟨rfl, rfl⟩ := hp3
  exact gz_zret (gz_bn _) hC dX7_isPlan_6 ⟨rfl, rfl⟩
set_option maxHeartbeats 4000000 in
set_option maxRecDepth 100000 in
theorem ct_X7_mayFollow (hJ : gz_inj ad lx_lay) (I : Nat → Nat → Int32) (G : Nat → Nat → UInt64) (last move : Int32) : gz_Ct l D ad cy lx_lay yX7_mayFollow cX7_mayFollow 2 (some .boolean) 0 [.int last, .int move] (I, G) (fun v M1 => v = some (.int (gz_b (gz_mf last move))) ∧ M1 = (I, G)) := by
  refine gz_met (by decide +kernel) hJ (Nat.le_of_ble_eq_true rfl) ?_
  intro p e s m args below meth c hC
  refine gz_iload_n hC dX7_mayFollow_0 rfl ?_
  refine gz_iconst hC (-1) dX7_mayFollow_1 (by decide) ?_
  refine gz_icmp_ne hC 18 dX7_mayFollow_2 (by decide) (fun c2 => ?_) (fun c2 => ?_)
  · refine gz_iload_n hC dX7_mayFollow_18 rfl ?_
    refine gz_iload_n hC dX7_mayFollow_19 rfl ?_
    refine gz_icmp_le hC 27 dX7_mayFollow_20 (by decide) (fun c20 => ?_) (fun c20 => ?_)
    · refine gz_iconst hC (0) dX7_mayFollow_27 (by decide) ?_
      exact gz_zret rfl hC dX7_mayFollow_28 ⟨gz_v (by first | (simp [gz_mf, gz_b, *]; done) | (simp [gz_mf, gz_b, c2, gz_ltf c20]; done) | (simp [gz_mf, gz_b, c2, gz_le2n c20]; done)), rfl⟩
    · refine gz_iconst hC (1) dX7_mayFollow_23 (by decide) ?_
      refine gz_goto hC 28 dX7_mayFollow_24 (by decide) ?_
      exact gz_zret rfl hC dX7_mayFollow_28 ⟨gz_v (by first | (simp [gz_mf, gz_b, *]; done) | (simp [gz_mf, gz_b, c2, gz_ltf c20]; done) | (simp [gz_mf, gz_b, c2, gz_le2n c20]; done)), rfl⟩
  · refine gz_iload_n hC dX7_mayFollow_5 rfl ?_
    refine gz_iconst hC (-1) dX7_mayFollow_6 (by decide) ?_
    refine gz_icmp_eq hC 14 dX7_mayFollow_7 (by decide) (fun c7 => ?_) (fun c7 => ?_)
    · refine gz_iconst hC (0) dX7_mayFollow_14 (by decide) ?_
      refine gz_goto hC 28 dX7_mayFollow_15 (by decide) ?_
      exact gz_zret rfl hC dX7_mayFollow_28 ⟨gz_v (by first | (simp [gz_mf, gz_b, *]; done) | (simp [gz_mf, gz_b, c2, gz_ltf c20]; done) | (simp [gz_mf, gz_b, c2, gz_le2n c20]; done)), rfl⟩
    · refine gz_iconst hC (1) dX7_mayFollow_10 (by decide) ?_
      refine gz_goto hC 28 dX7_mayFollow_11 (by decide) ?_
      exact gz_zret rfl hC dX7_mayFollow_28 ⟨gz_v (by first | (simp [gz_mf, gz_b, *]; done) | (simp [gz_mf, gz_b, c2, gz_ltf c20]; done) | (simp [gz_mf, gz_b, c2, gz_le2n c20]; done)), rfl⟩
set_option maxHeartbeats 4000000 in
set_option maxRecDepth 100000 in
theorem ct_X7_at (hJ : gz_inj ad lx_lay) (I : Nat → Nat → Int32) (G : Nat → Nat → UInt64) (k n j : Nat) (hk : lx_lay[k]? = some (.inr (n, 0))) (hn : n < 2147483648) (i : Int32) (hi : i = nI j) (hj : j < n) : gz_Ct l D ad cy lx_lay yX7_at cX7_at 2 (some .int) 0 [.ref (ad k), .int i] (I, G) (fun v M1 => v = some (.int (I k j)) ∧ M1 = (I, G)) := by
  refine gz_met (by decide +kernel) hJ (Nat.le_of_ble_eq_true rfl) ?_
  intro p e s m args below meth c hC
  refine gz_iload_n hC dX7_at_0 rfl ?_
  refine gz_if_lt hC 16 dX7_at_1 (by decide) (fun c1 => ?_) (fun c1 => ?_)
  · exact absurd c1 (by rw [hi]; exact nI_pos (by omega))
  · refine gz_iload_n hC dX7_at_4 rfl ?_
    refine gz_aload_n hC dX7_at_5 rfl ?_
    refine gz_alenI hC dX7_at_6 hk rfl ?_
    refine gz_icmp_ge hC 16 dX7_at_7 (by decide) (fun c7 => ?_) (fun c7 => ?_)
    · exact absurd c7 (by rw [hi]; exact nI_ge hj (by omega))
    · refine gz_aload_n hC dX7_at_10 rfl ?_
      refine gz_iload_n hC dX7_at_11 rfl ?_
      refine gz_iald hC dX7_at_12 hk (by rw [hi]; exact vp_in_nI hj (by omega)) ?_
      refine gz_goto hC 17 dX7_at_13 (by decide) ?_
      exact gz_iret hC dX7_at_17 ⟨by rw [hi, nI_clamp (by omega)], rfl⟩
  -- places not laid: [16]
set_option maxHeartbeats 4000000 in
set_option maxRecDepth 100000 in
theorem ct_X7_put (hJ : gz_inj ad lx_lay) (I : Nat → Nat → Int32) (G : Nat → Nat → UInt64) (k n j : Nat) (hk : lx_lay[k]? = some (.inr (n, 0))) (hn : n < 2147483648) (i x : Int32) (hi : i = nI j) (hj : j < n) : gz_Ct l D ad cy lx_lay yX7_put cX7_put 3 none 0 [.ref (ad k), .int i, .int x] (I, G) (fun v M1 => v = none ∧ M1 = (gz_up I k j x, G)) := by
  refine gz_met (by decide +kernel) hJ (Nat.le_of_ble_eq_true rfl) ?_
  intro p e s m args below meth c hC
  refine gz_iload_n hC dX7_put_0 rfl ?_
  refine gz_if_lt hC 14 dX7_put_1 (by decide) (fun c1 => ?_) (fun c1 => ?_)
  · exact absurd c1 (by rw [hi]; exact nI_pos (by omega))
  · refine gz_iload_n hC dX7_put_4 rfl ?_
    refine gz_aload_n hC dX7_put_5 rfl ?_
    refine gz_alenI hC dX7_put_6 hk rfl ?_
    refine gz_icmp_ge hC 14 dX7_put_7 (by decide) (fun c7 => ?_) (fun c7 => ?_)
    · exact absurd c7 (by rw [hi]; exact nI_ge hj (by omega))
    · refine gz_aload_n hC dX7_put_10 rfl ?_
      refine gz_iload_n hC dX7_put_11 rfl ?_
      refine gz_iload_n hC dX7_put_12 rfl ?_
      refine gz_iast hC dX7_put_13 hk (by rw [hi]; exact vp_in_nI hj (by omega)) ?_
      exact gz_vret hC dX7_put_14 ⟨rfl, by rw [hi, nI_clamp (by omega)]⟩
set_option maxHeartbeats 4000000 in
set_option maxRecDepth 100000 in
theorem ct_X7_realAt (hJ : gz_inj ad lx_lay) (I : Nat → Nat → Int32) (G : Nat → Nat → UInt64) (k n j : Nat) (hk : lx_lay[k]? = some (.inr (n, 1))) (hn : n < 2147483648) (i : Int32) (hi : i = nI j) (hj : j < n) : gz_Ct l D ad cy lx_lay yX7_realAt cX7_realAt 2 (some .double) 0 [.ref (ad k), .int i] (I, G) (fun v M1 => v = some (.double (G k j)) ∧ M1 = (I, G)) := by
  refine gz_met (by decide +kernel) hJ (Nat.le_of_ble_eq_true rfl) ?_
  intro p e s m args below meth c hC
  refine gz_iload_n hC dX7_realAt_0 rfl ?_
  refine gz_if_lt hC 16 dX7_realAt_1 (by decide) (fun c1 => ?_) (fun c1 => ?_)
  · exact absurd c1 (by rw [hi]; exact nI_pos (by omega))
  · refine gz_iload_n hC dX7_realAt_4 rfl ?_
    refine gz_aload_n hC dX7_realAt_5 rfl ?_
    refine gz_alenD hC dX7_realAt_6 hk ?_
    refine gz_icmp_ge hC 16 dX7_realAt_7 (by decide) (fun c7 => ?_) (fun c7 => ?_)
    · exact absurd c7 (by rw [hi]; exact nI_ge hj (by omega))
    · refine gz_aload_n hC dX7_realAt_10 rfl ?_
      refine gz_iload_n hC dX7_realAt_11 rfl ?_
      refine gz_dald hC dX7_realAt_12 hk (by rw [hi]; exact vp_in_nI hj (by omega)) ?_
      refine gz_goto hC 17 dX7_realAt_13 (by decide) ?_
      exact gz_dret hC dX7_realAt_17 ⟨by rw [hi, nI_clamp (by omega)], rfl⟩
  -- places not laid: [16]
set_option maxHeartbeats 4000000 in
set_option maxRecDepth 100000 in
theorem ct_X7_putReal (hJ : gz_inj ad lx_lay) (I : Nat → Nat → Int32) (G : Nat → Nat → UInt64) (k n j : Nat) (hk : lx_lay[k]? = some (.inr (n, 1))) (hn : n < 2147483648) (i : Int32) (x : UInt64) (hi : i = nI j) (hj : j < n) : gz_Ct l D ad cy lx_lay yX7_putReal cX7_putReal 4 none 0 [.ref (ad k), .int i, .double x] (I, G) (fun v M1 => v = none ∧ M1 = (I, gz_up G k j x)) := by
  refine gz_met (by decide +kernel) hJ (Nat.le_of_ble_eq_true rfl) ?_
  intro p e s m args below meth c hC
  refine gz_iload_n hC dX7_putReal_0 rfl ?_
  refine gz_if_lt hC 14 dX7_putReal_1 (by decide) (fun c1 => ?_) (fun c1 => ?_)
  · exact absurd c1 (by rw [hi]; exact nI_pos (by omega))
  · refine gz_iload_n hC dX7_putReal_4 rfl ?_
    refine gz_aload_n hC dX7_putReal_5 rfl ?_
    refine gz_alenD hC dX7_putReal_6 hk ?_
    refine gz_icmp_ge hC 14 dX7_putReal_7 (by decide) (fun c7 => ?_) (fun c7 => ?_)
    · exact absurd c7 (by rw [hi]; exact nI_ge hj (by omega))
    · refine gz_aload_n hC dX7_putReal_10 rfl ?_
      refine gz_iload_n hC dX7_putReal_11 rfl ?_
      refine gz_dload_n hC dX7_putReal_12 rfl ?_
      refine gz_dast hC dX7_putReal_13 hk (by rw [hi]; exact vp_in_nI hj (by omega)) ?_
      exact gz_vret hC dX7_putReal_14 ⟨rfl, by rw [hi, nI_clamp (by omega)]⟩
set_option maxHeartbeats 4000000 in
set_option maxRecDepth 100000 in
theorem ct_X7_cut (hJ : gz_inj ad lx_lay) (I : Nat → Nat → Int32) (G : Nat → Nat → UInt64) (a b : Int32) (x y : Nat) (ha : a = nI x) (hb : b = nI y) (hax : x < 2 ^ 31) (h0 : 0 < y) (hby : y < 2 ^ 31) : gz_Ct l D ad cy lx_lay yX7_cut cX7_cut 2 (some .int) 0 [.int a, .int b] (I, G) (fun v M1 => v = some (.int (nI (x / y))) ∧ M1 = (I, G)) := by
  refine gz_met (by decide +kernel) hJ (Nat.le_of_ble_eq_true rfl) ?_
  intro p e s m args below meth c hC
  refine gz_iload_n hC dX7_cut_0 rfl ?_
  refine gz_if_le hC 10 dX7_cut_1 (by decide) (fun c1 => ?_) (fun c1 => ?_)
  · exact absurd c1 (by rw [hb]; exact nI_nle h0 hby)
  · refine gz_iload_n hC dX7_cut_4 rfl ?_
    refine gz_iload_n hC dX7_cut_5 rfl ?_
    refine gz_idiv hC dX7_cut_6 (by rw [hb]; exact nI_ne0 h0 hby) ?_
    refine gz_goto hC 11 dX7_cut_7 (by decide) ?_
    exact gz_iret hC dX7_cut_11 ⟨gz_v (by rw [ha, hb]; exact pk_div hax h0 hby), rfl⟩
  -- places not laid: [10]
set_option maxHeartbeats 4000000 in
set_option maxRecDepth 100000 in
theorem ct_X7_leftOver (hJ : gz_inj ad lx_lay) (I : Nat → Nat → Int32) (G : Nat → Nat → UInt64) (a b : Int32) (x y : Nat) (ha : a = nI x) (hb : b = nI y) (hax : x < 2 ^ 31) (h0 : 0 < y) (hby : y < 2 ^ 31) : gz_Ct l D ad cy lx_lay yX7_leftOver cX7_leftOver 2 (some .int) 0 [.int a, .int b] (I, G) (fun v M1 => v = some (.int (nI (x % y))) ∧ M1 = (I, G)) := by
  refine gz_met (by decide +kernel) hJ (Nat.le_of_ble_eq_true rfl) ?_
  intro p e s m args below meth c hC
  refine gz_iload_n hC dX7_leftOver_0 rfl ?_
  refine gz_if_le hC 10 dX7_leftOver_1 (by decide) (fun c1 => ?_) (fun c1 => ?_)
  · exact absurd c1 (by rw [hb]; exact nI_nle h0 hby)
  · refine gz_iload_n hC dX7_leftOver_4 rfl ?_
    refine gz_iload_n hC dX7_leftOver_5 rfl ?_
    refine gz_irem hC dX7_leftOver_6 (by rw [hb]; exact nI_ne0 h0 hby) ?_
    refine gz_goto hC 11 dX7_leftOver_7 (by decide) ?_
    exact gz_iret hC dX7_leftOver_11 ⟨gz_v (by rw [ha, hb]; exact pk_rem hax h0 hby), rfl⟩
  -- places not laid: [10]
end CT
end
section
/-! numbers, fills, and the small methods of a cup -/
theorem gz_n0 : (0 : Int32) = nI 0 := rfl
theorem gz_n1 : (1 : Int32) = nI 1 := rfl
theorem gz_n2 : (2 : Int32) = nI 2 := rfl
theorem gz_n3 : (3 : Int32) = nI 3 := rfl
theorem gz_n4 : (4 : Int32) = nI 4 := rfl
theorem gz_n6 : (6 : Int32) = nI 6 := rfl
theorem gz_n8 : (8 : Int32) = nI 8 := rfl
theorem gz_n9 : (9 : Int32) = nI 9 := rfl
theorem gz_n10 : (10 : Int32) = nI 10 := rfl
theorem gz_n16 : (16 : Int32) = nI 16 := rfl
theorem gz_n100 : (100 : Int32) = nI 100 := rfl
/-- a stretch of a row filled with one value -/
def gz_fi {α : Type} (f : Nat → Nat → α) (k n : Nat) (v : α) : Nat → Nat → α := fun o => if o = k then (fun j => if j < n then v else f o j) else f o
theorem gz_fi0 {α : Type} (f : Nat → Nat → α) (k : Nat) (v : α) : gz_fi f k 0 v = f := by
  funext o j
  unfold gz_fi
  by_cases h : o = k
  · rw [if_pos h]; exact if_neg (Nat.not_lt_zero j)
  · rw [if_neg h]
theorem gz_fi1 {α : Type} (f : Nat → Nat → α) (k i : Nat) (v : α) : gz_up (gz_fi f k i v) k i v = gz_fi f k (i + 1) v := by
  funext o j
  unfold gz_up gz_fi
  by_cases h : o = k
  · subst h
    simp only [if_true]
    by_cases h2 : j = i
    · subst h2
      simp
    · simp only [h2, if_false]
      by_cases h3 : j < i
      · simp [h3, Nat.lt_succ_of_lt h3]
      · have h4 : ¬ j < i + 1 := by omega
        simp [h3, h4]
  · simp only [h, if_false]
theorem gz_fi_ne {α : Type} {f : Nat → Nat → α} {k n o : Nat} {v : α} (h : o ≠ k) : gz_fi f k n v o = f o := if_neg h
theorem gz_fi_in {α : Type} {f : Nat → Nat → α} {k n j : Nat} {v : α} (h : j < n) : gz_fi f k n v k j = v := by unfold gz_fi; rw [if_pos rfl]; exact if_pos h
section CT
variable {l : Launch} {D : va_G} {ad : Nat → Nat} {cy : Nat → ClassId}
set_option maxHeartbeats 4000000 in
set_option maxRecDepth 100000 in
theorem ct_J7_fill_53178 (hJ : gz_inj ad lx_lay) (I : Nat → Nat → Int32) (G : Nat → Nat → UInt64) (k n0 : Nat) (hk : lx_lay[k]? = some (.inr (n0, 0))) (hn : n0 < 2147483648) (x : Int32) : gz_Ct l D ad cy lx_lay yJ7_fill_53178 cJ7_fill_53178 4 none 0 [.ref (ad k), .int x] (I, G) (fun v M1 => v = none ∧ M1 = (gz_fi I k n0 x, G)) := by
  refine gz_met (by decide +kernel) hJ (Nat.le_of_ble_eq_true rfl) ?_
  intro p e s m args below meth c hC
  refine gz_iconst hC (0) dJ7_fill_53178_0 (by decide) ?_
  refine gz_istore_n hC dJ7_fill_53178_1 (by decide) ?_
  refine gz_aload_n hC dJ7_fill_53178_2 rfl ?_
  refine gz_alenI hC dJ7_fill_53178_3 hk rfl ?_
  refine gz_istore_n hC dJ7_fill_53178_4 (by decide) ?_
  have lp : ∀ (n i : Nat) (y z : Int32) (hi : i + n = n0) (hy : y = nI i) (hz : z = nI n0), gz_W p l e (gz_rm 0) s m args below meth c D ad cy lx_lay 4 (MQ below (gz_Q D ad cy lx_lay (fun v M1 => v = none ∧ M1 = (gz_fi I k n0 x, G))) args s 0 0 (gz_A ad lx_lay)) (gz_fi I k i x, G) 5 [(0, .ref (ad k)), (1, .int x), (2, .int y), (3, .int z)] [] := by
    intro n
    induction n with
    | zero =>
      intro i y z hi hy hz
      refine gz_iload_n hC dJ7_fill_53178_5 rfl ?_
      refine gz_iload_n hC dJ7_fill_53178_6 rfl ?_
      refine gz_icmp_ge hC 20 dJ7_fill_53178_7 (by decide) (fun c7 => ?_) (fun c7 => ?_)
      · exact gz_vret hC dJ7_fill_53178_20 ⟨rfl, by rw [show n0 = i by omega]⟩
      · exact absurd (by rw [hy, hz]; exact nI_le (by omega) (by omega)) c7
    | succ n ih =>
      intro i y z hi hy hz
      refine gz_iload_n hC dJ7_fill_53178_5 rfl ?_
      refine gz_iload_n hC dJ7_fill_53178_6 rfl ?_
      refine gz_icmp_ge hC 20 dJ7_fill_53178_7 (by decide) (fun c7 => ?_) (fun c7 => ?_)
      · exact absurd c7 (by rw [hy, hz]; exact nI_ge (by omega) (by omega))
      · refine gz_aload_n hC dJ7_fill_53178_10 rfl ?_
        refine gz_iload_n hC dJ7_fill_53178_11 rfl ?_
        refine gz_iload_n hC dJ7_fill_53178_12 rfl ?_
        refine gz_iast hC dJ7_fill_53178_13 hk (by rw [hy]; exact vp_in_nI (by omega) (by omega)) ?_
        refine gz_iinc hC (1) dJ7_fill_53178_14 rfl (by decide) (by decide) ?_
        refine gz_goto hC 5 dJ7_fill_53178_17 (by decide) ?_
        refine gz_lw [(0, .ref (ad k)), (1, .int x), (2, .int (y + 1)), (3, .int z)] ⟨rfl, rfl, rfl, rfl, trivial⟩ ?_
        rw [hy, nI_clamp (by omega), gz_fi1]
        exact ih (i + 1) (nI i + 1) z (by omega) (nI_1 i) hz
  refine gz_lw [(0, .ref (ad k)), (1, .int x), (2, .int 0), (3, .int (nI n0))] ⟨rfl, rfl, rfl, rfl, trivial⟩ ?_
  have h0 := lp n0 0 0 (nI n0) (by omega) rfl rfl
  rw [gz_fi0] at h0
  exact h0
  -- places not laid: [6, 7, 10, 11, 12, 13, 14, 17, 20]
set_option maxHeartbeats 4000000 in
set_option maxRecDepth 100000 in
theorem ct_J7_fill_7f8df (hJ : gz_inj ad lx_lay) (I : Nat → Nat → Int32) (G : Nat → Nat → UInt64) (k n0 : Nat) (hk : lx_lay[k]? = some (.inr (n0, 1))) (hn : n0 < 2147483648) (x : UInt64) : gz_Ct l D ad cy lx_lay yJ7_fill_7f8df cJ7_fill_7f8df 5 none 0 [.ref (ad k), .double x] (I, G) (fun v M1 => v = none ∧ M1 = (I, gz_fi G k n0 x)) := by
  refine gz_met (by decide +kernel) hJ (Nat.le_of_ble_eq_true rfl) ?_
  intro p e s m args below meth c hC
  refine gz_iconst hC (0) dJ7_fill_7f8df_0 (by decide) ?_
  refine gz_istore_n hC dJ7_fill_7f8df_1 (by decide) ?_
  refine gz_aload_n hC dJ7_fill_7f8df_2 rfl ?_
  refine gz_alenD hC dJ7_fill_7f8df_3 hk ?_
  refine gz_istore hC dJ7_fill_7f8df_4 (by decide) ?_
  have lp : ∀ (n i : Nat) (y z : Int32) (hi : i + n = n0) (hy : y = nI i) (hz : z = nI n0), gz_W p l e (gz_rm 0) s m args below meth c D ad cy lx_lay 5 (MQ below (gz_Q D ad cy lx_lay (fun v M1 => v = none ∧ M1 = (I, gz_fi G k n0 x))) args s 0 0 (gz_A ad lx_lay)) (I, gz_fi G k i x) 6 [(0, .ref (ad k)), (1, .double x), (3, .int y), (4, .int z)] [] := by
    intro n
    induction n with
    | zero =>
      intro i y z hi hy hz
      refine gz_iload_n hC dJ7_fill_7f8df_6 rfl ?_
      refine gz_iload hC dJ7_fill_7f8df_7 rfl ?_
      refine gz_icmp_ge hC 22 dJ7_fill_7f8df_9 (by decide) (fun c9 => ?_) (fun c9 => ?_)
      · exact gz_vret hC dJ7_fill_7f8df_22 ⟨rfl, by rw [show n0 = i by omega]⟩
      · exact absurd (by rw [hy, hz]; exact nI_le (by omega) (by omega)) c9
    | succ n ih =>
      intro i y z hi hy hz
      refine gz_iload_n hC dJ7_fill_7f8df_6 rfl ?_
      refine gz_iload hC dJ7_fill_7f8df_7 rfl ?_
      refine gz_icmp_ge hC 22 dJ7_fill_7f8df_9 (by decide) (fun c9 => ?_) (fun c9 => ?_)
      · exact absurd c9 (by rw [hy, hz]; exact nI_ge (by omega) (by omega))
      · refine gz_aload_n hC dJ7_fill_7f8df_12 rfl ?_
        refine gz_iload_n hC dJ7_fill_7f8df_13 rfl ?_
        refine gz_dload_n hC dJ7_fill_7f8df_14 rfl ?_
        refine gz_dast hC dJ7_fill_7f8df_15 hk (by rw [hy]; exact vp_in_nI (by omega) (by omega)) ?_
        refine gz_iinc hC (1) dJ7_fill_7f8df_16 rfl (by decide) (by decide) ?_
        refine gz_goto hC 6 dJ7_fill_7f8df_19 (by decide) ?_
        refine gz_lw [(0, .ref (ad k)), (1, .double x), (3, .int (y + 1)), (4, .int z)] ⟨rfl, rfl, rfl, rfl, trivial⟩ ?_
        rw [hy, nI_clamp (by omega), gz_fi1]
        exact ih (i + 1) (nI i + 1) z (by omega) (nI_1 i) hz
  refine gz_lw [(0, .ref (ad k)), (1, .double x), (3, .int 0), (4, .int (nI n0))] ⟨rfl, rfl, rfl, rfl, trivial⟩ ?_
  have h0 := lp n0 0 0 (nI n0) (by omega) rfl rfl
  rw [gz_fi0] at h0
  exact h0
  -- places not laid: [7, 9, 12, 13, 14, 15, 16, 19, 22]
end CT
end
section
/-! a cup: its hands, by rows that do not fall -/
def lx_cup (k : Nat) : Prop := lx_lay[k]? = some (.inl (1, [some (k + 1), some (k + 2), some (k + 3), none, none, none])) ∧ lx_lay[k + 1]? = some (.inr (16, 0)) ∧ lx_lay[k + 2]? = some (.inr (4, 0)) ∧ lx_lay[k + 3]? = some (.inr (3, 0))
theorem lx_cup3 : lx_cup 3 := ⟨rfl, rfl, rfl, rfl⟩
theorem lx_cup7 : lx_cup 7 := ⟨rfl, rfl, rfl, rfl⟩
def tb_fac : Nat → Nat
  | 0 => 1
  | n + 1 => (n + 1) * tb_fac n
/-- how many of the first n places of r have f -/
def tb_cnt (r : Nat → Nat) : Nat → Nat → Nat
  | 0, _ => 0
  | n + 1, f => tb_cnt r n f + (if f = r n then 1 else 0)
/-- d! by the factorials of the counts, one face behind the other -/
def tb_ord (r : Nat → Nat) (d : Nat) : Nat → Nat
  | 0 => tb_fac d
  | f + 1 => tb_ord r d f / tb_fac (tb_cnt r d f)
theorem tb_cnt_le (r : Nat → Nat) (f : Nat) : ∀ n, tb_cnt r n f ≤ n
  | 0 => Nat.le_refl 0
  | n + 1 => by
    have h := tb_cnt_le r f n
    unfold tb_cnt
    split <;> omega
theorem tb_fac_pos : ∀ n, 0 < tb_fac n
  | 0 => Nat.one_pos
  | n + 1 => Nat.mul_pos (Nat.succ_pos n) (tb_fac_pos n)
theorem tb_fac3 {n : Nat} (h : n ≤ 3) : tb_fac n ≤ 6 := by
  match n, h with
  | 0, _ => decide
  | 1, _ => decide
  | 2, _ => decide
  | 3, _ => decide
  | n + 4, h => omega
theorem tb_ord_le (r : Nat → Nat) (d : Nat) : ∀ f, tb_ord r d f ≤ tb_fac d
  | 0 => Nat.le_refl _
  | f + 1 => Nat.le_trans (Nat.div_le_self _ _) (tb_ord_le r d f)
/-- a block of a row overwritten -/
def gz_bk {α : Type} (f : Nat → Nat → α) (k a n : Nat) (g : Nat → α) : Nat → Nat → α := fun o => if o = k then (fun j => if a ≤ j ∧ j < a + n then g (j - a) else f o j) else f o
theorem gz_bk_ne {α : Type} {f : Nat → Nat → α} {k a n o : Nat} {g : Nat → α} (h : o ≠ k) : gz_bk f k a n g o = f o := if_neg h
theorem gz_bk_at {α : Type} {f : Nat → Nat → α} {k a n o j : Nat} {g : Nat → α} (h : o ≠ k) : gz_bk f k a n g o j = f o j := by rw [gz_bk_ne h]
theorem gz_up_at {α : Type} {f : Nat → Nat → α} {k j o q : Nat} {v : α} (h : o ≠ k) : gz_up f k j v o q = f o q := by rw [gz_up_ne h]
theorem gz_fi_at {α : Type} {f : Nat → Nat → α} {k n o j : Nat} {v : α} (h : o ≠ k) : gz_fi f k n v o j = f o j := by rw [gz_fi_ne h]
theorem gz_bk_in {α : Type} {f : Nat → Nat → α} {k a n j : Nat} {g : Nat → α} (h : j < n) : gz_bk f k a n g k (a + j) = g j := by
  unfold gz_bk
  rw [if_pos rfl]
  show (if a ≤ a + j ∧ a + j < a + n then g (a + j - a) else f k (a + j)) = g j
  rw [if_pos ⟨by omega, by omega⟩, show a + j - a = j by omega]
theorem gz_bk_out {α : Type} {f : Nat → Nat → α} {k a n j : Nat} {g : Nat → α} (h : j < a ∨ a + n ≤ j) : gz_bk f k a n g k j = f k j := by
  unfold gz_bk
  rw [if_pos rfl]
  exact if_neg (by omega)
theorem gz_bk_0 {α : Type} {f : Nat → Nat → α} {k a n : Nat} {g : Nat → α} (h : ∀ j, j < n → f k (a + j) = g j) : gz_bk f k a n g = f := by
  funext o j
  by_cases ho : o = k
  · subst ho
    by_cases hj : a ≤ j ∧ j < a + n
    · rw [show j = a + (j - a) by omega, gz_bk_in (by omega), h _ (by omega)]
    · exact gz_bk_out (by omega)
  · rw [gz_bk_ne ho]
theorem gz_bk_up {α : Type} {f : Nat → Nat → α} {k a n j : Nat} {g g2 : Nat → α} {v : α} (hj : j < n) (hv : v = g2 j) (hg : ∀ i, i < n → i ≠ j → g2 i = g i) : gz_up (gz_bk f k a n g) k (a + j) v = gz_bk f k a n g2 := by
  funext o q
  by_cases ho : o = k
  · subst ho
    by_cases hq : q = a + j
    · subst hq
      rw [gz_up_self, gz_bk_in hj, hv]
    · rw [gz_up_oth hq]
      by_cases h2 : a ≤ q ∧ q < a + n
      · rw [show q = a + (q - a) by omega, gz_bk_in (by omega), gz_bk_in (by omega), hg _ (by omega) (by omega)]
      · rw [gz_bk_out (by omega), gz_bk_out (by omega)]
  · rw [gz_up_ne ho, gz_bk_ne ho, gz_bk_ne ho]
theorem gz_i1 {x : Int32} {j : Nat} (h : x = nI j) : x + 1 = nI (j + 1) := by rw [h]; exact nI_1 j
theorem gz_ile {x y : Int32} {a b : Nat} (hx : x = nI a) (hy : y = nI b) (h : a ≤ b) (hb : b < 2 ^ 31) : x ≤ y := by rw [hx, hy]; exact nI_le h hb
theorem gz_ilt {x y : Int32} {a b : Nat} (hx : x = nI a) (hy : y = nI b) (h : a < b) (hb : b < 2 ^ 31) : x < y := by rw [hx, hy]; exact nI_lt h hb
theorem gz_inle {x y : Int32} {a b : Nat} (hx : x = nI a) (hy : y = nI b) (h : b < a) (hb : a < 2 ^ 31) : ¬ x ≤ y := by rw [hx, hy]; exact nI_ge h hb
theorem gz_inlt {x y : Int32} {a b : Nat} (hx : x = nI a) (hy : y = nI b) (h : b ≤ a) (hb : a < 2 ^ 31) : ¬ x < y := by rw [hx, hy]; exact nI_nlt h hb
section CT
variable {l : Launch} {D : va_G} {ad : Nat → Nat} {cy : Nat → ClassId}
set_option maxHeartbeats 4000000 in
set_option maxRecDepth 100000 in
theorem ct_X1_factorial (hJ : gz_inj ad lx_lay) (I : Nat → Nat → Int32) (G : Nat → Nat → UInt64) (m0 : Nat) (hm : m0 ≤ 3) (x0 : Int32) (hx : x0 = nI m0) : gz_Ct l D ad cy lx_lay yX1_factorial cX1_factorial 3 (some .int) 0 [.int x0] (I, G) (fun v M1 => v = some (.int (nI (tb_fac m0))) ∧ M1 = (I, G)) := by
  refine gz_met (by decide +kernel) hJ (Nat.le_of_ble_eq_true rfl) ?_
  intro p e s m args below meth c hC
  refine gz_iconst hC (1) dX1_factorial_0 (by decide) ?_
  refine gz_istore_n hC dX1_factorial_1 (by decide) ?_
  refine gz_iconst hC (2) dX1_factorial_2 (by decide) ?_
  refine gz_istore_n hC dX1_factorial_3 (by decide) ?_
  have lp : ∀ (n i : Nat) (y z : Int32) (hi : i + n = m0 - 1) (hy : y = nI (tb_fac (i + 1))) (hz : z = nI (i + 2)), gz_W p l e (gz_rm 0) s m args below meth c D ad cy lx_lay 3 (MQ below (gz_Q D ad cy lx_lay (fun v M1 => v = some (.int (nI (tb_fac m0))) ∧ M1 = (I, G))) args s 0 0 (gz_A ad lx_lay)) (I, G) 4 [(0, .int x0), (1, .int y), (2, .int z)] [] := by
    intro n
    induction n with
    | zero =>
      intro i y z hi hy hz
      refine gz_iload_n hC dX1_factorial_4 rfl ?_
      refine gz_iload_n hC dX1_factorial_5 rfl ?_
      refine gz_icmp_gt hC 19 dX1_factorial_6 (by decide) (fun c6 => ?_) (fun c6 => ?_)
      · refine gz_iload_n hC dX1_factorial_19 rfl ?_
        exact gz_iret hC dX1_factorial_20 ⟨gz_v (by rw [hy]; congr 1; match m0, hi with | 0, hi => (cases (show i = 0 by omega); rfl) | k + 1, hi => (cases (show i = k by omega); rfl)), rfl⟩
      · exact absurd (gz_ilt hx hz (by omega) (by omega)) c6
    | succ n ih =>
      intro i y z hi hy hz
      refine gz_iload_n hC dX1_factorial_4 rfl ?_
      refine gz_iload_n hC dX1_factorial_5 rfl ?_
      refine gz_icmp_gt hC 19 dX1_factorial_6 (by decide) (fun c6 => ?_) (fun c6 => ?_)
      · exact absurd c6 (gz_inlt hx hz (by omega) (by omega))
      · refine gz_iload_n hC dX1_factorial_9 rfl ?_
        refine gz_iload_n hC dX1_factorial_10 rfl ?_
        refine gz_imul hC dX1_factorial_11 ?_
        refine gz_istore_n hC dX1_factorial_12 (by decide) ?_
        refine gz_iinc hC (1) dX1_factorial_13 rfl (by decide) (by decide) ?_
        refine gz_goto hC 4 dX1_factorial_16 (by decide) ?_
        refine gz_lw [(0, .int x0), (1, .int (y * z)), (2, .int (z + 1))] ⟨rfl, rfl, rfl, trivial⟩ ?_
        exact ih (i + 1) _ _ (by omega) (by rw [hy, hz, pk_mul]; congr 1; show _ = (i + 1 + 1) * tb_fac (i + 1); exact Nat.mul_comm _ _) (gz_i1 hz)
  exact gz_lw [(0, .int x0), (1, .int 1), (2, .int 2)] ⟨rfl, rfl, rfl, trivial⟩ (lp (m0 - 1) 0 1 2 (by omega) rfl rfl)
  -- places not laid: [5, 6, 9, 10, 11, 12, 13, 16, 19, 20]
set_option maxHeartbeats 4000000 in
set_option maxRecDepth 100000 in
theorem ct_X1_spotOf (hJ : gz_inj ad lx_lay) (I : Nat → Nat → Int32) (G : Nat → Nat → UInt64) (h f : Nat) (x y : Int32) (hx : x = nI h) (hy : y = nI f) : gz_Ct l D ad cy lx_lay yX1_spotOf cX1_spotOf 2 (some .int) 0 [.int x, .int y] (I, G) (fun v M1 => v = some (.int (nI (h * 4 + f))) ∧ M1 = (I, G)) := by
  refine gz_met (by decide +kernel) hJ (Nat.le_of_ble_eq_true rfl) ?_
  intro p e s m args below meth c hC
  refine gz_iload_n hC dX1_spotOf_0 rfl ?_
  refine gz_iconst hC (4) dX1_spotOf_1 (by decide) ?_
  refine gz_imul hC dX1_spotOf_2 ?_
  refine gz_iload_n hC dX1_spotOf_3 rfl ?_
  refine gz_iadd hC dX1_spotOf_4 ?_
  exact gz_iret hC dX1_spotOf_5 ⟨gz_v (by rw [hx, hy, gz_n4, pk_mul, nI_add]), rfl⟩
set_option maxHeartbeats 4000000 in
set_option maxRecDepth 100000 in
theorem ct_X1_pipsOf (hJ : gz_inj ad lx_lay) (I : Nat → Nat → Int32) (G : Nat → Nat → UInt64) (k : Nat) (hK : lx_cup k) (h f : Nat) (x y : Int32) (hx : x = nI h) (hy : y = nI f) (hh : h < 4) (hf : f < 4) : gz_Ct l D ad cy lx_lay yX1_pipsOf cX1_pipsOf 3 (some .int) 1 [.ref (ad k), .int x, .int y] (I, G) (fun v M1 => v = some (.int (I (k + 1) (h * 4 + f))) ∧ M1 = (I, G)) := by
  refine gz_met (by decide +kernel) hJ (Nat.le_of_ble_eq_true rfl) ?_
  intro p e s m args below meth c hC
  refine gz_aload_n hC dX1_pipsOf_0 rfl ?_
  refine gz_getR (j := 0) hC dX1_pipsOf_1 cf_X1 fl_X1_9 hK.1 rfl (by decide) ?_
  refine gz_iload_n hC dX1_pipsOf_4 rfl ?_
  refine gz_iload_n hC dX1_pipsOf_5 rfl ?_
  refine gz_callS2 hC dX1_pipsOf_6 ml_X1_49 (by decide) (by decide) (Nat.le_of_ble_eq_true rfl) (ct_X1_spotOf hJ _ _ h f _ _ hx hy) (fun v6 M6 hp6 => ?_)
  obtain ⟨rfl, rfl⟩ := hp6
  refine gz_callSN2 hC dX1_pipsOf_9 ml_X1_45 (by decide) (by decide) (Nat.le_of_ble_eq_true rfl) (ct_X7_at hJ _ _ _ 16 (h * 4 + f) hK.2.1 (by omega) _ rfl (by omega)) (fun v9 M9 hp9 => ?_)
  obtain ⟨rfl, rfl⟩ := hp9
  exact gz_iret hC dX1_pipsOf_12 ⟨rfl, rfl⟩
set_option maxHeartbeats 4000000 in
set_option maxRecDepth 100000 in
theorem ct_X1_waysOf (hJ : gz_inj ad lx_lay) (I : Nat → Nat → Int32) (G : Nat → Nat → UInt64) (k : Nat) (hK : lx_cup k) (h : Nat) (x : Int32) (hx : x = nI h) (hh : h < 4) : gz_Ct l D ad cy lx_lay yX1_waysOf cX1_waysOf 2 (some .int) 1 [.ref (ad k), .int x] (I, G) (fun v M1 => v = some (.int (I (k + 2) h)) ∧ M1 = (I, G)) := by
  refine gz_met (by decide +kernel) hJ (Nat.le_of_ble_eq_true rfl) ?_
  intro p e s m args below meth c hC
  refine gz_aload_n hC dX1_waysOf_0 rfl ?_
  refine gz_getR (j := 1) hC dX1_waysOf_1 cf_X1 fl_X1_15 hK.1 rfl (by decide) ?_
  refine gz_iload_n hC dX1_waysOf_4 rfl ?_
  refine gz_callSN2 hC dX1_waysOf_5 ml_X1_45 (by decide) (by decide) (Nat.le_of_ble_eq_true rfl) (ct_X7_at hJ _ _ _ 4 h hK.2.2.1 (by omega) _ hx hh) (fun v5 M5 hp5 => ?_)
  obtain ⟨rfl, rfl⟩ := hp5
  exact gz_iret hC dX1_waysOf_8 ⟨rfl, rfl⟩
set_option maxHeartbeats 4000000 in
set_option maxRecDepth 100000 in
theorem ct_X1_allWays (hJ : gz_inj ad lx_lay) (I : Nat → Nat → Int32) (G : Nat → Nat → UInt64) (k : Nat) (hK : lx_cup k) (d F : Nat) (hd : I k 3 = nI d) (hF : I k 4 = nI F) (hd3 : d < 2 ^ 31) : gz_Ct l D ad cy lx_lay yX1_allWays cX1_allWays 3 (some .int) 0 [.ref (ad k)] (I, G) (fun v M1 => v = some (.int (nI (F ^ d))) ∧ M1 = (I, G)) := by
  refine gz_met (by decide +kernel) hJ (Nat.le_of_ble_eq_true rfl) ?_
  intro p e s m args below meth c hC
  refine gz_iconst hC (1) dX1_allWays_0 (by decide) ?_
  refine gz_istore_n hC dX1_allWays_1 (by decide) ?_
  refine gz_iconst hC (0) dX1_allWays_2 (by decide) ?_
  refine gz_istore_n hC dX1_allWays_3 (by decide) ?_
  have lp : ∀ (n i : Nat) (y z : Int32) (hi : i + n = d) (hy : y = nI (F ^ i)) (hz : z = nI i), gz_W p l e (gz_rm 0) s m args below meth c D ad cy lx_lay 3 (MQ below (gz_Q D ad cy lx_lay (fun v M1 => v = some (.int (nI (F ^ d))) ∧ M1 = (I, G))) args s 0 0 (gz_A ad lx_lay)) (I, G) 4 [(0, .ref (ad k)), (1, .int y), (2, .int z)] [] := by
    intro n
    induction n with
    | zero =>
      intro i y z hi hy hz
      refine gz_iload_n hC dX1_allWays_4 rfl ?_
      refine gz_aload_n hC dX1_allWays_5 rfl ?_
      refine gz_getI (j := 3) hC dX1_allWays_6 cf_X1 fl_X1_21 hK.1 rfl (by decide) ?_
      refine gz_icmp_ge hC 25 dX1_allWays_9 (by decide) (fun c9 => ?_) (fun c9 => ?_)
      · refine gz_iload_n hC dX1_allWays_25 rfl ?_
        exact gz_iret hC dX1_allWays_26 ⟨gz_v (by rw [hy, show i = d by omega]), rfl⟩
      · exact absurd (gz_ile hd hz (by omega) (by omega)) c9
    | succ n ih =>
      intro i y z hi hy hz
      refine gz_iload_n hC dX1_allWays_4 rfl ?_
      refine gz_aload_n hC dX1_allWays_5 rfl ?_
      refine gz_getI (j := 3) hC dX1_allWays_6 cf_X1 fl_X1_21 hK.1 rfl (by decide) ?_
      refine gz_icmp_ge hC 25 dX1_allWays_9 (by decide) (fun c9 => ?_) (fun c9 => ?_)
      · exact absurd c9 (gz_inle hd hz (by omega) (by omega))
      · refine gz_iload_n hC dX1_allWays_12 rfl ?_
        refine gz_aload_n hC dX1_allWays_13 rfl ?_
        refine gz_getI (j := 4) hC dX1_allWays_14 cf_X1 fl_X1_25 hK.1 rfl (by decide) ?_
        refine gz_imul hC dX1_allWays_17 ?_
        refine gz_istore_n hC dX1_allWays_18 (by decide) ?_
        refine gz_iinc hC (1) dX1_allWays_19 rfl (by decide) (by decide) ?_
        refine gz_goto hC 4 dX1_allWays_22 (by decide) ?_
        refine gz_lw [(0, .ref (ad k)), (1, .int (y * I k 4)), (2, .int (z + 1))] ⟨rfl, rfl, rfl, trivial⟩ ?_
        exact ih (i + 1) _ _ (by omega) (by rw [hy, hF, pk_mul, Nat.pow_succ]) (gz_i1 hz)
  exact gz_lw [(0, .ref (ad k)), (1, .int 1), (2, .int 0)] ⟨rfl, rfl, rfl, trivial⟩ (lp d 0 1 0 (by omega) rfl rfl)
  -- places not laid: [5, 6, 9, 12, 13, 14, 17, 18, 19, 22, 25, 26]
set_option maxHeartbeats 4000000 in
set_option maxRecDepth 100000 in
theorem ct_X1_writeHand (hJ : gz_inj ad lx_lay) (I : Nat → Nat → Int32) (G : Nat → Nat → UInt64) (k : Nat) (hK : lx_cup k) (h d F : Nat) (r : Nat → Nat) (x1 : Int32) (hx1 : x1 = nI h) (hh : h < 4) (hd : I k 3 = nI d) (hF : I k 4 = nI F) (hd3 : d ≤ 3) (hF4 : F ≤ 4) (hr : ∀ i, i < d → I (k + 3) i = nI (r i)) (hrF : ∀ i, i < d → r i < F) (h0 : ∀ f, f < 4 → I (k + 1) (h * 4 + f) = nI 0) : gz_Ct l D ad cy lx_lay yX1_writeHand cX1_writeHand 4 none 2 [.ref (ad k), .int x1] (I, G) (fun v M1 => v = none ∧ M1 = (gz_up (gz_bk I (k + 1) (h * 4) 4 (fun f => nI (tb_cnt r d f))) (k + 2) h (nI (tb_ord r d F)), G)) := by
  refine gz_met (by decide +kernel) hJ (Nat.le_of_ble_eq_true rfl) ?_
  intro p e s m args below meth c hC
  refine gz_iconst hC (0) dX1_writeHand_0 (by decide) ?_
  refine gz_istore_n hC dX1_writeHand_1 (by decide) ?_
  have lp : ∀ (n i : Nat) (x2 : Int32) (hi : i + n = d) (hx2 : x2 = nI i), gz_W p l e (gz_rm 2) s m args below meth c D ad cy lx_lay 4 (MQ below (gz_Q D ad cy lx_lay (fun v M1 => v = none ∧ M1 = (gz_up (gz_bk I (k + 1) (h * 4) 4 (fun f => nI (tb_cnt r d f))) (k + 2) h (nI (tb_ord r d F)), G))) args s 0 0 (gz_A ad lx_lay)) (gz_bk I (k + 1) (h * 4) 4 (fun f => nI (tb_cnt r i f)), G) 2 [(0, .ref (ad k)), (1, .int x1), (2, .int x2)] [] := by
    intro n
    induction n with
    | zero =>
      intro i x2 hi hx2
      refine gz_iload_n hC dX1_writeHand_2 rfl ?_
      refine gz_aload_n hC dX1_writeHand_3 rfl ?_
      refine gz_getI (j := 3) hC dX1_writeHand_4 cf_X1 fl_X1_21 hK.1 rfl (by decide) ?_
      refine gz_icmp_ge hC 47 dX1_writeHand_7 (by decide) (fun c7 => ?_) (fun c7 => ?_)
      · refine gz_aload_n hC dX1_writeHand_47 rfl ?_
        refine gz_getI (j := 3) hC dX1_writeHand_48 cf_X1 fl_X1_21 hK.1 rfl (by decide) ?_
        refine gz_callS1 hC dX1_writeHand_51 ml_X1_57 (by decide) (by decide) (Nat.le_of_ble_eq_true rfl) (ct_X1_factorial hJ _ _ d hd3 _ (by exact (gz_bk_at (by omega)).trans hd)) (fun v51 M51 hp51 => ?_)
        obtain ⟨rfl, rfl⟩ := hp51
        refine gz_istore_n hC dX1_writeHand_54 (by decide) ?_
        refine gz_iconst hC (0) dX1_writeHand_55 (by decide) ?_
        refine gz_istore_n hC dX1_writeHand_56 (by decide) ?_
        rw [show i = d by omega]
        have hFb : (gz_bk I (k + 1) (h * 4) 4 (fun f => nI (tb_cnt r d f))) k 4 = nI F := by rw [gz_bk_ne (by omega)]; exact hF
        have lp2 : ∀ (n i : Nat) (x2 x3 : Int32) (hi : i + n = F) (hx2 : x2 = nI (tb_ord r d i)) (hx3 : x3 = nI i), gz_W p l e (gz_rm 2) s m args below meth c D ad cy lx_lay 4 (MQ below (gz_Q D ad cy lx_lay (fun v M1 => v = none ∧ M1 = (gz_up (gz_bk I (k + 1) (h * 4) 4 (fun f => nI (tb_cnt r d f))) (k + 2) h (nI (tb_ord r d F)), G))) args s 0 0 (gz_A ad lx_lay)) (gz_bk I (k + 1) (h * 4) 4 (fun f => nI (tb_cnt r d f)), G) 57 [(0, .ref (ad k)), (1, .int x1), (2, .int x2), (3, .int x3)] [] := by
          intro n
          induction n with
          | zero =>
            intro i x2 x3 hi hx2 hx3
            refine gz_iload_n hC dX1_writeHand_57 rfl ?_
            refine gz_aload_n hC dX1_writeHand_58 rfl ?_
            refine gz_getI (j := 4) hC dX1_writeHand_59 cf_X1 fl_X1_25 hK.1 rfl (by decide) ?_
            refine gz_icmp_ge hC 85 dX1_writeHand_62 (by decide) (fun c62 => ?_) (fun c62 => ?_)
            · refine gz_aload_n hC dX1_writeHand_85 rfl ?_
              refine gz_getR (j := 1) hC dX1_writeHand_86 cf_X1 fl_X1_15 hK.1 rfl (by decide) ?_
              refine gz_iload_n hC dX1_writeHand_89 rfl ?_
              refine gz_iload_n hC dX1_writeHand_90 rfl ?_
              refine gz_callSN3 hC dX1_writeHand_91 ml_X1_53 (by decide) (by decide) (Nat.le_of_ble_eq_true rfl) (ct_X7_put hJ _ _ _ 4 h hK.2.2.1 (by omega) _ _ hx1 hh) (fun v91 M91 hp91 => ?_)
              obtain ⟨rfl, rfl⟩ := hp91
              exact gz_vret hC dX1_writeHand_94 ⟨rfl, by rw [hx2, show i = F by omega]⟩
            · exact absurd (gz_ile hFb hx3 (by omega) (by omega)) c62
          | succ n ih =>
            intro i x2 x3 hi hx2 hx3
            refine gz_iload_n hC dX1_writeHand_57 rfl ?_
            refine gz_aload_n hC dX1_writeHand_58 rfl ?_
            refine gz_getI (j := 4) hC dX1_writeHand_59 cf_X1 fl_X1_25 hK.1 rfl (by decide) ?_
            refine gz_icmp_ge hC 85 dX1_writeHand_62 (by decide) (fun c62 => ?_) (fun c62 => ?_)
            · exact absurd c62 (gz_inle hFb hx3 (by omega) (by omega))
            · refine gz_iload_n hC dX1_writeHand_65 rfl ?_
              refine gz_aload_n hC dX1_writeHand_66 rfl ?_
              refine gz_iload_n hC dX1_writeHand_67 rfl ?_
              refine gz_iload_n hC dX1_writeHand_68 rfl ?_
              refine gz_callV2 hC dX1_writeHand_69 ml_X1_61 hK.1 rfl (by decide) (by decide) (Nat.le_of_ble_eq_true rfl) (ct_X1_pipsOf hJ _ _ k hK h i _ _ hx1 hx3 hh (by omega)) (fun v69 M69 hp69 => ?_)
              obtain ⟨rfl, rfl⟩ := hp69
              refine gz_callS1 hC dX1_writeHand_72 ml_X1_57 (by decide) (by decide) (Nat.le_of_ble_eq_true rfl) (ct_X1_factorial hJ _ _ (tb_cnt r d i) (Nat.le_trans (tb_cnt_le r i d) hd3) _ (by exact gz_bk_in (by omega))) (fun v72 M72 hp72 => ?_)
              obtain ⟨rfl, rfl⟩ := hp72
              refine gz_callSN2 hC dX1_writeHand_75 ml_X1_64 (by decide) (by decide) (Nat.le_of_ble_eq_true rfl) (ct_X7_cut hJ _ _ _ _ (tb_ord r d i) (tb_fac (tb_cnt r d i)) hx2 rfl (by have := tb_ord_le r d i; have := tb_fac3 hd3; omega) (tb_fac_pos _) (by have := tb_fac3 (Nat.le_trans (tb_cnt_le r i d) hd3); omega)) (fun v75 M75 hp75 => ?_)
              obtain ⟨rfl, rfl⟩ := hp75
              refine gz_istore_n hC dX1_writeHand_78 (by decide) ?_
              refine gz_iinc hC (1) dX1_writeHand_79 rfl (by decide) (by decide) ?_
              refine gz_goto hC 57 dX1_writeHand_82 (by decide) ?_
              refine gz_lw [(0, .ref (ad k)), (1, .int x1), (2, .int (nI (tb_ord r d i / tb_fac (tb_cnt r d i)))), (3, .int (x3 + 1))] ⟨rfl, rfl, rfl, rfl, trivial⟩ ?_
              exact ih (i + 1) _ _ (by omega) rfl (gz_i1 hx3)
        exact gz_lw [(0, .ref (ad k)), (1, .int x1), (2, .int (nI (tb_fac d))), (3, .int 0)] ⟨rfl, rfl, rfl, rfl, trivial⟩ (lp2 F 0 _ _ (by omega) rfl rfl)
      · exact absurd (gz_ile (by exact (gz_bk_at (by omega)).trans hd) hx2 (by omega) (by omega)) c7
    | succ n ih =>
      intro i x2 hi hx2
      refine gz_iload_n hC dX1_writeHand_2 rfl ?_
      refine gz_aload_n hC dX1_writeHand_3 rfl ?_
      refine gz_getI (j := 3) hC dX1_writeHand_4 cf_X1 fl_X1_21 hK.1 rfl (by decide) ?_
      refine gz_icmp_ge hC 47 dX1_writeHand_7 (by decide) (fun c7 => ?_) (fun c7 => ?_)
      · exact absurd c7 (gz_inle (by exact (gz_bk_at (by omega)).trans hd) hx2 (by omega) (by omega))
      · refine gz_iload_n hC dX1_writeHand_10 rfl ?_
        refine gz_aload_n hC dX1_writeHand_11 rfl ?_
        refine gz_getR (j := 2) hC dX1_writeHand_12 cf_X1 fl_X1_18 hK.1 rfl (by decide) ?_
        refine gz_iload_n hC dX1_writeHand_15 rfl ?_
        refine gz_callSN2 hC dX1_writeHand_16 ml_X1_45 (by decide) (by decide) (Nat.le_of_ble_eq_true rfl) (ct_X7_at hJ _ _ _ 3 i hK.2.2.2 (by omega) _ hx2 (by omega)) (fun v16 M16 hp16 => ?_)
        obtain ⟨rfl, rfl⟩ := hp16
        refine gz_callS2 hC dX1_writeHand_19 ml_X1_49 (by decide) (by decide) (Nat.le_of_ble_eq_true rfl) (ct_X1_spotOf hJ _ _ h (r i) _ _ hx1 (by exact (gz_bk_at (by omega)).trans (hr i (by omega)))) (fun v19 M19 hp19 => ?_)
        obtain ⟨rfl, rfl⟩ := hp19
        refine gz_istore_n hC dX1_writeHand_22 (by decide) ?_
        refine gz_aload_n hC dX1_writeHand_23 rfl ?_
        refine gz_getR (j := 0) hC dX1_writeHand_24 cf_X1 fl_X1_9 hK.1 rfl (by decide) ?_
        refine gz_iload_n hC dX1_writeHand_27 rfl ?_
        refine gz_aload_n hC dX1_writeHand_28 rfl ?_
        refine gz_getR (j := 0) hC dX1_writeHand_29 cf_X1 fl_X1_9 hK.1 rfl (by decide) ?_
        refine gz_iload_n hC dX1_writeHand_32 rfl ?_
        have hri := hrF i (by omega)
        refine gz_callSN2 hC dX1_writeHand_33 ml_X1_45 (by decide) (by decide) (Nat.le_of_ble_eq_true rfl) (ct_X7_at hJ _ _ _ 16 (h * 4 + r i) hK.2.1 (by omega) _ rfl (by omega)) (fun v33 M33 hp33 => ?_)
        obtain ⟨rfl, rfl⟩ := hp33
        refine gz_iconst hC (1) dX1_writeHand_36 (by decide) ?_
        refine gz_iadd hC dX1_writeHand_37 ?_
        refine gz_callSN3 hC dX1_writeHand_38 ml_X1_53 (by decide) (by decide) (Nat.le_of_ble_eq_true rfl) (ct_X7_put hJ _ _ _ 16 (h * 4 + r i) hK.2.1 (by omega) _ _ rfl (by omega)) (fun v38 M38 hp38 => ?_)
        obtain ⟨rfl, rfl⟩ := hp38
        rw [gz_bk_in (show r i < 4 by omega)]
        rw [gz_bk_up (g2 := fun f => nI (tb_cnt r (i + 1) f)) (by omega) (by show _ = nI (tb_cnt r i (r i) + (if r i = r i then 1 else 0)); rw [if_pos rfl]; exact nI_1 _) (fun q _ hq => by show nI (tb_cnt r i q + (if q = r i then 1 else 0)) = _; rw [if_neg hq]; rfl)]
        refine gz_iinc hC (1) dX1_writeHand_41 rfl (by decide) (by decide) ?_
        refine gz_goto hC 2 dX1_writeHand_44 (by decide) ?_
        refine gz_lw [(0, .ref (ad k)), (1, .int x1), (2, .int (x2 + 1))] ⟨rfl, rfl, rfl, trivial⟩ ?_
        exact ih (i + 1) _ (by omega) (gz_i1 hx2)
  have h9 := lp d 0 0 (by omega) rfl
  rw [gz_bk_0 (g := fun f => nI (tb_cnt r 0 f)) (fun j hj => h0 j hj)] at h9
  exact gz_lw [(0, .ref (ad k)), (1, .int x1), (2, .int 0)] ⟨rfl, rfl, rfl, trivial⟩ h9
  -- places not laid: [3, 4, 7, 10, 11, 12, 15, 16, 19, 22, 23, 24, 27, 28, 29, 32, 33, 36, 37, 38, 41, 44, 47, 48, 51, 54, 55, 56, 57, 58, 59, 62, 65, 66, 67, 68, 69, 72, 75, 78, 79, 82, 85, 86, 89, 90, 91, 94]
end CT
end
section
/-! a cup: the next row, and all its hands -/
theorem gz_bk_sn {α : Type} {f : Nat → Nat → α} {k a n : Nat} {g : Nat → α} {v : α} (hv : v = g n) : gz_up (gz_bk f k a n g) k (a + n) v = gz_bk f k a (n + 1) g := by
  funext o q
  by_cases ho : o = k
  · subst ho
    by_cases hq : q = a + n
    · subst hq
      rw [gz_up_self, gz_bk_in (Nat.lt_succ_self n), hv]
    · rw [gz_up_oth hq]
      by_cases h2 : a ≤ q ∧ q < a + n
      · rw [show q = a + (q - a) by omega, gz_bk_in (by omega), gz_bk_in (by omega)]
      · rw [gz_bk_out (by omega), gz_bk_out (by omega)]
  · rw [gz_up_ne ho, gz_bk_ne ho, gz_bk_ne ho]
/-- the last place below j that may rise -/
def tb_sta (F : Nat) (r : Nat → Nat) : Nat → Option Nat
  | 0 => none
  | i + 1 => if r i + 1 < F then some i else tb_sta F r i
def tb_nx (d F : Nat) (r : Nat → Nat) : Nat → Nat := match tb_sta F r d with
  | none => r
  | some i => fun j => if i ≤ j then r i + 1 else r j
def tb_rw (d F : Nat) : Nat → Nat → Nat
  | 0 => fun _ => 0
  | h + 1 => tb_nx d F (tb_rw d F h)
def tb_n (d F : Nat) : Nat := if d = 1 then F else d + 1
def tb_ok (d F : Nat) : Prop := (d = 1 ∧ F = 2) ∨ (d = 1 ∧ F = 3) ∨ (d = 1 ∧ F = 4) ∨ (d = 2 ∧ F = 2) ∨ (d = 3 ∧ F = 2)
theorem tb_sta_lt {F : Nat} {r : Nat → Nat} : ∀ {j i : Nat}, tb_sta F r j = some i → i < j
  | 0, _, h => by cases h
  | j + 1, i, h => by
    unfold tb_sta at h
    split at h
    · cases h; exact Nat.lt_succ_self _
    · exact Nat.lt_succ_of_lt (tb_sta_lt h)
theorem tb_facts {d F : Nat} (h : tb_ok d F) : (∀ q, q < tb_n d F → ∀ i, i < d → tb_rw d F q i < F) ∧ (∀ q, q + 1 < tb_n d F → (tb_sta F (tb_rw d F q) d).isSome = true) ∧ (∀ q, q + 1 = tb_n d F → tb_sta F (tb_rw d F q) d = none) ∧ 1 ≤ tb_n d F ∧ tb_n d F ≤ 4 ∧ d ≤ 3 ∧ F ≤ 4 ∧ 1 ≤ d ∧ 2 ≤ F := by
  have key : ∀ d F : Nat, (∀ q, q < 4 → q < tb_n d F → ∀ i, i < d → tb_rw d F q i < F) → (∀ q, q < 4 → q + 1 < tb_n d F → (tb_sta F (tb_rw d F q) d).isSome = true) → (∀ q, q < 4 → q + 1 = tb_n d F → tb_sta F (tb_rw d F q) d = none) → (1 ≤ tb_n d F ∧ tb_n d F ≤ 4 ∧ d ≤ 3 ∧ F ≤ 4 ∧ 1 ≤ d ∧ 2 ≤ F) → (∀ q, q < tb_n d F → ∀ i, i < d → tb_rw d F q i < F) ∧ (∀ q, q + 1 < tb_n d F → (tb_sta F (tb_rw d F q) d).isSome = true) ∧ (∀ q, q + 1 = tb_n d F → tb_sta F (tb_rw d F q) d = none) ∧ 1 ≤ tb_n d F ∧ tb_n d F ≤ 4 ∧ d ≤ 3 ∧ F ≤ 4 ∧ 1 ≤ d ∧ 2 ≤ F := fun d F h1 h2 h3 h4 => ⟨fun q hq => h1 q (by omega) hq, fun q hq => h2 q (by omega) hq, fun q hq => h3 q (by omega) hq, h4⟩
  rcases h with ⟨rfl, rfl⟩ | ⟨rfl, rfl⟩ | ⟨rfl, rfl⟩ | ⟨rfl, rfl⟩ | ⟨rfl, rfl⟩ <;> exact key _ _ (by decide) (by decide) (by decide) (by decide)
def xi_cup (k d F : Nat) (I : Nat → Nat → Int32) : Prop := I k 3 = nI d ∧ I k 4 = nI F ∧ I k 5 = nI (tb_n d F) ∧ (∀ h, h < tb_n d F → ∀ f, f < 4 → I (k + 1) (h * 4 + f) = nI (tb_cnt (tb_rw d F h) d f)) ∧ ∀ h, h < tb_n d F → I (k + 2) h = nI (tb_ord (tb_rw d F h) d F)
section CT
variable {l : Launch} {D : va_G} {ad : Nat → Nat} {cy : Nat → ClassId}
set_option maxHeartbeats 4000000 in
set_option maxRecDepth 100000 in
theorem ct_X1_stepRow (hJ : gz_inj ad lx_lay) (I : Nat → Nat → Int32) (G : Nat → Nat → UInt64) (k : Nat) (hK : lx_cup k) (d F : Nat) (r : Nat → Nat) (hd : I k 3 = nI d) (hF : I k 4 = nI F) (hd3 : d ≤ 3) (hF4 : F ≤ 4) (hr : ∀ i, i < d → I (k + 3) i = nI (r i)) (hrF : ∀ i, i < d → r i < F) : gz_Ct l D ad cy lx_lay yX1_stepRow cX1_stepRow 4 (some .boolean) 1 [.ref (ad k)] (I, G) (fun v M1 => (tb_sta F r d = none ∧ v = some (.int 0) ∧ M1 = (I, G)) ∨ (∃ i, tb_sta F r d = some i ∧ v = some (.int 1) ∧ M1 = (gz_bk I (k + 3) i (d - i) (fun _ => nI (r i + 1)), G))) := by
  refine gz_met (by decide +kernel) hJ (Nat.le_of_ble_eq_true rfl) ?_
  intro p e s m args below meth c hC
  refine gz_aload_n hC dX1_stepRow_0 rfl ?_
  refine gz_getI (j := 3) hC dX1_stepRow_1 cf_X1 fl_X1_21 hK.1 rfl (by decide) ?_
  refine gz_iconst hC (1) dX1_stepRow_4 (by decide) ?_
  refine gz_isub hC dX1_stepRow_5 ?_
  refine gz_istore_n hC dX1_stepRow_6 (by decide) ?_
  have lp : ∀ (j : Nat) (hj : j ≤ d) (x1 : Int32) (h1 : j = 0 → x1 = -1) (h2 : ∀ i, j = i + 1 → x1 = nI i) (hst : tb_sta F r d = tb_sta F r j), gz_W p l e (gz_rm 1) s m args below meth c D ad cy lx_lay 4 (MQ below (gz_Q D ad cy lx_lay (fun v M1 => (tb_sta F r d = none ∧ v = some (.int 0) ∧ M1 = (I, G)) ∨ (∃ i, tb_sta F r d = some i ∧ v = some (.int 1) ∧ M1 = (gz_bk I (k + 3) i (d - i) (fun _ => nI (r i + 1)), G)))) args s 0 0 (gz_A ad lx_lay)) (I, G) 7 [(0, .ref (ad k)), (1, .int x1)] [] := by
    intro j
    induction j with
    | zero =>
      intro hj x1 h1 h2 hst
      refine gz_iload_n hC dX1_stepRow_7 rfl ?_
      refine gz_if_lt hC 63 dX1_stepRow_8 (by decide) (fun c8 => ?_) (fun c8 => ?_)
      · refine gz_iconst hC (0) dX1_stepRow_63 (by decide) ?_
        exact gz_zret rfl hC dX1_stepRow_64 (Or.inl ⟨by rw [hst]; rfl, rfl, rfl⟩)
      · exact absurd (by rw [h1 rfl]; decide) c8
    | succ i ih =>
      intro hj x1 h1 h2 hst
      have hx1 := h2 i rfl
      have hri := hrF i (by omega)
      refine gz_iload_n hC dX1_stepRow_7 rfl ?_
      refine gz_if_lt hC 63 dX1_stepRow_8 (by decide) (fun c8 => ?_) (fun c8 => ?_)
      · exact absurd c8 (by rw [hx1]; exact nI_pos (by omega))
      · refine gz_aload_n hC dX1_stepRow_11 rfl ?_
        refine gz_getR (j := 2) hC dX1_stepRow_12 cf_X1 fl_X1_18 hK.1 rfl (by decide) ?_
        refine gz_iload_n hC dX1_stepRow_15 rfl ?_
        refine gz_callSN2 hC dX1_stepRow_16 ml_X1_45 (by decide) (by decide) (Nat.le_of_ble_eq_true rfl) (ct_X7_at hJ _ _ _ 3 i hK.2.2.2 (by omega) _ hx1 (by omega)) (fun v16 M16 hp16 => ?_)
        obtain ⟨rfl, rfl⟩ := hp16
        rw [hr i (by omega)]
        refine gz_iconst hC (1) dX1_stepRow_19 (by decide) ?_
        refine gz_iadd hC dX1_stepRow_20 ?_
        obtain ⟨x2, hx2⟩ : ∃ y, y = nI (r i) + 1 := ⟨_, rfl⟩
        rw [← hx2]
        rw [nI_1] at hx2
        refine gz_istore_n hC dX1_stepRow_21 (by decide) ?_
        refine gz_iload_n hC dX1_stepRow_22 rfl ?_
        refine gz_aload_n hC dX1_stepRow_23 rfl ?_
        refine gz_getI (j := 4) hC dX1_stepRow_24 cf_X1 fl_X1_25 hK.1 rfl (by decide) ?_
        refine gz_icmp_ge hC 57 dX1_stepRow_27 (by decide) (fun c27 => ?_) (fun c27 => ?_)
        · refine gz_iinc hC (-1) dX1_stepRow_57 rfl (by decide) (by decide) ?_
          refine gz_goto hC 7 dX1_stepRow_60 (by decide) ?_
          have hge : ¬ r i + 1 < F := fun q => gz_inle hF hx2 q (by omega) c27
          refine gz_lw [(0, .ref (ad k)), (1, .int (x1 + (-1)))] ⟨rfl, rfl, trivial⟩ ?_
          exact ih (by omega) (x1 + (-1)) (fun h0 => by subst h0; rw [hx1]; rfl) (fun q hq => by subst hq; rw [hx1]; exact pk_m1 q) (by rw [hst]; show tb_sta F r (i + 1) = _; rw [tb_sta, if_neg hge])
        · have hlt : r i + 1 < F := by
            rcases Nat.lt_or_ge (r i + 1) F with q | q
            · exact q
            · exact absurd (gz_ile hF hx2 q (by omega)) c27
          refine gz_iload_n hC dX1_stepRow_30 rfl ?_
          refine gz_istore_n hC dX1_stepRow_31 (by decide) ?_
          have hsi : tb_sta F r d = some i := by rw [hst]; unfold tb_sta; rw [if_pos hlt]
          have lp2 : ∀ (n t : Nat) (x3 : Int32) (hi : i + t + n = d) (hx3 : x3 = nI (i + t)), gz_W p l e (gz_rm 1) s m args below meth c D ad cy lx_lay 4 (MQ below (gz_Q D ad cy lx_lay (fun v M1 => (tb_sta F r d = none ∧ v = some (.int 0) ∧ M1 = (I, G)) ∨ (∃ i, tb_sta F r d = some i ∧ v = some (.int 1) ∧ M1 = (gz_bk I (k + 3) i (d - i) (fun _ => nI (r i + 1)), G)))) args s 0 0 (gz_A ad lx_lay)) (gz_bk I (k + 3) i t (fun _ => nI (r i + 1)), G) 32 [(0, .ref (ad k)), (1, .int x1), (2, .int x2), (3, .int x3)] [] := by
            intro n
            induction n with
            | zero =>
              intro t x3 hi hx3
              refine gz_iload_n hC dX1_stepRow_32 rfl ?_
              refine gz_aload_n hC dX1_stepRow_33 rfl ?_
              refine gz_getI (j := 3) hC dX1_stepRow_34 cf_X1 fl_X1_21 hK.1 rfl (by decide) ?_
              refine gz_icmp_ge hC 55 dX1_stepRow_37 (by decide) (fun c37 => ?_) (fun c37 => ?_)
              · refine gz_iconst hC (1) dX1_stepRow_55 (by decide) ?_
                exact gz_zret rfl hC dX1_stepRow_56 (Or.inr ⟨i, hsi, rfl, by rw [show d - i = t by omega]⟩)
              · exact absurd (gz_ile (by exact (gz_bk_at (by omega)).trans hd) hx3 (by omega) (by omega)) c37
            | succ n ih =>
              intro t x3 hi hx3
              refine gz_iload_n hC dX1_stepRow_32 rfl ?_
              refine gz_aload_n hC dX1_stepRow_33 rfl ?_
              refine gz_getI (j := 3) hC dX1_stepRow_34 cf_X1 fl_X1_21 hK.1 rfl (by decide) ?_
              refine gz_icmp_ge hC 55 dX1_stepRow_37 (by decide) (fun c37 => ?_) (fun c37 => ?_)
              · exact absurd c37 (gz_inle (by exact (gz_bk_at (by omega)).trans hd) hx3 (by omega) (by omega))
              · refine gz_aload_n hC dX1_stepRow_40 rfl ?_
                refine gz_getR (j := 2) hC dX1_stepRow_41 cf_X1 fl_X1_18 hK.1 rfl (by decide) ?_
                refine gz_iload_n hC dX1_stepRow_44 rfl ?_
                refine gz_iload_n hC dX1_stepRow_45 rfl ?_
                refine gz_callSN3 hC dX1_stepRow_46 ml_X1_53 (by decide) (by decide) (Nat.le_of_ble_eq_true rfl) (ct_X7_put hJ _ _ _ 3 (i + t) hK.2.2.2 (by omega) _ _ hx3 (by omega)) (fun v46 M46 hp46 => ?_)
                obtain ⟨rfl, rfl⟩ := hp46
                rw [gz_bk_sn (g := fun _ => nI (r i + 1)) hx2]
                refine gz_iinc hC (1) dX1_stepRow_49 rfl (by decide) (by decide) ?_
                refine gz_goto hC 32 dX1_stepRow_52 (by decide) ?_
                refine gz_lw [(0, .ref (ad k)), (1, .int x1), (2, .int x2), (3, .int (x3 + 1))] ⟨rfl, rfl, rfl, rfl, trivial⟩ ?_
                exact ih (t + 1) _ (by omega) (by rw [show i + (t + 1) = i + t + 1 by omega]; exact gz_i1 hx3)
          have h9 := lp2 (d - i) 0 x1 (by omega) hx1
          rw [gz_bk_0 (n := 0) (fun j hj => absurd hj (Nat.not_lt_zero j))] at h9
          exact gz_lw [(0, .ref (ad k)), (1, .int x1), (2, .int x2), (3, .int x1)] ⟨rfl, rfl, rfl, rfl, trivial⟩ h9
  refine gz_lw [(0, .ref (ad k)), (1, .int (I k 3 - 1))] ⟨rfl, rfl, trivial⟩ ?_
  exact lp d (Nat.le_refl d) _ (fun h0 => by rw [hd, h0]; rfl) (fun i hi => by rw [hd, hi]; exact nI_pred i) rfl
  -- places not laid: [8, 11, 12, 15, 16, 19, 20, 21, 22, 23, 24, 27, 30, 31, 32, 33, 34, 37, 40, 41, 44, 45, 46, 49, 52, 55, 56, 57, 60, 63, 64]
set_option maxHeartbeats 4000000 in
set_option maxRecDepth 100000 in
theorem ct_X1_fill (hJ : gz_inj ad lx_lay) (I : Nat → Nat → Int32) (G : Nat → Nat → UInt64) (k : Nat) (hK : lx_cup k) (d F : Nat) (x1 x2 : Int32) (hx1 : x1 = nI d) (hx2 : x2 = nI F) (hT : tb_ok d F) : gz_Ct l D ad cy lx_lay yX1_fill cX1_fill 4 none 3 [.ref (ad k), .int x1, .int x2] (I, G) (fun v M1 => ∃ I1, v = none ∧ M1 = (I1, G) ∧ xi_cup k d F I1 ∧ ∀ o, o ≠ k → o ≠ k + 1 → o ≠ k + 2 → o ≠ k + 3 → I1 o = I o) := by
  obtain ⟨T1, T2, T3, T4, T5, T6, T7, T8, T9⟩ := tb_facts hT
  refine gz_met (by decide +kernel) hJ (Nat.le_of_ble_eq_true rfl) ?_
  intro p e s m args below meth c hC
  refine gz_aload_n hC dX1_fill_0 rfl ?_
  refine gz_iload_n hC dX1_fill_1 rfl ?_
  refine gz_put (j := 3) hC dX1_fill_2 cf_X1 fl_X1_21 hK.1 rfl (by decide) rfl rfl rfl ?_
  refine gz_aload_n hC dX1_fill_5 rfl ?_
  refine gz_iload_n hC dX1_fill_6 rfl ?_
  refine gz_put (j := 4) hC dX1_fill_7 cf_X1 fl_X1_25 hK.1 rfl (by decide) rfl rfl rfl ?_
  refine gz_aload_n hC dX1_fill_10 rfl ?_
  refine gz_iconst hC (0) dX1_fill_11 (by decide) ?_
  refine gz_put (j := 5) hC dX1_fill_12 cf_X1 fl_X1_28 hK.1 rfl (by decide) rfl rfl rfl ?_
  refine gz_aload_n hC dX1_fill_15 rfl ?_
  refine gz_getR (j := 0) hC dX1_fill_16 cf_X1 fl_X1_9 hK.1 rfl (by decide) ?_
  refine gz_iconst hC (0) dX1_fill_19 (by decide) ?_
  refine gz_callS2 hC dX1_fill_20 ml_X1_31 (by decide) (by decide) (Nat.le_of_ble_eq_true rfl) (ct_J7_fill_53178 hJ _ _ _ 16 hK.2.1 (by omega) _) (fun v20 M20 hp20 => ?_)
  obtain ⟨rfl, rfl⟩ := hp20
  refine gz_aload_n hC dX1_fill_23 rfl ?_
  refine gz_getR (j := 2) hC dX1_fill_24 cf_X1 fl_X1_18 hK.1 rfl (by decide) ?_
  refine gz_iconst hC (0) dX1_fill_27 (by decide) ?_
  refine gz_callS2 hC dX1_fill_28 ml_X1_31 (by decide) (by decide) (Nat.le_of_ble_eq_true rfl) (ct_J7_fill_53178 hJ _ _ _ 3 hK.2.2.2 (by omega) _) (fun v28 M28 hp28 => ?_)
  obtain ⟨rfl, rfl⟩ := hp28
  refine gz_iconst hC (1) dX1_fill_31 (by decide) ?_
  refine gz_istore_n hC dX1_fill_32 (by decide) ?_
  have lp : ∀ (n h : Nat) (J : Nat → Nat → Int32) (x3 : Int32) (hi : h + n + 1 = tb_n d F) (hx3 : x3 = 1) (h3 : J k 3 = nI d) (h4 : J k 4 = nI F) (h5 : J k 5 = nI h) (hp : ∀ q, q < h → ∀ f, f < 4 → J (k + 1) (q * 4 + f) = nI (tb_cnt (tb_rw d F q) d f)) (hw : ∀ q, q < h → J (k + 2) q = nI (tb_ord (tb_rw d F q) d F)) (hz : ∀ q, h ≤ q → q < 4 → ∀ f, f < 4 → J (k + 1) (q * 4 + f) = nI 0) (hr : ∀ i, i < d → J (k + 3) i = nI (tb_rw d F h i)) (hf : ∀ o, o ≠ k → o ≠ k + 1 → o ≠ k + 2 → o ≠ k + 3 → J o = I o), gz_W p l e (gz_rm 3) s m args below meth c D ad cy lx_lay 4 (MQ below (gz_Q D ad cy lx_lay (fun v M1 => ∃ I1, v = none ∧ M1 = (I1, G) ∧ xi_cup k d F I1 ∧ ∀ o, o ≠ k → o ≠ k + 1 → o ≠ k + 2 → o ≠ k + 3 → I1 o = I o)) args s 0 0 (gz_A ad lx_lay)) (J, G) 33 [(0, .ref (ad k)), (3, .int x3)] [] := by
    intro n
    induction n with
    | zero =>
      intro h J x3 hi hx3 h3 h4 h5 hp hw hz hr hf
      subst hx3
      refine gz_iload_n hC dX1_fill_33 rfl ?_
      refine gz_if_eq hC 71 dX1_fill_34 (by decide) (fun c34 => ?_) (fun c34 => ?_)
      · exact absurd c34 (by decide)
      · refine gz_aload_n hC dX1_fill_37 rfl ?_
        refine gz_getI (j := 5) hC dX1_fill_38 cf_X1 fl_X1_28 hK.1 rfl (by decide) ?_
        refine gz_iconst hC (4) dX1_fill_41 (by decide) ?_
        refine gz_icmp_ge hC 71 dX1_fill_42 (by decide) (fun c42 => ?_) (fun c42 => ?_)
        · exact absurd c42 (gz_inle gz_n4 h5 (by omega) (by omega))
        · refine gz_aload_n hC dX1_fill_45 rfl ?_
          refine gz_aload_n hC dX1_fill_46 rfl ?_
          refine gz_getI (j := 5) hC dX1_fill_47 cf_X1 fl_X1_28 hK.1 rfl (by decide) ?_
          refine gz_callV1 hC dX1_fill_50 ml_X1_37 hK.1 rfl (by decide) (by decide) (Nat.le_of_ble_eq_true rfl) (ct_X1_writeHand hJ _ _ k hK h d F (tb_rw d F h) _ h5 (by omega) h3 h4 (by omega) (by omega) hr (T1 h (by omega)) (hz h (Nat.le_refl h) (by omega))) (fun v50 M50 hp50 => ?_)
          obtain ⟨rfl, rfl⟩ := hp50
          refine gz_aload_n hC dX1_fill_53 rfl ?_
          refine gz_dup hC dX1_fill_54 rfl ?_
          refine gz_getI (j := 5) hC dX1_fill_55 cf_X1 fl_X1_28 hK.1 rfl (by decide) ?_
          refine gz_iconst hC (1) dX1_fill_58 (by decide) ?_
          refine gz_iadd hC dX1_fill_59 ?_
          refine gz_put (j := 5) hC dX1_fill_60 cf_X1 fl_X1_28 hK.1 rfl (by decide) rfl rfl rfl ?_
          obtain ⟨J2, hJ2⟩ : ∃ J2, J2 = gz_up (gz_up (gz_bk J (k + 1) (h * 4) 4 (fun f => nI (tb_cnt (tb_rw d F h) d f))) (k + 2) h (nI (tb_ord (tb_rw d F h) d F))) k 5 (nI (h + 1)) := ⟨_, rfl⟩
          rw [gz_up_at (by omega), gz_bk_at (by omega), h5, nI_1, ← hJ2]
          have k3 : J2 k 3 = nI d := by rw [hJ2, gz_up_oth (by decide), gz_up_at (by omega), gz_bk_at (by omega)]; exact h3
          have k4 : J2 k 4 = nI F := by rw [hJ2, gz_up_oth (by decide), gz_up_at (by omega), gz_bk_at (by omega)]; exact h4
          have k5 : J2 k 5 = nI (h + 1) := by rw [hJ2, gz_up_self]
          have kp : ∀ q, q < h + 1 → ∀ f, f < 4 → J2 (k + 1) (q * 4 + f) = nI (tb_cnt (tb_rw d F q) d f) := by
            intro q hq f hf4
            rw [hJ2, gz_up_at (by omega), gz_up_at (by omega)]
            by_cases e : q = h
            · subst e; exact gz_bk_in hf4
            · rw [gz_bk_out (by omega)]; exact hp q (by omega) f hf4
          have kw : ∀ q, q < h + 1 → J2 (k + 2) q = nI (tb_ord (tb_rw d F q) d F) := by
            intro q hq
            rw [hJ2, gz_up_at (by omega)]
            by_cases e : q = h
            · subst e; exact gz_up_self
            · rw [gz_up_oth e, gz_bk_at (by omega)]; exact hw q (by omega)
          have kz : ∀ q, h + 1 ≤ q → q < 4 → ∀ f, f < 4 → J2 (k + 1) (q * 4 + f) = nI 0 := by
            intro q hq hq4 f hf4
            rw [hJ2, gz_up_at (by omega), gz_up_at (by omega), gz_bk_out (by omega)]
            exact hz q (by omega) hq4 f hf4
          have kr : ∀ i, i < d → J2 (k + 3) i = nI (tb_rw d F h i) := by
            intro i hi
            rw [hJ2, gz_up_at (by omega), gz_up_at (by omega), gz_bk_at (by omega)]
            exact hr i hi
          have kf : ∀ o, o ≠ k → o ≠ k + 1 → o ≠ k + 2 → o ≠ k + 3 → J2 o = I o := by
            intro o a1 a2 a3 a4
            rw [hJ2, gz_up_ne a1, gz_up_ne a3, gz_bk_ne a2]
            exact hf o a1 a2 a3 a4
          refine gz_aload_n hC dX1_fill_63 rfl ?_
          refine gz_callV0 hC dX1_fill_64 ml_X1_41 hK.1 rfl (by decide) (by decide) (Nat.le_of_ble_eq_true rfl) (ct_X1_stepRow hJ _ _ k hK d F (tb_rw d F h) k3 k4 (by omega) (by omega) kr (T1 h (by omega))) (fun v64 M64 hp64 => ?_)
          rcases hp64 with ⟨e1, rfl, rfl⟩ | ⟨i, e1, rfl, rfl⟩
          · refine gz_istore_n hC dX1_fill_67 (by decide) ?_
            refine gz_goto hC 33 dX1_fill_68 (by decide) ?_
            refine gz_lw [(0, .ref (ad k)), (3, .int 0)] ⟨rfl, rfl, trivial⟩ ?_
            refine gz_iload_n hC dX1_fill_33 rfl ?_
            refine gz_if_eq hC 71 dX1_fill_34 (by decide) (fun c34 => ?_) (fun c34 => ?_)
            · exact gz_vret hC dX1_fill_71 ⟨J2, rfl, rfl, ⟨k3, k4, by rw [k5, hi], by rw [← hi]; exact kp, by rw [← hi]; exact kw⟩, kf⟩
            · exact absurd rfl c34
          · refine gz_istore_n hC dX1_fill_67 (by decide) ?_
            refine gz_goto hC 33 dX1_fill_68 (by decide) ?_
            have e2 := T3 h hi
            rw [e2] at e1
            cases e1
    | succ n ih =>
      intro h J x3 hi hx3 h3 h4 h5 hp hw hz hr hf
      subst hx3
      refine gz_iload_n hC dX1_fill_33 rfl ?_
      refine gz_if_eq hC 71 dX1_fill_34 (by decide) (fun c34 => ?_) (fun c34 => ?_)
      · exact absurd c34 (by decide)
      · refine gz_aload_n hC dX1_fill_37 rfl ?_
        refine gz_getI (j := 5) hC dX1_fill_38 cf_X1 fl_X1_28 hK.1 rfl (by decide) ?_
        refine gz_iconst hC (4) dX1_fill_41 (by decide) ?_
        refine gz_icmp_ge hC 71 dX1_fill_42 (by decide) (fun c42 => ?_) (fun c42 => ?_)
        · exact absurd c42 (gz_inle gz_n4 h5 (by omega) (by omega))
        · refine gz_aload_n hC dX1_fill_45 rfl ?_
          refine gz_aload_n hC dX1_fill_46 rfl ?_
          refine gz_getI (j := 5) hC dX1_fill_47 cf_X1 fl_X1_28 hK.1 rfl (by decide) ?_
          refine gz_callV1 hC dX1_fill_50 ml_X1_37 hK.1 rfl (by decide) (by decide) (Nat.le_of_ble_eq_true rfl) (ct_X1_writeHand hJ _ _ k hK h d F (tb_rw d F h) _ h5 (by omega) h3 h4 (by omega) (by omega) hr (T1 h (by omega)) (hz h (Nat.le_refl h) (by omega))) (fun v50 M50 hp50 => ?_)
          obtain ⟨rfl, rfl⟩ := hp50
          refine gz_aload_n hC dX1_fill_53 rfl ?_
          refine gz_dup hC dX1_fill_54 rfl ?_
          refine gz_getI (j := 5) hC dX1_fill_55 cf_X1 fl_X1_28 hK.1 rfl (by decide) ?_
          refine gz_iconst hC (1) dX1_fill_58 (by decide) ?_
          refine gz_iadd hC dX1_fill_59 ?_
          refine gz_put (j := 5) hC dX1_fill_60 cf_X1 fl_X1_28 hK.1 rfl (by decide) rfl rfl rfl ?_
          obtain ⟨J2, hJ2⟩ : ∃ J2, J2 = gz_up (gz_up (gz_bk J (k + 1) (h * 4) 4 (fun f => nI (tb_cnt (tb_rw d F h) d f))) (k + 2) h (nI (tb_ord (tb_rw d F h) d F))) k 5 (nI (h + 1)) := ⟨_, rfl⟩
          rw [gz_up_at (by omega), gz_bk_at (by omega), h5, nI_1, ← hJ2]
          have k3 : J2 k 3 = nI d := by rw [hJ2, gz_up_oth (by decide), gz_up_at (by omega), gz_bk_at (by omega)]; exact h3
          have k4 : J2 k 4 = nI F := by rw [hJ2, gz_up_oth (by decide), gz_up_at (by omega), gz_bk_at (by omega)]; exact h4
          have k5 : J2 k 5 = nI (h + 1) := by rw [hJ2, gz_up_self]
          have kp : ∀ q, q < h + 1 → ∀ f, f < 4 → J2 (k + 1) (q * 4 + f) = nI (tb_cnt (tb_rw d F q) d f) := by
            intro q hq f hf4
            rw [hJ2, gz_up_at (by omega), gz_up_at (by omega)]
            by_cases e : q = h
            · subst e; exact gz_bk_in hf4
            · rw [gz_bk_out (by omega)]; exact hp q (by omega) f hf4
          have kw : ∀ q, q < h + 1 → J2 (k + 2) q = nI (tb_ord (tb_rw d F q) d F) := by
            intro q hq
            rw [hJ2, gz_up_at (by omega)]
            by_cases e : q = h
            · subst e; exact gz_up_self
            · rw [gz_up_oth e, gz_bk_at (by omega)]; exact hw q (by omega)
          have kz : ∀ q, h + 1 ≤ q → q < 4 → ∀ f, f < 4 → J2 (k + 1) (q * 4 + f) = nI 0 := by
            intro q hq hq4 f hf4
            rw [hJ2, gz_up_at (by omega), gz_up_at (by omega), gz_bk_out (by omega)]
            exact hz q (by omega) hq4 f hf4
          have kr : ∀ i, i < d → J2 (k + 3) i = nI (tb_rw d F h i) := by
            intro i hi
            rw [hJ2, gz_up_at (by omega), gz_up_at (by omega), gz_bk_at (by omega)]
            exact hr i hi
          have kf : ∀ o, o ≠ k → o ≠ k + 1 → o ≠ k + 2 → o ≠ k + 3 → J2 o = I o := by
            intro o a1 a2 a3 a4
            rw [hJ2, gz_up_ne a1, gz_up_ne a3, gz_bk_ne a2]
            exact hf o a1 a2 a3 a4
          refine gz_aload_n hC dX1_fill_63 rfl ?_
          refine gz_callV0 hC dX1_fill_64 ml_X1_41 hK.1 rfl (by decide) (by decide) (Nat.le_of_ble_eq_true rfl) (ct_X1_stepRow hJ _ _ k hK d F (tb_rw d F h) k3 k4 (by omega) (by omega) kr (T1 h (by omega))) (fun v64 M64 hp64 => ?_)
          rcases hp64 with ⟨e1, rfl, rfl⟩ | ⟨i, e1, rfl, rfl⟩
          · refine gz_istore_n hC dX1_fill_67 (by decide) ?_
            refine gz_goto hC 33 dX1_fill_68 (by decide) ?_
            have e2 := T2 h (by omega)
            rw [e1] at e2
            cases e2
          · refine gz_istore_n hC dX1_fill_67 (by decide) ?_
            refine gz_goto hC 33 dX1_fill_68 (by decide) ?_
            refine gz_lw [(0, .ref (ad k)), (3, .int 1)] ⟨rfl, rfl, trivial⟩ ?_
            have hid := tb_sta_lt e1
            exact ih (h + 1) _ 1 (by omega) rfl ((gz_bk_at (by omega)).trans k3) ((gz_bk_at (by omega)).trans k4) ((gz_bk_at (by omega)).trans k5) (fun q hq f hf4 => (gz_bk_at (by omega)).trans (kp q hq f hf4)) (fun q hq => (gz_bk_at (by omega)).trans (kw q hq)) (fun q hq hq4 f hf4 => (gz_bk_at (by omega)).trans (kz q hq hq4 f hf4)) (fun j hj => by
              show gz_bk J2 (k + 3) i (d - i) (fun _ => nI (tb_rw d F h i + 1)) (k + 3) j = nI (tb_nx d F (tb_rw d F h) j)
              unfold tb_nx
              rw [e1]
              show _ = nI (if i ≤ j then tb_rw d F h i + 1 else tb_rw d F h j)
              by_cases hij : i ≤ j
              · rw [if_pos hij, show j = i + (j - i) by omega, gz_bk_in (by omega)]
              · rw [if_neg hij, gz_bk_out (by omega)]; exact kr j hj) (fun o a1 a2 a3 a4 => (gz_bk_ne a4).trans (kf o a1 a2 a3 a4))
  refine gz_lw [(0, .ref (ad k)), (3, .int 1)] ⟨rfl, rfl, trivial⟩ ?_
  exact lp (tb_n d F - 1) 0 _ 1 (by omega) rfl (by rw [gz_fi_at (by omega), gz_fi_at (by omega), gz_up_oth (by decide), gz_up_oth (by decide), gz_up_self]; exact hx1) (by rw [gz_fi_at (by omega), gz_fi_at (by omega), gz_up_oth (by decide), gz_up_self]; exact hx2) (by rw [gz_fi_at (by omega), gz_fi_at (by omega), gz_up_self]; rfl) (fun q hq => absurd hq (Nat.not_lt_zero q)) (fun q hq => absurd hq (Nat.not_lt_zero q)) (fun q _ hq4 f hf4 => by rw [gz_fi_at (by omega), gz_fi_in (by omega)]; rfl) (fun i hi => by rw [gz_fi_in (by omega)]; rfl) (fun o a1 a2 a3 a4 => by rw [gz_fi_ne a4, gz_fi_ne a2, gz_up_ne a1, gz_up_ne a1, gz_up_ne a1])
  -- places not laid: [34, 37, 38, 41, 42, 45, 46, 47, 50, 53, 54, 55, 58, 59, 60, 63, 64, 67, 68, 71]
end CT
end
section
/-! the table: which bids hold -/
def tb_cf (d F : Nat) (w : Bool) (h f : Nat) : Nat := tb_cnt (tb_rw d F h) d f + cond (w && decide (0 < f)) (tb_cnt (tb_rw d F h) d 0) 0
def tb_t (d0 d1 F : Nat) (w : Bool) (g h b : Nat) : Bool := decide (b / F + 1 ≤ tb_cf d0 F w g (b % F) + tb_cf d1 F w h (b % F))
def tb_tf (d0 d1 F : Nat) (w : Bool) (pl own oth b : Nat) : Bool := if pl = 0 then tb_t d0 d1 F w own oth b else tb_t d0 d1 F w oth own b
def tb_sum (f : Nat → Nat) : Nat → Nat
  | 0 => 0
  | n + 1 => tb_sum f n + f n
def tb_d (d0 d1 pl : Nat) : Nat := if pl = 0 then d0 else d1
def tb_w (d F h : Nat) : Nat := tb_ord (tb_rw d F h) d F
/-- in how many throws of the other one a bid holds -/
def tb_wh (d0 d1 F : Nat) (w : Bool) (pl h b : Nat) : Nat → Nat := tb_sum (fun k => cond (tb_tf d0 d1 F w pl h k b) (tb_w (tb_d d0 d1 (1 - pl)) F k) 0)
def cf_ok (d0 d1 F : Nat) : Prop := tb_ok d0 F ∧ tb_ok d1 F ∧ (d0 + d1) * F ≤ 8
def xi_tab (d0 d1 F : Nat) (w : Bool) (I : Nat → Nat → Int32) : Prop := I 1 3 = nI F ∧ I 1 4 = nI ((d0 + d1) * F) ∧ I 1 5 = gz_b w ∧ xi_cup 3 d0 F I ∧ xi_cup 7 d1 F I ∧ ∀ g, g < tb_n d0 F → ∀ h, h < tb_n d1 F → ∀ b, b < (d0 + d1) * F → I 2 ((g * 4 + h) * 8 + b) = gz_b (tb_t d0 d1 F w g h b)
theorem lx_cupP {pl : Nat} (h : pl < 2) : lx_cup (3 + 4 * pl) := by
  match pl, h with
  | 0, _ => exact lx_cup3
  | 1, _ => exact lx_cup7
theorem xi_cupP {d0 d1 F : Nat} {w : Bool} {I : Nat → Nat → Int32} (h : xi_tab d0 d1 F w I) {pl : Nat} (hp : pl < 2) : xi_cup (3 + 4 * pl) (tb_d d0 d1 pl) F I := by
  match pl, hp with
  | 0, _ => exact h.2.2.2.1
  | 1, _ => exact h.2.2.2.2.1
theorem cf_okP {d0 d1 F : Nat} (h : cf_ok d0 d1 F) {pl : Nat} (hp : pl < 2) : tb_ok (tb_d d0 d1 pl) F := by
  match pl, hp with
  | 0, _ => exact h.1
  | 1, _ => exact h.2.1
theorem gz_beq1 (b : Bool) : gz_b b = 1 ↔ b = true := by cases b <;> decide
theorem cf_pow {d0 d1 F : Nat} (h : cf_ok d0 d1 F) : FP.dcmp (FP.i2d (nI (F ^ d0 * F ^ d1))) 0 = some .gt := by
  obtain ⟨h1, h2, h3⟩ := h
  rcases h1 with ⟨rfl, rfl⟩ | ⟨rfl, rfl⟩ | ⟨rfl, rfl⟩ | ⟨rfl, rfl⟩ | ⟨rfl, rfl⟩ <;> rcases h2 with ⟨rfl, e⟩ | ⟨rfl, e⟩ | ⟨rfl, e⟩ | ⟨rfl, e⟩ | ⟨rfl, e⟩ <;> first | exact absurd e (by decide) | exact absurd h3 (by decide) | decide +kernel
section CT
variable {l : Launch} {D : va_G} {ad : Nat → Nat} {cy : Nat → ClassId}
set_option maxHeartbeats 4000000 in
set_option maxRecDepth 100000 in
theorem ct_X6_spotOf (hJ : gz_inj ad lx_lay) (I : Nat → Nat → Int32) (G : Nat → Nat → UInt64) (g h b : Nat) (x y z : Int32) (hx : x = nI g) (hy : y = nI h) (hz : z = nI b) : gz_Ct l D ad cy lx_lay yX6_spotOf cX6_spotOf 3 (some .int) 0 [.int x, .int y, .int z] (I, G) (fun v M1 => v = some (.int (nI ((g * 4 + h) * 8 + b))) ∧ M1 = (I, G)) := by
  refine gz_met (by decide +kernel) hJ (Nat.le_of_ble_eq_true rfl) ?_
  intro p e s m args below meth c hC
  refine gz_iload_n hC dX6_spotOf_0 rfl ?_
  refine gz_iconst hC (4) dX6_spotOf_1 (by decide) ?_
  refine gz_imul hC dX6_spotOf_2 ?_
  refine gz_iload_n hC dX6_spotOf_3 rfl ?_
  refine gz_iadd hC dX6_spotOf_4 ?_
  refine gz_bipush hC (8) dX6_spotOf_5 (by decide) ?_
  refine gz_imul hC dX6_spotOf_7 ?_
  refine gz_iload_n hC dX6_spotOf_8 rfl ?_
  refine gz_iadd hC dX6_spotOf_9 ?_
  exact gz_iret hC dX6_spotOf_10 ⟨gz_v (by rw [hx, hy, hz, gz_n4, gz_n8, pk_mul, nI_add, pk_mul, nI_add]), rfl⟩
set_option maxHeartbeats 4000000 in
set_option maxRecDepth 100000 in
theorem ct_X6_cup (hJ : gz_inj ad lx_lay) (I : Nat → Nat → Int32) (G : Nat → Nat → UInt64) (p0 : Int32) (k : Nat) (hk : (p0 = 0 ∧ k = 3) ∨ (¬ p0 = 0 ∧ k = 7)) : gz_Ct l D ad cy lx_lay yX6_cup cX6_cup 2 (some (.object "DiceCups$Cup")) 0 [.ref (ad 1), .int p0] (I, G) (fun v M1 => v = some (.ref (ad k)) ∧ M1 = (I, G)) := by
  refine gz_met (by decide +kernel) hJ (Nat.le_of_ble_eq_true rfl) ?_
  intro p e s m args below meth c hC
  refine gz_iload_n hC dX6_cup_0 rfl ?_
  refine gz_if_ne hC 11 dX6_cup_1 (by decide) (fun c1 => ?_) (fun c1 => ?_)
  · refine gz_aload_n hC dX6_cup_11 rfl ?_
    refine gz_getR (j := 1) hC dX6_cup_12 cf_X6 fl_X6_18 rfl rfl (by decide) ?_
    exact gz_aret hC dX6_cup_15 ⟨by first | (rw [(hk.resolve_right (fun q => q.1 c1)).2]; done) | (rw [(hk.resolve_left (fun q => c1 q.1)).2]; done), rfl⟩
  · refine gz_aload_n hC dX6_cup_4 rfl ?_
    refine gz_getR (j := 0) hC dX6_cup_5 cf_X6 fl_X6_12 rfl rfl (by decide) ?_
    refine gz_goto hC 15 dX6_cup_8 (by decide) ?_
    exact gz_aret hC dX6_cup_15 ⟨by first | (rw [(hk.resolve_right (fun q => q.1 c1)).2]; done) | (rw [(hk.resolve_left (fun q => c1 q.1)).2]; done), rfl⟩
set_option maxHeartbeats 4000000 in
set_option maxRecDepth 100000 in
theorem ct_X6_countsFor (hJ : gz_inj ad lx_lay) (I : Nat → Nat → Int32) (G : Nat → Nat → UInt64) (k : Nat) (hK : lx_cup k) (d F : Nat) (w : Bool) (hw : I 1 5 = gz_b w) (hT : tb_ok d F) (hc : xi_cup k d F I) (h f : Nat) (x y : Int32) (hx : x = nI h) (hy : y = nI f) (hh : h < tb_n d F) (hf : f < 4) : gz_Ct l D ad cy lx_lay yX6_countsFor cX6_countsFor 5 (some .int) 2 [.ref (ad 1), .ref (ad k), .int x, .int y] (I, G) (fun v M1 => v = some (.int (nI (tb_cf d F w h f))) ∧ M1 = (I, G)) := by
  obtain ⟨T1, T2, T3, T4, T5, T6, T7, T8, T9⟩ := tb_facts hT
  refine gz_met (by decide +kernel) hJ (Nat.le_of_ble_eq_true rfl) ?_
  intro p e s m args below meth c hC
  refine gz_aload_n hC dX6_countsFor_0 rfl ?_
  refine gz_iload_n hC dX6_countsFor_1 rfl ?_
  refine gz_iload_n hC dX6_countsFor_2 rfl ?_
  refine gz_callV2 hC dX6_countsFor_3 ml_X6_69 hK.1 rfl (by decide) (by decide) (Nat.le_of_ble_eq_true rfl) (ct_X1_pipsOf hJ _ _ k hK h f _ _ hx hy (by omega) hf) (fun v3 M3 hp3 => ?_)
  obtain ⟨rfl, rfl⟩ := hp3
  rw [hc.2.2.2.1 h hh f hf]
  refine gz_istore hC dX6_countsFor_6 (by decide) ?_
  refine gz_aload_n hC dX6_countsFor_8 rfl ?_
  refine gz_getI (j := 5) hC dX6_countsFor_9 cf_X6 fl_X6_29 rfl rfl (by decide) ?_
  refine gz_if_eq hC 31 dX6_countsFor_12 (by decide) (fun c12 => ?_) (fun c12 => ?_)
  · rw [hw] at c12
    refine gz_iload hC dX6_countsFor_31 rfl ?_
    exact gz_iret hC dX6_countsFor_33 ⟨gz_v (by first | (rw [nI_add]; unfold tb_cf; rw [gz_b1 c12, show decide (0 < f) = true from decide_eq_true (by rcases Nat.eq_zero_or_pos f with q | q; exact absurd (by rw [hy, q]; decide) c16; exact q)]; rfl) | (unfold tb_cf; rw [show decide (0 < f) = false from decide_eq_false (fun q => nI_nle q (by omega) (by rw [← hy]; exact c16)), Bool.and_false]; rfl) | (unfold tb_cf; rw [gz_b0 c12]; rfl)), rfl⟩
  · rw [hw] at c12
    refine gz_iload_n hC dX6_countsFor_15 rfl ?_
    refine gz_if_le hC 31 dX6_countsFor_16 (by decide) (fun c16 => ?_) (fun c16 => ?_)
    · refine gz_iload hC dX6_countsFor_31 rfl ?_
      exact gz_iret hC dX6_countsFor_33 ⟨gz_v (by first | (rw [nI_add]; unfold tb_cf; rw [gz_b1 c12, show decide (0 < f) = true from decide_eq_true (by rcases Nat.eq_zero_or_pos f with q | q; exact absurd (by rw [hy, q]; decide) c16; exact q)]; rfl) | (unfold tb_cf; rw [show decide (0 < f) = false from decide_eq_false (fun q => nI_nle q (by omega) (by rw [← hy]; exact c16)), Bool.and_false]; rfl) | (unfold tb_cf; rw [gz_b0 c12]; rfl)), rfl⟩
    · refine gz_iload hC dX6_countsFor_19 rfl ?_
      refine gz_aload_n hC dX6_countsFor_21 rfl ?_
      refine gz_iload_n hC dX6_countsFor_22 rfl ?_
      refine gz_iconst hC (0) dX6_countsFor_23 (by decide) ?_
      refine gz_callV2 hC dX6_countsFor_24 ml_X6_69 hK.1 rfl (by decide) (by decide) (Nat.le_of_ble_eq_true rfl) (ct_X1_pipsOf hJ _ _ k hK h 0 _ _ hx rfl (by omega) (by omega)) (fun v24 M24 hp24 => ?_)
      obtain ⟨rfl, rfl⟩ := hp24
      rw [hc.2.2.2.1 h hh 0 (by omega)]
      refine gz_iadd hC dX6_countsFor_27 ?_
      refine gz_goto hC 33 dX6_countsFor_28 (by decide) ?_
      exact gz_iret hC dX6_countsFor_33 ⟨gz_v (by first | (rw [nI_add]; unfold tb_cf; rw [gz_b1 c12, show decide (0 < f) = true from decide_eq_true (by rcases Nat.eq_zero_or_pos f with q | q; exact absurd (by rw [hy, q]; decide) c16; exact q)]; rfl) | (unfold tb_cf; rw [show decide (0 < f) = false from decide_eq_false (fun q => nI_nle q (by omega) (by rw [← hy]; exact c16)), Bool.and_false]; rfl) | (unfold tb_cf; rw [gz_b0 c12]; rfl)), rfl⟩
set_option maxHeartbeats 4000000 in
set_option maxRecDepth 100000 in
theorem ct_X6_judge (hJ : gz_inj ad lx_lay) (I : Nat → Nat → Int32) (G : Nat → Nat → UInt64) (d0 d1 F : Nat) (w : Bool) (hw : I 1 5 = gz_b w) (hF : I 1 3 = nI F) (hc0 : xi_cup 3 d0 F I) (hc1 : xi_cup 7 d1 F I) (hO : cf_ok d0 d1 F) (g h b : Nat) (x1 x2 x3 : Int32) (hx1 : x1 = nI g) (hx2 : x2 = nI h) (hx3 : x3 = nI b) (hg : g < tb_n d0 F) (hh : h < tb_n d1 F) (hb : b < (d0 + d1) * F) : gz_Ct l D ad cy lx_lay yX6_judge cX6_judge 7 none 3 [.ref (ad 1), .int x1, .int x2, .int x3] (I, G) (fun v M1 => v = none ∧ M1 = (gz_up I 2 ((g * 4 + h) * 8 + b) (gz_b (tb_t d0 d1 F w g h b)), G)) := by
  obtain ⟨T1, T2, T3, T4, T5, T6, T7, T8, T9⟩ := tb_facts hO.1
  obtain ⟨U1, U2, U3, U4, U5, U6, U7, U8, U9⟩ := tb_facts hO.2.1
  have hO3 := hO.2.2
  have hmod : b % F < F := Nat.mod_lt b (by omega)
  have hdiv : b / F ≤ b := Nat.div_le_self b F
  have hcl0 : tb_cf d0 F w g (b % F) ≤ 6 := by
    unfold tb_cf
    have a1 := tb_cnt_le (tb_rw d0 F g) (b % F) d0
    have a2 := tb_cnt_le (tb_rw d0 F g) 0 d0
    cases (w && decide (0 < b % F)) <;> simp only [cond_true, cond_false] <;> omega
  have hcl1 : tb_cf d1 F w h (b % F) ≤ 6 := by
    unfold tb_cf
    have a1 := tb_cnt_le (tb_rw d1 F h) (b % F) d1
    have a2 := tb_cnt_le (tb_rw d1 F h) 0 d1
    cases (w && decide (0 < b % F)) <;> simp only [cond_true, cond_false] <;> omega
  refine gz_met (by decide +kernel) hJ (Nat.le_of_ble_eq_true rfl) ?_
  intro p e s m args below meth c hC
  refine gz_iload_n hC dX6_judge_0 rfl ?_
  refine gz_aload_n hC dX6_judge_1 rfl ?_
  refine gz_getI (j := 3) hC dX6_judge_2 cf_X6 fl_X6_25 rfl rfl (by decide) ?_
  refine gz_callSN2 hC dX6_judge_5 ml_X6_50 (by decide) (by decide) (Nat.le_of_ble_eq_true rfl) (ct_X7_leftOver hJ _ _ _ _ b F hx3 hF (by omega) (by omega) (by omega)) (fun v5 M5 hp5 => ?_)
  obtain ⟨rfl, rfl⟩ := hp5
  refine gz_istore hC dX6_judge_8 (by decide) ?_
  refine gz_iload_n hC dX6_judge_10 rfl ?_
  refine gz_aload_n hC dX6_judge_11 rfl ?_
  refine gz_getI (j := 3) hC dX6_judge_12 cf_X6 fl_X6_25 rfl rfl (by decide) ?_
  refine gz_callSN2 hC dX6_judge_15 ml_X6_54 (by decide) (by decide) (Nat.le_of_ble_eq_true rfl) (ct_X7_cut hJ _ _ _ _ b F hx3 hF (by omega) (by omega) (by omega)) (fun v15 M15 hp15 => ?_)
  obtain ⟨rfl, rfl⟩ := hp15
  refine gz_iconst hC (1) dX6_judge_18 (by decide) ?_
  refine gz_iadd hC dX6_judge_19 ?_
  refine gz_istore hC dX6_judge_20 (by decide) ?_
  refine gz_aload_n hC dX6_judge_22 rfl ?_
  refine gz_aload_n hC dX6_judge_23 rfl ?_
  refine gz_getR (j := 0) hC dX6_judge_24 cf_X6 fl_X6_12 rfl rfl (by decide) ?_
  refine gz_iload_n hC dX6_judge_27 rfl ?_
  refine gz_iload hC dX6_judge_28 rfl ?_
  refine gz_callV3 hC dX6_judge_30 ml_X6_57 rfl rfl (by decide) (by decide) (Nat.le_of_ble_eq_true rfl) (ct_X6_countsFor hJ _ _ 3 lx_cup3 d0 F w hw hO.1 hc0 g (b % F) _ _ hx1 rfl hg (by omega)) (fun v30 M30 hp30 => ?_)
  obtain ⟨rfl, rfl⟩ := hp30
  refine gz_aload_n hC dX6_judge_33 rfl ?_
  refine gz_aload_n hC dX6_judge_34 rfl ?_
  refine gz_getR (j := 1) hC dX6_judge_35 cf_X6 fl_X6_18 rfl rfl (by decide) ?_
  refine gz_iload_n hC dX6_judge_38 rfl ?_
  refine gz_iload hC dX6_judge_39 rfl ?_
  refine gz_callV3 hC dX6_judge_41 ml_X6_57 rfl rfl (by decide) (by decide) (Nat.le_of_ble_eq_true rfl) (ct_X6_countsFor hJ _ _ 7 lx_cup7 d1 F w hw hO.2.1 hc1 h (b % F) _ _ hx2 rfl hh (by omega)) (fun v41 M41 hp41 => ?_)
  obtain ⟨rfl, rfl⟩ := hp41
  refine gz_iadd hC dX6_judge_44 ?_
  refine gz_istore hC dX6_judge_45 (by decide) ?_
  refine gz_aload_n hC dX6_judge_47 rfl ?_
  refine gz_getR (j := 2) hC dX6_judge_48 cf_X6 fl_X6_21 rfl rfl (by decide) ?_
  refine gz_iload_n hC dX6_judge_51 rfl ?_
  refine gz_iload_n hC dX6_judge_52 rfl ?_
  refine gz_iload_n hC dX6_judge_53 rfl ?_
  refine gz_callS3 hC dX6_judge_54 ml_X6_61 (by decide) (by decide) (Nat.le_of_ble_eq_true rfl) (ct_X6_spotOf hJ _ _ g h b _ _ _ hx1 hx2 hx3) (fun v54 M54 hp54 => ?_)
  obtain ⟨rfl, rfl⟩ := hp54
  refine gz_iload hC dX6_judge_57 rfl ?_
  refine gz_iload hC dX6_judge_59 rfl ?_
  rw [nI_add, nI_1]
  refine gz_icmp_lt hC 68 dX6_judge_61 (by decide) (fun c61 => ?_) (fun c61 => ?_)
  · refine gz_iconst hC (0) dX6_judge_68 (by decide) ?_
    refine gz_callSN3 hC dX6_judge_69 ml_X6_65 (by decide) (by decide) (Nat.le_of_ble_eq_true rfl) (ct_X7_put hJ _ _ 2 128 ((g * 4 + h) * 8 + b) rfl (by omega) _ _ rfl (by omega)) (fun v69 M69 hp69 => ?_)
    obtain ⟨rfl, rfl⟩ := hp69
    exact gz_vret hC dX6_judge_72 ⟨rfl, by first | (rw [show tb_t d0 d1 F w g h b = false from decide_eq_false (fun q => nI_nlt q (by omega) c61)]; rfl) | (rw [show tb_t d0 d1 F w g h b = true from decide_eq_true (by rcases Nat.lt_or_ge (tb_cf d0 F w g (b % F) + tb_cf d1 F w h (b % F)) (b / F + 1) with q | q; exact absurd (nI_lt q (by omega)) c61; exact q)]; rfl)⟩
  · refine gz_iconst hC (1) dX6_judge_64 (by decide) ?_
    refine gz_goto hC 69 dX6_judge_65 (by decide) ?_
    refine gz_callSN3 hC dX6_judge_69 ml_X6_65 (by decide) (by decide) (Nat.le_of_ble_eq_true rfl) (ct_X7_put hJ _ _ 2 128 ((g * 4 + h) * 8 + b) rfl (by omega) _ _ rfl (by omega)) (fun v69 M69 hp69 => ?_)
    obtain ⟨rfl, rfl⟩ := hp69
    exact gz_vret hC dX6_judge_72 ⟨rfl, by first | (rw [show tb_t d0 d1 F w g h b = false from decide_eq_false (fun q => nI_nlt q (by omega) c61)]; rfl) | (rw [show tb_t d0 d1 F w g h b = true from decide_eq_true (by rcases Nat.lt_or_ge (tb_cf d0 F w g (b % F) + tb_cf d1 F w h (b % F)) (b / F + 1) with q | q; exact absurd (nI_lt q (by omega)) c61; exact q)]; rfl)⟩
set_option maxHeartbeats 4000000 in
set_option maxRecDepth 100000 in
theorem ct_X6_isTrue (hJ : gz_inj ad lx_lay) (I : Nat → Nat → Int32) (G : Nat → Nat → UInt64) (d0 d1 F : Nat) (w : Bool) (hO : cf_ok d0 d1 F) (hX : xi_tab d0 d1 F w I) (g h b : Nat) (x1 x2 x3 : Int32) (hx1 : x1 = nI g) (hx2 : x2 = nI h) (hx3 : x3 = nI b) (hg : g < tb_n d0 F) (hh : h < tb_n d1 F) (hb : b < (d0 + d1) * F) : gz_Ct l D ad cy lx_lay yX6_isTrue cX6_isTrue 4 (some .boolean) 1 [.ref (ad 1), .int x1, .int x2, .int x3] (I, G) (fun v M1 => v = some (.int (gz_b (tb_t d0 d1 F w g h b))) ∧ M1 = (I, G)) := by
  obtain ⟨T1, T2, T3, T4, T5, T6, T7, T8, T9⟩ := tb_facts hO.1
  obtain ⟨U1, U2, U3, U4, U5, U6, U7, U8, U9⟩ := tb_facts hO.2.1
  have hO3 := hO.2.2
  refine gz_met (by decide +kernel) hJ (Nat.le_of_ble_eq_true rfl) ?_
  intro p e s m args below meth c hC
  refine gz_aload_n hC dX6_isTrue_0 rfl ?_
  refine gz_getR (j := 2) hC dX6_isTrue_1 cf_X6 fl_X6_21 rfl rfl (by decide) ?_
  refine gz_iload_n hC dX6_isTrue_4 rfl ?_
  refine gz_iload_n hC dX6_isTrue_5 rfl ?_
  refine gz_iload_n hC dX6_isTrue_6 rfl ?_
  refine gz_callS3 hC dX6_isTrue_7 ml_X6_61 (by decide) (by decide) (Nat.le_of_ble_eq_true rfl) (ct_X6_spotOf hJ _ _ g h b _ _ _ hx1 hx2 hx3) (fun v7 M7 hp7 => ?_)
  obtain ⟨rfl, rfl⟩ := hp7
  refine gz_callSN2 hC dX6_isTrue_10 ml_X6_72 (by decide) (by decide) (Nat.le_of_ble_eq_true rfl) (ct_X7_at hJ _ _ 2 128 ((g * 4 + h) * 8 + b) rfl (by omega) _ rfl (by omega)) (fun v10 M10 hp10 => ?_)
  obtain ⟨rfl, rfl⟩ := hp10
  rw [hX.2.2.2.2.2 g hg h hh b hb]
  refine gz_iconst hC (1) dX6_isTrue_13 (by decide) ?_
  refine gz_icmp_ne hC 21 dX6_isTrue_14 (by decide) (fun c14 => ?_) (fun c14 => ?_)
  · refine gz_iconst hC (0) dX6_isTrue_21 (by decide) ?_
    exact gz_zret rfl hC dX6_isTrue_22 ⟨gz_v (by first | exact c14.symm | (cases hq : tb_t d0 d1 F w g h b; rfl; exact absurd (by rw [hq]; rfl) c14)), rfl⟩
  · refine gz_iconst hC (1) dX6_isTrue_17 (by decide) ?_
    refine gz_goto hC 22 dX6_isTrue_18 (by decide) ?_
    exact gz_zret rfl hC dX6_isTrue_22 ⟨gz_v (by first | exact c14.symm | (cases hq : tb_t d0 d1 F w g h b; rfl; exact absurd (by rw [hq]; rfl) c14)), rfl⟩
set_option maxHeartbeats 4000000 in
set_option maxRecDepth 100000 in
theorem ct_X6_isTrueFor (hJ : gz_inj ad lx_lay) (I : Nat → Nat → Int32) (G : Nat → Nat → UInt64) (d0 d1 F : Nat) (w : Bool) (hO : cf_ok d0 d1 F) (hX : xi_tab d0 d1 F w I) (pl own oth b : Nat) (x0 x1 x2 x3 : Int32) (hp : pl < 2) (hx0 : x0 = nI pl) (hx1 : x1 = nI own) (hx2 : x2 = nI oth) (hx3 : x3 = nI b) (ho : own < tb_n (tb_d d0 d1 pl) F) (hh : oth < tb_n (tb_d d0 d1 (1 - pl)) F) (hb : b < (d0 + d1) * F) : gz_Ct l D ad cy lx_lay yX6_isTrueFor cX6_isTrueFor 5 (some .boolean) 2 [.ref (ad 1), .int x0, .int x1, .int x2, .int x3] (I, G) (fun v M1 => v = some (.int (gz_b (tb_tf d0 d1 F w pl own oth b))) ∧ M1 = (I, G)) := by
  refine gz_met (by decide +kernel) hJ (Nat.le_of_ble_eq_true rfl) ?_
  intro p e s m args below meth c hC
  refine gz_iload_n hC dX6_isTrueFor_0 rfl ?_
  refine gz_if_ne hC 15 dX6_isTrueFor_1 (by decide) (fun c1 => ?_) (fun c1 => ?_)
  · have hpl : pl = 1 := by rcases (show pl = 0 ∨ pl = 1 by omega) with q | q; exact absurd (by rw [hx0, q]; rfl) c1; exact q
    subst hpl
    refine gz_aload_n hC dX6_isTrueFor_15 rfl ?_
    refine gz_iload_n hC dX6_isTrueFor_16 rfl ?_
    refine gz_iload_n hC dX6_isTrueFor_17 rfl ?_
    refine gz_iload hC dX6_isTrueFor_18 rfl ?_
    refine gz_callV3 hC dX6_isTrueFor_20 ml_X6_76 rfl rfl (by decide) (by decide) (Nat.le_of_ble_eq_true rfl) (ct_X6_isTrue hJ _ _ d0 d1 F w hO hX oth own b _ _ _ hx2 hx1 hx3 hh ho hb) (fun v20 M20 hp20 => ?_)
    obtain ⟨rfl, rfl⟩ := hp20
    exact gz_zret (gz_bn _) hC dX6_isTrueFor_23 ⟨rfl, rfl⟩
  · have hpl : pl = 0 := by rcases (show pl = 0 ∨ pl = 1 by omega) with q | q; exact q; exact absurd c1 (by rw [hx0, q]; decide)
    subst hpl
    refine gz_aload_n hC dX6_isTrueFor_4 rfl ?_
    refine gz_iload_n hC dX6_isTrueFor_5 rfl ?_
    refine gz_iload_n hC dX6_isTrueFor_6 rfl ?_
    refine gz_iload hC dX6_isTrueFor_7 rfl ?_
    refine gz_callV3 hC dX6_isTrueFor_9 ml_X6_76 rfl rfl (by decide) (by decide) (Nat.le_of_ble_eq_true rfl) (ct_X6_isTrue hJ _ _ d0 d1 F w hO hX own oth b _ _ _ hx1 hx2 hx3 ho hh hb) (fun v9 M9 hp9 => ?_)
    obtain ⟨rfl, rfl⟩ := hp9
    refine gz_goto hC 23 dX6_isTrueFor_12 (by decide) ?_
    exact gz_zret (gz_bn _) hC dX6_isTrueFor_23 ⟨rfl, rfl⟩
set_option maxHeartbeats 4000000 in
set_option maxRecDepth 100000 in
theorem ct_X6_waysToHold (hJ : gz_inj ad lx_lay) (I : Nat → Nat → Int32) (G : Nat → Nat → UInt64) (d0 d1 F : Nat) (w : Bool) (hO : cf_ok d0 d1 F) (hX : xi_tab d0 d1 F w I) (pl h b : Nat) (x0 x1 x2 : Int32) (hp : pl < 2) (hx0 : x0 = nI pl) (hx1 : x1 = nI h) (hx2 : x2 = nI b) (hh : h < tb_n (tb_d d0 d1 pl) F) (hb : b < (d0 + d1) * F) : gz_Ct l D ad cy lx_lay yX6_waysToHold cX6_waysToHold 7 (some .int) 3 [.ref (ad 1), .int x0, .int x1, .int x2] (I, G) (fun v M1 => v = some (.int (nI (tb_wh d0 d1 F w pl h b (tb_n (tb_d d0 d1 (1 - pl)) F)))) ∧ M1 = (I, G)) := by
  have hK1 := lx_cupP (show 1 - pl < 2 by omega)
  have hC1 := xi_cupP hX (show 1 - pl < 2 by omega)
  obtain ⟨T1, T2, T3, T4, T5, T6, T7, T8, T9⟩ := tb_facts (cf_okP hO (show 1 - pl < 2 by omega))
  refine gz_met (by decide +kernel) hJ (Nat.le_of_ble_eq_true rfl) ?_
  intro p e s m args below meth c hC
  refine gz_aload_n hC dX6_waysToHold_0 rfl ?_
  refine gz_iconst hC (1) dX6_waysToHold_1 (by decide) ?_
  refine gz_iload_n hC dX6_waysToHold_2 rfl ?_
  refine gz_isub hC dX6_waysToHold_3 ?_
  refine gz_callV1 hC dX6_waysToHold_4 ml_X6_80 rfl rfl (by decide) (by decide) (Nat.le_of_ble_eq_true rfl) (ct_X6_cup hJ _ _ _ (3 + 4 * (1 - pl)) (by rw [hx0]; match pl, hp with | 0, _ => exact Or.inr ⟨by decide, rfl⟩ | 1, _ => exact Or.inl ⟨rfl, rfl⟩)) (fun v4 M4 hp4 => ?_)
  obtain ⟨rfl, rfl⟩ := hp4
  refine gz_astore hC dX6_waysToHold_7 (by decide) ?_
  refine gz_iconst hC (0) dX6_waysToHold_9 (by decide) ?_
  refine gz_istore hC dX6_waysToHold_10 (by decide) ?_
  refine gz_iconst hC (0) dX6_waysToHold_12 (by decide) ?_
  refine gz_istore hC dX6_waysToHold_13 (by decide) ?_
  have lp : ∀ (n i : Nat) (y z : Int32) (hi : i + n = tb_n (tb_d d0 d1 (1 - pl)) F) (hy : y = nI (tb_wh d0 d1 F w pl h b i)) (hz : z = nI i), gz_W p l e (gz_rm 3) s m args below meth c D ad cy lx_lay 7 (MQ below (gz_Q D ad cy lx_lay (fun v M1 => v = some (.int (nI (tb_wh d0 d1 F w pl h b (tb_n (tb_d d0 d1 (1 - pl)) F)))) ∧ M1 = (I, G))) args s 0 0 (gz_A ad lx_lay)) (I, G) 15 [(0, .ref (ad 1)), (1, .int x0), (2, .int x1), (3, .int x2), (4, .ref (ad (3 + 4 * (1 - pl)))), (5, .int y), (6, .int z)] [] := by
    intro n
    induction n with
    | zero =>
      intro i y z hi hy hz
      refine gz_iload hC dX6_waysToHold_15 rfl ?_
      refine gz_aload hC dX6_waysToHold_17 rfl ?_
      refine gz_getIN (j := 5) hC dX6_waysToHold_19 cf_X1 fl_X6_43 hK1.1 rfl (by decide) ?_
      refine gz_icmp_ge hC 55 dX6_waysToHold_22 (by decide) (fun c22 => ?_) (fun c22 => ?_)
      · refine gz_iload hC dX6_waysToHold_55 rfl ?_
        exact gz_iret hC dX6_waysToHold_57 ⟨gz_v (by rw [hy, show i = tb_n (tb_d d0 d1 (1 - pl)) F by omega]), rfl⟩
      · exact absurd (gz_ile hC1.2.2.1 hz (by omega) (by omega)) c22
    | succ n ih =>
      intro i y z hi hy hz
      refine gz_iload hC dX6_waysToHold_15 rfl ?_
      refine gz_aload hC dX6_waysToHold_17 rfl ?_
      refine gz_getIN (j := 5) hC dX6_waysToHold_19 cf_X1 fl_X6_43 hK1.1 rfl (by decide) ?_
      refine gz_icmp_ge hC 55 dX6_waysToHold_22 (by decide) (fun c22 => ?_) (fun c22 => ?_)
      · exact absurd c22 (gz_inle hC1.2.2.1 hz (by omega) (by omega))
      · refine gz_aload_n hC dX6_waysToHold_25 rfl ?_
        refine gz_iload_n hC dX6_waysToHold_26 rfl ?_
        refine gz_iload_n hC dX6_waysToHold_27 rfl ?_
        refine gz_iload hC dX6_waysToHold_28 rfl ?_
        refine gz_iload_n hC dX6_waysToHold_30 rfl ?_
        refine gz_callV4 hC dX6_waysToHold_31 ml_X6_84 rfl rfl (by decide) (by decide) (Nat.le_of_ble_eq_true rfl) (ct_X6_isTrueFor hJ _ _ d0 d1 F w hO hX pl h i b _ _ _ _ hp hx0 hx1 hz hx2 hh (by omega) hb) (fun v31 M31 hp31 => ?_)
        obtain ⟨rfl, rfl⟩ := hp31
        refine gz_if_eq hC 49 dX6_waysToHold_34 (by decide) (fun c34 => ?_) (fun c34 => ?_)
        · refine gz_iinc hC (1) dX6_waysToHold_49 rfl (by decide) (by decide) ?_
          refine gz_goto hC 15 dX6_waysToHold_52 (by decide) ?_
          first
            | (have hb0 := gz_b1 c34
               refine gz_lw [(0, .ref (ad 1)), (1, .int x0), (2, .int x1), (3, .int x2), (4, .ref (ad (3 + 4 * (1 - pl)))), (5, .int (y + nI (tb_w (tb_d d0 d1 (1 - pl)) F i))), (6, .int (z + 1))] ⟨rfl, rfl, rfl, rfl, rfl, rfl, rfl, trivial⟩ ?_
               exact ih (i + 1) _ _ (by omega) (by rw [hy, nI_add]; show _ = nI (tb_wh d0 d1 F w pl h b i + cond (tb_tf d0 d1 F w pl h i b) (tb_w (tb_d d0 d1 (1 - pl)) F i) 0); rw [hb0]; rfl) (gz_i1 hz)
               done)
            | (have hb0 := gz_b0 c34
               refine gz_lw [(0, .ref (ad 1)), (1, .int x0), (2, .int x1), (3, .int x2), (4, .ref (ad (3 + 4 * (1 - pl)))), (5, .int y), (6, .int (z + 1))] ⟨rfl, rfl, rfl, rfl, rfl, rfl, rfl, trivial⟩ ?_
               exact ih (i + 1) _ _ (by omega) (by rw [hy]; show _ = nI (tb_wh d0 d1 F w pl h b i + cond (tb_tf d0 d1 F w pl h i b) (tb_w (tb_d d0 d1 (1 - pl)) F i) 0); rw [hb0]; rfl) (gz_i1 hz)
               done)
        · refine gz_iload hC dX6_waysToHold_37 rfl ?_
          refine gz_aload hC dX6_waysToHold_39 rfl ?_
          refine gz_iload hC dX6_waysToHold_41 rfl ?_
          refine gz_callV1 hC dX6_waysToHold_43 ml_X6_88 hK1.1 rfl (by decide) (by decide) (Nat.le_of_ble_eq_true rfl) (ct_X1_waysOf hJ _ _ _ hK1 i _ hz (by omega)) (fun v43 M43 hp43 => ?_)
          obtain ⟨rfl, rfl⟩ := hp43
          rw [hC1.2.2.2.2 i (by omega)]
          refine gz_iadd hC dX6_waysToHold_46 ?_
          refine gz_istore hC dX6_waysToHold_47 (by decide) ?_
          refine gz_iinc hC (1) dX6_waysToHold_49 rfl (by decide) (by decide) ?_
          refine gz_goto hC 15 dX6_waysToHold_52 (by decide) ?_
          first
            | (have hb0 := gz_b1 c34
               refine gz_lw [(0, .ref (ad 1)), (1, .int x0), (2, .int x1), (3, .int x2), (4, .ref (ad (3 + 4 * (1 - pl)))), (5, .int (y + nI (tb_w (tb_d d0 d1 (1 - pl)) F i))), (6, .int (z + 1))] ⟨rfl, rfl, rfl, rfl, rfl, rfl, rfl, trivial⟩ ?_
               exact ih (i + 1) _ _ (by omega) (by rw [hy, nI_add]; show _ = nI (tb_wh d0 d1 F w pl h b i + cond (tb_tf d0 d1 F w pl h i b) (tb_w (tb_d d0 d1 (1 - pl)) F i) 0); rw [hb0]; rfl) (gz_i1 hz)
               done)
            | (have hb0 := gz_b0 c34
               refine gz_lw [(0, .ref (ad 1)), (1, .int x0), (2, .int x1), (3, .int x2), (4, .ref (ad (3 + 4 * (1 - pl)))), (5, .int y), (6, .int (z + 1))] ⟨rfl, rfl, rfl, rfl, rfl, rfl, rfl, trivial⟩ ?_
               exact ih (i + 1) _ _ (by omega) (by rw [hy]; show _ = nI (tb_wh d0 d1 F w pl h b i + cond (tb_tf d0 d1 F w pl h i b) (tb_w (tb_d d0 d1 (1 - pl)) F i) 0); rw [hb0]; rfl) (gz_i1 hz)
               done)
  exact gz_lw [(0, .ref (ad 1)), (1, .int x0), (2, .int x1), (3, .int x2), (4, .ref (ad (3 + 4 * (1 - pl)))), (5, .int 0), (6, .int 0)] ⟨rfl, rfl, rfl, rfl, rfl, rfl, rfl, trivial⟩ (lp (tb_n (tb_d d0 d1 (1 - pl)) F) 0 0 0 (by omega) rfl rfl)
  -- places not laid: [17, 19, 22, 25, 26, 27, 28, 30, 31, 34, 37, 39, 41, 43, 46, 47, 49, 52, 55, 57]
set_option maxHeartbeats 4000000 in
set_option maxRecDepth 100000 in
theorem ct_X6_meanOf (hJ : gz_inj ad lx_lay) (I : Nat → Nat → Int32) (G : Nat → Nat → UInt64) (d0 d1 F : Nat) (w : Bool) (hO : cf_ok d0 d1 F) (hX : xi_tab d0 d1 F w I) (sm : UInt64) (hn : vf_n64 (FP.ddiv sm (FP.i2d (nI (F ^ d0 * F ^ d1))))) : gz_Ct l D ad cy lx_lay yX6_meanOf cX6_meanOf 5 (some .double) 1 [.ref (ad 1), .double sm] (I, G) (fun v M1 => v = some (.double (FP.ddiv sm (FP.i2d (nI (F ^ d0 * F ^ d1))))) ∧ M1 = (I, G)) := by
  obtain ⟨T1, T2, T3, T4, T5, T6, T7, T8, T9⟩ := tb_facts hO.1
  obtain ⟨U1, U2, U3, U4, U5, U6, U7, U8, U9⟩ := tb_facts hO.2.1
  have hO3 := hO.2.2
  refine gz_met (by decide +kernel) hJ (Nat.le_of_ble_eq_true rfl) ?_
  intro p e s m args below meth c hC
  refine gz_aload_n hC dX6_meanOf_0 rfl ?_
  refine gz_getR (j := 0) hC dX6_meanOf_1 cf_X6 fl_X6_12 rfl rfl (by decide) ?_
  refine gz_callV0 hC dX6_meanOf_4 ml_X6_92 rfl rfl (by decide) (by decide) (Nat.le_of_ble_eq_true rfl) (ct_X1_allWays hJ _ _ 3 lx_cup3 d0 F hX.2.2.2.1.1 hX.2.2.2.1.2.1 (by omega)) (fun v4 M4 hp4 => ?_)
  obtain ⟨rfl, rfl⟩ := hp4
  refine gz_aload_n hC dX6_meanOf_7 rfl ?_
  refine gz_getR (j := 1) hC dX6_meanOf_8 cf_X6 fl_X6_18 rfl rfl (by decide) ?_
  refine gz_callV0 hC dX6_meanOf_11 ml_X6_92 rfl rfl (by decide) (by decide) (Nat.le_of_ble_eq_true rfl) (ct_X1_allWays hJ _ _ 7 lx_cup7 d1 F hX.2.2.2.2.1.1 hX.2.2.2.2.1.2.1 (by omega)) (fun v11 M11 hp11 => ?_)
  obtain ⟨rfl, rfl⟩ := hp11
  refine gz_imul hC dX6_meanOf_14 ?_
  rw [pk_mul]
  refine gz_i2d hC dX6_meanOf_15 ?_
  refine gz_dstore_n hC dX6_meanOf_16 (by decide) ?_
  refine gz_dload_n hC dX6_meanOf_17 rfl ?_
  refine gz_dconst0 hC dX6_meanOf_18 ?_
  refine gz_dcmp hC dX6_meanOf_19 ?_
  rw [cf_pow hO]
  refine gz_if_le hC 29 dX6_meanOf_20 (by decide) (fun c20 => ?_) (fun c20 => ?_)
  · exact absurd c20 (by decide)
  · refine gz_dload_n hC dX6_meanOf_23 rfl ?_
    refine gz_dload_n hC dX6_meanOf_24 rfl ?_
    refine gz_ddiv hC dX6_meanOf_25 hn ?_
    refine gz_goto hC 30 dX6_meanOf_26 (by decide) ?_
    exact gz_dret hC dX6_meanOf_30 ⟨rfl, rfl⟩
  -- places not laid: [29]
end CT
end
section
/-! the table laid anew: all bids judged -/
theorem xi_cup_fr {k d F : Nat} {I J : Nat → Nat → Int32} (h : xi_cup k d F I) (h0 : J k = I k) (h1 : J (k + 1) = I (k + 1)) (h2 : J (k + 2) = I (k + 2)) : xi_cup k d F J := by
  unfold xi_cup
  rw [h0, h1, h2]
  exact h
section CT
variable {l : Launch} {D : va_G} {ad : Nat → Nat} {cy : Nat → ClassId}
set_option maxHeartbeats 4000000 in
set_option maxRecDepth 100000 in
theorem ct_X6_judgeBids (hJ : gz_inj ad lx_lay) (I : Nat → Nat → Int32) (G : Nat → Nat → UInt64) (d0 d1 F : Nat) (w : Bool) (hw : I 1 5 = gz_b w) (hF : I 1 3 = nI F) (hbd : I 1 4 = nI ((d0 + d1) * F)) (hc0 : xi_cup 3 d0 F I) (hc1 : xi_cup 7 d1 F I) (hO : cf_ok d0 d1 F) : gz_Ct l D ad cy lx_lay yX6_judgeBids cX6_judgeBids 4 none 4 [.ref (ad 1)] (I, G) (fun v M1 => ∃ I1, v = none ∧ M1 = (I1, G) ∧ (∀ o, o ≠ 2 → I1 o = I o) ∧ ∀ g, g < tb_n d0 F → ∀ h, h < tb_n d1 F → ∀ b, b < (d0 + d1) * F → I1 2 ((g * 4 + h) * 8 + b) = gz_b (tb_t d0 d1 F w g h b)) := by
  obtain ⟨T1, T2, T3, T4, T5, T6, T7, T8, T9⟩ := tb_facts hO.1
  obtain ⟨U1, U2, U3, U4, U5, U6, U7, U8, U9⟩ := tb_facts hO.2.1
  have hO3 := hO.2.2
  refine gz_met (by decide +kernel) hJ (Nat.le_of_ble_eq_true rfl) ?_
  intro p e s m args below meth c hC
  refine gz_iconst hC (0) dX6_judgeBids_0 (by decide) ?_
  refine gz_istore_n hC dX6_judgeBids_1 (by decide) ?_
  have lp1 : ∀ (n1 g : Nat) (J : Nat → Nat → Int32) (x1 : Int32) (hi1 : g + n1 = tb_n d0 F) (hx1 : x1 = nI g) (hJ2 : ∀ o, o ≠ 2 → J o = I o) (hA : ∀ g2, g2 < g → ∀ h2, h2 < tb_n d1 F → ∀ b2, b2 < (d0 + d1) * F → J 2 ((g2 * 4 + h2) * 8 + b2) = gz_b (tb_t d0 d1 F w g2 h2 b2)), gz_W p l e (gz_rm 4) s m args below meth c D ad cy lx_lay 4 (MQ below (gz_Q D ad cy lx_lay (fun v M1 => ∃ I1, v = none ∧ M1 = (I1, G) ∧ (∀ o, o ≠ 2 → I1 o = I o) ∧ ∀ g, g < tb_n d0 F → ∀ h, h < tb_n d1 F → ∀ b, b < (d0 + d1) * F → I1 2 ((g * 4 + h) * 8 + b) = gz_b (tb_t d0 d1 F w g h b))) args s 0 0 (gz_A ad lx_lay)) (J, G) 2 [(0, .ref (ad 1)), (1, .int x1)] [] := by
    intro n1
    induction n1 with
    | zero =>
      intro g J x1 hi1 hx1 hJ2 hA
      refine gz_iload_n hC dX6_judgeBids_2 rfl ?_
      refine gz_aload_n hC dX6_judgeBids_3 rfl ?_
      refine gz_getR (j := 0) hC dX6_judgeBids_4 cf_X6 fl_X6_12 rfl rfl (by decide) ?_
      refine gz_getIN (j := 5) hC dX6_judgeBids_7 cf_X1 fl_X6_43 rfl rfl (by decide) ?_
      refine gz_icmp_ge hC 61 dX6_judgeBids_10 (by decide) (fun c10 => ?_) (fun c10 => ?_)
      · exact gz_vret hC dX6_judgeBids_61 ⟨J, rfl, rfl, hJ2, fun g2 hg2 => hA g2 (by omega)⟩
      · exact absurd (gz_ile (by rw [hJ2 3 (by decide)]; exact hc0.2.2.1) hx1 (by omega) (by omega)) c10
    | succ n1 ih1 =>
      intro g J x1 hi1 hx1 hJ2 hA
      refine gz_iload_n hC dX6_judgeBids_2 rfl ?_
      refine gz_aload_n hC dX6_judgeBids_3 rfl ?_
      refine gz_getR (j := 0) hC dX6_judgeBids_4 cf_X6 fl_X6_12 rfl rfl (by decide) ?_
      refine gz_getIN (j := 5) hC dX6_judgeBids_7 cf_X1 fl_X6_43 rfl rfl (by decide) ?_
      refine gz_icmp_ge hC 61 dX6_judgeBids_10 (by decide) (fun c10 => ?_) (fun c10 => ?_)
      · exact absurd c10 (gz_inle (by rw [hJ2 3 (by decide)]; exact hc0.2.2.1) hx1 (by omega) (by omega))
      · refine gz_iconst hC (0) dX6_judgeBids_13 (by decide) ?_
        refine gz_istore_n hC dX6_judgeBids_14 (by decide) ?_
        have lp2 : ∀ (n2 h : Nat) (J : Nat → Nat → Int32) (x2 : Int32) (hi2 : h + n2 = tb_n d1 F) (hx2 : x2 = nI h) (hJ2 : ∀ o, o ≠ 2 → J o = I o) (hA : ∀ g2, g2 < g → ∀ h2, h2 < tb_n d1 F → ∀ b2, b2 < (d0 + d1) * F → J 2 ((g2 * 4 + h2) * 8 + b2) = gz_b (tb_t d0 d1 F w g2 h2 b2)) (hB : ∀ h2, h2 < h → ∀ b2, b2 < (d0 + d1) * F → J 2 ((g * 4 + h2) * 8 + b2) = gz_b (tb_t d0 d1 F w g h2 b2)), gz_W p l e (gz_rm 4) s m args below meth c D ad cy lx_lay 4 (MQ below (gz_Q D ad cy lx_lay (fun v M1 => ∃ I1, v = none ∧ M1 = (I1, G) ∧ (∀ o, o ≠ 2 → I1 o = I o) ∧ ∀ g, g < tb_n d0 F → ∀ h, h < tb_n d1 F → ∀ b, b < (d0 + d1) * F → I1 2 ((g * 4 + h) * 8 + b) = gz_b (tb_t d0 d1 F w g h b))) args s 0 0 (gz_A ad lx_lay)) (J, G) 15 [(0, .ref (ad 1)), (1, .int x1), (2, .int x2)] [] := by
          intro n2
          induction n2 with
          | zero =>
            intro h J x2 hi2 hx2 hJ2 hA hB
            refine gz_iload_n hC dX6_judgeBids_15 rfl ?_
            refine gz_aload_n hC dX6_judgeBids_16 rfl ?_
            refine gz_getR (j := 1) hC dX6_judgeBids_17 cf_X6 fl_X6_18 rfl rfl (by decide) ?_
            refine gz_getIN (j := 5) hC dX6_judgeBids_20 cf_X1 fl_X6_43 rfl rfl (by decide) ?_
            refine gz_icmp_ge hC 55 dX6_judgeBids_23 (by decide) (fun c23 => ?_) (fun c23 => ?_)
            · refine gz_iinc hC (1) dX6_judgeBids_55 rfl (by decide) (by decide) ?_
              refine gz_goto hC 2 dX6_judgeBids_58 (by decide) ?_
              refine gz_lw [(0, .ref (ad 1)), (1, .int (x1 + 1))] ⟨rfl, rfl, trivial⟩ ?_
              exact ih1 (g + 1) J _ (by omega) (gz_i1 hx1) hJ2 (fun g2 hg2 h2 hh2 b2 hb2 => by
                by_cases e : g2 = g
                · subst e; exact hB h2 (by omega) b2 hb2
                · exact hA g2 (by omega) h2 hh2 b2 hb2)
            · exact absurd (gz_ile (by rw [hJ2 7 (by decide)]; exact hc1.2.2.1) hx2 (by omega) (by omega)) c23
          | succ n2 ih2 =>
            intro h J x2 hi2 hx2 hJ2 hA hB
            refine gz_iload_n hC dX6_judgeBids_15 rfl ?_
            refine gz_aload_n hC dX6_judgeBids_16 rfl ?_
            refine gz_getR (j := 1) hC dX6_judgeBids_17 cf_X6 fl_X6_18 rfl rfl (by decide) ?_
            refine gz_getIN (j := 5) hC dX6_judgeBids_20 cf_X1 fl_X6_43 rfl rfl (by decide) ?_
            refine gz_icmp_ge hC 55 dX6_judgeBids_23 (by decide) (fun c23 => ?_) (fun c23 => ?_)
            · exact absurd c23 (gz_inle (by rw [hJ2 7 (by decide)]; exact hc1.2.2.1) hx2 (by omega) (by omega))
            · refine gz_iconst hC (0) dX6_judgeBids_26 (by decide) ?_
              refine gz_istore_n hC dX6_judgeBids_27 (by decide) ?_
              have lp3 : ∀ (n3 b : Nat) (J : Nat → Nat → Int32) (x3 : Int32) (hi3 : b + n3 = (d0 + d1) * F) (hx3 : x3 = nI b) (hJ2 : ∀ o, o ≠ 2 → J o = I o) (hA : ∀ g2, g2 < g → ∀ h2, h2 < tb_n d1 F → ∀ b2, b2 < (d0 + d1) * F → J 2 ((g2 * 4 + h2) * 8 + b2) = gz_b (tb_t d0 d1 F w g2 h2 b2)) (hB : ∀ h2, h2 < h → ∀ b2, b2 < (d0 + d1) * F → J 2 ((g * 4 + h2) * 8 + b2) = gz_b (tb_t d0 d1 F w g h2 b2)) (hE : ∀ b2, b2 < b → J 2 ((g * 4 + h) * 8 + b2) = gz_b (tb_t d0 d1 F w g h b2)), gz_W p l e (gz_rm 4) s m args below meth c D ad cy lx_lay 4 (MQ below (gz_Q D ad cy lx_lay (fun v M1 => ∃ I1, v = none ∧ M1 = (I1, G) ∧ (∀ o, o ≠ 2 → I1 o = I o) ∧ ∀ g, g < tb_n d0 F → ∀ h, h < tb_n d1 F → ∀ b, b < (d0 + d1) * F → I1 2 ((g * 4 + h) * 8 + b) = gz_b (tb_t d0 d1 F w g h b))) args s 0 0 (gz_A ad lx_lay)) (J, G) 28 [(0, .ref (ad 1)), (1, .int x1), (2, .int x2), (3, .int x3)] [] := by
                intro n3
                induction n3 with
                | zero =>
                  intro b J x3 hi3 hx3 hJ2 hA hB hE
                  refine gz_iload_n hC dX6_judgeBids_28 rfl ?_
                  refine gz_aload_n hC dX6_judgeBids_29 rfl ?_
                  refine gz_getI (j := 4) hC dX6_judgeBids_30 cf_X6 fl_X6_33 rfl rfl (by decide) ?_
                  refine gz_icmp_ge hC 49 dX6_judgeBids_33 (by decide) (fun c33 => ?_) (fun c33 => ?_)
                  · refine gz_iinc hC (1) dX6_judgeBids_49 rfl (by decide) (by decide) ?_
                    refine gz_goto hC 15 dX6_judgeBids_52 (by decide) ?_
                    refine gz_lw [(0, .ref (ad 1)), (1, .int x1), (2, .int (x2 + 1))] ⟨rfl, rfl, rfl, trivial⟩ ?_
                    exact ih2 (h + 1) J _ (by omega) (gz_i1 hx2) hJ2 hA (fun h2 hh2 b2 hb2 => by
                      by_cases e : h2 = h
                      · subst e; exact hE b2 (by omega)
                      · exact hB h2 (by omega) b2 hb2)
                  · exact absurd (gz_ile (by rw [hJ2 1 (by decide)]; exact hbd) hx3 (by omega) (by omega)) c33
                | succ n3 ih3 =>
                  intro b J x3 hi3 hx3 hJ2 hA hB hE
                  refine gz_iload_n hC dX6_judgeBids_28 rfl ?_
                  refine gz_aload_n hC dX6_judgeBids_29 rfl ?_
                  refine gz_getI (j := 4) hC dX6_judgeBids_30 cf_X6 fl_X6_33 rfl rfl (by decide) ?_
                  refine gz_icmp_ge hC 49 dX6_judgeBids_33 (by decide) (fun c33 => ?_) (fun c33 => ?_)
                  · exact absurd c33 (gz_inle (by rw [hJ2 1 (by decide)]; exact hbd) hx3 (by omega) (by omega))
                  · refine gz_aload_n hC dX6_judgeBids_36 rfl ?_
                    refine gz_iload_n hC dX6_judgeBids_37 rfl ?_
                    refine gz_iload_n hC dX6_judgeBids_38 rfl ?_
                    refine gz_iload_n hC dX6_judgeBids_39 rfl ?_
                    refine gz_callV3 hC dX6_judgeBids_40 ml_X6_46 rfl rfl (by decide) (by decide) (Nat.le_of_ble_eq_true rfl) (ct_X6_judge hJ _ _ d0 d1 F w (by rw [hJ2 1 (by decide)]; exact hw) (by rw [hJ2 1 (by decide)]; exact hF) (xi_cup_fr hc0 (hJ2 3 (by decide)) (hJ2 4 (by decide)) (hJ2 5 (by decide))) (xi_cup_fr hc1 (hJ2 7 (by decide)) (hJ2 8 (by decide)) (hJ2 9 (by decide))) hO g h b _ _ _ hx1 hx2 hx3 (by omega) (by omega) (by omega)) (fun v40 M40 hp40 => ?_)
                    obtain ⟨rfl, rfl⟩ := hp40
                    refine gz_iinc hC (1) dX6_judgeBids_43 rfl (by decide) (by decide) ?_
                    refine gz_goto hC 28 dX6_judgeBids_46 (by decide) ?_
                    refine gz_lw [(0, .ref (ad 1)), (1, .int x1), (2, .int x2), (3, .int (x3 + 1))] ⟨rfl, rfl, rfl, rfl, trivial⟩ ?_
                    exact ih3 (b + 1) _ _ (by omega) (gz_i1 hx3) (fun o ho => (gz_up_ne ho).trans (hJ2 o ho)) (fun g2 hg2 h2 hh2 b2 hb2 => (gz_up_oth (by omega)).trans (hA g2 hg2 h2 hh2 b2 hb2)) (fun h2 hh2 b2 hb2 => (gz_up_oth (by omega)).trans (hB h2 hh2 b2 hb2)) (fun b2 hb2 => by
                      by_cases e : b2 = b
                      · subst e; exact gz_up_self
                      · exact (gz_up_oth (by omega)).trans (hE b2 (by omega)))
              exact gz_lw [(0, .ref (ad 1)), (1, .int x1), (2, .int x2), (3, .int 0)] ⟨rfl, rfl, rfl, rfl, trivial⟩ (lp3 ((d0 + d1) * F) 0 J 0 (by omega) rfl hJ2 hA hB (fun b2 hb2 => absurd hb2 (Nat.not_lt_zero b2)))
        exact gz_lw [(0, .ref (ad 1)), (1, .int x1), (2, .int 0)] ⟨rfl, rfl, rfl, trivial⟩ (lp2 (tb_n d1 F) 0 J 0 (by omega) rfl hJ2 hA (fun h2 hh2 => absurd hh2 (Nat.not_lt_zero h2)))
  exact gz_lw [(0, .ref (ad 1)), (1, .int 0)] ⟨rfl, rfl, trivial⟩ (lp1 (tb_n d0 F) 0 I 0 (by omega) rfl (fun _ _ => rfl) (fun g2 hg2 => absurd hg2 (Nat.not_lt_zero g2)))
  -- places not laid: [3, 4, 7, 10, 13, 14, 15, 16, 17, 20, 23, 26, 27, 28, 29, 30, 33, 36, 37, 38, 39, 40, 43, 46, 49, 52, 55, 58, 61]
set_option maxHeartbeats 4000000 in
set_option maxRecDepth 100000 in
theorem ct_X6_lay (hJ : gz_inj ad lx_lay) (I : Nat → Nat → Int32) (G : Nat → Nat → UInt64) (d0 d1 F : Nat) (w : Bool) (x1 x2 x3 x4 : Int32) (hx1 : x1 = nI d0) (hx2 : x2 = nI d1) (hx3 : x3 = nI F) (hx4 : x4 = gz_b w) (hO : cf_ok d0 d1 F) : gz_Ct l D ad cy lx_lay yX6_lay cX6_lay 5 none 5 [.ref (ad 1), .int x1, .int x2, .int x3, .int x4] (I, G) (fun v M1 => ∃ I1, v = none ∧ M1 = (I1, G) ∧ xi_tab d0 d1 F w I1 ∧ ∀ o, o = 0 ∨ 10 < o → I1 o = I o) := by
  refine gz_met (by decide +kernel) hJ (Nat.le_of_ble_eq_true rfl) ?_
  intro p e s m args below meth c hC
  refine gz_aload_n hC dX6_lay_0 rfl ?_
  refine gz_iload_n hC dX6_lay_1 rfl ?_
  refine gz_put (j := 3) hC dX6_lay_2 cf_X6 fl_X6_25 rfl rfl (by decide) rfl rfl rfl ?_
  refine gz_aload_n hC dX6_lay_5 rfl ?_
  refine gz_iload hC dX6_lay_6 rfl ?_
  refine gz_put (j := 5) hC dX6_lay_8 cf_X6 fl_X6_29 rfl rfl (by decide) rfl (by rw [hx4]; exact gz_bn w) (by rw [hx4]; exact gz_bf w) ?_
  refine gz_aload_n hC dX6_lay_11 rfl ?_
  refine gz_iload_n hC dX6_lay_12 rfl ?_
  refine gz_iload_n hC dX6_lay_13 rfl ?_
  refine gz_iadd hC dX6_lay_14 ?_
  refine gz_iload_n hC dX6_lay_15 rfl ?_
  refine gz_imul hC dX6_lay_16 ?_
  rw [hx1, hx2, hx3, nI_add, pk_mul]
  refine gz_put (j := 4) hC dX6_lay_17 cf_X6 fl_X6_33 rfl rfl (by decide) rfl rfl rfl ?_
  obtain ⟨J, hJd⟩ : ∃ J, J = gz_up (gz_up (gz_up I 1 3 (nI F)) 1 5 x4) 1 4 (nI ((d0 + d1) * F)) := ⟨_, rfl⟩
  rw [← hJd]
  have j3 : J 1 3 = nI F := by rw [hJd, gz_up_oth (by decide), gz_up_oth (by decide), gz_up_self]
  have j5 : J 1 5 = gz_b w := by rw [hJd, gz_up_oth (by decide), gz_up_self, hx4]
  have j4 : J 1 4 = nI ((d0 + d1) * F) := by rw [hJd, gz_up_self]
  have jo : ∀ o, o ≠ 1 → J o = I o := fun o ho => by rw [hJd, gz_up_ne ho, gz_up_ne ho, gz_up_ne ho]
  refine gz_aload_n hC dX6_lay_20 rfl ?_
  refine gz_getR (j := 0) hC dX6_lay_21 cf_X6 fl_X6_12 rfl rfl (by decide) ?_
  refine gz_iload_n hC dX6_lay_24 rfl ?_
  refine gz_iload_n hC dX6_lay_25 rfl ?_
  refine gz_callV2 hC dX6_lay_26 ml_X6_36 lx_cup3.1 rfl (by decide) (by decide) (Nat.le_of_ble_eq_true rfl) (ct_X1_fill hJ _ _ 3 lx_cup3 d0 F _ _ rfl rfl hO.1) (fun v26 M26 hp26 => ?_)
  obtain ⟨J1, rfl, rfl, k1, k2⟩ := hp26
  refine gz_aload_n hC dX6_lay_29 rfl ?_
  refine gz_getR (j := 1) hC dX6_lay_30 cf_X6 fl_X6_18 rfl rfl (by decide) ?_
  refine gz_iload_n hC dX6_lay_33 rfl ?_
  refine gz_iload_n hC dX6_lay_34 rfl ?_
  refine gz_callV2 hC dX6_lay_35 ml_X6_36 lx_cup7.1 rfl (by decide) (by decide) (Nat.le_of_ble_eq_true rfl) (ct_X1_fill hJ _ _ 7 lx_cup7 d1 F _ _ rfl rfl hO.2.1) (fun v35 M35 hp35 => ?_)
  obtain ⟨J2, rfl, rfl, k3, k4⟩ := hp35
  have e1 : J2 1 = J 1 := (k4 1 (by decide) (by decide) (by decide) (by decide)).trans (k2 1 (by decide) (by decide) (by decide) (by decide))
  have k5 := xi_cup_fr k1 (k4 3 (by decide) (by decide) (by decide) (by decide)) (k4 4 (by decide) (by decide) (by decide) (by decide)) (k4 5 (by decide) (by decide) (by decide) (by decide))
  refine gz_aload_n hC dX6_lay_38 rfl ?_
  refine gz_callV0 hC dX6_lay_39 ml_X6_40 rfl rfl (by decide) (by decide) (Nat.le_of_ble_eq_true rfl) (ct_X6_judgeBids hJ _ _ d0 d1 F w (by rw [e1]; exact j5) (by rw [e1]; exact j3) (by rw [e1]; exact j4) k5 k3 hO) (fun v39 M39 hp39 => ?_)
  obtain ⟨J3, rfl, rfl, k6, k7⟩ := hp39
  exact gz_vret hC dX6_lay_42 ⟨J3, rfl, rfl, ⟨by rw [k6 1 (by decide), e1]; exact j3, by rw [k6 1 (by decide), e1]; exact j4, by rw [k6 1 (by decide), e1]; exact j5, xi_cup_fr k5 (k6 3 (by decide)) (k6 4 (by decide)) (k6 5 (by decide)), xi_cup_fr k3 (k6 7 (by decide)) (k6 8 (by decide)) (k6 9 (by decide)), k7⟩, fun o ho => by rw [k6 o (by omega), k4 o (by omega) (by omega) (by omega) (by omega), k2 o (by omega) (by omega) (by omega) (by omega), jo o (by omega)]⟩
end CT
end
section
/-! what is asked of the table: hands, throws, bids, chances -/
theorem gz_in_t {x : Int32} {n : Nat} (hn : 1 ≤ n) (hn2 : n < 2 ^ 31) (h : gz_in x 0 (nI n - 1) = true) : ∃ j : Nat, j < n ∧ x = nI j := by
  unfold gz_in at h
  simp only [Bool.and_eq_true, Bool.not_eq_true', decide_eq_false_iff_not] at h
  obtain ⟨h1, h2⟩ := h
  obtain ⟨j, hj, rfl⟩ := nI_of h1
  refine ⟨j, ?_, rfl⟩
  obtain ⟨m, rfl⟩ : ∃ m, n = m + 1 := ⟨n - 1, by omega⟩
  rw [nI_pred] at h2
  rcases Nat.lt_or_ge j (m + 1) with q | q
  · exact q
  · exact absurd (nI_lt (show m < j by omega) hj) h2
theorem gz_in_2 {x : Int32} (h : gz_in x 0 1 = true) : ∃ j : Nat, j < 2 ∧ x = nI j := gz_in_t (n := 2) (by decide) (by decide) h
theorem gz_in_m {x : Int32} {a b : Nat} (hb : b < 2 ^ 31) (hab : a ≤ b) (h : gz_in x (nI a) (nI b) = true) : ∃ j : Nat, a ≤ j ∧ j ≤ b ∧ x = nI j := by
  unfold gz_in at h
  simp only [Bool.and_eq_true, Bool.not_eq_true', decide_eq_false_iff_not] at h
  obtain ⟨h1, h2⟩ := h
  have h0 : ¬ x < 0 := fun q => h1 (Int32.lt_of_lt_of_le q (nI_pos' (by omega)))
  obtain ⟨j, hj, rfl⟩ := nI_of h0
  refine ⟨j, ?_, ?_, rfl⟩
  · rcases Nat.lt_or_ge j a with q | q
    · exact absurd (nI_lt q (by omega)) h1
    · exact q
  · rcases Nat.lt_or_ge b j with q | q
    · exact absurd (nI_lt q hj) h2
    · exact q
def sp_hd (d0 d1 F : Nat) (p h : Int32) : Bool := gz_in p 0 1 && gz_in h 0 (nI (tb_n (tb_d d0 d1 p.toNatClampNeg) F) - 1)
def sp_bid (d0 d1 F : Nat) (b : Int32) : Bool := gz_in b 0 (nI ((d0 + d1) * F) - 1)
def sp_bon (d0 d1 F : Nat) (b : Int32) : Bool := decide (b = -1) || sp_bid d0 d1 F b
theorem sp_hd_t {d0 d1 F : Nat} {p h : Int32} (hO : cf_ok d0 d1 F) (hh : sp_hd d0 d1 F p h = true) : ∃ pl k : Nat, pl < 2 ∧ k < tb_n (tb_d d0 d1 pl) F ∧ p = nI pl ∧ h = nI k := by
  unfold sp_hd at hh
  rw [Bool.and_eq_true] at hh
  obtain ⟨pl, hpl, rfl⟩ := gz_in_2 hh.1
  have T := tb_facts (cf_okP hO hpl)
  have h2 := hh.2
  rw [nI_clamp (by omega)] at h2
  obtain ⟨k, hk, rfl⟩ := gz_in_t T.2.2.2.1 (by omega) h2
  exact ⟨pl, k, hpl, hk, rfl, rfl⟩
theorem cf_bids {d0 d1 F : Nat} (hO : cf_ok d0 d1 F) : 1 ≤ (d0 + d1) * F ∧ (d0 + d1) * F ≤ 8 := by
  have T := tb_facts hO.1
  exact ⟨Nat.mul_pos (by omega) (by omega), hO.2.2⟩
theorem sp_bid_t {d0 d1 F : Nat} {b : Int32} (hO : cf_ok d0 d1 F) (h : sp_bid d0 d1 F b = true) : ∃ k : Nat, k < (d0 + d1) * F ∧ b = nI k := gz_in_t (cf_bids hO).1 (by have := (cf_bids hO).2; omega) h
def sp_hands (d0 d1 F : Nat) (p : Int32) : Int32 := cond (gz_in p 0 1) (nI (tb_n (tb_d d0 d1 p.toNatClampNeg) F)) (-2)
def sp_hand (d0 d1 F : Nat) (p h f : Int32) : Int32 := cond (sp_hd d0 d1 F p h && gz_in f 0 (nI F - 1)) (nI (tb_cnt (tb_rw (tb_d d0 d1 p.toNatClampNeg) F h.toNatClampNeg) (tb_d d0 d1 p.toNatClampNeg) f.toNatClampNeg)) (-100)
def sp_throws (d0 d1 F : Nat) (p h : Int32) : Int32 := cond (sp_hd d0 d1 F p h) (nI (tb_w (tb_d d0 d1 p.toNatClampNeg) F h.toNatClampNeg)) (-2)
def sp_holds (d0 d1 F : Nat) (w : Bool) (g h b : Int32) : Int32 := cond (sp_hd d0 d1 F 0 g && (sp_hd d0 d1 F 1 h && sp_bid d0 d1 F b)) (gz_b (tb_t d0 d1 F w g.toNatClampNeg h.toNatClampNeg b.toNatClampNeg)) (-2)
/-- throws of the other one with which a bid holds; all of them -/
def tb_ab (d0 d1 F : Nat) (w : Bool) (pl h b : Nat) : Nat := tb_wh d0 d1 F w pl h b (tb_n (tb_d d0 d1 (1 - pl)) F)
def tb_be (d0 d1 F pl : Nat) : Nat := F ^ tb_d d0 d1 (1 - pl)
def tb_ch (d0 d1 F : Nat) (w : Bool) (pl h b wt : Nat) : Nat := (if wt = 0 then tb_ab d0 d1 F w pl h b else tb_be d0 d1 F pl) / Nat.gcd (tb_ab d0 d1 F w pl h b) (tb_be d0 d1 F pl)
def sp_chance (d0 d1 F : Nat) (w : Bool) (p h b wt : Int32) : Int32 := cond (sp_hd d0 d1 F p h && (sp_bid d0 d1 F b && gz_in wt 0 1)) (nI (tb_ch d0 d1 F w p.toNatClampNeg h.toNatClampNeg b.toNatClampNeg wt.toNatClampNeg)) (-2)
/-- the greatest one below n of a kind -/
def tb_su (q : Nat → Bool) : Nat → Int32
  | 0 => -1
  | n + 1 => cond (q n) (nI n) (tb_su q n)
def sp_surest (d0 d1 F : Nat) (w : Bool) (p h a b : Int32) : Int32 := cond (sp_hd d0 d1 F p h && (gz_in a 1 100 && gz_in b 1 100)) (tb_su (fun k => decide (a.toNatClampNeg * tb_be d0 d1 F p.toNatClampNeg ≤ tb_ab d0 d1 F w p.toNatClampNeg h.toNatClampNeg k * b.toNatClampNeg)) ((d0 + d1) * F)) (-2)
theorem tb_sum_le {f : Nat → Nat} {m : Nat} (h : ∀ k, f k ≤ m) : ∀ n, tb_sum f n ≤ n * m
  | 0 => by simp [tb_sum]
  | n + 1 => by
    have := tb_sum_le h n
    have := h n
    unfold tb_sum
    rw [Nat.succ_mul]
    omega
theorem tb_w_le {d F h : Nat} (hd : d ≤ 3) : tb_w d F h ≤ 6 := Nat.le_trans (tb_ord_le _ _ _) (tb_fac3 hd)
theorem tb_ab_le {d0 d1 F : Nat} (hO : cf_ok d0 d1 F) (w : Bool) (pl h b : Nat) (hp : pl < 2) : tb_ab d0 d1 F w pl h b ≤ 24 := by
  have T := tb_facts (cf_okP hO (show 1 - pl < 2 by omega))
  have := tb_sum_le (f := fun k => cond (tb_tf d0 d1 F w pl h k b) (tb_w (tb_d d0 d1 (1 - pl)) F k) 0) (m := 6) (fun k => by cases tb_tf d0 d1 F w pl h k b; exact Nat.zero_le 6; exact tb_w_le T.2.2.2.2.2.1) (tb_n (tb_d d0 d1 (1 - pl)) F)
  unfold tb_ab tb_wh
  omega
theorem tb_be_in {d0 d1 F : Nat} (hO : cf_ok d0 d1 F) {pl : Nat} (hp : pl < 2) : 1 ≤ tb_be d0 d1 F pl ∧ tb_be d0 d1 F pl ≤ 8 := by
  have h := cf_okP hO (show 1 - pl < 2 by omega)
  unfold tb_be
  rcases h with ⟨e, rfl⟩ | ⟨e, rfl⟩ | ⟨e, rfl⟩ | ⟨e, rfl⟩ | ⟨e, rfl⟩ <;> rw [e] <;> decide
section CT
variable {l : Launch} {D : va_G} {ad : Nat → Nat} {cy : Nat → ClassId}
set_option maxHeartbeats 4000000 in
set_option maxRecDepth 100000 in
theorem ct_X7_isHand (hJ : gz_inj ad lx_lay) (I : Nat → Nat → Int32) (G : Nat → Nat → UInt64) (d0 d1 F : Nat) (w : Bool) (hO : cf_ok d0 d1 F) (hX : xi_tab d0 d1 F w I) (p0 h0 : Int32) : gz_Ct l D ad cy lx_lay yX7_isHand cX7_isHand 3 (some .boolean) 2 [.ref (ad 0), .int p0, .int h0] (I, G) (fun v M1 => v = some (.int (gz_b (sp_hd d0 d1 F p0 h0))) ∧ M1 = (I, G)) := by
  refine gz_met (by decide +kernel) hJ (Nat.le_of_ble_eq_true rfl) ?_
  intro p e s m args below meth c hC
  refine gz_iload_n hC dX7_isHand_0 rfl ?_
  refine gz_callS1 hC dX7_isHand_1 ml_X7_64 (by decide) (by decide) (Nat.le_of_ble_eq_true rfl) (ct_X7_isPlayer hJ _ _ _) (fun v1 M1 hp1 => ?_)
  obtain ⟨rfl, rfl⟩ := hp1
  refine gz_if_eq hC 32 dX7_isHand_4 (by decide) (fun c4 => ?_) (fun c4 => ?_)
  · have q1 := gz_b0 c4
    refine gz_iconst hC (0) dX7_isHand_32 (by decide) ?_
    exact gz_zret rfl hC dX7_isHand_33 ⟨gz_v (by unfold sp_hd; first | (rw [q1, show p0.toNatClampNeg = pl by rw [hp0, nI_clamp (by omega)], q2]; rfl) | (rw [q1]; rfl)), rfl⟩
  · have q1 := gz_b1 c4
    obtain ⟨pl, hpl, hp0⟩ := gz_in_2 q1
    refine gz_iload_n hC dX7_isHand_7 rfl ?_
    refine gz_iconst hC (0) dX7_isHand_8 (by decide) ?_
    refine gz_aload_n hC dX7_isHand_9 rfl ?_
    refine gz_getR (j := 0) hC dX7_isHand_10 cf_X7 fl_X7_12 rfl rfl (by decide) ?_
    refine gz_iload_n hC dX7_isHand_13 rfl ?_
    refine gz_callV1 hC dX7_isHand_14 ml_X7_68 rfl rfl (by decide) (by decide) (Nat.le_of_ble_eq_true rfl) (ct_X6_cup hJ _ _ _ (3 + 4 * pl) (by rw [hp0]; match pl, hpl with | 0, _ => exact Or.inl ⟨rfl, rfl⟩ | 1, _ => exact Or.inr ⟨by decide, rfl⟩)) (fun v14 M14 hp14 => ?_)
    obtain ⟨rfl, rfl⟩ := hp14
    refine gz_getIN (j := 5) hC dX7_isHand_17 cf_X1 fl_X7_72 (lx_cupP hpl).1 rfl (by decide) ?_
    refine gz_iconst hC (1) dX7_isHand_20 (by decide) ?_
    rw [(xi_cupP hX hpl).2.2.1]
    refine gz_isub hC dX7_isHand_21 ?_
    refine gz_callS3 hC dX7_isHand_22 ml_X7_50 (by decide) (by decide) (Nat.le_of_ble_eq_true rfl) (ct_X7_within hJ _ _ _ _ _) (fun v22 M22 hp22 => ?_)
    obtain ⟨rfl, rfl⟩ := hp22
    refine gz_if_eq hC 32 dX7_isHand_25 (by decide) (fun c25 => ?_) (fun c25 => ?_)
    · have q2 := gz_b0 c25
      refine gz_iconst hC (0) dX7_isHand_32 (by decide) ?_
      exact gz_zret rfl hC dX7_isHand_33 ⟨gz_v (by unfold sp_hd; first | (rw [q1, show p0.toNatClampNeg = pl by rw [hp0, nI_clamp (by omega)], q2]; rfl) | (rw [q1]; rfl)), rfl⟩
    · have q2 := gz_b1 c25
      refine gz_iconst hC (1) dX7_isHand_28 (by decide) ?_
      refine gz_goto hC 33 dX7_isHand_29 (by decide) ?_
      exact gz_zret rfl hC dX7_isHand_33 ⟨gz_v (by unfold sp_hd; first | (rw [q1, show p0.toNatClampNeg = pl by rw [hp0, nI_clamp (by omega)], q2]; rfl) | (rw [q1]; rfl)), rfl⟩
set_option maxHeartbeats 4000000 in
set_option maxRecDepth 100000 in
theorem ct_X7_isBid (hJ : gz_inj ad lx_lay) (I : Nat → Nat → Int32) (G : Nat → Nat → UInt64) (d0 d1 F : Nat) (w : Bool) (hO : cf_ok d0 d1 F) (hX : xi_tab d0 d1 F w I) (b : Int32) : gz_Ct l D ad cy lx_lay yX7_isBid cX7_isBid 2 (some .boolean) 1 [.ref (ad 0), .int b] (I, G) (fun v M1 => v = some (.int (gz_b (sp_bid d0 d1 F b))) ∧ M1 = (I, G)) := by
  refine gz_met (by decide +kernel) hJ (Nat.le_of_ble_eq_true rfl) ?_
  intro p e s m args below meth c hC
  refine gz_iload_n hC dX7_isBid_0 rfl ?_
  refine gz_iconst hC (0) dX7_isBid_1 (by decide) ?_
  refine gz_aload_n hC dX7_isBid_2 rfl ?_
  refine gz_getR (j := 0) hC dX7_isBid_3 cf_X7 fl_X7_12 rfl rfl (by decide) ?_
  refine gz_getIN (j := 4) hC dX7_isBid_6 cf_X6 fl_X7_60 rfl rfl (by decide) ?_
  refine gz_iconst hC (1) dX7_isBid_9 (by decide) ?_
  rw [hX.2.1]
  refine gz_isub hC dX7_isBid_10 ?_
  refine gz_callS3 hC dX7_isBid_11 ml_X7_50 (by decide) (by decide) (Nat.le_of_ble_eq_true rfl) (ct_X7_within hJ _ _ _ _ _) (fun v11 M11 hp11 => ?_)
  obtain ⟨rfl, rfl⟩ := hp11
  exact gz_zret (gz_bn _) hC dX7_isBid_14 ⟨rfl, rfl⟩
set_option maxHeartbeats 4000000 in
set_option maxRecDepth 100000 in
theorem ct_X7_isBidOrNone (hJ : gz_inj ad lx_lay) (I : Nat → Nat → Int32) (G : Nat → Nat → UInt64) (d0 d1 F : Nat) (w : Bool) (hO : cf_ok d0 d1 F) (hX : xi_tab d0 d1 F w I) (b : Int32) : gz_Ct l D ad cy lx_lay yX7_isBidOrNone cX7_isBidOrNone 2 (some .boolean) 2 [.ref (ad 0), .int b] (I, G) (fun v M1 => v = some (.int (gz_b (sp_bon d0 d1 F b))) ∧ M1 = (I, G)) := by
  refine gz_met (by decide +kernel) hJ (Nat.le_of_ble_eq_true rfl) ?_
  intro p e s m args below meth c hC
  refine gz_iload_n hC dX7_isBidOrNone_0 rfl ?_
  refine gz_iconst hC (-1) dX7_isBidOrNone_1 (by decide) ?_
  refine gz_icmp_eq hC 13 dX7_isBidOrNone_2 (by decide) (fun c2 => ?_) (fun c2 => ?_)
  · refine gz_iconst hC (1) dX7_isBidOrNone_13 (by decide) ?_
    refine gz_goto hC 18 dX7_isBidOrNone_14 (by decide) ?_
    exact gz_zret rfl hC dX7_isBidOrNone_18 ⟨gz_v (by unfold sp_bon; first | (rw [q2, decide_eq_false c2]; rfl) | (rw [decide_eq_true c2]; rfl)), rfl⟩
  · refine gz_aload_n hC dX7_isBidOrNone_5 rfl ?_
    refine gz_iload_n hC dX7_isBidOrNone_6 rfl ?_
    refine gz_callV1 hC dX7_isBidOrNone_7 ml_X7_92 rfl rfl (by decide) (by decide) (Nat.le_of_ble_eq_true rfl) (ct_X7_isBid hJ _ _ d0 d1 F w hO hX _) (fun v7 M7 hp7 => ?_)
    obtain ⟨rfl, rfl⟩ := hp7
    refine gz_if_eq hC 17 dX7_isBidOrNone_10 (by decide) (fun c10 => ?_) (fun c10 => ?_)
    · have q2 := gz_b0 c10
      refine gz_iconst hC (0) dX7_isBidOrNone_17 (by decide) ?_
      exact gz_zret rfl hC dX7_isBidOrNone_18 ⟨gz_v (by unfold sp_bon; first | (rw [q2, decide_eq_false c2]; rfl) | (rw [decide_eq_true c2]; rfl)), rfl⟩
    · have q2 := gz_b1 c10
      refine gz_iconst hC (1) dX7_isBidOrNone_13 (by decide) ?_
      refine gz_goto hC 18 dX7_isBidOrNone_14 (by decide) ?_
      exact gz_zret rfl hC dX7_isBidOrNone_18 ⟨gz_v (by unfold sp_bon; first | (rw [q2, decide_eq_false c2]; rfl) | (rw [decide_eq_true c2]; rfl)), rfl⟩
set_option maxHeartbeats 4000000 in
set_option maxRecDepth 100000 in
theorem ct_X7_hands (hJ : gz_inj ad lx_lay) (I : Nat → Nat → Int32) (G : Nat → Nat → UInt64) (d0 d1 F : Nat) (w : Bool) (hO : cf_ok d0 d1 F) (hX : xi_tab d0 d1 F w I) (p0 : Int32) : gz_Ct l D ad cy lx_lay yX7_hands cX7_hands 2 (some .int) 2 [.ref (ad 0), .int p0] (I, G) (fun v M1 => v = some (.int (sp_hands d0 d1 F p0)) ∧ M1 = (I, G)) := by
  refine gz_met (by decide +kernel) hJ (Nat.le_of_ble_eq_true rfl) ?_
  intro p e s m args below meth c hC
  refine gz_iload_n hC dX7_hands_0 rfl ?_
  refine gz_callS1 hC dX7_hands_1 ml_X7_64 (by decide) (by decide) (Nat.le_of_ble_eq_true rfl) (ct_X7_isPlayer hJ _ _ _) (fun v1 M1 hp1 => ?_)
  obtain ⟨rfl, rfl⟩ := hp1
  refine gz_if_eq hC 21 dX7_hands_4 (by decide) (fun c4 => ?_) (fun c4 => ?_)
  · have q1 := gz_b0 c4
    refine gz_bipush hC (-2) dX7_hands_21 (by decide) ?_
    exact gz_iret hC dX7_hands_23 ⟨gz_v (by unfold sp_hands; rw [q1]; first | (rw [show p0.toNatClampNeg = pl by rw [hp0, nI_clamp (by omega)]]; exact (xi_cupP hX hpl).2.2.1) | rfl), rfl⟩
  · have q1 := gz_b1 c4
    obtain ⟨pl, hpl, hp0⟩ := gz_in_2 q1
    refine gz_aload_n hC dX7_hands_7 rfl ?_
    refine gz_getR (j := 0) hC dX7_hands_8 cf_X7 fl_X7_12 rfl rfl (by decide) ?_
    refine gz_iload_n hC dX7_hands_11 rfl ?_
    refine gz_callV1 hC dX7_hands_12 ml_X7_68 rfl rfl (by decide) (by decide) (Nat.le_of_ble_eq_true rfl) (ct_X6_cup hJ _ _ _ (3 + 4 * pl) (by rw [hp0]; match pl, hpl with | 0, _ => exact Or.inl ⟨rfl, rfl⟩ | 1, _ => exact Or.inr ⟨by decide, rfl⟩)) (fun v12 M12 hp12 => ?_)
    obtain ⟨rfl, rfl⟩ := hp12
    refine gz_getIN (j := 5) hC dX7_hands_15 cf_X1 fl_X7_72 (lx_cupP hpl).1 rfl (by decide) ?_
    refine gz_goto hC 23 dX7_hands_18 (by decide) ?_
    exact gz_iret hC dX7_hands_23 ⟨gz_v (by unfold sp_hands; rw [q1]; first | (rw [show p0.toNatClampNeg = pl by rw [hp0, nI_clamp (by omega)]]; exact (xi_cupP hX hpl).2.2.1) | rfl), rfl⟩
set_option maxHeartbeats 4000000 in
set_option maxRecDepth 100000 in
theorem ct_X7_hand (hJ : gz_inj ad lx_lay) (I : Nat → Nat → Int32) (G : Nat → Nat → UInt64) (d0 d1 F : Nat) (w : Bool) (hO : cf_ok d0 d1 F) (hX : xi_tab d0 d1 F w I) (p0 h0 f0 : Int32) : gz_Ct l D ad cy lx_lay yX7_hand cX7_hand 4 (some .int) 3 [.ref (ad 0), .int p0, .int h0, .int f0] (I, G) (fun v M1 => v = some (.int (sp_hand d0 d1 F p0 h0 f0)) ∧ M1 = (I, G)) := by
  refine gz_met (by decide +kernel) hJ (Nat.le_of_ble_eq_true rfl) ?_
  intro p e s m args below meth c hC
  refine gz_aload_n hC dX7_hand_0 rfl ?_
  refine gz_iload_n hC dX7_hand_1 rfl ?_
  refine gz_iload_n hC dX7_hand_2 rfl ?_
  refine gz_callV2 hC dX7_hand_3 ml_X7_77 rfl rfl (by decide) (by decide) (Nat.le_of_ble_eq_true rfl) (ct_X7_isHand hJ _ _ d0 d1 F w hO hX _ _) (fun v3 M3 hp3 => ?_)
  obtain ⟨rfl, rfl⟩ := hp3
  refine gz_if_eq hC 26 dX7_hand_6 (by decide) (fun c6 => ?_) (fun c6 => ?_)
  · have q1 := gz_b0 c6
    refine gz_bipush hC (-100) dX7_hand_26 (by decide) ?_
    exact gz_iret hC dX7_hand_28 ⟨gz_v (by unfold sp_hand; first | (rw [q1, q2]; rfl) | (rw [q1]; rfl)), rfl⟩
  · have q1 := gz_b1 c6
    obtain ⟨pl, hh, hpl, hk, hp0, hh0⟩ := sp_hd_t hO q1
    have T := tb_facts (cf_okP hO hpl)
    refine gz_iload_n hC dX7_hand_9 rfl ?_
    refine gz_iconst hC (0) dX7_hand_10 (by decide) ?_
    refine gz_aload_n hC dX7_hand_11 rfl ?_
    refine gz_getR (j := 0) hC dX7_hand_12 cf_X7 fl_X7_12 rfl rfl (by decide) ?_
    refine gz_getIN (j := 3) hC dX7_hand_15 cf_X6 fl_X7_81 rfl rfl (by decide) ?_
    refine gz_iconst hC (1) dX7_hand_18 (by decide) ?_
    rw [hX.1]
    refine gz_isub hC dX7_hand_19 ?_
    refine gz_callS3 hC dX7_hand_20 ml_X7_50 (by decide) (by decide) (Nat.le_of_ble_eq_true rfl) (ct_X7_within hJ _ _ _ _ _) (fun v20 M20 hp20 => ?_)
    obtain ⟨rfl, rfl⟩ := hp20
    refine gz_if_ne hC 29 dX7_hand_23 (by decide) (fun c23 => ?_) (fun c23 => ?_)
    · have q2 := gz_b1 c23
      obtain ⟨ff, hff, hf0⟩ := gz_in_t (by omega) (by omega) q2
      refine gz_aload_n hC dX7_hand_29 rfl ?_
      refine gz_getR (j := 0) hC dX7_hand_30 cf_X7 fl_X7_12 rfl rfl (by decide) ?_
      refine gz_iload_n hC dX7_hand_33 rfl ?_
      refine gz_callV1 hC dX7_hand_34 ml_X7_68 rfl rfl (by decide) (by decide) (Nat.le_of_ble_eq_true rfl) (ct_X6_cup hJ _ _ _ (3 + 4 * pl) (by rw [hp0]; match pl, hpl with | 0, _ => exact Or.inl ⟨rfl, rfl⟩ | 1, _ => exact Or.inr ⟨by decide, rfl⟩)) (fun v34 M34 hp34 => ?_)
      obtain ⟨rfl, rfl⟩ := hp34
      refine gz_iload_n hC dX7_hand_37 rfl ?_
      refine gz_iload_n hC dX7_hand_38 rfl ?_
      refine gz_callV2 hC dX7_hand_39 ml_X7_84 (lx_cupP hpl).1 rfl (by decide) (by decide) (Nat.le_of_ble_eq_true rfl) (ct_X1_pipsOf hJ _ _ _ (lx_cupP hpl) hh ff _ _ hh0 hf0 (by omega) (by omega)) (fun v39 M39 hp39 => ?_)
      obtain ⟨rfl, rfl⟩ := hp39
      exact gz_iret hC dX7_hand_42 ⟨gz_v (by unfold sp_hand; rw [q1, q2, hp0, hh0, hf0, nI_clamp (by omega), nI_clamp (by omega), nI_clamp (by omega)]; exact (xi_cupP hX hpl).2.2.2.1 hh hk ff (by omega)), rfl⟩
    · have q2 := gz_b0 c23
      refine gz_bipush hC (-100) dX7_hand_26 (by decide) ?_
      exact gz_iret hC dX7_hand_28 ⟨gz_v (by unfold sp_hand; first | (rw [q1, q2]; rfl) | (rw [q1]; rfl)), rfl⟩
set_option maxHeartbeats 4000000 in
set_option maxRecDepth 100000 in
theorem ct_X7_throwsOf (hJ : gz_inj ad lx_lay) (I : Nat → Nat → Int32) (G : Nat → Nat → UInt64) (d0 d1 F : Nat) (w : Bool) (hO : cf_ok d0 d1 F) (hX : xi_tab d0 d1 F w I) (p0 h0 : Int32) : gz_Ct l D ad cy lx_lay yX7_throwsOf cX7_throwsOf 3 (some .int) 3 [.ref (ad 0), .int p0, .int h0] (I, G) (fun v M1 => v = some (.int (sp_throws d0 d1 F p0 h0)) ∧ M1 = (I, G)) := by
  refine gz_met (by decide +kernel) hJ (Nat.le_of_ble_eq_true rfl) ?_
  intro p e s m args below meth c hC
  refine gz_aload_n hC dX7_throwsOf_0 rfl ?_
  refine gz_iload_n hC dX7_throwsOf_1 rfl ?_
  refine gz_iload_n hC dX7_throwsOf_2 rfl ?_
  refine gz_callV2 hC dX7_throwsOf_3 ml_X7_77 rfl rfl (by decide) (by decide) (Nat.le_of_ble_eq_true rfl) (ct_X7_isHand hJ _ _ d0 d1 F w hO hX _ _) (fun v3 M3 hp3 => ?_)
  obtain ⟨rfl, rfl⟩ := hp3
  refine gz_if_eq hC 24 dX7_throwsOf_6 (by decide) (fun c6 => ?_) (fun c6 => ?_)
  · have q1 := gz_b0 c6
    refine gz_bipush hC (-2) dX7_throwsOf_24 (by decide) ?_
    exact gz_iret hC dX7_throwsOf_26 ⟨gz_v (by unfold sp_throws; rw [q1]; first | (rw [hp0, hh0, nI_clamp (by omega), nI_clamp (by omega)]; exact (xi_cupP hX hpl).2.2.2.2 hh hk) | rfl), rfl⟩
  · have q1 := gz_b1 c6
    obtain ⟨pl, hh, hpl, hk, hp0, hh0⟩ := sp_hd_t hO q1
    have T := tb_facts (cf_okP hO hpl)
    refine gz_aload_n hC dX7_throwsOf_9 rfl ?_
    refine gz_getR (j := 0) hC dX7_throwsOf_10 cf_X7 fl_X7_12 rfl rfl (by decide) ?_
    refine gz_iload_n hC dX7_throwsOf_13 rfl ?_
    refine gz_callV1 hC dX7_throwsOf_14 ml_X7_68 rfl rfl (by decide) (by decide) (Nat.le_of_ble_eq_true rfl) (ct_X6_cup hJ _ _ _ (3 + 4 * pl) (by rw [hp0]; match pl, hpl with | 0, _ => exact Or.inl ⟨rfl, rfl⟩ | 1, _ => exact Or.inr ⟨by decide, rfl⟩)) (fun v14 M14 hp14 => ?_)
    obtain ⟨rfl, rfl⟩ := hp14
    refine gz_iload_n hC dX7_throwsOf_17 rfl ?_
    refine gz_callV1 hC dX7_throwsOf_18 ml_X7_88 (lx_cupP hpl).1 rfl (by decide) (by decide) (Nat.le_of_ble_eq_true rfl) (ct_X1_waysOf hJ _ _ _ (lx_cupP hpl) hh _ hh0 (by omega)) (fun v18 M18 hp18 => ?_)
    obtain ⟨rfl, rfl⟩ := hp18
    refine gz_goto hC 26 dX7_throwsOf_21 (by decide) ?_
    exact gz_iret hC dX7_throwsOf_26 ⟨gz_v (by unfold sp_throws; rw [q1]; first | (rw [hp0, hh0, nI_clamp (by omega), nI_clamp (by omega)]; exact (xi_cupP hX hpl).2.2.2.2 hh hk) | rfl), rfl⟩
set_option maxHeartbeats 4000000 in
set_option maxRecDepth 100000 in
theorem ct_X7_holds (hJ : gz_inj ad lx_lay) (I : Nat → Nat → Int32) (G : Nat → Nat → UInt64) (d0 d1 F : Nat) (w : Bool) (hO : cf_ok d0 d1 F) (hX : xi_tab d0 d1 F w I) (g0 h0 b0 : Int32) : gz_Ct l D ad cy lx_lay yX7_holds cX7_holds 4 (some .int) 3 [.ref (ad 0), .int g0, .int h0, .int b0] (I, G) (fun v M1 => v = some (.int (sp_holds d0 d1 F w g0 h0 b0)) ∧ M1 = (I, G)) := by
  refine gz_met (by decide +kernel) hJ (Nat.le_of_ble_eq_true rfl) ?_
  intro p e s m args below meth c hC
  refine gz_aload_n hC dX7_holds_0 rfl ?_
  refine gz_iconst hC (0) dX7_holds_1 (by decide) ?_
  refine gz_iload_n hC dX7_holds_2 rfl ?_
  refine gz_callV2 hC dX7_holds_3 ml_X7_77 rfl rfl (by decide) (by decide) (Nat.le_of_ble_eq_true rfl) (ct_X7_isHand hJ _ _ d0 d1 F w hO hX _ _) (fun v3 M3 hp3 => ?_)
  obtain ⟨rfl, rfl⟩ := hp3
  refine gz_if_eq hC 26 dX7_holds_6 (by decide) (fun c6 => ?_) (fun c6 => ?_)
  · have q1 := gz_b0 c6
    refine gz_bipush hC (-2) dX7_holds_26 (by decide) ?_
    exact gz_iret hC dX7_holds_28 ⟨gz_v (by unfold sp_holds; first | (rw [q1, q2, q3]; rfl) | (rw [q1, q2]; rfl) | (rw [q1]; rfl)), rfl⟩
  · have q1 := gz_b1 c6
    obtain ⟨pl, gg, hpl, hg, hp0, hg0⟩ := sp_hd_t hO q1
    have hpz : pl = 0 := by rcases (show pl = 0 ∨ pl = 1 by omega) with q | q; exact q; exact absurd (hp0.trans (by rw [q])) (by decide)
    subst hpz
    refine gz_aload_n hC dX7_holds_9 rfl ?_
    refine gz_iconst hC (1) dX7_holds_10 (by decide) ?_
    refine gz_iload_n hC dX7_holds_11 rfl ?_
    refine gz_callV2 hC dX7_holds_12 ml_X7_77 rfl rfl (by decide) (by decide) (Nat.le_of_ble_eq_true rfl) (ct_X7_isHand hJ _ _ d0 d1 F w hO hX _ _) (fun v12 M12 hp12 => ?_)
    obtain ⟨rfl, rfl⟩ := hp12
    refine gz_if_eq hC 26 dX7_holds_15 (by decide) (fun c15 => ?_) (fun c15 => ?_)
    · have q2 := gz_b0 c15
      refine gz_bipush hC (-2) dX7_holds_26 (by decide) ?_
      exact gz_iret hC dX7_holds_28 ⟨gz_v (by unfold sp_holds; first | (rw [q1, q2, q3]; rfl) | (rw [q1, q2]; rfl) | (rw [q1]; rfl)), rfl⟩
    · have q2 := gz_b1 c15
      obtain ⟨pm, hh, hpm, hk, hp1, hh0⟩ := sp_hd_t hO q2
      have hpz : pm = 1 := by rcases (show pm = 0 ∨ pm = 1 by omega) with q | q; exact absurd (hp1.trans (by rw [q])) (by decide); exact q
      subst hpz
      refine gz_aload_n hC dX7_holds_18 rfl ?_
      refine gz_iload_n hC dX7_holds_19 rfl ?_
      refine gz_callV1 hC dX7_holds_20 ml_X7_92 rfl rfl (by decide) (by decide) (Nat.le_of_ble_eq_true rfl) (ct_X7_isBid hJ _ _ d0 d1 F w hO hX _) (fun v20 M20 hp20 => ?_)
      obtain ⟨rfl, rfl⟩ := hp20
      refine gz_if_ne hC 29 dX7_holds_23 (by decide) (fun c23 => ?_) (fun c23 => ?_)
      · have q3 := gz_b1 c23
        obtain ⟨bb, hb, hb0⟩ := sp_bid_t hO q3
        have T := tb_facts hO.1
        have U := tb_facts hO.2.1
        have Bd := (cf_bids hO).2
        refine gz_aload_n hC dX7_holds_29 rfl ?_
        refine gz_getR (j := 0) hC dX7_holds_30 cf_X7 fl_X7_12 rfl rfl (by decide) ?_
        refine gz_iload_n hC dX7_holds_33 rfl ?_
        refine gz_iload_n hC dX7_holds_34 rfl ?_
        refine gz_iload_n hC dX7_holds_35 rfl ?_
        refine gz_callV3 hC dX7_holds_36 ml_X7_95 rfl rfl (by decide) (by decide) (Nat.le_of_ble_eq_true rfl) (ct_X6_isTrue hJ _ _ d0 d1 F w hO hX gg hh bb _ _ _ hg0 hh0 hb0 hg hk hb) (fun v36 M36 hp36 => ?_)
        obtain ⟨rfl, rfl⟩ := hp36
        have q4 : sp_holds d0 d1 F w g0 h0 b0 = gz_b (tb_t d0 d1 F w gg hh bb) := by
          have e1 : tb_n (tb_d d0 d1 0) F ≤ 4 := T.2.2.2.2.1
          have e2 : tb_n (tb_d d0 d1 1) F ≤ 4 := U.2.2.2.2.1
          unfold sp_holds
          rw [q1, q2, q3, hg0, hh0, hb0, nI_clamp (by omega), nI_clamp (by omega), nI_clamp (by omega)]
          rfl
        refine gz_if_eq hC 46 dX7_holds_39 (by decide) (fun c39 => ?_) (fun c39 => ?_)
        · have q5 := gz_b0 c39
          refine gz_iconst hC (0) dX7_holds_46 (by decide) ?_
          exact gz_iret hC dX7_holds_47 ⟨gz_v (by rw [q4, q5]; rfl), rfl⟩
        · have q5 := gz_b1 c39
          refine gz_iconst hC (1) dX7_holds_42 (by decide) ?_
          refine gz_goto hC 47 dX7_holds_43 (by decide) ?_
          exact gz_iret hC dX7_holds_47 ⟨gz_v (by rw [q4, q5]; rfl), rfl⟩
      · have q3 := gz_b0 c23
        refine gz_bipush hC (-2) dX7_holds_26 (by decide) ?_
        exact gz_iret hC dX7_holds_28 ⟨gz_v (by unfold sp_holds; first | (rw [q1, q2, q3]; rfl) | (rw [q1, q2]; rfl) | (rw [q1]; rfl)), rfl⟩
set_option maxHeartbeats 4000000 in
set_option maxRecDepth 100000 in
theorem ct_X7_commonDivisor (hJ : gz_inj ad lx_lay) (I : Nat → Nat → Int32) (G : Nat → Nat → UInt64) (a b : Int32) (x0 y0 : Nat) (ha : a = nI x0) (hb : b = nI y0) (hx0 : x0 < 60) (hy0 : y0 < 60) : gz_Ct l D ad cy lx_lay yX7_commonDivisor cX7_commonDivisor 6 (some .int) 1 [.int a, .int b] (I, G) (fun v M1 => v = some (.int (nI (Nat.gcd x0 y0))) ∧ M1 = (I, G)) := by
  refine gz_met (by decide +kernel) hJ (Nat.le_of_ble_eq_true rfl) ?_
  intro p e s m args below meth c hC
  refine gz_iload_n hC dX7_commonDivisor_0 rfl ?_
  refine gz_istore_n hC dX7_commonDivisor_1 (by decide) ?_
  refine gz_iload_n hC dX7_commonDivisor_2 rfl ?_
  refine gz_istore_n hC dX7_commonDivisor_3 (by decide) ?_
  refine gz_iconst hC (0) dX7_commonDivisor_4 (by decide) ?_
  refine gz_istore hC dX7_commonDivisor_5 (by decide) ?_
  have lp : ∀ (n i xn yn : Nat) (x y z : Int32) (hxn : xn ≤ n) (hin : i + n < 64) (hxb : xn < 60) (hyn : yn < 60) (hg : Nat.gcd xn yn = Nat.gcd x0 y0) (hx : x = nI xn) (hy : y = nI yn) (hz : z = nI i), gz_W p l e (gz_rm 1) s m args below meth c D ad cy lx_lay 6 (MQ below (gz_Q D ad cy lx_lay (fun v M1 => v = some (.int (nI (Nat.gcd x0 y0))) ∧ M1 = (I, G))) args s 0 0 (gz_A ad lx_lay)) (I, G) 7 [(0, .int a), (1, .int b), (2, .int y), (3, .int x), (4, .int z)] [] := by
    intro n
    induction n with
    | zero =>
      intro i xn yn x y z hxn hin hxb hyn hg hx hy hz
      refine gz_iload hC dX7_commonDivisor_7 rfl ?_
      refine gz_bipush hC (64) dX7_commonDivisor_9 (by decide) ?_
      refine gz_icmp_ge hC 36 dX7_commonDivisor_11 (by decide) (fun c11 => ?_) (fun c11 => ?_)
      · exact absurd c11 (gz_inle (by rfl : (64 : Int32) = nI 64) hz (by omega) (by omega))
      · refine gz_iload_n hC dX7_commonDivisor_14 rfl ?_
        refine gz_if_le hC 36 dX7_commonDivisor_15 (by decide) (fun c15 => ?_) (fun c15 => ?_)
        · have hxz : xn = 0 := by omega
          refine gz_iload_n hC dX7_commonDivisor_36 rfl ?_
          exact gz_iret hC dX7_commonDivisor_37 ⟨gz_v (by rw [hy]; congr 1; rw [← hg, hxz, Nat.gcd_zero_left]), rfl⟩
        · exact absurd (by rw [hx, show xn = 0 by omega]; decide) c15
    | succ n ih =>
      intro i xn yn x y z hxn hin hxb hyn hg hx hy hz
      refine gz_iload hC dX7_commonDivisor_7 rfl ?_
      refine gz_bipush hC (64) dX7_commonDivisor_9 (by decide) ?_
      refine gz_icmp_ge hC 36 dX7_commonDivisor_11 (by decide) (fun c11 => ?_) (fun c11 => ?_)
      · exact absurd c11 (gz_inle (by rfl : (64 : Int32) = nI 64) hz (by omega) (by omega))
      · refine gz_iload_n hC dX7_commonDivisor_14 rfl ?_
        refine gz_if_le hC 36 dX7_commonDivisor_15 (by decide) (fun c15 => ?_) (fun c15 => ?_)
        · have hxz : xn = 0 := by rcases Nat.eq_zero_or_pos xn with q | q; exact q; exact absurd c15 (by rw [hx]; exact nI_nle q (by omega))
          refine gz_iload_n hC dX7_commonDivisor_36 rfl ?_
          exact gz_iret hC dX7_commonDivisor_37 ⟨gz_v (by rw [hy]; congr 1; rw [← hg, hxz, Nat.gcd_zero_left]), rfl⟩
        · have hxp : 0 < xn := by rcases Nat.eq_zero_or_pos xn with q | q; exact absurd (by rw [hx, q]; decide) c15; exact q
          have hml := Nat.mod_lt yn hxp
          refine gz_iload_n hC dX7_commonDivisor_18 rfl ?_
          refine gz_iload_n hC dX7_commonDivisor_19 rfl ?_
          refine gz_callS2 hC dX7_commonDivisor_20 ml_X7_205 (by decide) (by decide) (Nat.le_of_ble_eq_true rfl) (ct_X7_leftOver hJ _ _ _ _ yn xn hy hx (by omega) hxp (by omega)) (fun v20 M20 hp20 => ?_)
          obtain ⟨rfl, rfl⟩ := hp20
          refine gz_istore hC dX7_commonDivisor_23 (by decide) ?_
          refine gz_iload_n hC dX7_commonDivisor_25 rfl ?_
          refine gz_istore_n hC dX7_commonDivisor_26 (by decide) ?_
          refine gz_iload hC dX7_commonDivisor_27 rfl ?_
          refine gz_istore_n hC dX7_commonDivisor_29 (by decide) ?_
          refine gz_iinc hC (1) dX7_commonDivisor_30 rfl (by decide) (by decide) ?_
          refine gz_goto hC 7 dX7_commonDivisor_33 (by decide) ?_
          refine gz_lw [(0, .int a), (1, .int b), (2, .int x), (3, .int (nI (yn % xn))), (4, .int (z + 1))] ⟨rfl, rfl, rfl, rfl, rfl, trivial⟩ ?_
          exact ih (i + 1) (yn % xn) xn _ _ _ (by omega) (by omega) (by omega) (by omega) (by rw [← hg]; exact (Nat.gcd_rec xn yn).symm) rfl hx (gz_i1 hz)
  exact gz_lw [(0, .int a), (1, .int b), (2, .int b), (3, .int a), (4, .int 0)] ⟨rfl, rfl, rfl, rfl, rfl, trivial⟩ (lp x0 0 x0 y0 a b 0 (Nat.le_refl x0) (by omega) hx0 hy0 rfl ha hb rfl)
  -- places not laid: [9, 11, 14, 15, 18, 19, 20, 23, 25, 26, 27, 29, 30, 33, 36, 37]
set_option maxHeartbeats 4000000 in
set_option maxRecDepth 100000 in
theorem ct_X7_chance (hJ : gz_inj ad lx_lay) (I : Nat → Nat → Int32) (G : Nat → Nat → UInt64) (d0 d1 F : Nat) (w : Bool) (hO : cf_ok d0 d1 F) (hX : xi_tab d0 d1 F w I) (p0 h0 b0 w0 : Int32) : gz_Ct l D ad cy lx_lay yX7_chance cX7_chance 8 (some .int) 4 [.ref (ad 0), .int p0, .int h0, .int b0, .int w0] (I, G) (fun v M1 => v = some (.int (sp_chance d0 d1 F w p0 h0 b0 w0)) ∧ M1 = (I, G)) := by
  refine gz_met (by decide +kernel) hJ (Nat.le_of_ble_eq_true rfl) ?_
  intro p e s m args below meth c hC
  refine gz_aload_n hC dX7_chance_0 rfl ?_
  refine gz_iload_n hC dX7_chance_1 rfl ?_
  refine gz_iload_n hC dX7_chance_2 rfl ?_
  refine gz_callV2 hC dX7_chance_3 ml_X7_77 rfl rfl (by decide) (by decide) (Nat.le_of_ble_eq_true rfl) (ct_X7_isHand hJ _ _ d0 d1 F w hO hX _ _) (fun v3 M3 hp3 => ?_)
  obtain ⟨rfl, rfl⟩ := hp3
  refine gz_if_eq hC 27 dX7_chance_6 (by decide) (fun c6 => ?_) (fun c6 => ?_)
  · have q1 := gz_b0 c6
    refine gz_bipush hC (-2) dX7_chance_27 (by decide) ?_
    exact gz_iret hC dX7_chance_29 ⟨gz_v (by unfold sp_chance; first | (rw [q1, q2, q3]; rfl) | (rw [q1, q2]; rfl) | (rw [q1]; rfl)), rfl⟩
  · have q1 := gz_b1 c6
    obtain ⟨pl, hh, hpl, hk, hp0, hh0⟩ := sp_hd_t hO q1
    have T := tb_facts (cf_okP hO hpl)
    refine gz_aload_n hC dX7_chance_9 rfl ?_
    refine gz_iload_n hC dX7_chance_10 rfl ?_
    refine gz_callV1 hC dX7_chance_11 ml_X7_92 rfl rfl (by decide) (by decide) (Nat.le_of_ble_eq_true rfl) (ct_X7_isBid hJ _ _ d0 d1 F w hO hX _) (fun v11 M11 hp11 => ?_)
    obtain ⟨rfl, rfl⟩ := hp11
    refine gz_if_eq hC 27 dX7_chance_14 (by decide) (fun c14 => ?_) (fun c14 => ?_)
    · have q2 := gz_b0 c14
      refine gz_bipush hC (-2) dX7_chance_27 (by decide) ?_
      exact gz_iret hC dX7_chance_29 ⟨gz_v (by unfold sp_chance; first | (rw [q1, q2, q3]; rfl) | (rw [q1, q2]; rfl) | (rw [q1]; rfl)), rfl⟩
    · have q2 := gz_b1 c14
      obtain ⟨bb, hb, hb0⟩ := sp_bid_t hO q2
      have Bd := (cf_bids hO).2
      refine gz_iload hC dX7_chance_17 rfl ?_
      refine gz_iconst hC (0) dX7_chance_19 (by decide) ?_
      refine gz_iconst hC (1) dX7_chance_20 (by decide) ?_
      refine gz_callS3 hC dX7_chance_21 ml_X7_50 (by decide) (by decide) (Nat.le_of_ble_eq_true rfl) (ct_X7_within hJ _ _ _ _ _) (fun v21 M21 hp21 => ?_)
      obtain ⟨rfl, rfl⟩ := hp21
      refine gz_if_ne hC 30 dX7_chance_24 (by decide) (fun c24 => ?_) (fun c24 => ?_)
      · have q3 := gz_b1 c24
        obtain ⟨ww, hww, hw0⟩ := gz_in_2 q3
        refine gz_aload_n hC dX7_chance_30 rfl ?_
        refine gz_getR (j := 0) hC dX7_chance_31 cf_X7 fl_X7_12 rfl rfl (by decide) ?_
        refine gz_iload_n hC dX7_chance_34 rfl ?_
        refine gz_iload_n hC dX7_chance_35 rfl ?_
        refine gz_iload_n hC dX7_chance_36 rfl ?_
        refine gz_callV3 hC dX7_chance_37 ml_X7_98 rfl rfl (by decide) (by decide) (Nat.le_of_ble_eq_true rfl) (ct_X6_waysToHold hJ _ _ d0 d1 F w hO hX pl hh bb _ _ _ hpl hp0 hh0 hb0 hk hb) (fun v37 M37 hp37 => ?_)
        obtain ⟨rfl, rfl⟩ := hp37
        refine gz_istore hC dX7_chance_40 (by decide) ?_
        refine gz_aload_n hC dX7_chance_42 rfl ?_
        refine gz_getR (j := 0) hC dX7_chance_43 cf_X7 fl_X7_12 rfl rfl (by decide) ?_
        refine gz_iconst hC (1) dX7_chance_46 (by decide) ?_
        refine gz_iload_n hC dX7_chance_47 rfl ?_
        refine gz_isub hC dX7_chance_48 ?_
        refine gz_callV1 hC dX7_chance_49 ml_X7_68 rfl rfl (by decide) (by decide) (Nat.le_of_ble_eq_true rfl) (ct_X6_cup hJ _ _ _ (3 + 4 * (1 - pl)) (by rw [hp0]; match pl, hpl with | 0, _ => exact Or.inr ⟨by decide, rfl⟩ | 1, _ => exact Or.inl ⟨rfl, rfl⟩)) (fun v49 M49 hp49 => ?_)
        obtain ⟨rfl, rfl⟩ := hp49
        refine gz_callV0 hC dX7_chance_52 ml_X7_102 (lx_cupP (show 1 - pl < 2 by omega)).1 rfl (by decide) (by decide) (Nat.le_of_ble_eq_true rfl) (ct_X1_allWays hJ _ _ _ (lx_cupP (show 1 - pl < 2 by omega)) (tb_d d0 d1 (1 - pl)) F (xi_cupP hX (show 1 - pl < 2 by omega)).1 (xi_cupP hX (show 1 - pl < 2 by omega)).2.1 (by have := (tb_facts (cf_okP hO (show 1 - pl < 2 by omega))).2.2.2.2.2.1; omega)) (fun v52 M52 hp52 => ?_)
        obtain ⟨rfl, rfl⟩ := hp52
        refine gz_istore hC dX7_chance_55 (by decide) ?_
        refine gz_iload hC dX7_chance_57 rfl ?_
        refine gz_iload hC dX7_chance_59 rfl ?_
        have a1 := tb_ab_le hO w pl hh bb hpl
        have a2 := tb_be_in hO hpl
        have a3 : 0 < Nat.gcd (tb_ab d0 d1 F w pl hh bb) (tb_be d0 d1 F pl) := Nat.gcd_pos_of_pos_right _ a2.1
        have a4 : Nat.gcd (tb_ab d0 d1 F w pl hh bb) (tb_be d0 d1 F pl) ≤ tb_be d0 d1 F pl := Nat.gcd_le_right _ a2.1
        refine gz_callS2 hC dX7_chance_61 ml_X7_106 (by decide) (by decide) (Nat.le_of_ble_eq_true rfl) (ct_X7_commonDivisor hJ _ _ _ _ (tb_ab d0 d1 F w pl hh bb) (tb_be d0 d1 F pl) rfl rfl (by omega) (by omega)) (fun v61 M61 hp61 => ?_)
        obtain ⟨rfl, rfl⟩ := hp61
        refine gz_istore hC dX7_chance_64 (by decide) ?_
        refine gz_iload hC dX7_chance_66 rfl ?_
        refine gz_if_ne hC 76 dX7_chance_68 (by decide) (fun c68 => ?_) (fun c68 => ?_)
        · have hwz : ¬ ww = 0 := fun q => c68 (by rw [hw0, q]; rfl)
          refine gz_iload hC dX7_chance_76 rfl ?_
          refine gz_iload hC dX7_chance_78 rfl ?_
          refine gz_callS2 hC dX7_chance_80 ml_X7_109 (by decide) (by decide) (Nat.le_of_ble_eq_true rfl) (ct_X7_cut hJ _ _ _ _ (if ww = 0 then tb_ab d0 d1 F w pl hh bb else tb_be d0 d1 F pl) (Nat.gcd (tb_ab d0 d1 F w pl hh bb) (tb_be d0 d1 F pl)) (by first | (rw [if_pos hwz]; rfl) | (rw [if_neg hwz]; rfl)) rfl (by split <;> omega) a3 (by omega)) (fun v80 M80 hp80 => ?_)
          obtain ⟨rfl, rfl⟩ := hp80
          exact gz_iret hC dX7_chance_83 ⟨gz_v (by unfold sp_chance; rw [q1, q2, q3, hp0, hh0, hb0, hw0, nI_clamp (by omega), nI_clamp (by omega), nI_clamp (by omega), nI_clamp (by omega)]; rfl), rfl⟩
        · have hwz : ww = 0 := by rcases (show ww = 0 ∨ ww = 1 by omega) with q | q; exact q; exact absurd c68 (by rw [hw0, q]; decide)
          refine gz_iload hC dX7_chance_71 rfl ?_
          refine gz_goto hC 78 dX7_chance_73 (by decide) ?_
          refine gz_iload hC dX7_chance_78 rfl ?_
          refine gz_callS2 hC dX7_chance_80 ml_X7_109 (by decide) (by decide) (Nat.le_of_ble_eq_true rfl) (ct_X7_cut hJ _ _ _ _ (if ww = 0 then tb_ab d0 d1 F w pl hh bb else tb_be d0 d1 F pl) (Nat.gcd (tb_ab d0 d1 F w pl hh bb) (tb_be d0 d1 F pl)) (by first | (rw [if_pos hwz]; rfl) | (rw [if_neg hwz]; rfl)) rfl (by split <;> omega) a3 (by omega)) (fun v80 M80 hp80 => ?_)
          obtain ⟨rfl, rfl⟩ := hp80
          exact gz_iret hC dX7_chance_83 ⟨gz_v (by unfold sp_chance; rw [q1, q2, q3, hp0, hh0, hb0, hw0, nI_clamp (by omega), nI_clamp (by omega), nI_clamp (by omega), nI_clamp (by omega)]; rfl), rfl⟩
      · have q3 := gz_b0 c24
        refine gz_bipush hC (-2) dX7_chance_27 (by decide) ?_
        exact gz_iret hC dX7_chance_29 ⟨gz_v (by unfold sp_chance; first | (rw [q1, q2, q3]; rfl) | (rw [q1, q2]; rfl) | (rw [q1]; rfl)), rfl⟩
set_option maxHeartbeats 4000000 in
set_option maxRecDepth 100000 in
theorem ct_X7_surest (hJ : gz_inj ad lx_lay) (I : Nat → Nat → Int32) (G : Nat → Nat → UInt64) (d0 d1 F : Nat) (w : Bool) (hO : cf_ok d0 d1 F) (hX : xi_tab d0 d1 F w I) (p0 h0 a0 b0 : Int32) : gz_Ct l D ad cy lx_lay yX7_surest cX7_surest 7 (some .int) 4 [.ref (ad 0), .int p0, .int h0, .int a0, .int b0] (I, G) (fun v M1 => v = some (.int (sp_surest d0 d1 F w p0 h0 a0 b0)) ∧ M1 = (I, G)) := by
  refine gz_met (by decide +kernel) hJ (Nat.le_of_ble_eq_true rfl) ?_
  intro p e s m args below meth c hC
  refine gz_aload_n hC dX7_surest_0 rfl ?_
  refine gz_iload_n hC dX7_surest_1 rfl ?_
  refine gz_iload_n hC dX7_surest_2 rfl ?_
  refine gz_callV2 hC dX7_surest_3 ml_X7_77 rfl rfl (by decide) (by decide) (Nat.le_of_ble_eq_true rfl) (ct_X7_isHand hJ _ _ d0 d1 F w hO hX _ _) (fun v3 M3 hp3 => ?_)
  obtain ⟨rfl, rfl⟩ := hp3
  refine gz_if_eq hC 30 dX7_surest_6 (by decide) (fun c6 => ?_) (fun c6 => ?_)
  · have q1 := gz_b0 c6
    refine gz_bipush hC (-2) dX7_surest_30 (by decide) ?_
    exact gz_iret hC dX7_surest_32 ⟨gz_v (by unfold sp_surest; first | (rw [q1, q2, q3]; rfl) | (rw [q1, q2]; rfl) | (rw [q1]; rfl)), rfl⟩
  · have q1 := gz_b1 c6
    obtain ⟨pl, hh, hpl, hk, hp0, hh0⟩ := sp_hd_t hO q1
    have T := tb_facts (cf_okP hO hpl)
    refine gz_iload_n hC dX7_surest_9 rfl ?_
    refine gz_iconst hC (1) dX7_surest_10 (by decide) ?_
    refine gz_bipush hC (100) dX7_surest_11 (by decide) ?_
    refine gz_callS3 hC dX7_surest_13 ml_X7_50 (by decide) (by decide) (Nat.le_of_ble_eq_true rfl) (ct_X7_within hJ _ _ _ _ _) (fun v13 M13 hp13 => ?_)
    obtain ⟨rfl, rfl⟩ := hp13
    refine gz_if_eq hC 30 dX7_surest_16 (by decide) (fun c16 => ?_) (fun c16 => ?_)
    · have q2 := gz_b0 c16
      refine gz_bipush hC (-2) dX7_surest_30 (by decide) ?_
      exact gz_iret hC dX7_surest_32 ⟨gz_v (by unfold sp_surest; first | (rw [q1, q2, q3]; rfl) | (rw [q1, q2]; rfl) | (rw [q1]; rfl)), rfl⟩
    · have q2 := gz_b1 c16
      obtain ⟨aa, haa1, haa2, ha0⟩ := gz_in_m (a := 1) (b := 100) (by decide) (by decide) q2
      refine gz_iload hC dX7_surest_19 rfl ?_
      refine gz_iconst hC (1) dX7_surest_21 (by decide) ?_
      refine gz_bipush hC (100) dX7_surest_22 (by decide) ?_
      refine gz_callS3 hC dX7_surest_24 ml_X7_50 (by decide) (by decide) (Nat.le_of_ble_eq_true rfl) (ct_X7_within hJ _ _ _ _ _) (fun v24 M24 hp24 => ?_)
      obtain ⟨rfl, rfl⟩ := hp24
      refine gz_if_ne hC 33 dX7_surest_27 (by decide) (fun c27 => ?_) (fun c27 => ?_)
      · have q3 := gz_b1 c27
        obtain ⟨bb, hbb1, hbb2, hb0⟩ := gz_in_m (a := 1) (b := 100) (by decide) (by decide) q3
        refine gz_aload_n hC dX7_surest_33 rfl ?_
        refine gz_getR (j := 0) hC dX7_surest_34 cf_X7 fl_X7_12 rfl rfl (by decide) ?_
        refine gz_iconst hC (1) dX7_surest_37 (by decide) ?_
        refine gz_iload_n hC dX7_surest_38 rfl ?_
        refine gz_isub hC dX7_surest_39 ?_
        refine gz_callV1 hC dX7_surest_40 ml_X7_68 rfl rfl (by decide) (by decide) (Nat.le_of_ble_eq_true rfl) (ct_X6_cup hJ _ _ _ (3 + 4 * (1 - pl)) (by rw [hp0]; match pl, hpl with | 0, _ => exact Or.inr ⟨by decide, rfl⟩ | 1, _ => exact Or.inl ⟨rfl, rfl⟩)) (fun v40 M40 hp40 => ?_)
        obtain ⟨rfl, rfl⟩ := hp40
        refine gz_callV0 hC dX7_surest_43 ml_X7_102 (lx_cupP (show 1 - pl < 2 by omega)).1 rfl (by decide) (by decide) (Nat.le_of_ble_eq_true rfl) (ct_X1_allWays hJ _ _ _ (lx_cupP (show 1 - pl < 2 by omega)) (tb_d d0 d1 (1 - pl)) F (xi_cupP hX (show 1 - pl < 2 by omega)).1 (xi_cupP hX (show 1 - pl < 2 by omega)).2.1 (by have := (tb_facts (cf_okP hO (show 1 - pl < 2 by omega))).2.2.2.2.2.1; omega)) (fun v43 M43 hp43 => ?_)
        obtain ⟨rfl, rfl⟩ := hp43
        refine gz_istore hC dX7_surest_46 (by decide) ?_
        refine gz_aload_n hC dX7_surest_48 rfl ?_
        refine gz_getR (j := 0) hC dX7_surest_49 cf_X7 fl_X7_12 rfl rfl (by decide) ?_
        refine gz_getIN (j := 4) hC dX7_surest_52 cf_X6 fl_X7_60 rfl rfl (by decide) ?_
        refine gz_iconst hC (1) dX7_surest_55 (by decide) ?_
        rw [hX.2.1]
        refine gz_isub hC dX7_surest_56 ?_
        refine gz_istore hC dX7_surest_57 (by decide) ?_
        have Bd := (cf_bids hO)
        have a2 := tb_be_in hO hpl
        have hS : sp_surest d0 d1 F w p0 h0 a0 b0 = tb_su (fun k => decide (aa * tb_be d0 d1 F pl ≤ tb_ab d0 d1 F w pl hh k * bb)) ((d0 + d1) * F) := by
          unfold sp_surest
          rw [q1, q2, q3, hp0, hh0, ha0, hb0, nI_clamp (by omega), nI_clamp (by omega), nI_clamp (by omega), nI_clamp (by omega)]
          rfl
        have lp : ∀ (j : Nat) (hj : j ≤ (d0 + d1) * F) (z : Int32) (h1 : j = 0 → z = -1) (h2 : ∀ i, j = i + 1 → z = nI i) (hst : tb_su (fun k => decide (aa * tb_be d0 d1 F pl ≤ tb_ab d0 d1 F w pl hh k * bb)) ((d0 + d1) * F) = tb_su (fun k => decide (aa * tb_be d0 d1 F pl ≤ tb_ab d0 d1 F w pl hh k * bb)) j), gz_W p l e (gz_rm 4) s m args below meth c D ad cy lx_lay 7 (MQ below (gz_Q D ad cy lx_lay (fun v M1 => v = some (.int (sp_surest d0 d1 F w p0 h0 a0 b0)) ∧ M1 = (I, G))) args s 0 0 (gz_A ad lx_lay)) (I, G) 59 [(0, .ref (ad 0)), (1, .int p0), (2, .int h0), (3, .int a0), (4, .int b0), (5, .int (nI (tb_be d0 d1 F pl))), (6, .int z)] [] := by
          intro j
          induction j with
          | zero =>
            intro hj z h1 h2 hst
            refine gz_iload hC dX7_surest_59 rfl ?_
            refine gz_if_lt hC 94 dX7_surest_61 (by decide) (fun c61 => ?_) (fun c61 => ?_)
            · refine gz_iconst hC (-1) dX7_surest_94 (by decide) ?_
              exact gz_iret hC dX7_surest_95 ⟨gz_v (by rw [hS, hst]; rfl), rfl⟩
            · exact absurd (by rw [h1 rfl]; decide) c61
          | succ i ih =>
            intro hj z h1 h2 hst
            have hz := h2 i rfl
            refine gz_iload hC dX7_surest_59 rfl ?_
            refine gz_if_lt hC 94 dX7_surest_61 (by decide) (fun c61 => ?_) (fun c61 => ?_)
            · exact absurd c61 (by rw [hz]; exact nI_pos (by omega))
            · refine gz_aload_n hC dX7_surest_64 rfl ?_
              refine gz_getR (j := 0) hC dX7_surest_65 cf_X7 fl_X7_12 rfl rfl (by decide) ?_
              refine gz_iload_n hC dX7_surest_68 rfl ?_
              refine gz_iload_n hC dX7_surest_69 rfl ?_
              refine gz_iload hC dX7_surest_70 rfl ?_
              refine gz_callV3 hC dX7_surest_72 ml_X7_98 rfl rfl (by decide) (by decide) (Nat.le_of_ble_eq_true rfl) (ct_X6_waysToHold hJ _ _ d0 d1 F w hO hX pl hh i _ _ _ hpl hp0 hh0 hz hk (by omega)) (fun v72 M72 hp72 => ?_)
              obtain ⟨rfl, rfl⟩ := hp72
              refine gz_iload hC dX7_surest_75 rfl ?_
              refine gz_imul hC dX7_surest_77 ?_
              refine gz_iload_n hC dX7_surest_78 rfl ?_
              refine gz_iload hC dX7_surest_79 rfl ?_
              refine gz_imul hC dX7_surest_81 ?_
              have a1 := tb_ab_le hO w pl hh i hpl
              have m1 : tb_ab d0 d1 F w pl hh i * bb ≤ 24 * 100 := Nat.mul_le_mul a1 hbb2
              have m2 : aa * tb_be d0 d1 F pl ≤ 100 * 8 := Nat.mul_le_mul haa2 a2.2
              rw [show tb_wh d0 d1 F w pl hh i (tb_n (tb_d d0 d1 (1 - pl)) F) = tb_ab d0 d1 F w pl hh i from rfl, ha0, hb0, pk_mul, pk_mul]
              refine gz_icmp_lt hC 88 dX7_surest_82 (by decide) (fun c82 => ?_) (fun c82 => ?_)
              · have c83 : ¬ aa * tb_be d0 d1 F pl ≤ tb_ab d0 d1 F w pl hh i * bb := fun q => nI_nlt q (by omega) c82
                refine gz_iinc hC (-1) dX7_surest_88 rfl (by decide) (by decide) ?_
                refine gz_goto hC 59 dX7_surest_91 (by decide) ?_
                refine gz_lw [(0, .ref (ad 0)), (1, .int p0), (2, .int h0), (3, .int (nI aa)), (4, .int (nI bb)), (5, .int (nI (tb_be d0 d1 F pl))), (6, .int (z + (-1)))] ⟨rfl, rfl, rfl, by rw [← ha0]; rfl, by rw [← hb0]; rfl, rfl, rfl, trivial⟩ ?_
                rw [← ha0, ← hb0]
                exact ih (by omega) (z + (-1)) (fun h0 => by subst h0; rw [hz]; rfl) (fun q hq => by subst hq; rw [hz]; exact pk_m1 q) (by rw [hst]; show cond (decide _) _ _ = _; rw [decide_eq_false c83]; rfl)
              · have c83 : aa * tb_be d0 d1 F pl ≤ tb_ab d0 d1 F w pl hh i * bb := by rcases Nat.lt_or_ge (tb_ab d0 d1 F w pl hh i * bb) (aa * tb_be d0 d1 F pl) with q | q; exact absurd (nI_lt q (by omega)) c82; exact q
                refine gz_iload hC dX7_surest_85 rfl ?_
                exact gz_iret hC dX7_surest_87 ⟨gz_v (by rw [← ha0, ← hb0, hS, hst, hz]; show _ = cond (decide _) _ _; rw [decide_eq_true c83]; rfl), rfl⟩
        refine gz_lw [(0, .ref (ad 0)), (1, .int p0), (2, .int h0), (3, .int a0), (4, .int b0), (5, .int (nI (tb_be d0 d1 F pl))), (6, .int (nI ((d0 + d1) * F) - 1))] ⟨rfl, rfl, rfl, rfl, rfl, rfl, rfl, trivial⟩ ?_
        exact lp ((d0 + d1) * F) (Nat.le_refl _) _ (fun q => by omega) (fun i hi => by rw [hi]; exact nI_pred i) rfl
      · have q3 := gz_b0 c27
        refine gz_bipush hC (-2) dX7_surest_30 (by decide) ?_
        exact gz_iret hC dX7_surest_32 ⟨gz_v (by unfold sp_surest; first | (rw [q1, q2, q3]; rfl) | (rw [q1, q2]; rfl) | (rw [q1]; rfl)), rfl⟩
  -- places not laid: [61, 64, 65, 68, 69, 70, 72, 75, 77, 78, 79, 81, 82, 85, 87, 88, 91, 94, 95]
end CT
end
