section
/-- a private method of a class that the tables say can be made, by its rows of tables_1 -/
def lw_okq (q : MethodName × Nat) : Prop := (q.1.cls ≠ "java/lang/invoke/MethodHandle" ∧ q.1.cls ≠ "java/lang/invoke/VarHandle") ∧ Cond.instantiable q.1.cls q.2 ∈ tables_1 ∧ Cond.privateMethod q.1 ∈ tables_1 ∧ Cond.instanceMethod q.1 ∈ tables_1
theorem lw_p0 : lw_okq (⟨"MothTongue", "finding", "(I)I"⟩, 8) := ⟨⟨by decide +kernel, by decide +kernel⟩, List.mem_of_getElem? (i := 15) (by decide +kernel), List.mem_of_getElem? (i := 142) (by decide +kernel), List.mem_of_getElem? (i := 143) (by decide +kernel)⟩
theorem lw_p1 : lw_okq (⟨"MothTongue", "isMoth", "(I)Z"⟩, 8) := ⟨⟨by decide +kernel, by decide +kernel⟩, List.mem_of_getElem? (i := 15) (by decide +kernel), List.mem_of_getElem? (i := 229) (by decide +kernel), List.mem_of_getElem? (i := 230) (by decide +kernel)⟩
theorem lw_p2 : lw_okq (⟨"MothTongue", "lookAhead", "(I)V"⟩, 8) := ⟨⟨by decide +kernel, by decide +kernel⟩, List.mem_of_getElem? (i := 15) (by decide +kernel), List.mem_of_getElem? (i := 335) (by decide +kernel), List.mem_of_getElem? (i := 336) (by decide +kernel)⟩
theorem lw_p3 : lw_okq (⟨"MothTongue", "bestTrait", "(IIII)I"⟩, 8) := ⟨⟨by decide +kernel, by decide +kernel⟩, List.mem_of_getElem? (i := 15) (by decide +kernel), List.mem_of_getElem? (i := 382) (by decide +kernel), List.mem_of_getElem? (i := 383) (by decide +kernel)⟩
theorem lw_p4 : lw_okq (⟨"MothTongue", "staysWithout", "(III)Z"⟩, 8) := ⟨⟨by decide +kernel, by decide +kernel⟩, List.mem_of_getElem? (i := 15) (by decide +kernel), List.mem_of_getElem? (i := 407) (by decide +kernel), List.mem_of_getElem? (i := 408) (by decide +kernel)⟩
theorem lw_p5 : lw_okq (⟨"MothTongue", "isPageAsTold", "(LMothTongue$Sheet;I)Z"⟩, 8) := ⟨⟨by decide +kernel, by decide +kernel⟩, List.mem_of_getElem? (i := 15) (by decide +kernel), List.mem_of_getElem? (i := 424) (by decide +kernel), List.mem_of_getElem? (i := 425) (by decide +kernel)⟩
theorem lw_p6 : lw_okq (⟨"MothTongue", "isFedAsTold", "(LMothTongue$Sheet;I)Z"⟩, 8) := ⟨⟨by decide +kernel, by decide +kernel⟩, List.mem_of_getElem? (i := 15) (by decide +kernel), List.mem_of_getElem? (i := 433) (by decide +kernel), List.mem_of_getElem? (i := 434) (by decide +kernel)⟩
theorem lw_p7 : lw_okq (⟨"MothTongue$Tape", "step", "()V"⟩, 6) := ⟨⟨by decide +kernel, by decide +kernel⟩, List.mem_of_getElem? (i := 53) (by decide +kernel), List.mem_of_getElem? (i := 488) (by decide +kernel), List.mem_of_getElem? (i := 489) (by decide +kernel)⟩
theorem lw_p8 : lw_okq (⟨"MothTongue$Tape", "readItem", "(LMothTongue$Drawer;)Z"⟩, 6) := ⟨⟨by decide +kernel, by decide +kernel⟩, List.mem_of_getElem? (i := 53) (by decide +kernel), List.mem_of_getElem? (i := 492) (by decide +kernel), List.mem_of_getElem? (i := 493) (by decide +kernel)⟩
theorem lw_p9 : lw_okq (⟨"MothTongue$Tape", "isName", "(Ljava/lang/String;)Z"⟩, 6) := ⟨⟨by decide +kernel, by decide +kernel⟩, List.mem_of_getElem? (i := 53) (by decide +kernel), List.mem_of_getElem? (i := 497) (by decide +kernel), List.mem_of_getElem? (i := 498) (by decide +kernel)⟩
theorem lw_p10 : lw_okq (⟨"MothTongue$Tape", "readPage", "(LMothTongue$Drawer;)Z"⟩, 6) := ⟨⟨by decide +kernel, by decide +kernel⟩, List.mem_of_getElem? (i := 53) (by decide +kernel), List.mem_of_getElem? (i := 549) (by decide +kernel), List.mem_of_getElem? (i := 550) (by decide +kernel)⟩
theorem lw_p11 : lw_okq (⟨"MothTongue$Tape", "takeBarePage", "(LMothTongue$Drawer;)I"⟩, 6) := ⟨⟨by decide +kernel, by decide +kernel⟩, List.mem_of_getElem? (i := 53) (by decide +kernel), List.mem_of_getElem? (i := 553) (by decide +kernel), List.mem_of_getElem? (i := 554) (by decide +kernel)⟩
theorem lw_p12 : lw_okq (⟨"MothTongue$Tape", "takeNumber", "(II)I"⟩, 6) := ⟨⟨by decide +kernel, by decide +kernel⟩, List.mem_of_getElem? (i := 53) (by decide +kernel), List.mem_of_getElem? (i := 557) (by decide +kernel), List.mem_of_getElem? (i := 558) (by decide +kernel)⟩
theorem lw_p13 : lw_okq (⟨"MothTongue$Tape", "readMoth", "(LMothTongue$Drawer;I)Z"⟩, 6) := ⟨⟨by decide +kernel, by decide +kernel⟩, List.mem_of_getElem? (i := 53) (by decide +kernel), List.mem_of_getElem? (i := 578) (by decide +kernel), List.mem_of_getElem? (i := 579) (by decide +kernel)⟩
theorem lw_p14 : lw_okq (⟨"MothTongue$Tape", "readTrait", "(LMothTongue$Drawer;ILjava/lang/String;II)Z"⟩, 6) := ⟨⟨by decide +kernel, by decide +kernel⟩, List.mem_of_getElem? (i := 53) (by decide +kernel), List.mem_of_getElem? (i := 586) (by decide +kernel), List.mem_of_getElem? (i := 587) (by decide +kernel)⟩
theorem lw_p15 : lw_okq (⟨"MothTongueModel", "becomes", "(II)I"⟩, 17) := ⟨⟨by decide +kernel, by decide +kernel⟩, List.mem_of_getElem? (i := 669) (by decide +kernel), List.mem_of_getElem? (i := 741) (by decide +kernel), List.mem_of_getElem? (i := 742) (by decide +kernel)⟩
def lw_privs_1 : List (MethodName × Nat) := [(⟨"MothTongue", "finding", "(I)I"⟩, 8), (⟨"MothTongue", "isMoth", "(I)Z"⟩, 8), (⟨"MothTongue", "lookAhead", "(I)V"⟩, 8), (⟨"MothTongue", "bestTrait", "(IIII)I"⟩, 8), (⟨"MothTongue", "staysWithout", "(III)Z"⟩, 8), (⟨"MothTongue", "isPageAsTold", "(LMothTongue$Sheet;I)Z"⟩, 8), (⟨"MothTongue", "isFedAsTold", "(LMothTongue$Sheet;I)Z"⟩, 8), (⟨"MothTongue$Tape", "step", "()V"⟩, 6), (⟨"MothTongue$Tape", "readItem", "(LMothTongue$Drawer;)Z"⟩, 6), (⟨"MothTongue$Tape", "isName", "(Ljava/lang/String;)Z"⟩, 6), (⟨"MothTongue$Tape", "readPage", "(LMothTongue$Drawer;)Z"⟩, 6), (⟨"MothTongue$Tape", "takeBarePage", "(LMothTongue$Drawer;)I"⟩, 6), (⟨"MothTongue$Tape", "takeNumber", "(II)I"⟩, 6), (⟨"MothTongue$Tape", "readMoth", "(LMothTongue$Drawer;I)Z"⟩, 6), (⟨"MothTongue$Tape", "readTrait", "(LMothTongue$Drawer;ILjava/lang/String;II)Z"⟩, 6), (⟨"MothTongueModel", "becomes", "(II)I"⟩, 17)]
theorem lw_r1 : ∀ q ∈ lw_privs_1, lw_okq q := List.forall_mem_cons.mpr ⟨lw_p0, List.forall_mem_cons.mpr ⟨lw_p1, List.forall_mem_cons.mpr ⟨lw_p2, List.forall_mem_cons.mpr ⟨lw_p3, List.forall_mem_cons.mpr ⟨lw_p4, List.forall_mem_cons.mpr ⟨lw_p5, List.forall_mem_cons.mpr ⟨lw_p6, List.forall_mem_cons.mpr ⟨lw_p7, List.forall_mem_cons.mpr ⟨lw_p8, List.forall_mem_cons.mpr ⟨lw_p9, List.forall_mem_cons.mpr ⟨lw_p10, List.forall_mem_cons.mpr ⟨lw_p11, List.forall_mem_cons.mpr ⟨lw_p12, List.forall_mem_cons.mpr ⟨lw_p13, List.forall_mem_cons.mpr ⟨lw_p14, List.forall_mem_cons.mpr ⟨lw_p15, fun _ h => absurd h List.not_mem_nil⟩⟩⟩⟩⟩⟩⟩⟩⟩⟩⟩⟩⟩⟩⟩⟩
theorem lw_p16 : lw_okq (⟨"MothTongueModel", "finds", "(I)I"⟩, 17) := ⟨⟨by decide +kernel, by decide +kernel⟩, List.mem_of_getElem? (i := 669) (by decide +kernel), List.mem_of_getElem? (i := 746) (by decide +kernel), List.mem_of_getElem? (i := 747) (by decide +kernel)⟩
theorem lw_p17 : lw_okq (⟨"MothTongueModel", "wordAt", "(II)I"⟩, 17) := ⟨⟨by decide +kernel, by decide +kernel⟩, List.mem_of_getElem? (i := 669) (by decide +kernel), List.mem_of_getElem? (i := 754) (by decide +kernel), List.mem_of_getElem? (i := 755) (by decide +kernel)⟩
theorem lw_p18 : lw_okq (⟨"MothTongueModel", "saysNow", "(I)I"⟩, 17) := ⟨⟨by decide +kernel, by decide +kernel⟩, List.mem_of_getElem? (i := 669) (by decide +kernel), List.mem_of_getElem? (i := 763) (by decide +kernel), List.mem_of_getElem? (i := 764) (by decide +kernel)⟩
theorem lw_p19 : lw_okq (⟨"MothTongueModel", "whole", "(I)I"⟩, 17) := ⟨⟨by decide +kernel, by decide +kernel⟩, List.mem_of_getElem? (i := 669) (by decide +kernel), List.mem_of_getElem? (i := 767) (by decide +kernel), List.mem_of_getElem? (i := 768) (by decide +kernel)⟩
theorem lw_p20 : lw_okq (⟨"MothTongueModel", "there", "(I)I"⟩, 17) := ⟨⟨by decide +kernel, by decide +kernel⟩, List.mem_of_getElem? (i := 669) (by decide +kernel), List.mem_of_getElem? (i := 774) (by decide +kernel), List.mem_of_getElem? (i := 775) (by decide +kernel)⟩
theorem lw_p21 : lw_okq (⟨"MothTongueModel", "its", "(II)I"⟩, 17) := ⟨⟨by decide +kernel, by decide +kernel⟩, List.mem_of_getElem? (i := 669) (by decide +kernel), List.mem_of_getElem? (i := 778) (by decide +kernel), List.mem_of_getElem? (i := 779) (by decide +kernel)⟩
theorem lw_p22 : lw_okq (⟨"MothTongueModel", "comes", "(II)V"⟩, 17) := ⟨⟨by decide +kernel, by decide +kernel⟩, List.mem_of_getElem? (i := 669) (by decide +kernel), List.mem_of_getElem? (i := 792) (by decide +kernel), List.mem_of_getElem? (i := 793) (by decide +kernel)⟩
theorem lw_p23 : lw_okq (⟨"MothTongueModel", "isMoth", "(I)Z"⟩, 17) := ⟨⟨by decide +kernel, by decide +kernel⟩, List.mem_of_getElem? (i := 669) (by decide +kernel), List.mem_of_getElem? (i := 803) (by decide +kernel), List.mem_of_getElem? (i := 804) (by decide +kernel)⟩
theorem lw_p24 : lw_okq (⟨"MothTongueModel", "bites", "(I)I"⟩, 17) := ⟨⟨by decide +kernel, by decide +kernel⟩, List.mem_of_getElem? (i := 669) (by decide +kernel), List.mem_of_getElem? (i := 808) (by decide +kernel), List.mem_of_getElem? (i := 809) (by decide +kernel)⟩
theorem lw_p25 : lw_okq (⟨"MothTongueModel", "firstWhole", "(I)I"⟩, 17) := ⟨⟨by decide +kernel, by decide +kernel⟩, List.mem_of_getElem? (i := 669) (by decide +kernel), List.mem_of_getElem? (i := 812) (by decide +kernel), List.mem_of_getElem? (i := 813) (by decide +kernel)⟩
theorem lw_p26 : lw_okq (⟨"MothTongueModel", "firstLike", "(II)I"⟩, 17) := ⟨⟨by decide +kernel, by decide +kernel⟩, List.mem_of_getElem? (i := 669) (by decide +kernel), List.mem_of_getElem? (i := 816) (by decide +kernel), List.mem_of_getElem? (i := 817) (by decide +kernel)⟩
theorem lw_p27 : lw_okq (⟨"MothTongueModel", "scholarBites", "(II)I"⟩, 17) := ⟨⟨by decide +kernel, by decide +kernel⟩, List.mem_of_getElem? (i := 669) (by decide +kernel), List.mem_of_getElem? (i := 820) (by decide +kernel), List.mem_of_getElem? (i := 821) (by decide +kernel)⟩
theorem lw_p28 : lw_okq (⟨"MothTongueModel", "firstOf", "(II)I"⟩, 17) := ⟨⟨by decide +kernel, by decide +kernel⟩, List.mem_of_getElem? (i := 669) (by decide +kernel), List.mem_of_getElem? (i := 824) (by decide +kernel), List.mem_of_getElem? (i := 825) (by decide +kernel)⟩
theorem lw_p29 : lw_okq (⟨"MothTongueModel", "lastWhole", "(I)I"⟩, 17) := ⟨⟨by decide +kernel, by decide +kernel⟩, List.mem_of_getElem? (i := 669) (by decide +kernel), List.mem_of_getElem? (i := 828) (by decide +kernel), List.mem_of_getElem? (i := 829) (by decide +kernel)⟩
theorem lw_p30 : lw_okq (⟨"MothTongueModel", "goes", "(I)V"⟩, 17) := ⟨⟨by decide +kernel, by decide +kernel⟩, List.mem_of_getElem? (i := 669) (by decide +kernel), List.mem_of_getElem? (i := 860) (by decide +kernel), List.mem_of_getElem? (i := 861) (by decide +kernel)⟩
theorem lw_p31 : lw_okq (⟨"MothTongueModel", "nightBut", "(I)V"⟩, 17) := ⟨⟨by decide +kernel, by decide +kernel⟩, List.mem_of_getElem? (i := 669) (by decide +kernel), List.mem_of_getElem? (i := 864) (by decide +kernel), List.mem_of_getElem? (i := 865) (by decide +kernel)⟩
def lw_privs_2 : List (MethodName × Nat) := [(⟨"MothTongueModel", "finds", "(I)I"⟩, 17), (⟨"MothTongueModel", "wordAt", "(II)I"⟩, 17), (⟨"MothTongueModel", "saysNow", "(I)I"⟩, 17), (⟨"MothTongueModel", "whole", "(I)I"⟩, 17), (⟨"MothTongueModel", "there", "(I)I"⟩, 17), (⟨"MothTongueModel", "its", "(II)I"⟩, 17), (⟨"MothTongueModel", "comes", "(II)V"⟩, 17), (⟨"MothTongueModel", "isMoth", "(I)Z"⟩, 17), (⟨"MothTongueModel", "bites", "(I)I"⟩, 17), (⟨"MothTongueModel", "firstWhole", "(I)I"⟩, 17), (⟨"MothTongueModel", "firstLike", "(II)I"⟩, 17), (⟨"MothTongueModel", "scholarBites", "(II)I"⟩, 17), (⟨"MothTongueModel", "firstOf", "(II)I"⟩, 17), (⟨"MothTongueModel", "lastWhole", "(I)I"⟩, 17), (⟨"MothTongueModel", "goes", "(I)V"⟩, 17), (⟨"MothTongueModel", "nightBut", "(I)V"⟩, 17)]
theorem lw_r2 : ∀ q ∈ lw_privs_2, lw_okq q := List.forall_mem_cons.mpr ⟨lw_p16, List.forall_mem_cons.mpr ⟨lw_p17, List.forall_mem_cons.mpr ⟨lw_p18, List.forall_mem_cons.mpr ⟨lw_p19, List.forall_mem_cons.mpr ⟨lw_p20, List.forall_mem_cons.mpr ⟨lw_p21, List.forall_mem_cons.mpr ⟨lw_p22, List.forall_mem_cons.mpr ⟨lw_p23, List.forall_mem_cons.mpr ⟨lw_p24, List.forall_mem_cons.mpr ⟨lw_p25, List.forall_mem_cons.mpr ⟨lw_p26, List.forall_mem_cons.mpr ⟨lw_p27, List.forall_mem_cons.mpr ⟨lw_p28, List.forall_mem_cons.mpr ⟨lw_p29, List.forall_mem_cons.mpr ⟨lw_p30, List.forall_mem_cons.mpr ⟨lw_p31, fun _ h => absurd h List.not_mem_nil⟩⟩⟩⟩⟩⟩⟩⟩⟩⟩⟩⟩⟩⟩⟩⟩
theorem lw_p32 : lw_okq (⟨"MothTongueModel", "holes", "()I"⟩, 17) := ⟨⟨by decide +kernel, by decide +kernel⟩, List.mem_of_getElem? (i := 669) (by decide +kernel), List.mem_of_getElem? (i := 868) (by decide +kernel), List.mem_of_getElem? (i := 869) (by decide +kernel)⟩
theorem lw_p33 : lw_okq (⟨"MothTongueModel", "saysAll", "()I"⟩, 17) := ⟨⟨by decide +kernel, by decide +kernel⟩, List.mem_of_getElem? (i := 669) (by decide +kernel), List.mem_of_getElem? (i := 876) (by decide +kernel), List.mem_of_getElem? (i := 877) (by decide +kernel)⟩
theorem lw_p34 : lw_okq (⟨"MothTongueModel", "fedAll", "()I"⟩, 17) := ⟨⟨by decide +kernel, by decide +kernel⟩, List.mem_of_getElem? (i := 669) (by decide +kernel), List.mem_of_getElem? (i := 880) (by decide +kernel), List.mem_of_getElem? (i := 881) (by decide +kernel)⟩
theorem lw_p35 : lw_okq (⟨"MothTongueModel", "hungry", "()I"⟩, 17) := ⟨⟨by decide +kernel, by decide +kernel⟩, List.mem_of_getElem? (i := 669) (by decide +kernel), List.mem_of_getElem? (i := 884) (by decide +kernel), List.mem_of_getElem? (i := 885) (by decide +kernel)⟩
theorem lw_p36 : lw_okq (⟨"MothTongueModel", "barePages", "()I"⟩, 17) := ⟨⟨by decide +kernel, by decide +kernel⟩, List.mem_of_getElem? (i := 669) (by decide +kernel), List.mem_of_getElem? (i := 888) (by decide +kernel), List.mem_of_getElem? (i := 889) (by decide +kernel)⟩
theorem lw_p37 : lw_okq (⟨"MothTongueModel", "saysIn", "(II)I"⟩, 17) := ⟨⟨by decide +kernel, by decide +kernel⟩, List.mem_of_getElem? (i := 669) (by decide +kernel), List.mem_of_getElem? (i := 904) (by decide +kernel), List.mem_of_getElem? (i := 905) (by decide +kernel)⟩
theorem lw_p38 : lw_okq (⟨"MothTongueModel", "leavesAll", "()Z"⟩, 17) := ⟨⟨by decide +kernel, by decide +kernel⟩, List.mem_of_getElem? (i := 669) (by decide +kernel), List.mem_of_getElem? (i := 926) (by decide +kernel), List.mem_of_getElem? (i := 927) (by decide +kernel)⟩
theorem lw_p39 : lw_okq (⟨"MothTongueModel", "areAlike", "(II)Z"⟩, 17) := ⟨⟨by decide +kernel, by decide +kernel⟩, List.mem_of_getElem? (i := 669) (by decide +kernel), List.mem_of_getElem? (i := 934) (by decide +kernel), List.mem_of_getElem? (i := 935) (by decide +kernel)⟩
theorem lw_p40 : lw_okq (⟨"MothTongueModel", "isAsked", "(III)Z"⟩, 17) := ⟨⟨by decide +kernel, by decide +kernel⟩, List.mem_of_getElem? (i := 669) (by decide +kernel), List.mem_of_getElem? (i := 942) (by decide +kernel), List.mem_of_getElem? (i := 943) (by decide +kernel)⟩
theorem lw_p41 : lw_okq (⟨"MothTongueModel", "mostBy", "(IIIIII)I"⟩, 17) := ⟨⟨by decide +kernel, by decide +kernel⟩, List.mem_of_getElem? (i := 669) (by decide +kernel), List.mem_of_getElem? (i := 947) (by decide +kernel), List.mem_of_getElem? (i := 948) (by decide +kernel)⟩
theorem lw_p42 : lw_okq (⟨"MothTongueModel", "swaps", "(II)V"⟩, 17) := ⟨⟨by decide +kernel, by decide +kernel⟩, List.mem_of_getElem? (i := 669) (by decide +kernel), List.mem_of_getElem? (i := 963) (by decide +kernel), List.mem_of_getElem? (i := 964) (by decide +kernel)⟩
theorem lw_p43 : lw_okq (⟨"MothTongueModel", "orNone", "(I)I"⟩, 17) := ⟨⟨by decide +kernel, by decide +kernel⟩, List.mem_of_getElem? (i := 669) (by decide +kernel), List.mem_of_getElem? (i := 967) (by decide +kernel), List.mem_of_getElem? (i := 968) (by decide +kernel)⟩
theorem lw_p44 : lw_okq (⟨"MothTongueModel", "stays", "(III)Z"⟩, 17) := ⟨⟨by decide +kernel, by decide +kernel⟩, List.mem_of_getElem? (i := 669) (by decide +kernel), List.mem_of_getElem? (i := 976) (by decide +kernel), List.mem_of_getElem? (i := 977) (by decide +kernel)⟩
theorem lw_p45 : lw_okq (⟨"MothTongueModel", "wants", "(I)I"⟩, 17) := ⟨⟨by decide +kernel, by decide +kernel⟩, List.mem_of_getElem? (i := 669) (by decide +kernel), List.mem_of_getElem? (i := 984) (by decide +kernel), List.mem_of_getElem? (i := 985) (by decide +kernel)⟩
theorem lw_p46 : lw_okq (⟨"MothTongueModel", "isTold", "(III)Z"⟩, 17) := ⟨⟨by decide +kernel, by decide +kernel⟩, List.mem_of_getElem? (i := 669) (by decide +kernel), List.mem_of_getElem? (i := 992) (by decide +kernel), List.mem_of_getElem? (i := 993) (by decide +kernel)⟩
theorem lw_p47 : lw_okq (⟨"MothTongueModel", "isFedSo", "(II)Z"⟩, 17) := ⟨⟨by decide +kernel, by decide +kernel⟩, List.mem_of_getElem? (i := 669) (by decide +kernel), List.mem_of_getElem? (i := 1000) (by decide +kernel), List.mem_of_getElem? (i := 1001) (by decide +kernel)⟩
def lw_privs_3 : List (MethodName × Nat) := [(⟨"MothTongueModel", "holes", "()I"⟩, 17), (⟨"MothTongueModel", "saysAll", "()I"⟩, 17), (⟨"MothTongueModel", "fedAll", "()I"⟩, 17), (⟨"MothTongueModel", "hungry", "()I"⟩, 17), (⟨"MothTongueModel", "barePages", "()I"⟩, 17), (⟨"MothTongueModel", "saysIn", "(II)I"⟩, 17), (⟨"MothTongueModel", "leavesAll", "()Z"⟩, 17), (⟨"MothTongueModel", "areAlike", "(II)Z"⟩, 17), (⟨"MothTongueModel", "isAsked", "(III)Z"⟩, 17), (⟨"MothTongueModel", "mostBy", "(IIIIII)I"⟩, 17), (⟨"MothTongueModel", "swaps", "(II)V"⟩, 17), (⟨"MothTongueModel", "orNone", "(I)I"⟩, 17), (⟨"MothTongueModel", "stays", "(III)Z"⟩, 17), (⟨"MothTongueModel", "wants", "(I)I"⟩, 17), (⟨"MothTongueModel", "isTold", "(III)Z"⟩, 17), (⟨"MothTongueModel", "isFedSo", "(II)Z"⟩, 17)]
theorem lw_r3 : ∀ q ∈ lw_privs_3, lw_okq q := List.forall_mem_cons.mpr ⟨lw_p32, List.forall_mem_cons.mpr ⟨lw_p33, List.forall_mem_cons.mpr ⟨lw_p34, List.forall_mem_cons.mpr ⟨lw_p35, List.forall_mem_cons.mpr ⟨lw_p36, List.forall_mem_cons.mpr ⟨lw_p37, List.forall_mem_cons.mpr ⟨lw_p38, List.forall_mem_cons.mpr ⟨lw_p39, List.forall_mem_cons.mpr ⟨lw_p40, List.forall_mem_cons.mpr ⟨lw_p41, List.forall_mem_cons.mpr ⟨lw_p42, List.forall_mem_cons.mpr ⟨lw_p43, List.forall_mem_cons.mpr ⟨lw_p44, List.forall_mem_cons.mpr ⟨lw_p45, List.forall_mem_cons.mpr ⟨lw_p46, List.forall_mem_cons.mpr ⟨lw_p47, fun _ h => absurd h List.not_mem_nil⟩⟩⟩⟩⟩⟩⟩⟩⟩⟩⟩⟩⟩⟩⟩⟩
theorem lw_p48 : lw_okq (⟨"MothTongueModel", "draw", "()I"⟩, 17) := ⟨⟨by decide +kernel, by decide +kernel⟩, List.mem_of_getElem? (i := 669) (by decide +kernel), List.mem_of_getElem? (i := 1008) (by decide +kernel), List.mem_of_getElem? (i := 1009) (by decide +kernel)⟩
theorem lw_p49 : lw_okq (⟨"MothTongueModel", "nextToken", "()V"⟩, 17) := ⟨⟨by decide +kernel, by decide +kernel⟩, List.mem_of_getElem? (i := 669) (by decide +kernel), List.mem_of_getElem? (i := 1034) (by decide +kernel), List.mem_of_getElem? (i := 1035) (by decide +kernel)⟩
theorem lw_p50 : lw_okq (⟨"MothTongueModel", "byteAt", "(I)I"⟩, 17) := ⟨⟨by decide +kernel, by decide +kernel⟩, List.mem_of_getElem? (i := 669) (by decide +kernel), List.mem_of_getElem? (i := 1038) (by decide +kernel), List.mem_of_getElem? (i := 1039) (by decide +kernel)⟩
theorem lw_p51 : lw_okq (⟨"MothTongueModel", "itemHere", "()Z"⟩, 17) := ⟨⟨by decide +kernel, by decide +kernel⟩, List.mem_of_getElem? (i := 669) (by decide +kernel), List.mem_of_getElem? (i := 1048) (by decide +kernel), List.mem_of_getElem? (i := 1049) (by decide +kernel)⟩
theorem lw_p52 : lw_okq (⟨"MothTongueModel", "kindHere", "()I"⟩, 17) := ⟨⟨by decide +kernel, by decide +kernel⟩, List.mem_of_getElem? (i := 669) (by decide +kernel), List.mem_of_getElem? (i := 1052) (by decide +kernel), List.mem_of_getElem? (i := 1053) (by decide +kernel)⟩
theorem lw_p53 : lw_okq (⟨"MothTongueModel", "isFour", "(IIII)Z"⟩, 17) := ⟨⟨by decide +kernel, by decide +kernel⟩, List.mem_of_getElem? (i := 669) (by decide +kernel), List.mem_of_getElem? (i := 1056) (by decide +kernel), List.mem_of_getElem? (i := 1057) (by decide +kernel)⟩
theorem lw_p54 : lw_okq (⟨"MothTongueModel", "isWord", "(I)Z"⟩, 17) := ⟨⟨by decide +kernel, by decide +kernel⟩, List.mem_of_getElem? (i := 669) (by decide +kernel), List.mem_of_getElem? (i := 1060) (by decide +kernel), List.mem_of_getElem? (i := 1061) (by decide +kernel)⟩
theorem lw_p55 : lw_okq (⟨"MothTongueModel", "has3", "(IIII)Z"⟩, 17) := ⟨⟨by decide +kernel, by decide +kernel⟩, List.mem_of_getElem? (i := 669) (by decide +kernel), List.mem_of_getElem? (i := 1064) (by decide +kernel), List.mem_of_getElem? (i := 1065) (by decide +kernel)⟩
theorem lw_p56 : lw_okq (⟨"MothTongueModel", "isFive", "(IIIII)Z"⟩, 17) := ⟨⟨by decide +kernel, by decide +kernel⟩, List.mem_of_getElem? (i := 669) (by decide +kernel), List.mem_of_getElem? (i := 1068) (by decide +kernel), List.mem_of_getElem? (i := 1069) (by decide +kernel)⟩
theorem lw_p57 : lw_okq (⟨"MothTongueModel", "isSix", "(IIIIII)Z"⟩, 17) := ⟨⟨by decide +kernel, by decide +kernel⟩, List.mem_of_getElem? (i := 669) (by decide +kernel), List.mem_of_getElem? (i := 1072) (by decide +kernel), List.mem_of_getElem? (i := 1073) (by decide +kernel)⟩
theorem lw_p58 : lw_okq (⟨"MothTongueModel", "mothHere", "(I)Z"⟩, 17) := ⟨⟨by decide +kernel, by decide +kernel⟩, List.mem_of_getElem? (i := 669) (by decide +kernel), List.mem_of_getElem? (i := 1076) (by decide +kernel), List.mem_of_getElem? (i := 1077) (by decide +kernel)⟩
theorem lw_p59 : lw_okq (⟨"MothTongueModel", "fails", "()Z"⟩, 17) := ⟨⟨by decide +kernel, by decide +kernel⟩, List.mem_of_getElem? (i := 669) (by decide +kernel), List.mem_of_getElem? (i := 1080) (by decide +kernel), List.mem_of_getElem? (i := 1081) (by decide +kernel)⟩
theorem lw_p60 : lw_okq (⟨"MothTongueModel", "isTwo", "(II)Z"⟩, 17) := ⟨⟨by decide +kernel, by decide +kernel⟩, List.mem_of_getElem? (i := 669) (by decide +kernel), List.mem_of_getElem? (i := 1084) (by decide +kernel), List.mem_of_getElem? (i := 1085) (by decide +kernel)⟩
theorem lw_p61 : lw_okq (⟨"MothTongueModel", "perhaps", "(ZIII)Z"⟩, 17) := ⟨⟨by decide +kernel, by decide +kernel⟩, List.mem_of_getElem? (i := 669) (by decide +kernel), List.mem_of_getElem? (i := 1088) (by decide +kernel), List.mem_of_getElem? (i := 1089) (by decide +kernel)⟩
theorem lw_p62 : lw_okq (⟨"MothTongueModel", "isNumber", "(II)Z"⟩, 17) := ⟨⟨by decide +kernel, by decide +kernel⟩, List.mem_of_getElem? (i := 669) (by decide +kernel), List.mem_of_getElem? (i := 1092) (by decide +kernel), List.mem_of_getElem? (i := 1093) (by decide +kernel)⟩
theorem lw_p63 : lw_okq (⟨"MothTongueModel", "pageHere", "()Z"⟩, 17) := ⟨⟨by decide +kernel, by decide +kernel⟩, List.mem_of_getElem? (i := 669) (by decide +kernel), List.mem_of_getElem? (i := 1096) (by decide +kernel), List.mem_of_getElem? (i := 1097) (by decide +kernel)⟩
def lw_privs_4 : List (MethodName × Nat) := [(⟨"MothTongueModel", "draw", "()I"⟩, 17), (⟨"MothTongueModel", "nextToken", "()V"⟩, 17), (⟨"MothTongueModel", "byteAt", "(I)I"⟩, 17), (⟨"MothTongueModel", "itemHere", "()Z"⟩, 17), (⟨"MothTongueModel", "kindHere", "()I"⟩, 17), (⟨"MothTongueModel", "isFour", "(IIII)Z"⟩, 17), (⟨"MothTongueModel", "isWord", "(I)Z"⟩, 17), (⟨"MothTongueModel", "has3", "(IIII)Z"⟩, 17), (⟨"MothTongueModel", "isFive", "(IIIII)Z"⟩, 17), (⟨"MothTongueModel", "isSix", "(IIIIII)Z"⟩, 17), (⟨"MothTongueModel", "mothHere", "(I)Z"⟩, 17), (⟨"MothTongueModel", "fails", "()Z"⟩, 17), (⟨"MothTongueModel", "isTwo", "(II)Z"⟩, 17), (⟨"MothTongueModel", "perhaps", "(ZIII)Z"⟩, 17), (⟨"MothTongueModel", "isNumber", "(II)Z"⟩, 17), (⟨"MothTongueModel", "pageHere", "()Z"⟩, 17)]
theorem lw_r4 : ∀ q ∈ lw_privs_4, lw_okq q := List.forall_mem_cons.mpr ⟨lw_p48, List.forall_mem_cons.mpr ⟨lw_p49, List.forall_mem_cons.mpr ⟨lw_p50, List.forall_mem_cons.mpr ⟨lw_p51, List.forall_mem_cons.mpr ⟨lw_p52, List.forall_mem_cons.mpr ⟨lw_p53, List.forall_mem_cons.mpr ⟨lw_p54, List.forall_mem_cons.mpr ⟨lw_p55, List.forall_mem_cons.mpr ⟨lw_p56, List.forall_mem_cons.mpr ⟨lw_p57, List.forall_mem_cons.mpr ⟨lw_p58, List.forall_mem_cons.mpr ⟨lw_p59, List.forall_mem_cons.mpr ⟨lw_p60, List.forall_mem_cons.mpr ⟨lw_p61, List.forall_mem_cons.mpr ⟨lw_p62, List.forall_mem_cons.mpr ⟨lw_p63, fun _ h => absurd h List.not_mem_nil⟩⟩⟩⟩⟩⟩⟩⟩⟩⟩⟩⟩⟩⟩⟩⟩
theorem lw_p64 : lw_okq (⟨"MothTongueModel", "empties", "(I)V"⟩, 17) := ⟨⟨by decide +kernel, by decide +kernel⟩, List.mem_of_getElem? (i := 669) (by decide +kernel), List.mem_of_getElem? (i := 1100) (by decide +kernel), List.mem_of_getElem? (i := 1101) (by decide +kernel)⟩
theorem lw_p65 : lw_okq (⟨"MothTongueModel", "emptyHere", "()Z"⟩, 17) := ⟨⟨by decide +kernel, by decide +kernel⟩, List.mem_of_getElem? (i := 669) (by decide +kernel), List.mem_of_getElem? (i := 1104) (by decide +kernel), List.mem_of_getElem? (i := 1105) (by decide +kernel)⟩
def lw_privs_5 : List (MethodName × Nat) := [(⟨"MothTongueModel", "empties", "(I)V"⟩, 17), (⟨"MothTongueModel", "emptyHere", "()Z"⟩, 17)]
theorem lw_r5 : ∀ q ∈ lw_privs_5, lw_okq q := List.forall_mem_cons.mpr ⟨lw_p64, List.forall_mem_cons.mpr ⟨lw_p65, fun _ h => absurd h List.not_mem_nil⟩⟩
def lw_privs : List (MethodName × Nat) := lw_privs_1 ++ (lw_privs_2 ++ (lw_privs_3 ++ (lw_privs_4 ++ (lw_privs_5))))
def lw_tbl : List Cond := k2_sels lw_privs ++ tables_1
theorem lw_privs_ok : ∀ q ∈ lw_privs, lw_okq q := by
  show ∀ q ∈ lw_privs_1 ++ (lw_privs_2 ++ (lw_privs_3 ++ (lw_privs_4 ++ (lw_privs_5)))), lw_okq q
  exact List.forall_mem_append.mpr ⟨lw_r1, List.forall_mem_append.mpr ⟨lw_r2, List.forall_mem_append.mpr ⟨lw_r3, List.forall_mem_append.mpr ⟨lw_r4, lw_r5⟩⟩⟩⟩
end
section
def RX0 : String := "MothTongue$Drawer"
def TX0 : u_T := fun k => match k with
  | 0 => ("MothTongue$Drawer", "words", "[I", true)
  | 1 => ("MothTongue$Drawer", "traits", "[I", true)
  | 2 => ("MothTongue$Drawer", "spots", "[I", true)
  | 3 => ("MothTongue$Drawer", "moths", "I", false)
  | 4 => ("MothTongue$Drawer", "night", "I", false)
  | _ => ("MothTongue$Drawer", "z", "I", false)
def tyX0 : Nat → FieldType := fun k => match k with
  | 0 => .array .int
  | 1 => .array .int
  | 2 => .array .int
  | 3 => .int
  | 4 => .int
  | _ => .int
abbrev wsX00 : List Cond := u_ws RX0 TX0 6
theorem nmX0 : ∀ a, a < 6 → ∀ b, b < 6 → a ≠ b → (TX0 a).2.1 ≠ (TX0 b).2.1 := by decide +kernel
theorem tyX0_ok : ∀ k, k < 6 → parseFieldDescriptor (TX0 k).2.2.1 = some (tyX0 k) := by decide +kernel
abbrev cX0_init : ByteArray := prog_2_method_1_code
def yX0_init : MethodName := ⟨RX0, "<init>", "()V"⟩
abbrev cX0_become : ByteArray := prog_2_method_2_code
def yX0_become : MethodName := ⟨RX0, "become", "(LMothTongue$Drawer;)V"⟩
abbrev cX0_wordAt : ByteArray := prog_2_method_3_code
def yX0_wordAt : MethodName := ⟨RX0, "wordAt", "(II)I"⟩
abbrev cX0_setWord : ByteArray := prog_2_method_4_code
def yX0_setWord : MethodName := ⟨RX0, "setWord", "(III)V"⟩
abbrev cX0_setHoles : ByteArray := prog_2_method_5_code
def yX0_setHoles : MethodName := ⟨RX0, "setHoles", "(I)V"⟩
abbrev cX0_saidBy : ByteArray := prog_2_method_6_code
def yX0_saidBy : MethodName := ⟨RX0, "saidBy", "(I)I"⟩
abbrev cX0_placesWithWords : ByteArray := prog_2_method_7_code
def yX0_placesWithWords : MethodName := ⟨RX0, "placesWithWords", "(I)I"⟩
abbrev cX0_holesOf : ByteArray := prog_2_method_8_code
def yX0_holesOf : MethodName := ⟨RX0, "holesOf", "(I)I"⟩
abbrev cX0_isBare : ByteArray := prog_2_method_9_code
def yX0_isBare : MethodName := ⟨RX0, "isBare", "(I)Z"⟩
abbrev cX0_unlikePlaces : ByteArray := prog_2_method_10_code
def yX0_unlikePlaces : MethodName := ⟨RX0, "unlikePlaces", "(II)I"⟩
abbrev cX0_copyPage : ByteArray := prog_2_method_11_code
def yX0_copyPage : MethodName := ⟨RX0, "copyPage", "(II)I"⟩
abbrev cX0_hasPageOf : ByteArray := prog_2_method_12_code
def yX0_hasPageOf : MethodName := ⟨RX0, "hasPageOf", "(LMothTongue$Drawer;I)Z"⟩
abbrev cX0_hasPagesOf : ByteArray := prog_2_method_13_code
def yX0_hasPagesOf : MethodName := ⟨RX0, "hasPagesOf", "(LMothTongue$Drawer;)Z"⟩
abbrev cX0_allHoles : ByteArray := prog_2_method_14_code
def yX0_allHoles : MethodName := ⟨RX0, "allHoles", "()I"⟩
abbrev cX0_allSaid : ByteArray := prog_2_method_15_code
def yX0_allSaid : MethodName := ⟨RX0, "allSaid", "()I"⟩
abbrev cX0_barePages : ByteArray := prog_2_method_16_code
def yX0_barePages : MethodName := ⟨RX0, "barePages", "()I"⟩
abbrev cX0_isFull : ByteArray := prog_2_method_17_code
def yX0_isFull : MethodName := ⟨RX0, "isFull", "()Z"⟩
abbrev cX0_addMoth : ByteArray := prog_2_method_18_code
def yX0_addMoth : MethodName := ⟨RX0, "addMoth", "(II)I"⟩
abbrev cX0_trait : ByteArray := prog_2_method_19_code
def yX0_trait : MethodName := ⟨RX0, "trait", "(II)I"⟩
abbrev cX0_setTrait : ByteArray := prog_2_method_20_code
def yX0_setTrait : MethodName := ⟨RX0, "setTrait", "(III)V"⟩
abbrev cX0_swapPages : ByteArray := prog_2_method_21_code
def yX0_swapPages : MethodName := ⟨RX0, "swapPages", "(II)V"⟩
abbrev cX0_mothsOn : ByteArray := prog_2_method_22_code
def yX0_mothsOn : MethodName := ⟨RX0, "mothsOn", "(I)I"⟩
abbrev cX0_idleMoths : ByteArray := prog_2_method_23_code
def yX0_idleMoths : MethodName := ⟨RX0, "idleMoths", "()I"⟩
abbrev cX0_allFed : ByteArray := prog_2_method_24_code
def yX0_allFed : MethodName := ⟨RX0, "allFed", "()I"⟩
abbrev cX0_heldSpots : ByteArray := prog_2_method_25_code
def yX0_heldSpots : MethodName := ⟨RX0, "heldSpots", "()I"⟩
abbrev cX0_bittenPlace : ByteArray := prog_2_method_26_code
def yX0_bittenPlace : MethodName := ⟨RX0, "bittenPlace", "(I)I"⟩
abbrev cX0_bite : ByteArray := prog_2_method_27_code
def yX0_bite : MethodName := ⟨RX0, "bite", "(I)V"⟩
abbrev cX0_passNights : ByteArray := prog_2_method_28_code
def yX0_passNights : MethodName := ⟨RX0, "passNights", "(II)V"⟩
abbrev cX0_draw : ByteArray := prog_2_method_29_code
def yX0_draw : MethodName := ⟨RX0, "draw", "()I"⟩
abbrev cX0_leaveLightOn : ByteArray := prog_2_method_30_code
def yX0_leaveLightOn : MethodName := ⟨RX0, "leaveLightOn", "()V"⟩
def RX1 : String := "MothTongue$Kinds"
def TX1 : u_T := fun k => match k with
  | _ => ("", "", "", false)
def tyX1 : Nat → FieldType := fun k => match k with
  | _ => .int
abbrev wsX10 : List Cond := u_ws RX1 TX1 0
theorem nmX1 : ∀ a, a < 0 → ∀ b, b < 0 → a ≠ b → (TX1 a).2.1 ≠ (TX1 b).2.1 := by decide +kernel
theorem tyX1_ok : ∀ k, k < 0 → parseFieldDescriptor (TX1 k).2.2.1 = some (tyX1 k) := by decide +kernel
abbrev cX1_isOneOf : ByteArray := prog_3_method_2_code
def yX1_isOneOf : MethodName := ⟨RX1, "isOneOf", "(II)Z"⟩
abbrev cX1_bittenPlace : ByteArray := prog_3_method_3_code
def yX1_bittenPlace : MethodName := ⟨RX1, "bittenPlace", "(III[II)I"⟩
abbrev cX1_leftOf : ByteArray := prog_3_method_4_code
def yX1_leftOf : MethodName := ⟨RX1, "leftOf", "(II)I"⟩
abbrev cX1_gainBy : ByteArray := prog_3_method_5_code
def yX1_gainBy : MethodName := ⟨RX1, "gainBy", "(II)I"⟩
abbrev cX1_firstLike : ByteArray := prog_3_method_6_code
def yX1_firstLike : MethodName := ⟨RX1, "firstLike", "(I[II)I"⟩
abbrev cX1_firstWord : ByteArray := prog_3_method_7_code
def yX1_firstWord : MethodName := ⟨RX1, "firstWord", "([II)I"⟩
abbrev cX1_lastWord : ByteArray := prog_3_method_8_code
def yX1_lastWord : MethodName := ⟨RX1, "lastWord", "([II)I"⟩
abbrev cX1_firstOfParity : ByteArray := prog_3_method_9_code
def yX1_firstOfParity : MethodName := ⟨RX1, "firstOfParity", "(I[II)I"⟩
abbrev cX1_learnedLeft : ByteArray := prog_3_method_10_code
def yX1_learnedLeft : MethodName := ⟨RX1, "learnedLeft", "(I)I"⟩
def RX2 : String := "MothTongue$Sheet"
def TX2 : u_T := fun k => match k with
  | 0 => ("MothTongue$Sheet", "numbers", "[I", true)
  | 1 => ("MothTongue$Sheet", "bits", "I", false)
  | _ => ("MothTongue$Sheet", "size", "I", false)
def tyX2 : Nat → FieldType := fun k => match k with
  | 0 => .array .int
  | 1 => .int
  | _ => .int
abbrev wsX20 : List Cond := u_ws RX2 TX2 3
theorem nmX2 : ∀ a, a < 3 → ∀ b, b < 3 → a ≠ b → (TX2 a).2.1 ≠ (TX2 b).2.1 := by decide +kernel
theorem tyX2_ok : ∀ k, k < 3 → parseFieldDescriptor (TX2 k).2.2.1 = some (tyX2 k) := by decide +kernel
abbrev cX2_init : ByteArray := prog_4_method_1_code
def yX2_init : MethodName := ⟨RX2, "<init>", "()V"⟩
abbrev cX2_isMissing : ByteArray := prog_4_method_2_code
def yX2_isMissing : MethodName := ⟨RX2, "isMissing", "()Z"⟩
abbrev cX2_make : ByteArray := prog_4_method_3_code
def yX2_make : MethodName := ⟨RX2, "make", "(II)V"⟩
abbrev cX2_set : ByteArray := prog_4_method_4_code
def yX2_set : MethodName := ⟨RX2, "set", "(II)V"⟩
abbrev cX2_hasRun : ByteArray := prog_4_method_5_code
def yX2_hasRun : MethodName := ⟨RX2, "hasRun", "(II)Z"⟩
def RX3 : String := "MothTongue$Tape"
def TX3 : u_T := fun k => match k with
  | 0 => ("MothTongue$Tape", "bytes", "[B", true)
  | 1 => ("MothTongue$Tape", "size", "I", false)
  | 2 => ("MothTongue$Tape", "token", "I", false)
  | 3 => ("MothTongue$Tape", "begin", "I", false)
  | 4 => ("MothTongue$Tape", "end", "I", false)
  | _ => ("MothTongue$Tape", "value", "I", false)
def tyX3 : Nat → FieldType := fun k => match k with
  | 0 => .array .byte
  | 1 => .int
  | 2 => .int
  | 3 => .int
  | 4 => .int
  | _ => .int
abbrev wsX30 : List Cond := u_ws RX3 TX3 6
theorem nmX3 : ∀ a, a < 6 → ∀ b, b < 6 → a ≠ b → (TX3 a).2.1 ≠ (TX3 b).2.1 := by decide +kernel
theorem tyX3_ok : ∀ k, k < 6 → parseFieldDescriptor (TX3 k).2.2.1 = some (tyX3 k) := by decide +kernel
abbrev cX3_init : ByteArray := prog_5_method_1_code
def yX3_init : MethodName := ⟨RX3, "<init>", "()V"⟩
abbrev cX3_append : ByteArray := prog_5_method_2_code
def yX3_append : MethodName := ⟨RX3, "append", "(B)V"⟩
abbrev cX3_empty : ByteArray := prog_5_method_3_code
def yX3_empty : MethodName := ⟨RX3, "empty", "()I"⟩
abbrev cX3_readInto : ByteArray := prog_5_method_4_code
def yX3_readInto : MethodName := ⟨RX3, "readInto", "(LMothTongue$Drawer;)I"⟩
abbrev cX3_readItem : ByteArray := prog_5_method_5_code
def yX3_readItem : MethodName := ⟨RX3, "readItem", "(LMothTongue$Drawer;)Z"⟩
abbrev cX3_readMoth : ByteArray := prog_5_method_6_code
def yX3_readMoth : MethodName := ⟨RX3, "readMoth", "(LMothTongue$Drawer;I)Z"⟩
abbrev cX3_readTrait : ByteArray := prog_5_method_7_code
def yX3_readTrait : MethodName := ⟨RX3, "readTrait", "(LMothTongue$Drawer;ILjava/lang/String;II)Z"⟩
abbrev cX3_readPage : ByteArray := prog_5_method_8_code
def yX3_readPage : MethodName := ⟨RX3, "readPage", "(LMothTongue$Drawer;)Z"⟩
abbrev cX3_takeBarePage : ByteArray := prog_5_method_9_code
def yX3_takeBarePage : MethodName := ⟨RX3, "takeBarePage", "(LMothTongue$Drawer;)I"⟩
abbrev cX3_takeNumber : ByteArray := prog_5_method_10_code
def yX3_takeNumber : MethodName := ⟨RX3, "takeNumber", "(II)I"⟩
abbrev cX3_isName : ByteArray := prog_5_method_11_code
def yX3_isName : MethodName := ⟨RX3, "isName", "(Ljava/lang/String;)Z"⟩
abbrev cX3_kindName : ByteArray := prog_5_method_12_code
def yX3_kindName : MethodName := ⟨RX3, "kindName", "(I)Ljava/lang/String;"⟩
abbrev cX3_step : ByteArray := prog_5_method_13_code
def yX3_step : MethodName := ⟨RX3, "step", "()V"⟩
def RX4 : String := "MothTongue"
def TX4 : u_T := fun k => match k with
  | 0 => ("MothTongue", "live", "LMothTongue$Drawer;", true)
  | 1 => ("MothTongue", "kept", "LMothTongue$Drawer;", true)
  | 2 => ("MothTongue", "trial", "LMothTongue$Drawer;", true)
  | 3 => ("MothTongue", "eve", "LMothTongue$Drawer;", true)
  | 4 => ("MothTongue", "tape", "LMothTongue$Tape;", true)
  | 5 => ("MothTongue", "sheets", "[LMothTongue$Sheet;", true)
  | 6 => ("MothTongue", "findings", "[I", true)
  | _ => ("MothTongue", "isKept", "Z", false)
def tyX4 : Nat → FieldType := fun k => match k with
  | 0 => .object "MothTongue$Drawer"
  | 1 => .object "MothTongue$Drawer"
  | 2 => .object "MothTongue$Drawer"
  | 3 => .object "MothTongue$Drawer"
  | 4 => .object "MothTongue$Tape"
  | 5 => .array (.object "MothTongue$Sheet")
  | 6 => .array .int
  | _ => .boolean
abbrev wsX40 : List Cond := u_ws RX4 TX4 8
theorem nmX4 : ∀ a, a < 8 → ∀ b, b < 8 → a ≠ b → (TX4 a).2.1 ≠ (TX4 b).2.1 := by decide +kernel
theorem tyX4_ok : ∀ k, k < 8 → parseFieldDescriptor (TX4 k).2.2.1 = some (tyX4 k) := by decide +kernel
abbrev cX4_init : ByteArray := prog_1_method_1_code
def yX4_init : MethodName := ⟨RX4, "<init>", "()V"⟩
abbrev cX4_word : ByteArray := prog_1_method_2_code
def yX4_word : MethodName := ⟨RX4, "word", "(III)I"⟩
abbrev cX4_reads : ByteArray := prog_1_method_3_code
def yX4_reads : MethodName := ⟨RX4, "reads", "(II)I"⟩
abbrev cX4_page : ByteArray := prog_1_method_4_code
def yX4_page : MethodName := ⟨RX4, "page", "(II)I"⟩
abbrev cX4_copied : ByteArray := prog_1_method_5_code
def yX4_copied : MethodName := ⟨RX4, "copied", "(II)I"⟩
abbrev cX4_moth : ByteArray := prog_1_method_6_code
def yX4_moth : MethodName := ⟨RX4, "moth", "(II)I"⟩
abbrev cX4_of : ByteArray := prog_1_method_7_code
def yX4_of : MethodName := ⟨RX4, "of", "(II)I"⟩
abbrev cX4_change : ByteArray := prog_1_method_8_code
def yX4_change : MethodName := ⟨RX4, "change", "(III)I"⟩
abbrev cX4_leaves : ByteArray := prog_1_method_9_code
def yX4_leaves : MethodName := ⟨RX4, "leaves", "(III)I"⟩
abbrev cX4_go : ByteArray := prog_1_method_10_code
def yX4_go : MethodName := ⟨RX4, "go", "(I)I"⟩
abbrev cX4_now : ByteArray := prog_1_method_11_code
def yX4_now : MethodName := ⟨RX4, "now", "(I)I"⟩
abbrev cX4_ahead : ByteArray := prog_1_method_12_code
def yX4_ahead : MethodName := ⟨RX4, "ahead", "(III)I"⟩
abbrev cX4_says : ByteArray := prog_1_method_13_code
def yX4_says : MethodName := ⟨RX4, "says", "(II)I"⟩
abbrev cX4_fed : ByteArray := prog_1_method_14_code
def yX4_fed : MethodName := ⟨RX4, "fed", "(II)I"⟩
abbrev cX4_bare : ByteArray := prog_1_method_15_code
def yX4_bare : MethodName := ⟨RX4, "bare", "(I)I"⟩
abbrev cX4_when : ByteArray := prog_1_method_16_code
def yX4_when : MethodName := ⟨RX4, "when", "(II)I"⟩
abbrev cX4_settles : ByteArray := prog_1_method_17_code
def yX4_settles : MethodName := ⟨RX4, "settles", "()I"⟩
abbrev cX4_alike : ByteArray := prog_1_method_18_code
def yX4_alike : MethodName := ⟨RX4, "alike", "(II)I"⟩
abbrev cX4_put : ByteArray := prog_1_method_19_code
def yX4_put : MethodName := ⟨RX4, "put", "(III)I"⟩
abbrev cX4_tasteFor : ByteArray := prog_1_method_20_code
def yX4_tasteFor : MethodName := ⟨RX4, "tasteFor", "(III)I"⟩
abbrev cX4_kindFor : ByteArray := prog_1_method_21_code
def yX4_kindFor : MethodName := ⟨RX4, "kindFor", "(III)I"⟩
abbrev cX4_swapFor : ByteArray := prog_1_method_22_code
def yX4_swapFor : MethodName := ⟨RX4, "swapFor", "(II)I"⟩
abbrev cX4_out : ByteArray := prog_1_method_23_code
def yX4_out : MethodName := ⟨RX4, "out", "(II)I"⟩
abbrev cX4_fits : ByteArray := prog_1_method_24_code
def yX4_fits : MethodName := ⟨RX4, "fits", "(IIII)I"⟩
abbrev cX4_kinds : ByteArray := prog_1_method_25_code
def yX4_kinds : MethodName := ⟨RX4, "kinds", "(II)I"⟩
abbrev cX4_lights : ByteArray := prog_1_method_26_code
def yX4_lights : MethodName := ⟨RX4, "lights", "(I)I"⟩
abbrev cX4_odds : ByteArray := prog_1_method_27_code
def yX4_odds : MethodName := ⟨RX4, "odds", "(II)J"⟩
abbrev cX4_seed : ByteArray := prog_1_method_28_code
def yX4_seed : MethodName := ⟨RX4, "seed", "(I)I"⟩
abbrev cX4_feed : ByteArray := prog_1_method_29_code
def yX4_feed : MethodName := ⟨RX4, "feed", "(II)I"⟩
abbrev cX4_wipe : ByteArray := prog_1_method_30_code
def yX4_wipe : MethodName := ⟨RX4, "wipe", "()I"⟩
abbrev cX4_text : ByteArray := prog_1_method_31_code
def yX4_text : MethodName := ⟨RX4, "text", "()I"⟩
abbrev cX4_hold : ByteArray := prog_1_method_32_code
def yX4_hold : MethodName := ⟨RX4, "hold", "(II)I"⟩
abbrev cX4_as : ByteArray := prog_1_method_33_code
def yX4_as : MethodName := ⟨RX4, "as", "(II)I"⟩
abbrev cX4_sheet : ByteArray := prog_1_method_34_code
def yX4_sheet : MethodName := ⟨RX4, "sheet", "(III)I"⟩
abbrev cX4_write : ByteArray := prog_1_method_35_code
def yX4_write : MethodName := ⟨RX4, "write", "(III)I"⟩
abbrev cX4_copy : ByteArray := prog_1_method_36_code
def yX4_copy : MethodName := ⟨RX4, "copy", "(IIIII)I"⟩
abbrev cX4_load : ByteArray := prog_1_method_37_code
def yX4_load : MethodName := ⟨RX4, "load", "(I)I"⟩
abbrev cX4_judge : ByteArray := prog_1_method_38_code
def yX4_judge : MethodName := ⟨RX4, "judge", "(I)I"⟩
abbrev cX4_image : ByteArray := prog_1_method_39_code
def yX4_image : MethodName := ⟨RX4, "image", "()I"⟩
abbrev cX4_undo : ByteArray := prog_1_method_40_code
def yX4_undo : MethodName := ⟨RX4, "undo", "()I"⟩
abbrev cX4_tear : ByteArray := prog_1_method_41_code
def yX4_tear : MethodName := ⟨RX4, "tear", "()I"⟩
abbrev cX4_count : ByteArray := prog_1_method_42_code
def yX4_count : MethodName := ⟨RX4, "count", "(I)I"⟩
abbrev cX4_status : ByteArray := prog_1_method_43_code
def yX4_status : MethodName := ⟨RX4, "status", "(I)I"⟩
abbrev cX4_finding : ByteArray := prog_1_method_44_code
def yX4_finding : MethodName := ⟨RX4, "finding", "(I)I"⟩
abbrev cX4_within : ByteArray := prog_1_method_45_code
def yX4_within : MethodName := ⟨RX4, "within", "(III)Z"⟩
abbrev cX4_isPage : ByteArray := prog_1_method_46_code
def yX4_isPage : MethodName := ⟨RX4, "isPage", "(I)Z"⟩
abbrev cX4_isPlace : ByteArray := prog_1_method_47_code
def yX4_isPlace : MethodName := ⟨RX4, "isPlace", "(I)Z"⟩
abbrev cX4_isWord : ByteArray := prog_1_method_48_code
def yX4_isWord : MethodName := ⟨RX4, "isWord", "(I)Z"⟩
abbrev cX4_isKind : ByteArray := prog_1_method_49_code
def yX4_isKind : MethodName := ⟨RX4, "isKind", "(I)Z"⟩
abbrev cX4_isSpot : ByteArray := prog_1_method_50_code
def yX4_isSpot : MethodName := ⟨RX4, "isSpot", "(I)Z"⟩
abbrev cX4_isSheet : ByteArray := prog_1_method_51_code
def yX4_isSheet : MethodName := ⟨RX4, "isSheet", "(I)Z"⟩
abbrev cX4_isMoth : ByteArray := prog_1_method_52_code
def yX4_isMoth : MethodName := ⟨RX4, "isMoth", "(I)Z"⟩
abbrev cX4_lookAhead : ByteArray := prog_1_method_53_code
def yX4_lookAhead : MethodName := ⟨RX4, "lookAhead", "(I)V"⟩
abbrev cX4_bestTrait : ByteArray := prog_1_method_54_code
def yX4_bestTrait : MethodName := ⟨RX4, "bestTrait", "(IIII)I"⟩
abbrev cX4_staysWithout : ByteArray := prog_1_method_55_code
def yX4_staysWithout : MethodName := ⟨RX4, "staysWithout", "(III)Z"⟩
abbrev cX4_isPageAsTold : ByteArray := prog_1_method_56_code
def yX4_isPageAsTold : MethodName := ⟨RX4, "isPageAsTold", "(LMothTongue$Sheet;I)Z"⟩
abbrev cX4_isFedAsTold : ByteArray := prog_1_method_57_code
def yX4_isFedAsTold : MethodName := ⟨RX4, "isFedAsTold", "(LMothTongue$Sheet;I)Z"⟩
abbrev cX4_commonDivisor : ByteArray := prog_1_method_58_code
def yX4_commonDivisor : MethodName := ⟨RX4, "commonDivisor", "(II)I"⟩
abbrev cX4_power : ByteArray := prog_1_method_59_code
def yX4_power : MethodName := ⟨RX4, "power", "(JI)J"⟩
def RX5 : String := "MothTongueModel"
def TX5 : u_T := fun k => match k with
  | 0 => ("MothTongueModel", "s", "[I", true)
  | 1 => ("MothTongueModel", "kept", "[I", true)
  | 2 => ("MothTongueModel", "before", "[I", true)
  | 3 => ("MothTongueModel", "aside", "[I", true)
  | 4 => ("MothTongueModel", "isKept", "Z", false)
  | 5 => ("MothTongueModel", "findings", "[I", true)
  | 6 => ("MothTongueModel", "tape", "[I", true)
  | 7 => ("MothTongueModel", "taped", "I", false)
  | 8 => ("MothTongueModel", "bitsOf", "[I", true)
  | 9 => ("MothTongueModel", "sizes", "[I", true)
  | 10 => ("MothTongueModel", "numbers", "[I", true)
  | 11 => ("MothTongueModel", "words", "[I", true)
  | 12 => ("MothTongueModel", "token", "I", false)
  | 13 => ("MothTongueModel", "from", "I", false)
  | 14 => ("MothTongueModel", "to", "I", false)
  | 15 => ("MothTongueModel", "value", "I", false)
  | _ => ("MothTongueModel", "faultAt", "I", false)
def tyX5 : Nat → FieldType := fun k => match k with
  | 0 => .array .int
  | 1 => .array .int
  | 2 => .array .int
  | 3 => .array .int
  | 4 => .boolean
  | 5 => .array .int
  | 6 => .array .int
  | 7 => .int
  | 8 => .array .int
  | 9 => .array .int
  | 10 => .array .int
  | 11 => .array .int
  | 12 => .int
  | 13 => .int
  | 14 => .int
  | 15 => .int
  | _ => .int
abbrev wsX50 : List Cond := u_ws RX5 TX5 17
theorem nmX5 : ∀ a, a < 17 → ∀ b, b < 17 → a ≠ b → (TX5 a).2.1 ≠ (TX5 b).2.1 := by decide +kernel
theorem tyX5_ok : ∀ k, k < 17 → parseFieldDescriptor (TX5 k).2.2.1 = some (tyX5 k) := by decide +kernel
abbrev cX5_init : ByteArray := prog_7_method_1_code
def yX5_init : MethodName := ⟨RX5, "<init>", "()V"⟩
abbrev cX5_isIn : ByteArray := prog_7_method_2_code
def yX5_isIn : MethodName := ⟨RX5, "isIn", "(JJJ)Z"⟩
abbrev cX5_finds : ByteArray := prog_7_method_3_code
def yX5_finds : MethodName := ⟨RX5, "finds", "(I)I"⟩
abbrev cX5_becomes : ByteArray := prog_7_method_4_code
def yX5_becomes : MethodName := ⟨RX5, "becomes", "(II)I"⟩
abbrev cX5_copyRow : ByteArray := prog_7_method_5_code
def yX5_copyRow : MethodName := ⟨RX5, "copyRow", "([I[I)V"⟩
abbrev cX5_isPage : ByteArray := prog_7_method_6_code
def yX5_isPage : MethodName := ⟨RX5, "isPage", "(I)Z"⟩
abbrev cX5_isPlace : ByteArray := prog_7_method_7_code
def yX5_isPlace : MethodName := ⟨RX5, "isPlace", "(II)Z"⟩
abbrev cX5_isMoth : ByteArray := prog_7_method_8_code
def yX5_isMoth : MethodName := ⟨RX5, "isMoth", "(I)Z"⟩
abbrev cX5_at : ByteArray := prog_7_method_9_code
def yX5_at : MethodName := ⟨RX5, "at", "(II)I"⟩
abbrev cX5_its : ByteArray := prog_7_method_10_code
def yX5_its : MethodName := ⟨RX5, "its", "(II)I"⟩
abbrev cX5_wordAt : ByteArray := prog_7_method_11_code
def yX5_wordAt : MethodName := ⟨RX5, "wordAt", "(II)I"⟩
abbrev cX5_least : ByteArray := prog_7_method_12_code
def yX5_least : MethodName := ⟨RX5, "least", "(II)I"⟩
abbrev cX5_orNone : ByteArray := prog_7_method_13_code
def yX5_orNone : MethodName := ⟨RX5, "orNone", "(I)I"⟩
abbrev cX5_many : ByteArray := prog_7_method_14_code
def yX5_many : MethodName := ⟨RX5, "many", "(I)I"⟩
abbrev cX5_word : ByteArray := prog_7_method_15_code
def yX5_word : MethodName := ⟨RX5, "word", "(III)I"⟩
abbrev cX5_reads : ByteArray := prog_7_method_16_code
def yX5_reads : MethodName := ⟨RX5, "reads", "(II)I"⟩
abbrev cX5_saysNow : ByteArray := prog_7_method_17_code
def yX5_saysNow : MethodName := ⟨RX5, "saysNow", "(I)I"⟩
abbrev cX5_whole : ByteArray := prog_7_method_18_code
def yX5_whole : MethodName := ⟨RX5, "whole", "(I)I"⟩
abbrev cX5_there : ByteArray := prog_7_method_19_code
def yX5_there : MethodName := ⟨RX5, "there", "(I)I"⟩
abbrev cX5_page : ByteArray := prog_7_method_20_code
def yX5_page : MethodName := ⟨RX5, "page", "(II)I"⟩
abbrev cX5_copied : ByteArray := prog_7_method_21_code
def yX5_copied : MethodName := ⟨RX5, "copied", "(II)I"⟩
abbrev cX5_comes : ByteArray := prog_7_method_22_code
def yX5_comes : MethodName := ⟨RX5, "comes", "(II)V"⟩
abbrev cX5_moth : ByteArray := prog_7_method_23_code
def yX5_moth : MethodName := ⟨RX5, "moth", "(II)I"⟩
abbrev cX5_firstOf : ByteArray := prog_7_method_24_code
def yX5_firstOf : MethodName := ⟨RX5, "firstOf", "(II)I"⟩
abbrev cX5_firstLike : ByteArray := prog_7_method_25_code
def yX5_firstLike : MethodName := ⟨RX5, "firstLike", "(II)I"⟩
abbrev cX5_firstWhole : ByteArray := prog_7_method_26_code
def yX5_firstWhole : MethodName := ⟨RX5, "firstWhole", "(I)I"⟩
abbrev cX5_lastWhole : ByteArray := prog_7_method_27_code
def yX5_lastWhole : MethodName := ⟨RX5, "lastWhole", "(I)I"⟩
abbrev cX5_scholarBites : ByteArray := prog_7_method_28_code
def yX5_scholarBites : MethodName := ⟨RX5, "scholarBites", "(II)I"⟩
abbrev cX5_bites : ByteArray := prog_7_method_29_code
def yX5_bites : MethodName := ⟨RX5, "bites", "(I)I"⟩
abbrev cX5_leavesBy : ByteArray := prog_7_method_30_code
def yX5_leavesBy : MethodName := ⟨RX5, "leavesBy", "(II)I"⟩
abbrev cX5_gainsBy : ByteArray := prog_7_method_31_code
def yX5_gainsBy : MethodName := ⟨RX5, "gainsBy", "(II)I"⟩
abbrev cX5_of : ByteArray := prog_7_method_32_code
def yX5_of : MethodName := ⟨RX5, "of", "(II)I"⟩
abbrev cX5_isFit : ByteArray := prog_7_method_33_code
def yX5_isFit : MethodName := ⟨RX5, "isFit", "(II)Z"⟩
abbrev cX5_change : ByteArray := prog_7_method_34_code
def yX5_change : MethodName := ⟨RX5, "change", "(III)I"⟩
abbrev cX5_leaves : ByteArray := prog_7_method_35_code
def yX5_leaves : MethodName := ⟨RX5, "leaves", "(III)I"⟩
abbrev cX5_nightBut : ByteArray := prog_7_method_36_code
def yX5_nightBut : MethodName := ⟨RX5, "nightBut", "(I)V"⟩
abbrev cX5_goes : ByteArray := prog_7_method_37_code
def yX5_goes : MethodName := ⟨RX5, "goes", "(I)V"⟩
abbrev cX5_holes : ByteArray := prog_7_method_38_code
def yX5_holes : MethodName := ⟨RX5, "holes", "()I"⟩
abbrev cX5_go : ByteArray := prog_7_method_39_code
def yX5_go : MethodName := ⟨RX5, "go", "(I)I"⟩
abbrev cX5_saysAll : ByteArray := prog_7_method_40_code
def yX5_saysAll : MethodName := ⟨RX5, "saysAll", "()I"⟩
abbrev cX5_fedAll : ByteArray := prog_7_method_41_code
def yX5_fedAll : MethodName := ⟨RX5, "fedAll", "()I"⟩
abbrev cX5_hungry : ByteArray := prog_7_method_42_code
def yX5_hungry : MethodName := ⟨RX5, "hungry", "()I"⟩
abbrev cX5_barePages : ByteArray := prog_7_method_43_code
def yX5_barePages : MethodName := ⟨RX5, "barePages", "()I"⟩
abbrev cX5_now : ByteArray := prog_7_method_44_code
def yX5_now : MethodName := ⟨RX5, "now", "(I)I"⟩
abbrev cX5_ahead : ByteArray := prog_7_method_45_code
def yX5_ahead : MethodName := ⟨RX5, "ahead", "(III)I"⟩
abbrev cX5_saysIn : ByteArray := prog_7_method_46_code
def yX5_saysIn : MethodName := ⟨RX5, "saysIn", "(II)I"⟩
abbrev cX5_says : ByteArray := prog_7_method_47_code
def yX5_says : MethodName := ⟨RX5, "says", "(II)I"⟩
abbrev cX5_fed : ByteArray := prog_7_method_48_code
def yX5_fed : MethodName := ⟨RX5, "fed", "(II)I"⟩
abbrev cX5_bare : ByteArray := prog_7_method_49_code
def yX5_bare : MethodName := ⟨RX5, "bare", "(I)I"⟩
abbrev cX5_when : ByteArray := prog_7_method_50_code
def yX5_when : MethodName := ⟨RX5, "when", "(II)I"⟩
abbrev cX5_leavesAll : ByteArray := prog_7_method_51_code
def yX5_leavesAll : MethodName := ⟨RX5, "leavesAll", "()Z"⟩
abbrev cX5_settles : ByteArray := prog_7_method_52_code
def yX5_settles : MethodName := ⟨RX5, "settles", "()I"⟩
abbrev cX5_areAlike : ByteArray := prog_7_method_53_code
def yX5_areAlike : MethodName := ⟨RX5, "areAlike", "(II)Z"⟩
abbrev cX5_alike : ByteArray := prog_7_method_54_code
def yX5_alike : MethodName := ⟨RX5, "alike", "(II)I"⟩
abbrev cX5_isAsked : ByteArray := prog_7_method_55_code
def yX5_isAsked : MethodName := ⟨RX5, "isAsked", "(III)Z"⟩
abbrev cX5_mostBy : ByteArray := prog_7_method_56_code
def yX5_mostBy : MethodName := ⟨RX5, "mostBy", "(IIIIII)I"⟩
abbrev cX5_put : ByteArray := prog_7_method_57_code
def yX5_put : MethodName := ⟨RX5, "put", "(III)I"⟩
abbrev cX5_tasteFor : ByteArray := prog_7_method_58_code
def yX5_tasteFor : MethodName := ⟨RX5, "tasteFor", "(III)I"⟩
abbrev cX5_kindFor : ByteArray := prog_7_method_59_code
def yX5_kindFor : MethodName := ⟨RX5, "kindFor", "(III)I"⟩
abbrev cX5_swaps : ByteArray := prog_7_method_60_code
def yX5_swaps : MethodName := ⟨RX5, "swaps", "(II)V"⟩
abbrev cX5_swapFor : ByteArray := prog_7_method_61_code
def yX5_swapFor : MethodName := ⟨RX5, "swapFor", "(II)I"⟩
abbrev cX5_stays : ByteArray := prog_7_method_62_code
def yX5_stays : MethodName := ⟨RX5, "stays", "(III)Z"⟩
abbrev cX5_out : ByteArray := prog_7_method_63_code
def yX5_out : MethodName := ⟨RX5, "out", "(II)I"⟩
abbrev cX5_isTold : ByteArray := prog_7_method_64_code
def yX5_isTold : MethodName := ⟨RX5, "isTold", "(III)Z"⟩
abbrev cX5_fits : ByteArray := prog_7_method_65_code
def yX5_fits : MethodName := ⟨RX5, "fits", "(IIII)I"⟩
abbrev cX5_isFedSo : ByteArray := prog_7_method_66_code
def yX5_isFedSo : MethodName := ⟨RX5, "isFedSo", "(II)Z"⟩
abbrev cX5_kinds : ByteArray := prog_7_method_67_code
def yX5_kinds : MethodName := ⟨RX5, "kinds", "(II)I"⟩
abbrev cX5_draw : ByteArray := prog_7_method_68_code
def yX5_draw : MethodName := ⟨RX5, "draw", "()I"⟩
abbrev cX5_lights : ByteArray := prog_7_method_69_code
def yX5_lights : MethodName := ⟨RX5, "lights", "(I)I"⟩
abbrev cX5_odds : ByteArray := prog_7_method_70_code
def yX5_odds : MethodName := ⟨RX5, "odds", "(II)J"⟩
abbrev cX5_seed : ByteArray := prog_7_method_71_code
def yX5_seed : MethodName := ⟨RX5, "seed", "(I)I"⟩
abbrev cX5_feed : ByteArray := prog_7_method_72_code
def yX5_feed : MethodName := ⟨RX5, "feed", "(II)I"⟩
abbrev cX5_wipe : ByteArray := prog_7_method_73_code
def yX5_wipe : MethodName := ⟨RX5, "wipe", "()I"⟩
abbrev cX5_isLetter : ByteArray := prog_7_method_74_code
def yX5_isLetter : MethodName := ⟨RX5, "isLetter", "(I)Z"⟩
abbrev cX5_isDigit : ByteArray := prog_7_method_75_code
def yX5_isDigit : MethodName := ⟨RX5, "isDigit", "(I)Z"⟩
abbrev cX5_byteAt : ByteArray := prog_7_method_76_code
def yX5_byteAt : MethodName := ⟨RX5, "byteAt", "(I)I"⟩
abbrev cX5_nextToken : ByteArray := prog_7_method_77_code
def yX5_nextToken : MethodName := ⟨RX5, "nextToken", "()V"⟩
abbrev cX5_has3 : ByteArray := prog_7_method_78_code
def yX5_has3 : MethodName := ⟨RX5, "has3", "(IIII)Z"⟩
abbrev cX5_isWord : ByteArray := prog_7_method_79_code
def yX5_isWord : MethodName := ⟨RX5, "isWord", "(I)Z"⟩
abbrev cX5_fails : ByteArray := prog_7_method_80_code
def yX5_fails : MethodName := ⟨RX5, "fails", "()Z"⟩
abbrev cX5_isFour : ByteArray := prog_7_method_81_code
def yX5_isFour : MethodName := ⟨RX5, "isFour", "(IIII)Z"⟩
abbrev cX5_isFive : ByteArray := prog_7_method_82_code
def yX5_isFive : MethodName := ⟨RX5, "isFive", "(IIIII)Z"⟩
abbrev cX5_isSix : ByteArray := prog_7_method_83_code
def yX5_isSix : MethodName := ⟨RX5, "isSix", "(IIIIII)Z"⟩
abbrev cX5_isNumber : ByteArray := prog_7_method_84_code
def yX5_isNumber : MethodName := ⟨RX5, "isNumber", "(II)Z"⟩
abbrev cX5_kindHere : ByteArray := prog_7_method_85_code
def yX5_kindHere : MethodName := ⟨RX5, "kindHere", "()I"⟩
abbrev cX5_isTwo : ByteArray := prog_7_method_86_code
def yX5_isTwo : MethodName := ⟨RX5, "isTwo", "(II)Z"⟩
abbrev cX5_perhaps : ByteArray := prog_7_method_87_code
def yX5_perhaps : MethodName := ⟨RX5, "perhaps", "(ZIII)Z"⟩
abbrev cX5_mothHere : ByteArray := prog_7_method_88_code
def yX5_mothHere : MethodName := ⟨RX5, "mothHere", "(I)Z"⟩
abbrev cX5_empties : ByteArray := prog_7_method_89_code
def yX5_empties : MethodName := ⟨RX5, "empties", "(I)V"⟩
abbrev cX5_pageHere : ByteArray := prog_7_method_90_code
def yX5_pageHere : MethodName := ⟨RX5, "pageHere", "()Z"⟩
abbrev cX5_emptyHere : ByteArray := prog_7_method_91_code
def yX5_emptyHere : MethodName := ⟨RX5, "emptyHere", "()Z"⟩
abbrev cX5_itemHere : ByteArray := prog_7_method_92_code
def yX5_itemHere : MethodName := ⟨RX5, "itemHere", "()Z"⟩
abbrev cX5_text : ByteArray := prog_7_method_93_code
def yX5_text : MethodName := ⟨RX5, "text", "()I"⟩
abbrev cX5_hold : ByteArray := prog_7_method_94_code
def yX5_hold : MethodName := ⟨RX5, "hold", "(II)I"⟩
abbrev cX5_isUnder : ByteArray := prog_7_method_95_code
def yX5_isUnder : MethodName := ⟨RX5, "isUnder", "(II)Z"⟩
abbrev cX5_as : ByteArray := prog_7_method_96_code
def yX5_as : MethodName := ⟨RX5, "as", "(II)I"⟩
abbrev cX5_isSheet : ByteArray := prog_7_method_97_code
def yX5_isSheet : MethodName := ⟨RX5, "isSheet", "(I)Z"⟩
abbrev cX5_sheet : ByteArray := prog_7_method_98_code
def yX5_sheet : MethodName := ⟨RX5, "sheet", "(III)I"⟩
abbrev cX5_write : ByteArray := prog_7_method_99_code
def yX5_write : MethodName := ⟨RX5, "write", "(III)I"⟩
abbrev cX5_copy : ByteArray := prog_7_method_100_code
def yX5_copy : MethodName := ⟨RX5, "copy", "(IIIII)I"⟩
abbrev cX5_wants : ByteArray := prog_7_method_101_code
def yX5_wants : MethodName := ⟨RX5, "wants", "(I)I"⟩
abbrev cX5_load : ByteArray := prog_7_method_102_code
def yX5_load : MethodName := ⟨RX5, "load", "(I)I"⟩
abbrev cX5_judge : ByteArray := prog_7_method_103_code
def yX5_judge : MethodName := ⟨RX5, "judge", "(I)I"⟩
abbrev cX5_image : ByteArray := prog_7_method_104_code
def yX5_image : MethodName := ⟨RX5, "image", "()I"⟩
abbrev cX5_undo : ByteArray := prog_7_method_105_code
def yX5_undo : MethodName := ⟨RX5, "undo", "()I"⟩
abbrev cX5_tear : ByteArray := prog_7_method_106_code
def yX5_tear : MethodName := ⟨RX5, "tear", "()I"⟩
abbrev cX5_count : ByteArray := prog_7_method_107_code
def yX5_count : MethodName := ⟨RX5, "count", "(I)I"⟩
abbrev cX5_status : ByteArray := prog_7_method_108_code
def yX5_status : MethodName := ⟨RX5, "status", "(I)I"⟩
def RJ6 : String := "java/lang/Integer"
def TJ6 : u_T := fun k => match k with
  | _ => ("", "", "", false)
def tyJ6 : Nat → FieldType := fun k => match k with
  | _ => .int
abbrev wsJ60 : List Cond := u_ws RJ6 TJ6 0
theorem nmJ6 : ∀ a, a < 0 → ∀ b, b < 0 → a ≠ b → (TJ6 a).2.1 ≠ (TJ6 b).2.1 := by decide +kernel
theorem tyJ6_ok : ∀ k, k < 0 → parseFieldDescriptor (TJ6 k).2.2.1 = some (tyJ6 k) := by decide +kernel
abbrev cJ6_bitCount_0f7a4 : ByteArray := prog_8_method_49_code
def yJ6_bitCount_0f7a4 : MethodName := ⟨RJ6, "bitCount", "(I)I"⟩
def RJ9 : String := "java/lang/Math"
def TJ9 : u_T := fun k => match k with
  | _ => ("", "", "", false)
def tyJ9 : Nat → FieldType := fun k => match k with
  | _ => .int
abbrev wsJ90 : List Cond := u_ws RJ9 TJ9 0
theorem nmJ9 : ∀ a, a < 0 → ∀ b, b < 0 → a ≠ b → (TJ9 a).2.1 ≠ (TJ9 b).2.1 := by decide +kernel
theorem tyJ9_ok : ∀ k, k < 0 → parseFieldDescriptor (TJ9 k).2.2.1 = some (tyJ9 k) := by decide +kernel
abbrev cJ9_max_7cf53 : ByteArray := prog_9_method_65_code
def yJ9_max_7cf53 : MethodName := ⟨RJ9, "max", "(II)I"⟩
abbrev cJ9_min_7cf53 : ByteArray := prog_9_method_69_code
def yJ9_min_7cf53 : MethodName := ⟨RJ9, "min", "(II)I"⟩
def RJ0 : String := "java/lang/String"
def TJ0 : u_T := fun k => match k with
  | _ => ("", "", "", false)
def tyJ0 : Nat → FieldType := fun k => match k with
  | _ => .int
abbrev wsJ00 : List Cond := u_ws RJ0 TJ0 0
theorem nmJ0 : ∀ a, a < 0 → ∀ b, b < 0 → a ≠ b → (TJ0 a).2.1 ≠ (TJ0 b).2.1 := by decide +kernel
theorem tyJ0_ok : ∀ k, k < 0 → parseFieldDescriptor (TJ0 k).2.2.1 = some (tyJ0 k) := by decide +kernel
abbrev cJ0_length_8abf5 : ByteArray := prog_10_method_54_code
def yJ0_length_8abf5 : MethodName := ⟨RJ0, "length", "()I"⟩
abbrev cJ0_charAt_5068e : ByteArray := prog_10_method_56_code
def yJ0_charAt_5068e : MethodName := ⟨RJ0, "charAt", "(I)C"⟩
abbrev cJ0_coder_7d493 : ByteArray := prog_10_method_152_code
def yJ0_coder_7d493 : MethodName := ⟨RJ0, "coder", "()B"⟩
abbrev cJ0_isLatin1_aae02 : ByteArray := prog_10_method_154_code
def yJ0_isLatin1_aae02 : MethodName := ⟨RJ0, "isLatin1", "()Z"⟩
abbrev cJ0_checkIndex_df160 : ByteArray := prog_10_method_155_code
def yJ0_checkIndex_df160 : MethodName := ⟨RJ0, "checkIndex", "(II)V"⟩
def RJ1 : String := "java/lang/StringLatin1"
def TJ1 : u_T := fun k => match k with
  | _ => ("", "", "", false)
def tyJ1 : Nat → FieldType := fun k => match k with
  | _ => .int
abbrev wsJ10 : List Cond := u_ws RJ1 TJ1 0
theorem nmJ1 : ∀ a, a < 0 → ∀ b, b < 0 → a ≠ b → (TJ1 a).2.1 ≠ (TJ1 b).2.1 := by decide +kernel
theorem tyJ1_ok : ∀ k, k < 0 → parseFieldDescriptor (TJ1 k).2.2.1 = some (tyJ1 k) := by decide +kernel
abbrev cJ1_charAt_3b067 : ByteArray := prog_11_method_2_code
def yJ1_charAt_3b067 : MethodName := ⟨RJ1, "charAt", "([BI)C"⟩
def RJ2 : String := "java/lang/StringUTF16"
def TJ2 : u_T := fun k => match k with
  | _ => ("", "", "", false)
def tyJ2 : Nat → FieldType := fun k => match k with
  | _ => .int
abbrev wsJ20 : List Cond := u_ws RJ2 TJ2 0
theorem nmJ2 : ∀ a, a < 0 → ∀ b, b < 0 → a ≠ b → (TJ2 a).2.1 ≠ (TJ2 b).2.1 := by decide +kernel
theorem tyJ2_ok : ∀ k, k < 0 → parseFieldDescriptor (TJ2 k).2.2.1 = some (tyJ2 k) := by decide +kernel
abbrev cJ2_getChar_3b067 : ByteArray := prog_12_method_5_code
def yJ2_getChar_3b067 : MethodName := ⟨RJ2, "getChar", "([BI)C"⟩
abbrev cJ2_length_9d52b : ByteArray := prog_12_method_6_code
def yJ2_length_9d52b : MethodName := ⟨RJ2, "length", "([B)I"⟩
abbrev cJ2_charAt_3b067 : ByteArray := prog_12_method_83_code
def yJ2_charAt_3b067 : MethodName := ⟨RJ2, "charAt", "([BI)C"⟩
abbrev cJ2_checkIndex_2214a : ByteArray := prog_12_method_91_code
def yJ2_checkIndex_2214a : MethodName := ⟨RJ2, "checkIndex", "(I[B)V"⟩
def RJ10 : String := "java/lang/System"
def TJ10 : u_T := fun k => match k with
  | _ => ("", "", "", false)
def tyJ10 : Nat → FieldType := fun k => match k with
  | _ => .int
abbrev wsJ100 : List Cond := u_ws RJ10 TJ10 0
theorem nmJ10 : ∀ a, a < 0 → ∀ b, b < 0 → a ≠ b → (TJ10 a).2.1 ≠ (TJ10 b).2.1 := by decide +kernel
theorem tyJ10_ok : ∀ k, k < 0 → parseFieldDescriptor (TJ10 k).2.2.1 = some (tyJ10 k) := by decide +kernel
def RJ3 : String := "jdk/internal/util/Preconditions"
def TJ3 : u_T := fun k => match k with
  | _ => ("", "", "", false)
def tyJ3 : Nat → FieldType := fun k => match k with
  | _ => .int
abbrev wsJ30 : List Cond := u_ws RJ3 TJ3 0
theorem nmJ3 : ∀ a, a < 0 → ∀ b, b < 0 → a ≠ b → (TJ3 a).2.1 ≠ (TJ3 b).2.1 := by decide +kernel
theorem tyJ3_ok : ∀ k, k < 0 → parseFieldDescriptor (TJ3 k).2.2.1 = some (tyJ3 k) := by decide +kernel
abbrev cJ3_checkIndex_8e157 : ByteArray := prog_14_method_11_code
def yJ3_checkIndex_8e157 : MethodName := ⟨RJ3, "checkIndex", "(IILjava/util/function/BiFunction;)I"⟩
def RL : String := "MothTongueLaw"
abbrev cL_law : ByteArray := code
def yL_law : MethodName := ⟨RL, "law", "([I)Z"⟩
abbrev vwCl : List vw_C := [(RX0, TX0, 6), (RX2, TX2, 3), (RX3, TX3, 6), (RX4, TX4, 8), (RX5, TX5, 17)]
end
section
theorem dX0_init_0 : decode cX0_init 0 = .ok (.aload_n 0, 1) := by decide +kernel
theorem dX0_init_1 : decode cX0_init 1 = .ok (.invokespecial 3, 3) := by decide +kernel
theorem dX0_init_4 : decode cX0_init 4 = .ok (.aload_n 0, 1) := by decide +kernel
theorem dX0_init_5 : decode cX0_init 5 = .ok (.bipush 48, 2) := by decide +kernel
theorem dX0_init_7 : decode cX0_init 7 = .ok (.newarray .int, 2) := by decide +kernel
theorem dX0_init_9 : decode cX0_init 9 = .ok (.putfield 9, 3) := by decide +kernel
theorem dX0_init_12 : decode cX0_init 12 = .ok (.aload_n 0, 1) := by decide +kernel
theorem dX0_init_13 : decode cX0_init 13 = .ok (.bipush 32, 2) := by decide +kernel
theorem dX0_init_15 : decode cX0_init 15 = .ok (.newarray .int, 2) := by decide +kernel
theorem dX0_init_17 : decode cX0_init 17 = .ok (.putfield 15, 3) := by decide +kernel
theorem dX0_init_20 : decode cX0_init 20 = .ok (.aload_n 0, 1) := by decide +kernel
theorem dX0_init_21 : decode cX0_init 21 = .ok (.bipush 10, 2) := by decide +kernel
theorem dX0_init_23 : decode cX0_init 23 = .ok (.newarray .int, 2) := by decide +kernel
theorem dX0_init_25 : decode cX0_init 25 = .ok (.putfield 18, 3) := by decide +kernel
theorem dX0_init_28 : decode cX0_init 28 = .ok (.aload_n 0, 1) := by decide +kernel
theorem dX0_init_29 : decode cX0_init 29 = .ok (.iconst 0, 1) := by decide +kernel
theorem dX0_init_30 : decode cX0_init 30 = .ok (.putfield 21, 3) := by decide +kernel
theorem dX0_init_33 : decode cX0_init 33 = .ok (.aload_n 0, 1) := by decide +kernel
theorem dX0_init_34 : decode cX0_init 34 = .ok (.iconst 0, 1) := by decide +kernel
theorem dX0_init_35 : decode cX0_init 35 = .ok (.putfield 25, 3) := by decide +kernel
theorem dX0_init_38 : decode cX0_init 38 = .ok (.aload_n 0, 1) := by decide +kernel
theorem dX0_init_39 : decode cX0_init 39 = .ok (.iconst 1, 1) := by decide +kernel
theorem dX0_init_40 : decode cX0_init 40 = .ok (.putfield 28, 3) := by decide +kernel
theorem dX0_init_43 : decode cX0_init 43 = .ok (.iconst 0, 1) := by decide +kernel
theorem dX0_init_44 : decode cX0_init 44 = .ok (.istore_n 1, 1) := by decide +kernel
theorem dX0_init_45 : decode cX0_init 45 = .ok (.iload_n 1, 1) := by decide +kernel
theorem dX0_init_46 : decode cX0_init 46 = .ok (.bipush 10, 2) := by decide +kernel
theorem dX0_init_48 : decode cX0_init 48 = .ok (.if_icmp .ge 16, 3) := by decide +kernel
theorem dX0_init_51 : decode cX0_init 51 = .ok (.aload_n 0, 1) := by decide +kernel
theorem dX0_init_52 : decode cX0_init 52 = .ok (.getfield 18, 3) := by decide +kernel
theorem dX0_init_55 : decode cX0_init 55 = .ok (.iload_n 1, 1) := by decide +kernel
theorem dX0_init_56 : decode cX0_init 56 = .ok (.iconst (-1), 1) := by decide +kernel
theorem dX0_init_57 : decode cX0_init 57 = .ok (.iastore, 1) := by decide +kernel
theorem dX0_init_58 : decode cX0_init 58 = .ok (.iinc 1 1, 3) := by decide +kernel
theorem dX0_init_61 : decode cX0_init 61 = .ok (.goto (-16), 3) := by decide +kernel
theorem dX0_init_64 : decode cX0_init 64 = .ok (.return_, 1) := by decide +kernel
theorem dX0_become_0 : decode cX0_become 0 = .ok (.aload_n 1, 1) := by decide +kernel
theorem dX0_become_1 : decode cX0_become 1 = .ok (.getfield 9, 3) := by decide +kernel
theorem dX0_become_4 : decode cX0_become 4 = .ok (.iconst 0, 1) := by decide +kernel
theorem dX0_become_5 : decode cX0_become 5 = .ok (.aload_n 0, 1) := by decide +kernel
theorem dX0_become_6 : decode cX0_become 6 = .ok (.getfield 9, 3) := by decide +kernel
theorem dX0_become_9 : decode cX0_become 9 = .ok (.iconst 0, 1) := by decide +kernel
theorem dX0_become_10 : decode cX0_become 10 = .ok (.aload_n 0, 1) := by decide +kernel
theorem dX0_become_11 : decode cX0_become 11 = .ok (.getfield 9, 3) := by decide +kernel
theorem dX0_become_14 : decode cX0_become 14 = .ok (.arraylength, 1) := by decide +kernel
theorem dX0_become_15 : decode cX0_become 15 = .ok (.invokestatic 31, 3) := by decide +kernel
theorem dX0_become_18 : decode cX0_become 18 = .ok (.aload_n 1, 1) := by decide +kernel
theorem dX0_become_19 : decode cX0_become 19 = .ok (.getfield 15, 3) := by decide +kernel
theorem dX0_become_22 : decode cX0_become 22 = .ok (.iconst 0, 1) := by decide +kernel
theorem dX0_become_23 : decode cX0_become 23 = .ok (.aload_n 0, 1) := by decide +kernel
theorem dX0_become_24 : decode cX0_become 24 = .ok (.getfield 15, 3) := by decide +kernel
theorem dX0_become_27 : decode cX0_become 27 = .ok (.iconst 0, 1) := by decide +kernel
theorem dX0_become_28 : decode cX0_become 28 = .ok (.aload_n 0, 1) := by decide +kernel
theorem dX0_become_29 : decode cX0_become 29 = .ok (.getfield 15, 3) := by decide +kernel
theorem dX0_become_32 : decode cX0_become 32 = .ok (.arraylength, 1) := by decide +kernel
theorem dX0_become_33 : decode cX0_become 33 = .ok (.invokestatic 31, 3) := by decide +kernel
theorem dX0_become_36 : decode cX0_become 36 = .ok (.aload_n 1, 1) := by decide +kernel
theorem dX0_become_37 : decode cX0_become 37 = .ok (.getfield 18, 3) := by decide +kernel
theorem dX0_become_40 : decode cX0_become 40 = .ok (.iconst 0, 1) := by decide +kernel
theorem dX0_become_41 : decode cX0_become 41 = .ok (.aload_n 0, 1) := by decide +kernel
theorem dX0_become_42 : decode cX0_become 42 = .ok (.getfield 18, 3) := by decide +kernel
theorem dX0_become_45 : decode cX0_become 45 = .ok (.iconst 0, 1) := by decide +kernel
theorem dX0_become_46 : decode cX0_become 46 = .ok (.aload_n 0, 1) := by decide +kernel
theorem dX0_become_47 : decode cX0_become 47 = .ok (.getfield 18, 3) := by decide +kernel
theorem dX0_become_50 : decode cX0_become 50 = .ok (.arraylength, 1) := by decide +kernel
theorem dX0_become_51 : decode cX0_become 51 = .ok (.invokestatic 31, 3) := by decide +kernel
theorem dX0_become_54 : decode cX0_become 54 = .ok (.aload_n 0, 1) := by decide +kernel
theorem dX0_become_55 : decode cX0_become 55 = .ok (.aload_n 1, 1) := by decide +kernel
theorem dX0_become_56 : decode cX0_become 56 = .ok (.getfield 21, 3) := by decide +kernel
theorem dX0_become_59 : decode cX0_become 59 = .ok (.putfield 21, 3) := by decide +kernel
theorem dX0_become_62 : decode cX0_become 62 = .ok (.aload_n 0, 1) := by decide +kernel
theorem dX0_become_63 : decode cX0_become 63 = .ok (.aload_n 1, 1) := by decide +kernel
theorem dX0_become_64 : decode cX0_become 64 = .ok (.getfield 25, 3) := by decide +kernel
theorem dX0_become_67 : decode cX0_become 67 = .ok (.putfield 25, 3) := by decide +kernel
theorem dX0_become_70 : decode cX0_become 70 = .ok (.aload_n 0, 1) := by decide +kernel
theorem dX0_become_71 : decode cX0_become 71 = .ok (.aload_n 1, 1) := by decide +kernel
theorem dX0_become_72 : decode cX0_become 72 = .ok (.getfield 28, 3) := by decide +kernel
theorem dX0_become_75 : decode cX0_become 75 = .ok (.putfield 28, 3) := by decide +kernel
theorem dX0_become_78 : decode cX0_become 78 = .ok (.return_, 1) := by decide +kernel
theorem dX0_wordAt_0 : decode cX0_wordAt 0 = .ok (.aload_n 0, 1) := by decide +kernel
theorem dX0_wordAt_1 : decode cX0_wordAt 1 = .ok (.getfield 9, 3) := by decide +kernel
theorem dX0_wordAt_4 : decode cX0_wordAt 4 = .ok (.iload_n 1, 1) := by decide +kernel
theorem dX0_wordAt_5 : decode cX0_wordAt 5 = .ok (.bipush 8, 2) := by decide +kernel
theorem dX0_wordAt_7 : decode cX0_wordAt 7 = .ok (.imul, 1) := by decide +kernel
theorem dX0_wordAt_8 : decode cX0_wordAt 8 = .ok (.iload_n 2, 1) := by decide +kernel
theorem dX0_wordAt_9 : decode cX0_wordAt 9 = .ok (.iadd, 1) := by decide +kernel
theorem dX0_wordAt_10 : decode cX0_wordAt 10 = .ok (.iaload, 1) := by decide +kernel
theorem dX0_wordAt_11 : decode cX0_wordAt 11 = .ok (.ireturn, 1) := by decide +kernel
theorem dX0_setWord_0 : decode cX0_setWord 0 = .ok (.aload_n 0, 1) := by decide +kernel
theorem dX0_setWord_1 : decode cX0_setWord 1 = .ok (.getfield 9, 3) := by decide +kernel
theorem dX0_setWord_4 : decode cX0_setWord 4 = .ok (.iload_n 1, 1) := by decide +kernel
theorem dX0_setWord_5 : decode cX0_setWord 5 = .ok (.bipush 8, 2) := by decide +kernel
theorem dX0_setWord_7 : decode cX0_setWord 7 = .ok (.imul, 1) := by decide +kernel
theorem dX0_setWord_8 : decode cX0_setWord 8 = .ok (.iload_n 2, 1) := by decide +kernel
theorem dX0_setWord_9 : decode cX0_setWord 9 = .ok (.iadd, 1) := by decide +kernel
theorem dX0_setWord_10 : decode cX0_setWord 10 = .ok (.iload_n 3, 1) := by decide +kernel
theorem dX0_setWord_11 : decode cX0_setWord 11 = .ok (.iastore, 1) := by decide +kernel
theorem dX0_setWord_12 : decode cX0_setWord 12 = .ok (.return_, 1) := by decide +kernel
theorem dX0_setHoles_0 : decode cX0_setHoles 0 = .ok (.iconst 0, 1) := by decide +kernel
theorem dX0_setHoles_1 : decode cX0_setHoles 1 = .ok (.istore_n 2, 1) := by decide +kernel
theorem dX0_setHoles_2 : decode cX0_setHoles 2 = .ok (.iload_n 2, 1) := by decide +kernel
theorem dX0_setHoles_3 : decode cX0_setHoles 3 = .ok (.bipush 8, 2) := by decide +kernel
theorem dX0_setHoles_5 : decode cX0_setHoles 5 = .ok (.if_icmp .ge 16, 3) := by decide +kernel
theorem dX0_setHoles_8 : decode cX0_setHoles 8 = .ok (.aload_n 0, 1) := by decide +kernel
theorem dX0_setHoles_9 : decode cX0_setHoles 9 = .ok (.iload_n 1, 1) := by decide +kernel
theorem dX0_setHoles_10 : decode cX0_setHoles 10 = .ok (.iload_n 2, 1) := by decide +kernel
theorem dX0_setHoles_11 : decode cX0_setHoles 11 = .ok (.iconst 0, 1) := by decide +kernel
theorem dX0_setHoles_12 : decode cX0_setHoles 12 = .ok (.invokevirtual 37, 3) := by decide +kernel
theorem dX0_setHoles_15 : decode cX0_setHoles 15 = .ok (.iinc 2 1, 3) := by decide +kernel
theorem dX0_setHoles_18 : decode cX0_setHoles 18 = .ok (.goto (-16), 3) := by decide +kernel
theorem dX0_setHoles_21 : decode cX0_setHoles 21 = .ok (.return_, 1) := by decide +kernel
theorem dX0_saidBy_0 : decode cX0_saidBy 0 = .ok (.iconst 0, 1) := by decide +kernel
theorem dX0_saidBy_1 : decode cX0_saidBy 1 = .ok (.istore_n 2, 1) := by decide +kernel
theorem dX0_saidBy_2 : decode cX0_saidBy 2 = .ok (.iconst 0, 1) := by decide +kernel
theorem dX0_saidBy_3 : decode cX0_saidBy 3 = .ok (.istore_n 3, 1) := by decide +kernel
theorem dX0_saidBy_4 : decode cX0_saidBy 4 = .ok (.iload_n 3, 1) := by decide +kernel
theorem dX0_saidBy_5 : decode cX0_saidBy 5 = .ok (.bipush 8, 2) := by decide +kernel
theorem dX0_saidBy_7 : decode cX0_saidBy 7 = .ok (.if_icmp .ge 22, 3) := by decide +kernel
theorem dX0_saidBy_10 : decode cX0_saidBy 10 = .ok (.iload_n 2, 1) := by decide +kernel
theorem dX0_saidBy_11 : decode cX0_saidBy 11 = .ok (.aload_n 0, 1) := by decide +kernel
theorem dX0_saidBy_12 : decode cX0_saidBy 12 = .ok (.iload_n 1, 1) := by decide +kernel
theorem dX0_saidBy_13 : decode cX0_saidBy 13 = .ok (.iload_n 3, 1) := by decide +kernel
theorem dX0_saidBy_14 : decode cX0_saidBy 14 = .ok (.invokevirtual 41, 3) := by decide +kernel
theorem dX0_saidBy_17 : decode cX0_saidBy 17 = .ok (.iload_n 3, 1) := by decide +kernel
theorem dX0_saidBy_18 : decode cX0_saidBy 18 = .ok (.iconst 1, 1) := by decide +kernel
theorem dX0_saidBy_19 : decode cX0_saidBy 19 = .ok (.iadd, 1) := by decide +kernel
theorem dX0_saidBy_20 : decode cX0_saidBy 20 = .ok (.imul, 1) := by decide +kernel
theorem dX0_saidBy_21 : decode cX0_saidBy 21 = .ok (.iadd, 1) := by decide +kernel
theorem dX0_saidBy_22 : decode cX0_saidBy 22 = .ok (.istore_n 2, 1) := by decide +kernel
theorem dX0_saidBy_23 : decode cX0_saidBy 23 = .ok (.iinc 3 1, 3) := by decide +kernel
theorem dX0_saidBy_26 : decode cX0_saidBy 26 = .ok (.goto (-22), 3) := by decide +kernel
theorem dX0_saidBy_29 : decode cX0_saidBy 29 = .ok (.iload_n 2, 1) := by decide +kernel
theorem dX0_saidBy_30 : decode cX0_saidBy 30 = .ok (.ireturn, 1) := by decide +kernel
theorem dX0_placesWithWords_0 : decode cX0_placesWithWords 0 = .ok (.iconst 0, 1) := by decide +kernel
theorem dX0_placesWithWords_1 : decode cX0_placesWithWords 1 = .ok (.istore_n 2, 1) := by decide +kernel
theorem dX0_placesWithWords_2 : decode cX0_placesWithWords 2 = .ok (.iconst 0, 1) := by decide +kernel
theorem dX0_placesWithWords_3 : decode cX0_placesWithWords 3 = .ok (.istore_n 3, 1) := by decide +kernel
theorem dX0_placesWithWords_4 : decode cX0_placesWithWords 4 = .ok (.iload_n 3, 1) := by decide +kernel
theorem dX0_placesWithWords_5 : decode cX0_placesWithWords 5 = .ok (.bipush 8, 2) := by decide +kernel
theorem dX0_placesWithWords_7 : decode cX0_placesWithWords 7 = .ok (.if_icmp .ge 24, 3) := by decide +kernel
theorem dX0_placesWithWords_10 : decode cX0_placesWithWords 10 = .ok (.aload_n 0, 1) := by decide +kernel
theorem dX0_placesWithWords_11 : decode cX0_placesWithWords 11 = .ok (.iload_n 1, 1) := by decide +kernel
theorem dX0_placesWithWords_12 : decode cX0_placesWithWords 12 = .ok (.iload_n 3, 1) := by decide +kernel
theorem dX0_placesWithWords_13 : decode cX0_placesWithWords 13 = .ok (.invokevirtual 41, 3) := by decide +kernel
theorem dX0_placesWithWords_16 : decode cX0_placesWithWords 16 = .ok (.ifCond .eq 9, 3) := by decide +kernel
theorem dX0_placesWithWords_19 : decode cX0_placesWithWords 19 = .ok (.iload_n 2, 1) := by decide +kernel
theorem dX0_placesWithWords_20 : decode cX0_placesWithWords 20 = .ok (.iconst 1, 1) := by decide +kernel
theorem dX0_placesWithWords_21 : decode cX0_placesWithWords 21 = .ok (.iload_n 3, 1) := by decide +kernel
theorem dX0_placesWithWords_22 : decode cX0_placesWithWords 22 = .ok (.ishl, 1) := by decide +kernel
theorem dX0_placesWithWords_23 : decode cX0_placesWithWords 23 = .ok (.ior, 1) := by decide +kernel
theorem dX0_placesWithWords_24 : decode cX0_placesWithWords 24 = .ok (.istore_n 2, 1) := by decide +kernel
theorem dX0_placesWithWords_25 : decode cX0_placesWithWords 25 = .ok (.iinc 3 1, 3) := by decide +kernel
theorem dX0_placesWithWords_28 : decode cX0_placesWithWords 28 = .ok (.goto (-24), 3) := by decide +kernel
theorem dX0_placesWithWords_31 : decode cX0_placesWithWords 31 = .ok (.iload_n 2, 1) := by decide +kernel
theorem dX0_placesWithWords_32 : decode cX0_placesWithWords 32 = .ok (.ireturn, 1) := by decide +kernel
theorem dX0_holesOf_0 : decode cX0_holesOf 0 = .ok (.bipush 8, 2) := by decide +kernel
theorem dX0_holesOf_2 : decode cX0_holesOf 2 = .ok (.aload_n 0, 1) := by decide +kernel
theorem dX0_holesOf_3 : decode cX0_holesOf 3 = .ok (.iload_n 1, 1) := by decide +kernel
theorem dX0_holesOf_4 : decode cX0_holesOf 4 = .ok (.invokevirtual 45, 3) := by decide +kernel
theorem dX0_holesOf_7 : decode cX0_holesOf 7 = .ok (.invokestatic 49, 3) := by decide +kernel
theorem dX0_holesOf_10 : decode cX0_holesOf 10 = .ok (.isub, 1) := by decide +kernel
theorem dX0_holesOf_11 : decode cX0_holesOf 11 = .ok (.ireturn, 1) := by decide +kernel
theorem dX0_isBare_0 : decode cX0_isBare 0 = .ok (.aload_n 0, 1) := by decide +kernel
theorem dX0_isBare_1 : decode cX0_isBare 1 = .ok (.iload_n 1, 1) := by decide +kernel
theorem dX0_isBare_2 : decode cX0_isBare 2 = .ok (.invokevirtual 45, 3) := by decide +kernel
theorem dX0_isBare_5 : decode cX0_isBare 5 = .ok (.ifCond .ne 7, 3) := by decide +kernel
theorem dX0_isBare_8 : decode cX0_isBare 8 = .ok (.iconst 1, 1) := by decide +kernel
theorem dX0_isBare_9 : decode cX0_isBare 9 = .ok (.goto 4, 3) := by decide +kernel
theorem dX0_isBare_12 : decode cX0_isBare 12 = .ok (.iconst 0, 1) := by decide +kernel
theorem dX0_isBare_13 : decode cX0_isBare 13 = .ok (.ireturn, 1) := by decide +kernel
theorem dX0_unlikePlaces_0 : decode cX0_unlikePlaces 0 = .ok (.iconst 0, 1) := by decide +kernel
theorem dX0_unlikePlaces_1 : decode cX0_unlikePlaces 1 = .ok (.istore_n 3, 1) := by decide +kernel
theorem dX0_unlikePlaces_2 : decode cX0_unlikePlaces 2 = .ok (.iconst 0, 1) := by decide +kernel
theorem dX0_unlikePlaces_3 : decode cX0_unlikePlaces 3 = .ok (.istore 4, 2) := by decide +kernel
theorem dX0_unlikePlaces_5 : decode cX0_unlikePlaces 5 = .ok (.iload 4, 2) := by decide +kernel
theorem dX0_unlikePlaces_7 : decode cX0_unlikePlaces 7 = .ok (.bipush 8, 2) := by decide +kernel
theorem dX0_unlikePlaces_9 : decode cX0_unlikePlaces 9 = .ok (.if_icmp .ge 29, 3) := by decide +kernel
theorem dX0_unlikePlaces_12 : decode cX0_unlikePlaces 12 = .ok (.aload_n 0, 1) := by decide +kernel
theorem dX0_unlikePlaces_13 : decode cX0_unlikePlaces 13 = .ok (.iload_n 1, 1) := by decide +kernel
theorem dX0_unlikePlaces_14 : decode cX0_unlikePlaces 14 = .ok (.iload 4, 2) := by decide +kernel
theorem dX0_unlikePlaces_16 : decode cX0_unlikePlaces 16 = .ok (.invokevirtual 41, 3) := by decide +kernel
theorem dX0_unlikePlaces_19 : decode cX0_unlikePlaces 19 = .ok (.aload_n 0, 1) := by decide +kernel
theorem dX0_unlikePlaces_20 : decode cX0_unlikePlaces 20 = .ok (.iload_n 2, 1) := by decide +kernel
theorem dX0_unlikePlaces_21 : decode cX0_unlikePlaces 21 = .ok (.iload 4, 2) := by decide +kernel
theorem dX0_unlikePlaces_23 : decode cX0_unlikePlaces 23 = .ok (.invokevirtual 41, 3) := by decide +kernel
theorem dX0_unlikePlaces_26 : decode cX0_unlikePlaces 26 = .ok (.if_icmp .eq 6, 3) := by decide +kernel
theorem dX0_unlikePlaces_29 : decode cX0_unlikePlaces 29 = .ok (.iinc 3 1, 3) := by decide +kernel
theorem dX0_unlikePlaces_32 : decode cX0_unlikePlaces 32 = .ok (.iinc 4 1, 3) := by decide +kernel
theorem dX0_unlikePlaces_35 : decode cX0_unlikePlaces 35 = .ok (.goto (-30), 3) := by decide +kernel
theorem dX0_unlikePlaces_38 : decode cX0_unlikePlaces 38 = .ok (.iload_n 3, 1) := by decide +kernel
theorem dX0_unlikePlaces_39 : decode cX0_unlikePlaces 39 = .ok (.ireturn, 1) := by decide +kernel
theorem dX0_copyPage_0 : decode cX0_copyPage 0 = .ok (.aload_n 0, 1) := by decide +kernel
theorem dX0_copyPage_1 : decode cX0_copyPage 1 = .ok (.iload_n 1, 1) := by decide +kernel
theorem dX0_copyPage_2 : decode cX0_copyPage 2 = .ok (.iload_n 2, 1) := by decide +kernel
theorem dX0_copyPage_3 : decode cX0_copyPage 3 = .ok (.invokevirtual 54, 3) := by decide +kernel
theorem dX0_copyPage_6 : decode cX0_copyPage 6 = .ok (.istore_n 3, 1) := by decide +kernel
theorem dX0_copyPage_7 : decode cX0_copyPage 7 = .ok (.aload_n 0, 1) := by decide +kernel
theorem dX0_copyPage_8 : decode cX0_copyPage 8 = .ok (.getfield 9, 3) := by decide +kernel
theorem dX0_copyPage_11 : decode cX0_copyPage 11 = .ok (.iload_n 1, 1) := by decide +kernel
theorem dX0_copyPage_12 : decode cX0_copyPage 12 = .ok (.bipush 8, 2) := by decide +kernel
theorem dX0_copyPage_14 : decode cX0_copyPage 14 = .ok (.imul, 1) := by decide +kernel
theorem dX0_copyPage_15 : decode cX0_copyPage 15 = .ok (.aload_n 0, 1) := by decide +kernel
theorem dX0_copyPage_16 : decode cX0_copyPage 16 = .ok (.getfield 9, 3) := by decide +kernel
theorem dX0_copyPage_19 : decode cX0_copyPage 19 = .ok (.iload_n 2, 1) := by decide +kernel
theorem dX0_copyPage_20 : decode cX0_copyPage 20 = .ok (.bipush 8, 2) := by decide +kernel
theorem dX0_copyPage_22 : decode cX0_copyPage 22 = .ok (.imul, 1) := by decide +kernel
theorem dX0_copyPage_23 : decode cX0_copyPage 23 = .ok (.bipush 8, 2) := by decide +kernel
theorem dX0_copyPage_25 : decode cX0_copyPage 25 = .ok (.invokestatic 31, 3) := by decide +kernel
theorem dX0_copyPage_28 : decode cX0_copyPage 28 = .ok (.iload_n 3, 1) := by decide +kernel
theorem dX0_copyPage_29 : decode cX0_copyPage 29 = .ok (.ireturn, 1) := by decide +kernel
theorem dX0_hasPageOf_0 : decode cX0_hasPageOf 0 = .ok (.iconst 0, 1) := by decide +kernel
theorem dX0_hasPageOf_1 : decode cX0_hasPageOf 1 = .ok (.istore_n 3, 1) := by decide +kernel
theorem dX0_hasPageOf_2 : decode cX0_hasPageOf 2 = .ok (.iload_n 3, 1) := by decide +kernel
theorem dX0_hasPageOf_3 : decode cX0_hasPageOf 3 = .ok (.bipush 8, 2) := by decide +kernel
theorem dX0_hasPageOf_5 : decode cX0_hasPageOf 5 = .ok (.if_icmp .ge 26, 3) := by decide +kernel
theorem dX0_hasPageOf_8 : decode cX0_hasPageOf 8 = .ok (.aload_n 0, 1) := by decide +kernel
theorem dX0_hasPageOf_9 : decode cX0_hasPageOf 9 = .ok (.iload_n 2, 1) := by decide +kernel
theorem dX0_hasPageOf_10 : decode cX0_hasPageOf 10 = .ok (.iload_n 3, 1) := by decide +kernel
theorem dX0_hasPageOf_11 : decode cX0_hasPageOf 11 = .ok (.invokevirtual 41, 3) := by decide +kernel
theorem dX0_hasPageOf_14 : decode cX0_hasPageOf 14 = .ok (.aload_n 1, 1) := by decide +kernel
theorem dX0_hasPageOf_15 : decode cX0_hasPageOf 15 = .ok (.iload_n 2, 1) := by decide +kernel
theorem dX0_hasPageOf_16 : decode cX0_hasPageOf 16 = .ok (.iload_n 3, 1) := by decide +kernel
theorem dX0_hasPageOf_17 : decode cX0_hasPageOf 17 = .ok (.invokevirtual 41, 3) := by decide +kernel
theorem dX0_hasPageOf_20 : decode cX0_hasPageOf 20 = .ok (.if_icmp .eq 5, 3) := by decide +kernel
theorem dX0_hasPageOf_23 : decode cX0_hasPageOf 23 = .ok (.iconst 0, 1) := by decide +kernel
theorem dX0_hasPageOf_24 : decode cX0_hasPageOf 24 = .ok (.ireturn, 1) := by decide +kernel
theorem dX0_hasPageOf_25 : decode cX0_hasPageOf 25 = .ok (.iinc 3 1, 3) := by decide +kernel
theorem dX0_hasPageOf_28 : decode cX0_hasPageOf 28 = .ok (.goto (-26), 3) := by decide +kernel
theorem dX0_hasPageOf_31 : decode cX0_hasPageOf 31 = .ok (.iconst 1, 1) := by decide +kernel
theorem dX0_hasPageOf_32 : decode cX0_hasPageOf 32 = .ok (.ireturn, 1) := by decide +kernel
theorem dX0_hasPagesOf_0 : decode cX0_hasPagesOf 0 = .ok (.iconst 0, 1) := by decide +kernel
theorem dX0_hasPagesOf_1 : decode cX0_hasPagesOf 1 = .ok (.istore_n 2, 1) := by decide +kernel
theorem dX0_hasPagesOf_2 : decode cX0_hasPagesOf 2 = .ok (.iload_n 2, 1) := by decide +kernel
theorem dX0_hasPagesOf_3 : decode cX0_hasPagesOf 3 = .ok (.bipush 6, 2) := by decide +kernel
theorem dX0_hasPagesOf_5 : decode cX0_hasPagesOf 5 = .ok (.if_icmp .ge 20, 3) := by decide +kernel
theorem dX0_hasPagesOf_8 : decode cX0_hasPagesOf 8 = .ok (.aload_n 0, 1) := by decide +kernel
theorem dX0_hasPagesOf_9 : decode cX0_hasPagesOf 9 = .ok (.aload_n 1, 1) := by decide +kernel
theorem dX0_hasPagesOf_10 : decode cX0_hasPagesOf 10 = .ok (.iload_n 2, 1) := by decide +kernel
theorem dX0_hasPagesOf_11 : decode cX0_hasPagesOf 11 = .ok (.invokevirtual 57, 3) := by decide +kernel
theorem dX0_hasPagesOf_14 : decode cX0_hasPagesOf 14 = .ok (.ifCond .ne 5, 3) := by decide +kernel
theorem dX0_hasPagesOf_17 : decode cX0_hasPagesOf 17 = .ok (.iconst 0, 1) := by decide +kernel
theorem dX0_hasPagesOf_18 : decode cX0_hasPagesOf 18 = .ok (.ireturn, 1) := by decide +kernel
theorem dX0_hasPagesOf_19 : decode cX0_hasPagesOf 19 = .ok (.iinc 2 1, 3) := by decide +kernel
theorem dX0_hasPagesOf_22 : decode cX0_hasPagesOf 22 = .ok (.goto (-20), 3) := by decide +kernel
theorem dX0_hasPagesOf_25 : decode cX0_hasPagesOf 25 = .ok (.iconst 1, 1) := by decide +kernel
theorem dX0_hasPagesOf_26 : decode cX0_hasPagesOf 26 = .ok (.ireturn, 1) := by decide +kernel
theorem dX0_allHoles_0 : decode cX0_allHoles 0 = .ok (.iconst 0, 1) := by decide +kernel
theorem dX0_allHoles_1 : decode cX0_allHoles 1 = .ok (.istore_n 1, 1) := by decide +kernel
theorem dX0_allHoles_2 : decode cX0_allHoles 2 = .ok (.iconst 0, 1) := by decide +kernel
theorem dX0_allHoles_3 : decode cX0_allHoles 3 = .ok (.istore_n 2, 1) := by decide +kernel
theorem dX0_allHoles_4 : decode cX0_allHoles 4 = .ok (.iload_n 2, 1) := by decide +kernel
theorem dX0_allHoles_5 : decode cX0_allHoles 5 = .ok (.bipush 6, 2) := by decide +kernel
theorem dX0_allHoles_7 : decode cX0_allHoles 7 = .ok (.if_icmp .ge 17, 3) := by decide +kernel
theorem dX0_allHoles_10 : decode cX0_allHoles 10 = .ok (.iload_n 1, 1) := by decide +kernel
theorem dX0_allHoles_11 : decode cX0_allHoles 11 = .ok (.aload_n 0, 1) := by decide +kernel
theorem dX0_allHoles_12 : decode cX0_allHoles 12 = .ok (.iload_n 2, 1) := by decide +kernel
theorem dX0_allHoles_13 : decode cX0_allHoles 13 = .ok (.invokevirtual 61, 3) := by decide +kernel
theorem dX0_allHoles_16 : decode cX0_allHoles 16 = .ok (.iadd, 1) := by decide +kernel
theorem dX0_allHoles_17 : decode cX0_allHoles 17 = .ok (.istore_n 1, 1) := by decide +kernel
theorem dX0_allHoles_18 : decode cX0_allHoles 18 = .ok (.iinc 2 1, 3) := by decide +kernel
theorem dX0_allHoles_21 : decode cX0_allHoles 21 = .ok (.goto (-17), 3) := by decide +kernel
theorem dX0_allHoles_24 : decode cX0_allHoles 24 = .ok (.iload_n 1, 1) := by decide +kernel
theorem dX0_allHoles_25 : decode cX0_allHoles 25 = .ok (.ireturn, 1) := by decide +kernel
theorem dX0_allSaid_0 : decode cX0_allSaid 0 = .ok (.iconst 0, 1) := by decide +kernel
theorem dX0_allSaid_1 : decode cX0_allSaid 1 = .ok (.istore_n 1, 1) := by decide +kernel
theorem dX0_allSaid_2 : decode cX0_allSaid 2 = .ok (.iconst 0, 1) := by decide +kernel
theorem dX0_allSaid_3 : decode cX0_allSaid 3 = .ok (.istore_n 2, 1) := by decide +kernel
theorem dX0_allSaid_4 : decode cX0_allSaid 4 = .ok (.iload_n 2, 1) := by decide +kernel
theorem dX0_allSaid_5 : decode cX0_allSaid 5 = .ok (.bipush 6, 2) := by decide +kernel
theorem dX0_allSaid_7 : decode cX0_allSaid 7 = .ok (.if_icmp .ge 17, 3) := by decide +kernel
theorem dX0_allSaid_10 : decode cX0_allSaid 10 = .ok (.iload_n 1, 1) := by decide +kernel
theorem dX0_allSaid_11 : decode cX0_allSaid 11 = .ok (.aload_n 0, 1) := by decide +kernel
theorem dX0_allSaid_12 : decode cX0_allSaid 12 = .ok (.iload_n 2, 1) := by decide +kernel
theorem dX0_allSaid_13 : decode cX0_allSaid 13 = .ok (.invokevirtual 64, 3) := by decide +kernel
theorem dX0_allSaid_16 : decode cX0_allSaid 16 = .ok (.iadd, 1) := by decide +kernel
theorem dX0_allSaid_17 : decode cX0_allSaid 17 = .ok (.istore_n 1, 1) := by decide +kernel
theorem dX0_allSaid_18 : decode cX0_allSaid 18 = .ok (.iinc 2 1, 3) := by decide +kernel
theorem dX0_allSaid_21 : decode cX0_allSaid 21 = .ok (.goto (-17), 3) := by decide +kernel
theorem dX0_allSaid_24 : decode cX0_allSaid 24 = .ok (.iload_n 1, 1) := by decide +kernel
theorem dX0_allSaid_25 : decode cX0_allSaid 25 = .ok (.ireturn, 1) := by decide +kernel
theorem dX0_barePages_0 : decode cX0_barePages 0 = .ok (.iconst 0, 1) := by decide +kernel
theorem dX0_barePages_1 : decode cX0_barePages 1 = .ok (.istore_n 1, 1) := by decide +kernel
theorem dX0_barePages_2 : decode cX0_barePages 2 = .ok (.iconst 0, 1) := by decide +kernel
theorem dX0_barePages_3 : decode cX0_barePages 3 = .ok (.istore_n 2, 1) := by decide +kernel
theorem dX0_barePages_4 : decode cX0_barePages 4 = .ok (.iload_n 2, 1) := by decide +kernel
theorem dX0_barePages_5 : decode cX0_barePages 5 = .ok (.bipush 6, 2) := by decide +kernel
theorem dX0_barePages_7 : decode cX0_barePages 7 = .ok (.if_icmp .ge 23, 3) := by decide +kernel
theorem dX0_barePages_10 : decode cX0_barePages 10 = .ok (.aload_n 0, 1) := by decide +kernel
theorem dX0_barePages_11 : decode cX0_barePages 11 = .ok (.iload_n 2, 1) := by decide +kernel
theorem dX0_barePages_12 : decode cX0_barePages 12 = .ok (.invokevirtual 67, 3) := by decide +kernel
theorem dX0_barePages_15 : decode cX0_barePages 15 = .ok (.ifCond .eq 9, 3) := by decide +kernel
theorem dX0_barePages_18 : decode cX0_barePages 18 = .ok (.iload_n 1, 1) := by decide +kernel
theorem dX0_barePages_19 : decode cX0_barePages 19 = .ok (.iconst 1, 1) := by decide +kernel
theorem dX0_barePages_20 : decode cX0_barePages 20 = .ok (.iload_n 2, 1) := by decide +kernel
theorem dX0_barePages_21 : decode cX0_barePages 21 = .ok (.ishl, 1) := by decide +kernel
theorem dX0_barePages_22 : decode cX0_barePages 22 = .ok (.ior, 1) := by decide +kernel
theorem dX0_barePages_23 : decode cX0_barePages 23 = .ok (.istore_n 1, 1) := by decide +kernel
theorem dX0_barePages_24 : decode cX0_barePages 24 = .ok (.iinc 2 1, 3) := by decide +kernel
theorem dX0_barePages_27 : decode cX0_barePages 27 = .ok (.goto (-23), 3) := by decide +kernel
theorem dX0_barePages_30 : decode cX0_barePages 30 = .ok (.iload_n 1, 1) := by decide +kernel
theorem dX0_barePages_31 : decode cX0_barePages 31 = .ok (.ireturn, 1) := by decide +kernel
theorem dX0_isFull_0 : decode cX0_isFull 0 = .ok (.aload_n 0, 1) := by decide +kernel
theorem dX0_isFull_1 : decode cX0_isFull 1 = .ok (.getfield 21, 3) := by decide +kernel
theorem dX0_isFull_4 : decode cX0_isFull 4 = .ok (.bipush 8, 2) := by decide +kernel
theorem dX0_isFull_6 : decode cX0_isFull 6 = .ok (.if_icmp .lt 7, 3) := by decide +kernel
theorem dX0_isFull_9 : decode cX0_isFull 9 = .ok (.iconst 1, 1) := by decide +kernel
theorem dX0_isFull_10 : decode cX0_isFull 10 = .ok (.goto 4, 3) := by decide +kernel
theorem dX0_isFull_13 : decode cX0_isFull 13 = .ok (.iconst 0, 1) := by decide +kernel
theorem dX0_isFull_14 : decode cX0_isFull 14 = .ok (.ireturn, 1) := by decide +kernel
theorem dX0_addMoth_0 : decode cX0_addMoth 0 = .ok (.aload_n 0, 1) := by decide +kernel
theorem dX0_addMoth_1 : decode cX0_addMoth 1 = .ok (.getfield 21, 3) := by decide +kernel
theorem dX0_addMoth_4 : decode cX0_addMoth 4 = .ok (.istore_n 3, 1) := by decide +kernel
theorem dX0_addMoth_5 : decode cX0_addMoth 5 = .ok (.aload_n 0, 1) := by decide +kernel
theorem dX0_addMoth_6 : decode cX0_addMoth 6 = .ok (.iload_n 3, 1) := by decide +kernel
theorem dX0_addMoth_7 : decode cX0_addMoth 7 = .ok (.iconst 0, 1) := by decide +kernel
theorem dX0_addMoth_8 : decode cX0_addMoth 8 = .ok (.iload_n 1, 1) := by decide +kernel
theorem dX0_addMoth_9 : decode cX0_addMoth 9 = .ok (.invokevirtual 71, 3) := by decide +kernel
theorem dX0_addMoth_12 : decode cX0_addMoth 12 = .ok (.aload_n 0, 1) := by decide +kernel
theorem dX0_addMoth_13 : decode cX0_addMoth 13 = .ok (.iload_n 3, 1) := by decide +kernel
theorem dX0_addMoth_14 : decode cX0_addMoth 14 = .ok (.iconst 1, 1) := by decide +kernel
theorem dX0_addMoth_15 : decode cX0_addMoth 15 = .ok (.iload_n 2, 1) := by decide +kernel
theorem dX0_addMoth_16 : decode cX0_addMoth 16 = .ok (.invokevirtual 71, 3) := by decide +kernel
theorem dX0_addMoth_19 : decode cX0_addMoth 19 = .ok (.aload_n 0, 1) := by decide +kernel
theorem dX0_addMoth_20 : decode cX0_addMoth 20 = .ok (.iload_n 3, 1) := by decide +kernel
theorem dX0_addMoth_21 : decode cX0_addMoth 21 = .ok (.iconst 2, 1) := by decide +kernel
theorem dX0_addMoth_22 : decode cX0_addMoth 22 = .ok (.iconst 1, 1) := by decide +kernel
theorem dX0_addMoth_23 : decode cX0_addMoth 23 = .ok (.invokevirtual 71, 3) := by decide +kernel
theorem dX0_addMoth_26 : decode cX0_addMoth 26 = .ok (.aload_n 0, 1) := by decide +kernel
theorem dX0_addMoth_27 : decode cX0_addMoth 27 = .ok (.iload_n 3, 1) := by decide +kernel
theorem dX0_addMoth_28 : decode cX0_addMoth 28 = .ok (.iconst 3, 1) := by decide +kernel
theorem dX0_addMoth_29 : decode cX0_addMoth 29 = .ok (.iconst 0, 1) := by decide +kernel
theorem dX0_addMoth_30 : decode cX0_addMoth 30 = .ok (.invokevirtual 71, 3) := by decide +kernel
theorem dX0_addMoth_33 : decode cX0_addMoth 33 = .ok (.aload_n 0, 1) := by decide +kernel
theorem dX0_addMoth_34 : decode cX0_addMoth 34 = .ok (.dup, 1) := by decide +kernel
theorem dX0_addMoth_35 : decode cX0_addMoth 35 = .ok (.getfield 21, 3) := by decide +kernel
theorem dX0_addMoth_38 : decode cX0_addMoth 38 = .ok (.iconst 1, 1) := by decide +kernel
theorem dX0_addMoth_39 : decode cX0_addMoth 39 = .ok (.iadd, 1) := by decide +kernel
theorem dX0_addMoth_40 : decode cX0_addMoth 40 = .ok (.putfield 21, 3) := by decide +kernel
theorem dX0_addMoth_43 : decode cX0_addMoth 43 = .ok (.iload_n 3, 1) := by decide +kernel
theorem dX0_addMoth_44 : decode cX0_addMoth 44 = .ok (.ireturn, 1) := by decide +kernel
theorem dX0_trait_0 : decode cX0_trait 0 = .ok (.aload_n 0, 1) := by decide +kernel
theorem dX0_trait_1 : decode cX0_trait 1 = .ok (.getfield 15, 3) := by decide +kernel
theorem dX0_trait_4 : decode cX0_trait 4 = .ok (.iload_n 1, 1) := by decide +kernel
theorem dX0_trait_5 : decode cX0_trait 5 = .ok (.iconst 4, 1) := by decide +kernel
theorem dX0_trait_6 : decode cX0_trait 6 = .ok (.imul, 1) := by decide +kernel
theorem dX0_trait_7 : decode cX0_trait 7 = .ok (.iload_n 2, 1) := by decide +kernel
theorem dX0_trait_8 : decode cX0_trait 8 = .ok (.iadd, 1) := by decide +kernel
theorem dX0_trait_9 : decode cX0_trait 9 = .ok (.iaload, 1) := by decide +kernel
theorem dX0_trait_10 : decode cX0_trait 10 = .ok (.ireturn, 1) := by decide +kernel
theorem dX0_setTrait_0 : decode cX0_setTrait 0 = .ok (.aload_n 0, 1) := by decide +kernel
theorem dX0_setTrait_1 : decode cX0_setTrait 1 = .ok (.getfield 15, 3) := by decide +kernel
theorem dX0_setTrait_4 : decode cX0_setTrait 4 = .ok (.iload_n 1, 1) := by decide +kernel
theorem dX0_setTrait_5 : decode cX0_setTrait 5 = .ok (.iconst 4, 1) := by decide +kernel
theorem dX0_setTrait_6 : decode cX0_setTrait 6 = .ok (.imul, 1) := by decide +kernel
theorem dX0_setTrait_7 : decode cX0_setTrait 7 = .ok (.iload_n 2, 1) := by decide +kernel
theorem dX0_setTrait_8 : decode cX0_setTrait 8 = .ok (.iadd, 1) := by decide +kernel
theorem dX0_setTrait_9 : decode cX0_setTrait 9 = .ok (.iload_n 3, 1) := by decide +kernel
theorem dX0_setTrait_10 : decode cX0_setTrait 10 = .ok (.iastore, 1) := by decide +kernel
theorem dX0_setTrait_11 : decode cX0_setTrait 11 = .ok (.return_, 1) := by decide +kernel
theorem dX0_swapPages_0 : decode cX0_swapPages 0 = .ok (.aload_n 0, 1) := by decide +kernel
theorem dX0_swapPages_1 : decode cX0_swapPages 1 = .ok (.iload_n 1, 1) := by decide +kernel
theorem dX0_swapPages_2 : decode cX0_swapPages 2 = .ok (.iconst 1, 1) := by decide +kernel
theorem dX0_swapPages_3 : decode cX0_swapPages 3 = .ok (.invokevirtual 74, 3) := by decide +kernel
theorem dX0_swapPages_6 : decode cX0_swapPages 6 = .ok (.istore_n 3, 1) := by decide +kernel
theorem dX0_swapPages_7 : decode cX0_swapPages 7 = .ok (.aload_n 0, 1) := by decide +kernel
theorem dX0_swapPages_8 : decode cX0_swapPages 8 = .ok (.iload_n 1, 1) := by decide +kernel
theorem dX0_swapPages_9 : decode cX0_swapPages 9 = .ok (.iconst 1, 1) := by decide +kernel
theorem dX0_swapPages_10 : decode cX0_swapPages 10 = .ok (.aload_n 0, 1) := by decide +kernel
theorem dX0_swapPages_11 : decode cX0_swapPages 11 = .ok (.iload_n 2, 1) := by decide +kernel
theorem dX0_swapPages_12 : decode cX0_swapPages 12 = .ok (.iconst 1, 1) := by decide +kernel
theorem dX0_swapPages_13 : decode cX0_swapPages 13 = .ok (.invokevirtual 74, 3) := by decide +kernel
theorem dX0_swapPages_16 : decode cX0_swapPages 16 = .ok (.invokevirtual 71, 3) := by decide +kernel
theorem dX0_swapPages_19 : decode cX0_swapPages 19 = .ok (.aload_n 0, 1) := by decide +kernel
theorem dX0_swapPages_20 : decode cX0_swapPages 20 = .ok (.iload_n 2, 1) := by decide +kernel
theorem dX0_swapPages_21 : decode cX0_swapPages 21 = .ok (.iconst 1, 1) := by decide +kernel
theorem dX0_swapPages_22 : decode cX0_swapPages 22 = .ok (.iload_n 3, 1) := by decide +kernel
theorem dX0_swapPages_23 : decode cX0_swapPages 23 = .ok (.invokevirtual 71, 3) := by decide +kernel
theorem dX0_swapPages_26 : decode cX0_swapPages 26 = .ok (.return_, 1) := by decide +kernel
theorem dX0_mothsOn_0 : decode cX0_mothsOn 0 = .ok (.iconst 0, 1) := by decide +kernel
theorem dX0_mothsOn_1 : decode cX0_mothsOn 1 = .ok (.istore_n 2, 1) := by decide +kernel
theorem dX0_mothsOn_2 : decode cX0_mothsOn 2 = .ok (.iconst 0, 1) := by decide +kernel
theorem dX0_mothsOn_3 : decode cX0_mothsOn 3 = .ok (.istore_n 3, 1) := by decide +kernel
theorem dX0_mothsOn_4 : decode cX0_mothsOn 4 = .ok (.iload_n 3, 1) := by decide +kernel
theorem dX0_mothsOn_5 : decode cX0_mothsOn 5 = .ok (.aload_n 0, 1) := by decide +kernel
theorem dX0_mothsOn_6 : decode cX0_mothsOn 6 = .ok (.getfield 21, 3) := by decide +kernel
theorem dX0_mothsOn_9 : decode cX0_mothsOn 9 = .ok (.if_icmp .ge 25, 3) := by decide +kernel
theorem dX0_mothsOn_12 : decode cX0_mothsOn 12 = .ok (.aload_n 0, 1) := by decide +kernel
theorem dX0_mothsOn_13 : decode cX0_mothsOn 13 = .ok (.iload_n 3, 1) := by decide +kernel
theorem dX0_mothsOn_14 : decode cX0_mothsOn 14 = .ok (.iconst 1, 1) := by decide +kernel
theorem dX0_mothsOn_15 : decode cX0_mothsOn 15 = .ok (.invokevirtual 74, 3) := by decide +kernel
theorem dX0_mothsOn_18 : decode cX0_mothsOn 18 = .ok (.iload_n 1, 1) := by decide +kernel
theorem dX0_mothsOn_19 : decode cX0_mothsOn 19 = .ok (.if_icmp .ne 9, 3) := by decide +kernel
theorem dX0_mothsOn_22 : decode cX0_mothsOn 22 = .ok (.iload_n 2, 1) := by decide +kernel
theorem dX0_mothsOn_23 : decode cX0_mothsOn 23 = .ok (.iconst 1, 1) := by decide +kernel
theorem dX0_mothsOn_24 : decode cX0_mothsOn 24 = .ok (.iload_n 3, 1) := by decide +kernel
theorem dX0_mothsOn_25 : decode cX0_mothsOn 25 = .ok (.ishl, 1) := by decide +kernel
theorem dX0_mothsOn_26 : decode cX0_mothsOn 26 = .ok (.ior, 1) := by decide +kernel
theorem dX0_mothsOn_27 : decode cX0_mothsOn 27 = .ok (.istore_n 2, 1) := by decide +kernel
theorem dX0_mothsOn_28 : decode cX0_mothsOn 28 = .ok (.iinc 3 1, 3) := by decide +kernel
theorem dX0_mothsOn_31 : decode cX0_mothsOn 31 = .ok (.goto (-27), 3) := by decide +kernel
theorem dX0_mothsOn_34 : decode cX0_mothsOn 34 = .ok (.iload_n 2, 1) := by decide +kernel
theorem dX0_mothsOn_35 : decode cX0_mothsOn 35 = .ok (.ireturn, 1) := by decide +kernel
theorem dX0_idleMoths_0 : decode cX0_idleMoths 0 = .ok (.iconst 0, 1) := by decide +kernel
theorem dX0_idleMoths_1 : decode cX0_idleMoths 1 = .ok (.istore_n 1, 1) := by decide +kernel
theorem dX0_idleMoths_2 : decode cX0_idleMoths 2 = .ok (.iconst 0, 1) := by decide +kernel
theorem dX0_idleMoths_3 : decode cX0_idleMoths 3 = .ok (.istore_n 2, 1) := by decide +kernel
theorem dX0_idleMoths_4 : decode cX0_idleMoths 4 = .ok (.iload_n 2, 1) := by decide +kernel
theorem dX0_idleMoths_5 : decode cX0_idleMoths 5 = .ok (.aload_n 0, 1) := by decide +kernel
theorem dX0_idleMoths_6 : decode cX0_idleMoths 6 = .ok (.getfield 21, 3) := by decide +kernel
theorem dX0_idleMoths_9 : decode cX0_idleMoths 9 = .ok (.if_icmp .ge 24, 3) := by decide +kernel
theorem dX0_idleMoths_12 : decode cX0_idleMoths 12 = .ok (.aload_n 0, 1) := by decide +kernel
theorem dX0_idleMoths_13 : decode cX0_idleMoths 13 = .ok (.iload_n 2, 1) := by decide +kernel
theorem dX0_idleMoths_14 : decode cX0_idleMoths 14 = .ok (.invokevirtual 77, 3) := by decide +kernel
theorem dX0_idleMoths_17 : decode cX0_idleMoths 17 = .ok (.iconst (-1), 1) := by decide +kernel
theorem dX0_idleMoths_18 : decode cX0_idleMoths 18 = .ok (.if_icmp .ne 9, 3) := by decide +kernel
theorem dX0_idleMoths_21 : decode cX0_idleMoths 21 = .ok (.iload_n 1, 1) := by decide +kernel
theorem dX0_idleMoths_22 : decode cX0_idleMoths 22 = .ok (.iconst 1, 1) := by decide +kernel
theorem dX0_idleMoths_23 : decode cX0_idleMoths 23 = .ok (.iload_n 2, 1) := by decide +kernel
theorem dX0_idleMoths_24 : decode cX0_idleMoths 24 = .ok (.ishl, 1) := by decide +kernel
theorem dX0_idleMoths_25 : decode cX0_idleMoths 25 = .ok (.ior, 1) := by decide +kernel
theorem dX0_idleMoths_26 : decode cX0_idleMoths 26 = .ok (.istore_n 1, 1) := by decide +kernel
theorem dX0_idleMoths_27 : decode cX0_idleMoths 27 = .ok (.iinc 2 1, 3) := by decide +kernel
theorem dX0_idleMoths_30 : decode cX0_idleMoths 30 = .ok (.goto (-26), 3) := by decide +kernel
theorem dX0_idleMoths_33 : decode cX0_idleMoths 33 = .ok (.iload_n 1, 1) := by decide +kernel
theorem dX0_idleMoths_34 : decode cX0_idleMoths 34 = .ok (.ireturn, 1) := by decide +kernel
theorem dX0_allFed_0 : decode cX0_allFed 0 = .ok (.iconst 0, 1) := by decide +kernel
theorem dX0_allFed_1 : decode cX0_allFed 1 = .ok (.istore_n 1, 1) := by decide +kernel
theorem dX0_allFed_2 : decode cX0_allFed 2 = .ok (.iconst 0, 1) := by decide +kernel
theorem dX0_allFed_3 : decode cX0_allFed 3 = .ok (.istore_n 2, 1) := by decide +kernel
theorem dX0_allFed_4 : decode cX0_allFed 4 = .ok (.iload_n 2, 1) := by decide +kernel
theorem dX0_allFed_5 : decode cX0_allFed 5 = .ok (.aload_n 0, 1) := by decide +kernel
theorem dX0_allFed_6 : decode cX0_allFed 6 = .ok (.getfield 21, 3) := by decide +kernel
theorem dX0_allFed_9 : decode cX0_allFed 9 = .ok (.if_icmp .ge 18, 3) := by decide +kernel
theorem dX0_allFed_12 : decode cX0_allFed 12 = .ok (.iload_n 1, 1) := by decide +kernel
theorem dX0_allFed_13 : decode cX0_allFed 13 = .ok (.aload_n 0, 1) := by decide +kernel
theorem dX0_allFed_14 : decode cX0_allFed 14 = .ok (.iload_n 2, 1) := by decide +kernel
theorem dX0_allFed_15 : decode cX0_allFed 15 = .ok (.iconst 3, 1) := by decide +kernel
theorem dX0_allFed_16 : decode cX0_allFed 16 = .ok (.invokevirtual 74, 3) := by decide +kernel
theorem dX0_allFed_19 : decode cX0_allFed 19 = .ok (.iadd, 1) := by decide +kernel
theorem dX0_allFed_20 : decode cX0_allFed 20 = .ok (.istore_n 1, 1) := by decide +kernel
theorem dX0_allFed_21 : decode cX0_allFed 21 = .ok (.iinc 2 1, 3) := by decide +kernel
theorem dX0_allFed_24 : decode cX0_allFed 24 = .ok (.goto (-20), 3) := by decide +kernel
theorem dX0_allFed_27 : decode cX0_allFed 27 = .ok (.iload_n 1, 1) := by decide +kernel
theorem dX0_allFed_28 : decode cX0_allFed 28 = .ok (.ireturn, 1) := by decide +kernel
theorem dX0_heldSpots_0 : decode cX0_heldSpots 0 = .ok (.iconst 0, 1) := by decide +kernel
theorem dX0_heldSpots_1 : decode cX0_heldSpots 1 = .ok (.istore_n 1, 1) := by decide +kernel
theorem dX0_heldSpots_2 : decode cX0_heldSpots 2 = .ok (.iconst 0, 1) := by decide +kernel
theorem dX0_heldSpots_3 : decode cX0_heldSpots 3 = .ok (.istore_n 2, 1) := by decide +kernel
theorem dX0_heldSpots_4 : decode cX0_heldSpots 4 = .ok (.iload_n 2, 1) := by decide +kernel
theorem dX0_heldSpots_5 : decode cX0_heldSpots 5 = .ok (.bipush 10, 2) := by decide +kernel
theorem dX0_heldSpots_7 : decode cX0_heldSpots 7 = .ok (.if_icmp .ge 22, 3) := by decide +kernel
theorem dX0_heldSpots_10 : decode cX0_heldSpots 10 = .ok (.aload_n 0, 1) := by decide +kernel
theorem dX0_heldSpots_11 : decode cX0_heldSpots 11 = .ok (.getfield 18, 3) := by decide +kernel
theorem dX0_heldSpots_14 : decode cX0_heldSpots 14 = .ok (.iload_n 2, 1) := by decide +kernel
theorem dX0_heldSpots_15 : decode cX0_heldSpots 15 = .ok (.iaload, 1) := by decide +kernel
theorem dX0_heldSpots_16 : decode cX0_heldSpots 16 = .ok (.iconst (-1), 1) := by decide +kernel
theorem dX0_heldSpots_17 : decode cX0_heldSpots 17 = .ok (.if_icmp .eq 6, 3) := by decide +kernel
theorem dX0_heldSpots_20 : decode cX0_heldSpots 20 = .ok (.iinc 1 1, 3) := by decide +kernel
theorem dX0_heldSpots_23 : decode cX0_heldSpots 23 = .ok (.iinc 2 1, 3) := by decide +kernel
theorem dX0_heldSpots_26 : decode cX0_heldSpots 26 = .ok (.goto (-22), 3) := by decide +kernel
theorem dX0_heldSpots_29 : decode cX0_heldSpots 29 = .ok (.iload_n 1, 1) := by decide +kernel
theorem dX0_heldSpots_30 : decode cX0_heldSpots 30 = .ok (.ireturn, 1) := by decide +kernel
theorem dX0_bittenPlace_0 : decode cX0_bittenPlace 0 = .ok (.aload_n 0, 1) := by decide +kernel
theorem dX0_bittenPlace_1 : decode cX0_bittenPlace 1 = .ok (.iload_n 1, 1) := by decide +kernel
theorem dX0_bittenPlace_2 : decode cX0_bittenPlace 2 = .ok (.iconst 0, 1) := by decide +kernel
theorem dX0_bittenPlace_3 : decode cX0_bittenPlace 3 = .ok (.invokevirtual 74, 3) := by decide +kernel
theorem dX0_bittenPlace_6 : decode cX0_bittenPlace 6 = .ok (.aload_n 0, 1) := by decide +kernel
theorem dX0_bittenPlace_7 : decode cX0_bittenPlace 7 = .ok (.iload_n 1, 1) := by decide +kernel
theorem dX0_bittenPlace_8 : decode cX0_bittenPlace 8 = .ok (.iconst 2, 1) := by decide +kernel
theorem dX0_bittenPlace_9 : decode cX0_bittenPlace 9 = .ok (.invokevirtual 74, 3) := by decide +kernel
theorem dX0_bittenPlace_12 : decode cX0_bittenPlace 12 = .ok (.aload_n 0, 1) := by decide +kernel
theorem dX0_bittenPlace_13 : decode cX0_bittenPlace 13 = .ok (.iload_n 1, 1) := by decide +kernel
theorem dX0_bittenPlace_14 : decode cX0_bittenPlace 14 = .ok (.iconst 3, 1) := by decide +kernel
theorem dX0_bittenPlace_15 : decode cX0_bittenPlace 15 = .ok (.invokevirtual 74, 3) := by decide +kernel
theorem dX0_bittenPlace_18 : decode cX0_bittenPlace 18 = .ok (.aload_n 0, 1) := by decide +kernel
theorem dX0_bittenPlace_19 : decode cX0_bittenPlace 19 = .ok (.getfield 9, 3) := by decide +kernel
theorem dX0_bittenPlace_22 : decode cX0_bittenPlace 22 = .ok (.aload_n 0, 1) := by decide +kernel
theorem dX0_bittenPlace_23 : decode cX0_bittenPlace 23 = .ok (.iload_n 1, 1) := by decide +kernel
theorem dX0_bittenPlace_24 : decode cX0_bittenPlace 24 = .ok (.iconst 1, 1) := by decide +kernel
theorem dX0_bittenPlace_25 : decode cX0_bittenPlace 25 = .ok (.invokevirtual 74, 3) := by decide +kernel
theorem dX0_bittenPlace_28 : decode cX0_bittenPlace 28 = .ok (.bipush 8, 2) := by decide +kernel
theorem dX0_bittenPlace_30 : decode cX0_bittenPlace 30 = .ok (.imul, 1) := by decide +kernel
theorem dX0_bittenPlace_31 : decode cX0_bittenPlace 31 = .ok (.invokestatic 80, 3) := by decide +kernel
theorem dX0_bittenPlace_34 : decode cX0_bittenPlace 34 = .ok (.ireturn, 1) := by decide +kernel
theorem dX0_bite_0 : decode cX0_bite 0 = .ok (.aload_n 0, 1) := by decide +kernel
theorem dX0_bite_1 : decode cX0_bite 1 = .ok (.iload_n 1, 1) := by decide +kernel
theorem dX0_bite_2 : decode cX0_bite 2 = .ok (.invokevirtual 77, 3) := by decide +kernel
theorem dX0_bite_5 : decode cX0_bite 5 = .ok (.istore_n 2, 1) := by decide +kernel
theorem dX0_bite_6 : decode cX0_bite 6 = .ok (.iload_n 2, 1) := by decide +kernel
theorem dX0_bite_7 : decode cX0_bite 7 = .ok (.iconst (-1), 1) := by decide +kernel
theorem dX0_bite_8 : decode cX0_bite 8 = .ok (.if_icmp .ne 4, 3) := by decide +kernel
theorem dX0_bite_11 : decode cX0_bite 11 = .ok (.return_, 1) := by decide +kernel
theorem dX0_bite_12 : decode cX0_bite 12 = .ok (.aload_n 0, 1) := by decide +kernel
theorem dX0_bite_13 : decode cX0_bite 13 = .ok (.iload_n 1, 1) := by decide +kernel
theorem dX0_bite_14 : decode cX0_bite 14 = .ok (.iconst 0, 1) := by decide +kernel
theorem dX0_bite_15 : decode cX0_bite 15 = .ok (.invokevirtual 74, 3) := by decide +kernel
theorem dX0_bite_18 : decode cX0_bite 18 = .ok (.istore_n 3, 1) := by decide +kernel
theorem dX0_bite_19 : decode cX0_bite 19 = .ok (.aload_n 0, 1) := by decide +kernel
theorem dX0_bite_20 : decode cX0_bite 20 = .ok (.iload_n 1, 1) := by decide +kernel
theorem dX0_bite_21 : decode cX0_bite 21 = .ok (.iconst 1, 1) := by decide +kernel
theorem dX0_bite_22 : decode cX0_bite 22 = .ok (.invokevirtual 74, 3) := by decide +kernel
theorem dX0_bite_25 : decode cX0_bite 25 = .ok (.istore 4, 2) := by decide +kernel
theorem dX0_bite_27 : decode cX0_bite 27 = .ok (.aload_n 0, 1) := by decide +kernel
theorem dX0_bite_28 : decode cX0_bite 28 = .ok (.iload 4, 2) := by decide +kernel
theorem dX0_bite_30 : decode cX0_bite 30 = .ok (.iload_n 2, 1) := by decide +kernel
theorem dX0_bite_31 : decode cX0_bite 31 = .ok (.invokevirtual 41, 3) := by decide +kernel
theorem dX0_bite_34 : decode cX0_bite 34 = .ok (.istore 5, 2) := by decide +kernel
theorem dX0_bite_36 : decode cX0_bite 36 = .ok (.aload_n 0, 1) := by decide +kernel
theorem dX0_bite_37 : decode cX0_bite 37 = .ok (.iload 4, 2) := by decide +kernel
theorem dX0_bite_39 : decode cX0_bite 39 = .ok (.iload_n 2, 1) := by decide +kernel
theorem dX0_bite_40 : decode cX0_bite 40 = .ok (.iload_n 3, 1) := by decide +kernel
theorem dX0_bite_41 : decode cX0_bite 41 = .ok (.iload 5, 2) := by decide +kernel
theorem dX0_bite_43 : decode cX0_bite 43 = .ok (.invokestatic 85, 3) := by decide +kernel
theorem dX0_bite_46 : decode cX0_bite 46 = .ok (.invokevirtual 37, 3) := by decide +kernel
theorem dX0_bite_49 : decode cX0_bite 49 = .ok (.aload_n 0, 1) := by decide +kernel
theorem dX0_bite_50 : decode cX0_bite 50 = .ok (.iload_n 1, 1) := by decide +kernel
theorem dX0_bite_51 : decode cX0_bite 51 = .ok (.iconst 3, 1) := by decide +kernel
theorem dX0_bite_52 : decode cX0_bite 52 = .ok (.invokevirtual 74, 3) := by decide +kernel
theorem dX0_bite_55 : decode cX0_bite 55 = .ok (.iload_n 3, 1) := by decide +kernel
theorem dX0_bite_56 : decode cX0_bite 56 = .ok (.iload 5, 2) := by decide +kernel
theorem dX0_bite_58 : decode cX0_bite 58 = .ok (.invokestatic 88, 3) := by decide +kernel
theorem dX0_bite_61 : decode cX0_bite 61 = .ok (.iadd, 1) := by decide +kernel
theorem dX0_bite_62 : decode cX0_bite 62 = .ok (.istore 6, 2) := by decide +kernel
theorem dX0_bite_64 : decode cX0_bite 64 = .ok (.aload_n 0, 1) := by decide +kernel
theorem dX0_bite_65 : decode cX0_bite 65 = .ok (.iload_n 1, 1) := by decide +kernel
theorem dX0_bite_66 : decode cX0_bite 66 = .ok (.iconst 3, 1) := by decide +kernel
theorem dX0_bite_67 : decode cX0_bite 67 = .ok (.iload 6, 2) := by decide +kernel
theorem dX0_bite_69 : decode cX0_bite 69 = .ok (.sipush 9999, 3) := by decide +kernel
theorem dX0_bite_72 : decode cX0_bite 72 = .ok (.invokestatic 91, 3) := by decide +kernel
theorem dX0_bite_75 : decode cX0_bite 75 = .ok (.invokevirtual 71, 3) := by decide +kernel
theorem dX0_bite_78 : decode cX0_bite 78 = .ok (.return_, 1) := by decide +kernel
theorem dX0_passNights_0 : decode cX0_passNights 0 = .ok (.iconst 0, 1) := by decide +kernel
theorem dX0_passNights_1 : decode cX0_passNights 1 = .ok (.istore_n 3, 1) := by decide +kernel
theorem dX0_passNights_2 : decode cX0_passNights 2 = .ok (.iload_n 3, 1) := by decide +kernel
theorem dX0_passNights_3 : decode cX0_passNights 3 = .ok (.iload_n 1, 1) := by decide +kernel
theorem dX0_passNights_4 : decode cX0_passNights 4 = .ok (.if_icmp .ge 57, 3) := by decide +kernel
theorem dX0_passNights_7 : decode cX0_passNights 7 = .ok (.iconst 0, 1) := by decide +kernel
theorem dX0_passNights_8 : decode cX0_passNights 8 = .ok (.istore 4, 2) := by decide +kernel
theorem dX0_passNights_10 : decode cX0_passNights 10 = .ok (.iload 4, 2) := by decide +kernel
theorem dX0_passNights_12 : decode cX0_passNights 12 = .ok (.aload_n 0, 1) := by decide +kernel
theorem dX0_passNights_13 : decode cX0_passNights 13 = .ok (.getfield 21, 3) := by decide +kernel
theorem dX0_passNights_16 : decode cX0_passNights 16 = .ok (.if_icmp .ge 24, 3) := by decide +kernel
theorem dX0_passNights_19 : decode cX0_passNights 19 = .ok (.iload_n 2, 1) := by decide +kernel
theorem dX0_passNights_20 : decode cX0_passNights 20 = .ok (.iconst 1, 1) := by decide +kernel
theorem dX0_passNights_21 : decode cX0_passNights 21 = .ok (.iload 4, 2) := by decide +kernel
theorem dX0_passNights_23 : decode cX0_passNights 23 = .ok (.ishl, 1) := by decide +kernel
theorem dX0_passNights_24 : decode cX0_passNights 24 = .ok (.iand, 1) := by decide +kernel
theorem dX0_passNights_25 : decode cX0_passNights 25 = .ok (.ifCond .ne 9, 3) := by decide +kernel
theorem dX0_passNights_28 : decode cX0_passNights 28 = .ok (.aload_n 0, 1) := by decide +kernel
theorem dX0_passNights_29 : decode cX0_passNights 29 = .ok (.iload 4, 2) := by decide +kernel
theorem dX0_passNights_31 : decode cX0_passNights 31 = .ok (.invokevirtual 96, 3) := by decide +kernel
theorem dX0_passNights_34 : decode cX0_passNights 34 = .ok (.iinc 4 1, 3) := by decide +kernel
theorem dX0_passNights_37 : decode cX0_passNights 37 = .ok (.goto (-27), 3) := by decide +kernel
theorem dX0_passNights_40 : decode cX0_passNights 40 = .ok (.aload_n 0, 1) := by decide +kernel
theorem dX0_passNights_41 : decode cX0_passNights 41 = .ok (.aload_n 0, 1) := by decide +kernel
theorem dX0_passNights_42 : decode cX0_passNights 42 = .ok (.getfield 25, 3) := by decide +kernel
theorem dX0_passNights_45 : decode cX0_passNights 45 = .ok (.iconst 1, 1) := by decide +kernel
theorem dX0_passNights_46 : decode cX0_passNights 46 = .ok (.iadd, 1) := by decide +kernel
theorem dX0_passNights_47 : decode cX0_passNights 47 = .ok (.ldc 100, 2) := by decide +kernel
theorem dX0_passNights_49 : decode cX0_passNights 49 = .ok (.invokestatic 91, 3) := by decide +kernel
theorem dX0_passNights_52 : decode cX0_passNights 52 = .ok (.putfield 25, 3) := by decide +kernel
theorem dX0_passNights_55 : decode cX0_passNights 55 = .ok (.iinc 3 1, 3) := by decide +kernel
theorem dX0_passNights_58 : decode cX0_passNights 58 = .ok (.goto (-56), 3) := by decide +kernel
theorem dX0_passNights_61 : decode cX0_passNights 61 = .ok (.return_, 1) := by decide +kernel
theorem dX0_draw_0 : decode cX0_draw 0 = .ok (.aload_n 0, 1) := by decide +kernel
theorem dX0_draw_1 : decode cX0_draw 1 = .ok (.aload_n 0, 1) := by decide +kernel
theorem dX0_draw_2 : decode cX0_draw 2 = .ok (.getfield 28, 3) := by decide +kernel
theorem dX0_draw_5 : decode cX0_draw 5 = .ok (.ldc 101, 2) := by decide +kernel
theorem dX0_draw_7 : decode cX0_draw 7 = .ok (.imul, 1) := by decide +kernel
theorem dX0_draw_8 : decode cX0_draw 8 = .ok (.sipush 12345, 3) := by decide +kernel
theorem dX0_draw_11 : decode cX0_draw 11 = .ok (.iadd, 1) := by decide +kernel
theorem dX0_draw_12 : decode cX0_draw 12 = .ok (.putfield 28, 3) := by decide +kernel
theorem dX0_draw_15 : decode cX0_draw 15 = .ok (.aload_n 0, 1) := by decide +kernel
theorem dX0_draw_16 : decode cX0_draw 16 = .ok (.getfield 28, 3) := by decide +kernel
theorem dX0_draw_19 : decode cX0_draw 19 = .ok (.bipush 8, 2) := by decide +kernel
theorem dX0_draw_21 : decode cX0_draw 21 = .ok (.iushr, 1) := by decide +kernel
theorem dX0_draw_22 : decode cX0_draw 22 = .ok (.ireturn, 1) := by decide +kernel
theorem dX0_leaveLightOn_0 : decode cX0_leaveLightOn 0 = .ok (.aload_n 0, 1) := by decide +kernel
theorem dX0_leaveLightOn_1 : decode cX0_leaveLightOn 1 = .ok (.invokevirtual 102, 3) := by decide +kernel
theorem dX0_leaveLightOn_4 : decode cX0_leaveLightOn 4 = .ok (.bipush 8, 2) := by decide +kernel
theorem dX0_leaveLightOn_6 : decode cX0_leaveLightOn 6 = .ok (.irem, 1) := by decide +kernel
theorem dX0_leaveLightOn_7 : decode cX0_leaveLightOn 7 = .ok (.istore_n 1, 1) := by decide +kernel
theorem dX0_leaveLightOn_8 : decode cX0_leaveLightOn 8 = .ok (.aload_n 0, 1) := by decide +kernel
theorem dX0_leaveLightOn_9 : decode cX0_leaveLightOn 9 = .ok (.invokevirtual 102, 3) := by decide +kernel
theorem dX0_leaveLightOn_12 : decode cX0_leaveLightOn 12 = .ok (.bipush 6, 2) := by decide +kernel
theorem dX0_leaveLightOn_14 : decode cX0_leaveLightOn 14 = .ok (.irem, 1) := by decide +kernel
theorem dX0_leaveLightOn_15 : decode cX0_leaveLightOn 15 = .ok (.istore_n 2, 1) := by decide +kernel
theorem dX0_leaveLightOn_16 : decode cX0_leaveLightOn 16 = .ok (.iload_n 1, 1) := by decide +kernel
theorem dX0_leaveLightOn_17 : decode cX0_leaveLightOn 17 = .ok (.aload_n 0, 1) := by decide +kernel
theorem dX0_leaveLightOn_18 : decode cX0_leaveLightOn 18 = .ok (.getfield 21, 3) := by decide +kernel
theorem dX0_leaveLightOn_21 : decode cX0_leaveLightOn 21 = .ok (.if_icmp .ge 10, 3) := by decide +kernel
theorem dX0_leaveLightOn_24 : decode cX0_leaveLightOn 24 = .ok (.aload_n 0, 1) := by decide +kernel
theorem dX0_leaveLightOn_25 : decode cX0_leaveLightOn 25 = .ok (.iload_n 1, 1) := by decide +kernel
theorem dX0_leaveLightOn_26 : decode cX0_leaveLightOn 26 = .ok (.iconst 1, 1) := by decide +kernel
theorem dX0_leaveLightOn_27 : decode cX0_leaveLightOn 27 = .ok (.iload_n 2, 1) := by decide +kernel
theorem dX0_leaveLightOn_28 : decode cX0_leaveLightOn 28 = .ok (.invokevirtual 71, 3) := by decide +kernel
theorem dX0_leaveLightOn_31 : decode cX0_leaveLightOn 31 = .ok (.return_, 1) := by decide +kernel
theorem dX1_isOneOf_0 : decode cX1_isOneOf 0 = .ok (.iload_n 0, 1) := by decide +kernel
theorem dX1_isOneOf_1 : decode cX1_isOneOf 1 = .ok (.istore_n 2, 1) := by decide +kernel
theorem dX1_isOneOf_2 : decode cX1_isOneOf 2 = .ok (.iconst 0, 1) := by decide +kernel
theorem dX1_isOneOf_3 : decode cX1_isOneOf 3 = .ok (.istore_n 3, 1) := by decide +kernel
theorem dX1_isOneOf_4 : decode cX1_isOneOf 4 = .ok (.iload_n 3, 1) := by decide +kernel
theorem dX1_isOneOf_5 : decode cX1_isOneOf 5 = .ok (.bipush 7, 2) := by decide +kernel
theorem dX1_isOneOf_7 : decode cX1_isOneOf 7 = .ok (.if_icmp .ge 26, 3) := by decide +kernel
theorem dX1_isOneOf_10 : decode cX1_isOneOf 10 = .ok (.iload_n 2, 1) := by decide +kernel
theorem dX1_isOneOf_11 : decode cX1_isOneOf 11 = .ok (.ifCond .lt 22, 3) := by decide +kernel
theorem dX1_isOneOf_14 : decode cX1_isOneOf 14 = .ok (.iload_n 2, 1) := by decide +kernel
theorem dX1_isOneOf_15 : decode cX1_isOneOf 15 = .ok (.iload_n 1, 1) := by decide +kernel
theorem dX1_isOneOf_16 : decode cX1_isOneOf 16 = .ok (.if_icmp .ne 5, 3) := by decide +kernel
theorem dX1_isOneOf_19 : decode cX1_isOneOf 19 = .ok (.iconst 1, 1) := by decide +kernel
theorem dX1_isOneOf_20 : decode cX1_isOneOf 20 = .ok (.ireturn, 1) := by decide +kernel
theorem dX1_isOneOf_21 : decode cX1_isOneOf 21 = .ok (.getstatic 9, 3) := by decide +kernel
theorem dX1_isOneOf_24 : decode cX1_isOneOf 24 = .ok (.iload_n 2, 1) := by decide +kernel
theorem dX1_isOneOf_25 : decode cX1_isOneOf 25 = .ok (.iaload, 1) := by decide +kernel
theorem dX1_isOneOf_26 : decode cX1_isOneOf 26 = .ok (.istore_n 2, 1) := by decide +kernel
theorem dX1_isOneOf_27 : decode cX1_isOneOf 27 = .ok (.iinc 3 1, 3) := by decide +kernel
theorem dX1_isOneOf_30 : decode cX1_isOneOf 30 = .ok (.goto (-26), 3) := by decide +kernel
theorem dX1_isOneOf_33 : decode cX1_isOneOf 33 = .ok (.iconst 0, 1) := by decide +kernel
theorem dX1_isOneOf_34 : decode cX1_isOneOf 34 = .ok (.ireturn, 1) := by decide +kernel
theorem dX1_bittenPlace_0 : decode cX1_bittenPlace 0 = .ok (.iload_n 0, 1) := by decide +kernel
theorem dX1_bittenPlace_1 : decode cX1_bittenPlace 1 = .ok (.tableswitch 128 1 6 #[39, 53, 61, 61, 107, 46], 39) := by decide +kernel
theorem dX1_bittenPlace_40 : decode cX1_bittenPlace 40 = .ok (.aload_n 3, 1) := by decide +kernel
theorem dX1_bittenPlace_41 : decode cX1_bittenPlace 41 = .ok (.iload 4, 2) := by decide +kernel
theorem dX1_bittenPlace_43 : decode cX1_bittenPlace 43 = .ok (.invokestatic 15, 3) := by decide +kernel
theorem dX1_bittenPlace_46 : decode cX1_bittenPlace 46 = .ok (.ireturn, 1) := by decide +kernel
theorem dX1_bittenPlace_47 : decode cX1_bittenPlace 47 = .ok (.aload_n 3, 1) := by decide +kernel
theorem dX1_bittenPlace_48 : decode cX1_bittenPlace 48 = .ok (.iload 4, 2) := by decide +kernel
theorem dX1_bittenPlace_50 : decode cX1_bittenPlace 50 = .ok (.invokestatic 19, 3) := by decide +kernel
theorem dX1_bittenPlace_53 : decode cX1_bittenPlace 53 = .ok (.ireturn, 1) := by decide +kernel
theorem dX1_bittenPlace_54 : decode cX1_bittenPlace 54 = .ok (.iload_n 1, 1) := by decide +kernel
theorem dX1_bittenPlace_55 : decode cX1_bittenPlace 55 = .ok (.aload_n 3, 1) := by decide +kernel
theorem dX1_bittenPlace_56 : decode cX1_bittenPlace 56 = .ok (.iload 4, 2) := by decide +kernel
theorem dX1_bittenPlace_58 : decode cX1_bittenPlace 58 = .ok (.invokestatic 22, 3) := by decide +kernel
theorem dX1_bittenPlace_61 : decode cX1_bittenPlace 61 = .ok (.ireturn, 1) := by decide +kernel
theorem dX1_bittenPlace_62 : decode cX1_bittenPlace 62 = .ok (.iload_n 1, 1) := by decide +kernel
theorem dX1_bittenPlace_63 : decode cX1_bittenPlace 63 = .ok (.aload_n 3, 1) := by decide +kernel
theorem dX1_bittenPlace_64 : decode cX1_bittenPlace 64 = .ok (.iload 4, 2) := by decide +kernel
theorem dX1_bittenPlace_66 : decode cX1_bittenPlace 66 = .ok (.invokestatic 22, 3) := by decide +kernel
theorem dX1_bittenPlace_69 : decode cX1_bittenPlace 69 = .ok (.istore 5, 2) := by decide +kernel
theorem dX1_bittenPlace_71 : decode cX1_bittenPlace 71 = .ok (.iload 5, 2) := by decide +kernel
theorem dX1_bittenPlace_73 : decode cX1_bittenPlace 73 = .ok (.iconst (-1), 1) := by decide +kernel
theorem dX1_bittenPlace_74 : decode cX1_bittenPlace 74 = .ok (.if_icmp .eq 17, 3) := by decide +kernel
theorem dX1_bittenPlace_77 : decode cX1_bittenPlace 77 = .ok (.aload_n 3, 1) := by decide +kernel
theorem dX1_bittenPlace_78 : decode cX1_bittenPlace 78 = .ok (.iload 4, 2) := by decide +kernel
theorem dX1_bittenPlace_80 : decode cX1_bittenPlace 80 = .ok (.iload 5, 2) := by decide +kernel
theorem dX1_bittenPlace_82 : decode cX1_bittenPlace 82 = .ok (.iadd, 1) := by decide +kernel
theorem dX1_bittenPlace_83 : decode cX1_bittenPlace 83 = .ok (.iaload, 1) := by decide +kernel
theorem dX1_bittenPlace_84 : decode cX1_bittenPlace 84 = .ok (.iload_n 1, 1) := by decide +kernel
theorem dX1_bittenPlace_85 : decode cX1_bittenPlace 85 = .ok (.if_icmp .lt 6, 3) := by decide +kernel
theorem dX1_bittenPlace_88 : decode cX1_bittenPlace 88 = .ok (.iload 5, 2) := by decide +kernel
theorem dX1_bittenPlace_90 : decode cX1_bittenPlace 90 = .ok (.ireturn, 1) := by decide +kernel
theorem dX1_bittenPlace_91 : decode cX1_bittenPlace 91 = .ok (.iload_n 0, 1) := by decide +kernel
theorem dX1_bittenPlace_92 : decode cX1_bittenPlace 92 = .ok (.iconst 4, 1) := by decide +kernel
theorem dX1_bittenPlace_93 : decode cX1_bittenPlace 93 = .ok (.if_icmp .ne 13, 3) := by decide +kernel
theorem dX1_bittenPlace_96 : decode cX1_bittenPlace 96 = .ok (.iload_n 1, 1) := by decide +kernel
theorem dX1_bittenPlace_97 : decode cX1_bittenPlace 97 = .ok (.aload_n 3, 1) := by decide +kernel
theorem dX1_bittenPlace_98 : decode cX1_bittenPlace 98 = .ok (.iload 4, 2) := by decide +kernel
theorem dX1_bittenPlace_100 : decode cX1_bittenPlace 100 = .ok (.invokestatic 26, 3) := by decide +kernel
theorem dX1_bittenPlace_103 : decode cX1_bittenPlace 103 = .ok (.goto 4, 3) := by decide +kernel
theorem dX1_bittenPlace_106 : decode cX1_bittenPlace 106 = .ok (.iconst (-1), 1) := by decide +kernel
theorem dX1_bittenPlace_107 : decode cX1_bittenPlace 107 = .ok (.ireturn, 1) := by decide +kernel
theorem dX1_bittenPlace_108 : decode cX1_bittenPlace 108 = .ok (.aload_n 3, 1) := by decide +kernel
theorem dX1_bittenPlace_109 : decode cX1_bittenPlace 109 = .ok (.iload 4, 2) := by decide +kernel
theorem dX1_bittenPlace_111 : decode cX1_bittenPlace 111 = .ok (.iload_n 2, 1) := by decide +kernel
theorem dX1_bittenPlace_112 : decode cX1_bittenPlace 112 = .ok (.bipush 8, 2) := by decide +kernel
theorem dX1_bittenPlace_114 : decode cX1_bittenPlace 114 = .ok (.irem, 1) := by decide +kernel
theorem dX1_bittenPlace_115 : decode cX1_bittenPlace 115 = .ok (.iadd, 1) := by decide +kernel
theorem dX1_bittenPlace_116 : decode cX1_bittenPlace 116 = .ok (.iaload, 1) := by decide +kernel
theorem dX1_bittenPlace_117 : decode cX1_bittenPlace 117 = .ok (.ifCond .ne 7, 3) := by decide +kernel
theorem dX1_bittenPlace_120 : decode cX1_bittenPlace 120 = .ok (.iconst (-1), 1) := by decide +kernel
theorem dX1_bittenPlace_121 : decode cX1_bittenPlace 121 = .ok (.goto 7, 3) := by decide +kernel
theorem dX1_bittenPlace_124 : decode cX1_bittenPlace 124 = .ok (.iload_n 2, 1) := by decide +kernel
theorem dX1_bittenPlace_125 : decode cX1_bittenPlace 125 = .ok (.bipush 8, 2) := by decide +kernel
theorem dX1_bittenPlace_127 : decode cX1_bittenPlace 127 = .ok (.irem, 1) := by decide +kernel
theorem dX1_bittenPlace_128 : decode cX1_bittenPlace 128 = .ok (.ireturn, 1) := by decide +kernel
theorem dX1_bittenPlace_129 : decode cX1_bittenPlace 129 = .ok (.iload_n 1, 1) := by decide +kernel
theorem dX1_bittenPlace_130 : decode cX1_bittenPlace 130 = .ok (.aload_n 3, 1) := by decide +kernel
theorem dX1_bittenPlace_131 : decode cX1_bittenPlace 131 = .ok (.iload 4, 2) := by decide +kernel
theorem dX1_bittenPlace_133 : decode cX1_bittenPlace 133 = .ok (.invokestatic 26, 3) := by decide +kernel
theorem dX1_bittenPlace_136 : decode cX1_bittenPlace 136 = .ok (.ireturn, 1) := by decide +kernel
theorem dX1_leftOf_0 : decode cX1_leftOf 0 = .ok (.iload_n 0, 1) := by decide +kernel
theorem dX1_leftOf_1 : decode cX1_leftOf 1 = .ok (.tableswitch 68 1 6 #[39, 51, 56, 61, 68, 43], 39) := by decide +kernel
theorem dX1_leftOf_40 : decode cX1_leftOf 40 = .ok (.iload_n 1, 1) := by decide +kernel
theorem dX1_leftOf_41 : decode cX1_leftOf 41 = .ok (.iconst 1, 1) := by decide +kernel
theorem dX1_leftOf_42 : decode cX1_leftOf 42 = .ok (.isub, 1) := by decide +kernel
theorem dX1_leftOf_43 : decode cX1_leftOf 43 = .ok (.ireturn, 1) := by decide +kernel
theorem dX1_leftOf_44 : decode cX1_leftOf 44 = .ok (.iload_n 1, 1) := by decide +kernel
theorem dX1_leftOf_45 : decode cX1_leftOf 45 = .ok (.iconst 2, 1) := by decide +kernel
theorem dX1_leftOf_46 : decode cX1_leftOf 46 = .ok (.isub, 1) := by decide +kernel
theorem dX1_leftOf_47 : decode cX1_leftOf 47 = .ok (.iconst 0, 1) := by decide +kernel
theorem dX1_leftOf_48 : decode cX1_leftOf 48 = .ok (.invokestatic 29, 3) := by decide +kernel
theorem dX1_leftOf_51 : decode cX1_leftOf 51 = .ok (.ireturn, 1) := by decide +kernel
theorem dX1_leftOf_52 : decode cX1_leftOf 52 = .ok (.bipush 10, 2) := by decide +kernel
theorem dX1_leftOf_54 : decode cX1_leftOf 54 = .ok (.iload_n 1, 1) := by decide +kernel
theorem dX1_leftOf_55 : decode cX1_leftOf 55 = .ok (.isub, 1) := by decide +kernel
theorem dX1_leftOf_56 : decode cX1_leftOf 56 = .ok (.ireturn, 1) := by decide +kernel
theorem dX1_leftOf_57 : decode cX1_leftOf 57 = .ok (.iload_n 1, 1) := by decide +kernel
theorem dX1_leftOf_58 : decode cX1_leftOf 58 = .ok (.invokestatic 35, 3) := by decide +kernel
theorem dX1_leftOf_61 : decode cX1_leftOf 61 = .ok (.ireturn, 1) := by decide +kernel
theorem dX1_leftOf_62 : decode cX1_leftOf 62 = .ok (.iload_n 1, 1) := by decide +kernel
theorem dX1_leftOf_63 : decode cX1_leftOf 63 = .ok (.invokestatic 35, 3) := by decide +kernel
theorem dX1_leftOf_66 : decode cX1_leftOf 66 = .ok (.iconst 2, 1) := by decide +kernel
theorem dX1_leftOf_67 : decode cX1_leftOf 67 = .ok (.idiv, 1) := by decide +kernel
theorem dX1_leftOf_68 : decode cX1_leftOf 68 = .ok (.ireturn, 1) := by decide +kernel
theorem dX1_leftOf_69 : decode cX1_leftOf 69 = .ok (.iconst 0, 1) := by decide +kernel
theorem dX1_leftOf_70 : decode cX1_leftOf 70 = .ok (.ireturn, 1) := by decide +kernel
theorem dX1_gainBy_0 : decode cX1_gainBy 0 = .ok (.iload_n 0, 1) := by decide +kernel
theorem dX1_gainBy_1 : decode cX1_gainBy 1 = .ok (.tableswitch 57 1 6 #[39, 43, 47, 47, 53, 41], 39) := by decide +kernel
theorem dX1_gainBy_40 : decode cX1_gainBy 40 = .ok (.iconst 1, 1) := by decide +kernel
theorem dX1_gainBy_41 : decode cX1_gainBy 41 = .ok (.ireturn, 1) := by decide +kernel
theorem dX1_gainBy_42 : decode cX1_gainBy 42 = .ok (.iconst 2, 1) := by decide +kernel
theorem dX1_gainBy_43 : decode cX1_gainBy 43 = .ok (.ireturn, 1) := by decide +kernel
theorem dX1_gainBy_44 : decode cX1_gainBy 44 = .ok (.iload_n 1, 1) := by decide +kernel
theorem dX1_gainBy_45 : decode cX1_gainBy 45 = .ok (.iconst 2, 1) := by decide +kernel
theorem dX1_gainBy_46 : decode cX1_gainBy 46 = .ok (.idiv, 1) := by decide +kernel
theorem dX1_gainBy_47 : decode cX1_gainBy 47 = .ok (.ireturn, 1) := by decide +kernel
theorem dX1_gainBy_48 : decode cX1_gainBy 48 = .ok (.iload_n 1, 1) := by decide +kernel
theorem dX1_gainBy_49 : decode cX1_gainBy 49 = .ok (.iconst 2, 1) := by decide +kernel
theorem dX1_gainBy_50 : decode cX1_gainBy 50 = .ok (.idiv, 1) := by decide +kernel
theorem dX1_gainBy_51 : decode cX1_gainBy 51 = .ok (.iconst 1, 1) := by decide +kernel
theorem dX1_gainBy_52 : decode cX1_gainBy 52 = .ok (.iadd, 1) := by decide +kernel
theorem dX1_gainBy_53 : decode cX1_gainBy 53 = .ok (.ireturn, 1) := by decide +kernel
theorem dX1_gainBy_54 : decode cX1_gainBy 54 = .ok (.iload_n 1, 1) := by decide +kernel
theorem dX1_gainBy_55 : decode cX1_gainBy 55 = .ok (.iconst 1, 1) := by decide +kernel
theorem dX1_gainBy_56 : decode cX1_gainBy 56 = .ok (.iadd, 1) := by decide +kernel
theorem dX1_gainBy_57 : decode cX1_gainBy 57 = .ok (.ireturn, 1) := by decide +kernel
theorem dX1_gainBy_58 : decode cX1_gainBy 58 = .ok (.iload_n 1, 1) := by decide +kernel
theorem dX1_gainBy_59 : decode cX1_gainBy 59 = .ok (.ireturn, 1) := by decide +kernel
theorem dX1_firstLike_0 : decode cX1_firstLike 0 = .ok (.iconst 0, 1) := by decide +kernel
theorem dX1_firstLike_1 : decode cX1_firstLike 1 = .ok (.istore_n 3, 1) := by decide +kernel
theorem dX1_firstLike_2 : decode cX1_firstLike 2 = .ok (.iload_n 3, 1) := by decide +kernel
theorem dX1_firstLike_3 : decode cX1_firstLike 3 = .ok (.bipush 8, 2) := by decide +kernel
theorem dX1_firstLike_5 : decode cX1_firstLike 5 = .ok (.if_icmp .ge 20, 3) := by decide +kernel
theorem dX1_firstLike_8 : decode cX1_firstLike 8 = .ok (.aload_n 1, 1) := by decide +kernel
theorem dX1_firstLike_9 : decode cX1_firstLike 9 = .ok (.iload_n 2, 1) := by decide +kernel
theorem dX1_firstLike_10 : decode cX1_firstLike 10 = .ok (.iload_n 3, 1) := by decide +kernel
theorem dX1_firstLike_11 : decode cX1_firstLike 11 = .ok (.iadd, 1) := by decide +kernel
theorem dX1_firstLike_12 : decode cX1_firstLike 12 = .ok (.iaload, 1) := by decide +kernel
theorem dX1_firstLike_13 : decode cX1_firstLike 13 = .ok (.iload_n 0, 1) := by decide +kernel
theorem dX1_firstLike_14 : decode cX1_firstLike 14 = .ok (.if_icmp .ne 5, 3) := by decide +kernel
theorem dX1_firstLike_17 : decode cX1_firstLike 17 = .ok (.iload_n 3, 1) := by decide +kernel
theorem dX1_firstLike_18 : decode cX1_firstLike 18 = .ok (.ireturn, 1) := by decide +kernel
theorem dX1_firstLike_19 : decode cX1_firstLike 19 = .ok (.iinc 3 1, 3) := by decide +kernel
theorem dX1_firstLike_22 : decode cX1_firstLike 22 = .ok (.goto (-20), 3) := by decide +kernel
theorem dX1_firstLike_25 : decode cX1_firstLike 25 = .ok (.iconst (-1), 1) := by decide +kernel
theorem dX1_firstLike_26 : decode cX1_firstLike 26 = .ok (.ireturn, 1) := by decide +kernel
theorem dX1_firstWord_0 : decode cX1_firstWord 0 = .ok (.iconst 0, 1) := by decide +kernel
theorem dX1_firstWord_1 : decode cX1_firstWord 1 = .ok (.istore_n 2, 1) := by decide +kernel
theorem dX1_firstWord_2 : decode cX1_firstWord 2 = .ok (.iload_n 2, 1) := by decide +kernel
theorem dX1_firstWord_3 : decode cX1_firstWord 3 = .ok (.bipush 8, 2) := by decide +kernel
theorem dX1_firstWord_5 : decode cX1_firstWord 5 = .ok (.if_icmp .ge 19, 3) := by decide +kernel
theorem dX1_firstWord_8 : decode cX1_firstWord 8 = .ok (.aload_n 0, 1) := by decide +kernel
theorem dX1_firstWord_9 : decode cX1_firstWord 9 = .ok (.iload_n 1, 1) := by decide +kernel
theorem dX1_firstWord_10 : decode cX1_firstWord 10 = .ok (.iload_n 2, 1) := by decide +kernel
theorem dX1_firstWord_11 : decode cX1_firstWord 11 = .ok (.iadd, 1) := by decide +kernel
theorem dX1_firstWord_12 : decode cX1_firstWord 12 = .ok (.iaload, 1) := by decide +kernel
theorem dX1_firstWord_13 : decode cX1_firstWord 13 = .ok (.ifCond .eq 5, 3) := by decide +kernel
theorem dX1_firstWord_16 : decode cX1_firstWord 16 = .ok (.iload_n 2, 1) := by decide +kernel
theorem dX1_firstWord_17 : decode cX1_firstWord 17 = .ok (.ireturn, 1) := by decide +kernel
theorem dX1_firstWord_18 : decode cX1_firstWord 18 = .ok (.iinc 2 1, 3) := by decide +kernel
theorem dX1_firstWord_21 : decode cX1_firstWord 21 = .ok (.goto (-19), 3) := by decide +kernel
theorem dX1_firstWord_24 : decode cX1_firstWord 24 = .ok (.iconst (-1), 1) := by decide +kernel
theorem dX1_firstWord_25 : decode cX1_firstWord 25 = .ok (.ireturn, 1) := by decide +kernel
theorem dX1_lastWord_0 : decode cX1_lastWord 0 = .ok (.bipush 7, 2) := by decide +kernel
theorem dX1_lastWord_2 : decode cX1_lastWord 2 = .ok (.istore_n 2, 1) := by decide +kernel
theorem dX1_lastWord_3 : decode cX1_lastWord 3 = .ok (.iload_n 2, 1) := by decide +kernel
theorem dX1_lastWord_4 : decode cX1_lastWord 4 = .ok (.ifCond .lt 19, 3) := by decide +kernel
theorem dX1_lastWord_7 : decode cX1_lastWord 7 = .ok (.aload_n 0, 1) := by decide +kernel
theorem dX1_lastWord_8 : decode cX1_lastWord 8 = .ok (.iload_n 1, 1) := by decide +kernel
theorem dX1_lastWord_9 : decode cX1_lastWord 9 = .ok (.iload_n 2, 1) := by decide +kernel
theorem dX1_lastWord_10 : decode cX1_lastWord 10 = .ok (.iadd, 1) := by decide +kernel
theorem dX1_lastWord_11 : decode cX1_lastWord 11 = .ok (.iaload, 1) := by decide +kernel
theorem dX1_lastWord_12 : decode cX1_lastWord 12 = .ok (.ifCond .eq 5, 3) := by decide +kernel
theorem dX1_lastWord_15 : decode cX1_lastWord 15 = .ok (.iload_n 2, 1) := by decide +kernel
theorem dX1_lastWord_16 : decode cX1_lastWord 16 = .ok (.ireturn, 1) := by decide +kernel
theorem dX1_lastWord_17 : decode cX1_lastWord 17 = .ok (.iinc 2 (-1), 3) := by decide +kernel
theorem dX1_lastWord_20 : decode cX1_lastWord 20 = .ok (.goto (-17), 3) := by decide +kernel
theorem dX1_lastWord_23 : decode cX1_lastWord 23 = .ok (.iconst (-1), 1) := by decide +kernel
theorem dX1_lastWord_24 : decode cX1_lastWord 24 = .ok (.ireturn, 1) := by decide +kernel
theorem dX1_firstOfParity_0 : decode cX1_firstOfParity 0 = .ok (.iconst 0, 1) := by decide +kernel
theorem dX1_firstOfParity_1 : decode cX1_firstOfParity 1 = .ok (.istore_n 3, 1) := by decide +kernel
theorem dX1_firstOfParity_2 : decode cX1_firstOfParity 2 = .ok (.iload_n 3, 1) := by decide +kernel
theorem dX1_firstOfParity_3 : decode cX1_firstOfParity 3 = .ok (.bipush 8, 2) := by decide +kernel
theorem dX1_firstOfParity_5 : decode cX1_firstOfParity 5 = .ok (.if_icmp .ge 33, 3) := by decide +kernel
theorem dX1_firstOfParity_8 : decode cX1_firstOfParity 8 = .ok (.aload_n 1, 1) := by decide +kernel
theorem dX1_firstOfParity_9 : decode cX1_firstOfParity 9 = .ok (.iload_n 2, 1) := by decide +kernel
theorem dX1_firstOfParity_10 : decode cX1_firstOfParity 10 = .ok (.iload_n 3, 1) := by decide +kernel
theorem dX1_firstOfParity_11 : decode cX1_firstOfParity 11 = .ok (.iadd, 1) := by decide +kernel
theorem dX1_firstOfParity_12 : decode cX1_firstOfParity 12 = .ok (.iaload, 1) := by decide +kernel
theorem dX1_firstOfParity_13 : decode cX1_firstOfParity 13 = .ok (.istore 4, 2) := by decide +kernel
theorem dX1_firstOfParity_15 : decode cX1_firstOfParity 15 = .ok (.iload 4, 2) := by decide +kernel
theorem dX1_firstOfParity_17 : decode cX1_firstOfParity 17 = .ok (.ifCond .eq 15, 3) := by decide +kernel
theorem dX1_firstOfParity_20 : decode cX1_firstOfParity 20 = .ok (.iload 4, 2) := by decide +kernel
theorem dX1_firstOfParity_22 : decode cX1_firstOfParity 22 = .ok (.iconst 2, 1) := by decide +kernel
theorem dX1_firstOfParity_23 : decode cX1_firstOfParity 23 = .ok (.irem, 1) := by decide +kernel
theorem dX1_firstOfParity_24 : decode cX1_firstOfParity 24 = .ok (.iload_n 0, 1) := by decide +kernel
theorem dX1_firstOfParity_25 : decode cX1_firstOfParity 25 = .ok (.iconst 2, 1) := by decide +kernel
theorem dX1_firstOfParity_26 : decode cX1_firstOfParity 26 = .ok (.irem, 1) := by decide +kernel
theorem dX1_firstOfParity_27 : decode cX1_firstOfParity 27 = .ok (.if_icmp .ne 5, 3) := by decide +kernel
theorem dX1_firstOfParity_30 : decode cX1_firstOfParity 30 = .ok (.iload_n 3, 1) := by decide +kernel
theorem dX1_firstOfParity_31 : decode cX1_firstOfParity 31 = .ok (.ireturn, 1) := by decide +kernel
theorem dX1_firstOfParity_32 : decode cX1_firstOfParity 32 = .ok (.iinc 3 1, 3) := by decide +kernel
theorem dX1_firstOfParity_35 : decode cX1_firstOfParity 35 = .ok (.goto (-33), 3) := by decide +kernel
theorem dX1_firstOfParity_38 : decode cX1_firstOfParity 38 = .ok (.iconst (-1), 1) := by decide +kernel
theorem dX1_firstOfParity_39 : decode cX1_firstOfParity 39 = .ok (.ireturn, 1) := by decide +kernel
theorem dX1_learnedLeft_0 : decode cX1_learnedLeft 0 = .ok (.bipush 10, 2) := by decide +kernel
theorem dX1_learnedLeft_2 : decode cX1_learnedLeft 2 = .ok (.iload_n 0, 1) := by decide +kernel
theorem dX1_learnedLeft_3 : decode cX1_learnedLeft 3 = .ok (.isub, 1) := by decide +kernel
theorem dX1_learnedLeft_4 : decode cX1_learnedLeft 4 = .ok (.iconst 1, 1) := by decide +kernel
theorem dX1_learnedLeft_5 : decode cX1_learnedLeft 5 = .ok (.iadd, 1) := by decide +kernel
theorem dX1_learnedLeft_6 : decode cX1_learnedLeft 6 = .ok (.bipush 9, 2) := by decide +kernel
theorem dX1_learnedLeft_8 : decode cX1_learnedLeft 8 = .ok (.invokestatic 39, 3) := by decide +kernel
theorem dX1_learnedLeft_11 : decode cX1_learnedLeft 11 = .ok (.ireturn, 1) := by decide +kernel
theorem dX2_init_0 : decode cX2_init 0 = .ok (.aload_n 0, 1) := by decide +kernel
theorem dX2_init_1 : decode cX2_init 1 = .ok (.invokespecial 3, 3) := by decide +kernel
theorem dX2_init_4 : decode cX2_init 4 = .ok (.aload_n 0, 1) := by decide +kernel
theorem dX2_init_5 : decode cX2_init 5 = .ok (.bipush 40, 2) := by decide +kernel
theorem dX2_init_7 : decode cX2_init 7 = .ok (.newarray .int, 2) := by decide +kernel
theorem dX2_init_9 : decode cX2_init 9 = .ok (.putfield 9, 3) := by decide +kernel
theorem dX2_init_12 : decode cX2_init 12 = .ok (.aload_n 0, 1) := by decide +kernel
theorem dX2_init_13 : decode cX2_init 13 = .ok (.iconst 0, 1) := by decide +kernel
theorem dX2_init_14 : decode cX2_init 14 = .ok (.putfield 15, 3) := by decide +kernel
theorem dX2_init_17 : decode cX2_init 17 = .ok (.aload_n 0, 1) := by decide +kernel
theorem dX2_init_18 : decode cX2_init 18 = .ok (.iconst 0, 1) := by decide +kernel
theorem dX2_init_19 : decode cX2_init 19 = .ok (.putfield 19, 3) := by decide +kernel
theorem dX2_init_22 : decode cX2_init 22 = .ok (.return_, 1) := by decide +kernel
theorem dX2_isMissing_0 : decode cX2_isMissing 0 = .ok (.aload_n 0, 1) := by decide +kernel
theorem dX2_isMissing_1 : decode cX2_isMissing 1 = .ok (.getfield 15, 3) := by decide +kernel
theorem dX2_isMissing_4 : decode cX2_isMissing 4 = .ok (.ifCond .ne 7, 3) := by decide +kernel
theorem dX2_isMissing_7 : decode cX2_isMissing 7 = .ok (.iconst 1, 1) := by decide +kernel
theorem dX2_isMissing_8 : decode cX2_isMissing 8 = .ok (.goto 4, 3) := by decide +kernel
theorem dX2_isMissing_11 : decode cX2_isMissing 11 = .ok (.iconst 0, 1) := by decide +kernel
theorem dX2_isMissing_12 : decode cX2_isMissing 12 = .ok (.ireturn, 1) := by decide +kernel
theorem dX2_make_0 : decode cX2_make 0 = .ok (.aload_n 0, 1) := by decide +kernel
theorem dX2_make_1 : decode cX2_make 1 = .ok (.iload_n 1, 1) := by decide +kernel
theorem dX2_make_2 : decode cX2_make 2 = .ok (.putfield 15, 3) := by decide +kernel
theorem dX2_make_5 : decode cX2_make 5 = .ok (.aload_n 0, 1) := by decide +kernel
theorem dX2_make_6 : decode cX2_make 6 = .ok (.iload_n 1, 1) := by decide +kernel
theorem dX2_make_7 : decode cX2_make 7 = .ok (.ifCond .ne 7, 3) := by decide +kernel
theorem dX2_make_10 : decode cX2_make 10 = .ok (.iconst 0, 1) := by decide +kernel
theorem dX2_make_11 : decode cX2_make 11 = .ok (.goto 4, 3) := by decide +kernel
theorem dX2_make_14 : decode cX2_make 14 = .ok (.iload_n 2, 1) := by decide +kernel
theorem dX2_make_15 : decode cX2_make 15 = .ok (.putfield 19, 3) := by decide +kernel
theorem dX2_make_18 : decode cX2_make 18 = .ok (.iconst 0, 1) := by decide +kernel
theorem dX2_make_19 : decode cX2_make 19 = .ok (.istore_n 3, 1) := by decide +kernel
theorem dX2_make_20 : decode cX2_make 20 = .ok (.iload_n 3, 1) := by decide +kernel
theorem dX2_make_21 : decode cX2_make 21 = .ok (.bipush 40, 2) := by decide +kernel
theorem dX2_make_23 : decode cX2_make 23 = .ok (.if_icmp .ge 16, 3) := by decide +kernel
theorem dX2_make_26 : decode cX2_make 26 = .ok (.aload_n 0, 1) := by decide +kernel
theorem dX2_make_27 : decode cX2_make 27 = .ok (.getfield 9, 3) := by decide +kernel
theorem dX2_make_30 : decode cX2_make 30 = .ok (.iload_n 3, 1) := by decide +kernel
theorem dX2_make_31 : decode cX2_make 31 = .ok (.iconst 0, 1) := by decide +kernel
theorem dX2_make_32 : decode cX2_make 32 = .ok (.iastore, 1) := by decide +kernel
theorem dX2_make_33 : decode cX2_make 33 = .ok (.iinc 3 1, 3) := by decide +kernel
theorem dX2_make_36 : decode cX2_make 36 = .ok (.goto (-16), 3) := by decide +kernel
theorem dX2_make_39 : decode cX2_make 39 = .ok (.return_, 1) := by decide +kernel
theorem dX2_set_0 : decode cX2_set 0 = .ok (.aload_n 0, 1) := by decide +kernel
theorem dX2_set_1 : decode cX2_set 1 = .ok (.getfield 15, 3) := by decide +kernel
theorem dX2_set_4 : decode cX2_set 4 = .ok (.lookupswitch 50 #[(8, 28), (16, 39)], 28) := by decide +kernel
theorem dX2_set_32 : decode cX2_set 32 = .ok (.aload_n 0, 1) := by decide +kernel
theorem dX2_set_33 : decode cX2_set 33 = .ok (.getfield 9, 3) := by decide +kernel
theorem dX2_set_36 : decode cX2_set 36 = .ok (.iload_n 1, 1) := by decide +kernel
theorem dX2_set_37 : decode cX2_set 37 = .ok (.iload_n 2, 1) := by decide +kernel
theorem dX2_set_38 : decode cX2_set 38 = .ok (.i2b, 1) := by decide +kernel
theorem dX2_set_39 : decode cX2_set 39 = .ok (.iastore, 1) := by decide +kernel
theorem dX2_set_40 : decode cX2_set 40 = .ok (.goto 21, 3) := by decide +kernel
theorem dX2_set_43 : decode cX2_set 43 = .ok (.aload_n 0, 1) := by decide +kernel
theorem dX2_set_44 : decode cX2_set 44 = .ok (.getfield 9, 3) := by decide +kernel
theorem dX2_set_47 : decode cX2_set 47 = .ok (.iload_n 1, 1) := by decide +kernel
theorem dX2_set_48 : decode cX2_set 48 = .ok (.iload_n 2, 1) := by decide +kernel
theorem dX2_set_49 : decode cX2_set 49 = .ok (.i2s, 1) := by decide +kernel
theorem dX2_set_50 : decode cX2_set 50 = .ok (.iastore, 1) := by decide +kernel
theorem dX2_set_51 : decode cX2_set 51 = .ok (.goto 10, 3) := by decide +kernel
theorem dX2_set_54 : decode cX2_set 54 = .ok (.aload_n 0, 1) := by decide +kernel
theorem dX2_set_55 : decode cX2_set 55 = .ok (.getfield 9, 3) := by decide +kernel
theorem dX2_set_58 : decode cX2_set 58 = .ok (.iload_n 1, 1) := by decide +kernel
theorem dX2_set_59 : decode cX2_set 59 = .ok (.iload_n 2, 1) := by decide +kernel
theorem dX2_set_60 : decode cX2_set 60 = .ok (.iastore, 1) := by decide +kernel
theorem dX2_set_61 : decode cX2_set 61 = .ok (.return_, 1) := by decide +kernel
theorem dX2_hasRun_0 : decode cX2_hasRun 0 = .ok (.iload_n 1, 1) := by decide +kernel
theorem dX2_hasRun_1 : decode cX2_hasRun 1 = .ok (.ifCond .lt 21, 3) := by decide +kernel
theorem dX2_hasRun_4 : decode cX2_hasRun 4 = .ok (.iload_n 2, 1) := by decide +kernel
theorem dX2_hasRun_5 : decode cX2_hasRun 5 = .ok (.ifCond .lt 17, 3) := by decide +kernel
theorem dX2_hasRun_8 : decode cX2_hasRun 8 = .ok (.iload_n 1, 1) := by decide +kernel
theorem dX2_hasRun_9 : decode cX2_hasRun 9 = .ok (.aload_n 0, 1) := by decide +kernel
theorem dX2_hasRun_10 : decode cX2_hasRun 10 = .ok (.getfield 19, 3) := by decide +kernel
theorem dX2_hasRun_13 : decode cX2_hasRun 13 = .ok (.iload_n 2, 1) := by decide +kernel
theorem dX2_hasRun_14 : decode cX2_hasRun 14 = .ok (.isub, 1) := by decide +kernel
theorem dX2_hasRun_15 : decode cX2_hasRun 15 = .ok (.if_icmp .gt 7, 3) := by decide +kernel
theorem dX2_hasRun_18 : decode cX2_hasRun 18 = .ok (.iconst 1, 1) := by decide +kernel
theorem dX2_hasRun_19 : decode cX2_hasRun 19 = .ok (.goto 4, 3) := by decide +kernel
theorem dX2_hasRun_22 : decode cX2_hasRun 22 = .ok (.iconst 0, 1) := by decide +kernel
theorem dX2_hasRun_23 : decode cX2_hasRun 23 = .ok (.ireturn, 1) := by decide +kernel
theorem dX3_init_0 : decode cX3_init 0 = .ok (.aload_n 0, 1) := by decide +kernel
theorem dX3_init_1 : decode cX3_init 1 = .ok (.invokespecial 3, 3) := by decide +kernel
theorem dX3_init_4 : decode cX3_init 4 = .ok (.aload_n 0, 1) := by decide +kernel
theorem dX3_init_5 : decode cX3_init 5 = .ok (.bipush 120, 2) := by decide +kernel
theorem dX3_init_7 : decode cX3_init 7 = .ok (.newarray .byte, 2) := by decide +kernel
theorem dX3_init_9 : decode cX3_init 9 = .ok (.putfield 9, 3) := by decide +kernel
theorem dX3_init_12 : decode cX3_init 12 = .ok (.aload_n 0, 1) := by decide +kernel
theorem dX3_init_13 : decode cX3_init 13 = .ok (.iconst 0, 1) := by decide +kernel
theorem dX3_init_14 : decode cX3_init 14 = .ok (.putfield 15, 3) := by decide +kernel
theorem dX3_init_17 : decode cX3_init 17 = .ok (.aload_n 0, 1) := by decide +kernel
theorem dX3_init_18 : decode cX3_init 18 = .ok (.iconst 0, 1) := by decide +kernel
theorem dX3_init_19 : decode cX3_init 19 = .ok (.putfield 19, 3) := by decide +kernel
theorem dX3_init_22 : decode cX3_init 22 = .ok (.aload_n 0, 1) := by decide +kernel
theorem dX3_init_23 : decode cX3_init 23 = .ok (.iconst 0, 1) := by decide +kernel
theorem dX3_init_24 : decode cX3_init 24 = .ok (.putfield 22, 3) := by decide +kernel
theorem dX3_init_27 : decode cX3_init 27 = .ok (.aload_n 0, 1) := by decide +kernel
theorem dX3_init_28 : decode cX3_init 28 = .ok (.iconst 0, 1) := by decide +kernel
theorem dX3_init_29 : decode cX3_init 29 = .ok (.putfield 25, 3) := by decide +kernel
theorem dX3_init_32 : decode cX3_init 32 = .ok (.aload_n 0, 1) := by decide +kernel
theorem dX3_init_33 : decode cX3_init 33 = .ok (.iconst 0, 1) := by decide +kernel
theorem dX3_init_34 : decode cX3_init 34 = .ok (.putfield 28, 3) := by decide +kernel
theorem dX3_init_37 : decode cX3_init 37 = .ok (.return_, 1) := by decide +kernel
theorem dX3_append_0 : decode cX3_append 0 = .ok (.aload_n 0, 1) := by decide +kernel
theorem dX3_append_1 : decode cX3_append 1 = .ok (.getfield 15, 3) := by decide +kernel
theorem dX3_append_4 : decode cX3_append 4 = .ok (.bipush 120, 2) := by decide +kernel
theorem dX3_append_6 : decode cX3_append 6 = .ok (.if_icmp .ge 23, 3) := by decide +kernel
theorem dX3_append_9 : decode cX3_append 9 = .ok (.aload_n 0, 1) := by decide +kernel
theorem dX3_append_10 : decode cX3_append 10 = .ok (.getfield 9, 3) := by decide +kernel
theorem dX3_append_13 : decode cX3_append 13 = .ok (.aload_n 0, 1) := by decide +kernel
theorem dX3_append_14 : decode cX3_append 14 = .ok (.getfield 15, 3) := by decide +kernel
theorem dX3_append_17 : decode cX3_append 17 = .ok (.iload_n 1, 1) := by decide +kernel
theorem dX3_append_18 : decode cX3_append 18 = .ok (.bastore, 1) := by decide +kernel
theorem dX3_append_19 : decode cX3_append 19 = .ok (.aload_n 0, 1) := by decide +kernel
theorem dX3_append_20 : decode cX3_append 20 = .ok (.dup, 1) := by decide +kernel
theorem dX3_append_21 : decode cX3_append 21 = .ok (.getfield 15, 3) := by decide +kernel
theorem dX3_append_24 : decode cX3_append 24 = .ok (.iconst 1, 1) := by decide +kernel
theorem dX3_append_25 : decode cX3_append 25 = .ok (.iadd, 1) := by decide +kernel
theorem dX3_append_26 : decode cX3_append 26 = .ok (.putfield 15, 3) := by decide +kernel
theorem dX3_append_29 : decode cX3_append 29 = .ok (.return_, 1) := by decide +kernel
theorem dX3_empty_0 : decode cX3_empty 0 = .ok (.aload_n 0, 1) := by decide +kernel
theorem dX3_empty_1 : decode cX3_empty 1 = .ok (.getfield 15, 3) := by decide +kernel
theorem dX3_empty_4 : decode cX3_empty 4 = .ok (.istore_n 1, 1) := by decide +kernel
theorem dX3_empty_5 : decode cX3_empty 5 = .ok (.aload_n 0, 1) := by decide +kernel
theorem dX3_empty_6 : decode cX3_empty 6 = .ok (.iconst 0, 1) := by decide +kernel
theorem dX3_empty_7 : decode cX3_empty 7 = .ok (.putfield 15, 3) := by decide +kernel
theorem dX3_empty_10 : decode cX3_empty 10 = .ok (.iload_n 1, 1) := by decide +kernel
theorem dX3_empty_11 : decode cX3_empty 11 = .ok (.ireturn, 1) := by decide +kernel
theorem dX3_readInto_0 : decode cX3_readInto 0 = .ok (.aload_n 0, 1) := by decide +kernel
theorem dX3_readInto_1 : decode cX3_readInto 1 = .ok (.iconst 0, 1) := by decide +kernel
theorem dX3_readInto_2 : decode cX3_readInto 2 = .ok (.putfield 25, 3) := by decide +kernel
theorem dX3_readInto_5 : decode cX3_readInto 5 = .ok (.aload_n 0, 1) := by decide +kernel
theorem dX3_readInto_6 : decode cX3_readInto 6 = .ok (.invokevirtual 31, 3) := by decide +kernel
theorem dX3_readInto_9 : decode cX3_readInto 9 = .ok (.iconst 1, 1) := by decide +kernel
theorem dX3_readInto_10 : decode cX3_readInto 10 = .ok (.istore_n 2, 1) := by decide +kernel
theorem dX3_readInto_11 : decode cX3_readInto 11 = .ok (.iload_n 2, 1) := by decide +kernel
theorem dX3_readInto_12 : decode cX3_readInto 12 = .ok (.bipush 120, 2) := by decide +kernel
theorem dX3_readInto_14 : decode cX3_readInto 14 = .ok (.if_icmp .gt 44, 3) := by decide +kernel
theorem dX3_readInto_17 : decode cX3_readInto 17 = .ok (.aload_n 0, 1) := by decide +kernel
theorem dX3_readInto_18 : decode cX3_readInto 18 = .ok (.aload_n 1, 1) := by decide +kernel
theorem dX3_readInto_19 : decode cX3_readInto 19 = .ok (.invokevirtual 34, 3) := by decide +kernel
theorem dX3_readInto_22 : decode cX3_readInto 22 = .ok (.ifCond .ne 6, 3) := by decide +kernel
theorem dX3_readInto_25 : decode cX3_readInto 25 = .ok (.goto 33, 3) := by decide +kernel
theorem dX3_readInto_28 : decode cX3_readInto 28 = .ok (.aload_n 0, 1) := by decide +kernel
theorem dX3_readInto_29 : decode cX3_readInto 29 = .ok (.getfield 19, 3) := by decide +kernel
theorem dX3_readInto_32 : decode cX3_readInto 32 = .ok (.ifCond .ne 5, 3) := by decide +kernel
theorem dX3_readInto_35 : decode cX3_readInto 35 = .ok (.iload_n 2, 1) := by decide +kernel
theorem dX3_readInto_36 : decode cX3_readInto 36 = .ok (.ireturn, 1) := by decide +kernel
theorem dX3_readInto_37 : decode cX3_readInto 37 = .ok (.aload_n 0, 1) := by decide +kernel
theorem dX3_readInto_38 : decode cX3_readInto 38 = .ok (.getfield 19, 3) := by decide +kernel
theorem dX3_readInto_41 : decode cX3_readInto 41 = .ok (.iconst 3, 1) := by decide +kernel
theorem dX3_readInto_42 : decode cX3_readInto 42 = .ok (.if_icmp .eq 6, 3) := by decide +kernel
theorem dX3_readInto_45 : decode cX3_readInto 45 = .ok (.goto 13, 3) := by decide +kernel
theorem dX3_readInto_48 : decode cX3_readInto 48 = .ok (.aload_n 0, 1) := by decide +kernel
theorem dX3_readInto_49 : decode cX3_readInto 49 = .ok (.invokevirtual 31, 3) := by decide +kernel
theorem dX3_readInto_52 : decode cX3_readInto 52 = .ok (.iinc 2 1, 3) := by decide +kernel
theorem dX3_readInto_55 : decode cX3_readInto 55 = .ok (.goto (-44), 3) := by decide +kernel
theorem dX3_readInto_58 : decode cX3_readInto 58 = .ok (.iconst (-1), 1) := by decide +kernel
theorem dX3_readInto_59 : decode cX3_readInto 59 = .ok (.aload_n 0, 1) := by decide +kernel
theorem dX3_readInto_60 : decode cX3_readInto 60 = .ok (.getfield 22, 3) := by decide +kernel
theorem dX3_readInto_63 : decode cX3_readInto 63 = .ok (.isub, 1) := by decide +kernel
theorem dX3_readInto_64 : decode cX3_readInto 64 = .ok (.ireturn, 1) := by decide +kernel
theorem dX3_readItem_0 : decode cX3_readItem 0 = .ok (.aload_n 0, 1) := by decide +kernel
theorem dX3_readItem_1 : decode cX3_readItem 1 = .ok (.ldc 38, 2) := by decide +kernel
theorem dX3_readItem_3 : decode cX3_readItem 3 = .ok (.invokevirtual 40, 3) := by decide +kernel
theorem dX3_readItem_6 : decode cX3_readItem 6 = .ok (.ifCond .eq 9, 3) := by decide +kernel
theorem dX3_readItem_9 : decode cX3_readItem 9 = .ok (.aload_n 0, 1) := by decide +kernel
theorem dX3_readItem_10 : decode cX3_readItem 10 = .ok (.aload_n 1, 1) := by decide +kernel
theorem dX3_readItem_11 : decode cX3_readItem 11 = .ok (.invokevirtual 44, 3) := by decide +kernel
theorem dX3_readItem_14 : decode cX3_readItem 14 = .ok (.ireturn, 1) := by decide +kernel
theorem dX3_readItem_15 : decode cX3_readItem 15 = .ok (.aload_n 0, 1) := by decide +kernel
theorem dX3_readItem_16 : decode cX3_readItem 16 = .ok (.ldc 47, 2) := by decide +kernel
theorem dX3_readItem_18 : decode cX3_readItem 18 = .ok (.invokevirtual 40, 3) := by decide +kernel
theorem dX3_readItem_21 : decode cX3_readItem 21 = .ok (.ifCond .eq 18, 3) := by decide +kernel
theorem dX3_readItem_24 : decode cX3_readItem 24 = .ok (.aload_n 0, 1) := by decide +kernel
theorem dX3_readItem_25 : decode cX3_readItem 25 = .ok (.aload_n 1, 1) := by decide +kernel
theorem dX3_readItem_26 : decode cX3_readItem 26 = .ok (.invokevirtual 49, 3) := by decide +kernel
theorem dX3_readItem_29 : decode cX3_readItem 29 = .ok (.iconst (-1), 1) := by decide +kernel
theorem dX3_readItem_30 : decode cX3_readItem 30 = .ok (.if_icmp .eq 7, 3) := by decide +kernel
theorem dX3_readItem_33 : decode cX3_readItem 33 = .ok (.iconst 1, 1) := by decide +kernel
theorem dX3_readItem_34 : decode cX3_readItem 34 = .ok (.goto 4, 3) := by decide +kernel
theorem dX3_readItem_37 : decode cX3_readItem 37 = .ok (.iconst 0, 1) := by decide +kernel
theorem dX3_readItem_38 : decode cX3_readItem 38 = .ok (.ireturn, 1) := by decide +kernel
theorem dX3_readItem_39 : decode cX3_readItem 39 = .ok (.iconst 0, 1) := by decide +kernel
theorem dX3_readItem_40 : decode cX3_readItem 40 = .ok (.istore_n 2, 1) := by decide +kernel
theorem dX3_readItem_41 : decode cX3_readItem 41 = .ok (.iload_n 2, 1) := by decide +kernel
theorem dX3_readItem_42 : decode cX3_readItem 42 = .ok (.bipush 7, 2) := by decide +kernel
theorem dX3_readItem_44 : decode cX3_readItem 44 = .ok (.if_icmp .ge 27, 3) := by decide +kernel
theorem dX3_readItem_47 : decode cX3_readItem 47 = .ok (.aload_n 0, 1) := by decide +kernel
theorem dX3_readItem_48 : decode cX3_readItem 48 = .ok (.iload_n 2, 1) := by decide +kernel
theorem dX3_readItem_49 : decode cX3_readItem 49 = .ok (.invokestatic 53, 3) := by decide +kernel
theorem dX3_readItem_52 : decode cX3_readItem 52 = .ok (.invokevirtual 40, 3) := by decide +kernel
theorem dX3_readItem_55 : decode cX3_readItem 55 = .ok (.ifCond .eq 10, 3) := by decide +kernel
theorem dX3_readItem_58 : decode cX3_readItem 58 = .ok (.aload_n 0, 1) := by decide +kernel
theorem dX3_readItem_59 : decode cX3_readItem 59 = .ok (.aload_n 1, 1) := by decide +kernel
theorem dX3_readItem_60 : decode cX3_readItem 60 = .ok (.iload_n 2, 1) := by decide +kernel
theorem dX3_readItem_61 : decode cX3_readItem 61 = .ok (.invokevirtual 57, 3) := by decide +kernel
theorem dX3_readItem_64 : decode cX3_readItem 64 = .ok (.ireturn, 1) := by decide +kernel
theorem dX3_readItem_65 : decode cX3_readItem 65 = .ok (.iinc 2 1, 3) := by decide +kernel
theorem dX3_readItem_68 : decode cX3_readItem 68 = .ok (.goto (-27), 3) := by decide +kernel
theorem dX3_readItem_71 : decode cX3_readItem 71 = .ok (.iconst 0, 1) := by decide +kernel
theorem dX3_readItem_72 : decode cX3_readItem 72 = .ok (.ireturn, 1) := by decide +kernel
theorem dX3_readMoth_0 : decode cX3_readMoth 0 = .ok (.aload_n 1, 1) := by decide +kernel
theorem dX3_readMoth_1 : decode cX3_readMoth 1 = .ok (.invokevirtual 61, 3) := by decide +kernel
theorem dX3_readMoth_4 : decode cX3_readMoth 4 = .ok (.ifCond .eq 5, 3) := by decide +kernel
theorem dX3_readMoth_7 : decode cX3_readMoth 7 = .ok (.iconst 0, 1) := by decide +kernel
theorem dX3_readMoth_8 : decode cX3_readMoth 8 = .ok (.ireturn, 1) := by decide +kernel
theorem dX3_readMoth_9 : decode cX3_readMoth 9 = .ok (.aload_n 0, 1) := by decide +kernel
theorem dX3_readMoth_10 : decode cX3_readMoth 10 = .ok (.invokevirtual 31, 3) := by decide +kernel
theorem dX3_readMoth_13 : decode cX3_readMoth 13 = .ok (.aload_n 1, 1) := by decide +kernel
theorem dX3_readMoth_14 : decode cX3_readMoth 14 = .ok (.iload_n 2, 1) := by decide +kernel
theorem dX3_readMoth_15 : decode cX3_readMoth 15 = .ok (.iconst 0, 1) := by decide +kernel
theorem dX3_readMoth_16 : decode cX3_readMoth 16 = .ok (.invokevirtual 67, 3) := by decide +kernel
theorem dX3_readMoth_19 : decode cX3_readMoth 19 = .ok (.istore_n 3, 1) := by decide +kernel
theorem dX3_readMoth_20 : decode cX3_readMoth 20 = .ok (.aload_n 0, 1) := by decide +kernel
theorem dX3_readMoth_21 : decode cX3_readMoth 21 = .ok (.aload_n 1, 1) := by decide +kernel
theorem dX3_readMoth_22 : decode cX3_readMoth 22 = .ok (.iload_n 3, 1) := by decide +kernel
theorem dX3_readMoth_23 : decode cX3_readMoth 23 = .ok (.ldc 71, 2) := by decide +kernel
theorem dX3_readMoth_25 : decode cX3_readMoth 25 = .ok (.iconst 1, 1) := by decide +kernel
theorem dX3_readMoth_26 : decode cX3_readMoth 26 = .ok (.getstatic 73, 3) := by decide +kernel
theorem dX3_readMoth_29 : decode cX3_readMoth 29 = .ok (.iconst 1, 1) := by decide +kernel
theorem dX3_readMoth_30 : decode cX3_readMoth 30 = .ok (.iaload, 1) := by decide +kernel
theorem dX3_readMoth_31 : decode cX3_readMoth 31 = .ok (.invokevirtual 77, 3) := by decide +kernel
theorem dX3_readMoth_34 : decode cX3_readMoth 34 = .ok (.ifCond .eq 39, 3) := by decide +kernel
theorem dX3_readMoth_37 : decode cX3_readMoth 37 = .ok (.aload_n 0, 1) := by decide +kernel
theorem dX3_readMoth_38 : decode cX3_readMoth 38 = .ok (.aload_n 1, 1) := by decide +kernel
theorem dX3_readMoth_39 : decode cX3_readMoth 39 = .ok (.iload_n 3, 1) := by decide +kernel
theorem dX3_readMoth_40 : decode cX3_readMoth 40 = .ok (.ldc 81, 2) := by decide +kernel
theorem dX3_readMoth_42 : decode cX3_readMoth 42 = .ok (.iconst 2, 1) := by decide +kernel
theorem dX3_readMoth_43 : decode cX3_readMoth 43 = .ok (.getstatic 73, 3) := by decide +kernel
theorem dX3_readMoth_46 : decode cX3_readMoth 46 = .ok (.iconst 2, 1) := by decide +kernel
theorem dX3_readMoth_47 : decode cX3_readMoth 47 = .ok (.iaload, 1) := by decide +kernel
theorem dX3_readMoth_48 : decode cX3_readMoth 48 = .ok (.invokevirtual 77, 3) := by decide +kernel
theorem dX3_readMoth_51 : decode cX3_readMoth 51 = .ok (.ifCond .eq 22, 3) := by decide +kernel
theorem dX3_readMoth_54 : decode cX3_readMoth 54 = .ok (.aload_n 0, 1) := by decide +kernel
theorem dX3_readMoth_55 : decode cX3_readMoth 55 = .ok (.aload_n 1, 1) := by decide +kernel
theorem dX3_readMoth_56 : decode cX3_readMoth 56 = .ok (.iload_n 3, 1) := by decide +kernel
theorem dX3_readMoth_57 : decode cX3_readMoth 57 = .ok (.ldc 83, 2) := by decide +kernel
theorem dX3_readMoth_59 : decode cX3_readMoth 59 = .ok (.iconst 3, 1) := by decide +kernel
theorem dX3_readMoth_60 : decode cX3_readMoth 60 = .ok (.sipush 999, 3) := by decide +kernel
theorem dX3_readMoth_63 : decode cX3_readMoth 63 = .ok (.invokevirtual 77, 3) := by decide +kernel
theorem dX3_readMoth_66 : decode cX3_readMoth 66 = .ok (.ifCond .eq 7, 3) := by decide +kernel
theorem dX3_readMoth_69 : decode cX3_readMoth 69 = .ok (.iconst 1, 1) := by decide +kernel
theorem dX3_readMoth_70 : decode cX3_readMoth 70 = .ok (.goto 4, 3) := by decide +kernel
theorem dX3_readMoth_73 : decode cX3_readMoth 73 = .ok (.iconst 0, 1) := by decide +kernel
theorem dX3_readMoth_74 : decode cX3_readMoth 74 = .ok (.ireturn, 1) := by decide +kernel
theorem dX3_readTrait_0 : decode cX3_readTrait 0 = .ok (.aload_n 0, 1) := by decide +kernel
theorem dX3_readTrait_1 : decode cX3_readTrait 1 = .ok (.aload_n 3, 1) := by decide +kernel
theorem dX3_readTrait_2 : decode cX3_readTrait 2 = .ok (.invokevirtual 40, 3) := by decide +kernel
theorem dX3_readTrait_5 : decode cX3_readTrait 5 = .ok (.ifCond .ne 5, 3) := by decide +kernel
theorem dX3_readTrait_8 : decode cX3_readTrait 8 = .ok (.iconst 1, 1) := by decide +kernel
theorem dX3_readTrait_9 : decode cX3_readTrait 9 = .ok (.ireturn, 1) := by decide +kernel
theorem dX3_readTrait_10 : decode cX3_readTrait 10 = .ok (.aload_n 0, 1) := by decide +kernel
theorem dX3_readTrait_11 : decode cX3_readTrait 11 = .ok (.invokevirtual 31, 3) := by decide +kernel
theorem dX3_readTrait_14 : decode cX3_readTrait 14 = .ok (.aload_n 0, 1) := by decide +kernel
theorem dX3_readTrait_15 : decode cX3_readTrait 15 = .ok (.getstatic 85, 3) := by decide +kernel
theorem dX3_readTrait_18 : decode cX3_readTrait 18 = .ok (.iload 4, 2) := by decide +kernel
theorem dX3_readTrait_20 : decode cX3_readTrait 20 = .ok (.iaload, 1) := by decide +kernel
theorem dX3_readTrait_21 : decode cX3_readTrait 21 = .ok (.iload 5, 2) := by decide +kernel
theorem dX3_readTrait_23 : decode cX3_readTrait 23 = .ok (.invokevirtual 88, 3) := by decide +kernel
theorem dX3_readTrait_26 : decode cX3_readTrait 26 = .ok (.istore 6, 2) := by decide +kernel
theorem dX3_readTrait_28 : decode cX3_readTrait 28 = .ok (.iload 6, 2) := by decide +kernel
theorem dX3_readTrait_30 : decode cX3_readTrait 30 = .ok (.iconst (-1), 1) := by decide +kernel
theorem dX3_readTrait_31 : decode cX3_readTrait 31 = .ok (.if_icmp .ne 5, 3) := by decide +kernel
theorem dX3_readTrait_34 : decode cX3_readTrait 34 = .ok (.iconst 0, 1) := by decide +kernel
theorem dX3_readTrait_35 : decode cX3_readTrait 35 = .ok (.ireturn, 1) := by decide +kernel
theorem dX3_readTrait_36 : decode cX3_readTrait 36 = .ok (.aload_n 1, 1) := by decide +kernel
theorem dX3_readTrait_37 : decode cX3_readTrait 37 = .ok (.iload_n 2, 1) := by decide +kernel
theorem dX3_readTrait_38 : decode cX3_readTrait 38 = .ok (.iload 4, 2) := by decide +kernel
theorem dX3_readTrait_40 : decode cX3_readTrait 40 = .ok (.iload 6, 2) := by decide +kernel
theorem dX3_readTrait_42 : decode cX3_readTrait 42 = .ok (.invokevirtual 91, 3) := by decide +kernel
theorem dX3_readTrait_45 : decode cX3_readTrait 45 = .ok (.iconst 1, 1) := by decide +kernel
theorem dX3_readTrait_46 : decode cX3_readTrait 46 = .ok (.ireturn, 1) := by decide +kernel
theorem dX3_readPage_0 : decode cX3_readPage 0 = .ok (.aload_n 0, 1) := by decide +kernel
theorem dX3_readPage_1 : decode cX3_readPage 1 = .ok (.aload_n 1, 1) := by decide +kernel
theorem dX3_readPage_2 : decode cX3_readPage 2 = .ok (.invokevirtual 49, 3) := by decide +kernel
theorem dX3_readPage_5 : decode cX3_readPage 5 = .ok (.istore_n 2, 1) := by decide +kernel
theorem dX3_readPage_6 : decode cX3_readPage 6 = .ok (.iload_n 2, 1) := by decide +kernel
theorem dX3_readPage_7 : decode cX3_readPage 7 = .ok (.iconst (-1), 1) := by decide +kernel
theorem dX3_readPage_8 : decode cX3_readPage 8 = .ok (.if_icmp .ne 5, 3) := by decide +kernel
theorem dX3_readPage_11 : decode cX3_readPage 11 = .ok (.iconst 0, 1) := by decide +kernel
theorem dX3_readPage_12 : decode cX3_readPage 12 = .ok (.ireturn, 1) := by decide +kernel
theorem dX3_readPage_13 : decode cX3_readPage 13 = .ok (.iconst 0, 1) := by decide +kernel
theorem dX3_readPage_14 : decode cX3_readPage 14 = .ok (.istore_n 3, 1) := by decide +kernel
theorem dX3_readPage_15 : decode cX3_readPage 15 = .ok (.iload_n 3, 1) := by decide +kernel
theorem dX3_readPage_16 : decode cX3_readPage 16 = .ok (.bipush 8, 2) := by decide +kernel
theorem dX3_readPage_18 : decode cX3_readPage 18 = .ok (.if_icmp .ge 48, 3) := by decide +kernel
theorem dX3_readPage_21 : decode cX3_readPage 21 = .ok (.iload_n 3, 1) := by decide +kernel
theorem dX3_readPage_22 : decode cX3_readPage 22 = .ok (.ifCond .le 13, 3) := by decide +kernel
theorem dX3_readPage_25 : decode cX3_readPage 25 = .ok (.aload_n 0, 1) := by decide +kernel
theorem dX3_readPage_26 : decode cX3_readPage 26 = .ok (.getfield 19, 3) := by decide +kernel
theorem dX3_readPage_29 : decode cX3_readPage 29 = .ok (.iconst 2, 1) := by decide +kernel
theorem dX3_readPage_30 : decode cX3_readPage 30 = .ok (.if_icmp .eq 5, 3) := by decide +kernel
theorem dX3_readPage_33 : decode cX3_readPage 33 = .ok (.iconst 1, 1) := by decide +kernel
theorem dX3_readPage_34 : decode cX3_readPage 34 = .ok (.ireturn, 1) := by decide +kernel
theorem dX3_readPage_35 : decode cX3_readPage 35 = .ok (.aload_n 0, 1) := by decide +kernel
theorem dX3_readPage_36 : decode cX3_readPage 36 = .ok (.iconst 0, 1) := by decide +kernel
theorem dX3_readPage_37 : decode cX3_readPage 37 = .ok (.bipush 9, 2) := by decide +kernel
theorem dX3_readPage_39 : decode cX3_readPage 39 = .ok (.invokevirtual 88, 3) := by decide +kernel
theorem dX3_readPage_42 : decode cX3_readPage 42 = .ok (.istore 4, 2) := by decide +kernel
theorem dX3_readPage_44 : decode cX3_readPage 44 = .ok (.iload 4, 2) := by decide +kernel
theorem dX3_readPage_46 : decode cX3_readPage 46 = .ok (.iconst (-1), 1) := by decide +kernel
theorem dX3_readPage_47 : decode cX3_readPage 47 = .ok (.if_icmp .ne 5, 3) := by decide +kernel
theorem dX3_readPage_50 : decode cX3_readPage 50 = .ok (.iconst 0, 1) := by decide +kernel
theorem dX3_readPage_51 : decode cX3_readPage 51 = .ok (.ireturn, 1) := by decide +kernel
theorem dX3_readPage_52 : decode cX3_readPage 52 = .ok (.aload_n 1, 1) := by decide +kernel
theorem dX3_readPage_53 : decode cX3_readPage 53 = .ok (.iload_n 2, 1) := by decide +kernel
theorem dX3_readPage_54 : decode cX3_readPage 54 = .ok (.iload_n 3, 1) := by decide +kernel
theorem dX3_readPage_55 : decode cX3_readPage 55 = .ok (.iload 4, 2) := by decide +kernel
theorem dX3_readPage_57 : decode cX3_readPage 57 = .ok (.invokevirtual 95, 3) := by decide +kernel
theorem dX3_readPage_60 : decode cX3_readPage 60 = .ok (.iinc 3 1, 3) := by decide +kernel
theorem dX3_readPage_63 : decode cX3_readPage 63 = .ok (.goto (-48), 3) := by decide +kernel
theorem dX3_readPage_66 : decode cX3_readPage 66 = .ok (.iconst 1, 1) := by decide +kernel
theorem dX3_readPage_67 : decode cX3_readPage 67 = .ok (.ireturn, 1) := by decide +kernel
theorem dX3_takeBarePage_0 : decode cX3_takeBarePage 0 = .ok (.aload_n 0, 1) := by decide +kernel
theorem dX3_takeBarePage_1 : decode cX3_takeBarePage 1 = .ok (.invokevirtual 31, 3) := by decide +kernel
theorem dX3_takeBarePage_4 : decode cX3_takeBarePage 4 = .ok (.aload_n 0, 1) := by decide +kernel
theorem dX3_takeBarePage_5 : decode cX3_takeBarePage 5 = .ok (.iconst 0, 1) := by decide +kernel
theorem dX3_takeBarePage_6 : decode cX3_takeBarePage 6 = .ok (.iconst 5, 1) := by decide +kernel
theorem dX3_takeBarePage_7 : decode cX3_takeBarePage 7 = .ok (.invokevirtual 88, 3) := by decide +kernel
theorem dX3_takeBarePage_10 : decode cX3_takeBarePage 10 = .ok (.istore_n 2, 1) := by decide +kernel
theorem dX3_takeBarePage_11 : decode cX3_takeBarePage 11 = .ok (.iload_n 2, 1) := by decide +kernel
theorem dX3_takeBarePage_12 : decode cX3_takeBarePage 12 = .ok (.iconst (-1), 1) := by decide +kernel
theorem dX3_takeBarePage_13 : decode cX3_takeBarePage 13 = .ok (.if_icmp .eq 8, 3) := by decide +kernel
theorem dX3_takeBarePage_16 : decode cX3_takeBarePage 16 = .ok (.aload_n 1, 1) := by decide +kernel
theorem dX3_takeBarePage_17 : decode cX3_takeBarePage 17 = .ok (.iload_n 2, 1) := by decide +kernel
theorem dX3_takeBarePage_18 : decode cX3_takeBarePage 18 = .ok (.invokevirtual 98, 3) := by decide +kernel
theorem dX3_takeBarePage_21 : decode cX3_takeBarePage 21 = .ok (.iload_n 2, 1) := by decide +kernel
theorem dX3_takeBarePage_22 : decode cX3_takeBarePage 22 = .ok (.ireturn, 1) := by decide +kernel
theorem dX3_takeNumber_0 : decode cX3_takeNumber 0 = .ok (.aload_n 0, 1) := by decide +kernel
theorem dX3_takeNumber_1 : decode cX3_takeNumber 1 = .ok (.getfield 19, 3) := by decide +kernel
theorem dX3_takeNumber_4 : decode cX3_takeNumber 4 = .ok (.iconst 2, 1) := by decide +kernel
theorem dX3_takeNumber_5 : decode cX3_takeNumber 5 = .ok (.if_icmp .ne 15, 3) := by decide +kernel
theorem dX3_takeNumber_8 : decode cX3_takeNumber 8 = .ok (.aload_n 0, 1) := by decide +kernel
theorem dX3_takeNumber_9 : decode cX3_takeNumber 9 = .ok (.getfield 28, 3) := by decide +kernel
theorem dX3_takeNumber_12 : decode cX3_takeNumber 12 = .ok (.iload_n 1, 1) := by decide +kernel
theorem dX3_takeNumber_13 : decode cX3_takeNumber 13 = .ok (.iload_n 2, 1) := by decide +kernel
theorem dX3_takeNumber_14 : decode cX3_takeNumber 14 = .ok (.invokestatic 102, 3) := by decide +kernel
theorem dX3_takeNumber_17 : decode cX3_takeNumber 17 = .ok (.ifCond .ne 5, 3) := by decide +kernel
theorem dX3_takeNumber_20 : decode cX3_takeNumber 20 = .ok (.iconst (-1), 1) := by decide +kernel
theorem dX3_takeNumber_21 : decode cX3_takeNumber 21 = .ok (.ireturn, 1) := by decide +kernel
theorem dX3_takeNumber_22 : decode cX3_takeNumber 22 = .ok (.aload_n 0, 1) := by decide +kernel
theorem dX3_takeNumber_23 : decode cX3_takeNumber 23 = .ok (.getfield 28, 3) := by decide +kernel
theorem dX3_takeNumber_26 : decode cX3_takeNumber 26 = .ok (.istore_n 3, 1) := by decide +kernel
theorem dX3_takeNumber_27 : decode cX3_takeNumber 27 = .ok (.aload_n 0, 1) := by decide +kernel
theorem dX3_takeNumber_28 : decode cX3_takeNumber 28 = .ok (.invokevirtual 31, 3) := by decide +kernel
theorem dX3_takeNumber_31 : decode cX3_takeNumber 31 = .ok (.iload_n 3, 1) := by decide +kernel
theorem dX3_takeNumber_32 : decode cX3_takeNumber 32 = .ok (.ireturn, 1) := by decide +kernel
theorem dX3_isName_0 : decode cX3_isName 0 = .ok (.aload_n 0, 1) := by decide +kernel
theorem dX3_isName_1 : decode cX3_isName 1 = .ok (.getfield 19, 3) := by decide +kernel
theorem dX3_isName_4 : decode cX3_isName 4 = .ok (.iconst 1, 1) := by decide +kernel
theorem dX3_isName_5 : decode cX3_isName 5 = .ok (.if_icmp .ne 19, 3) := by decide +kernel
theorem dX3_isName_8 : decode cX3_isName 8 = .ok (.aload_n 0, 1) := by decide +kernel
theorem dX3_isName_9 : decode cX3_isName 9 = .ok (.getfield 25, 3) := by decide +kernel
theorem dX3_isName_12 : decode cX3_isName 12 = .ok (.aload_n 0, 1) := by decide +kernel
theorem dX3_isName_13 : decode cX3_isName 13 = .ok (.getfield 22, 3) := by decide +kernel
theorem dX3_isName_16 : decode cX3_isName 16 = .ok (.isub, 1) := by decide +kernel
theorem dX3_isName_17 : decode cX3_isName 17 = .ok (.aload_n 1, 1) := by decide +kernel
theorem dX3_isName_18 : decode cX3_isName 18 = .ok (.invokevirtual 106, 3) := by decide +kernel
theorem dX3_isName_21 : decode cX3_isName 21 = .ok (.if_icmp .eq 5, 3) := by decide +kernel
theorem dX3_isName_24 : decode cX3_isName 24 = .ok (.iconst 0, 1) := by decide +kernel
theorem dX3_isName_25 : decode cX3_isName 25 = .ok (.ireturn, 1) := by decide +kernel
theorem dX3_isName_26 : decode cX3_isName 26 = .ok (.iconst 0, 1) := by decide +kernel
theorem dX3_isName_27 : decode cX3_isName 27 = .ok (.istore_n 2, 1) := by decide +kernel
theorem dX3_isName_28 : decode cX3_isName 28 = .ok (.iload_n 2, 1) := by decide +kernel
theorem dX3_isName_29 : decode cX3_isName 29 = .ok (.aload_n 1, 1) := by decide +kernel
theorem dX3_isName_30 : decode cX3_isName 30 = .ok (.invokevirtual 106, 3) := by decide +kernel
theorem dX3_isName_33 : decode cX3_isName 33 = .ok (.if_icmp .ge 30, 3) := by decide +kernel
theorem dX3_isName_36 : decode cX3_isName 36 = .ok (.aload_n 0, 1) := by decide +kernel
theorem dX3_isName_37 : decode cX3_isName 37 = .ok (.getfield 9, 3) := by decide +kernel
theorem dX3_isName_40 : decode cX3_isName 40 = .ok (.aload_n 0, 1) := by decide +kernel
theorem dX3_isName_41 : decode cX3_isName 41 = .ok (.getfield 22, 3) := by decide +kernel
theorem dX3_isName_44 : decode cX3_isName 44 = .ok (.iload_n 2, 1) := by decide +kernel
theorem dX3_isName_45 : decode cX3_isName 45 = .ok (.iadd, 1) := by decide +kernel
theorem dX3_isName_46 : decode cX3_isName 46 = .ok (.baload, 1) := by decide +kernel
theorem dX3_isName_47 : decode cX3_isName 47 = .ok (.aload_n 1, 1) := by decide +kernel
theorem dX3_isName_48 : decode cX3_isName 48 = .ok (.iload_n 2, 1) := by decide +kernel
theorem dX3_isName_49 : decode cX3_isName 49 = .ok (.invokevirtual 112, 3) := by decide +kernel
theorem dX3_isName_52 : decode cX3_isName 52 = .ok (.if_icmp .eq 5, 3) := by decide +kernel
theorem dX3_isName_55 : decode cX3_isName 55 = .ok (.iconst 0, 1) := by decide +kernel
theorem dX3_isName_56 : decode cX3_isName 56 = .ok (.ireturn, 1) := by decide +kernel
theorem dX3_isName_57 : decode cX3_isName 57 = .ok (.iinc 2 1, 3) := by decide +kernel
theorem dX3_isName_60 : decode cX3_isName 60 = .ok (.goto (-32), 3) := by decide +kernel
theorem dX3_isName_63 : decode cX3_isName 63 = .ok (.iconst 1, 1) := by decide +kernel
theorem dX3_isName_64 : decode cX3_isName 64 = .ok (.ireturn, 1) := by decide +kernel
theorem dX3_kindName_0 : decode cX3_kindName 0 = .ok (.iload_n 0, 1) := by decide +kernel
theorem dX3_kindName_1 : decode cX3_kindName 1 = .ok (.tableswitch 57 1 6 #[39, 42, 45, 48, 51, 54], 39) := by decide +kernel
theorem dX3_kindName_40 : decode cX3_kindName 40 = .ok (.ldc 116, 2) := by decide +kernel
theorem dX3_kindName_42 : decode cX3_kindName 42 = .ok (.areturn, 1) := by decide +kernel
theorem dX3_kindName_43 : decode cX3_kindName 43 = .ok (.ldc 118, 2) := by decide +kernel
theorem dX3_kindName_45 : decode cX3_kindName 45 = .ok (.areturn, 1) := by decide +kernel
theorem dX3_kindName_46 : decode cX3_kindName 46 = .ok (.ldc 120, 2) := by decide +kernel
theorem dX3_kindName_48 : decode cX3_kindName 48 = .ok (.areturn, 1) := by decide +kernel
theorem dX3_kindName_49 : decode cX3_kindName 49 = .ok (.ldc 122, 2) := by decide +kernel
theorem dX3_kindName_51 : decode cX3_kindName 51 = .ok (.areturn, 1) := by decide +kernel
theorem dX3_kindName_52 : decode cX3_kindName 52 = .ok (.ldc 124, 2) := by decide +kernel
theorem dX3_kindName_54 : decode cX3_kindName 54 = .ok (.areturn, 1) := by decide +kernel
theorem dX3_kindName_55 : decode cX3_kindName 55 = .ok (.ldc 126, 2) := by decide +kernel
theorem dX3_kindName_57 : decode cX3_kindName 57 = .ok (.areturn, 1) := by decide +kernel
theorem dX3_kindName_58 : decode cX3_kindName 58 = .ok (.ldc 128, 2) := by decide +kernel
theorem dX3_kindName_60 : decode cX3_kindName 60 = .ok (.areturn, 1) := by decide +kernel
theorem dX3_step_0 : decode cX3_step 0 = .ok (.aload_n 0, 1) := by decide +kernel
theorem dX3_step_1 : decode cX3_step 1 = .ok (.aload_n 0, 1) := by decide +kernel
theorem dX3_step_2 : decode cX3_step 2 = .ok (.getfield 25, 3) := by decide +kernel
theorem dX3_step_5 : decode cX3_step 5 = .ok (.putfield 22, 3) := by decide +kernel
theorem dX3_step_8 : decode cX3_step 8 = .ok (.aload_n 0, 1) := by decide +kernel
theorem dX3_step_9 : decode cX3_step 9 = .ok (.getfield 22, 3) := by decide +kernel
theorem dX3_step_12 : decode cX3_step 12 = .ok (.aload_n 0, 1) := by decide +kernel
theorem dX3_step_13 : decode cX3_step 13 = .ok (.getfield 15, 3) := by decide +kernel
theorem dX3_step_16 : decode cX3_step 16 = .ok (.if_icmp .ge 30, 3) := by decide +kernel
theorem dX3_step_19 : decode cX3_step 19 = .ok (.aload_n 0, 1) := by decide +kernel
theorem dX3_step_20 : decode cX3_step 20 = .ok (.getfield 9, 3) := by decide +kernel
theorem dX3_step_23 : decode cX3_step 23 = .ok (.aload_n 0, 1) := by decide +kernel
theorem dX3_step_24 : decode cX3_step 24 = .ok (.getfield 22, 3) := by decide +kernel
theorem dX3_step_27 : decode cX3_step 27 = .ok (.baload, 1) := by decide +kernel
theorem dX3_step_28 : decode cX3_step 28 = .ok (.bipush 32, 2) := by decide +kernel
theorem dX3_step_30 : decode cX3_step 30 = .ok (.if_icmp .ne 16, 3) := by decide +kernel
theorem dX3_step_33 : decode cX3_step 33 = .ok (.aload_n 0, 1) := by decide +kernel
theorem dX3_step_34 : decode cX3_step 34 = .ok (.dup, 1) := by decide +kernel
theorem dX3_step_35 : decode cX3_step 35 = .ok (.getfield 22, 3) := by decide +kernel
theorem dX3_step_38 : decode cX3_step 38 = .ok (.iconst 1, 1) := by decide +kernel
theorem dX3_step_39 : decode cX3_step 39 = .ok (.iadd, 1) := by decide +kernel
theorem dX3_step_40 : decode cX3_step 40 = .ok (.putfield 22, 3) := by decide +kernel
theorem dX3_step_43 : decode cX3_step 43 = .ok (.goto (-35), 3) := by decide +kernel
theorem dX3_step_46 : decode cX3_step 46 = .ok (.aload_n 0, 1) := by decide +kernel
theorem dX3_step_47 : decode cX3_step 47 = .ok (.aload_n 0, 1) := by decide +kernel
theorem dX3_step_48 : decode cX3_step 48 = .ok (.getfield 22, 3) := by decide +kernel
theorem dX3_step_51 : decode cX3_step 51 = .ok (.putfield 25, 3) := by decide +kernel
theorem dX3_step_54 : decode cX3_step 54 = .ok (.aload_n 0, 1) := by decide +kernel
theorem dX3_step_55 : decode cX3_step 55 = .ok (.getfield 25, 3) := by decide +kernel
theorem dX3_step_58 : decode cX3_step 58 = .ok (.aload_n 0, 1) := by decide +kernel
theorem dX3_step_59 : decode cX3_step 59 = .ok (.getfield 15, 3) := by decide +kernel
theorem dX3_step_62 : decode cX3_step 62 = .ok (.if_icmp .ge 44, 3) := by decide +kernel
theorem dX3_step_65 : decode cX3_step 65 = .ok (.aload_n 0, 1) := by decide +kernel
theorem dX3_step_66 : decode cX3_step 66 = .ok (.getfield 9, 3) := by decide +kernel
theorem dX3_step_69 : decode cX3_step 69 = .ok (.aload_n 0, 1) := by decide +kernel
theorem dX3_step_70 : decode cX3_step 70 = .ok (.getfield 25, 3) := by decide +kernel
theorem dX3_step_73 : decode cX3_step 73 = .ok (.baload, 1) := by decide +kernel
theorem dX3_step_74 : decode cX3_step 74 = .ok (.bipush 97, 2) := by decide +kernel
theorem dX3_step_76 : decode cX3_step 76 = .ok (.if_icmp .lt 30, 3) := by decide +kernel
theorem dX3_step_79 : decode cX3_step 79 = .ok (.aload_n 0, 1) := by decide +kernel
theorem dX3_step_80 : decode cX3_step 80 = .ok (.getfield 9, 3) := by decide +kernel
theorem dX3_step_83 : decode cX3_step 83 = .ok (.aload_n 0, 1) := by decide +kernel
theorem dX3_step_84 : decode cX3_step 84 = .ok (.getfield 25, 3) := by decide +kernel
theorem dX3_step_87 : decode cX3_step 87 = .ok (.baload, 1) := by decide +kernel
theorem dX3_step_88 : decode cX3_step 88 = .ok (.bipush 122, 2) := by decide +kernel
theorem dX3_step_90 : decode cX3_step 90 = .ok (.if_icmp .gt 16, 3) := by decide +kernel
theorem dX3_step_93 : decode cX3_step 93 = .ok (.aload_n 0, 1) := by decide +kernel
theorem dX3_step_94 : decode cX3_step 94 = .ok (.dup, 1) := by decide +kernel
theorem dX3_step_95 : decode cX3_step 95 = .ok (.getfield 25, 3) := by decide +kernel
theorem dX3_step_98 : decode cX3_step 98 = .ok (.iconst 1, 1) := by decide +kernel
theorem dX3_step_99 : decode cX3_step 99 = .ok (.iadd, 1) := by decide +kernel
theorem dX3_step_100 : decode cX3_step 100 = .ok (.putfield 25, 3) := by decide +kernel
theorem dX3_step_103 : decode cX3_step 103 = .ok (.goto (-49), 3) := by decide +kernel
theorem dX3_step_106 : decode cX3_step 106 = .ok (.aload_n 0, 1) := by decide +kernel
theorem dX3_step_107 : decode cX3_step 107 = .ok (.getfield 25, 3) := by decide +kernel
theorem dX3_step_110 : decode cX3_step 110 = .ok (.aload_n 0, 1) := by decide +kernel
theorem dX3_step_111 : decode cX3_step 111 = .ok (.getfield 22, 3) := by decide +kernel
theorem dX3_step_114 : decode cX3_step 114 = .ok (.if_icmp .le 9, 3) := by decide +kernel
theorem dX3_step_117 : decode cX3_step 117 = .ok (.aload_n 0, 1) := by decide +kernel
theorem dX3_step_118 : decode cX3_step 118 = .ok (.iconst 1, 1) := by decide +kernel
theorem dX3_step_119 : decode cX3_step 119 = .ok (.putfield 19, 3) := by decide +kernel
theorem dX3_step_122 : decode cX3_step 122 = .ok (.return_, 1) := by decide +kernel
theorem dX3_step_123 : decode cX3_step 123 = .ok (.aload_n 0, 1) := by decide +kernel
theorem dX3_step_124 : decode cX3_step 124 = .ok (.iconst 0, 1) := by decide +kernel
theorem dX3_step_125 : decode cX3_step 125 = .ok (.putfield 28, 3) := by decide +kernel
theorem dX3_step_128 : decode cX3_step 128 = .ok (.aload_n 0, 1) := by decide +kernel
theorem dX3_step_129 : decode cX3_step 129 = .ok (.getfield 25, 3) := by decide +kernel
theorem dX3_step_132 : decode cX3_step 132 = .ok (.aload_n 0, 1) := by decide +kernel
theorem dX3_step_133 : decode cX3_step 133 = .ok (.getfield 15, 3) := by decide +kernel
theorem dX3_step_136 : decode cX3_step 136 = .ok (.if_icmp .ge 78, 3) := by decide +kernel
theorem dX3_step_139 : decode cX3_step 139 = .ok (.aload_n 0, 1) := by decide +kernel
theorem dX3_step_140 : decode cX3_step 140 = .ok (.getfield 9, 3) := by decide +kernel
theorem dX3_step_143 : decode cX3_step 143 = .ok (.aload_n 0, 1) := by decide +kernel
theorem dX3_step_144 : decode cX3_step 144 = .ok (.getfield 25, 3) := by decide +kernel
theorem dX3_step_147 : decode cX3_step 147 = .ok (.baload, 1) := by decide +kernel
theorem dX3_step_148 : decode cX3_step 148 = .ok (.bipush 48, 2) := by decide +kernel
theorem dX3_step_150 : decode cX3_step 150 = .ok (.if_icmp .lt 64, 3) := by decide +kernel
theorem dX3_step_153 : decode cX3_step 153 = .ok (.aload_n 0, 1) := by decide +kernel
theorem dX3_step_154 : decode cX3_step 154 = .ok (.getfield 9, 3) := by decide +kernel
theorem dX3_step_157 : decode cX3_step 157 = .ok (.aload_n 0, 1) := by decide +kernel
theorem dX3_step_158 : decode cX3_step 158 = .ok (.getfield 25, 3) := by decide +kernel
theorem dX3_step_161 : decode cX3_step 161 = .ok (.baload, 1) := by decide +kernel
theorem dX3_step_162 : decode cX3_step 162 = .ok (.bipush 57, 2) := by decide +kernel
theorem dX3_step_164 : decode cX3_step 164 = .ok (.if_icmp .gt 50, 3) := by decide +kernel
theorem dX3_step_167 : decode cX3_step 167 = .ok (.aload_n 0, 1) := by decide +kernel
theorem dX3_step_168 : decode cX3_step 168 = .ok (.getfield 28, 3) := by decide +kernel
theorem dX3_step_171 : decode cX3_step 171 = .ok (.sipush 1000, 3) := by decide +kernel
end
section
theorem dX3_step_174 : decode cX3_step 174 = .ok (.if_icmp .ge 27, 3) := by decide +kernel
theorem dX3_step_177 : decode cX3_step 177 = .ok (.aload_n 0, 1) := by decide +kernel
theorem dX3_step_178 : decode cX3_step 178 = .ok (.aload_n 0, 1) := by decide +kernel
theorem dX3_step_179 : decode cX3_step 179 = .ok (.getfield 28, 3) := by decide +kernel
theorem dX3_step_182 : decode cX3_step 182 = .ok (.bipush 10, 2) := by decide +kernel
theorem dX3_step_184 : decode cX3_step 184 = .ok (.imul, 1) := by decide +kernel
theorem dX3_step_185 : decode cX3_step 185 = .ok (.aload_n 0, 1) := by decide +kernel
theorem dX3_step_186 : decode cX3_step 186 = .ok (.getfield 9, 3) := by decide +kernel
theorem dX3_step_189 : decode cX3_step 189 = .ok (.aload_n 0, 1) := by decide +kernel
theorem dX3_step_190 : decode cX3_step 190 = .ok (.getfield 25, 3) := by decide +kernel
theorem dX3_step_193 : decode cX3_step 193 = .ok (.baload, 1) := by decide +kernel
theorem dX3_step_194 : decode cX3_step 194 = .ok (.iadd, 1) := by decide +kernel
theorem dX3_step_195 : decode cX3_step 195 = .ok (.bipush 48, 2) := by decide +kernel
theorem dX3_step_197 : decode cX3_step 197 = .ok (.isub, 1) := by decide +kernel
theorem dX3_step_198 : decode cX3_step 198 = .ok (.putfield 28, 3) := by decide +kernel
theorem dX3_step_201 : decode cX3_step 201 = .ok (.aload_n 0, 1) := by decide +kernel
theorem dX3_step_202 : decode cX3_step 202 = .ok (.dup, 1) := by decide +kernel
theorem dX3_step_203 : decode cX3_step 203 = .ok (.getfield 25, 3) := by decide +kernel
theorem dX3_step_206 : decode cX3_step 206 = .ok (.iconst 1, 1) := by decide +kernel
theorem dX3_step_207 : decode cX3_step 207 = .ok (.iadd, 1) := by decide +kernel
theorem dX3_step_208 : decode cX3_step 208 = .ok (.putfield 25, 3) := by decide +kernel
theorem dX3_step_211 : decode cX3_step 211 = .ok (.goto (-83), 3) := by decide +kernel
theorem dX3_step_214 : decode cX3_step 214 = .ok (.aload_n 0, 1) := by decide +kernel
theorem dX3_step_215 : decode cX3_step 215 = .ok (.getfield 25, 3) := by decide +kernel
theorem dX3_step_218 : decode cX3_step 218 = .ok (.aload_n 0, 1) := by decide +kernel
theorem dX3_step_219 : decode cX3_step 219 = .ok (.getfield 22, 3) := by decide +kernel
theorem dX3_step_222 : decode cX3_step 222 = .ok (.if_icmp .le 11, 3) := by decide +kernel
theorem dX3_step_225 : decode cX3_step 225 = .ok (.aload_n 0, 1) := by decide +kernel
theorem dX3_step_226 : decode cX3_step 226 = .ok (.iconst 2, 1) := by decide +kernel
theorem dX3_step_227 : decode cX3_step 227 = .ok (.putfield 19, 3) := by decide +kernel
theorem dX3_step_230 : decode cX3_step 230 = .ok (.goto 55, 3) := by decide +kernel
theorem dX3_step_233 : decode cX3_step 233 = .ok (.aload_n 0, 1) := by decide +kernel
theorem dX3_step_234 : decode cX3_step 234 = .ok (.getfield 22, 3) := by decide +kernel
theorem dX3_step_237 : decode cX3_step 237 = .ok (.aload_n 0, 1) := by decide +kernel
theorem dX3_step_238 : decode cX3_step 238 = .ok (.getfield 15, 3) := by decide +kernel
theorem dX3_step_241 : decode cX3_step 241 = .ok (.if_icmp .ne 11, 3) := by decide +kernel
theorem dX3_step_244 : decode cX3_step 244 = .ok (.aload_n 0, 1) := by decide +kernel
theorem dX3_step_245 : decode cX3_step 245 = .ok (.iconst 0, 1) := by decide +kernel
theorem dX3_step_246 : decode cX3_step 246 = .ok (.putfield 19, 3) := by decide +kernel
theorem dX3_step_249 : decode cX3_step 249 = .ok (.goto 36, 3) := by decide +kernel
theorem dX3_step_252 : decode cX3_step 252 = .ok (.aload_n 0, 1) := by decide +kernel
theorem dX3_step_253 : decode cX3_step 253 = .ok (.aload_n 0, 1) := by decide +kernel
theorem dX3_step_254 : decode cX3_step 254 = .ok (.getfield 9, 3) := by decide +kernel
theorem dX3_step_257 : decode cX3_step 257 = .ok (.aload_n 0, 1) := by decide +kernel
theorem dX3_step_258 : decode cX3_step 258 = .ok (.getfield 22, 3) := by decide +kernel
theorem dX3_step_261 : decode cX3_step 261 = .ok (.baload, 1) := by decide +kernel
theorem dX3_step_262 : decode cX3_step 262 = .ok (.bipush 59, 2) := by decide +kernel
theorem dX3_step_264 : decode cX3_step 264 = .ok (.if_icmp .ne 7, 3) := by decide +kernel
theorem dX3_step_267 : decode cX3_step 267 = .ok (.iconst 3, 1) := by decide +kernel
theorem dX3_step_268 : decode cX3_step 268 = .ok (.goto 4, 3) := by decide +kernel
theorem dX3_step_271 : decode cX3_step 271 = .ok (.iconst 4, 1) := by decide +kernel
theorem dX3_step_272 : decode cX3_step 272 = .ok (.putfield 19, 3) := by decide +kernel
theorem dX3_step_275 : decode cX3_step 275 = .ok (.aload_n 0, 1) := by decide +kernel
theorem dX3_step_276 : decode cX3_step 276 = .ok (.dup, 1) := by decide +kernel
theorem dX3_step_277 : decode cX3_step 277 = .ok (.getfield 25, 3) := by decide +kernel
theorem dX3_step_280 : decode cX3_step 280 = .ok (.iconst 1, 1) := by decide +kernel
theorem dX3_step_281 : decode cX3_step 281 = .ok (.iadd, 1) := by decide +kernel
theorem dX3_step_282 : decode cX3_step 282 = .ok (.putfield 25, 3) := by decide +kernel
theorem dX3_step_285 : decode cX3_step 285 = .ok (.return_, 1) := by decide +kernel
theorem dX4_init_0 : decode cX4_init 0 = .ok (.aload_n 0, 1) := by decide +kernel
theorem dX4_init_1 : decode cX4_init 1 = .ok (.invokespecial 3, 3) := by decide +kernel
theorem dX4_init_4 : decode cX4_init 4 = .ok (.aload_n 0, 1) := by decide +kernel
theorem dX4_init_5 : decode cX4_init 5 = .ok (.new 9, 3) := by decide +kernel
theorem dX4_init_8 : decode cX4_init 8 = .ok (.dup, 1) := by decide +kernel
theorem dX4_init_9 : decode cX4_init 9 = .ok (.invokespecial 11, 3) := by decide +kernel
theorem dX4_init_12 : decode cX4_init 12 = .ok (.putfield 12, 3) := by decide +kernel
theorem dX4_init_15 : decode cX4_init 15 = .ok (.aload_n 0, 1) := by decide +kernel
theorem dX4_init_16 : decode cX4_init 16 = .ok (.new 9, 3) := by decide +kernel
theorem dX4_init_19 : decode cX4_init 19 = .ok (.dup, 1) := by decide +kernel
theorem dX4_init_20 : decode cX4_init 20 = .ok (.invokespecial 11, 3) := by decide +kernel
theorem dX4_init_23 : decode cX4_init 23 = .ok (.putfield 16, 3) := by decide +kernel
theorem dX4_init_26 : decode cX4_init 26 = .ok (.aload_n 0, 1) := by decide +kernel
theorem dX4_init_27 : decode cX4_init 27 = .ok (.new 9, 3) := by decide +kernel
theorem dX4_init_30 : decode cX4_init 30 = .ok (.dup, 1) := by decide +kernel
theorem dX4_init_31 : decode cX4_init 31 = .ok (.invokespecial 11, 3) := by decide +kernel
theorem dX4_init_34 : decode cX4_init 34 = .ok (.putfield 19, 3) := by decide +kernel
theorem dX4_init_37 : decode cX4_init 37 = .ok (.aload_n 0, 1) := by decide +kernel
theorem dX4_init_38 : decode cX4_init 38 = .ok (.new 9, 3) := by decide +kernel
theorem dX4_init_41 : decode cX4_init 41 = .ok (.dup, 1) := by decide +kernel
theorem dX4_init_42 : decode cX4_init 42 = .ok (.invokespecial 11, 3) := by decide +kernel
theorem dX4_init_45 : decode cX4_init 45 = .ok (.putfield 22, 3) := by decide +kernel
theorem dX4_init_48 : decode cX4_init 48 = .ok (.aload_n 0, 1) := by decide +kernel
theorem dX4_init_49 : decode cX4_init 49 = .ok (.new 25, 3) := by decide +kernel
theorem dX4_init_52 : decode cX4_init 52 = .ok (.dup, 1) := by decide +kernel
theorem dX4_init_53 : decode cX4_init 53 = .ok (.invokespecial 27, 3) := by decide +kernel
theorem dX4_init_56 : decode cX4_init 56 = .ok (.putfield 28, 3) := by decide +kernel
theorem dX4_init_59 : decode cX4_init 59 = .ok (.aload_n 0, 1) := by decide +kernel
theorem dX4_init_60 : decode cX4_init 60 = .ok (.iconst 4, 1) := by decide +kernel
theorem dX4_init_61 : decode cX4_init 61 = .ok (.anewarray 32, 3) := by decide +kernel
theorem dX4_init_64 : decode cX4_init 64 = .ok (.putfield 34, 3) := by decide +kernel
theorem dX4_init_67 : decode cX4_init 67 = .ok (.aload_n 0, 1) := by decide +kernel
theorem dX4_init_68 : decode cX4_init 68 = .ok (.bipush 7, 2) := by decide +kernel
theorem dX4_init_70 : decode cX4_init 70 = .ok (.newarray .int, 2) := by decide +kernel
theorem dX4_init_72 : decode cX4_init 72 = .ok (.putfield 38, 3) := by decide +kernel
theorem dX4_init_75 : decode cX4_init 75 = .ok (.aload_n 0, 1) := by decide +kernel
theorem dX4_init_76 : decode cX4_init 76 = .ok (.iconst 0, 1) := by decide +kernel
theorem dX4_init_77 : decode cX4_init 77 = .ok (.putfield 42, 3) := by decide +kernel
theorem dX4_init_80 : decode cX4_init 80 = .ok (.iconst 0, 1) := by decide +kernel
theorem dX4_init_81 : decode cX4_init 81 = .ok (.istore_n 1, 1) := by decide +kernel
theorem dX4_init_82 : decode cX4_init 82 = .ok (.iload_n 1, 1) := by decide +kernel
theorem dX4_init_83 : decode cX4_init 83 = .ok (.iconst 4, 1) := by decide +kernel
theorem dX4_init_84 : decode cX4_init 84 = .ok (.if_icmp .ge 22, 3) := by decide +kernel
theorem dX4_init_87 : decode cX4_init 87 = .ok (.aload_n 0, 1) := by decide +kernel
theorem dX4_init_88 : decode cX4_init 88 = .ok (.getfield 34, 3) := by decide +kernel
theorem dX4_init_91 : decode cX4_init 91 = .ok (.iload_n 1, 1) := by decide +kernel
theorem dX4_init_92 : decode cX4_init 92 = .ok (.new 32, 3) := by decide +kernel
theorem dX4_init_95 : decode cX4_init 95 = .ok (.dup, 1) := by decide +kernel
theorem dX4_init_96 : decode cX4_init 96 = .ok (.invokespecial 46, 3) := by decide +kernel
theorem dX4_init_99 : decode cX4_init 99 = .ok (.aastore, 1) := by decide +kernel
theorem dX4_init_100 : decode cX4_init 100 = .ok (.iinc 1 1, 3) := by decide +kernel
theorem dX4_init_103 : decode cX4_init 103 = .ok (.goto (-21), 3) := by decide +kernel
theorem dX4_init_106 : decode cX4_init 106 = .ok (.return_, 1) := by decide +kernel
theorem dX4_word_0 : decode cX4_word 0 = .ok (.iload_n 1, 1) := by decide +kernel
theorem dX4_word_1 : decode cX4_word 1 = .ok (.invokestatic 47, 3) := by decide +kernel
theorem dX4_word_4 : decode cX4_word 4 = .ok (.ifCond .eq 17, 3) := by decide +kernel
theorem dX4_word_7 : decode cX4_word 7 = .ok (.iload_n 2, 1) := by decide +kernel
theorem dX4_word_8 : decode cX4_word 8 = .ok (.invokestatic 51, 3) := by decide +kernel
theorem dX4_word_11 : decode cX4_word 11 = .ok (.ifCond .eq 10, 3) := by decide +kernel
theorem dX4_word_14 : decode cX4_word 14 = .ok (.iload_n 3, 1) := by decide +kernel
theorem dX4_word_15 : decode cX4_word 15 = .ok (.invokestatic 54, 3) := by decide +kernel
theorem dX4_word_18 : decode cX4_word 18 = .ok (.ifCond .ne 10, 3) := by decide +kernel
theorem dX4_word_21 : decode cX4_word 21 = .ok (.aload_n 0, 1) := by decide +kernel
theorem dX4_word_22 : decode cX4_word 22 = .ok (.ldc 57, 2) := by decide +kernel
theorem dX4_word_24 : decode cX4_word 24 = .ok (.invokevirtual 58, 3) := by decide +kernel
theorem dX4_word_27 : decode cX4_word 27 = .ok (.ireturn, 1) := by decide +kernel
theorem dX4_word_28 : decode cX4_word 28 = .ok (.aload_n 0, 1) := by decide +kernel
theorem dX4_word_29 : decode cX4_word 29 = .ok (.getfield 12, 3) := by decide +kernel
theorem dX4_word_32 : decode cX4_word 32 = .ok (.iload_n 1, 1) := by decide +kernel
theorem dX4_word_33 : decode cX4_word 33 = .ok (.iload_n 2, 1) := by decide +kernel
theorem dX4_word_34 : decode cX4_word 34 = .ok (.invokevirtual 62, 3) := by decide +kernel
theorem dX4_word_37 : decode cX4_word 37 = .ok (.istore 4, 2) := by decide +kernel
theorem dX4_word_39 : decode cX4_word 39 = .ok (.aload_n 0, 1) := by decide +kernel
theorem dX4_word_40 : decode cX4_word 40 = .ok (.getfield 12, 3) := by decide +kernel
theorem dX4_word_43 : decode cX4_word 43 = .ok (.iload_n 1, 1) := by decide +kernel
theorem dX4_word_44 : decode cX4_word 44 = .ok (.iload_n 2, 1) := by decide +kernel
theorem dX4_word_45 : decode cX4_word 45 = .ok (.iload_n 3, 1) := by decide +kernel
theorem dX4_word_46 : decode cX4_word 46 = .ok (.invokevirtual 66, 3) := by decide +kernel
theorem dX4_word_49 : decode cX4_word 49 = .ok (.iload 4, 2) := by decide +kernel
theorem dX4_word_51 : decode cX4_word 51 = .ok (.ireturn, 1) := by decide +kernel
theorem dX4_reads_0 : decode cX4_reads 0 = .ok (.iload_n 1, 1) := by decide +kernel
theorem dX4_reads_1 : decode cX4_reads 1 = .ok (.invokestatic 47, 3) := by decide +kernel
theorem dX4_reads_4 : decode cX4_reads 4 = .ok (.ifCond .eq 10, 3) := by decide +kernel
theorem dX4_reads_7 : decode cX4_reads 7 = .ok (.iload_n 2, 1) := by decide +kernel
theorem dX4_reads_8 : decode cX4_reads 8 = .ok (.invokestatic 51, 3) := by decide +kernel
theorem dX4_reads_11 : decode cX4_reads 11 = .ok (.ifCond .ne 10, 3) := by decide +kernel
theorem dX4_reads_14 : decode cX4_reads 14 = .ok (.aload_n 0, 1) := by decide +kernel
theorem dX4_reads_15 : decode cX4_reads 15 = .ok (.ldc 57, 2) := by decide +kernel
theorem dX4_reads_17 : decode cX4_reads 17 = .ok (.invokevirtual 58, 3) := by decide +kernel
theorem dX4_reads_20 : decode cX4_reads 20 = .ok (.ireturn, 1) := by decide +kernel
theorem dX4_reads_21 : decode cX4_reads 21 = .ok (.aload_n 0, 1) := by decide +kernel
theorem dX4_reads_22 : decode cX4_reads 22 = .ok (.getfield 12, 3) := by decide +kernel
theorem dX4_reads_25 : decode cX4_reads 25 = .ok (.iload_n 1, 1) := by decide +kernel
theorem dX4_reads_26 : decode cX4_reads 26 = .ok (.iload_n 2, 1) := by decide +kernel
theorem dX4_reads_27 : decode cX4_reads 27 = .ok (.invokevirtual 62, 3) := by decide +kernel
theorem dX4_reads_30 : decode cX4_reads 30 = .ok (.ireturn, 1) := by decide +kernel
theorem dX4_page_0 : decode cX4_page 0 = .ok (.iload_n 1, 1) := by decide +kernel
theorem dX4_page_1 : decode cX4_page 1 = .ok (.invokestatic 47, 3) := by decide +kernel
theorem dX4_page_4 : decode cX4_page 4 = .ok (.ifCond .ne 10, 3) := by decide +kernel
theorem dX4_page_7 : decode cX4_page 7 = .ok (.aload_n 0, 1) := by decide +kernel
theorem dX4_page_8 : decode cX4_page 8 = .ok (.ldc 57, 2) := by decide +kernel
theorem dX4_page_10 : decode cX4_page 10 = .ok (.invokevirtual 58, 3) := by decide +kernel
theorem dX4_page_13 : decode cX4_page 13 = .ok (.ireturn, 1) := by decide +kernel
theorem dX4_page_14 : decode cX4_page 14 = .ok (.iload_n 2, 1) := by decide +kernel
theorem dX4_page_15 : decode cX4_page 15 = .ok (.tableswitch 65 0 3 #[29, 38, 47, 56], 29) := by decide +kernel
theorem dX4_page_44 : decode cX4_page 44 = .ok (.aload_n 0, 1) := by decide +kernel
theorem dX4_page_45 : decode cX4_page 45 = .ok (.getfield 12, 3) := by decide +kernel
theorem dX4_page_48 : decode cX4_page 48 = .ok (.iload_n 1, 1) := by decide +kernel
theorem dX4_page_49 : decode cX4_page 49 = .ok (.invokevirtual 70, 3) := by decide +kernel
theorem dX4_page_52 : decode cX4_page 52 = .ok (.ireturn, 1) := by decide +kernel
theorem dX4_page_53 : decode cX4_page 53 = .ok (.aload_n 0, 1) := by decide +kernel
theorem dX4_page_54 : decode cX4_page 54 = .ok (.getfield 12, 3) := by decide +kernel
theorem dX4_page_57 : decode cX4_page 57 = .ok (.iload_n 1, 1) := by decide +kernel
theorem dX4_page_58 : decode cX4_page 58 = .ok (.invokevirtual 73, 3) := by decide +kernel
theorem dX4_page_61 : decode cX4_page 61 = .ok (.ireturn, 1) := by decide +kernel
theorem dX4_page_62 : decode cX4_page 62 = .ok (.aload_n 0, 1) := by decide +kernel
theorem dX4_page_63 : decode cX4_page 63 = .ok (.getfield 12, 3) := by decide +kernel
theorem dX4_page_66 : decode cX4_page 66 = .ok (.iload_n 1, 1) := by decide +kernel
theorem dX4_page_67 : decode cX4_page 67 = .ok (.invokevirtual 76, 3) := by decide +kernel
theorem dX4_page_70 : decode cX4_page 70 = .ok (.ireturn, 1) := by decide +kernel
theorem dX4_page_71 : decode cX4_page 71 = .ok (.aload_n 0, 1) := by decide +kernel
theorem dX4_page_72 : decode cX4_page 72 = .ok (.getfield 12, 3) := by decide +kernel
theorem dX4_page_75 : decode cX4_page 75 = .ok (.iload_n 1, 1) := by decide +kernel
theorem dX4_page_76 : decode cX4_page 76 = .ok (.invokevirtual 79, 3) := by decide +kernel
theorem dX4_page_79 : decode cX4_page 79 = .ok (.ireturn, 1) := by decide +kernel
theorem dX4_page_80 : decode cX4_page 80 = .ok (.aload_n 0, 1) := by decide +kernel
theorem dX4_page_81 : decode cX4_page 81 = .ok (.ldc 57, 2) := by decide +kernel
theorem dX4_page_83 : decode cX4_page 83 = .ok (.invokevirtual 58, 3) := by decide +kernel
theorem dX4_page_86 : decode cX4_page 86 = .ok (.ireturn, 1) := by decide +kernel
theorem dX4_copied_0 : decode cX4_copied 0 = .ok (.iload_n 1, 1) := by decide +kernel
theorem dX4_copied_1 : decode cX4_copied 1 = .ok (.invokestatic 47, 3) := by decide +kernel
theorem dX4_copied_4 : decode cX4_copied 4 = .ok (.ifCond .eq 10, 3) := by decide +kernel
theorem dX4_copied_7 : decode cX4_copied 7 = .ok (.iload_n 2, 1) := by decide +kernel
theorem dX4_copied_8 : decode cX4_copied 8 = .ok (.invokestatic 47, 3) := by decide +kernel
theorem dX4_copied_11 : decode cX4_copied 11 = .ok (.ifCond .ne 10, 3) := by decide +kernel
theorem dX4_copied_14 : decode cX4_copied 14 = .ok (.aload_n 0, 1) := by decide +kernel
theorem dX4_copied_15 : decode cX4_copied 15 = .ok (.ldc 57, 2) := by decide +kernel
theorem dX4_copied_17 : decode cX4_copied 17 = .ok (.invokevirtual 58, 3) := by decide +kernel
theorem dX4_copied_20 : decode cX4_copied 20 = .ok (.ireturn, 1) := by decide +kernel
theorem dX4_copied_21 : decode cX4_copied 21 = .ok (.aload_n 0, 1) := by decide +kernel
theorem dX4_copied_22 : decode cX4_copied 22 = .ok (.getfield 12, 3) := by decide +kernel
theorem dX4_copied_25 : decode cX4_copied 25 = .ok (.iload_n 1, 1) := by decide +kernel
theorem dX4_copied_26 : decode cX4_copied 26 = .ok (.iload_n 2, 1) := by decide +kernel
theorem dX4_copied_27 : decode cX4_copied 27 = .ok (.invokevirtual 82, 3) := by decide +kernel
theorem dX4_copied_30 : decode cX4_copied 30 = .ok (.ireturn, 1) := by decide +kernel
theorem dX4_moth_0 : decode cX4_moth 0 = .ok (.iload_n 1, 1) := by decide +kernel
theorem dX4_moth_1 : decode cX4_moth 1 = .ok (.invokestatic 85, 3) := by decide +kernel
theorem dX4_moth_4 : decode cX4_moth 4 = .ok (.ifCond .eq 10, 3) := by decide +kernel
theorem dX4_moth_7 : decode cX4_moth 7 = .ok (.iload_n 2, 1) := by decide +kernel
theorem dX4_moth_8 : decode cX4_moth 8 = .ok (.invokestatic 47, 3) := by decide +kernel
theorem dX4_moth_11 : decode cX4_moth 11 = .ok (.ifCond .ne 10, 3) := by decide +kernel
theorem dX4_moth_14 : decode cX4_moth 14 = .ok (.aload_n 0, 1) := by decide +kernel
theorem dX4_moth_15 : decode cX4_moth 15 = .ok (.ldc 57, 2) := by decide +kernel
theorem dX4_moth_17 : decode cX4_moth 17 = .ok (.invokevirtual 58, 3) := by decide +kernel
theorem dX4_moth_20 : decode cX4_moth 20 = .ok (.ireturn, 1) := by decide +kernel
theorem dX4_moth_21 : decode cX4_moth 21 = .ok (.aload_n 0, 1) := by decide +kernel
theorem dX4_moth_22 : decode cX4_moth 22 = .ok (.getfield 12, 3) := by decide +kernel
theorem dX4_moth_25 : decode cX4_moth 25 = .ok (.invokevirtual 88, 3) := by decide +kernel
theorem dX4_moth_28 : decode cX4_moth 28 = .ok (.ifCond .eq 10, 3) := by decide +kernel
theorem dX4_moth_31 : decode cX4_moth 31 = .ok (.aload_n 0, 1) := by decide +kernel
theorem dX4_moth_32 : decode cX4_moth 32 = .ok (.ldc 92, 2) := by decide +kernel
theorem dX4_moth_34 : decode cX4_moth 34 = .ok (.invokevirtual 58, 3) := by decide +kernel
theorem dX4_moth_37 : decode cX4_moth 37 = .ok (.ireturn, 1) := by decide +kernel
theorem dX4_moth_38 : decode cX4_moth 38 = .ok (.aload_n 0, 1) := by decide +kernel
theorem dX4_moth_39 : decode cX4_moth 39 = .ok (.getfield 12, 3) := by decide +kernel
theorem dX4_moth_42 : decode cX4_moth 42 = .ok (.iload_n 1, 1) := by decide +kernel
theorem dX4_moth_43 : decode cX4_moth 43 = .ok (.iload_n 2, 1) := by decide +kernel
theorem dX4_moth_44 : decode cX4_moth 44 = .ok (.invokevirtual 93, 3) := by decide +kernel
theorem dX4_moth_47 : decode cX4_moth 47 = .ok (.ireturn, 1) := by decide +kernel
theorem dX4_of_0 : decode cX4_of 0 = .ok (.aload_n 0, 1) := by decide +kernel
theorem dX4_of_1 : decode cX4_of 1 = .ok (.iload_n 1, 1) := by decide +kernel
theorem dX4_of_2 : decode cX4_of 2 = .ok (.invokevirtual 96, 3) := by decide +kernel
theorem dX4_of_5 : decode cX4_of 5 = .ok (.ifCond .eq 12, 3) := by decide +kernel
theorem dX4_of_8 : decode cX4_of 8 = .ok (.iload_n 2, 1) := by decide +kernel
theorem dX4_of_9 : decode cX4_of 9 = .ok (.iconst 0, 1) := by decide +kernel
theorem dX4_of_10 : decode cX4_of 10 = .ok (.iconst 4, 1) := by decide +kernel
theorem dX4_of_11 : decode cX4_of 11 = .ok (.invokestatic 99, 3) := by decide +kernel
theorem dX4_of_14 : decode cX4_of 14 = .ok (.ifCond .ne 10, 3) := by decide +kernel
theorem dX4_of_17 : decode cX4_of 17 = .ok (.aload_n 0, 1) := by decide +kernel
theorem dX4_of_18 : decode cX4_of 18 = .ok (.ldc 57, 2) := by decide +kernel
theorem dX4_of_20 : decode cX4_of 20 = .ok (.invokevirtual 58, 3) := by decide +kernel
theorem dX4_of_23 : decode cX4_of 23 = .ok (.ireturn, 1) := by decide +kernel
theorem dX4_of_24 : decode cX4_of 24 = .ok (.iload_n 2, 1) := by decide +kernel
theorem dX4_of_25 : decode cX4_of 25 = .ok (.iconst 4, 1) := by decide +kernel
theorem dX4_of_26 : decode cX4_of 26 = .ok (.if_icmp .ne 14, 3) := by decide +kernel
theorem dX4_of_29 : decode cX4_of 29 = .ok (.aload_n 0, 1) := by decide +kernel
theorem dX4_of_30 : decode cX4_of 30 = .ok (.getfield 12, 3) := by decide +kernel
theorem dX4_of_33 : decode cX4_of 33 = .ok (.iload_n 1, 1) := by decide +kernel
theorem dX4_of_34 : decode cX4_of 34 = .ok (.invokevirtual 103, 3) := by decide +kernel
theorem dX4_of_37 : decode cX4_of 37 = .ok (.goto 12, 3) := by decide +kernel
theorem dX4_of_40 : decode cX4_of 40 = .ok (.aload_n 0, 1) := by decide +kernel
theorem dX4_of_41 : decode cX4_of 41 = .ok (.getfield 12, 3) := by decide +kernel
theorem dX4_of_44 : decode cX4_of 44 = .ok (.iload_n 1, 1) := by decide +kernel
theorem dX4_of_45 : decode cX4_of 45 = .ok (.iload_n 2, 1) := by decide +kernel
theorem dX4_of_46 : decode cX4_of 46 = .ok (.invokevirtual 106, 3) := by decide +kernel
theorem dX4_of_49 : decode cX4_of 49 = .ok (.ireturn, 1) := by decide +kernel
theorem dX4_change_0 : decode cX4_change 0 = .ok (.aload_n 0, 1) := by decide +kernel
theorem dX4_change_1 : decode cX4_change 1 = .ok (.iload_n 1, 1) := by decide +kernel
theorem dX4_change_2 : decode cX4_change 2 = .ok (.invokevirtual 96, 3) := by decide +kernel
theorem dX4_change_5 : decode cX4_change 5 = .ok (.ifCond .eq 29, 3) := by decide +kernel
theorem dX4_change_8 : decode cX4_change 8 = .ok (.iload_n 2, 1) := by decide +kernel
theorem dX4_change_9 : decode cX4_change 9 = .ok (.iconst 0, 1) := by decide +kernel
theorem dX4_change_10 : decode cX4_change 10 = .ok (.iconst 3, 1) := by decide +kernel
theorem dX4_change_11 : decode cX4_change 11 = .ok (.invokestatic 99, 3) := by decide +kernel
theorem dX4_change_14 : decode cX4_change 14 = .ok (.ifCond .eq 20, 3) := by decide +kernel
theorem dX4_change_17 : decode cX4_change 17 = .ok (.iload_n 3, 1) := by decide +kernel
theorem dX4_change_18 : decode cX4_change 18 = .ok (.getstatic 109, 3) := by decide +kernel
theorem dX4_change_21 : decode cX4_change 21 = .ok (.iload_n 2, 1) := by decide +kernel
theorem dX4_change_22 : decode cX4_change 22 = .ok (.iaload, 1) := by decide +kernel
theorem dX4_change_23 : decode cX4_change 23 = .ok (.getstatic 112, 3) := by decide +kernel
theorem dX4_change_26 : decode cX4_change 26 = .ok (.iload_n 2, 1) := by decide +kernel
theorem dX4_change_27 : decode cX4_change 27 = .ok (.iaload, 1) := by decide +kernel
theorem dX4_change_28 : decode cX4_change 28 = .ok (.invokestatic 99, 3) := by decide +kernel
theorem dX4_change_31 : decode cX4_change 31 = .ok (.ifCond .ne 10, 3) := by decide +kernel
theorem dX4_change_34 : decode cX4_change 34 = .ok (.aload_n 0, 1) := by decide +kernel
theorem dX4_change_35 : decode cX4_change 35 = .ok (.ldc 57, 2) := by decide +kernel
theorem dX4_change_37 : decode cX4_change 37 = .ok (.invokevirtual 58, 3) := by decide +kernel
theorem dX4_change_40 : decode cX4_change 40 = .ok (.ireturn, 1) := by decide +kernel
theorem dX4_change_41 : decode cX4_change 41 = .ok (.aload_n 0, 1) := by decide +kernel
theorem dX4_change_42 : decode cX4_change 42 = .ok (.getfield 12, 3) := by decide +kernel
theorem dX4_change_45 : decode cX4_change 45 = .ok (.iload_n 1, 1) := by decide +kernel
theorem dX4_change_46 : decode cX4_change 46 = .ok (.iload_n 2, 1) := by decide +kernel
theorem dX4_change_47 : decode cX4_change 47 = .ok (.invokevirtual 106, 3) := by decide +kernel
theorem dX4_change_50 : decode cX4_change 50 = .ok (.istore 4, 2) := by decide +kernel
theorem dX4_change_52 : decode cX4_change 52 = .ok (.aload_n 0, 1) := by decide +kernel
theorem dX4_change_53 : decode cX4_change 53 = .ok (.getfield 12, 3) := by decide +kernel
theorem dX4_change_56 : decode cX4_change 56 = .ok (.iload_n 1, 1) := by decide +kernel
theorem dX4_change_57 : decode cX4_change 57 = .ok (.iload_n 2, 1) := by decide +kernel
theorem dX4_change_58 : decode cX4_change 58 = .ok (.iload_n 3, 1) := by decide +kernel
theorem dX4_change_59 : decode cX4_change 59 = .ok (.invokevirtual 115, 3) := by decide +kernel
theorem dX4_change_62 : decode cX4_change 62 = .ok (.iload 4, 2) := by decide +kernel
theorem dX4_change_64 : decode cX4_change 64 = .ok (.ireturn, 1) := by decide +kernel
theorem dX4_leaves_0 : decode cX4_leaves 0 = .ok (.aload_n 0, 1) := by decide +kernel
theorem dX4_leaves_1 : decode cX4_leaves 1 = .ok (.iload_n 1, 1) := by decide +kernel
theorem dX4_leaves_2 : decode cX4_leaves 2 = .ok (.invokevirtual 96, 3) := by decide +kernel
theorem dX4_leaves_5 : decode cX4_leaves 5 = .ok (.ifCond .eq 22, 3) := by decide +kernel
theorem dX4_leaves_8 : decode cX4_leaves 8 = .ok (.iload_n 2, 1) := by decide +kernel
theorem dX4_leaves_9 : decode cX4_leaves 9 = .ok (.iconst 1, 1) := by decide +kernel
theorem dX4_leaves_10 : decode cX4_leaves 10 = .ok (.bipush 9, 2) := by decide +kernel
theorem dX4_leaves_12 : decode cX4_leaves 12 = .ok (.invokestatic 99, 3) := by decide +kernel
theorem dX4_leaves_15 : decode cX4_leaves 15 = .ok (.ifCond .eq 12, 3) := by decide +kernel
theorem dX4_leaves_18 : decode cX4_leaves 18 = .ok (.iload_n 3, 1) := by decide +kernel
theorem dX4_leaves_19 : decode cX4_leaves 19 = .ok (.iconst 0, 1) := by decide +kernel
theorem dX4_leaves_20 : decode cX4_leaves 20 = .ok (.iconst 1, 1) := by decide +kernel
theorem dX4_leaves_21 : decode cX4_leaves 21 = .ok (.invokestatic 99, 3) := by decide +kernel
theorem dX4_leaves_24 : decode cX4_leaves 24 = .ok (.ifCond .ne 10, 3) := by decide +kernel
theorem dX4_leaves_27 : decode cX4_leaves 27 = .ok (.aload_n 0, 1) := by decide +kernel
theorem dX4_leaves_28 : decode cX4_leaves 28 = .ok (.ldc 57, 2) := by decide +kernel
theorem dX4_leaves_30 : decode cX4_leaves 30 = .ok (.invokevirtual 58, 3) := by decide +kernel
theorem dX4_leaves_33 : decode cX4_leaves 33 = .ok (.ireturn, 1) := by decide +kernel
theorem dX4_leaves_34 : decode cX4_leaves 34 = .ok (.aload_n 0, 1) := by decide +kernel
theorem dX4_leaves_35 : decode cX4_leaves 35 = .ok (.getfield 12, 3) := by decide +kernel
theorem dX4_leaves_38 : decode cX4_leaves 38 = .ok (.iload_n 1, 1) := by decide +kernel
theorem dX4_leaves_39 : decode cX4_leaves 39 = .ok (.iconst 0, 1) := by decide +kernel
theorem dX4_leaves_40 : decode cX4_leaves 40 = .ok (.invokevirtual 106, 3) := by decide +kernel
theorem dX4_leaves_43 : decode cX4_leaves 43 = .ok (.istore 4, 2) := by decide +kernel
theorem dX4_leaves_45 : decode cX4_leaves 45 = .ok (.iload_n 3, 1) := by decide +kernel
theorem dX4_leaves_46 : decode cX4_leaves 46 = .ok (.ifCond .ne 12, 3) := by decide +kernel
theorem dX4_leaves_49 : decode cX4_leaves 49 = .ok (.iload 4, 2) := by decide +kernel
theorem dX4_leaves_51 : decode cX4_leaves 51 = .ok (.iload_n 2, 1) := by decide +kernel
theorem dX4_leaves_52 : decode cX4_leaves 52 = .ok (.invokestatic 118, 3) := by decide +kernel
theorem dX4_leaves_55 : decode cX4_leaves 55 = .ok (.goto 9, 3) := by decide +kernel
theorem dX4_leaves_58 : decode cX4_leaves 58 = .ok (.iload 4, 2) := by decide +kernel
theorem dX4_leaves_60 : decode cX4_leaves 60 = .ok (.iload_n 2, 1) := by decide +kernel
theorem dX4_leaves_61 : decode cX4_leaves 61 = .ok (.invokestatic 123, 3) := by decide +kernel
theorem dX4_leaves_64 : decode cX4_leaves 64 = .ok (.ireturn, 1) := by decide +kernel
theorem dX4_go_0 : decode cX4_go 0 = .ok (.iload_n 1, 1) := by decide +kernel
theorem dX4_go_1 : decode cX4_go 1 = .ok (.iconst 1, 1) := by decide +kernel
theorem dX4_go_2 : decode cX4_go 2 = .ok (.bipush 60, 2) := by decide +kernel
theorem dX4_go_4 : decode cX4_go 4 = .ok (.invokestatic 99, 3) := by decide +kernel
theorem dX4_go_7 : decode cX4_go 7 = .ok (.ifCond .ne 10, 3) := by decide +kernel
theorem dX4_go_10 : decode cX4_go 10 = .ok (.aload_n 0, 1) := by decide +kernel
theorem dX4_go_11 : decode cX4_go 11 = .ok (.ldc 57, 2) := by decide +kernel
theorem dX4_go_13 : decode cX4_go 13 = .ok (.invokevirtual 58, 3) := by decide +kernel
theorem dX4_go_16 : decode cX4_go 16 = .ok (.ireturn, 1) := by decide +kernel
theorem dX4_go_17 : decode cX4_go 17 = .ok (.aload_n 0, 1) := by decide +kernel
theorem dX4_go_18 : decode cX4_go 18 = .ok (.getfield 12, 3) := by decide +kernel
theorem dX4_go_21 : decode cX4_go 21 = .ok (.getfield 126, 3) := by decide +kernel
theorem dX4_go_24 : decode cX4_go 24 = .ok (.ldc 130, 2) := by decide +kernel
theorem dX4_go_26 : decode cX4_go 26 = .ok (.iload_n 1, 1) := by decide +kernel
theorem dX4_go_27 : decode cX4_go 27 = .ok (.isub, 1) := by decide +kernel
theorem dX4_go_28 : decode cX4_go 28 = .ok (.if_icmp .le 10, 3) := by decide +kernel
theorem dX4_go_31 : decode cX4_go 31 = .ok (.aload_n 0, 1) := by decide +kernel
theorem dX4_go_32 : decode cX4_go 32 = .ok (.ldc 131, 2) := by decide +kernel
theorem dX4_go_34 : decode cX4_go 34 = .ok (.invokevirtual 58, 3) := by decide +kernel
theorem dX4_go_37 : decode cX4_go 37 = .ok (.ireturn, 1) := by decide +kernel
theorem dX4_go_38 : decode cX4_go 38 = .ok (.aload_n 0, 1) := by decide +kernel
theorem dX4_go_39 : decode cX4_go 39 = .ok (.getfield 12, 3) := by decide +kernel
theorem dX4_go_42 : decode cX4_go 42 = .ok (.iload_n 1, 1) := by decide +kernel
theorem dX4_go_43 : decode cX4_go 43 = .ok (.iconst 0, 1) := by decide +kernel
theorem dX4_go_44 : decode cX4_go 44 = .ok (.invokevirtual 132, 3) := by decide +kernel
theorem dX4_go_47 : decode cX4_go 47 = .ok (.aload_n 0, 1) := by decide +kernel
theorem dX4_go_48 : decode cX4_go 48 = .ok (.getfield 12, 3) := by decide +kernel
theorem dX4_go_51 : decode cX4_go 51 = .ok (.invokevirtual 136, 3) := by decide +kernel
theorem dX4_go_54 : decode cX4_go 54 = .ok (.ireturn, 1) := by decide +kernel
theorem dX4_now_0 : decode cX4_now 0 = .ok (.iload_n 1, 1) := by decide +kernel
theorem dX4_now_1 : decode cX4_now 1 = .ok (.tableswitch 87 0 5 #[39, 47, 55, 63, 71, 79], 39) := by decide +kernel
theorem dX4_now_40 : decode cX4_now 40 = .ok (.aload_n 0, 1) := by decide +kernel
theorem dX4_now_41 : decode cX4_now 41 = .ok (.getfield 12, 3) := by decide +kernel
theorem dX4_now_44 : decode cX4_now 44 = .ok (.getfield 126, 3) := by decide +kernel
theorem dX4_now_47 : decode cX4_now 47 = .ok (.ireturn, 1) := by decide +kernel
theorem dX4_now_48 : decode cX4_now 48 = .ok (.aload_n 0, 1) := by decide +kernel
theorem dX4_now_49 : decode cX4_now 49 = .ok (.getfield 12, 3) := by decide +kernel
theorem dX4_now_52 : decode cX4_now 52 = .ok (.invokevirtual 136, 3) := by decide +kernel
theorem dX4_now_55 : decode cX4_now 55 = .ok (.ireturn, 1) := by decide +kernel
theorem dX4_now_56 : decode cX4_now 56 = .ok (.aload_n 0, 1) := by decide +kernel
theorem dX4_now_57 : decode cX4_now 57 = .ok (.getfield 12, 3) := by decide +kernel
theorem dX4_now_60 : decode cX4_now 60 = .ok (.invokevirtual 140, 3) := by decide +kernel
theorem dX4_now_63 : decode cX4_now 63 = .ok (.ireturn, 1) := by decide +kernel
theorem dX4_now_64 : decode cX4_now 64 = .ok (.aload_n 0, 1) := by decide +kernel
theorem dX4_now_65 : decode cX4_now 65 = .ok (.getfield 12, 3) := by decide +kernel
theorem dX4_now_68 : decode cX4_now 68 = .ok (.invokevirtual 143, 3) := by decide +kernel
theorem dX4_now_71 : decode cX4_now 71 = .ok (.ireturn, 1) := by decide +kernel
theorem dX4_now_72 : decode cX4_now 72 = .ok (.aload_n 0, 1) := by decide +kernel
theorem dX4_now_73 : decode cX4_now 73 = .ok (.getfield 12, 3) := by decide +kernel
theorem dX4_now_76 : decode cX4_now 76 = .ok (.invokevirtual 146, 3) := by decide +kernel
theorem dX4_now_79 : decode cX4_now 79 = .ok (.ireturn, 1) := by decide +kernel
theorem dX4_now_80 : decode cX4_now 80 = .ok (.aload_n 0, 1) := by decide +kernel
theorem dX4_now_81 : decode cX4_now 81 = .ok (.getfield 12, 3) := by decide +kernel
theorem dX4_now_84 : decode cX4_now 84 = .ok (.invokevirtual 149, 3) := by decide +kernel
theorem dX4_now_87 : decode cX4_now 87 = .ok (.ireturn, 1) := by decide +kernel
theorem dX4_now_88 : decode cX4_now 88 = .ok (.aload_n 0, 1) := by decide +kernel
theorem dX4_now_89 : decode cX4_now 89 = .ok (.ldc 57, 2) := by decide +kernel
theorem dX4_now_91 : decode cX4_now 91 = .ok (.invokevirtual 58, 3) := by decide +kernel
theorem dX4_now_94 : decode cX4_now 94 = .ok (.ireturn, 1) := by decide +kernel
theorem dX4_ahead_0 : decode cX4_ahead 0 = .ok (.iload_n 1, 1) := by decide +kernel
theorem dX4_ahead_1 : decode cX4_ahead 1 = .ok (.invokestatic 47, 3) := by decide +kernel
theorem dX4_ahead_4 : decode cX4_ahead 4 = .ok (.ifCond .eq 20, 3) := by decide +kernel
theorem dX4_ahead_7 : decode cX4_ahead 7 = .ok (.iload_n 2, 1) := by decide +kernel
theorem dX4_ahead_8 : decode cX4_ahead 8 = .ok (.invokestatic 51, 3) := by decide +kernel
theorem dX4_ahead_11 : decode cX4_ahead 11 = .ok (.ifCond .eq 13, 3) := by decide +kernel
theorem dX4_ahead_14 : decode cX4_ahead 14 = .ok (.iload_n 3, 1) := by decide +kernel
theorem dX4_ahead_15 : decode cX4_ahead 15 = .ok (.iconst 0, 1) := by decide +kernel
theorem dX4_ahead_16 : decode cX4_ahead 16 = .ok (.bipush 100, 2) := by decide +kernel
theorem dX4_ahead_18 : decode cX4_ahead 18 = .ok (.invokestatic 99, 3) := by decide +kernel
theorem dX4_ahead_21 : decode cX4_ahead 21 = .ok (.ifCond .ne 10, 3) := by decide +kernel
theorem dX4_ahead_24 : decode cX4_ahead 24 = .ok (.aload_n 0, 1) := by decide +kernel
theorem dX4_ahead_25 : decode cX4_ahead 25 = .ok (.ldc 57, 2) := by decide +kernel
theorem dX4_ahead_27 : decode cX4_ahead 27 = .ok (.invokevirtual 58, 3) := by decide +kernel
theorem dX4_ahead_30 : decode cX4_ahead 30 = .ok (.ireturn, 1) := by decide +kernel
theorem dX4_ahead_31 : decode cX4_ahead 31 = .ok (.aload_n 0, 1) := by decide +kernel
theorem dX4_ahead_32 : decode cX4_ahead 32 = .ok (.iload_n 3, 1) := by decide +kernel
theorem dX4_ahead_33 : decode cX4_ahead 33 = .ok (.invokevirtual 152, 3) := by decide +kernel
theorem dX4_ahead_36 : decode cX4_ahead 36 = .ok (.aload_n 0, 1) := by decide +kernel
theorem dX4_ahead_37 : decode cX4_ahead 37 = .ok (.getfield 19, 3) := by decide +kernel
theorem dX4_ahead_40 : decode cX4_ahead 40 = .ok (.iload_n 1, 1) := by decide +kernel
theorem dX4_ahead_41 : decode cX4_ahead 41 = .ok (.iload_n 2, 1) := by decide +kernel
theorem dX4_ahead_42 : decode cX4_ahead 42 = .ok (.invokevirtual 62, 3) := by decide +kernel
theorem dX4_ahead_45 : decode cX4_ahead 45 = .ok (.ireturn, 1) := by decide +kernel
theorem dX4_says_0 : decode cX4_says 0 = .ok (.iload_n 1, 1) := by decide +kernel
theorem dX4_says_1 : decode cX4_says 1 = .ok (.invokestatic 47, 3) := by decide +kernel
theorem dX4_says_4 : decode cX4_says 4 = .ok (.ifCond .eq 13, 3) := by decide +kernel
theorem dX4_says_7 : decode cX4_says 7 = .ok (.iload_n 2, 1) := by decide +kernel
theorem dX4_says_8 : decode cX4_says 8 = .ok (.iconst 0, 1) := by decide +kernel
theorem dX4_says_9 : decode cX4_says 9 = .ok (.bipush 100, 2) := by decide +kernel
theorem dX4_says_11 : decode cX4_says 11 = .ok (.invokestatic 99, 3) := by decide +kernel
theorem dX4_says_14 : decode cX4_says 14 = .ok (.ifCond .ne 10, 3) := by decide +kernel
theorem dX4_says_17 : decode cX4_says 17 = .ok (.aload_n 0, 1) := by decide +kernel
theorem dX4_says_18 : decode cX4_says 18 = .ok (.ldc 57, 2) := by decide +kernel
theorem dX4_says_20 : decode cX4_says 20 = .ok (.invokevirtual 58, 3) := by decide +kernel
theorem dX4_says_23 : decode cX4_says 23 = .ok (.ireturn, 1) := by decide +kernel
theorem dX4_says_24 : decode cX4_says 24 = .ok (.aload_n 0, 1) := by decide +kernel
theorem dX4_says_25 : decode cX4_says 25 = .ok (.iload_n 2, 1) := by decide +kernel
theorem dX4_says_26 : decode cX4_says 26 = .ok (.invokevirtual 152, 3) := by decide +kernel
theorem dX4_says_29 : decode cX4_says 29 = .ok (.aload_n 0, 1) := by decide +kernel
theorem dX4_says_30 : decode cX4_says 30 = .ok (.getfield 19, 3) := by decide +kernel
theorem dX4_says_33 : decode cX4_says 33 = .ok (.iload_n 1, 1) := by decide +kernel
theorem dX4_says_34 : decode cX4_says 34 = .ok (.invokevirtual 70, 3) := by decide +kernel
theorem dX4_says_37 : decode cX4_says 37 = .ok (.ireturn, 1) := by decide +kernel
theorem dX4_fed_0 : decode cX4_fed 0 = .ok (.aload_n 0, 1) := by decide +kernel
theorem dX4_fed_1 : decode cX4_fed 1 = .ok (.iload_n 1, 1) := by decide +kernel
theorem dX4_fed_2 : decode cX4_fed 2 = .ok (.invokevirtual 96, 3) := by decide +kernel
theorem dX4_fed_5 : decode cX4_fed 5 = .ok (.ifCond .eq 13, 3) := by decide +kernel
theorem dX4_fed_8 : decode cX4_fed 8 = .ok (.iload_n 2, 1) := by decide +kernel
theorem dX4_fed_9 : decode cX4_fed 9 = .ok (.iconst 0, 1) := by decide +kernel
theorem dX4_fed_10 : decode cX4_fed 10 = .ok (.bipush 100, 2) := by decide +kernel
theorem dX4_fed_12 : decode cX4_fed 12 = .ok (.invokestatic 99, 3) := by decide +kernel
theorem dX4_fed_15 : decode cX4_fed 15 = .ok (.ifCond .ne 10, 3) := by decide +kernel
theorem dX4_fed_18 : decode cX4_fed 18 = .ok (.aload_n 0, 1) := by decide +kernel
theorem dX4_fed_19 : decode cX4_fed 19 = .ok (.ldc 57, 2) := by decide +kernel
theorem dX4_fed_21 : decode cX4_fed 21 = .ok (.invokevirtual 58, 3) := by decide +kernel
theorem dX4_fed_24 : decode cX4_fed 24 = .ok (.ireturn, 1) := by decide +kernel
theorem dX4_fed_25 : decode cX4_fed 25 = .ok (.aload_n 0, 1) := by decide +kernel
theorem dX4_fed_26 : decode cX4_fed 26 = .ok (.iload_n 2, 1) := by decide +kernel
theorem dX4_fed_27 : decode cX4_fed 27 = .ok (.invokevirtual 152, 3) := by decide +kernel
theorem dX4_fed_30 : decode cX4_fed 30 = .ok (.aload_n 0, 1) := by decide +kernel
theorem dX4_fed_31 : decode cX4_fed 31 = .ok (.getfield 19, 3) := by decide +kernel
theorem dX4_fed_34 : decode cX4_fed 34 = .ok (.iload_n 1, 1) := by decide +kernel
theorem dX4_fed_35 : decode cX4_fed 35 = .ok (.iconst 3, 1) := by decide +kernel
theorem dX4_fed_36 : decode cX4_fed 36 = .ok (.invokevirtual 106, 3) := by decide +kernel
theorem dX4_fed_39 : decode cX4_fed 39 = .ok (.ireturn, 1) := by decide +kernel
theorem dX4_bare_0 : decode cX4_bare 0 = .ok (.iload_n 1, 1) := by decide +kernel
theorem dX4_bare_1 : decode cX4_bare 1 = .ok (.invokestatic 47, 3) := by decide +kernel
theorem dX4_bare_4 : decode cX4_bare 4 = .ok (.ifCond .ne 10, 3) := by decide +kernel
theorem dX4_bare_7 : decode cX4_bare 7 = .ok (.aload_n 0, 1) := by decide +kernel
theorem dX4_bare_8 : decode cX4_bare 8 = .ok (.ldc 57, 2) := by decide +kernel
theorem dX4_bare_10 : decode cX4_bare 10 = .ok (.invokevirtual 58, 3) := by decide +kernel
theorem dX4_bare_13 : decode cX4_bare 13 = .ok (.ireturn, 1) := by decide +kernel
theorem dX4_bare_14 : decode cX4_bare 14 = .ok (.aload_n 0, 1) := by decide +kernel
theorem dX4_bare_15 : decode cX4_bare 15 = .ok (.getfield 19, 3) := by decide +kernel
theorem dX4_bare_18 : decode cX4_bare 18 = .ok (.aload_n 0, 1) := by decide +kernel
theorem dX4_bare_19 : decode cX4_bare 19 = .ok (.getfield 12, 3) := by decide +kernel
theorem dX4_bare_22 : decode cX4_bare 22 = .ok (.invokevirtual 156, 3) := by decide +kernel
theorem dX4_bare_25 : decode cX4_bare 25 = .ok (.iconst 0, 1) := by decide +kernel
theorem dX4_bare_26 : decode cX4_bare 26 = .ok (.istore_n 2, 1) := by decide +kernel
theorem dX4_bare_27 : decode cX4_bare 27 = .ok (.iload_n 2, 1) := by decide +kernel
theorem dX4_bare_28 : decode cX4_bare 28 = .ok (.sipush 200, 3) := by decide +kernel
theorem dX4_bare_31 : decode cX4_bare 31 = .ok (.if_icmp .gt 31, 3) := by decide +kernel
theorem dX4_bare_34 : decode cX4_bare 34 = .ok (.aload_n 0, 1) := by decide +kernel
theorem dX4_bare_35 : decode cX4_bare 35 = .ok (.getfield 19, 3) := by decide +kernel
theorem dX4_bare_38 : decode cX4_bare 38 = .ok (.iload_n 1, 1) := by decide +kernel
theorem dX4_bare_39 : decode cX4_bare 39 = .ok (.invokevirtual 160, 3) := by decide +kernel
theorem dX4_bare_42 : decode cX4_bare 42 = .ok (.ifCond .eq 5, 3) := by decide +kernel
theorem dX4_bare_45 : decode cX4_bare 45 = .ok (.iload_n 2, 1) := by decide +kernel
theorem dX4_bare_46 : decode cX4_bare 46 = .ok (.ireturn, 1) := by decide +kernel
theorem dX4_bare_47 : decode cX4_bare 47 = .ok (.aload_n 0, 1) := by decide +kernel
theorem dX4_bare_48 : decode cX4_bare 48 = .ok (.getfield 19, 3) := by decide +kernel
theorem dX4_bare_51 : decode cX4_bare 51 = .ok (.iconst 1, 1) := by decide +kernel
theorem dX4_bare_52 : decode cX4_bare 52 = .ok (.iconst 0, 1) := by decide +kernel
theorem dX4_bare_53 : decode cX4_bare 53 = .ok (.invokevirtual 132, 3) := by decide +kernel
theorem dX4_bare_56 : decode cX4_bare 56 = .ok (.iinc 2 1, 3) := by decide +kernel
theorem dX4_bare_59 : decode cX4_bare 59 = .ok (.goto (-32), 3) := by decide +kernel
theorem dX4_bare_62 : decode cX4_bare 62 = .ok (.aload_n 0, 1) := by decide +kernel
theorem dX4_bare_63 : decode cX4_bare 63 = .ok (.ldc 163, 2) := by decide +kernel
theorem dX4_bare_65 : decode cX4_bare 65 = .ok (.invokevirtual 58, 3) := by decide +kernel
theorem dX4_bare_68 : decode cX4_bare 68 = .ok (.ireturn, 1) := by decide +kernel
theorem dX4_when_0 : decode cX4_when 0 = .ok (.iload_n 1, 1) := by decide +kernel
theorem dX4_when_1 : decode cX4_when 1 = .ok (.invokestatic 47, 3) := by decide +kernel
theorem dX4_when_4 : decode cX4_when 4 = .ok (.ifCond .eq 14, 3) := by decide +kernel
theorem dX4_when_7 : decode cX4_when 7 = .ok (.iload_n 2, 1) := by decide +kernel
theorem dX4_when_8 : decode cX4_when 8 = .ok (.iconst 0, 1) := by decide +kernel
theorem dX4_when_9 : decode cX4_when 9 = .ok (.sipush 324, 3) := by decide +kernel
theorem dX4_when_12 : decode cX4_when 12 = .ok (.invokestatic 99, 3) := by decide +kernel
theorem dX4_when_15 : decode cX4_when 15 = .ok (.ifCond .ne 10, 3) := by decide +kernel
theorem dX4_when_18 : decode cX4_when 18 = .ok (.aload_n 0, 1) := by decide +kernel
theorem dX4_when_19 : decode cX4_when 19 = .ok (.ldc 57, 2) := by decide +kernel
theorem dX4_when_21 : decode cX4_when 21 = .ok (.invokevirtual 58, 3) := by decide +kernel
theorem dX4_when_24 : decode cX4_when 24 = .ok (.ireturn, 1) := by decide +kernel
theorem dX4_when_25 : decode cX4_when 25 = .ok (.aload_n 0, 1) := by decide +kernel
theorem dX4_when_26 : decode cX4_when 26 = .ok (.getfield 19, 3) := by decide +kernel
theorem dX4_when_29 : decode cX4_when 29 = .ok (.aload_n 0, 1) := by decide +kernel
theorem dX4_when_30 : decode cX4_when 30 = .ok (.getfield 12, 3) := by decide +kernel
theorem dX4_when_33 : decode cX4_when 33 = .ok (.invokevirtual 156, 3) := by decide +kernel
theorem dX4_when_36 : decode cX4_when 36 = .ok (.iconst 0, 1) := by decide +kernel
theorem dX4_when_37 : decode cX4_when 37 = .ok (.istore_n 3, 1) := by decide +kernel
theorem dX4_when_38 : decode cX4_when 38 = .ok (.iload_n 3, 1) := by decide +kernel
theorem dX4_when_39 : decode cX4_when 39 = .ok (.sipush 200, 3) := by decide +kernel
theorem dX4_when_42 : decode cX4_when 42 = .ok (.if_icmp .gt 32, 3) := by decide +kernel
theorem dX4_when_45 : decode cX4_when 45 = .ok (.aload_n 0, 1) := by decide +kernel
theorem dX4_when_46 : decode cX4_when 46 = .ok (.getfield 19, 3) := by decide +kernel
theorem dX4_when_49 : decode cX4_when 49 = .ok (.iload_n 1, 1) := by decide +kernel
theorem dX4_when_50 : decode cX4_when 50 = .ok (.invokevirtual 70, 3) := by decide +kernel
theorem dX4_when_53 : decode cX4_when 53 = .ok (.iload_n 2, 1) := by decide +kernel
theorem dX4_when_54 : decode cX4_when 54 = .ok (.if_icmp .ne 5, 3) := by decide +kernel
theorem dX4_when_57 : decode cX4_when 57 = .ok (.iload_n 3, 1) := by decide +kernel
theorem dX4_when_58 : decode cX4_when 58 = .ok (.ireturn, 1) := by decide +kernel
theorem dX4_when_59 : decode cX4_when 59 = .ok (.aload_n 0, 1) := by decide +kernel
theorem dX4_when_60 : decode cX4_when 60 = .ok (.getfield 19, 3) := by decide +kernel
theorem dX4_when_63 : decode cX4_when 63 = .ok (.iconst 1, 1) := by decide +kernel
theorem dX4_when_64 : decode cX4_when 64 = .ok (.iconst 0, 1) := by decide +kernel
theorem dX4_when_65 : decode cX4_when 65 = .ok (.invokevirtual 132, 3) := by decide +kernel
theorem dX4_when_68 : decode cX4_when 68 = .ok (.iinc 3 1, 3) := by decide +kernel
theorem dX4_when_71 : decode cX4_when 71 = .ok (.goto (-33), 3) := by decide +kernel
theorem dX4_when_74 : decode cX4_when 74 = .ok (.aload_n 0, 1) := by decide +kernel
theorem dX4_when_75 : decode cX4_when 75 = .ok (.ldc 163, 2) := by decide +kernel
theorem dX4_when_77 : decode cX4_when 77 = .ok (.invokevirtual 58, 3) := by decide +kernel
theorem dX4_when_80 : decode cX4_when 80 = .ok (.ireturn, 1) := by decide +kernel
theorem dX4_settles_0 : decode cX4_settles 0 = .ok (.aload_n 0, 1) := by decide +kernel
theorem dX4_settles_1 : decode cX4_settles 1 = .ok (.getfield 19, 3) := by decide +kernel
theorem dX4_settles_4 : decode cX4_settles 4 = .ok (.aload_n 0, 1) := by decide +kernel
theorem dX4_settles_5 : decode cX4_settles 5 = .ok (.getfield 12, 3) := by decide +kernel
theorem dX4_settles_8 : decode cX4_settles 8 = .ok (.invokevirtual 156, 3) := by decide +kernel
theorem dX4_settles_11 : decode cX4_settles 11 = .ok (.iconst 0, 1) := by decide +kernel
theorem dX4_settles_12 : decode cX4_settles 12 = .ok (.istore_n 1, 1) := by decide +kernel
theorem dX4_settles_13 : decode cX4_settles 13 = .ok (.iload_n 1, 1) := by decide +kernel
theorem dX4_settles_14 : decode cX4_settles 14 = .ok (.sipush 200, 3) := by decide +kernel
theorem dX4_settles_17 : decode cX4_settles 17 = .ok (.if_icmp .gt 45, 3) := by decide +kernel
theorem dX4_settles_20 : decode cX4_settles 20 = .ok (.aload_n 0, 1) := by decide +kernel
theorem dX4_settles_21 : decode cX4_settles 21 = .ok (.getfield 22, 3) := by decide +kernel
theorem dX4_settles_24 : decode cX4_settles 24 = .ok (.aload_n 0, 1) := by decide +kernel
theorem dX4_settles_25 : decode cX4_settles 25 = .ok (.getfield 19, 3) := by decide +kernel
theorem dX4_settles_28 : decode cX4_settles 28 = .ok (.invokevirtual 156, 3) := by decide +kernel
theorem dX4_settles_31 : decode cX4_settles 31 = .ok (.aload_n 0, 1) := by decide +kernel
theorem dX4_settles_32 : decode cX4_settles 32 = .ok (.getfield 19, 3) := by decide +kernel
theorem dX4_settles_35 : decode cX4_settles 35 = .ok (.iconst 1, 1) := by decide +kernel
theorem dX4_settles_36 : decode cX4_settles 36 = .ok (.iconst 0, 1) := by decide +kernel
theorem dX4_settles_37 : decode cX4_settles 37 = .ok (.invokevirtual 132, 3) := by decide +kernel
theorem dX4_settles_40 : decode cX4_settles 40 = .ok (.aload_n 0, 1) := by decide +kernel
theorem dX4_settles_41 : decode cX4_settles 41 = .ok (.getfield 19, 3) := by decide +kernel
theorem dX4_settles_44 : decode cX4_settles 44 = .ok (.aload_n 0, 1) := by decide +kernel
theorem dX4_settles_45 : decode cX4_settles 45 = .ok (.getfield 22, 3) := by decide +kernel
theorem dX4_settles_48 : decode cX4_settles 48 = .ok (.invokevirtual 164, 3) := by decide +kernel
theorem dX4_settles_51 : decode cX4_settles 51 = .ok (.ifCond .eq 5, 3) := by decide +kernel
theorem dX4_settles_54 : decode cX4_settles 54 = .ok (.iload_n 1, 1) := by decide +kernel
theorem dX4_settles_55 : decode cX4_settles 55 = .ok (.ireturn, 1) := by decide +kernel
theorem dX4_settles_56 : decode cX4_settles 56 = .ok (.iinc 1 1, 3) := by decide +kernel
theorem dX4_settles_59 : decode cX4_settles 59 = .ok (.goto (-46), 3) := by decide +kernel
theorem dX4_settles_62 : decode cX4_settles 62 = .ok (.aload_n 0, 1) := by decide +kernel
theorem dX4_settles_63 : decode cX4_settles 63 = .ok (.ldc 163, 2) := by decide +kernel
theorem dX4_settles_65 : decode cX4_settles 65 = .ok (.invokevirtual 58, 3) := by decide +kernel
theorem dX4_settles_68 : decode cX4_settles 68 = .ok (.ireturn, 1) := by decide +kernel
theorem dX4_alike_0 : decode cX4_alike 0 = .ok (.iload_n 1, 1) := by decide +kernel
theorem dX4_alike_1 : decode cX4_alike 1 = .ok (.invokestatic 47, 3) := by decide +kernel
theorem dX4_alike_4 : decode cX4_alike 4 = .ok (.ifCond .eq 15, 3) := by decide +kernel
theorem dX4_alike_7 : decode cX4_alike 7 = .ok (.iload_n 2, 1) := by decide +kernel
theorem dX4_alike_8 : decode cX4_alike 8 = .ok (.invokestatic 47, 3) := by decide +kernel
theorem dX4_alike_11 : decode cX4_alike 11 = .ok (.ifCond .eq 8, 3) := by decide +kernel
theorem dX4_alike_14 : decode cX4_alike 14 = .ok (.iload_n 1, 1) := by decide +kernel
theorem dX4_alike_15 : decode cX4_alike 15 = .ok (.iload_n 2, 1) := by decide +kernel
theorem dX4_alike_16 : decode cX4_alike 16 = .ok (.if_icmp .ne 10, 3) := by decide +kernel
theorem dX4_alike_19 : decode cX4_alike 19 = .ok (.aload_n 0, 1) := by decide +kernel
theorem dX4_alike_20 : decode cX4_alike 20 = .ok (.ldc 57, 2) := by decide +kernel
theorem dX4_alike_22 : decode cX4_alike 22 = .ok (.invokevirtual 58, 3) := by decide +kernel
theorem dX4_alike_25 : decode cX4_alike 25 = .ok (.ireturn, 1) := by decide +kernel
theorem dX4_alike_26 : decode cX4_alike 26 = .ok (.aload_n 0, 1) := by decide +kernel
theorem dX4_alike_27 : decode cX4_alike 27 = .ok (.getfield 19, 3) := by decide +kernel
theorem dX4_alike_30 : decode cX4_alike 30 = .ok (.aload_n 0, 1) := by decide +kernel
theorem dX4_alike_31 : decode cX4_alike 31 = .ok (.getfield 12, 3) := by decide +kernel
theorem dX4_alike_34 : decode cX4_alike 34 = .ok (.invokevirtual 156, 3) := by decide +kernel
theorem dX4_alike_37 : decode cX4_alike 37 = .ok (.iconst 0, 1) := by decide +kernel
theorem dX4_alike_38 : decode cX4_alike 38 = .ok (.istore_n 3, 1) := by decide +kernel
theorem dX4_alike_39 : decode cX4_alike 39 = .ok (.iload_n 3, 1) := by decide +kernel
theorem dX4_alike_40 : decode cX4_alike 40 = .ok (.sipush 200, 3) := by decide +kernel
theorem dX4_alike_43 : decode cX4_alike 43 = .ok (.if_icmp .gt 32, 3) := by decide +kernel
theorem dX4_alike_46 : decode cX4_alike 46 = .ok (.aload_n 0, 1) := by decide +kernel
theorem dX4_alike_47 : decode cX4_alike 47 = .ok (.getfield 19, 3) := by decide +kernel
theorem dX4_alike_50 : decode cX4_alike 50 = .ok (.iload_n 1, 1) := by decide +kernel
theorem dX4_alike_51 : decode cX4_alike 51 = .ok (.iload_n 2, 1) := by decide +kernel
theorem dX4_alike_52 : decode cX4_alike 52 = .ok (.invokevirtual 168, 3) := by decide +kernel
theorem dX4_alike_55 : decode cX4_alike 55 = .ok (.ifCond .ne 5, 3) := by decide +kernel
theorem dX4_alike_58 : decode cX4_alike 58 = .ok (.iload_n 3, 1) := by decide +kernel
theorem dX4_alike_59 : decode cX4_alike 59 = .ok (.ireturn, 1) := by decide +kernel
theorem dX4_alike_60 : decode cX4_alike 60 = .ok (.aload_n 0, 1) := by decide +kernel
theorem dX4_alike_61 : decode cX4_alike 61 = .ok (.getfield 19, 3) := by decide +kernel
theorem dX4_alike_64 : decode cX4_alike 64 = .ok (.iconst 1, 1) := by decide +kernel
theorem dX4_alike_65 : decode cX4_alike 65 = .ok (.iconst 0, 1) := by decide +kernel
theorem dX4_alike_66 : decode cX4_alike 66 = .ok (.invokevirtual 132, 3) := by decide +kernel
theorem dX4_alike_69 : decode cX4_alike 69 = .ok (.iinc 3 1, 3) := by decide +kernel
theorem dX4_alike_72 : decode cX4_alike 72 = .ok (.goto (-33), 3) := by decide +kernel
theorem dX4_alike_75 : decode cX4_alike 75 = .ok (.aload_n 0, 1) := by decide +kernel
theorem dX4_alike_76 : decode cX4_alike 76 = .ok (.ldc 163, 2) := by decide +kernel
theorem dX4_alike_78 : decode cX4_alike 78 = .ok (.invokevirtual 58, 3) := by decide +kernel
theorem dX4_alike_81 : decode cX4_alike 81 = .ok (.ireturn, 1) := by decide +kernel
theorem dX4_put_0 : decode cX4_put 0 = .ok (.aload_n 0, 1) := by decide +kernel
theorem dX4_put_1 : decode cX4_put 1 = .ok (.iload_n 1, 1) := by decide +kernel
theorem dX4_put_2 : decode cX4_put 2 = .ok (.iconst 1, 1) := by decide +kernel
theorem dX4_put_3 : decode cX4_put 3 = .ok (.iload_n 2, 1) := by decide +kernel
theorem dX4_put_4 : decode cX4_put 4 = .ok (.iload_n 3, 1) := by decide +kernel
theorem dX4_put_5 : decode cX4_put 5 = .ok (.invokevirtual 171, 3) := by decide +kernel
theorem dX4_put_8 : decode cX4_put 8 = .ok (.ireturn, 1) := by decide +kernel
theorem dX4_tasteFor_0 : decode cX4_tasteFor 0 = .ok (.aload_n 0, 1) := by decide +kernel
theorem dX4_tasteFor_1 : decode cX4_tasteFor 1 = .ok (.iload_n 1, 1) := by decide +kernel
theorem dX4_tasteFor_2 : decode cX4_tasteFor 2 = .ok (.iconst 2, 1) := by decide +kernel
theorem dX4_tasteFor_3 : decode cX4_tasteFor 3 = .ok (.iload_n 2, 1) := by decide +kernel
theorem dX4_tasteFor_4 : decode cX4_tasteFor 4 = .ok (.iload_n 3, 1) := by decide +kernel
theorem dX4_tasteFor_5 : decode cX4_tasteFor 5 = .ok (.invokevirtual 171, 3) := by decide +kernel
theorem dX4_tasteFor_8 : decode cX4_tasteFor 8 = .ok (.ireturn, 1) := by decide +kernel
theorem dX4_kindFor_0 : decode cX4_kindFor 0 = .ok (.aload_n 0, 1) := by decide +kernel
theorem dX4_kindFor_1 : decode cX4_kindFor 1 = .ok (.iload_n 1, 1) := by decide +kernel
theorem dX4_kindFor_2 : decode cX4_kindFor 2 = .ok (.iconst 0, 1) := by decide +kernel
theorem dX4_kindFor_3 : decode cX4_kindFor 3 = .ok (.iload_n 2, 1) := by decide +kernel
theorem dX4_kindFor_4 : decode cX4_kindFor 4 = .ok (.iload_n 3, 1) := by decide +kernel
theorem dX4_kindFor_5 : decode cX4_kindFor 5 = .ok (.invokevirtual 171, 3) := by decide +kernel
theorem dX4_kindFor_8 : decode cX4_kindFor 8 = .ok (.ireturn, 1) := by decide +kernel
theorem dX4_swapFor_0 : decode cX4_swapFor 0 = .ok (.iload_n 1, 1) := by decide +kernel
theorem dX4_swapFor_1 : decode cX4_swapFor 1 = .ok (.invokestatic 47, 3) := by decide +kernel
theorem dX4_swapFor_4 : decode cX4_swapFor 4 = .ok (.ifCond .eq 13, 3) := by decide +kernel
theorem dX4_swapFor_7 : decode cX4_swapFor 7 = .ok (.iload_n 2, 1) := by decide +kernel
theorem dX4_swapFor_8 : decode cX4_swapFor 8 = .ok (.iconst 0, 1) := by decide +kernel
theorem dX4_swapFor_9 : decode cX4_swapFor 9 = .ok (.bipush 40, 2) := by decide +kernel
theorem dX4_swapFor_11 : decode cX4_swapFor 11 = .ok (.invokestatic 99, 3) := by decide +kernel
theorem dX4_swapFor_14 : decode cX4_swapFor 14 = .ok (.ifCond .ne 10, 3) := by decide +kernel
theorem dX4_swapFor_17 : decode cX4_swapFor 17 = .ok (.aload_n 0, 1) := by decide +kernel
theorem dX4_swapFor_18 : decode cX4_swapFor 18 = .ok (.ldc 57, 2) := by decide +kernel
theorem dX4_swapFor_20 : decode cX4_swapFor 20 = .ok (.invokevirtual 58, 3) := by decide +kernel
theorem dX4_swapFor_23 : decode cX4_swapFor 23 = .ok (.ireturn, 1) := by decide +kernel
theorem dX4_swapFor_24 : decode cX4_swapFor 24 = .ok (.aload_n 0, 1) := by decide +kernel
theorem dX4_swapFor_25 : decode cX4_swapFor 25 = .ok (.getfield 12, 3) := by decide +kernel
theorem dX4_swapFor_28 : decode cX4_swapFor 28 = .ok (.getfield 175, 3) := by decide +kernel
theorem dX4_swapFor_31 : decode cX4_swapFor 31 = .ok (.iconst 2, 1) := by decide +kernel
theorem dX4_swapFor_32 : decode cX4_swapFor 32 = .ok (.if_icmp .ge 10, 3) := by decide +kernel
theorem dX4_swapFor_35 : decode cX4_swapFor 35 = .ok (.aload_n 0, 1) := by decide +kernel
theorem dX4_swapFor_36 : decode cX4_swapFor 36 = .ok (.ldc 163, 2) := by decide +kernel
theorem dX4_swapFor_38 : decode cX4_swapFor 38 = .ok (.invokevirtual 58, 3) := by decide +kernel
theorem dX4_swapFor_41 : decode cX4_swapFor 41 = .ok (.ireturn, 1) := by decide +kernel
theorem dX4_swapFor_42 : decode cX4_swapFor 42 = .ok (.iconst 0, 1) := by decide +kernel
theorem dX4_swapFor_43 : decode cX4_swapFor 43 = .ok (.istore_n 3, 1) := by decide +kernel
theorem dX4_swapFor_44 : decode cX4_swapFor 44 = .ok (.iconst (-1), 1) := by decide +kernel
theorem dX4_swapFor_45 : decode cX4_swapFor 45 = .ok (.istore 4, 2) := by decide +kernel
theorem dX4_swapFor_47 : decode cX4_swapFor 47 = .ok (.iconst 0, 1) := by decide +kernel
theorem dX4_swapFor_48 : decode cX4_swapFor 48 = .ok (.istore 5, 2) := by decide +kernel
theorem dX4_swapFor_50 : decode cX4_swapFor 50 = .ok (.iload 5, 2) := by decide +kernel
theorem dX4_swapFor_52 : decode cX4_swapFor 52 = .ok (.aload_n 0, 1) := by decide +kernel
theorem dX4_swapFor_53 : decode cX4_swapFor 53 = .ok (.getfield 12, 3) := by decide +kernel
theorem dX4_swapFor_56 : decode cX4_swapFor 56 = .ok (.getfield 175, 3) := by decide +kernel
theorem dX4_swapFor_59 : decode cX4_swapFor 59 = .ok (.if_icmp .ge 94, 3) := by decide +kernel
theorem dX4_swapFor_62 : decode cX4_swapFor 62 = .ok (.iload 5, 2) := by decide +kernel
theorem dX4_swapFor_64 : decode cX4_swapFor 64 = .ok (.iconst 1, 1) := by decide +kernel
theorem dX4_swapFor_65 : decode cX4_swapFor 65 = .ok (.iadd, 1) := by decide +kernel
theorem dX4_swapFor_66 : decode cX4_swapFor 66 = .ok (.istore 6, 2) := by decide +kernel
theorem dX4_swapFor_68 : decode cX4_swapFor 68 = .ok (.iload 6, 2) := by decide +kernel
theorem dX4_swapFor_70 : decode cX4_swapFor 70 = .ok (.aload_n 0, 1) := by decide +kernel
theorem dX4_swapFor_71 : decode cX4_swapFor 71 = .ok (.getfield 12, 3) := by decide +kernel
theorem dX4_swapFor_74 : decode cX4_swapFor 74 = .ok (.getfield 175, 3) := by decide +kernel
theorem dX4_swapFor_77 : decode cX4_swapFor 77 = .ok (.if_icmp .ge 70, 3) := by decide +kernel
theorem dX4_swapFor_80 : decode cX4_swapFor 80 = .ok (.aload_n 0, 1) := by decide +kernel
theorem dX4_swapFor_81 : decode cX4_swapFor 81 = .ok (.getfield 19, 3) := by decide +kernel
theorem dX4_swapFor_84 : decode cX4_swapFor 84 = .ok (.aload_n 0, 1) := by decide +kernel
theorem dX4_swapFor_85 : decode cX4_swapFor 85 = .ok (.getfield 12, 3) := by decide +kernel
theorem dX4_swapFor_88 : decode cX4_swapFor 88 = .ok (.invokevirtual 156, 3) := by decide +kernel
theorem dX4_swapFor_91 : decode cX4_swapFor 91 = .ok (.aload_n 0, 1) := by decide +kernel
theorem dX4_swapFor_92 : decode cX4_swapFor 92 = .ok (.getfield 19, 3) := by decide +kernel
theorem dX4_swapFor_95 : decode cX4_swapFor 95 = .ok (.iload 5, 2) := by decide +kernel
theorem dX4_swapFor_97 : decode cX4_swapFor 97 = .ok (.iload 6, 2) := by decide +kernel
theorem dX4_swapFor_99 : decode cX4_swapFor 99 = .ok (.invokevirtual 178, 3) := by decide +kernel
theorem dX4_swapFor_102 : decode cX4_swapFor 102 = .ok (.aload_n 0, 1) := by decide +kernel
theorem dX4_swapFor_103 : decode cX4_swapFor 103 = .ok (.getfield 19, 3) := by decide +kernel
theorem dX4_swapFor_106 : decode cX4_swapFor 106 = .ok (.iload_n 2, 1) := by decide +kernel
theorem dX4_swapFor_107 : decode cX4_swapFor 107 = .ok (.iconst 0, 1) := by decide +kernel
theorem dX4_swapFor_108 : decode cX4_swapFor 108 = .ok (.invokevirtual 132, 3) := by decide +kernel
theorem dX4_swapFor_111 : decode cX4_swapFor 111 = .ok (.aload_n 0, 1) := by decide +kernel
theorem dX4_swapFor_112 : decode cX4_swapFor 112 = .ok (.getfield 19, 3) := by decide +kernel
theorem dX4_swapFor_115 : decode cX4_swapFor 115 = .ok (.iload_n 1, 1) := by decide +kernel
theorem dX4_swapFor_116 : decode cX4_swapFor 116 = .ok (.invokevirtual 70, 3) := by decide +kernel
theorem dX4_swapFor_119 : decode cX4_swapFor 119 = .ok (.istore 7, 2) := by decide +kernel
theorem dX4_swapFor_121 : decode cX4_swapFor 121 = .ok (.iload 7, 2) := by decide +kernel
theorem dX4_swapFor_123 : decode cX4_swapFor 123 = .ok (.iload 4, 2) := by decide +kernel
theorem dX4_swapFor_125 : decode cX4_swapFor 125 = .ok (.if_icmp .le 16, 3) := by decide +kernel
theorem dX4_swapFor_128 : decode cX4_swapFor 128 = .ok (.iload 7, 2) := by decide +kernel
theorem dX4_swapFor_130 : decode cX4_swapFor 130 = .ok (.istore 4, 2) := by decide +kernel
theorem dX4_swapFor_132 : decode cX4_swapFor 132 = .ok (.bipush 8, 2) := by decide +kernel
theorem dX4_swapFor_134 : decode cX4_swapFor 134 = .ok (.iload 5, 2) := by decide +kernel
theorem dX4_swapFor_136 : decode cX4_swapFor 136 = .ok (.imul, 1) := by decide +kernel
theorem dX4_swapFor_137 : decode cX4_swapFor 137 = .ok (.iload 6, 2) := by decide +kernel
theorem dX4_swapFor_139 : decode cX4_swapFor 139 = .ok (.iadd, 1) := by decide +kernel
theorem dX4_swapFor_140 : decode cX4_swapFor 140 = .ok (.istore_n 3, 1) := by decide +kernel
theorem dX4_swapFor_141 : decode cX4_swapFor 141 = .ok (.iinc 6 1, 3) := by decide +kernel
theorem dX4_swapFor_144 : decode cX4_swapFor 144 = .ok (.goto (-76), 3) := by decide +kernel
theorem dX4_swapFor_147 : decode cX4_swapFor 147 = .ok (.iinc 5 1, 3) := by decide +kernel
theorem dX4_swapFor_150 : decode cX4_swapFor 150 = .ok (.goto (-100), 3) := by decide +kernel
theorem dX4_swapFor_153 : decode cX4_swapFor 153 = .ok (.iload_n 3, 1) := by decide +kernel
theorem dX4_swapFor_154 : decode cX4_swapFor 154 = .ok (.ireturn, 1) := by decide +kernel
theorem dX4_out_0 : decode cX4_out 0 = .ok (.iload_n 1, 1) := by decide +kernel
theorem dX4_out_1 : decode cX4_out 1 = .ok (.invokestatic 47, 3) := by decide +kernel
theorem dX4_out_4 : decode cX4_out 4 = .ok (.ifCond .eq 13, 3) := by decide +kernel
theorem dX4_out_7 : decode cX4_out 7 = .ok (.iload_n 2, 1) := by decide +kernel
theorem dX4_out_8 : decode cX4_out 8 = .ok (.iconst 0, 1) := by decide +kernel
theorem dX4_out_9 : decode cX4_out 9 = .ok (.bipush 20, 2) := by decide +kernel
theorem dX4_out_11 : decode cX4_out 11 = .ok (.invokestatic 99, 3) := by decide +kernel
theorem dX4_out_14 : decode cX4_out 14 = .ok (.ifCond .ne 10, 3) := by decide +kernel
theorem dX4_out_17 : decode cX4_out 17 = .ok (.aload_n 0, 1) := by decide +kernel
theorem dX4_out_18 : decode cX4_out 18 = .ok (.ldc 57, 2) := by decide +kernel
theorem dX4_out_20 : decode cX4_out 20 = .ok (.invokevirtual 58, 3) := by decide +kernel
theorem dX4_out_23 : decode cX4_out 23 = .ok (.ireturn, 1) := by decide +kernel
theorem dX4_out_24 : decode cX4_out 24 = .ok (.aload_n 0, 1) := by decide +kernel
theorem dX4_out_25 : decode cX4_out 25 = .ok (.getfield 12, 3) := by decide +kernel
theorem dX4_out_28 : decode cX4_out 28 = .ok (.iload_n 1, 1) := by decide +kernel
theorem dX4_out_29 : decode cX4_out 29 = .ok (.invokevirtual 76, 3) := by decide +kernel
theorem dX4_out_32 : decode cX4_out 32 = .ok (.istore_n 3, 1) := by decide +kernel
theorem dX4_out_33 : decode cX4_out 33 = .ok (.iconst 0, 1) := by decide +kernel
theorem dX4_out_34 : decode cX4_out 34 = .ok (.istore 4, 2) := by decide +kernel
theorem dX4_out_36 : decode cX4_out 36 = .ok (.iload 4, 2) := by decide +kernel
theorem dX4_out_38 : decode cX4_out 38 = .ok (.iload_n 3, 1) := by decide +kernel
theorem dX4_out_39 : decode cX4_out 39 = .ok (.invokestatic 181, 3) := by decide +kernel
theorem dX4_out_42 : decode cX4_out 42 = .ok (.if_icmp .ge 69, 3) := by decide +kernel
theorem dX4_out_45 : decode cX4_out 45 = .ok (.iconst 0, 1) := by decide +kernel
theorem dX4_out_46 : decode cX4_out 46 = .ok (.istore 5, 2) := by decide +kernel
theorem dX4_out_48 : decode cX4_out 48 = .ok (.iload 5, 2) := by decide +kernel
theorem dX4_out_50 : decode cX4_out 50 = .ok (.iload_n 3, 1) := by decide +kernel
theorem dX4_out_51 : decode cX4_out 51 = .ok (.if_icmp .ge 54, 3) := by decide +kernel
theorem dX4_out_54 : decode cX4_out 54 = .ok (.iload 5, 2) := by decide +kernel
theorem dX4_out_56 : decode cX4_out 56 = .ok (.iload_n 3, 1) := by decide +kernel
theorem dX4_out_57 : decode cX4_out 57 = .ok (.iconst (-1), 1) := by decide +kernel
theorem dX4_out_58 : decode cX4_out 58 = .ok (.ixor, 1) := by decide +kernel
theorem dX4_out_59 : decode cX4_out 59 = .ok (.iand, 1) := by decide +kernel
theorem dX4_out_60 : decode cX4_out 60 = .ok (.ifCond .ne 17, 3) := by decide +kernel
theorem dX4_out_63 : decode cX4_out 63 = .ok (.iload 5, 2) := by decide +kernel
theorem dX4_out_65 : decode cX4_out 65 = .ok (.invokestatic 181, 3) := by decide +kernel
theorem dX4_out_68 : decode cX4_out 68 = .ok (.iload 4, 2) := by decide +kernel
theorem dX4_out_70 : decode cX4_out 70 = .ok (.if_icmp .ne 7, 3) := by decide +kernel
theorem dX4_out_73 : decode cX4_out 73 = .ok (.iconst 1, 1) := by decide +kernel
theorem dX4_out_74 : decode cX4_out 74 = .ok (.goto 4, 3) := by decide +kernel
theorem dX4_out_77 : decode cX4_out 77 = .ok (.iconst 0, 1) := by decide +kernel
theorem dX4_out_78 : decode cX4_out 78 = .ok (.istore 6, 2) := by decide +kernel
theorem dX4_out_80 : decode cX4_out 80 = .ok (.iload 6, 2) := by decide +kernel
theorem dX4_out_82 : decode cX4_out 82 = .ok (.ifCond .eq 17, 3) := by decide +kernel
theorem dX4_out_85 : decode cX4_out 85 = .ok (.aload_n 0, 1) := by decide +kernel
theorem dX4_out_86 : decode cX4_out 86 = .ok (.iload 5, 2) := by decide +kernel
theorem dX4_out_88 : decode cX4_out 88 = .ok (.iload_n 1, 1) := by decide +kernel
theorem dX4_out_89 : decode cX4_out 89 = .ok (.iload_n 2, 1) := by decide +kernel
theorem dX4_out_90 : decode cX4_out 90 = .ok (.invokevirtual 186, 3) := by decide +kernel
theorem dX4_out_93 : decode cX4_out 93 = .ok (.ifCond .eq 6, 3) := by decide +kernel
theorem dX4_out_96 : decode cX4_out 96 = .ok (.iload 5, 2) := by decide +kernel
theorem dX4_out_98 : decode cX4_out 98 = .ok (.ireturn, 1) := by decide +kernel
theorem dX4_out_99 : decode cX4_out 99 = .ok (.iinc 5 1, 3) := by decide +kernel
theorem dX4_out_102 : decode cX4_out 102 = .ok (.goto (-54), 3) := by decide +kernel
theorem dX4_out_105 : decode cX4_out 105 = .ok (.iinc 4 1, 3) := by decide +kernel
theorem dX4_out_108 : decode cX4_out 108 = .ok (.goto (-72), 3) := by decide +kernel
theorem dX4_out_111 : decode cX4_out 111 = .ok (.iload_n 3, 1) := by decide +kernel
theorem dX4_out_112 : decode cX4_out 112 = .ok (.ireturn, 1) := by decide +kernel
theorem dX4_fits_0 : decode cX4_fits 0 = .ok (.iload_n 1, 1) := by decide +kernel
theorem dX4_fits_1 : decode cX4_fits 1 = .ok (.invokestatic 189, 3) := by decide +kernel
theorem dX4_fits_4 : decode cX4_fits 4 = .ok (.ifCond .ne 10, 3) := by decide +kernel
theorem dX4_fits_7 : decode cX4_fits 7 = .ok (.aload_n 0, 1) := by decide +kernel
theorem dX4_fits_8 : decode cX4_fits 8 = .ok (.ldc 57, 2) := by decide +kernel
theorem dX4_fits_10 : decode cX4_fits 10 = .ok (.invokevirtual 58, 3) := by decide +kernel
theorem dX4_fits_13 : decode cX4_fits 13 = .ok (.ireturn, 1) := by decide +kernel
theorem dX4_fits_14 : decode cX4_fits 14 = .ok (.aload_n 0, 1) := by decide +kernel
theorem dX4_fits_15 : decode cX4_fits 15 = .ok (.getfield 34, 3) := by decide +kernel
theorem dX4_fits_18 : decode cX4_fits 18 = .ok (.iload_n 1, 1) := by decide +kernel
theorem dX4_fits_19 : decode cX4_fits 19 = .ok (.aaload, 1) := by decide +kernel
theorem dX4_fits_20 : decode cX4_fits 20 = .ok (.invokevirtual 192, 3) := by decide +kernel
theorem dX4_fits_23 : decode cX4_fits 23 = .ok (.ifCond .eq 10, 3) := by decide +kernel
theorem dX4_fits_26 : decode cX4_fits 26 = .ok (.aload_n 0, 1) := by decide +kernel
theorem dX4_fits_27 : decode cX4_fits 27 = .ok (.ldc 195, 2) := by decide +kernel
theorem dX4_fits_29 : decode cX4_fits 29 = .ok (.invokevirtual 58, 3) := by decide +kernel
theorem dX4_fits_32 : decode cX4_fits 32 = .ok (.ireturn, 1) := by decide +kernel
theorem dX4_fits_33 : decode cX4_fits 33 = .ok (.iload_n 2, 1) := by decide +kernel
theorem dX4_fits_34 : decode cX4_fits 34 = .ok (.invokestatic 47, 3) := by decide +kernel
theorem dX4_fits_37 : decode cX4_fits 37 = .ok (.ifCond .eq 21, 3) := by decide +kernel
theorem dX4_fits_40 : decode cX4_fits 40 = .ok (.iload_n 3, 1) := by decide +kernel
theorem dX4_fits_41 : decode cX4_fits 41 = .ok (.invokestatic 51, 3) := by decide +kernel
theorem dX4_fits_44 : decode cX4_fits 44 = .ok (.ifCond .eq 14, 3) := by decide +kernel
theorem dX4_fits_47 : decode cX4_fits 47 = .ok (.iload 4, 2) := by decide +kernel
theorem dX4_fits_49 : decode cX4_fits 49 = .ok (.iconst 0, 1) := by decide +kernel
theorem dX4_fits_50 : decode cX4_fits 50 = .ok (.bipush 20, 2) := by decide +kernel
theorem dX4_fits_52 : decode cX4_fits 52 = .ok (.invokestatic 99, 3) := by decide +kernel
theorem dX4_fits_55 : decode cX4_fits 55 = .ok (.ifCond .ne 10, 3) := by decide +kernel
theorem dX4_fits_58 : decode cX4_fits 58 = .ok (.aload_n 0, 1) := by decide +kernel
theorem dX4_fits_59 : decode cX4_fits 59 = .ok (.ldc 57, 2) := by decide +kernel
theorem dX4_fits_61 : decode cX4_fits 61 = .ok (.invokevirtual 58, 3) := by decide +kernel
theorem dX4_fits_64 : decode cX4_fits 64 = .ok (.ireturn, 1) := by decide +kernel
theorem dX4_fits_65 : decode cX4_fits 65 = .ok (.iconst 0, 1) := by decide +kernel
theorem dX4_fits_66 : decode cX4_fits 66 = .ok (.istore 5, 2) := by decide +kernel
theorem dX4_fits_68 : decode cX4_fits 68 = .ok (.iconst 0, 1) := by decide +kernel
theorem dX4_fits_69 : decode cX4_fits 69 = .ok (.istore 6, 2) := by decide +kernel
theorem dX4_fits_71 : decode cX4_fits 71 = .ok (.iload 6, 2) := by decide +kernel
theorem dX4_fits_73 : decode cX4_fits 73 = .ok (.bipush 9, 2) := by decide +kernel
theorem dX4_fits_75 : decode cX4_fits 75 = .ok (.if_icmp .gt 64, 3) := by decide +kernel
theorem dX4_fits_78 : decode cX4_fits 78 = .ok (.aload_n 0, 1) := by decide +kernel
theorem dX4_fits_79 : decode cX4_fits 79 = .ok (.getfield 19, 3) := by decide +kernel
theorem dX4_fits_82 : decode cX4_fits 82 = .ok (.aload_n 0, 1) := by decide +kernel
theorem dX4_fits_83 : decode cX4_fits 83 = .ok (.getfield 12, 3) := by decide +kernel
theorem dX4_fits_86 : decode cX4_fits 86 = .ok (.invokevirtual 156, 3) := by decide +kernel
theorem dX4_fits_89 : decode cX4_fits 89 = .ok (.aload_n 0, 1) := by decide +kernel
theorem dX4_fits_90 : decode cX4_fits 90 = .ok (.getfield 19, 3) := by decide +kernel
theorem dX4_fits_93 : decode cX4_fits 93 = .ok (.iload_n 2, 1) := by decide +kernel
theorem dX4_fits_94 : decode cX4_fits 94 = .ok (.iload_n 3, 1) := by decide +kernel
theorem dX4_fits_95 : decode cX4_fits 95 = .ok (.iload 6, 2) := by decide +kernel
theorem dX4_fits_97 : decode cX4_fits 97 = .ok (.invokevirtual 66, 3) := by decide +kernel
theorem dX4_fits_100 : decode cX4_fits 100 = .ok (.aload_n 0, 1) := by decide +kernel
theorem dX4_fits_101 : decode cX4_fits 101 = .ok (.getfield 19, 3) := by decide +kernel
theorem dX4_fits_104 : decode cX4_fits 104 = .ok (.iload 4, 2) := by decide +kernel
theorem dX4_fits_106 : decode cX4_fits 106 = .ok (.iconst 0, 1) := by decide +kernel
theorem dX4_fits_107 : decode cX4_fits 107 = .ok (.invokevirtual 132, 3) := by decide +kernel
theorem dX4_fits_110 : decode cX4_fits 110 = .ok (.aload_n 0, 1) := by decide +kernel
theorem dX4_fits_111 : decode cX4_fits 111 = .ok (.aload_n 0, 1) := by decide +kernel
theorem dX4_fits_112 : decode cX4_fits 112 = .ok (.getfield 34, 3) := by decide +kernel
theorem dX4_fits_115 : decode cX4_fits 115 = .ok (.iload_n 1, 1) := by decide +kernel
theorem dX4_fits_116 : decode cX4_fits 116 = .ok (.aaload, 1) := by decide +kernel
theorem dX4_fits_117 : decode cX4_fits 117 = .ok (.iload_n 2, 1) := by decide +kernel
theorem dX4_fits_118 : decode cX4_fits 118 = .ok (.invokevirtual 196, 3) := by decide +kernel
theorem dX4_fits_121 : decode cX4_fits 121 = .ok (.ifCond .eq 12, 3) := by decide +kernel
theorem dX4_fits_124 : decode cX4_fits 124 = .ok (.iload 5, 2) := by decide +kernel
theorem dX4_fits_126 : decode cX4_fits 126 = .ok (.iconst 1, 1) := by decide +kernel
theorem dX4_fits_127 : decode cX4_fits 127 = .ok (.iload 6, 2) := by decide +kernel
theorem dX4_fits_129 : decode cX4_fits 129 = .ok (.ishl, 1) := by decide +kernel
theorem dX4_fits_130 : decode cX4_fits 130 = .ok (.ior, 1) := by decide +kernel
theorem dX4_fits_131 : decode cX4_fits 131 = .ok (.istore 5, 2) := by decide +kernel
theorem dX4_fits_133 : decode cX4_fits 133 = .ok (.iinc 6 1, 3) := by decide +kernel
theorem dX4_fits_136 : decode cX4_fits 136 = .ok (.goto (-65), 3) := by decide +kernel
theorem dX4_fits_139 : decode cX4_fits 139 = .ok (.iload 5, 2) := by decide +kernel
theorem dX4_fits_141 : decode cX4_fits 141 = .ok (.ireturn, 1) := by decide +kernel
theorem dX4_kinds_0 : decode cX4_kinds 0 = .ok (.iload_n 1, 1) := by decide +kernel
theorem dX4_kinds_1 : decode cX4_kinds 1 = .ok (.invokestatic 189, 3) := by decide +kernel
theorem dX4_kinds_4 : decode cX4_kinds 4 = .ok (.ifCond .ne 10, 3) := by decide +kernel
theorem dX4_kinds_7 : decode cX4_kinds 7 = .ok (.aload_n 0, 1) := by decide +kernel
theorem dX4_kinds_8 : decode cX4_kinds 8 = .ok (.ldc 57, 2) := by decide +kernel
theorem dX4_kinds_10 : decode cX4_kinds 10 = .ok (.invokevirtual 58, 3) := by decide +kernel
theorem dX4_kinds_13 : decode cX4_kinds 13 = .ok (.ireturn, 1) := by decide +kernel
theorem dX4_kinds_14 : decode cX4_kinds 14 = .ok (.aload_n 0, 1) := by decide +kernel
theorem dX4_kinds_15 : decode cX4_kinds 15 = .ok (.getfield 34, 3) := by decide +kernel
theorem dX4_kinds_18 : decode cX4_kinds 18 = .ok (.iload_n 1, 1) := by decide +kernel
theorem dX4_kinds_19 : decode cX4_kinds 19 = .ok (.aaload, 1) := by decide +kernel
theorem dX4_kinds_20 : decode cX4_kinds 20 = .ok (.invokevirtual 192, 3) := by decide +kernel
theorem dX4_kinds_23 : decode cX4_kinds 23 = .ok (.ifCond .eq 10, 3) := by decide +kernel
theorem dX4_kinds_26 : decode cX4_kinds 26 = .ok (.aload_n 0, 1) := by decide +kernel
theorem dX4_kinds_27 : decode cX4_kinds 27 = .ok (.ldc 195, 2) := by decide +kernel
theorem dX4_kinds_29 : decode cX4_kinds 29 = .ok (.invokevirtual 58, 3) := by decide +kernel
theorem dX4_kinds_32 : decode cX4_kinds 32 = .ok (.ireturn, 1) := by decide +kernel
theorem dX4_kinds_33 : decode cX4_kinds 33 = .ok (.aload_n 0, 1) := by decide +kernel
theorem dX4_kinds_34 : decode cX4_kinds 34 = .ok (.iload_n 2, 1) := by decide +kernel
theorem dX4_kinds_35 : decode cX4_kinds 35 = .ok (.invokevirtual 96, 3) := by decide +kernel
theorem dX4_kinds_38 : decode cX4_kinds 38 = .ok (.ifCond .ne 10, 3) := by decide +kernel
theorem dX4_kinds_41 : decode cX4_kinds 41 = .ok (.aload_n 0, 1) := by decide +kernel
theorem dX4_kinds_42 : decode cX4_kinds 42 = .ok (.ldc 57, 2) := by decide +kernel
theorem dX4_kinds_44 : decode cX4_kinds 44 = .ok (.invokevirtual 58, 3) := by decide +kernel
theorem dX4_kinds_47 : decode cX4_kinds 47 = .ok (.ireturn, 1) := by decide +kernel
theorem dX4_kinds_48 : decode cX4_kinds 48 = .ok (.iconst 0, 1) := by decide +kernel
theorem dX4_kinds_49 : decode cX4_kinds 49 = .ok (.istore_n 3, 1) := by decide +kernel
theorem dX4_kinds_50 : decode cX4_kinds 50 = .ok (.iconst 0, 1) := by decide +kernel
theorem dX4_kinds_51 : decode cX4_kinds 51 = .ok (.istore 4, 2) := by decide +kernel
theorem dX4_kinds_53 : decode cX4_kinds 53 = .ok (.iload 4, 2) := by decide +kernel
theorem dX4_kinds_55 : decode cX4_kinds 55 = .ok (.bipush 7, 2) := by decide +kernel
theorem dX4_kinds_57 : decode cX4_kinds 57 = .ok (.if_icmp .ge 52, 3) := by decide +kernel
theorem dX4_kinds_60 : decode cX4_kinds 60 = .ok (.aload_n 0, 1) := by decide +kernel
theorem dX4_kinds_61 : decode cX4_kinds 61 = .ok (.getfield 19, 3) := by decide +kernel
theorem dX4_kinds_64 : decode cX4_kinds 64 = .ok (.aload_n 0, 1) := by decide +kernel
theorem dX4_kinds_65 : decode cX4_kinds 65 = .ok (.getfield 12, 3) := by decide +kernel
theorem dX4_kinds_68 : decode cX4_kinds 68 = .ok (.invokevirtual 156, 3) := by decide +kernel
theorem dX4_kinds_71 : decode cX4_kinds 71 = .ok (.aload_n 0, 1) := by decide +kernel
theorem dX4_kinds_72 : decode cX4_kinds 72 = .ok (.getfield 19, 3) := by decide +kernel
theorem dX4_kinds_75 : decode cX4_kinds 75 = .ok (.iload_n 2, 1) := by decide +kernel
theorem dX4_kinds_76 : decode cX4_kinds 76 = .ok (.iconst 0, 1) := by decide +kernel
theorem dX4_kinds_77 : decode cX4_kinds 77 = .ok (.iload 4, 2) := by decide +kernel
theorem dX4_kinds_79 : decode cX4_kinds 79 = .ok (.invokevirtual 115, 3) := by decide +kernel
theorem dX4_kinds_82 : decode cX4_kinds 82 = .ok (.aload_n 0, 1) := by decide +kernel
theorem dX4_kinds_83 : decode cX4_kinds 83 = .ok (.aload_n 0, 1) := by decide +kernel
theorem dX4_kinds_84 : decode cX4_kinds 84 = .ok (.getfield 34, 3) := by decide +kernel
theorem dX4_kinds_87 : decode cX4_kinds 87 = .ok (.iload_n 1, 1) := by decide +kernel
theorem dX4_kinds_88 : decode cX4_kinds 88 = .ok (.aaload, 1) := by decide +kernel
theorem dX4_kinds_89 : decode cX4_kinds 89 = .ok (.iload_n 2, 1) := by decide +kernel
theorem dX4_kinds_90 : decode cX4_kinds 90 = .ok (.invokevirtual 200, 3) := by decide +kernel
theorem dX4_kinds_93 : decode cX4_kinds 93 = .ok (.ifCond .eq 10, 3) := by decide +kernel
theorem dX4_kinds_96 : decode cX4_kinds 96 = .ok (.iload_n 3, 1) := by decide +kernel
theorem dX4_kinds_97 : decode cX4_kinds 97 = .ok (.iconst 1, 1) := by decide +kernel
theorem dX4_kinds_98 : decode cX4_kinds 98 = .ok (.iload 4, 2) := by decide +kernel
theorem dX4_kinds_100 : decode cX4_kinds 100 = .ok (.ishl, 1) := by decide +kernel
theorem dX4_kinds_101 : decode cX4_kinds 101 = .ok (.ior, 1) := by decide +kernel
theorem dX4_kinds_102 : decode cX4_kinds 102 = .ok (.istore_n 3, 1) := by decide +kernel
theorem dX4_kinds_103 : decode cX4_kinds 103 = .ok (.iinc 4 1, 3) := by decide +kernel
theorem dX4_kinds_106 : decode cX4_kinds 106 = .ok (.goto (-53), 3) := by decide +kernel
theorem dX4_kinds_109 : decode cX4_kinds 109 = .ok (.iload_n 3, 1) := by decide +kernel
theorem dX4_kinds_110 : decode cX4_kinds 110 = .ok (.ireturn, 1) := by decide +kernel
theorem dX4_lights_0 : decode cX4_lights 0 = .ok (.iload_n 1, 1) := by decide +kernel
theorem dX4_lights_1 : decode cX4_lights 1 = .ok (.iconst 1, 1) := by decide +kernel
theorem dX4_lights_2 : decode cX4_lights 2 = .ok (.bipush 20, 2) := by decide +kernel
theorem dX4_lights_4 : decode cX4_lights 4 = .ok (.invokestatic 99, 3) := by decide +kernel
theorem dX4_lights_7 : decode cX4_lights 7 = .ok (.ifCond .ne 10, 3) := by decide +kernel
theorem dX4_lights_10 : decode cX4_lights 10 = .ok (.aload_n 0, 1) := by decide +kernel
theorem dX4_lights_11 : decode cX4_lights 11 = .ok (.ldc 57, 2) := by decide +kernel
theorem dX4_lights_13 : decode cX4_lights 13 = .ok (.invokevirtual 58, 3) := by decide +kernel
theorem dX4_lights_16 : decode cX4_lights 16 = .ok (.ireturn, 1) := by decide +kernel
theorem dX4_lights_17 : decode cX4_lights 17 = .ok (.aload_n 0, 1) := by decide +kernel
theorem dX4_lights_18 : decode cX4_lights 18 = .ok (.getfield 12, 3) := by decide +kernel
theorem dX4_lights_21 : decode cX4_lights 21 = .ok (.getfield 126, 3) := by decide +kernel
theorem dX4_lights_24 : decode cX4_lights 24 = .ok (.ldc 130, 2) := by decide +kernel
theorem dX4_lights_26 : decode cX4_lights 26 = .ok (.iload_n 1, 1) := by decide +kernel
theorem dX4_lights_27 : decode cX4_lights 27 = .ok (.isub, 1) := by decide +kernel
theorem dX4_lights_28 : decode cX4_lights 28 = .ok (.if_icmp .le 10, 3) := by decide +kernel
theorem dX4_lights_31 : decode cX4_lights 31 = .ok (.aload_n 0, 1) := by decide +kernel
theorem dX4_lights_32 : decode cX4_lights 32 = .ok (.ldc 131, 2) := by decide +kernel
theorem dX4_lights_34 : decode cX4_lights 34 = .ok (.invokevirtual 58, 3) := by decide +kernel
theorem dX4_lights_37 : decode cX4_lights 37 = .ok (.ireturn, 1) := by decide +kernel
theorem dX4_lights_38 : decode cX4_lights 38 = .ok (.iconst 0, 1) := by decide +kernel
theorem dX4_lights_39 : decode cX4_lights 39 = .ok (.istore_n 2, 1) := by decide +kernel
theorem dX4_lights_40 : decode cX4_lights 40 = .ok (.iload_n 2, 1) := by decide +kernel
theorem dX4_lights_41 : decode cX4_lights 41 = .ok (.iload_n 1, 1) := by decide +kernel
theorem dX4_lights_42 : decode cX4_lights 42 = .ok (.if_icmp .ge 25, 3) := by decide +kernel
theorem dX4_lights_45 : decode cX4_lights 45 = .ok (.aload_n 0, 1) := by decide +kernel
theorem dX4_lights_46 : decode cX4_lights 46 = .ok (.getfield 12, 3) := by decide +kernel
theorem dX4_lights_49 : decode cX4_lights 49 = .ok (.invokevirtual 203, 3) := by decide +kernel
theorem dX4_lights_52 : decode cX4_lights 52 = .ok (.aload_n 0, 1) := by decide +kernel
theorem dX4_lights_53 : decode cX4_lights 53 = .ok (.getfield 12, 3) := by decide +kernel
theorem dX4_lights_56 : decode cX4_lights 56 = .ok (.iconst 1, 1) := by decide +kernel
theorem dX4_lights_57 : decode cX4_lights 57 = .ok (.iconst 0, 1) := by decide +kernel
theorem dX4_lights_58 : decode cX4_lights 58 = .ok (.invokevirtual 132, 3) := by decide +kernel
theorem dX4_lights_61 : decode cX4_lights 61 = .ok (.iinc 2 1, 3) := by decide +kernel
theorem dX4_lights_64 : decode cX4_lights 64 = .ok (.goto (-24), 3) := by decide +kernel
theorem dX4_lights_67 : decode cX4_lights 67 = .ok (.aload_n 0, 1) := by decide +kernel
theorem dX4_lights_68 : decode cX4_lights 68 = .ok (.getfield 12, 3) := by decide +kernel
theorem dX4_lights_71 : decode cX4_lights 71 = .ok (.invokevirtual 136, 3) := by decide +kernel
theorem dX4_lights_74 : decode cX4_lights 74 = .ok (.ireturn, 1) := by decide +kernel
theorem dX4_odds_0 : decode cX4_odds 0 = .ok (.iload_n 1, 1) := by decide +kernel
theorem dX4_odds_1 : decode cX4_odds 1 = .ok (.iconst 0, 1) := by decide +kernel
theorem dX4_odds_2 : decode cX4_odds 2 = .ok (.bipush 23, 2) := by decide +kernel
theorem dX4_odds_4 : decode cX4_odds 4 = .ok (.invokestatic 99, 3) := by decide +kernel
theorem dX4_odds_7 : decode cX4_odds 7 = .ok (.ifCond .eq 12, 3) := by decide +kernel
theorem dX4_odds_10 : decode cX4_odds 10 = .ok (.iload_n 2, 1) := by decide +kernel
theorem dX4_odds_11 : decode cX4_odds 11 = .ok (.iconst 0, 1) := by decide +kernel
theorem dX4_odds_12 : decode cX4_odds 12 = .ok (.iconst 1, 1) := by decide +kernel
theorem dX4_odds_13 : decode cX4_odds 13 = .ok (.invokestatic 99, 3) := by decide +kernel
theorem dX4_odds_16 : decode cX4_odds 16 = .ok (.ifCond .ne 11, 3) := by decide +kernel
theorem dX4_odds_19 : decode cX4_odds 19 = .ok (.aload_n 0, 1) := by decide +kernel
theorem dX4_odds_20 : decode cX4_odds 20 = .ok (.ldc 57, 2) := by decide +kernel
theorem dX4_odds_22 : decode cX4_odds 22 = .ok (.invokevirtual 58, 3) := by decide +kernel
theorem dX4_odds_25 : decode cX4_odds 25 = .ok (.i2l, 1) := by decide +kernel
theorem dX4_odds_26 : decode cX4_odds 26 = .ok (.lreturn, 1) := by decide +kernel
theorem dX4_odds_27 : decode cX4_odds 27 = .ok (.bipush 6, 2) := by decide +kernel
theorem dX4_odds_29 : decode cX4_odds 29 = .ok (.aload_n 0, 1) := by decide +kernel
theorem dX4_odds_30 : decode cX4_odds 30 = .ok (.getfield 12, 3) := by decide +kernel
theorem dX4_odds_33 : decode cX4_odds 33 = .ok (.invokevirtual 149, 3) := by decide +kernel
theorem dX4_odds_36 : decode cX4_odds 36 = .ok (.invokestatic 181, 3) := by decide +kernel
theorem dX4_odds_39 : decode cX4_odds 39 = .ok (.isub, 1) := by decide +kernel
theorem dX4_odds_40 : decode cX4_odds 40 = .ok (.istore_n 3, 1) := by decide +kernel
theorem dX4_odds_41 : decode cX4_odds 41 = .ok (.iload_n 3, 1) := by decide +kernel
theorem dX4_odds_42 : decode cX4_odds 42 = .ok (.bipush 6, 2) := by decide +kernel
theorem dX4_odds_44 : decode cX4_odds 44 = .ok (.invokestatic 206, 3) := by decide +kernel
theorem dX4_odds_47 : decode cX4_odds 47 = .ok (.istore 4, 2) := by decide +kernel
theorem dX4_odds_49 : decode cX4_odds 49 = .ok (.iload_n 2, 1) := by decide +kernel
theorem dX4_odds_50 : decode cX4_odds 50 = .ok (.ifCond .ne 7, 3) := by decide +kernel
theorem dX4_odds_53 : decode cX4_odds 53 = .ok (.iload_n 3, 1) := by decide +kernel
theorem dX4_odds_54 : decode cX4_odds 54 = .ok (.goto 5, 3) := by decide +kernel
theorem dX4_odds_57 : decode cX4_odds 57 = .ok (.bipush 6, 2) := by decide +kernel
theorem dX4_odds_59 : decode cX4_odds 59 = .ok (.iload 4, 2) := by decide +kernel
theorem dX4_odds_61 : decode cX4_odds 61 = .ok (.idiv, 1) := by decide +kernel
theorem dX4_odds_62 : decode cX4_odds 62 = .ok (.i2l, 1) := by decide +kernel
theorem dX4_odds_63 : decode cX4_odds 63 = .ok (.iload_n 1, 1) := by decide +kernel
theorem dX4_odds_64 : decode cX4_odds 64 = .ok (.invokestatic 209, 3) := by decide +kernel
theorem dX4_odds_67 : decode cX4_odds 67 = .ok (.lreturn, 1) := by decide +kernel
theorem dX4_seed_0 : decode cX4_seed 0 = .ok (.aload_n 0, 1) := by decide +kernel
theorem dX4_seed_1 : decode cX4_seed 1 = .ok (.getfield 12, 3) := by decide +kernel
theorem dX4_seed_4 : decode cX4_seed 4 = .ok (.getfield 213, 3) := by decide +kernel
theorem dX4_seed_7 : decode cX4_seed 7 = .ok (.istore_n 2, 1) := by decide +kernel
theorem dX4_seed_8 : decode cX4_seed 8 = .ok (.aload_n 0, 1) := by decide +kernel
theorem dX4_seed_9 : decode cX4_seed 9 = .ok (.getfield 12, 3) := by decide +kernel
theorem dX4_seed_12 : decode cX4_seed 12 = .ok (.iload_n 1, 1) := by decide +kernel
theorem dX4_seed_13 : decode cX4_seed 13 = .ok (.putfield 213, 3) := by decide +kernel
theorem dX4_seed_16 : decode cX4_seed 16 = .ok (.iload_n 2, 1) := by decide +kernel
theorem dX4_seed_17 : decode cX4_seed 17 = .ok (.ireturn, 1) := by decide +kernel
theorem dX4_feed_0 : decode cX4_feed 0 = .ok (.iload_n 2, 1) := by decide +kernel
theorem dX4_feed_1 : decode cX4_feed 1 = .ok (.iconst 1, 1) := by decide +kernel
theorem dX4_feed_2 : decode cX4_feed 2 = .ok (.iconst 4, 1) := by decide +kernel
theorem dX4_feed_3 : decode cX4_feed 3 = .ok (.invokestatic 99, 3) := by decide +kernel
theorem dX4_feed_6 : decode cX4_feed 6 = .ok (.ifCond .ne 10, 3) := by decide +kernel
theorem dX4_feed_9 : decode cX4_feed 9 = .ok (.aload_n 0, 1) := by decide +kernel
theorem dX4_feed_10 : decode cX4_feed 10 = .ok (.ldc 57, 2) := by decide +kernel
theorem dX4_feed_12 : decode cX4_feed 12 = .ok (.invokevirtual 58, 3) := by decide +kernel
theorem dX4_feed_15 : decode cX4_feed 15 = .ok (.ireturn, 1) := by decide +kernel
theorem dX4_feed_16 : decode cX4_feed 16 = .ok (.aload_n 0, 1) := by decide +kernel
theorem dX4_feed_17 : decode cX4_feed 17 = .ok (.getfield 28, 3) := by decide +kernel
theorem dX4_feed_20 : decode cX4_feed 20 = .ok (.getfield 216, 3) := by decide +kernel
theorem dX4_feed_23 : decode cX4_feed 23 = .ok (.bipush 120, 2) := by decide +kernel
theorem dX4_feed_25 : decode cX4_feed 25 = .ok (.iload_n 2, 1) := by decide +kernel
theorem dX4_feed_26 : decode cX4_feed 26 = .ok (.isub, 1) := by decide +kernel
theorem dX4_feed_27 : decode cX4_feed 27 = .ok (.if_icmp .le 10, 3) := by decide +kernel
theorem dX4_feed_30 : decode cX4_feed 30 = .ok (.aload_n 0, 1) := by decide +kernel
theorem dX4_feed_31 : decode cX4_feed 31 = .ok (.ldc 92, 2) := by decide +kernel
theorem dX4_feed_33 : decode cX4_feed 33 = .ok (.invokevirtual 58, 3) := by decide +kernel
theorem dX4_feed_36 : decode cX4_feed 36 = .ok (.ireturn, 1) := by decide +kernel
theorem dX4_feed_37 : decode cX4_feed 37 = .ok (.iload_n 2, 1) := by decide +kernel
theorem dX4_feed_38 : decode cX4_feed 38 = .ok (.iconst 1, 1) := by decide +kernel
theorem dX4_feed_39 : decode cX4_feed 39 = .ok (.isub, 1) := by decide +kernel
theorem dX4_feed_40 : decode cX4_feed 40 = .ok (.istore_n 3, 1) := by decide +kernel
theorem dX4_feed_41 : decode cX4_feed 41 = .ok (.iload_n 3, 1) := by decide +kernel
theorem dX4_feed_42 : decode cX4_feed 42 = .ok (.ifCond .lt 23, 3) := by decide +kernel
theorem dX4_feed_45 : decode cX4_feed 45 = .ok (.aload_n 0, 1) := by decide +kernel
theorem dX4_feed_46 : decode cX4_feed 46 = .ok (.getfield 28, 3) := by decide +kernel
theorem dX4_feed_49 : decode cX4_feed 49 = .ok (.iload_n 1, 1) := by decide +kernel
theorem dX4_feed_50 : decode cX4_feed 50 = .ok (.bipush 8, 2) := by decide +kernel
theorem dX4_feed_52 : decode cX4_feed 52 = .ok (.iload_n 3, 1) := by decide +kernel
theorem dX4_feed_53 : decode cX4_feed 53 = .ok (.imul, 1) := by decide +kernel
theorem dX4_feed_54 : decode cX4_feed 54 = .ok (.iushr, 1) := by decide +kernel
theorem dX4_feed_55 : decode cX4_feed 55 = .ok (.i2b, 1) := by decide +kernel
theorem dX4_feed_56 : decode cX4_feed 56 = .ok (.invokevirtual 219, 3) := by decide +kernel
theorem dX4_feed_59 : decode cX4_feed 59 = .ok (.iinc 3 (-1), 3) := by decide +kernel
theorem dX4_feed_62 : decode cX4_feed 62 = .ok (.goto (-21), 3) := by decide +kernel
theorem dX4_feed_65 : decode cX4_feed 65 = .ok (.aload_n 0, 1) := by decide +kernel
theorem dX4_feed_66 : decode cX4_feed 66 = .ok (.getfield 28, 3) := by decide +kernel
theorem dX4_feed_69 : decode cX4_feed 69 = .ok (.getfield 216, 3) := by decide +kernel
theorem dX4_feed_72 : decode cX4_feed 72 = .ok (.ireturn, 1) := by decide +kernel
theorem dX4_wipe_0 : decode cX4_wipe 0 = .ok (.aload_n 0, 1) := by decide +kernel
theorem dX4_wipe_1 : decode cX4_wipe 1 = .ok (.getfield 28, 3) := by decide +kernel
theorem dX4_wipe_4 : decode cX4_wipe 4 = .ok (.invokevirtual 223, 3) := by decide +kernel
theorem dX4_wipe_7 : decode cX4_wipe 7 = .ok (.ireturn, 1) := by decide +kernel
theorem dX4_text_0 : decode cX4_text 0 = .ok (.aload_n 0, 1) := by decide +kernel
theorem dX4_text_1 : decode cX4_text 1 = .ok (.getfield 19, 3) := by decide +kernel
theorem dX4_text_4 : decode cX4_text 4 = .ok (.aload_n 0, 1) := by decide +kernel
theorem dX4_text_5 : decode cX4_text 5 = .ok (.getfield 12, 3) := by decide +kernel
theorem dX4_text_8 : decode cX4_text 8 = .ok (.invokevirtual 156, 3) := by decide +kernel
theorem dX4_text_11 : decode cX4_text 11 = .ok (.aload_n 0, 1) := by decide +kernel
theorem dX4_text_12 : decode cX4_text 12 = .ok (.getfield 28, 3) := by decide +kernel
theorem dX4_text_15 : decode cX4_text 15 = .ok (.aload_n 0, 1) := by decide +kernel
theorem dX4_text_16 : decode cX4_text 16 = .ok (.getfield 19, 3) := by decide +kernel
theorem dX4_text_19 : decode cX4_text 19 = .ok (.invokevirtual 226, 3) := by decide +kernel
theorem dX4_text_22 : decode cX4_text 22 = .ok (.istore_n 1, 1) := by decide +kernel
theorem dX4_text_23 : decode cX4_text 23 = .ok (.aload_n 0, 1) := by decide +kernel
theorem dX4_text_24 : decode cX4_text 24 = .ok (.getfield 28, 3) := by decide +kernel
theorem dX4_text_27 : decode cX4_text 27 = .ok (.invokevirtual 223, 3) := by decide +kernel
theorem dX4_text_30 : decode cX4_text 30 = .ok (.pop, 1) := by decide +kernel
theorem dX4_text_31 : decode cX4_text 31 = .ok (.iload_n 1, 1) := by decide +kernel
theorem dX4_text_32 : decode cX4_text 32 = .ok (.ifCond .le 14, 3) := by decide +kernel
theorem dX4_text_35 : decode cX4_text 35 = .ok (.aload_n 0, 1) := by decide +kernel
theorem dX4_text_36 : decode cX4_text 36 = .ok (.getfield 12, 3) := by decide +kernel
theorem dX4_text_39 : decode cX4_text 39 = .ok (.aload_n 0, 1) := by decide +kernel
theorem dX4_text_40 : decode cX4_text 40 = .ok (.getfield 19, 3) := by decide +kernel
theorem dX4_text_43 : decode cX4_text 43 = .ok (.invokevirtual 156, 3) := by decide +kernel
theorem dX4_text_46 : decode cX4_text 46 = .ok (.iload_n 1, 1) := by decide +kernel
theorem dX4_text_47 : decode cX4_text 47 = .ok (.ireturn, 1) := by decide +kernel
theorem dX4_hold_0 : decode cX4_hold 0 = .ok (.iload_n 1, 1) := by decide +kernel
theorem dX4_hold_1 : decode cX4_hold 1 = .ok (.invokestatic 230, 3) := by decide +kernel
theorem dX4_hold_4 : decode cX4_hold 4 = .ok (.ifCond .eq 16, 3) := by decide +kernel
theorem dX4_hold_7 : decode cX4_hold 7 = .ok (.iload_n 2, 1) := by decide +kernel
theorem dX4_hold_8 : decode cX4_hold 8 = .ok (.iconst (-1), 1) := by decide +kernel
theorem dX4_hold_9 : decode cX4_hold 9 = .ok (.if_icmp .eq 18, 3) := by decide +kernel
theorem dX4_hold_12 : decode cX4_hold 12 = .ok (.aload_n 0, 1) := by decide +kernel
theorem dX4_hold_13 : decode cX4_hold 13 = .ok (.iload_n 2, 1) := by decide +kernel
theorem dX4_hold_14 : decode cX4_hold 14 = .ok (.invokevirtual 96, 3) := by decide +kernel
theorem dX4_hold_17 : decode cX4_hold 17 = .ok (.ifCond .ne 10, 3) := by decide +kernel
theorem dX4_hold_20 : decode cX4_hold 20 = .ok (.aload_n 0, 1) := by decide +kernel
theorem dX4_hold_21 : decode cX4_hold 21 = .ok (.ldc 57, 2) := by decide +kernel
theorem dX4_hold_23 : decode cX4_hold 23 = .ok (.invokevirtual 58, 3) := by decide +kernel
theorem dX4_hold_26 : decode cX4_hold 26 = .ok (.ireturn, 1) := by decide +kernel
theorem dX4_hold_27 : decode cX4_hold 27 = .ok (.aload_n 0, 1) := by decide +kernel
theorem dX4_hold_28 : decode cX4_hold 28 = .ok (.getfield 12, 3) := by decide +kernel
theorem dX4_hold_31 : decode cX4_hold 31 = .ok (.getfield 233, 3) := by decide +kernel
theorem dX4_hold_34 : decode cX4_hold 34 = .ok (.iload_n 1, 1) := by decide +kernel
theorem dX4_hold_35 : decode cX4_hold 35 = .ok (.iload_n 2, 1) := by decide +kernel
theorem dX4_hold_36 : decode cX4_hold 36 = .ok (.iastore, 1) := by decide +kernel
theorem dX4_hold_37 : decode cX4_hold 37 = .ok (.iconst 1, 1) := by decide +kernel
theorem dX4_hold_38 : decode cX4_hold 38 = .ok (.ireturn, 1) := by decide +kernel
theorem dX4_as_0 : decode cX4_as 0 = .ok (.iload_n 1, 1) := by decide +kernel
theorem dX4_as_1 : decode cX4_as 1 = .ok (.invokestatic 230, 3) := by decide +kernel
theorem dX4_as_4 : decode cX4_as 4 = .ok (.ifCond .eq 10, 3) := by decide +kernel
theorem dX4_as_7 : decode cX4_as 7 = .ok (.iload_n 2, 1) := by decide +kernel
theorem dX4_as_8 : decode cX4_as 8 = .ok (.invokestatic 85, 3) := by decide +kernel
theorem dX4_as_11 : decode cX4_as 11 = .ok (.ifCond .ne 10, 3) := by decide +kernel
theorem dX4_as_14 : decode cX4_as 14 = .ok (.aload_n 0, 1) := by decide +kernel
theorem dX4_as_15 : decode cX4_as 15 = .ok (.ldc 57, 2) := by decide +kernel
theorem dX4_as_17 : decode cX4_as 17 = .ok (.invokevirtual 58, 3) := by decide +kernel
theorem dX4_as_20 : decode cX4_as 20 = .ok (.ireturn, 1) := by decide +kernel
theorem dX4_as_21 : decode cX4_as 21 = .ok (.aload_n 0, 1) := by decide +kernel
theorem dX4_as_22 : decode cX4_as 22 = .ok (.getfield 12, 3) := by decide +kernel
theorem dX4_as_25 : decode cX4_as 25 = .ok (.getfield 233, 3) := by decide +kernel
theorem dX4_as_28 : decode cX4_as 28 = .ok (.iload_n 1, 1) := by decide +kernel
theorem dX4_as_29 : decode cX4_as 29 = .ok (.iaload, 1) := by decide +kernel
theorem dX4_as_30 : decode cX4_as 30 = .ok (.istore_n 3, 1) := by decide +kernel
theorem dX4_as_31 : decode cX4_as 31 = .ok (.iload_n 3, 1) := by decide +kernel
theorem dX4_as_32 : decode cX4_as 32 = .ok (.iconst (-1), 1) := by decide +kernel
theorem dX4_as_33 : decode cX4_as 33 = .ok (.if_icmp .ne 10, 3) := by decide +kernel
theorem dX4_as_36 : decode cX4_as 36 = .ok (.aload_n 0, 1) := by decide +kernel
theorem dX4_as_37 : decode cX4_as 37 = .ok (.ldc 195, 2) := by decide +kernel
theorem dX4_as_39 : decode cX4_as 39 = .ok (.invokevirtual 58, 3) := by decide +kernel
theorem dX4_as_42 : decode cX4_as 42 = .ok (.ireturn, 1) := by decide +kernel
theorem dX4_as_43 : decode cX4_as 43 = .ok (.aload_n 0, 1) := by decide +kernel
theorem dX4_as_44 : decode cX4_as 44 = .ok (.getfield 12, 3) := by decide +kernel
theorem dX4_as_47 : decode cX4_as 47 = .ok (.iload_n 3, 1) := by decide +kernel
theorem dX4_as_48 : decode cX4_as 48 = .ok (.iconst 0, 1) := by decide +kernel
theorem dX4_as_49 : decode cX4_as 49 = .ok (.invokevirtual 106, 3) := by decide +kernel
theorem dX4_as_52 : decode cX4_as 52 = .ok (.iload_n 2, 1) := by decide +kernel
theorem dX4_as_53 : decode cX4_as 53 = .ok (.invokestatic 236, 3) := by decide +kernel
theorem dX4_as_56 : decode cX4_as 56 = .ok (.ifCond .ne 10, 3) := by decide +kernel
theorem dX4_as_59 : decode cX4_as 59 = .ok (.aload_n 0, 1) := by decide +kernel
theorem dX4_as_60 : decode cX4_as 60 = .ok (.ldc 240, 2) := by decide +kernel
theorem dX4_as_62 : decode cX4_as 62 = .ok (.invokevirtual 58, 3) := by decide +kernel
theorem dX4_as_65 : decode cX4_as 65 = .ok (.ireturn, 1) := by decide +kernel
theorem dX4_as_66 : decode cX4_as 66 = .ok (.iload_n 3, 1) := by decide +kernel
theorem dX4_as_67 : decode cX4_as 67 = .ok (.ireturn, 1) := by decide +kernel
theorem dX4_sheet_0 : decode cX4_sheet 0 = .ok (.iload_n 1, 1) := by decide +kernel
theorem dX4_sheet_1 : decode cX4_sheet 1 = .ok (.invokestatic 189, 3) := by decide +kernel
theorem dX4_sheet_4 : decode cX4_sheet 4 = .ok (.ifCond .eq 25, 3) := by decide +kernel
theorem dX4_sheet_7 : decode cX4_sheet 7 = .ok (.iload_n 2, 1) := by decide +kernel
theorem dX4_sheet_8 : decode cX4_sheet 8 = .ok (.ifCond .eq 28, 3) := by decide +kernel
theorem dX4_sheet_11 : decode cX4_sheet 11 = .ok (.iload_n 2, 1) := by decide +kernel
theorem dX4_sheet_12 : decode cX4_sheet 12 = .ok (.bipush 8, 2) := by decide +kernel
theorem dX4_sheet_14 : decode cX4_sheet 14 = .ok (.if_icmp .eq 22, 3) := by decide +kernel
theorem dX4_sheet_17 : decode cX4_sheet 17 = .ok (.iload_n 2, 1) := by decide +kernel
theorem dX4_sheet_18 : decode cX4_sheet 18 = .ok (.bipush 16, 2) := by decide +kernel
theorem dX4_sheet_20 : decode cX4_sheet 20 = .ok (.if_icmp .eq 16, 3) := by decide +kernel
theorem dX4_sheet_23 : decode cX4_sheet 23 = .ok (.iload_n 2, 1) := by decide +kernel
theorem dX4_sheet_24 : decode cX4_sheet 24 = .ok (.bipush 32, 2) := by decide +kernel
theorem dX4_sheet_26 : decode cX4_sheet 26 = .ok (.if_icmp .eq 10, 3) := by decide +kernel
theorem dX4_sheet_29 : decode cX4_sheet 29 = .ok (.aload_n 0, 1) := by decide +kernel
theorem dX4_sheet_30 : decode cX4_sheet 30 = .ok (.ldc 57, 2) := by decide +kernel
theorem dX4_sheet_32 : decode cX4_sheet 32 = .ok (.invokevirtual 58, 3) := by decide +kernel
theorem dX4_sheet_35 : decode cX4_sheet 35 = .ok (.ireturn, 1) := by decide +kernel
theorem dX4_sheet_36 : decode cX4_sheet 36 = .ok (.iload_n 3, 1) := by decide +kernel
theorem dX4_sheet_37 : decode cX4_sheet 37 = .ok (.ifCond .ge 10, 3) := by decide +kernel
theorem dX4_sheet_40 : decode cX4_sheet 40 = .ok (.aload_n 0, 1) := by decide +kernel
theorem dX4_sheet_41 : decode cX4_sheet 41 = .ok (.ldc 241, 2) := by decide +kernel
theorem dX4_sheet_43 : decode cX4_sheet 43 = .ok (.invokevirtual 58, 3) := by decide +kernel
theorem dX4_sheet_46 : decode cX4_sheet 46 = .ok (.ireturn, 1) := by decide +kernel
theorem dX4_sheet_47 : decode cX4_sheet 47 = .ok (.iload_n 3, 1) := by decide +kernel
theorem dX4_sheet_48 : decode cX4_sheet 48 = .ok (.bipush 40, 2) := by decide +kernel
theorem dX4_sheet_50 : decode cX4_sheet 50 = .ok (.if_icmp .le 10, 3) := by decide +kernel
theorem dX4_sheet_53 : decode cX4_sheet 53 = .ok (.aload_n 0, 1) := by decide +kernel
theorem dX4_sheet_54 : decode cX4_sheet 54 = .ok (.ldc 57, 2) := by decide +kernel
theorem dX4_sheet_56 : decode cX4_sheet 56 = .ok (.invokevirtual 58, 3) := by decide +kernel
theorem dX4_sheet_59 : decode cX4_sheet 59 = .ok (.ireturn, 1) := by decide +kernel
theorem dX4_sheet_60 : decode cX4_sheet 60 = .ok (.aload_n 0, 1) := by decide +kernel
theorem dX4_sheet_61 : decode cX4_sheet 61 = .ok (.getfield 34, 3) := by decide +kernel
theorem dX4_sheet_64 : decode cX4_sheet 64 = .ok (.iload_n 1, 1) := by decide +kernel
theorem dX4_sheet_65 : decode cX4_sheet 65 = .ok (.aaload, 1) := by decide +kernel
theorem dX4_sheet_66 : decode cX4_sheet 66 = .ok (.iload_n 2, 1) := by decide +kernel
theorem dX4_sheet_67 : decode cX4_sheet 67 = .ok (.iload_n 3, 1) := by decide +kernel
theorem dX4_sheet_68 : decode cX4_sheet 68 = .ok (.invokevirtual 242, 3) := by decide +kernel
theorem dX4_sheet_71 : decode cX4_sheet 71 = .ok (.aload_n 0, 1) := by decide +kernel
theorem dX4_sheet_72 : decode cX4_sheet 72 = .ok (.getfield 34, 3) := by decide +kernel
theorem dX4_sheet_75 : decode cX4_sheet 75 = .ok (.iload_n 1, 1) := by decide +kernel
theorem dX4_sheet_76 : decode cX4_sheet 76 = .ok (.aaload, 1) := by decide +kernel
theorem dX4_sheet_77 : decode cX4_sheet 77 = .ok (.getfield 245, 3) := by decide +kernel
theorem dX4_sheet_80 : decode cX4_sheet 80 = .ok (.ireturn, 1) := by decide +kernel
theorem dX4_write_0 : decode cX4_write 0 = .ok (.iload_n 1, 1) := by decide +kernel
theorem dX4_write_1 : decode cX4_write 1 = .ok (.invokestatic 189, 3) := by decide +kernel
theorem dX4_write_4 : decode cX4_write 4 = .ok (.ifCond .ne 10, 3) := by decide +kernel
theorem dX4_write_7 : decode cX4_write 7 = .ok (.aload_n 0, 1) := by decide +kernel
theorem dX4_write_8 : decode cX4_write 8 = .ok (.ldc 57, 2) := by decide +kernel
theorem dX4_write_10 : decode cX4_write 10 = .ok (.invokevirtual 58, 3) := by decide +kernel
theorem dX4_write_13 : decode cX4_write 13 = .ok (.ireturn, 1) := by decide +kernel
theorem dX4_write_14 : decode cX4_write 14 = .ok (.aload_n 0, 1) := by decide +kernel
theorem dX4_write_15 : decode cX4_write 15 = .ok (.getfield 34, 3) := by decide +kernel
theorem dX4_write_18 : decode cX4_write 18 = .ok (.iload_n 1, 1) := by decide +kernel
theorem dX4_write_19 : decode cX4_write 19 = .ok (.aaload, 1) := by decide +kernel
theorem dX4_write_20 : decode cX4_write 20 = .ok (.invokevirtual 192, 3) := by decide +kernel
theorem dX4_write_23 : decode cX4_write 23 = .ok (.ifCond .eq 10, 3) := by decide +kernel
theorem dX4_write_26 : decode cX4_write 26 = .ok (.aload_n 0, 1) := by decide +kernel
theorem dX4_write_27 : decode cX4_write 27 = .ok (.ldc 195, 2) := by decide +kernel
theorem dX4_write_29 : decode cX4_write 29 = .ok (.invokevirtual 58, 3) := by decide +kernel
theorem dX4_write_32 : decode cX4_write 32 = .ok (.ireturn, 1) := by decide +kernel
theorem dX4_write_33 : decode cX4_write 33 = .ok (.iload_n 2, 1) := by decide +kernel
theorem dX4_write_34 : decode cX4_write 34 = .ok (.iconst 0, 1) := by decide +kernel
theorem dX4_write_35 : decode cX4_write 35 = .ok (.aload_n 0, 1) := by decide +kernel
theorem dX4_write_36 : decode cX4_write 36 = .ok (.getfield 34, 3) := by decide +kernel
theorem dX4_write_39 : decode cX4_write 39 = .ok (.iload_n 1, 1) := by decide +kernel
theorem dX4_write_40 : decode cX4_write 40 = .ok (.aaload, 1) := by decide +kernel
theorem dX4_write_41 : decode cX4_write 41 = .ok (.getfield 245, 3) := by decide +kernel
theorem dX4_write_44 : decode cX4_write 44 = .ok (.iconst 1, 1) := by decide +kernel
theorem dX4_write_45 : decode cX4_write 45 = .ok (.isub, 1) := by decide +kernel
theorem dX4_write_46 : decode cX4_write 46 = .ok (.invokestatic 99, 3) := by decide +kernel
theorem dX4_write_49 : decode cX4_write 49 = .ok (.ifCond .ne 10, 3) := by decide +kernel
theorem dX4_write_52 : decode cX4_write 52 = .ok (.aload_n 0, 1) := by decide +kernel
theorem dX4_write_53 : decode cX4_write 53 = .ok (.ldc 57, 2) := by decide +kernel
theorem dX4_write_55 : decode cX4_write 55 = .ok (.invokevirtual 58, 3) := by decide +kernel
theorem dX4_write_58 : decode cX4_write 58 = .ok (.ireturn, 1) := by decide +kernel
theorem dX4_write_59 : decode cX4_write 59 = .ok (.aload_n 0, 1) := by decide +kernel
theorem dX4_write_60 : decode cX4_write 60 = .ok (.getfield 34, 3) := by decide +kernel
theorem dX4_write_63 : decode cX4_write 63 = .ok (.iload_n 1, 1) := by decide +kernel
theorem dX4_write_64 : decode cX4_write 64 = .ok (.aaload, 1) := by decide +kernel
theorem dX4_write_65 : decode cX4_write 65 = .ok (.iload_n 2, 1) := by decide +kernel
theorem dX4_write_66 : decode cX4_write 66 = .ok (.iload_n 3, 1) := by decide +kernel
theorem dX4_write_67 : decode cX4_write 67 = .ok (.invokevirtual 246, 3) := by decide +kernel
theorem dX4_write_70 : decode cX4_write 70 = .ok (.iconst 1, 1) := by decide +kernel
theorem dX4_write_71 : decode cX4_write 71 = .ok (.ireturn, 1) := by decide +kernel
theorem dX4_copy_0 : decode cX4_copy 0 = .ok (.iload_n 1, 1) := by decide +kernel
theorem dX4_copy_1 : decode cX4_copy 1 = .ok (.invokestatic 189, 3) := by decide +kernel
theorem dX4_copy_4 : decode cX4_copy 4 = .ok (.ifCond .eq 10, 3) := by decide +kernel
theorem dX4_copy_7 : decode cX4_copy 7 = .ok (.iload_n 3, 1) := by decide +kernel
theorem dX4_copy_8 : decode cX4_copy 8 = .ok (.invokestatic 189, 3) := by decide +kernel
theorem dX4_copy_11 : decode cX4_copy 11 = .ok (.ifCond .ne 10, 3) := by decide +kernel
theorem dX4_copy_14 : decode cX4_copy 14 = .ok (.aload_n 0, 1) := by decide +kernel
theorem dX4_copy_15 : decode cX4_copy 15 = .ok (.ldc 57, 2) := by decide +kernel
theorem dX4_copy_17 : decode cX4_copy 17 = .ok (.invokevirtual 58, 3) := by decide +kernel
theorem dX4_copy_20 : decode cX4_copy 20 = .ok (.ireturn, 1) := by decide +kernel
theorem dX4_copy_21 : decode cX4_copy 21 = .ok (.aload_n 0, 1) := by decide +kernel
theorem dX4_copy_22 : decode cX4_copy 22 = .ok (.getfield 34, 3) := by decide +kernel
theorem dX4_copy_25 : decode cX4_copy 25 = .ok (.iload_n 1, 1) := by decide +kernel
theorem dX4_copy_26 : decode cX4_copy 26 = .ok (.aaload, 1) := by decide +kernel
theorem dX4_copy_27 : decode cX4_copy 27 = .ok (.invokevirtual 192, 3) := by decide +kernel
theorem dX4_copy_30 : decode cX4_copy 30 = .ok (.ifCond .ne 15, 3) := by decide +kernel
theorem dX4_copy_33 : decode cX4_copy 33 = .ok (.aload_n 0, 1) := by decide +kernel
theorem dX4_copy_34 : decode cX4_copy 34 = .ok (.getfield 34, 3) := by decide +kernel
theorem dX4_copy_37 : decode cX4_copy 37 = .ok (.iload_n 3, 1) := by decide +kernel
theorem dX4_copy_38 : decode cX4_copy 38 = .ok (.aaload, 1) := by decide +kernel
theorem dX4_copy_39 : decode cX4_copy 39 = .ok (.invokevirtual 192, 3) := by decide +kernel
theorem dX4_copy_42 : decode cX4_copy 42 = .ok (.ifCond .eq 10, 3) := by decide +kernel
theorem dX4_copy_45 : decode cX4_copy 45 = .ok (.aload_n 0, 1) := by decide +kernel
theorem dX4_copy_46 : decode cX4_copy 46 = .ok (.ldc 195, 2) := by decide +kernel
theorem dX4_copy_48 : decode cX4_copy 48 = .ok (.invokevirtual 58, 3) := by decide +kernel
theorem dX4_copy_51 : decode cX4_copy 51 = .ok (.ireturn, 1) := by decide +kernel
theorem dX4_copy_52 : decode cX4_copy 52 = .ok (.aload_n 0, 1) := by decide +kernel
theorem dX4_copy_53 : decode cX4_copy 53 = .ok (.getfield 34, 3) := by decide +kernel
theorem dX4_copy_56 : decode cX4_copy 56 = .ok (.iload_n 1, 1) := by decide +kernel
theorem dX4_copy_57 : decode cX4_copy 57 = .ok (.aaload, 1) := by decide +kernel
theorem dX4_copy_58 : decode cX4_copy 58 = .ok (.getfield 249, 3) := by decide +kernel
theorem dX4_copy_61 : decode cX4_copy 61 = .ok (.aload_n 0, 1) := by decide +kernel
theorem dX4_copy_62 : decode cX4_copy 62 = .ok (.getfield 34, 3) := by decide +kernel
theorem dX4_copy_65 : decode cX4_copy 65 = .ok (.iload_n 3, 1) := by decide +kernel
theorem dX4_copy_66 : decode cX4_copy 66 = .ok (.aaload, 1) := by decide +kernel
theorem dX4_copy_67 : decode cX4_copy 67 = .ok (.getfield 249, 3) := by decide +kernel
theorem dX4_copy_70 : decode cX4_copy 70 = .ok (.if_icmp .eq 10, 3) := by decide +kernel
theorem dX4_copy_73 : decode cX4_copy 73 = .ok (.aload_n 0, 1) := by decide +kernel
theorem dX4_copy_74 : decode cX4_copy 74 = .ok (.ldc 240, 2) := by decide +kernel
theorem dX4_copy_76 : decode cX4_copy 76 = .ok (.invokevirtual 58, 3) := by decide +kernel
theorem dX4_copy_79 : decode cX4_copy 79 = .ok (.ireturn, 1) := by decide +kernel
theorem dX4_copy_80 : decode cX4_copy 80 = .ok (.aload_n 0, 1) := by decide +kernel
theorem dX4_copy_81 : decode cX4_copy 81 = .ok (.getfield 34, 3) := by decide +kernel
theorem dX4_copy_84 : decode cX4_copy 84 = .ok (.iload_n 1, 1) := by decide +kernel
theorem dX4_copy_85 : decode cX4_copy 85 = .ok (.aaload, 1) := by decide +kernel
theorem dX4_copy_86 : decode cX4_copy 86 = .ok (.iload_n 2, 1) := by decide +kernel
theorem dX4_copy_87 : decode cX4_copy 87 = .ok (.iload 5, 2) := by decide +kernel
theorem dX4_copy_89 : decode cX4_copy 89 = .ok (.invokevirtual 252, 3) := by decide +kernel
theorem dX4_copy_92 : decode cX4_copy 92 = .ok (.ifCond .eq 19, 3) := by decide +kernel
theorem dX4_copy_95 : decode cX4_copy 95 = .ok (.aload_n 0, 1) := by decide +kernel
theorem dX4_copy_96 : decode cX4_copy 96 = .ok (.getfield 34, 3) := by decide +kernel
theorem dX4_copy_99 : decode cX4_copy 99 = .ok (.iload_n 3, 1) := by decide +kernel
theorem dX4_copy_100 : decode cX4_copy 100 = .ok (.aaload, 1) := by decide +kernel
theorem dX4_copy_101 : decode cX4_copy 101 = .ok (.iload 4, 2) := by decide +kernel
theorem dX4_copy_103 : decode cX4_copy 103 = .ok (.iload 5, 2) := by decide +kernel
theorem dX4_copy_105 : decode cX4_copy 105 = .ok (.invokevirtual 252, 3) := by decide +kernel
theorem dX4_copy_108 : decode cX4_copy 108 = .ok (.ifCond .ne 10, 3) := by decide +kernel
theorem dX4_copy_111 : decode cX4_copy 111 = .ok (.aload_n 0, 1) := by decide +kernel
theorem dX4_copy_112 : decode cX4_copy 112 = .ok (.ldc 57, 2) := by decide +kernel
theorem dX4_copy_114 : decode cX4_copy 114 = .ok (.invokevirtual 58, 3) := by decide +kernel
theorem dX4_copy_117 : decode cX4_copy 117 = .ok (.ireturn, 1) := by decide +kernel
theorem dX4_copy_118 : decode cX4_copy 118 = .ok (.aload_n 0, 1) := by decide +kernel
theorem dX4_copy_119 : decode cX4_copy 119 = .ok (.getfield 34, 3) := by decide +kernel
theorem dX4_copy_122 : decode cX4_copy 122 = .ok (.iload_n 1, 1) := by decide +kernel
theorem dX4_copy_123 : decode cX4_copy 123 = .ok (.aaload, 1) := by decide +kernel
theorem dX4_copy_124 : decode cX4_copy 124 = .ok (.getfield 255, 3) := by decide +kernel
theorem dX4_copy_127 : decode cX4_copy 127 = .ok (.iload_n 2, 1) := by decide +kernel
theorem dX4_copy_128 : decode cX4_copy 128 = .ok (.aload_n 0, 1) := by decide +kernel
theorem dX4_copy_129 : decode cX4_copy 129 = .ok (.getfield 34, 3) := by decide +kernel
theorem dX4_copy_132 : decode cX4_copy 132 = .ok (.iload_n 3, 1) := by decide +kernel
theorem dX4_copy_133 : decode cX4_copy 133 = .ok (.aaload, 1) := by decide +kernel
theorem dX4_copy_134 : decode cX4_copy 134 = .ok (.getfield 255, 3) := by decide +kernel
theorem dX4_copy_137 : decode cX4_copy 137 = .ok (.iload 4, 2) := by decide +kernel
theorem dX4_copy_139 : decode cX4_copy 139 = .ok (.iload 5, 2) := by decide +kernel
theorem dX4_copy_141 : decode cX4_copy 141 = .ok (.invokestatic 258, 3) := by decide +kernel
theorem dX4_copy_144 : decode cX4_copy 144 = .ok (.iload 5, 2) := by decide +kernel
theorem dX4_copy_146 : decode cX4_copy 146 = .ok (.ireturn, 1) := by decide +kernel
theorem dX4_load_0 : decode cX4_load 0 = .ok (.iload_n 1, 1) := by decide +kernel
theorem dX4_load_1 : decode cX4_load 1 = .ok (.invokestatic 189, 3) := by decide +kernel
theorem dX4_load_4 : decode cX4_load 4 = .ok (.ifCond .ne 10, 3) := by decide +kernel
theorem dX4_load_7 : decode cX4_load 7 = .ok (.aload_n 0, 1) := by decide +kernel
theorem dX4_load_8 : decode cX4_load 8 = .ok (.ldc 57, 2) := by decide +kernel
theorem dX4_load_10 : decode cX4_load 10 = .ok (.invokevirtual 58, 3) := by decide +kernel
theorem dX4_load_13 : decode cX4_load 13 = .ok (.ireturn, 1) := by decide +kernel
theorem dX4_load_14 : decode cX4_load 14 = .ok (.aload_n 0, 1) := by decide +kernel
theorem dX4_load_15 : decode cX4_load 15 = .ok (.getfield 34, 3) := by decide +kernel
theorem dX4_load_18 : decode cX4_load 18 = .ok (.iload_n 1, 1) := by decide +kernel
theorem dX4_load_19 : decode cX4_load 19 = .ok (.aaload, 1) := by decide +kernel
theorem dX4_load_20 : decode cX4_load 20 = .ok (.invokevirtual 192, 3) := by decide +kernel
theorem dX4_load_23 : decode cX4_load 23 = .ok (.ifCond .eq 10, 3) := by decide +kernel
theorem dX4_load_26 : decode cX4_load 26 = .ok (.aload_n 0, 1) := by decide +kernel
theorem dX4_load_27 : decode cX4_load 27 = .ok (.ldc 195, 2) := by decide +kernel
theorem dX4_load_29 : decode cX4_load 29 = .ok (.invokevirtual 58, 3) := by decide +kernel
theorem dX4_load_32 : decode cX4_load 32 = .ok (.ireturn, 1) := by decide +kernel
theorem dX4_load_33 : decode cX4_load 33 = .ok (.aload_n 0, 1) := by decide +kernel
theorem dX4_load_34 : decode cX4_load 34 = .ok (.getfield 34, 3) := by decide +kernel
theorem dX4_load_37 : decode cX4_load 37 = .ok (.iload_n 1, 1) := by decide +kernel
theorem dX4_load_38 : decode cX4_load 38 = .ok (.aaload, 1) := by decide +kernel
theorem dX4_load_39 : decode cX4_load 39 = .ok (.getfield 245, 3) := by decide +kernel
theorem dX4_load_42 : decode cX4_load 42 = .ok (.bipush 8, 2) := by decide +kernel
theorem dX4_load_44 : decode cX4_load 44 = .ok (.invokestatic 264, 3) := by decide +kernel
theorem dX4_load_47 : decode cX4_load 47 = .ok (.istore_n 2, 1) := by decide +kernel
theorem dX4_load_48 : decode cX4_load 48 = .ok (.iconst 0, 1) := by decide +kernel
theorem dX4_load_49 : decode cX4_load 49 = .ok (.istore_n 3, 1) := by decide +kernel
theorem dX4_load_50 : decode cX4_load 50 = .ok (.iload_n 3, 1) := by decide +kernel
theorem dX4_load_51 : decode cX4_load 51 = .ok (.iload_n 2, 1) := by decide +kernel
theorem dX4_load_52 : decode cX4_load 52 = .ok (.if_icmp .ge 43, 3) := by decide +kernel
theorem dX4_load_55 : decode cX4_load 55 = .ok (.aload_n 0, 1) := by decide +kernel
end
section
theorem dX4_load_56 : decode cX4_load 56 = .ok (.getfield 34, 3) := by decide +kernel
theorem dX4_load_59 : decode cX4_load 59 = .ok (.iload_n 1, 1) := by decide +kernel
theorem dX4_load_60 : decode cX4_load 60 = .ok (.aaload, 1) := by decide +kernel
theorem dX4_load_61 : decode cX4_load 61 = .ok (.getfield 255, 3) := by decide +kernel
theorem dX4_load_64 : decode cX4_load 64 = .ok (.iload_n 3, 1) := by decide +kernel
theorem dX4_load_65 : decode cX4_load 65 = .ok (.iaload, 1) := by decide +kernel
theorem dX4_load_66 : decode cX4_load 66 = .ok (.istore 4, 2) := by decide +kernel
theorem dX4_load_68 : decode cX4_load 68 = .ok (.iload 4, 2) := by decide +kernel
theorem dX4_load_70 : decode cX4_load 70 = .ok (.invokestatic 54, 3) := by decide +kernel
theorem dX4_load_73 : decode cX4_load 73 = .ok (.ifCond .ne 5, 3) := by decide +kernel
theorem dX4_load_76 : decode cX4_load 76 = .ok (.iload_n 3, 1) := by decide +kernel
theorem dX4_load_77 : decode cX4_load 77 = .ok (.ireturn, 1) := by decide +kernel
theorem dX4_load_78 : decode cX4_load 78 = .ok (.aload_n 0, 1) := by decide +kernel
theorem dX4_load_79 : decode cX4_load 79 = .ok (.getfield 12, 3) := by decide +kernel
theorem dX4_load_82 : decode cX4_load 82 = .ok (.iconst 0, 1) := by decide +kernel
theorem dX4_load_83 : decode cX4_load 83 = .ok (.iload_n 3, 1) := by decide +kernel
theorem dX4_load_84 : decode cX4_load 84 = .ok (.iload 4, 2) := by decide +kernel
theorem dX4_load_86 : decode cX4_load 86 = .ok (.invokevirtual 66, 3) := by decide +kernel
theorem dX4_load_89 : decode cX4_load 89 = .ok (.iinc 3 1, 3) := by decide +kernel
theorem dX4_load_92 : decode cX4_load 92 = .ok (.goto (-42), 3) := by decide +kernel
theorem dX4_load_95 : decode cX4_load 95 = .ok (.iload_n 2, 1) := by decide +kernel
theorem dX4_load_96 : decode cX4_load 96 = .ok (.ireturn, 1) := by decide +kernel
theorem dX4_judge_0 : decode cX4_judge 0 = .ok (.iload_n 1, 1) := by decide +kernel
theorem dX4_judge_1 : decode cX4_judge 1 = .ok (.invokestatic 189, 3) := by decide +kernel
theorem dX4_judge_4 : decode cX4_judge 4 = .ok (.ifCond .ne 10, 3) := by decide +kernel
theorem dX4_judge_7 : decode cX4_judge 7 = .ok (.aload_n 0, 1) := by decide +kernel
theorem dX4_judge_8 : decode cX4_judge 8 = .ok (.ldc 57, 2) := by decide +kernel
theorem dX4_judge_10 : decode cX4_judge 10 = .ok (.invokevirtual 58, 3) := by decide +kernel
theorem dX4_judge_13 : decode cX4_judge 13 = .ok (.ireturn, 1) := by decide +kernel
theorem dX4_judge_14 : decode cX4_judge 14 = .ok (.aload_n 0, 1) := by decide +kernel
theorem dX4_judge_15 : decode cX4_judge 15 = .ok (.getfield 34, 3) := by decide +kernel
theorem dX4_judge_18 : decode cX4_judge 18 = .ok (.iload_n 1, 1) := by decide +kernel
theorem dX4_judge_19 : decode cX4_judge 19 = .ok (.aaload, 1) := by decide +kernel
theorem dX4_judge_20 : decode cX4_judge 20 = .ok (.invokevirtual 192, 3) := by decide +kernel
theorem dX4_judge_23 : decode cX4_judge 23 = .ok (.ifCond .eq 10, 3) := by decide +kernel
theorem dX4_judge_26 : decode cX4_judge 26 = .ok (.aload_n 0, 1) := by decide +kernel
theorem dX4_judge_27 : decode cX4_judge 27 = .ok (.ldc 195, 2) := by decide +kernel
theorem dX4_judge_29 : decode cX4_judge 29 = .ok (.invokevirtual 58, 3) := by decide +kernel
theorem dX4_judge_32 : decode cX4_judge 32 = .ok (.ireturn, 1) := by decide +kernel
theorem dX4_judge_33 : decode cX4_judge 33 = .ok (.iconst 0, 1) := by decide +kernel
theorem dX4_judge_34 : decode cX4_judge 34 = .ok (.istore_n 2, 1) := by decide +kernel
theorem dX4_judge_35 : decode cX4_judge 35 = .ok (.iload_n 2, 1) := by decide +kernel
theorem dX4_judge_36 : decode cX4_judge 36 = .ok (.aload_n 0, 1) := by decide +kernel
theorem dX4_judge_37 : decode cX4_judge 37 = .ok (.getfield 34, 3) := by decide +kernel
theorem dX4_judge_40 : decode cX4_judge 40 = .ok (.iload_n 1, 1) := by decide +kernel
theorem dX4_judge_41 : decode cX4_judge 41 = .ok (.aaload, 1) := by decide +kernel
theorem dX4_judge_42 : decode cX4_judge 42 = .ok (.getfield 245, 3) := by decide +kernel
theorem dX4_judge_45 : decode cX4_judge 45 = .ok (.if_icmp .ge 42, 3) := by decide +kernel
theorem dX4_judge_48 : decode cX4_judge 48 = .ok (.iload_n 2, 1) := by decide +kernel
theorem dX4_judge_49 : decode cX4_judge 49 = .ok (.invokestatic 47, 3) := by decide +kernel
theorem dX4_judge_52 : decode cX4_judge 52 = .ok (.ifCond .eq 25, 3) := by decide +kernel
theorem dX4_judge_55 : decode cX4_judge 55 = .ok (.aload_n 0, 1) := by decide +kernel
theorem dX4_judge_56 : decode cX4_judge 56 = .ok (.getfield 34, 3) := by decide +kernel
theorem dX4_judge_59 : decode cX4_judge 59 = .ok (.iload_n 1, 1) := by decide +kernel
theorem dX4_judge_60 : decode cX4_judge 60 = .ok (.aaload, 1) := by decide +kernel
theorem dX4_judge_61 : decode cX4_judge 61 = .ok (.getfield 255, 3) := by decide +kernel
theorem dX4_judge_64 : decode cX4_judge 64 = .ok (.iload_n 2, 1) := by decide +kernel
theorem dX4_judge_65 : decode cX4_judge 65 = .ok (.iaload, 1) := by decide +kernel
theorem dX4_judge_66 : decode cX4_judge 66 = .ok (.aload_n 0, 1) := by decide +kernel
theorem dX4_judge_67 : decode cX4_judge 67 = .ok (.getfield 12, 3) := by decide +kernel
theorem dX4_judge_70 : decode cX4_judge 70 = .ok (.iload_n 2, 1) := by decide +kernel
theorem dX4_judge_71 : decode cX4_judge 71 = .ok (.invokevirtual 70, 3) := by decide +kernel
theorem dX4_judge_74 : decode cX4_judge 74 = .ok (.if_icmp .eq 7, 3) := by decide +kernel
theorem dX4_judge_77 : decode cX4_judge 77 = .ok (.iconst 1, 1) := by decide +kernel
theorem dX4_judge_78 : decode cX4_judge 78 = .ok (.iload_n 2, 1) := by decide +kernel
theorem dX4_judge_79 : decode cX4_judge 79 = .ok (.iadd, 1) := by decide +kernel
theorem dX4_judge_80 : decode cX4_judge 80 = .ok (.ireturn, 1) := by decide +kernel
theorem dX4_judge_81 : decode cX4_judge 81 = .ok (.iinc 2 1, 3) := by decide +kernel
theorem dX4_judge_84 : decode cX4_judge 84 = .ok (.goto (-49), 3) := by decide +kernel
theorem dX4_judge_87 : decode cX4_judge 87 = .ok (.iconst 0, 1) := by decide +kernel
theorem dX4_judge_88 : decode cX4_judge 88 = .ok (.ireturn, 1) := by decide +kernel
theorem dX4_image_0 : decode cX4_image 0 = .ok (.aload_n 0, 1) := by decide +kernel
theorem dX4_image_1 : decode cX4_image 1 = .ok (.getfield 16, 3) := by decide +kernel
theorem dX4_image_4 : decode cX4_image 4 = .ok (.aload_n 0, 1) := by decide +kernel
theorem dX4_image_5 : decode cX4_image 5 = .ok (.getfield 12, 3) := by decide +kernel
theorem dX4_image_8 : decode cX4_image 8 = .ok (.invokevirtual 156, 3) := by decide +kernel
theorem dX4_image_11 : decode cX4_image 11 = .ok (.aload_n 0, 1) := by decide +kernel
theorem dX4_image_12 : decode cX4_image 12 = .ok (.iconst 1, 1) := by decide +kernel
theorem dX4_image_13 : decode cX4_image 13 = .ok (.putfield 42, 3) := by decide +kernel
theorem dX4_image_16 : decode cX4_image 16 = .ok (.iconst 1, 1) := by decide +kernel
theorem dX4_image_17 : decode cX4_image 17 = .ok (.ireturn, 1) := by decide +kernel
theorem dX4_undo_0 : decode cX4_undo 0 = .ok (.aload_n 0, 1) := by decide +kernel
theorem dX4_undo_1 : decode cX4_undo 1 = .ok (.getfield 42, 3) := by decide +kernel
theorem dX4_undo_4 : decode cX4_undo 4 = .ok (.ifCond .ne 10, 3) := by decide +kernel
theorem dX4_undo_7 : decode cX4_undo 7 = .ok (.aload_n 0, 1) := by decide +kernel
theorem dX4_undo_8 : decode cX4_undo 8 = .ok (.ldc 163, 2) := by decide +kernel
theorem dX4_undo_10 : decode cX4_undo 10 = .ok (.invokevirtual 58, 3) := by decide +kernel
theorem dX4_undo_13 : decode cX4_undo 13 = .ok (.ireturn, 1) := by decide +kernel
theorem dX4_undo_14 : decode cX4_undo 14 = .ok (.aload_n 0, 1) := by decide +kernel
theorem dX4_undo_15 : decode cX4_undo 15 = .ok (.getfield 12, 3) := by decide +kernel
theorem dX4_undo_18 : decode cX4_undo 18 = .ok (.aload_n 0, 1) := by decide +kernel
theorem dX4_undo_19 : decode cX4_undo 19 = .ok (.getfield 16, 3) := by decide +kernel
theorem dX4_undo_22 : decode cX4_undo 22 = .ok (.invokevirtual 156, 3) := by decide +kernel
theorem dX4_undo_25 : decode cX4_undo 25 = .ok (.aload_n 0, 1) := by decide +kernel
theorem dX4_undo_26 : decode cX4_undo 26 = .ok (.getfield 12, 3) := by decide +kernel
theorem dX4_undo_29 : decode cX4_undo 29 = .ok (.getfield 126, 3) := by decide +kernel
theorem dX4_undo_32 : decode cX4_undo 32 = .ok (.ireturn, 1) := by decide +kernel
theorem dX4_tear_0 : decode cX4_tear 0 = .ok (.aload_n 0, 1) := by decide +kernel
theorem dX4_tear_1 : decode cX4_tear 1 = .ok (.getfield 42, 3) := by decide +kernel
theorem dX4_tear_4 : decode cX4_tear 4 = .ok (.ifCond .eq 7, 3) := by decide +kernel
theorem dX4_tear_7 : decode cX4_tear 7 = .ok (.iconst 1, 1) := by decide +kernel
theorem dX4_tear_8 : decode cX4_tear 8 = .ok (.goto 4, 3) := by decide +kernel
theorem dX4_tear_11 : decode cX4_tear 11 = .ok (.iconst 0, 1) := by decide +kernel
theorem dX4_tear_12 : decode cX4_tear 12 = .ok (.istore_n 1, 1) := by decide +kernel
theorem dX4_tear_13 : decode cX4_tear 13 = .ok (.aload_n 0, 1) := by decide +kernel
theorem dX4_tear_14 : decode cX4_tear 14 = .ok (.iconst 0, 1) := by decide +kernel
theorem dX4_tear_15 : decode cX4_tear 15 = .ok (.putfield 42, 3) := by decide +kernel
theorem dX4_tear_18 : decode cX4_tear 18 = .ok (.iload_n 1, 1) := by decide +kernel
theorem dX4_tear_19 : decode cX4_tear 19 = .ok (.ireturn, 1) := by decide +kernel
theorem dX4_count_0 : decode cX4_count 0 = .ok (.iload_n 1, 1) := by decide +kernel
theorem dX4_count_1 : decode cX4_count 1 = .ok (.tableswitch 111 0 7 #[47, 55, 63, 71, 79, 87, 95, 103], 47) := by decide +kernel
theorem dX4_count_48 : decode cX4_count 48 = .ok (.aload_n 0, 1) := by decide +kernel
theorem dX4_count_49 : decode cX4_count 49 = .ok (.getfield 12, 3) := by decide +kernel
theorem dX4_count_52 : decode cX4_count 52 = .ok (.getfield 126, 3) := by decide +kernel
theorem dX4_count_55 : decode cX4_count 55 = .ok (.ireturn, 1) := by decide +kernel
theorem dX4_count_56 : decode cX4_count 56 = .ok (.aload_n 0, 1) := by decide +kernel
theorem dX4_count_57 : decode cX4_count 57 = .ok (.getfield 12, 3) := by decide +kernel
theorem dX4_count_60 : decode cX4_count 60 = .ok (.getfield 175, 3) := by decide +kernel
theorem dX4_count_63 : decode cX4_count 63 = .ok (.ireturn, 1) := by decide +kernel
theorem dX4_count_64 : decode cX4_count 64 = .ok (.aload_n 0, 1) := by decide +kernel
theorem dX4_count_65 : decode cX4_count 65 = .ok (.getfield 12, 3) := by decide +kernel
theorem dX4_count_68 : decode cX4_count 68 = .ok (.invokevirtual 136, 3) := by decide +kernel
theorem dX4_count_71 : decode cX4_count 71 = .ok (.ireturn, 1) := by decide +kernel
theorem dX4_count_72 : decode cX4_count 72 = .ok (.aload_n 0, 1) := by decide +kernel
theorem dX4_count_73 : decode cX4_count 73 = .ok (.getfield 12, 3) := by decide +kernel
theorem dX4_count_76 : decode cX4_count 76 = .ok (.invokevirtual 143, 3) := by decide +kernel
theorem dX4_count_79 : decode cX4_count 79 = .ok (.ireturn, 1) := by decide +kernel
theorem dX4_count_80 : decode cX4_count 80 = .ok (.aload_n 0, 1) := by decide +kernel
theorem dX4_count_81 : decode cX4_count 81 = .ok (.getfield 12, 3) := by decide +kernel
theorem dX4_count_84 : decode cX4_count 84 = .ok (.invokevirtual 140, 3) := by decide +kernel
theorem dX4_count_87 : decode cX4_count 87 = .ok (.ireturn, 1) := by decide +kernel
theorem dX4_count_88 : decode cX4_count 88 = .ok (.aload_n 0, 1) := by decide +kernel
theorem dX4_count_89 : decode cX4_count 89 = .ok (.getfield 28, 3) := by decide +kernel
theorem dX4_count_92 : decode cX4_count 92 = .ok (.getfield 216, 3) := by decide +kernel
theorem dX4_count_95 : decode cX4_count 95 = .ok (.ireturn, 1) := by decide +kernel
theorem dX4_count_96 : decode cX4_count 96 = .ok (.aload_n 0, 1) := by decide +kernel
theorem dX4_count_97 : decode cX4_count 97 = .ok (.getfield 12, 3) := by decide +kernel
theorem dX4_count_100 : decode cX4_count 100 = .ok (.getfield 213, 3) := by decide +kernel
theorem dX4_count_103 : decode cX4_count 103 = .ok (.ireturn, 1) := by decide +kernel
theorem dX4_count_104 : decode cX4_count 104 = .ok (.aload_n 0, 1) := by decide +kernel
theorem dX4_count_105 : decode cX4_count 105 = .ok (.getfield 12, 3) := by decide +kernel
theorem dX4_count_108 : decode cX4_count 108 = .ok (.invokevirtual 269, 3) := by decide +kernel
theorem dX4_count_111 : decode cX4_count 111 = .ok (.ireturn, 1) := by decide +kernel
theorem dX4_count_112 : decode cX4_count 112 = .ok (.aload_n 0, 1) := by decide +kernel
theorem dX4_count_113 : decode cX4_count 113 = .ok (.ldc 57, 2) := by decide +kernel
theorem dX4_count_115 : decode cX4_count 115 = .ok (.invokevirtual 58, 3) := by decide +kernel
theorem dX4_count_118 : decode cX4_count 118 = .ok (.ireturn, 1) := by decide +kernel
theorem dX4_status_0 : decode cX4_status 0 = .ok (.iload_n 1, 1) := by decide +kernel
theorem dX4_status_1 : decode cX4_status 1 = .ok (.iconst (-1), 1) := by decide +kernel
theorem dX4_status_2 : decode cX4_status 2 = .ok (.if_icmp .ne 30, 3) := by decide +kernel
theorem dX4_status_5 : decode cX4_status 5 = .ok (.iconst 0, 1) := by decide +kernel
theorem dX4_status_6 : decode cX4_status 6 = .ok (.istore_n 2, 1) := by decide +kernel
theorem dX4_status_7 : decode cX4_status 7 = .ok (.iconst 0, 1) := by decide +kernel
theorem dX4_status_8 : decode cX4_status 8 = .ok (.istore_n 3, 1) := by decide +kernel
theorem dX4_status_9 : decode cX4_status 9 = .ok (.iload_n 3, 1) := by decide +kernel
theorem dX4_status_10 : decode cX4_status 10 = .ok (.bipush 7, 2) := by decide +kernel
theorem dX4_status_12 : decode cX4_status 12 = .ok (.if_icmp .ge 18, 3) := by decide +kernel
theorem dX4_status_15 : decode cX4_status 15 = .ok (.iload_n 2, 1) := by decide +kernel
theorem dX4_status_16 : decode cX4_status 16 = .ok (.aload_n 0, 1) := by decide +kernel
theorem dX4_status_17 : decode cX4_status 17 = .ok (.getfield 38, 3) := by decide +kernel
theorem dX4_status_20 : decode cX4_status 20 = .ok (.iload_n 3, 1) := by decide +kernel
theorem dX4_status_21 : decode cX4_status 21 = .ok (.iaload, 1) := by decide +kernel
theorem dX4_status_22 : decode cX4_status 22 = .ok (.iadd, 1) := by decide +kernel
theorem dX4_status_23 : decode cX4_status 23 = .ok (.istore_n 2, 1) := by decide +kernel
theorem dX4_status_24 : decode cX4_status 24 = .ok (.iinc 3 1, 3) := by decide +kernel
theorem dX4_status_27 : decode cX4_status 27 = .ok (.goto (-18), 3) := by decide +kernel
theorem dX4_status_30 : decode cX4_status 30 = .ok (.iload_n 2, 1) := by decide +kernel
theorem dX4_status_31 : decode cX4_status 31 = .ok (.ireturn, 1) := by decide +kernel
theorem dX4_status_32 : decode cX4_status 32 = .ok (.iload_n 1, 1) := by decide +kernel
theorem dX4_status_33 : decode cX4_status 33 = .ok (.iconst 0, 1) := by decide +kernel
theorem dX4_status_34 : decode cX4_status 34 = .ok (.bipush 6, 2) := by decide +kernel
theorem dX4_status_36 : decode cX4_status 36 = .ok (.invokestatic 99, 3) := by decide +kernel
theorem dX4_status_39 : decode cX4_status 39 = .ok (.ifCond .eq 12, 3) := by decide +kernel
theorem dX4_status_42 : decode cX4_status 42 = .ok (.aload_n 0, 1) := by decide +kernel
theorem dX4_status_43 : decode cX4_status 43 = .ok (.getfield 38, 3) := by decide +kernel
theorem dX4_status_46 : decode cX4_status 46 = .ok (.iload_n 1, 1) := by decide +kernel
theorem dX4_status_47 : decode cX4_status 47 = .ok (.iaload, 1) := by decide +kernel
theorem dX4_status_48 : decode cX4_status 48 = .ok (.goto 9, 3) := by decide +kernel
theorem dX4_status_51 : decode cX4_status 51 = .ok (.aload_n 0, 1) := by decide +kernel
theorem dX4_status_52 : decode cX4_status 52 = .ok (.ldc 57, 2) := by decide +kernel
theorem dX4_status_54 : decode cX4_status 54 = .ok (.invokevirtual 58, 3) := by decide +kernel
theorem dX4_status_57 : decode cX4_status 57 = .ok (.ireturn, 1) := by decide +kernel
theorem dX4_finding_0 : decode cX4_finding 0 = .ok (.aload_n 0, 1) := by decide +kernel
theorem dX4_finding_1 : decode cX4_finding 1 = .ok (.getfield 38, 3) := by decide +kernel
theorem dX4_finding_4 : decode cX4_finding 4 = .ok (.ldc 57, 2) := by decide +kernel
theorem dX4_finding_6 : decode cX4_finding 6 = .ok (.iload_n 1, 1) := by decide +kernel
theorem dX4_finding_7 : decode cX4_finding 7 = .ok (.isub, 1) := by decide +kernel
theorem dX4_finding_8 : decode cX4_finding 8 = .ok (.dup2, 1) := by decide +kernel
theorem dX4_finding_9 : decode cX4_finding 9 = .ok (.iaload, 1) := by decide +kernel
theorem dX4_finding_10 : decode cX4_finding 10 = .ok (.iconst 1, 1) := by decide +kernel
theorem dX4_finding_11 : decode cX4_finding 11 = .ok (.iadd, 1) := by decide +kernel
theorem dX4_finding_12 : decode cX4_finding 12 = .ok (.iastore, 1) := by decide +kernel
theorem dX4_finding_13 : decode cX4_finding 13 = .ok (.iload_n 1, 1) := by decide +kernel
theorem dX4_finding_14 : decode cX4_finding 14 = .ok (.ireturn, 1) := by decide +kernel
theorem dX4_within_0 : decode cX4_within 0 = .ok (.iload_n 0, 1) := by decide +kernel
theorem dX4_within_1 : decode cX4_within 1 = .ok (.iload_n 1, 1) := by decide +kernel
theorem dX4_within_2 : decode cX4_within 2 = .ok (.if_icmp .lt 12, 3) := by decide +kernel
theorem dX4_within_5 : decode cX4_within 5 = .ok (.iload_n 0, 1) := by decide +kernel
theorem dX4_within_6 : decode cX4_within 6 = .ok (.iload_n 2, 1) := by decide +kernel
theorem dX4_within_7 : decode cX4_within 7 = .ok (.if_icmp .gt 7, 3) := by decide +kernel
theorem dX4_within_10 : decode cX4_within 10 = .ok (.iconst 1, 1) := by decide +kernel
theorem dX4_within_11 : decode cX4_within 11 = .ok (.goto 4, 3) := by decide +kernel
theorem dX4_within_14 : decode cX4_within 14 = .ok (.iconst 0, 1) := by decide +kernel
theorem dX4_within_15 : decode cX4_within 15 = .ok (.ireturn, 1) := by decide +kernel
theorem dX4_isPage_0 : decode cX4_isPage 0 = .ok (.iload_n 0, 1) := by decide +kernel
theorem dX4_isPage_1 : decode cX4_isPage 1 = .ok (.iconst 0, 1) := by decide +kernel
theorem dX4_isPage_2 : decode cX4_isPage 2 = .ok (.iconst 5, 1) := by decide +kernel
theorem dX4_isPage_3 : decode cX4_isPage 3 = .ok (.invokestatic 99, 3) := by decide +kernel
theorem dX4_isPage_6 : decode cX4_isPage 6 = .ok (.ireturn, 1) := by decide +kernel
theorem dX4_isPlace_0 : decode cX4_isPlace 0 = .ok (.iload_n 0, 1) := by decide +kernel
theorem dX4_isPlace_1 : decode cX4_isPlace 1 = .ok (.iconst 0, 1) := by decide +kernel
theorem dX4_isPlace_2 : decode cX4_isPlace 2 = .ok (.bipush 7, 2) := by decide +kernel
theorem dX4_isPlace_4 : decode cX4_isPlace 4 = .ok (.invokestatic 99, 3) := by decide +kernel
theorem dX4_isPlace_7 : decode cX4_isPlace 7 = .ok (.ireturn, 1) := by decide +kernel
theorem dX4_isWord_0 : decode cX4_isWord 0 = .ok (.iload_n 0, 1) := by decide +kernel
theorem dX4_isWord_1 : decode cX4_isWord 1 = .ok (.iconst 0, 1) := by decide +kernel
theorem dX4_isWord_2 : decode cX4_isWord 2 = .ok (.bipush 9, 2) := by decide +kernel
theorem dX4_isWord_4 : decode cX4_isWord 4 = .ok (.invokestatic 99, 3) := by decide +kernel
theorem dX4_isWord_7 : decode cX4_isWord 7 = .ok (.ireturn, 1) := by decide +kernel
theorem dX4_isKind_0 : decode cX4_isKind 0 = .ok (.iload_n 0, 1) := by decide +kernel
theorem dX4_isKind_1 : decode cX4_isKind 1 = .ok (.iconst 0, 1) := by decide +kernel
theorem dX4_isKind_2 : decode cX4_isKind 2 = .ok (.bipush 6, 2) := by decide +kernel
theorem dX4_isKind_4 : decode cX4_isKind 4 = .ok (.invokestatic 99, 3) := by decide +kernel
theorem dX4_isKind_7 : decode cX4_isKind 7 = .ok (.ireturn, 1) := by decide +kernel
theorem dX4_isSpot_0 : decode cX4_isSpot 0 = .ok (.iload_n 0, 1) := by decide +kernel
theorem dX4_isSpot_1 : decode cX4_isSpot 1 = .ok (.iconst 0, 1) := by decide +kernel
theorem dX4_isSpot_2 : decode cX4_isSpot 2 = .ok (.bipush 9, 2) := by decide +kernel
theorem dX4_isSpot_4 : decode cX4_isSpot 4 = .ok (.invokestatic 99, 3) := by decide +kernel
theorem dX4_isSpot_7 : decode cX4_isSpot 7 = .ok (.ireturn, 1) := by decide +kernel
theorem dX4_isSheet_0 : decode cX4_isSheet 0 = .ok (.iload_n 0, 1) := by decide +kernel
theorem dX4_isSheet_1 : decode cX4_isSheet 1 = .ok (.iconst 0, 1) := by decide +kernel
theorem dX4_isSheet_2 : decode cX4_isSheet 2 = .ok (.iconst 3, 1) := by decide +kernel
theorem dX4_isSheet_3 : decode cX4_isSheet 3 = .ok (.invokestatic 99, 3) := by decide +kernel
theorem dX4_isSheet_6 : decode cX4_isSheet 6 = .ok (.ireturn, 1) := by decide +kernel
theorem dX4_isMoth_0 : decode cX4_isMoth 0 = .ok (.iload_n 1, 1) := by decide +kernel
theorem dX4_isMoth_1 : decode cX4_isMoth 1 = .ok (.iconst 0, 1) := by decide +kernel
theorem dX4_isMoth_2 : decode cX4_isMoth 2 = .ok (.aload_n 0, 1) := by decide +kernel
theorem dX4_isMoth_3 : decode cX4_isMoth 3 = .ok (.getfield 12, 3) := by decide +kernel
theorem dX4_isMoth_6 : decode cX4_isMoth 6 = .ok (.getfield 175, 3) := by decide +kernel
theorem dX4_isMoth_9 : decode cX4_isMoth 9 = .ok (.iconst 1, 1) := by decide +kernel
theorem dX4_isMoth_10 : decode cX4_isMoth 10 = .ok (.isub, 1) := by decide +kernel
theorem dX4_isMoth_11 : decode cX4_isMoth 11 = .ok (.invokestatic 99, 3) := by decide +kernel
theorem dX4_isMoth_14 : decode cX4_isMoth 14 = .ok (.ireturn, 1) := by decide +kernel
theorem dX4_lookAhead_0 : decode cX4_lookAhead 0 = .ok (.aload_n 0, 1) := by decide +kernel
theorem dX4_lookAhead_1 : decode cX4_lookAhead 1 = .ok (.getfield 19, 3) := by decide +kernel
theorem dX4_lookAhead_4 : decode cX4_lookAhead 4 = .ok (.aload_n 0, 1) := by decide +kernel
theorem dX4_lookAhead_5 : decode cX4_lookAhead 5 = .ok (.getfield 12, 3) := by decide +kernel
theorem dX4_lookAhead_8 : decode cX4_lookAhead 8 = .ok (.invokevirtual 156, 3) := by decide +kernel
theorem dX4_lookAhead_11 : decode cX4_lookAhead 11 = .ok (.aload_n 0, 1) := by decide +kernel
theorem dX4_lookAhead_12 : decode cX4_lookAhead 12 = .ok (.getfield 19, 3) := by decide +kernel
theorem dX4_lookAhead_15 : decode cX4_lookAhead 15 = .ok (.iload_n 1, 1) := by decide +kernel
theorem dX4_lookAhead_16 : decode cX4_lookAhead 16 = .ok (.iconst 0, 1) := by decide +kernel
theorem dX4_lookAhead_17 : decode cX4_lookAhead 17 = .ok (.invokevirtual 132, 3) := by decide +kernel
theorem dX4_lookAhead_20 : decode cX4_lookAhead 20 = .ok (.return_, 1) := by decide +kernel
theorem dX4_bestTrait_0 : decode cX4_bestTrait 0 = .ok (.aload_n 0, 1) := by decide +kernel
theorem dX4_bestTrait_1 : decode cX4_bestTrait 1 = .ok (.iload_n 1, 1) := by decide +kernel
theorem dX4_bestTrait_2 : decode cX4_bestTrait 2 = .ok (.invokevirtual 96, 3) := by decide +kernel
theorem dX4_bestTrait_5 : decode cX4_bestTrait 5 = .ok (.ifCond .eq 21, 3) := by decide +kernel
theorem dX4_bestTrait_8 : decode cX4_bestTrait 8 = .ok (.iload_n 3, 1) := by decide +kernel
theorem dX4_bestTrait_9 : decode cX4_bestTrait 9 = .ok (.invokestatic 47, 3) := by decide +kernel
theorem dX4_bestTrait_12 : decode cX4_bestTrait 12 = .ok (.ifCond .eq 14, 3) := by decide +kernel
theorem dX4_bestTrait_15 : decode cX4_bestTrait 15 = .ok (.iload 4, 2) := by decide +kernel
theorem dX4_bestTrait_17 : decode cX4_bestTrait 17 = .ok (.iconst 0, 1) := by decide +kernel
theorem dX4_bestTrait_18 : decode cX4_bestTrait 18 = .ok (.bipush 40, 2) := by decide +kernel
theorem dX4_bestTrait_20 : decode cX4_bestTrait 20 = .ok (.invokestatic 99, 3) := by decide +kernel
theorem dX4_bestTrait_23 : decode cX4_bestTrait 23 = .ok (.ifCond .ne 10, 3) := by decide +kernel
theorem dX4_bestTrait_26 : decode cX4_bestTrait 26 = .ok (.aload_n 0, 1) := by decide +kernel
theorem dX4_bestTrait_27 : decode cX4_bestTrait 27 = .ok (.ldc 57, 2) := by decide +kernel
theorem dX4_bestTrait_29 : decode cX4_bestTrait 29 = .ok (.invokevirtual 58, 3) := by decide +kernel
theorem dX4_bestTrait_32 : decode cX4_bestTrait 32 = .ok (.ireturn, 1) := by decide +kernel
theorem dX4_bestTrait_33 : decode cX4_bestTrait 33 = .ok (.getstatic 109, 3) := by decide +kernel
theorem dX4_bestTrait_36 : decode cX4_bestTrait 36 = .ok (.iload_n 2, 1) := by decide +kernel
theorem dX4_bestTrait_37 : decode cX4_bestTrait 37 = .ok (.iaload, 1) := by decide +kernel
theorem dX4_bestTrait_38 : decode cX4_bestTrait 38 = .ok (.istore 5, 2) := by decide +kernel
theorem dX4_bestTrait_40 : decode cX4_bestTrait 40 = .ok (.iconst (-1), 1) := by decide +kernel
theorem dX4_bestTrait_41 : decode cX4_bestTrait 41 = .ok (.istore 6, 2) := by decide +kernel
theorem dX4_bestTrait_43 : decode cX4_bestTrait 43 = .ok (.getstatic 109, 3) := by decide +kernel
theorem dX4_bestTrait_46 : decode cX4_bestTrait 46 = .ok (.iload_n 2, 1) := by decide +kernel
theorem dX4_bestTrait_47 : decode cX4_bestTrait 47 = .ok (.iaload, 1) := by decide +kernel
theorem dX4_bestTrait_48 : decode cX4_bestTrait 48 = .ok (.istore 7, 2) := by decide +kernel
theorem dX4_bestTrait_50 : decode cX4_bestTrait 50 = .ok (.iload 7, 2) := by decide +kernel
theorem dX4_bestTrait_52 : decode cX4_bestTrait 52 = .ok (.getstatic 112, 3) := by decide +kernel
theorem dX4_bestTrait_55 : decode cX4_bestTrait 55 = .ok (.iload_n 2, 1) := by decide +kernel
theorem dX4_bestTrait_56 : decode cX4_bestTrait 56 = .ok (.iaload, 1) := by decide +kernel
theorem dX4_bestTrait_57 : decode cX4_bestTrait 57 = .ok (.if_icmp .gt 66, 3) := by decide +kernel
theorem dX4_bestTrait_60 : decode cX4_bestTrait 60 = .ok (.aload_n 0, 1) := by decide +kernel
theorem dX4_bestTrait_61 : decode cX4_bestTrait 61 = .ok (.getfield 19, 3) := by decide +kernel
theorem dX4_bestTrait_64 : decode cX4_bestTrait 64 = .ok (.aload_n 0, 1) := by decide +kernel
theorem dX4_bestTrait_65 : decode cX4_bestTrait 65 = .ok (.getfield 12, 3) := by decide +kernel
theorem dX4_bestTrait_68 : decode cX4_bestTrait 68 = .ok (.invokevirtual 156, 3) := by decide +kernel
theorem dX4_bestTrait_71 : decode cX4_bestTrait 71 = .ok (.aload_n 0, 1) := by decide +kernel
theorem dX4_bestTrait_72 : decode cX4_bestTrait 72 = .ok (.getfield 19, 3) := by decide +kernel
theorem dX4_bestTrait_75 : decode cX4_bestTrait 75 = .ok (.iload_n 1, 1) := by decide +kernel
theorem dX4_bestTrait_76 : decode cX4_bestTrait 76 = .ok (.iload_n 2, 1) := by decide +kernel
theorem dX4_bestTrait_77 : decode cX4_bestTrait 77 = .ok (.iload 7, 2) := by decide +kernel
theorem dX4_bestTrait_79 : decode cX4_bestTrait 79 = .ok (.invokevirtual 115, 3) := by decide +kernel
theorem dX4_bestTrait_82 : decode cX4_bestTrait 82 = .ok (.aload_n 0, 1) := by decide +kernel
theorem dX4_bestTrait_83 : decode cX4_bestTrait 83 = .ok (.getfield 19, 3) := by decide +kernel
theorem dX4_bestTrait_86 : decode cX4_bestTrait 86 = .ok (.iload 4, 2) := by decide +kernel
theorem dX4_bestTrait_88 : decode cX4_bestTrait 88 = .ok (.iconst 0, 1) := by decide +kernel
theorem dX4_bestTrait_89 : decode cX4_bestTrait 89 = .ok (.invokevirtual 132, 3) := by decide +kernel
theorem dX4_bestTrait_92 : decode cX4_bestTrait 92 = .ok (.aload_n 0, 1) := by decide +kernel
theorem dX4_bestTrait_93 : decode cX4_bestTrait 93 = .ok (.getfield 19, 3) := by decide +kernel
theorem dX4_bestTrait_96 : decode cX4_bestTrait 96 = .ok (.iload_n 3, 1) := by decide +kernel
theorem dX4_bestTrait_97 : decode cX4_bestTrait 97 = .ok (.invokevirtual 70, 3) := by decide +kernel
theorem dX4_bestTrait_100 : decode cX4_bestTrait 100 = .ok (.istore 8, 2) := by decide +kernel
theorem dX4_bestTrait_102 : decode cX4_bestTrait 102 = .ok (.iload 8, 2) := by decide +kernel
theorem dX4_bestTrait_104 : decode cX4_bestTrait 104 = .ok (.iload 6, 2) := by decide +kernel
theorem dX4_bestTrait_106 : decode cX4_bestTrait 106 = .ok (.if_icmp .le 11, 3) := by decide +kernel
theorem dX4_bestTrait_109 : decode cX4_bestTrait 109 = .ok (.iload 8, 2) := by decide +kernel
theorem dX4_bestTrait_111 : decode cX4_bestTrait 111 = .ok (.istore 6, 2) := by decide +kernel
theorem dX4_bestTrait_113 : decode cX4_bestTrait 113 = .ok (.iload 7, 2) := by decide +kernel
theorem dX4_bestTrait_115 : decode cX4_bestTrait 115 = .ok (.istore 5, 2) := by decide +kernel
theorem dX4_bestTrait_117 : decode cX4_bestTrait 117 = .ok (.iinc 7 1, 3) := by decide +kernel
theorem dX4_bestTrait_120 : decode cX4_bestTrait 120 = .ok (.goto (-70), 3) := by decide +kernel
theorem dX4_bestTrait_123 : decode cX4_bestTrait 123 = .ok (.iload 5, 2) := by decide +kernel
theorem dX4_bestTrait_125 : decode cX4_bestTrait 125 = .ok (.ireturn, 1) := by decide +kernel
theorem dX4_staysWithout_0 : decode cX4_staysWithout 0 = .ok (.aload_n 0, 1) := by decide +kernel
theorem dX4_staysWithout_1 : decode cX4_staysWithout 1 = .ok (.getfield 19, 3) := by decide +kernel
theorem dX4_staysWithout_4 : decode cX4_staysWithout 4 = .ok (.aload_n 0, 1) := by decide +kernel
theorem dX4_staysWithout_5 : decode cX4_staysWithout 5 = .ok (.getfield 12, 3) := by decide +kernel
theorem dX4_staysWithout_8 : decode cX4_staysWithout 8 = .ok (.invokevirtual 156, 3) := by decide +kernel
theorem dX4_staysWithout_11 : decode cX4_staysWithout 11 = .ok (.aload_n 0, 1) := by decide +kernel
theorem dX4_staysWithout_12 : decode cX4_staysWithout 12 = .ok (.getfield 19, 3) := by decide +kernel
theorem dX4_staysWithout_15 : decode cX4_staysWithout 15 = .ok (.iload_n 3, 1) := by decide +kernel
theorem dX4_staysWithout_16 : decode cX4_staysWithout 16 = .ok (.iload_n 1, 1) := by decide +kernel
theorem dX4_staysWithout_17 : decode cX4_staysWithout 17 = .ok (.invokevirtual 132, 3) := by decide +kernel
theorem dX4_staysWithout_20 : decode cX4_staysWithout 20 = .ok (.aload_n 0, 1) := by decide +kernel
theorem dX4_staysWithout_21 : decode cX4_staysWithout 21 = .ok (.getfield 19, 3) := by decide +kernel
theorem dX4_staysWithout_24 : decode cX4_staysWithout 24 = .ok (.aload_n 0, 1) := by decide +kernel
theorem dX4_staysWithout_25 : decode cX4_staysWithout 25 = .ok (.getfield 12, 3) := by decide +kernel
theorem dX4_staysWithout_28 : decode cX4_staysWithout 28 = .ok (.iload_n 2, 1) := by decide +kernel
theorem dX4_staysWithout_29 : decode cX4_staysWithout 29 = .ok (.invokevirtual 272, 3) := by decide +kernel
theorem dX4_staysWithout_32 : decode cX4_staysWithout 32 = .ok (.ireturn, 1) := by decide +kernel
theorem dX4_isPageAsTold_0 : decode cX4_isPageAsTold 0 = .ok (.aload_n 1, 1) := by decide +kernel
theorem dX4_isPageAsTold_1 : decode cX4_isPageAsTold 1 = .ok (.getfield 245, 3) := by decide +kernel
theorem dX4_isPageAsTold_4 : decode cX4_isPageAsTold 4 = .ok (.bipush 8, 2) := by decide +kernel
theorem dX4_isPageAsTold_6 : decode cX4_isPageAsTold 6 = .ok (.invokestatic 264, 3) := by decide +kernel
theorem dX4_isPageAsTold_9 : decode cX4_isPageAsTold 9 = .ok (.istore_n 3, 1) := by decide +kernel
theorem dX4_isPageAsTold_10 : decode cX4_isPageAsTold 10 = .ok (.iconst 0, 1) := by decide +kernel
theorem dX4_isPageAsTold_11 : decode cX4_isPageAsTold 11 = .ok (.istore 4, 2) := by decide +kernel
theorem dX4_isPageAsTold_13 : decode cX4_isPageAsTold 13 = .ok (.iload 4, 2) := by decide +kernel
theorem dX4_isPageAsTold_15 : decode cX4_isPageAsTold 15 = .ok (.iload_n 3, 1) := by decide +kernel
theorem dX4_isPageAsTold_16 : decode cX4_isPageAsTold 16 = .ok (.if_icmp .ge 42, 3) := by decide +kernel
theorem dX4_isPageAsTold_19 : decode cX4_isPageAsTold 19 = .ok (.aload_n 1, 1) := by decide +kernel
theorem dX4_isPageAsTold_20 : decode cX4_isPageAsTold 20 = .ok (.getfield 255, 3) := by decide +kernel
theorem dX4_isPageAsTold_23 : decode cX4_isPageAsTold 23 = .ok (.iload 4, 2) := by decide +kernel
theorem dX4_isPageAsTold_25 : decode cX4_isPageAsTold 25 = .ok (.iaload, 1) := by decide +kernel
theorem dX4_isPageAsTold_26 : decode cX4_isPageAsTold 26 = .ok (.iconst (-1), 1) := by decide +kernel
theorem dX4_isPageAsTold_27 : decode cX4_isPageAsTold 27 = .ok (.if_icmp .eq 25, 3) := by decide +kernel
theorem dX4_isPageAsTold_30 : decode cX4_isPageAsTold 30 = .ok (.aload_n 1, 1) := by decide +kernel
theorem dX4_isPageAsTold_31 : decode cX4_isPageAsTold 31 = .ok (.getfield 255, 3) := by decide +kernel
theorem dX4_isPageAsTold_34 : decode cX4_isPageAsTold 34 = .ok (.iload 4, 2) := by decide +kernel
theorem dX4_isPageAsTold_36 : decode cX4_isPageAsTold 36 = .ok (.iaload, 1) := by decide +kernel
theorem dX4_isPageAsTold_37 : decode cX4_isPageAsTold 37 = .ok (.aload_n 0, 1) := by decide +kernel
theorem dX4_isPageAsTold_38 : decode cX4_isPageAsTold 38 = .ok (.getfield 19, 3) := by decide +kernel
theorem dX4_isPageAsTold_41 : decode cX4_isPageAsTold 41 = .ok (.iload_n 2, 1) := by decide +kernel
theorem dX4_isPageAsTold_42 : decode cX4_isPageAsTold 42 = .ok (.iload 4, 2) := by decide +kernel
theorem dX4_isPageAsTold_44 : decode cX4_isPageAsTold 44 = .ok (.invokevirtual 62, 3) := by decide +kernel
theorem dX4_isPageAsTold_47 : decode cX4_isPageAsTold 47 = .ok (.if_icmp .eq 5, 3) := by decide +kernel
theorem dX4_isPageAsTold_50 : decode cX4_isPageAsTold 50 = .ok (.iconst 0, 1) := by decide +kernel
theorem dX4_isPageAsTold_51 : decode cX4_isPageAsTold 51 = .ok (.ireturn, 1) := by decide +kernel
theorem dX4_isPageAsTold_52 : decode cX4_isPageAsTold 52 = .ok (.iinc 4 1, 3) := by decide +kernel
theorem dX4_isPageAsTold_55 : decode cX4_isPageAsTold 55 = .ok (.goto (-42), 3) := by decide +kernel
theorem dX4_isPageAsTold_58 : decode cX4_isPageAsTold 58 = .ok (.iconst 1, 1) := by decide +kernel
theorem dX4_isPageAsTold_59 : decode cX4_isPageAsTold 59 = .ok (.ireturn, 1) := by decide +kernel
theorem dX4_isFedAsTold_0 : decode cX4_isFedAsTold 0 = .ok (.iconst 0, 1) := by decide +kernel
theorem dX4_isFedAsTold_1 : decode cX4_isFedAsTold 1 = .ok (.istore_n 3, 1) := by decide +kernel
theorem dX4_isFedAsTold_2 : decode cX4_isFedAsTold 2 = .ok (.iload_n 3, 1) := by decide +kernel
theorem dX4_isFedAsTold_3 : decode cX4_isFedAsTold 3 = .ok (.aload_n 1, 1) := by decide +kernel
theorem dX4_isFedAsTold_4 : decode cX4_isFedAsTold 4 = .ok (.getfield 245, 3) := by decide +kernel
theorem dX4_isFedAsTold_7 : decode cX4_isFedAsTold 7 = .ok (.if_icmp .ge 48, 3) := by decide +kernel
theorem dX4_isFedAsTold_10 : decode cX4_isFedAsTold 10 = .ok (.aload_n 1, 1) := by decide +kernel
theorem dX4_isFedAsTold_11 : decode cX4_isFedAsTold 11 = .ok (.getfield 255, 3) := by decide +kernel
theorem dX4_isFedAsTold_14 : decode cX4_isFedAsTold 14 = .ok (.iload_n 3, 1) := by decide +kernel
theorem dX4_isFedAsTold_15 : decode cX4_isFedAsTold 15 = .ok (.iaload, 1) := by decide +kernel
theorem dX4_isFedAsTold_16 : decode cX4_isFedAsTold 16 = .ok (.iconst (-1), 1) := by decide +kernel
theorem dX4_isFedAsTold_17 : decode cX4_isFedAsTold 17 = .ok (.if_icmp .eq 23, 3) := by decide +kernel
theorem dX4_isFedAsTold_20 : decode cX4_isFedAsTold 20 = .ok (.aload_n 1, 1) := by decide +kernel
theorem dX4_isFedAsTold_21 : decode cX4_isFedAsTold 21 = .ok (.getfield 255, 3) := by decide +kernel
theorem dX4_isFedAsTold_24 : decode cX4_isFedAsTold 24 = .ok (.iload_n 3, 1) := by decide +kernel
theorem dX4_isFedAsTold_25 : decode cX4_isFedAsTold 25 = .ok (.iaload, 1) := by decide +kernel
theorem dX4_isFedAsTold_26 : decode cX4_isFedAsTold 26 = .ok (.aload_n 0, 1) := by decide +kernel
theorem dX4_isFedAsTold_27 : decode cX4_isFedAsTold 27 = .ok (.getfield 19, 3) := by decide +kernel
theorem dX4_isFedAsTold_30 : decode cX4_isFedAsTold 30 = .ok (.iload_n 2, 1) := by decide +kernel
theorem dX4_isFedAsTold_31 : decode cX4_isFedAsTold 31 = .ok (.iconst 3, 1) := by decide +kernel
theorem dX4_isFedAsTold_32 : decode cX4_isFedAsTold 32 = .ok (.invokevirtual 106, 3) := by decide +kernel
theorem dX4_isFedAsTold_35 : decode cX4_isFedAsTold 35 = .ok (.if_icmp .eq 5, 3) := by decide +kernel
theorem dX4_isFedAsTold_38 : decode cX4_isFedAsTold 38 = .ok (.iconst 0, 1) := by decide +kernel
theorem dX4_isFedAsTold_39 : decode cX4_isFedAsTold 39 = .ok (.ireturn, 1) := by decide +kernel
theorem dX4_isFedAsTold_40 : decode cX4_isFedAsTold 40 = .ok (.aload_n 0, 1) := by decide +kernel
theorem dX4_isFedAsTold_41 : decode cX4_isFedAsTold 41 = .ok (.getfield 19, 3) := by decide +kernel
theorem dX4_isFedAsTold_44 : decode cX4_isFedAsTold 44 = .ok (.iconst 1, 1) := by decide +kernel
theorem dX4_isFedAsTold_45 : decode cX4_isFedAsTold 45 = .ok (.iconst 0, 1) := by decide +kernel
theorem dX4_isFedAsTold_46 : decode cX4_isFedAsTold 46 = .ok (.invokevirtual 132, 3) := by decide +kernel
theorem dX4_isFedAsTold_49 : decode cX4_isFedAsTold 49 = .ok (.iinc 3 1, 3) := by decide +kernel
theorem dX4_isFedAsTold_52 : decode cX4_isFedAsTold 52 = .ok (.goto (-50), 3) := by decide +kernel
theorem dX4_isFedAsTold_55 : decode cX4_isFedAsTold 55 = .ok (.iconst 1, 1) := by decide +kernel
theorem dX4_isFedAsTold_56 : decode cX4_isFedAsTold 56 = .ok (.ireturn, 1) := by decide +kernel
theorem dX4_commonDivisor_0 : decode cX4_commonDivisor 0 = .ok (.iload_n 1, 1) := by decide +kernel
theorem dX4_commonDivisor_1 : decode cX4_commonDivisor 1 = .ok (.istore_n 2, 1) := by decide +kernel
theorem dX4_commonDivisor_2 : decode cX4_commonDivisor 2 = .ok (.iload_n 2, 1) := by decide +kernel
theorem dX4_commonDivisor_3 : decode cX4_commonDivisor 3 = .ok (.iconst 1, 1) := by decide +kernel
theorem dX4_commonDivisor_4 : decode cX4_commonDivisor 4 = .ok (.if_icmp .le 23, 3) := by decide +kernel
theorem dX4_commonDivisor_7 : decode cX4_commonDivisor 7 = .ok (.iload_n 0, 1) := by decide +kernel
theorem dX4_commonDivisor_8 : decode cX4_commonDivisor 8 = .ok (.iload_n 2, 1) := by decide +kernel
theorem dX4_commonDivisor_9 : decode cX4_commonDivisor 9 = .ok (.irem, 1) := by decide +kernel
theorem dX4_commonDivisor_10 : decode cX4_commonDivisor 10 = .ok (.ifCond .ne 11, 3) := by decide +kernel
theorem dX4_commonDivisor_13 : decode cX4_commonDivisor 13 = .ok (.iload_n 1, 1) := by decide +kernel
theorem dX4_commonDivisor_14 : decode cX4_commonDivisor 14 = .ok (.iload_n 2, 1) := by decide +kernel
theorem dX4_commonDivisor_15 : decode cX4_commonDivisor 15 = .ok (.irem, 1) := by decide +kernel
theorem dX4_commonDivisor_16 : decode cX4_commonDivisor 16 = .ok (.ifCond .ne 5, 3) := by decide +kernel
theorem dX4_commonDivisor_19 : decode cX4_commonDivisor 19 = .ok (.iload_n 2, 1) := by decide +kernel
theorem dX4_commonDivisor_20 : decode cX4_commonDivisor 20 = .ok (.ireturn, 1) := by decide +kernel
theorem dX4_commonDivisor_21 : decode cX4_commonDivisor 21 = .ok (.iinc 2 (-1), 3) := by decide +kernel
theorem dX4_commonDivisor_24 : decode cX4_commonDivisor 24 = .ok (.goto (-22), 3) := by decide +kernel
theorem dX4_commonDivisor_27 : decode cX4_commonDivisor 27 = .ok (.iconst 1, 1) := by decide +kernel
theorem dX4_commonDivisor_28 : decode cX4_commonDivisor 28 = .ok (.ireturn, 1) := by decide +kernel
theorem dX4_power_0 : decode cX4_power 0 = .ok (.lconst 1, 1) := by decide +kernel
theorem dX4_power_1 : decode cX4_power 1 = .ok (.lstore_n 3, 1) := by decide +kernel
theorem dX4_power_2 : decode cX4_power 2 = .ok (.iconst 0, 1) := by decide +kernel
theorem dX4_power_3 : decode cX4_power 3 = .ok (.istore 5, 2) := by decide +kernel
theorem dX4_power_5 : decode cX4_power 5 = .ok (.iload 5, 2) := by decide +kernel
theorem dX4_power_7 : decode cX4_power 7 = .ok (.iload_n 2, 1) := by decide +kernel
theorem dX4_power_8 : decode cX4_power 8 = .ok (.if_icmp .ge 13, 3) := by decide +kernel
theorem dX4_power_11 : decode cX4_power 11 = .ok (.lload_n 3, 1) := by decide +kernel
theorem dX4_power_12 : decode cX4_power 12 = .ok (.lload_n 0, 1) := by decide +kernel
theorem dX4_power_13 : decode cX4_power 13 = .ok (.lmul, 1) := by decide +kernel
theorem dX4_power_14 : decode cX4_power 14 = .ok (.lstore_n 3, 1) := by decide +kernel
theorem dX4_power_15 : decode cX4_power 15 = .ok (.iinc 5 1, 3) := by decide +kernel
theorem dX4_power_18 : decode cX4_power 18 = .ok (.goto (-13), 3) := by decide +kernel
theorem dX4_power_21 : decode cX4_power 21 = .ok (.lload_n 3, 1) := by decide +kernel
theorem dX4_power_22 : decode cX4_power 22 = .ok (.lreturn, 1) := by decide +kernel
theorem dX5_init_0 : decode cX5_init 0 = .ok (.aload_n 0, 1) := by decide +kernel
theorem dX5_init_1 : decode cX5_init 1 = .ok (.invokespecial 1, 3) := by decide +kernel
theorem dX5_init_4 : decode cX5_init 4 = .ok (.aload_n 0, 1) := by decide +kernel
theorem dX5_init_5 : decode cX5_init 5 = .ok (.bipush 93, 2) := by decide +kernel
theorem dX5_init_7 : decode cX5_init 7 = .ok (.newarray .int, 2) := by decide +kernel
theorem dX5_init_9 : decode cX5_init 9 = .ok (.putfield 7, 3) := by decide +kernel
theorem dX5_init_12 : decode cX5_init 12 = .ok (.aload_n 0, 1) := by decide +kernel
theorem dX5_init_13 : decode cX5_init 13 = .ok (.bipush 93, 2) := by decide +kernel
theorem dX5_init_15 : decode cX5_init 15 = .ok (.newarray .int, 2) := by decide +kernel
theorem dX5_init_17 : decode cX5_init 17 = .ok (.putfield 13, 3) := by decide +kernel
theorem dX5_init_20 : decode cX5_init 20 = .ok (.aload_n 0, 1) := by decide +kernel
theorem dX5_init_21 : decode cX5_init 21 = .ok (.bipush 93, 2) := by decide +kernel
theorem dX5_init_23 : decode cX5_init 23 = .ok (.newarray .int, 2) := by decide +kernel
theorem dX5_init_25 : decode cX5_init 25 = .ok (.putfield 16, 3) := by decide +kernel
theorem dX5_init_28 : decode cX5_init 28 = .ok (.aload_n 0, 1) := by decide +kernel
theorem dX5_init_29 : decode cX5_init 29 = .ok (.bipush 93, 2) := by decide +kernel
theorem dX5_init_31 : decode cX5_init 31 = .ok (.newarray .int, 2) := by decide +kernel
theorem dX5_init_33 : decode cX5_init 33 = .ok (.putfield 19, 3) := by decide +kernel
theorem dX5_init_36 : decode cX5_init 36 = .ok (.aload_n 0, 1) := by decide +kernel
theorem dX5_init_37 : decode cX5_init 37 = .ok (.bipush 8, 2) := by decide +kernel
theorem dX5_init_39 : decode cX5_init 39 = .ok (.newarray .int, 2) := by decide +kernel
theorem dX5_init_41 : decode cX5_init 41 = .ok (.putfield 22, 3) := by decide +kernel
theorem dX5_init_44 : decode cX5_init 44 = .ok (.aload_n 0, 1) := by decide +kernel
theorem dX5_init_45 : decode cX5_init 45 = .ok (.bipush 120, 2) := by decide +kernel
theorem dX5_init_47 : decode cX5_init 47 = .ok (.newarray .int, 2) := by decide +kernel
theorem dX5_init_49 : decode cX5_init 49 = .ok (.putfield 25, 3) := by decide +kernel
theorem dX5_init_52 : decode cX5_init 52 = .ok (.aload_n 0, 1) := by decide +kernel
theorem dX5_init_53 : decode cX5_init 53 = .ok (.iconst 4, 1) := by decide +kernel
theorem dX5_init_54 : decode cX5_init 54 = .ok (.newarray .int, 2) := by decide +kernel
theorem dX5_init_56 : decode cX5_init 56 = .ok (.dup, 1) := by decide +kernel
theorem dX5_init_57 : decode cX5_init 57 = .ok (.iconst 0, 1) := by decide +kernel
theorem dX5_init_58 : decode cX5_init 58 = .ok (.iconst (-1), 1) := by decide +kernel
theorem dX5_init_59 : decode cX5_init 59 = .ok (.iastore, 1) := by decide +kernel
theorem dX5_init_60 : decode cX5_init 60 = .ok (.dup, 1) := by decide +kernel
theorem dX5_init_61 : decode cX5_init 61 = .ok (.iconst 1, 1) := by decide +kernel
theorem dX5_init_62 : decode cX5_init 62 = .ok (.iconst (-1), 1) := by decide +kernel
theorem dX5_init_63 : decode cX5_init 63 = .ok (.iastore, 1) := by decide +kernel
theorem dX5_init_64 : decode cX5_init 64 = .ok (.dup, 1) := by decide +kernel
theorem dX5_init_65 : decode cX5_init 65 = .ok (.iconst 2, 1) := by decide +kernel
theorem dX5_init_66 : decode cX5_init 66 = .ok (.iconst (-1), 1) := by decide +kernel
theorem dX5_init_67 : decode cX5_init 67 = .ok (.iastore, 1) := by decide +kernel
theorem dX5_init_68 : decode cX5_init 68 = .ok (.dup, 1) := by decide +kernel
theorem dX5_init_69 : decode cX5_init 69 = .ok (.iconst 3, 1) := by decide +kernel
theorem dX5_init_70 : decode cX5_init 70 = .ok (.iconst (-1), 1) := by decide +kernel
theorem dX5_init_71 : decode cX5_init 71 = .ok (.iastore, 1) := by decide +kernel
theorem dX5_init_72 : decode cX5_init 72 = .ok (.putfield 28, 3) := by decide +kernel
theorem dX5_init_75 : decode cX5_init 75 = .ok (.aload_n 0, 1) := by decide +kernel
theorem dX5_init_76 : decode cX5_init 76 = .ok (.iconst 4, 1) := by decide +kernel
theorem dX5_init_77 : decode cX5_init 77 = .ok (.newarray .int, 2) := by decide +kernel
theorem dX5_init_79 : decode cX5_init 79 = .ok (.putfield 31, 3) := by decide +kernel
theorem dX5_init_82 : decode cX5_init 82 = .ok (.aload_n 0, 1) := by decide +kernel
theorem dX5_init_83 : decode cX5_init 83 = .ok (.sipush 160, 3) := by decide +kernel
theorem dX5_init_86 : decode cX5_init 86 = .ok (.newarray .int, 2) := by decide +kernel
theorem dX5_init_88 : decode cX5_init 88 = .ok (.putfield 34, 3) := by decide +kernel
theorem dX5_init_91 : decode cX5_init 91 = .ok (.aload_n 0, 1) := by decide +kernel
theorem dX5_init_92 : decode cX5_init 92 = .ok (.bipush 48, 2) := by decide +kernel
theorem dX5_init_94 : decode cX5_init 94 = .ok (.newarray .int, 2) := by decide +kernel
theorem dX5_init_96 : decode cX5_init 96 = .ok (.putfield 37, 3) := by decide +kernel
theorem dX5_init_99 : decode cX5_init 99 = .ok (.aload_n 0, 1) := by decide +kernel
theorem dX5_init_100 : decode cX5_init 100 = .ok (.getfield 7, 3) := by decide +kernel
theorem dX5_init_103 : decode cX5_init 103 = .ok (.iconst 2, 1) := by decide +kernel
theorem dX5_init_104 : decode cX5_init 104 = .ok (.iconst 1, 1) := by decide +kernel
theorem dX5_init_105 : decode cX5_init 105 = .ok (.iastore, 1) := by decide +kernel
theorem dX5_init_106 : decode cX5_init 106 = .ok (.iconst 0, 1) := by decide +kernel
theorem dX5_init_107 : decode cX5_init 107 = .ok (.istore_n 1, 1) := by decide +kernel
theorem dX5_init_108 : decode cX5_init 108 = .ok (.iload_n 1, 1) := by decide +kernel
theorem dX5_init_109 : decode cX5_init 109 = .ok (.bipush 10, 2) := by decide +kernel
theorem dX5_init_111 : decode cX5_init 111 = .ok (.if_icmp .ge 19, 3) := by decide +kernel
theorem dX5_init_114 : decode cX5_init 114 = .ok (.aload_n 0, 1) := by decide +kernel
theorem dX5_init_115 : decode cX5_init 115 = .ok (.getfield 7, 3) := by decide +kernel
theorem dX5_init_118 : decode cX5_init 118 = .ok (.bipush 83, 2) := by decide +kernel
theorem dX5_init_120 : decode cX5_init 120 = .ok (.iload_n 1, 1) := by decide +kernel
theorem dX5_init_121 : decode cX5_init 121 = .ok (.iadd, 1) := by decide +kernel
theorem dX5_init_122 : decode cX5_init 122 = .ok (.iconst (-1), 1) := by decide +kernel
theorem dX5_init_123 : decode cX5_init 123 = .ok (.iastore, 1) := by decide +kernel
theorem dX5_init_124 : decode cX5_init 124 = .ok (.iinc 1 1, 3) := by decide +kernel
theorem dX5_init_127 : decode cX5_init 127 = .ok (.goto (-19), 3) := by decide +kernel
theorem dX5_init_130 : decode cX5_init 130 = .ok (.return_, 1) := by decide +kernel
theorem dX5_isIn_0 : decode cX5_isIn 0 = .ok (.lload_n 0, 1) := by decide +kernel
theorem dX5_isIn_1 : decode cX5_isIn 1 = .ok (.lload_n 2, 1) := by decide +kernel
theorem dX5_isIn_2 : decode cX5_isIn 2 = .ok (.lcmp, 1) := by decide +kernel
theorem dX5_isIn_3 : decode cX5_isIn 3 = .ok (.ifCond .lt 14, 3) := by decide +kernel
theorem dX5_isIn_6 : decode cX5_isIn 6 = .ok (.lload_n 0, 1) := by decide +kernel
theorem dX5_isIn_7 : decode cX5_isIn 7 = .ok (.lload 4, 2) := by decide +kernel
theorem dX5_isIn_9 : decode cX5_isIn 9 = .ok (.lcmp, 1) := by decide +kernel
theorem dX5_isIn_10 : decode cX5_isIn 10 = .ok (.ifCond .gt 7, 3) := by decide +kernel
theorem dX5_isIn_13 : decode cX5_isIn 13 = .ok (.iconst 1, 1) := by decide +kernel
theorem dX5_isIn_14 : decode cX5_isIn 14 = .ok (.goto 4, 3) := by decide +kernel
theorem dX5_isIn_17 : decode cX5_isIn 17 = .ok (.iconst 0, 1) := by decide +kernel
theorem dX5_isIn_18 : decode cX5_isIn 18 = .ok (.ireturn, 1) := by decide +kernel
theorem dX5_finds_0 : decode cX5_finds 0 = .ok (.aload_n 0, 1) := by decide +kernel
theorem dX5_finds_1 : decode cX5_finds 1 = .ok (.getfield 22, 3) := by decide +kernel
theorem dX5_finds_4 : decode cX5_finds 4 = .ok (.iconst 0, 1) := by decide +kernel
theorem dX5_finds_5 : decode cX5_finds 5 = .ok (.dup2, 1) := by decide +kernel
theorem dX5_finds_6 : decode cX5_finds 6 = .ok (.iaload, 1) := by decide +kernel
theorem dX5_finds_7 : decode cX5_finds 7 = .ok (.iconst 1, 1) := by decide +kernel
theorem dX5_finds_8 : decode cX5_finds 8 = .ok (.iadd, 1) := by decide +kernel
theorem dX5_finds_9 : decode cX5_finds 9 = .ok (.iastore, 1) := by decide +kernel
theorem dX5_finds_10 : decode cX5_finds 10 = .ok (.aload_n 0, 1) := by decide +kernel
theorem dX5_finds_11 : decode cX5_finds 11 = .ok (.getfield 22, 3) := by decide +kernel
theorem dX5_finds_14 : decode cX5_finds 14 = .ok (.ldc 40, 2) := by decide +kernel
theorem dX5_finds_16 : decode cX5_finds 16 = .ok (.iload_n 1, 1) := by decide +kernel
theorem dX5_finds_17 : decode cX5_finds 17 = .ok (.isub, 1) := by decide +kernel
theorem dX5_finds_18 : decode cX5_finds 18 = .ok (.iconst 1, 1) := by decide +kernel
theorem dX5_finds_19 : decode cX5_finds 19 = .ok (.iadd, 1) := by decide +kernel
theorem dX5_finds_20 : decode cX5_finds 20 = .ok (.dup2, 1) := by decide +kernel
theorem dX5_finds_21 : decode cX5_finds 21 = .ok (.iaload, 1) := by decide +kernel
theorem dX5_finds_22 : decode cX5_finds 22 = .ok (.iconst 1, 1) := by decide +kernel
theorem dX5_finds_23 : decode cX5_finds 23 = .ok (.iadd, 1) := by decide +kernel
theorem dX5_finds_24 : decode cX5_finds 24 = .ok (.iastore, 1) := by decide +kernel
theorem dX5_finds_25 : decode cX5_finds 25 = .ok (.iload_n 1, 1) := by decide +kernel
theorem dX5_finds_26 : decode cX5_finds 26 = .ok (.ireturn, 1) := by decide +kernel
theorem dX5_becomes_0 : decode cX5_becomes 0 = .ok (.aload_n 0, 1) := by decide +kernel
theorem dX5_becomes_1 : decode cX5_becomes 1 = .ok (.getfield 7, 3) := by decide +kernel
theorem dX5_becomes_4 : decode cX5_becomes 4 = .ok (.iload_n 1, 1) := by decide +kernel
theorem dX5_becomes_5 : decode cX5_becomes 5 = .ok (.iaload, 1) := by decide +kernel
theorem dX5_becomes_6 : decode cX5_becomes 6 = .ok (.istore_n 3, 1) := by decide +kernel
theorem dX5_becomes_7 : decode cX5_becomes 7 = .ok (.aload_n 0, 1) := by decide +kernel
theorem dX5_becomes_8 : decode cX5_becomes 8 = .ok (.getfield 7, 3) := by decide +kernel
theorem dX5_becomes_11 : decode cX5_becomes 11 = .ok (.iload_n 1, 1) := by decide +kernel
theorem dX5_becomes_12 : decode cX5_becomes 12 = .ok (.iload_n 2, 1) := by decide +kernel
theorem dX5_becomes_13 : decode cX5_becomes 13 = .ok (.iastore, 1) := by decide +kernel
theorem dX5_becomes_14 : decode cX5_becomes 14 = .ok (.iload_n 3, 1) := by decide +kernel
theorem dX5_becomes_15 : decode cX5_becomes 15 = .ok (.ireturn, 1) := by decide +kernel
theorem dX5_copyRow_0 : decode cX5_copyRow 0 = .ok (.iconst 0, 1) := by decide +kernel
theorem dX5_copyRow_1 : decode cX5_copyRow 1 = .ok (.istore_n 2, 1) := by decide +kernel
theorem dX5_copyRow_2 : decode cX5_copyRow 2 = .ok (.iload_n 2, 1) := by decide +kernel
theorem dX5_copyRow_3 : decode cX5_copyRow 3 = .ok (.bipush 93, 2) := by decide +kernel
theorem dX5_copyRow_5 : decode cX5_copyRow 5 = .ok (.if_icmp .ge 15, 3) := by decide +kernel
theorem dX5_copyRow_8 : decode cX5_copyRow 8 = .ok (.aload_n 1, 1) := by decide +kernel
theorem dX5_copyRow_9 : decode cX5_copyRow 9 = .ok (.iload_n 2, 1) := by decide +kernel
theorem dX5_copyRow_10 : decode cX5_copyRow 10 = .ok (.aload_n 0, 1) := by decide +kernel
theorem dX5_copyRow_11 : decode cX5_copyRow 11 = .ok (.iload_n 2, 1) := by decide +kernel
theorem dX5_copyRow_12 : decode cX5_copyRow 12 = .ok (.iaload, 1) := by decide +kernel
theorem dX5_copyRow_13 : decode cX5_copyRow 13 = .ok (.iastore, 1) := by decide +kernel
theorem dX5_copyRow_14 : decode cX5_copyRow 14 = .ok (.iinc 2 1, 3) := by decide +kernel
theorem dX5_copyRow_17 : decode cX5_copyRow 17 = .ok (.goto (-15), 3) := by decide +kernel
theorem dX5_copyRow_20 : decode cX5_copyRow 20 = .ok (.return_, 1) := by decide +kernel
theorem dX5_isPage_0 : decode cX5_isPage 0 = .ok (.iload_n 0, 1) := by decide +kernel
theorem dX5_isPage_1 : decode cX5_isPage 1 = .ok (.ifCond .lt 13, 3) := by decide +kernel
theorem dX5_isPage_4 : decode cX5_isPage 4 = .ok (.iload_n 0, 1) := by decide +kernel
theorem dX5_isPage_5 : decode cX5_isPage 5 = .ok (.bipush 6, 2) := by decide +kernel
theorem dX5_isPage_7 : decode cX5_isPage 7 = .ok (.if_icmp .ge 7, 3) := by decide +kernel
theorem dX5_isPage_10 : decode cX5_isPage 10 = .ok (.iconst 1, 1) := by decide +kernel
theorem dX5_isPage_11 : decode cX5_isPage 11 = .ok (.goto 4, 3) := by decide +kernel
theorem dX5_isPage_14 : decode cX5_isPage 14 = .ok (.iconst 0, 1) := by decide +kernel
theorem dX5_isPage_15 : decode cX5_isPage 15 = .ok (.ireturn, 1) := by decide +kernel
theorem dX5_isPlace_0 : decode cX5_isPlace 0 = .ok (.iload_n 0, 1) := by decide +kernel
theorem dX5_isPlace_1 : decode cX5_isPlace 1 = .ok (.invokestatic 41, 3) := by decide +kernel
theorem dX5_isPlace_4 : decode cX5_isPlace 4 = .ok (.ifCond .eq 17, 3) := by decide +kernel
theorem dX5_isPlace_7 : decode cX5_isPlace 7 = .ok (.iload_n 1, 1) := by decide +kernel
theorem dX5_isPlace_8 : decode cX5_isPlace 8 = .ok (.ifCond .lt 13, 3) := by decide +kernel
theorem dX5_isPlace_11 : decode cX5_isPlace 11 = .ok (.iload_n 1, 1) := by decide +kernel
theorem dX5_isPlace_12 : decode cX5_isPlace 12 = .ok (.bipush 8, 2) := by decide +kernel
theorem dX5_isPlace_14 : decode cX5_isPlace 14 = .ok (.if_icmp .ge 7, 3) := by decide +kernel
theorem dX5_isPlace_17 : decode cX5_isPlace 17 = .ok (.iconst 1, 1) := by decide +kernel
theorem dX5_isPlace_18 : decode cX5_isPlace 18 = .ok (.goto 4, 3) := by decide +kernel
theorem dX5_isPlace_21 : decode cX5_isPlace 21 = .ok (.iconst 0, 1) := by decide +kernel
theorem dX5_isPlace_22 : decode cX5_isPlace 22 = .ok (.ireturn, 1) := by decide +kernel
theorem dX5_isMoth_0 : decode cX5_isMoth 0 = .ok (.iload_n 1, 1) := by decide +kernel
theorem dX5_isMoth_1 : decode cX5_isMoth 1 = .ok (.ifCond .lt 17, 3) := by decide +kernel
theorem dX5_isMoth_4 : decode cX5_isMoth 4 = .ok (.iload_n 1, 1) := by decide +kernel
theorem dX5_isMoth_5 : decode cX5_isMoth 5 = .ok (.aload_n 0, 1) := by decide +kernel
theorem dX5_isMoth_6 : decode cX5_isMoth 6 = .ok (.getfield 7, 3) := by decide +kernel
theorem dX5_isMoth_9 : decode cX5_isMoth 9 = .ok (.iconst 0, 1) := by decide +kernel
theorem dX5_isMoth_10 : decode cX5_isMoth 10 = .ok (.iaload, 1) := by decide +kernel
theorem dX5_isMoth_11 : decode cX5_isMoth 11 = .ok (.if_icmp .ge 7, 3) := by decide +kernel
theorem dX5_isMoth_14 : decode cX5_isMoth 14 = .ok (.iconst 1, 1) := by decide +kernel
theorem dX5_isMoth_15 : decode cX5_isMoth 15 = .ok (.goto 4, 3) := by decide +kernel
theorem dX5_isMoth_18 : decode cX5_isMoth 18 = .ok (.iconst 0, 1) := by decide +kernel
theorem dX5_isMoth_19 : decode cX5_isMoth 19 = .ok (.ireturn, 1) := by decide +kernel
theorem dX5_at_0 : decode cX5_at 0 = .ok (.bipush 51, 2) := by decide +kernel
theorem dX5_at_2 : decode cX5_at 2 = .ok (.iconst 4, 1) := by decide +kernel
theorem dX5_at_3 : decode cX5_at 3 = .ok (.iload_n 0, 1) := by decide +kernel
theorem dX5_at_4 : decode cX5_at 4 = .ok (.imul, 1) := by decide +kernel
theorem dX5_at_5 : decode cX5_at 5 = .ok (.iadd, 1) := by decide +kernel
theorem dX5_at_6 : decode cX5_at 6 = .ok (.iload_n 1, 1) := by decide +kernel
theorem dX5_at_7 : decode cX5_at 7 = .ok (.iadd, 1) := by decide +kernel
theorem dX5_at_8 : decode cX5_at 8 = .ok (.ireturn, 1) := by decide +kernel
theorem dX5_its_0 : decode cX5_its 0 = .ok (.aload_n 0, 1) := by decide +kernel
theorem dX5_its_1 : decode cX5_its 1 = .ok (.getfield 7, 3) := by decide +kernel
theorem dX5_its_4 : decode cX5_its 4 = .ok (.bipush 51, 2) := by decide +kernel
theorem dX5_its_6 : decode cX5_its 6 = .ok (.iconst 4, 1) := by decide +kernel
theorem dX5_its_7 : decode cX5_its 7 = .ok (.iload_n 1, 1) := by decide +kernel
theorem dX5_its_8 : decode cX5_its 8 = .ok (.imul, 1) := by decide +kernel
theorem dX5_its_9 : decode cX5_its 9 = .ok (.iadd, 1) := by decide +kernel
theorem dX5_its_10 : decode cX5_its 10 = .ok (.iload_n 2, 1) := by decide +kernel
theorem dX5_its_11 : decode cX5_its 11 = .ok (.iadd, 1) := by decide +kernel
theorem dX5_its_12 : decode cX5_its 12 = .ok (.iaload, 1) := by decide +kernel
theorem dX5_its_13 : decode cX5_its 13 = .ok (.ireturn, 1) := by decide +kernel
theorem dX5_wordAt_0 : decode cX5_wordAt 0 = .ok (.aload_n 0, 1) := by decide +kernel
theorem dX5_wordAt_1 : decode cX5_wordAt 1 = .ok (.getfield 7, 3) := by decide +kernel
theorem dX5_wordAt_4 : decode cX5_wordAt 4 = .ok (.iconst 3, 1) := by decide +kernel
theorem dX5_wordAt_5 : decode cX5_wordAt 5 = .ok (.bipush 8, 2) := by decide +kernel
theorem dX5_wordAt_7 : decode cX5_wordAt 7 = .ok (.iload_n 1, 1) := by decide +kernel
theorem dX5_wordAt_8 : decode cX5_wordAt 8 = .ok (.imul, 1) := by decide +kernel
theorem dX5_wordAt_9 : decode cX5_wordAt 9 = .ok (.iadd, 1) := by decide +kernel
theorem dX5_wordAt_10 : decode cX5_wordAt 10 = .ok (.iload_n 2, 1) := by decide +kernel
theorem dX5_wordAt_11 : decode cX5_wordAt 11 = .ok (.iadd, 1) := by decide +kernel
theorem dX5_wordAt_12 : decode cX5_wordAt 12 = .ok (.iaload, 1) := by decide +kernel
theorem dX5_wordAt_13 : decode cX5_wordAt 13 = .ok (.ireturn, 1) := by decide +kernel
theorem dX5_least_0 : decode cX5_least 0 = .ok (.iload_n 0, 1) := by decide +kernel
theorem dX5_least_1 : decode cX5_least 1 = .ok (.iload_n 1, 1) := by decide +kernel
theorem dX5_least_2 : decode cX5_least 2 = .ok (.if_icmp .ge 7, 3) := by decide +kernel
theorem dX5_least_5 : decode cX5_least 5 = .ok (.iload_n 0, 1) := by decide +kernel
theorem dX5_least_6 : decode cX5_least 6 = .ok (.goto 4, 3) := by decide +kernel
theorem dX5_least_9 : decode cX5_least 9 = .ok (.iload_n 1, 1) := by decide +kernel
theorem dX5_least_10 : decode cX5_least 10 = .ok (.ireturn, 1) := by decide +kernel
theorem dX5_orNone_0 : decode cX5_orNone 0 = .ok (.iload_n 1, 1) := by decide +kernel
theorem dX5_orNone_1 : decode cX5_orNone 1 = .ok (.ifCond .ge 12, 3) := by decide +kernel
theorem dX5_orNone_4 : decode cX5_orNone 4 = .ok (.aload_n 0, 1) := by decide +kernel
theorem dX5_orNone_5 : decode cX5_orNone 5 = .ok (.ldc 45, 2) := by decide +kernel
theorem dX5_orNone_7 : decode cX5_orNone 7 = .ok (.invokevirtual 46, 3) := by decide +kernel
theorem dX5_orNone_10 : decode cX5_orNone 10 = .ok (.goto 4, 3) := by decide +kernel
theorem dX5_orNone_13 : decode cX5_orNone 13 = .ok (.iload_n 1, 1) := by decide +kernel
theorem dX5_orNone_14 : decode cX5_orNone 14 = .ok (.ireturn, 1) := by decide +kernel
theorem dX5_many_0 : decode cX5_many 0 = .ok (.iconst 0, 1) := by decide +kernel
theorem dX5_many_1 : decode cX5_many 1 = .ok (.istore_n 1, 1) := by decide +kernel
theorem dX5_many_2 : decode cX5_many 2 = .ok (.iload_n 0, 1) := by decide +kernel
theorem dX5_many_3 : decode cX5_many 3 = .ok (.istore_n 2, 1) := by decide +kernel
theorem dX5_many_4 : decode cX5_many 4 = .ok (.iload_n 2, 1) := by decide +kernel
theorem dX5_many_5 : decode cX5_many 5 = .ok (.ifCond .eq 15, 3) := by decide +kernel
theorem dX5_many_8 : decode cX5_many 8 = .ok (.iinc 1 1, 3) := by decide +kernel
theorem dX5_many_11 : decode cX5_many 11 = .ok (.iload_n 2, 1) := by decide +kernel
theorem dX5_many_12 : decode cX5_many 12 = .ok (.iload_n 2, 1) := by decide +kernel
theorem dX5_many_13 : decode cX5_many 13 = .ok (.iconst 1, 1) := by decide +kernel
theorem dX5_many_14 : decode cX5_many 14 = .ok (.isub, 1) := by decide +kernel
theorem dX5_many_15 : decode cX5_many 15 = .ok (.iand, 1) := by decide +kernel
theorem dX5_many_16 : decode cX5_many 16 = .ok (.istore_n 2, 1) := by decide +kernel
theorem dX5_many_17 : decode cX5_many 17 = .ok (.goto (-13), 3) := by decide +kernel
theorem dX5_many_20 : decode cX5_many 20 = .ok (.iload_n 1, 1) := by decide +kernel
theorem dX5_many_21 : decode cX5_many 21 = .ok (.ireturn, 1) := by decide +kernel
theorem dX5_word_0 : decode cX5_word 0 = .ok (.iload_n 1, 1) := by decide +kernel
theorem dX5_word_1 : decode cX5_word 1 = .ok (.iload_n 2, 1) := by decide +kernel
theorem dX5_word_2 : decode cX5_word 2 = .ok (.invokestatic 50, 3) := by decide +kernel
theorem dX5_word_5 : decode cX5_word 5 = .ok (.ifCond .eq 31, 3) := by decide +kernel
theorem dX5_word_8 : decode cX5_word 8 = .ok (.iload_n 3, 1) := by decide +kernel
theorem dX5_word_9 : decode cX5_word 9 = .ok (.i2l, 1) := by decide +kernel
theorem dX5_word_10 : decode cX5_word 10 = .ok (.lconst 0, 1) := by decide +kernel
theorem dX5_word_11 : decode cX5_word 11 = .ok (.ldc2_w 54, 3) := by decide +kernel
theorem dX5_word_14 : decode cX5_word 14 = .ok (.invokestatic 56, 3) := by decide +kernel
theorem dX5_word_17 : decode cX5_word 17 = .ok (.ifCond .eq 19, 3) := by decide +kernel
theorem dX5_word_20 : decode cX5_word 20 = .ok (.aload_n 0, 1) := by decide +kernel
theorem dX5_word_21 : decode cX5_word 21 = .ok (.iconst 3, 1) := by decide +kernel
theorem dX5_word_22 : decode cX5_word 22 = .ok (.bipush 8, 2) := by decide +kernel
theorem dX5_word_24 : decode cX5_word 24 = .ok (.iload_n 1, 1) := by decide +kernel
theorem dX5_word_25 : decode cX5_word 25 = .ok (.imul, 1) := by decide +kernel
theorem dX5_word_26 : decode cX5_word 26 = .ok (.iadd, 1) := by decide +kernel
theorem dX5_word_27 : decode cX5_word 27 = .ok (.iload_n 2, 1) := by decide +kernel
theorem dX5_word_28 : decode cX5_word 28 = .ok (.iadd, 1) := by decide +kernel
theorem dX5_word_29 : decode cX5_word 29 = .ok (.iload_n 3, 1) := by decide +kernel
theorem dX5_word_30 : decode cX5_word 30 = .ok (.invokevirtual 60, 3) := by decide +kernel
theorem dX5_word_33 : decode cX5_word 33 = .ok (.goto 9, 3) := by decide +kernel
theorem dX5_word_36 : decode cX5_word 36 = .ok (.aload_n 0, 1) := by decide +kernel
theorem dX5_word_37 : decode cX5_word 37 = .ok (.ldc 40, 2) := by decide +kernel
theorem dX5_word_39 : decode cX5_word 39 = .ok (.invokevirtual 46, 3) := by decide +kernel
theorem dX5_word_42 : decode cX5_word 42 = .ok (.ireturn, 1) := by decide +kernel
theorem dX5_reads_0 : decode cX5_reads 0 = .ok (.iload_n 1, 1) := by decide +kernel
theorem dX5_reads_1 : decode cX5_reads 1 = .ok (.iload_n 2, 1) := by decide +kernel
theorem dX5_reads_2 : decode cX5_reads 2 = .ok (.invokestatic 50, 3) := by decide +kernel
theorem dX5_reads_5 : decode cX5_reads 5 = .ok (.ifCond .eq 12, 3) := by decide +kernel
theorem dX5_reads_8 : decode cX5_reads 8 = .ok (.aload_n 0, 1) := by decide +kernel
theorem dX5_reads_9 : decode cX5_reads 9 = .ok (.iload_n 1, 1) := by decide +kernel
theorem dX5_reads_10 : decode cX5_reads 10 = .ok (.iload_n 2, 1) := by decide +kernel
theorem dX5_reads_11 : decode cX5_reads 11 = .ok (.invokevirtual 64, 3) := by decide +kernel
theorem dX5_reads_14 : decode cX5_reads 14 = .ok (.goto 9, 3) := by decide +kernel
theorem dX5_reads_17 : decode cX5_reads 17 = .ok (.aload_n 0, 1) := by decide +kernel
theorem dX5_reads_18 : decode cX5_reads 18 = .ok (.ldc 40, 2) := by decide +kernel
theorem dX5_reads_20 : decode cX5_reads 20 = .ok (.invokevirtual 46, 3) := by decide +kernel
theorem dX5_reads_23 : decode cX5_reads 23 = .ok (.ireturn, 1) := by decide +kernel
theorem dX5_saysNow_0 : decode cX5_saysNow 0 = .ok (.iconst 0, 1) := by decide +kernel
theorem dX5_saysNow_1 : decode cX5_saysNow 1 = .ok (.istore_n 2, 1) := by decide +kernel
theorem dX5_saysNow_2 : decode cX5_saysNow 2 = .ok (.iconst 0, 1) := by decide +kernel
theorem dX5_saysNow_3 : decode cX5_saysNow 3 = .ok (.istore_n 3, 1) := by decide +kernel
theorem dX5_saysNow_4 : decode cX5_saysNow 4 = .ok (.iload_n 3, 1) := by decide +kernel
theorem dX5_saysNow_5 : decode cX5_saysNow 5 = .ok (.bipush 8, 2) := by decide +kernel
theorem dX5_saysNow_7 : decode cX5_saysNow 7 = .ok (.if_icmp .ge 22, 3) := by decide +kernel
theorem dX5_saysNow_10 : decode cX5_saysNow 10 = .ok (.iload_n 2, 1) := by decide +kernel
theorem dX5_saysNow_11 : decode cX5_saysNow 11 = .ok (.iload_n 3, 1) := by decide +kernel
theorem dX5_saysNow_12 : decode cX5_saysNow 12 = .ok (.iconst 1, 1) := by decide +kernel
theorem dX5_saysNow_13 : decode cX5_saysNow 13 = .ok (.iadd, 1) := by decide +kernel
theorem dX5_saysNow_14 : decode cX5_saysNow 14 = .ok (.aload_n 0, 1) := by decide +kernel
theorem dX5_saysNow_15 : decode cX5_saysNow 15 = .ok (.iload_n 1, 1) := by decide +kernel
theorem dX5_saysNow_16 : decode cX5_saysNow 16 = .ok (.iload_n 3, 1) := by decide +kernel
theorem dX5_saysNow_17 : decode cX5_saysNow 17 = .ok (.invokevirtual 64, 3) := by decide +kernel
theorem dX5_saysNow_20 : decode cX5_saysNow 20 = .ok (.imul, 1) := by decide +kernel
theorem dX5_saysNow_21 : decode cX5_saysNow 21 = .ok (.iadd, 1) := by decide +kernel
theorem dX5_saysNow_22 : decode cX5_saysNow 22 = .ok (.istore_n 2, 1) := by decide +kernel
theorem dX5_saysNow_23 : decode cX5_saysNow 23 = .ok (.iinc 3 1, 3) := by decide +kernel
theorem dX5_saysNow_26 : decode cX5_saysNow 26 = .ok (.goto (-22), 3) := by decide +kernel
theorem dX5_saysNow_29 : decode cX5_saysNow 29 = .ok (.iload_n 2, 1) := by decide +kernel
theorem dX5_saysNow_30 : decode cX5_saysNow 30 = .ok (.ireturn, 1) := by decide +kernel
theorem dX5_whole_0 : decode cX5_whole 0 = .ok (.iconst 0, 1) := by decide +kernel
theorem dX5_whole_1 : decode cX5_whole 1 = .ok (.istore_n 2, 1) := by decide +kernel
theorem dX5_whole_2 : decode cX5_whole 2 = .ok (.iconst 0, 1) := by decide +kernel
theorem dX5_whole_3 : decode cX5_whole 3 = .ok (.istore_n 3, 1) := by decide +kernel
theorem dX5_whole_4 : decode cX5_whole 4 = .ok (.iload_n 3, 1) := by decide +kernel
theorem dX5_whole_5 : decode cX5_whole 5 = .ok (.bipush 8, 2) := by decide +kernel
theorem dX5_whole_7 : decode cX5_whole 7 = .ok (.if_icmp .ge 28, 3) := by decide +kernel
theorem dX5_whole_10 : decode cX5_whole 10 = .ok (.iload_n 2, 1) := by decide +kernel
theorem dX5_whole_11 : decode cX5_whole 11 = .ok (.aload_n 0, 1) := by decide +kernel
theorem dX5_whole_12 : decode cX5_whole 12 = .ok (.iload_n 1, 1) := by decide +kernel
theorem dX5_whole_13 : decode cX5_whole 13 = .ok (.iload_n 3, 1) := by decide +kernel
theorem dX5_whole_14 : decode cX5_whole 14 = .ok (.invokevirtual 64, 3) := by decide +kernel
theorem dX5_whole_17 : decode cX5_whole 17 = .ok (.ifCond .le 9, 3) := by decide +kernel
theorem dX5_whole_20 : decode cX5_whole 20 = .ok (.iconst 1, 1) := by decide +kernel
theorem dX5_whole_21 : decode cX5_whole 21 = .ok (.iload_n 3, 1) := by decide +kernel
theorem dX5_whole_22 : decode cX5_whole 22 = .ok (.ishl, 1) := by decide +kernel
theorem dX5_whole_23 : decode cX5_whole 23 = .ok (.goto 4, 3) := by decide +kernel
theorem dX5_whole_26 : decode cX5_whole 26 = .ok (.iconst 0, 1) := by decide +kernel
theorem dX5_whole_27 : decode cX5_whole 27 = .ok (.ior, 1) := by decide +kernel
theorem dX5_whole_28 : decode cX5_whole 28 = .ok (.istore_n 2, 1) := by decide +kernel
theorem dX5_whole_29 : decode cX5_whole 29 = .ok (.iinc 3 1, 3) := by decide +kernel
theorem dX5_whole_32 : decode cX5_whole 32 = .ok (.goto (-28), 3) := by decide +kernel
theorem dX5_whole_35 : decode cX5_whole 35 = .ok (.iload_n 2, 1) := by decide +kernel
theorem dX5_whole_36 : decode cX5_whole 36 = .ok (.ireturn, 1) := by decide +kernel
theorem dX5_there_0 : decode cX5_there 0 = .ok (.iconst 0, 1) := by decide +kernel
theorem dX5_there_1 : decode cX5_there 1 = .ok (.istore_n 2, 1) := by decide +kernel
theorem dX5_there_2 : decode cX5_there 2 = .ok (.iconst 0, 1) := by decide +kernel
theorem dX5_there_3 : decode cX5_there 3 = .ok (.istore_n 3, 1) := by decide +kernel
theorem dX5_there_4 : decode cX5_there 4 = .ok (.iload_n 3, 1) := by decide +kernel
theorem dX5_there_5 : decode cX5_there 5 = .ok (.aload_n 0, 1) := by decide +kernel
theorem dX5_there_6 : decode cX5_there 6 = .ok (.getfield 7, 3) := by decide +kernel
theorem dX5_there_9 : decode cX5_there 9 = .ok (.iconst 0, 1) := by decide +kernel
theorem dX5_there_10 : decode cX5_there 10 = .ok (.iaload, 1) := by decide +kernel
theorem dX5_there_11 : decode cX5_there 11 = .ok (.if_icmp .ge 29, 3) := by decide +kernel
theorem dX5_there_14 : decode cX5_there 14 = .ok (.iload_n 2, 1) := by decide +kernel
theorem dX5_there_15 : decode cX5_there 15 = .ok (.aload_n 0, 1) := by decide +kernel
theorem dX5_there_16 : decode cX5_there 16 = .ok (.iload_n 3, 1) := by decide +kernel
theorem dX5_there_17 : decode cX5_there 17 = .ok (.iconst 1, 1) := by decide +kernel
theorem dX5_there_18 : decode cX5_there 18 = .ok (.invokevirtual 67, 3) := by decide +kernel
theorem dX5_there_21 : decode cX5_there 21 = .ok (.iload_n 1, 1) := by decide +kernel
theorem dX5_there_22 : decode cX5_there 22 = .ok (.if_icmp .ne 9, 3) := by decide +kernel
theorem dX5_there_25 : decode cX5_there 25 = .ok (.iconst 1, 1) := by decide +kernel
theorem dX5_there_26 : decode cX5_there 26 = .ok (.iload_n 3, 1) := by decide +kernel
theorem dX5_there_27 : decode cX5_there 27 = .ok (.ishl, 1) := by decide +kernel
theorem dX5_there_28 : decode cX5_there 28 = .ok (.goto 4, 3) := by decide +kernel
theorem dX5_there_31 : decode cX5_there 31 = .ok (.iconst 0, 1) := by decide +kernel
theorem dX5_there_32 : decode cX5_there 32 = .ok (.ior, 1) := by decide +kernel
theorem dX5_there_33 : decode cX5_there 33 = .ok (.istore_n 2, 1) := by decide +kernel
theorem dX5_there_34 : decode cX5_there 34 = .ok (.iinc 3 1, 3) := by decide +kernel
theorem dX5_there_37 : decode cX5_there 37 = .ok (.goto (-33), 3) := by decide +kernel
theorem dX5_there_40 : decode cX5_there 40 = .ok (.iload_n 2, 1) := by decide +kernel
theorem dX5_there_41 : decode cX5_there 41 = .ok (.ireturn, 1) := by decide +kernel
theorem dX5_page_0 : decode cX5_page 0 = .ok (.iload_n 1, 1) := by decide +kernel
theorem dX5_page_1 : decode cX5_page 1 = .ok (.invokestatic 41, 3) := by decide +kernel
theorem dX5_page_4 : decode cX5_page 4 = .ok (.ifCond .eq 15, 3) := by decide +kernel
theorem dX5_page_7 : decode cX5_page 7 = .ok (.iload_n 2, 1) := by decide +kernel
theorem dX5_page_8 : decode cX5_page 8 = .ok (.i2l, 1) := by decide +kernel
theorem dX5_page_9 : decode cX5_page 9 = .ok (.lconst 0, 1) := by decide +kernel
theorem dX5_page_10 : decode cX5_page 10 = .ok (.ldc2_w 70, 3) := by decide +kernel
theorem dX5_page_13 : decode cX5_page 13 = .ok (.invokestatic 56, 3) := by decide +kernel
theorem dX5_page_16 : decode cX5_page 16 = .ok (.ifCond .ne 10, 3) := by decide +kernel
theorem dX5_page_19 : decode cX5_page 19 = .ok (.aload_n 0, 1) := by decide +kernel
theorem dX5_page_20 : decode cX5_page 20 = .ok (.ldc 40, 2) := by decide +kernel
theorem dX5_page_22 : decode cX5_page 22 = .ok (.invokevirtual 46, 3) := by decide +kernel
theorem dX5_page_25 : decode cX5_page 25 = .ok (.ireturn, 1) := by decide +kernel
theorem dX5_page_26 : decode cX5_page 26 = .ok (.iload_n 2, 1) := by decide +kernel
theorem dX5_page_27 : decode cX5_page 27 = .ok (.ifCond .ne 11, 3) := by decide +kernel
theorem dX5_page_30 : decode cX5_page 30 = .ok (.aload_n 0, 1) := by decide +kernel
theorem dX5_page_31 : decode cX5_page 31 = .ok (.iload_n 1, 1) := by decide +kernel
theorem dX5_page_32 : decode cX5_page 32 = .ok (.invokevirtual 72, 3) := by decide +kernel
theorem dX5_page_35 : decode cX5_page 35 = .ok (.goto 40, 3) := by decide +kernel
theorem dX5_page_38 : decode cX5_page 38 = .ok (.iload_n 2, 1) := by decide +kernel
theorem dX5_page_39 : decode cX5_page 39 = .ok (.iconst 1, 1) := by decide +kernel
theorem dX5_page_40 : decode cX5_page 40 = .ok (.if_icmp .ne 17, 3) := by decide +kernel
theorem dX5_page_43 : decode cX5_page 43 = .ok (.bipush 8, 2) := by decide +kernel
theorem dX5_page_45 : decode cX5_page 45 = .ok (.aload_n 0, 1) := by decide +kernel
theorem dX5_page_46 : decode cX5_page 46 = .ok (.iload_n 1, 1) := by decide +kernel
theorem dX5_page_47 : decode cX5_page 47 = .ok (.invokevirtual 75, 3) := by decide +kernel
theorem dX5_page_50 : decode cX5_page 50 = .ok (.invokestatic 78, 3) := by decide +kernel
theorem dX5_page_53 : decode cX5_page 53 = .ok (.isub, 1) := by decide +kernel
theorem dX5_page_54 : decode cX5_page 54 = .ok (.goto 21, 3) := by decide +kernel
theorem dX5_page_57 : decode cX5_page 57 = .ok (.iload_n 2, 1) := by decide +kernel
theorem dX5_page_58 : decode cX5_page 58 = .ok (.iconst 2, 1) := by decide +kernel
theorem dX5_page_59 : decode cX5_page 59 = .ok (.if_icmp .ne 11, 3) := by decide +kernel
theorem dX5_page_62 : decode cX5_page 62 = .ok (.aload_n 0, 1) := by decide +kernel
theorem dX5_page_63 : decode cX5_page 63 = .ok (.iload_n 1, 1) := by decide +kernel
theorem dX5_page_64 : decode cX5_page 64 = .ok (.invokevirtual 81, 3) := by decide +kernel
theorem dX5_page_67 : decode cX5_page 67 = .ok (.goto 8, 3) := by decide +kernel
theorem dX5_page_70 : decode cX5_page 70 = .ok (.aload_n 0, 1) := by decide +kernel
theorem dX5_page_71 : decode cX5_page 71 = .ok (.iload_n 1, 1) := by decide +kernel
theorem dX5_page_72 : decode cX5_page 72 = .ok (.invokevirtual 75, 3) := by decide +kernel
theorem dX5_page_75 : decode cX5_page 75 = .ok (.ireturn, 1) := by decide +kernel
theorem dX5_copied_0 : decode cX5_copied 0 = .ok (.iload_n 1, 1) := by decide +kernel
theorem dX5_copied_1 : decode cX5_copied 1 = .ok (.invokestatic 41, 3) := by decide +kernel
theorem dX5_copied_4 : decode cX5_copied 4 = .ok (.ifCond .eq 10, 3) := by decide +kernel
theorem dX5_copied_7 : decode cX5_copied 7 = .ok (.iload_n 2, 1) := by decide +kernel
theorem dX5_copied_8 : decode cX5_copied 8 = .ok (.invokestatic 41, 3) := by decide +kernel
theorem dX5_copied_11 : decode cX5_copied 11 = .ok (.ifCond .ne 10, 3) := by decide +kernel
theorem dX5_copied_14 : decode cX5_copied 14 = .ok (.aload_n 0, 1) := by decide +kernel
theorem dX5_copied_15 : decode cX5_copied 15 = .ok (.ldc 40, 2) := by decide +kernel
theorem dX5_copied_17 : decode cX5_copied 17 = .ok (.invokevirtual 46, 3) := by decide +kernel
theorem dX5_copied_20 : decode cX5_copied 20 = .ok (.ireturn, 1) := by decide +kernel
theorem dX5_copied_21 : decode cX5_copied 21 = .ok (.iconst 0, 1) := by decide +kernel
theorem dX5_copied_22 : decode cX5_copied 22 = .ok (.istore_n 3, 1) := by decide +kernel
theorem dX5_copied_23 : decode cX5_copied 23 = .ok (.iconst 0, 1) := by decide +kernel
theorem dX5_copied_24 : decode cX5_copied 24 = .ok (.istore 4, 2) := by decide +kernel
theorem dX5_copied_26 : decode cX5_copied 26 = .ok (.iload 4, 2) := by decide +kernel
theorem dX5_copied_28 : decode cX5_copied 28 = .ok (.bipush 8, 2) := by decide +kernel
theorem dX5_copied_30 : decode cX5_copied 30 = .ok (.if_icmp .ge 47, 3) := by decide +kernel
theorem dX5_copied_33 : decode cX5_copied 33 = .ok (.iload_n 3, 1) := by decide +kernel
theorem dX5_copied_34 : decode cX5_copied 34 = .ok (.aload_n 0, 1) := by decide +kernel
theorem dX5_copied_35 : decode cX5_copied 35 = .ok (.iconst 3, 1) := by decide +kernel
theorem dX5_copied_36 : decode cX5_copied 36 = .ok (.bipush 8, 2) := by decide +kernel
theorem dX5_copied_38 : decode cX5_copied 38 = .ok (.iload_n 2, 1) := by decide +kernel
theorem dX5_copied_39 : decode cX5_copied 39 = .ok (.imul, 1) := by decide +kernel
theorem dX5_copied_40 : decode cX5_copied 40 = .ok (.iadd, 1) := by decide +kernel
theorem dX5_copied_41 : decode cX5_copied 41 = .ok (.iload 4, 2) := by decide +kernel
theorem dX5_copied_43 : decode cX5_copied 43 = .ok (.iadd, 1) := by decide +kernel
theorem dX5_copied_44 : decode cX5_copied 44 = .ok (.aload_n 0, 1) := by decide +kernel
theorem dX5_copied_45 : decode cX5_copied 45 = .ok (.iload_n 1, 1) := by decide +kernel
theorem dX5_copied_46 : decode cX5_copied 46 = .ok (.iload 4, 2) := by decide +kernel
theorem dX5_copied_48 : decode cX5_copied 48 = .ok (.invokevirtual 64, 3) := by decide +kernel
theorem dX5_copied_51 : decode cX5_copied 51 = .ok (.invokevirtual 60, 3) := by decide +kernel
theorem dX5_copied_54 : decode cX5_copied 54 = .ok (.aload_n 0, 1) := by decide +kernel
theorem dX5_copied_55 : decode cX5_copied 55 = .ok (.iload_n 1, 1) := by decide +kernel
theorem dX5_copied_56 : decode cX5_copied 56 = .ok (.iload 4, 2) := by decide +kernel
theorem dX5_copied_58 : decode cX5_copied 58 = .ok (.invokevirtual 64, 3) := by decide +kernel
theorem dX5_copied_61 : decode cX5_copied 61 = .ok (.if_icmp .ne 7, 3) := by decide +kernel
theorem dX5_copied_64 : decode cX5_copied 64 = .ok (.iconst 0, 1) := by decide +kernel
theorem dX5_copied_65 : decode cX5_copied 65 = .ok (.goto 4, 3) := by decide +kernel
theorem dX5_copied_68 : decode cX5_copied 68 = .ok (.iconst 1, 1) := by decide +kernel
theorem dX5_copied_69 : decode cX5_copied 69 = .ok (.iadd, 1) := by decide +kernel
theorem dX5_copied_70 : decode cX5_copied 70 = .ok (.istore_n 3, 1) := by decide +kernel
theorem dX5_copied_71 : decode cX5_copied 71 = .ok (.iinc 4 1, 3) := by decide +kernel
theorem dX5_copied_74 : decode cX5_copied 74 = .ok (.goto (-48), 3) := by decide +kernel
theorem dX5_copied_77 : decode cX5_copied 77 = .ok (.iload_n 3, 1) := by decide +kernel
theorem dX5_copied_78 : decode cX5_copied 78 = .ok (.ireturn, 1) := by decide +kernel
theorem dX5_comes_0 : decode cX5_comes 0 = .ok (.aload_n 0, 1) := by decide +kernel
theorem dX5_comes_1 : decode cX5_comes 1 = .ok (.getfield 7, 3) := by decide +kernel
theorem dX5_comes_4 : decode cX5_comes 4 = .ok (.aload_n 0, 1) := by decide +kernel
theorem dX5_comes_5 : decode cX5_comes 5 = .ok (.getfield 7, 3) := by decide +kernel
theorem dX5_comes_8 : decode cX5_comes 8 = .ok (.iconst 0, 1) := by decide +kernel
theorem dX5_comes_9 : decode cX5_comes 9 = .ok (.iaload, 1) := by decide +kernel
theorem dX5_comes_10 : decode cX5_comes 10 = .ok (.iconst 0, 1) := by decide +kernel
theorem dX5_comes_11 : decode cX5_comes 11 = .ok (.invokestatic 84, 3) := by decide +kernel
theorem dX5_comes_14 : decode cX5_comes 14 = .ok (.iload_n 1, 1) := by decide +kernel
theorem dX5_comes_15 : decode cX5_comes 15 = .ok (.iastore, 1) := by decide +kernel
theorem dX5_comes_16 : decode cX5_comes 16 = .ok (.aload_n 0, 1) := by decide +kernel
theorem dX5_comes_17 : decode cX5_comes 17 = .ok (.getfield 7, 3) := by decide +kernel
theorem dX5_comes_20 : decode cX5_comes 20 = .ok (.aload_n 0, 1) := by decide +kernel
theorem dX5_comes_21 : decode cX5_comes 21 = .ok (.getfield 7, 3) := by decide +kernel
theorem dX5_comes_24 : decode cX5_comes 24 = .ok (.iconst 0, 1) := by decide +kernel
theorem dX5_comes_25 : decode cX5_comes 25 = .ok (.iaload, 1) := by decide +kernel
theorem dX5_comes_26 : decode cX5_comes 26 = .ok (.iconst 1, 1) := by decide +kernel
theorem dX5_comes_27 : decode cX5_comes 27 = .ok (.invokestatic 84, 3) := by decide +kernel
theorem dX5_comes_30 : decode cX5_comes 30 = .ok (.iload_n 2, 1) := by decide +kernel
theorem dX5_comes_31 : decode cX5_comes 31 = .ok (.iastore, 1) := by decide +kernel
theorem dX5_comes_32 : decode cX5_comes 32 = .ok (.aload_n 0, 1) := by decide +kernel
theorem dX5_comes_33 : decode cX5_comes 33 = .ok (.getfield 7, 3) := by decide +kernel
theorem dX5_comes_36 : decode cX5_comes 36 = .ok (.aload_n 0, 1) := by decide +kernel
theorem dX5_comes_37 : decode cX5_comes 37 = .ok (.getfield 7, 3) := by decide +kernel
theorem dX5_comes_40 : decode cX5_comes 40 = .ok (.iconst 0, 1) := by decide +kernel
theorem dX5_comes_41 : decode cX5_comes 41 = .ok (.iaload, 1) := by decide +kernel
theorem dX5_comes_42 : decode cX5_comes 42 = .ok (.iconst 2, 1) := by decide +kernel
theorem dX5_comes_43 : decode cX5_comes 43 = .ok (.invokestatic 84, 3) := by decide +kernel
theorem dX5_comes_46 : decode cX5_comes 46 = .ok (.iconst 1, 1) := by decide +kernel
theorem dX5_comes_47 : decode cX5_comes 47 = .ok (.iastore, 1) := by decide +kernel
theorem dX5_comes_48 : decode cX5_comes 48 = .ok (.aload_n 0, 1) := by decide +kernel
theorem dX5_comes_49 : decode cX5_comes 49 = .ok (.getfield 7, 3) := by decide +kernel
theorem dX5_comes_52 : decode cX5_comes 52 = .ok (.aload_n 0, 1) := by decide +kernel
theorem dX5_comes_53 : decode cX5_comes 53 = .ok (.getfield 7, 3) := by decide +kernel
theorem dX5_comes_56 : decode cX5_comes 56 = .ok (.iconst 0, 1) := by decide +kernel
theorem dX5_comes_57 : decode cX5_comes 57 = .ok (.iaload, 1) := by decide +kernel
theorem dX5_comes_58 : decode cX5_comes 58 = .ok (.iconst 3, 1) := by decide +kernel
theorem dX5_comes_59 : decode cX5_comes 59 = .ok (.invokestatic 84, 3) := by decide +kernel
theorem dX5_comes_62 : decode cX5_comes 62 = .ok (.iconst 0, 1) := by decide +kernel
theorem dX5_comes_63 : decode cX5_comes 63 = .ok (.iastore, 1) := by decide +kernel
theorem dX5_comes_64 : decode cX5_comes 64 = .ok (.aload_n 0, 1) := by decide +kernel
theorem dX5_comes_65 : decode cX5_comes 65 = .ok (.getfield 7, 3) := by decide +kernel
theorem dX5_comes_68 : decode cX5_comes 68 = .ok (.iconst 0, 1) := by decide +kernel
theorem dX5_comes_69 : decode cX5_comes 69 = .ok (.dup2, 1) := by decide +kernel
theorem dX5_comes_70 : decode cX5_comes 70 = .ok (.iaload, 1) := by decide +kernel
theorem dX5_comes_71 : decode cX5_comes 71 = .ok (.iconst 1, 1) := by decide +kernel
theorem dX5_comes_72 : decode cX5_comes 72 = .ok (.iadd, 1) := by decide +kernel
theorem dX5_comes_73 : decode cX5_comes 73 = .ok (.iastore, 1) := by decide +kernel
theorem dX5_comes_74 : decode cX5_comes 74 = .ok (.return_, 1) := by decide +kernel
theorem dX5_moth_0 : decode cX5_moth 0 = .ok (.iload_n 1, 1) := by decide +kernel
theorem dX5_moth_1 : decode cX5_moth 1 = .ok (.i2l, 1) := by decide +kernel
theorem dX5_moth_2 : decode cX5_moth 2 = .ok (.lconst 0, 1) := by decide +kernel
theorem dX5_moth_3 : decode cX5_moth 3 = .ok (.ldc2_w 87, 3) := by decide +kernel
theorem dX5_moth_6 : decode cX5_moth 6 = .ok (.invokestatic 56, 3) := by decide +kernel
theorem dX5_moth_9 : decode cX5_moth 9 = .ok (.ifCond .eq 10, 3) := by decide +kernel
theorem dX5_moth_12 : decode cX5_moth 12 = .ok (.iload_n 2, 1) := by decide +kernel
theorem dX5_moth_13 : decode cX5_moth 13 = .ok (.invokestatic 41, 3) := by decide +kernel
theorem dX5_moth_16 : decode cX5_moth 16 = .ok (.ifCond .ne 10, 3) := by decide +kernel
theorem dX5_moth_19 : decode cX5_moth 19 = .ok (.aload_n 0, 1) := by decide +kernel
theorem dX5_moth_20 : decode cX5_moth 20 = .ok (.ldc 40, 2) := by decide +kernel
theorem dX5_moth_22 : decode cX5_moth 22 = .ok (.invokevirtual 46, 3) := by decide +kernel
theorem dX5_moth_25 : decode cX5_moth 25 = .ok (.ireturn, 1) := by decide +kernel
theorem dX5_moth_26 : decode cX5_moth 26 = .ok (.aload_n 0, 1) := by decide +kernel
theorem dX5_moth_27 : decode cX5_moth 27 = .ok (.getfield 7, 3) := by decide +kernel
theorem dX5_moth_30 : decode cX5_moth 30 = .ok (.iconst 0, 1) := by decide +kernel
theorem dX5_moth_31 : decode cX5_moth 31 = .ok (.iaload, 1) := by decide +kernel
theorem dX5_moth_32 : decode cX5_moth 32 = .ok (.bipush 8, 2) := by decide +kernel
theorem dX5_moth_34 : decode cX5_moth 34 = .ok (.if_icmp .ne 10, 3) := by decide +kernel
theorem dX5_moth_37 : decode cX5_moth 37 = .ok (.aload_n 0, 1) := by decide +kernel
theorem dX5_moth_38 : decode cX5_moth 38 = .ok (.ldc 89, 2) := by decide +kernel
theorem dX5_moth_40 : decode cX5_moth 40 = .ok (.invokevirtual 46, 3) := by decide +kernel
theorem dX5_moth_43 : decode cX5_moth 43 = .ok (.ireturn, 1) := by decide +kernel
theorem dX5_moth_44 : decode cX5_moth 44 = .ok (.aload_n 0, 1) := by decide +kernel
theorem dX5_moth_45 : decode cX5_moth 45 = .ok (.iload_n 1, 1) := by decide +kernel
theorem dX5_moth_46 : decode cX5_moth 46 = .ok (.iload_n 2, 1) := by decide +kernel
theorem dX5_moth_47 : decode cX5_moth 47 = .ok (.invokevirtual 90, 3) := by decide +kernel
theorem dX5_moth_50 : decode cX5_moth 50 = .ok (.aload_n 0, 1) := by decide +kernel
theorem dX5_moth_51 : decode cX5_moth 51 = .ok (.getfield 7, 3) := by decide +kernel
theorem dX5_moth_54 : decode cX5_moth 54 = .ok (.iconst 0, 1) := by decide +kernel
theorem dX5_moth_55 : decode cX5_moth 55 = .ok (.iaload, 1) := by decide +kernel
theorem dX5_moth_56 : decode cX5_moth 56 = .ok (.iconst 1, 1) := by decide +kernel
theorem dX5_moth_57 : decode cX5_moth 57 = .ok (.isub, 1) := by decide +kernel
theorem dX5_moth_58 : decode cX5_moth 58 = .ok (.ireturn, 1) := by decide +kernel
theorem dX5_firstOf_0 : decode cX5_firstOf 0 = .ok (.iconst (-1), 1) := by decide +kernel
theorem dX5_firstOf_1 : decode cX5_firstOf 1 = .ok (.istore_n 3, 1) := by decide +kernel
theorem dX5_firstOf_2 : decode cX5_firstOf 2 = .ok (.bipush 7, 2) := by decide +kernel
theorem dX5_firstOf_4 : decode cX5_firstOf 4 = .ok (.istore 4, 2) := by decide +kernel
theorem dX5_firstOf_6 : decode cX5_firstOf 6 = .ok (.iload 4, 2) := by decide +kernel
theorem dX5_firstOf_8 : decode cX5_firstOf 8 = .ok (.ifCond .lt 27, 3) := by decide +kernel
theorem dX5_firstOf_11 : decode cX5_firstOf 11 = .ok (.aload_n 0, 1) := by decide +kernel
theorem dX5_firstOf_12 : decode cX5_firstOf 12 = .ok (.iload_n 1, 1) := by decide +kernel
theorem dX5_firstOf_13 : decode cX5_firstOf 13 = .ok (.iload 4, 2) := by decide +kernel
theorem dX5_firstOf_15 : decode cX5_firstOf 15 = .ok (.invokevirtual 64, 3) := by decide +kernel
theorem dX5_firstOf_18 : decode cX5_firstOf 18 = .ok (.iload_n 2, 1) := by decide +kernel
theorem dX5_firstOf_19 : decode cX5_firstOf 19 = .ok (.if_icmp .ne 8, 3) := by decide +kernel
theorem dX5_firstOf_22 : decode cX5_firstOf 22 = .ok (.iload 4, 2) := by decide +kernel
theorem dX5_firstOf_24 : decode cX5_firstOf 24 = .ok (.goto 4, 3) := by decide +kernel
theorem dX5_firstOf_27 : decode cX5_firstOf 27 = .ok (.iload_n 3, 1) := by decide +kernel
theorem dX5_firstOf_28 : decode cX5_firstOf 28 = .ok (.istore_n 3, 1) := by decide +kernel
theorem dX5_firstOf_29 : decode cX5_firstOf 29 = .ok (.iinc 4 (-1), 3) := by decide +kernel
theorem dX5_firstOf_32 : decode cX5_firstOf 32 = .ok (.goto (-26), 3) := by decide +kernel
theorem dX5_firstOf_35 : decode cX5_firstOf 35 = .ok (.iload_n 3, 1) := by decide +kernel
theorem dX5_firstOf_36 : decode cX5_firstOf 36 = .ok (.ireturn, 1) := by decide +kernel
theorem dX5_firstLike_0 : decode cX5_firstLike 0 = .ok (.iconst (-1), 1) := by decide +kernel
theorem dX5_firstLike_1 : decode cX5_firstLike 1 = .ok (.istore_n 3, 1) := by decide +kernel
theorem dX5_firstLike_2 : decode cX5_firstLike 2 = .ok (.bipush 7, 2) := by decide +kernel
theorem dX5_firstLike_4 : decode cX5_firstLike 4 = .ok (.istore 4, 2) := by decide +kernel
theorem dX5_firstLike_6 : decode cX5_firstLike 6 = .ok (.iload 4, 2) := by decide +kernel
theorem dX5_firstLike_8 : decode cX5_firstLike 8 = .ok (.ifCond .lt 40, 3) := by decide +kernel
theorem dX5_firstLike_11 : decode cX5_firstLike 11 = .ok (.aload_n 0, 1) := by decide +kernel
theorem dX5_firstLike_12 : decode cX5_firstLike 12 = .ok (.iload_n 1, 1) := by decide +kernel
theorem dX5_firstLike_13 : decode cX5_firstLike 13 = .ok (.iload 4, 2) := by decide +kernel
theorem dX5_firstLike_15 : decode cX5_firstLike 15 = .ok (.invokevirtual 64, 3) := by decide +kernel
theorem dX5_firstLike_18 : decode cX5_firstLike 18 = .ok (.istore 5, 2) := by decide +kernel
theorem dX5_firstLike_20 : decode cX5_firstLike 20 = .ok (.iload 5, 2) := by decide +kernel
theorem dX5_firstLike_22 : decode cX5_firstLike 22 = .ok (.ifCond .le 18, 3) := by decide +kernel
theorem dX5_firstLike_25 : decode cX5_firstLike 25 = .ok (.iload 5, 2) := by decide +kernel
theorem dX5_firstLike_27 : decode cX5_firstLike 27 = .ok (.iconst 2, 1) := by decide +kernel
theorem dX5_firstLike_28 : decode cX5_firstLike 28 = .ok (.irem, 1) := by decide +kernel
theorem dX5_firstLike_29 : decode cX5_firstLike 29 = .ok (.iload_n 2, 1) := by decide +kernel
theorem dX5_firstLike_30 : decode cX5_firstLike 30 = .ok (.iconst 2, 1) := by decide +kernel
theorem dX5_firstLike_31 : decode cX5_firstLike 31 = .ok (.irem, 1) := by decide +kernel
theorem dX5_firstLike_32 : decode cX5_firstLike 32 = .ok (.if_icmp .ne 8, 3) := by decide +kernel
theorem dX5_firstLike_35 : decode cX5_firstLike 35 = .ok (.iload 4, 2) := by decide +kernel
theorem dX5_firstLike_37 : decode cX5_firstLike 37 = .ok (.goto 4, 3) := by decide +kernel
theorem dX5_firstLike_40 : decode cX5_firstLike 40 = .ok (.iload_n 3, 1) := by decide +kernel
theorem dX5_firstLike_41 : decode cX5_firstLike 41 = .ok (.istore_n 3, 1) := by decide +kernel
theorem dX5_firstLike_42 : decode cX5_firstLike 42 = .ok (.iinc 4 (-1), 3) := by decide +kernel
theorem dX5_firstLike_45 : decode cX5_firstLike 45 = .ok (.goto (-39), 3) := by decide +kernel
theorem dX5_firstLike_48 : decode cX5_firstLike 48 = .ok (.iload_n 3, 1) := by decide +kernel
theorem dX5_firstLike_49 : decode cX5_firstLike 49 = .ok (.ireturn, 1) := by decide +kernel
theorem dX5_firstWhole_0 : decode cX5_firstWhole 0 = .ok (.iconst (-1), 1) := by decide +kernel
theorem dX5_firstWhole_1 : decode cX5_firstWhole 1 = .ok (.istore_n 2, 1) := by decide +kernel
theorem dX5_firstWhole_2 : decode cX5_firstWhole 2 = .ok (.bipush 7, 2) := by decide +kernel
theorem dX5_firstWhole_4 : decode cX5_firstWhole 4 = .ok (.istore_n 3, 1) := by decide +kernel
theorem dX5_firstWhole_5 : decode cX5_firstWhole 5 = .ok (.iload_n 3, 1) := by decide +kernel
theorem dX5_firstWhole_6 : decode cX5_firstWhole 6 = .ok (.ifCond .lt 24, 3) := by decide +kernel
theorem dX5_firstWhole_9 : decode cX5_firstWhole 9 = .ok (.aload_n 0, 1) := by decide +kernel
theorem dX5_firstWhole_10 : decode cX5_firstWhole 10 = .ok (.iload_n 1, 1) := by decide +kernel
theorem dX5_firstWhole_11 : decode cX5_firstWhole 11 = .ok (.iload_n 3, 1) := by decide +kernel
theorem dX5_firstWhole_12 : decode cX5_firstWhole 12 = .ok (.invokevirtual 64, 3) := by decide +kernel
theorem dX5_firstWhole_15 : decode cX5_firstWhole 15 = .ok (.ifCond .le 7, 3) := by decide +kernel
theorem dX5_firstWhole_18 : decode cX5_firstWhole 18 = .ok (.iload_n 3, 1) := by decide +kernel
theorem dX5_firstWhole_19 : decode cX5_firstWhole 19 = .ok (.goto 4, 3) := by decide +kernel
theorem dX5_firstWhole_22 : decode cX5_firstWhole 22 = .ok (.iload_n 2, 1) := by decide +kernel
theorem dX5_firstWhole_23 : decode cX5_firstWhole 23 = .ok (.istore_n 2, 1) := by decide +kernel
theorem dX5_firstWhole_24 : decode cX5_firstWhole 24 = .ok (.iinc 3 (-1), 3) := by decide +kernel
theorem dX5_firstWhole_27 : decode cX5_firstWhole 27 = .ok (.goto (-22), 3) := by decide +kernel
theorem dX5_firstWhole_30 : decode cX5_firstWhole 30 = .ok (.iload_n 2, 1) := by decide +kernel
theorem dX5_firstWhole_31 : decode cX5_firstWhole 31 = .ok (.ireturn, 1) := by decide +kernel
theorem dX5_lastWhole_0 : decode cX5_lastWhole 0 = .ok (.iconst (-1), 1) := by decide +kernel
theorem dX5_lastWhole_1 : decode cX5_lastWhole 1 = .ok (.istore_n 2, 1) := by decide +kernel
theorem dX5_lastWhole_2 : decode cX5_lastWhole 2 = .ok (.iconst 0, 1) := by decide +kernel
theorem dX5_lastWhole_3 : decode cX5_lastWhole 3 = .ok (.istore_n 3, 1) := by decide +kernel
theorem dX5_lastWhole_4 : decode cX5_lastWhole 4 = .ok (.iload_n 3, 1) := by decide +kernel
theorem dX5_lastWhole_5 : decode cX5_lastWhole 5 = .ok (.bipush 8, 2) := by decide +kernel
theorem dX5_lastWhole_7 : decode cX5_lastWhole 7 = .ok (.if_icmp .ge 24, 3) := by decide +kernel
theorem dX5_lastWhole_10 : decode cX5_lastWhole 10 = .ok (.aload_n 0, 1) := by decide +kernel
theorem dX5_lastWhole_11 : decode cX5_lastWhole 11 = .ok (.iload_n 1, 1) := by decide +kernel
theorem dX5_lastWhole_12 : decode cX5_lastWhole 12 = .ok (.iload_n 3, 1) := by decide +kernel
theorem dX5_lastWhole_13 : decode cX5_lastWhole 13 = .ok (.invokevirtual 64, 3) := by decide +kernel
theorem dX5_lastWhole_16 : decode cX5_lastWhole 16 = .ok (.ifCond .le 7, 3) := by decide +kernel
theorem dX5_lastWhole_19 : decode cX5_lastWhole 19 = .ok (.iload_n 3, 1) := by decide +kernel
theorem dX5_lastWhole_20 : decode cX5_lastWhole 20 = .ok (.goto 4, 3) := by decide +kernel
theorem dX5_lastWhole_23 : decode cX5_lastWhole 23 = .ok (.iload_n 2, 1) := by decide +kernel
theorem dX5_lastWhole_24 : decode cX5_lastWhole 24 = .ok (.istore_n 2, 1) := by decide +kernel
theorem dX5_lastWhole_25 : decode cX5_lastWhole 25 = .ok (.iinc 3 1, 3) := by decide +kernel
theorem dX5_lastWhole_28 : decode cX5_lastWhole 28 = .ok (.goto (-24), 3) := by decide +kernel
theorem dX5_lastWhole_31 : decode cX5_lastWhole 31 = .ok (.iload_n 2, 1) := by decide +kernel
theorem dX5_lastWhole_32 : decode cX5_lastWhole 32 = .ok (.ireturn, 1) := by decide +kernel
theorem dX5_scholarBites_0 : decode cX5_scholarBites 0 = .ok (.aload_n 0, 1) := by decide +kernel
theorem dX5_scholarBites_1 : decode cX5_scholarBites 1 = .ok (.iload_n 1, 1) := by decide +kernel
theorem dX5_scholarBites_2 : decode cX5_scholarBites 2 = .ok (.iload_n 2, 1) := by decide +kernel
theorem dX5_scholarBites_3 : decode cX5_scholarBites 3 = .ok (.invokevirtual 94, 3) := by decide +kernel
theorem dX5_scholarBites_6 : decode cX5_scholarBites 6 = .ok (.istore_n 3, 1) := by decide +kernel
theorem dX5_scholarBites_7 : decode cX5_scholarBites 7 = .ok (.iload_n 3, 1) := by decide +kernel
theorem dX5_scholarBites_8 : decode cX5_scholarBites 8 = .ok (.ifCond .lt 17, 3) := by decide +kernel
theorem dX5_scholarBites_11 : decode cX5_scholarBites 11 = .ok (.aload_n 0, 1) := by decide +kernel
theorem dX5_scholarBites_12 : decode cX5_scholarBites 12 = .ok (.iload_n 1, 1) := by decide +kernel
theorem dX5_scholarBites_13 : decode cX5_scholarBites 13 = .ok (.iload_n 3, 1) := by decide +kernel
theorem dX5_scholarBites_14 : decode cX5_scholarBites 14 = .ok (.invokevirtual 64, 3) := by decide +kernel
theorem dX5_scholarBites_17 : decode cX5_scholarBites 17 = .ok (.iload_n 2, 1) := by decide +kernel
theorem dX5_scholarBites_18 : decode cX5_scholarBites 18 = .ok (.if_icmp .lt 7, 3) := by decide +kernel
theorem dX5_scholarBites_21 : decode cX5_scholarBites 21 = .ok (.iload_n 3, 1) := by decide +kernel
theorem dX5_scholarBites_22 : decode cX5_scholarBites 22 = .ok (.goto 4, 3) := by decide +kernel
theorem dX5_scholarBites_25 : decode cX5_scholarBites 25 = .ok (.iconst (-1), 1) := by decide +kernel
theorem dX5_scholarBites_26 : decode cX5_scholarBites 26 = .ok (.ireturn, 1) := by decide +kernel
theorem dX5_bites_0 : decode cX5_bites 0 = .ok (.aload_n 0, 1) := by decide +kernel
theorem dX5_bites_1 : decode cX5_bites 1 = .ok (.iload_n 1, 1) := by decide +kernel
theorem dX5_bites_2 : decode cX5_bites 2 = .ok (.iconst 1, 1) := by decide +kernel
theorem dX5_bites_3 : decode cX5_bites 3 = .ok (.invokevirtual 67, 3) := by decide +kernel
theorem dX5_bites_6 : decode cX5_bites 6 = .ok (.istore_n 2, 1) := by decide +kernel
theorem dX5_bites_7 : decode cX5_bites 7 = .ok (.aload_n 0, 1) := by decide +kernel
theorem dX5_bites_8 : decode cX5_bites 8 = .ok (.iload_n 1, 1) := by decide +kernel
theorem dX5_bites_9 : decode cX5_bites 9 = .ok (.iconst 2, 1) := by decide +kernel
theorem dX5_bites_10 : decode cX5_bites 10 = .ok (.invokevirtual 67, 3) := by decide +kernel
theorem dX5_bites_13 : decode cX5_bites 13 = .ok (.istore_n 3, 1) := by decide +kernel
theorem dX5_bites_14 : decode cX5_bites 14 = .ok (.aload_n 0, 1) := by decide +kernel
theorem dX5_bites_15 : decode cX5_bites 15 = .ok (.iload_n 1, 1) := by decide +kernel
theorem dX5_bites_16 : decode cX5_bites 16 = .ok (.iconst 0, 1) := by decide +kernel
theorem dX5_bites_17 : decode cX5_bites 17 = .ok (.invokevirtual 67, 3) := by decide +kernel
theorem dX5_bites_20 : decode cX5_bites 20 = .ok (.tableswitch 122 1 6 #[40, 46, 53, 60, 85, 116], 40) := by decide +kernel
theorem dX5_bites_60 : decode cX5_bites 60 = .ok (.aload_n 0, 1) := by decide +kernel
theorem dX5_bites_61 : decode cX5_bites 61 = .ok (.iload_n 2, 1) := by decide +kernel
theorem dX5_bites_62 : decode cX5_bites 62 = .ok (.invokevirtual 97, 3) := by decide +kernel
theorem dX5_bites_65 : decode cX5_bites 65 = .ok (.ireturn, 1) := by decide +kernel
theorem dX5_bites_66 : decode cX5_bites 66 = .ok (.aload_n 0, 1) := by decide +kernel
theorem dX5_bites_67 : decode cX5_bites 67 = .ok (.iload_n 2, 1) := by decide +kernel
theorem dX5_bites_68 : decode cX5_bites 68 = .ok (.iload_n 3, 1) := by decide +kernel
theorem dX5_bites_69 : decode cX5_bites 69 = .ok (.invokevirtual 94, 3) := by decide +kernel
theorem dX5_bites_72 : decode cX5_bites 72 = .ok (.ireturn, 1) := by decide +kernel
theorem dX5_bites_73 : decode cX5_bites 73 = .ok (.aload_n 0, 1) := by decide +kernel
theorem dX5_bites_74 : decode cX5_bites 74 = .ok (.iload_n 2, 1) := by decide +kernel
theorem dX5_bites_75 : decode cX5_bites 75 = .ok (.iload_n 3, 1) := by decide +kernel
theorem dX5_bites_76 : decode cX5_bites 76 = .ok (.invokevirtual 100, 3) := by decide +kernel
theorem dX5_bites_79 : decode cX5_bites 79 = .ok (.ireturn, 1) := by decide +kernel
theorem dX5_bites_80 : decode cX5_bites 80 = .ok (.aload_n 0, 1) := by decide +kernel
theorem dX5_bites_81 : decode cX5_bites 81 = .ok (.iload_n 2, 1) := by decide +kernel
theorem dX5_bites_82 : decode cX5_bites 82 = .ok (.iload_n 3, 1) := by decide +kernel
theorem dX5_bites_83 : decode cX5_bites 83 = .ok (.invokevirtual 100, 3) := by decide +kernel
theorem dX5_bites_86 : decode cX5_bites 86 = .ok (.ifCond .ge 12, 3) := by decide +kernel
theorem dX5_bites_89 : decode cX5_bites 89 = .ok (.aload_n 0, 1) := by decide +kernel
theorem dX5_bites_90 : decode cX5_bites 90 = .ok (.iload_n 2, 1) := by decide +kernel
theorem dX5_bites_91 : decode cX5_bites 91 = .ok (.iload_n 3, 1) := by decide +kernel
theorem dX5_bites_92 : decode cX5_bites 92 = .ok (.invokevirtual 103, 3) := by decide +kernel
theorem dX5_bites_95 : decode cX5_bites 95 = .ok (.goto 9, 3) := by decide +kernel
theorem dX5_bites_98 : decode cX5_bites 98 = .ok (.aload_n 0, 1) := by decide +kernel
theorem dX5_bites_99 : decode cX5_bites 99 = .ok (.iload_n 2, 1) := by decide +kernel
theorem dX5_bites_100 : decode cX5_bites 100 = .ok (.iload_n 3, 1) := by decide +kernel
theorem dX5_bites_101 : decode cX5_bites 101 = .ok (.invokevirtual 100, 3) := by decide +kernel
theorem dX5_bites_104 : decode cX5_bites 104 = .ok (.ireturn, 1) := by decide +kernel
theorem dX5_bites_105 : decode cX5_bites 105 = .ok (.aload_n 0, 1) := by decide +kernel
theorem dX5_bites_106 : decode cX5_bites 106 = .ok (.iload_n 2, 1) := by decide +kernel
theorem dX5_bites_107 : decode cX5_bites 107 = .ok (.aload_n 0, 1) := by decide +kernel
theorem dX5_bites_108 : decode cX5_bites 108 = .ok (.iload_n 1, 1) := by decide +kernel
theorem dX5_bites_109 : decode cX5_bites 109 = .ok (.iconst 3, 1) := by decide +kernel
theorem dX5_bites_110 : decode cX5_bites 110 = .ok (.invokevirtual 67, 3) := by decide +kernel
theorem dX5_bites_113 : decode cX5_bites 113 = .ok (.bipush 8, 2) := by decide +kernel
theorem dX5_bites_115 : decode cX5_bites 115 = .ok (.irem, 1) := by decide +kernel
theorem dX5_bites_116 : decode cX5_bites 116 = .ok (.invokevirtual 64, 3) := by decide +kernel
theorem dX5_bites_119 : decode cX5_bites 119 = .ok (.ifCond .le 15, 3) := by decide +kernel
theorem dX5_bites_122 : decode cX5_bites 122 = .ok (.aload_n 0, 1) := by decide +kernel
theorem dX5_bites_123 : decode cX5_bites 123 = .ok (.iload_n 1, 1) := by decide +kernel
theorem dX5_bites_124 : decode cX5_bites 124 = .ok (.iconst 3, 1) := by decide +kernel
theorem dX5_bites_125 : decode cX5_bites 125 = .ok (.invokevirtual 67, 3) := by decide +kernel
theorem dX5_bites_128 : decode cX5_bites 128 = .ok (.bipush 8, 2) := by decide +kernel
theorem dX5_bites_130 : decode cX5_bites 130 = .ok (.irem, 1) := by decide +kernel
theorem dX5_bites_131 : decode cX5_bites 131 = .ok (.goto 4, 3) := by decide +kernel
theorem dX5_bites_134 : decode cX5_bites 134 = .ok (.iconst (-1), 1) := by decide +kernel
theorem dX5_bites_135 : decode cX5_bites 135 = .ok (.ireturn, 1) := by decide +kernel
theorem dX5_bites_136 : decode cX5_bites 136 = .ok (.aload_n 0, 1) := by decide +kernel
theorem dX5_bites_137 : decode cX5_bites 137 = .ok (.iload_n 2, 1) := by decide +kernel
theorem dX5_bites_138 : decode cX5_bites 138 = .ok (.invokevirtual 106, 3) := by decide +kernel
theorem dX5_bites_141 : decode cX5_bites 141 = .ok (.ireturn, 1) := by decide +kernel
theorem dX5_bites_142 : decode cX5_bites 142 = .ok (.aload_n 0, 1) := by decide +kernel
theorem dX5_bites_143 : decode cX5_bites 143 = .ok (.iload_n 2, 1) := by decide +kernel
theorem dX5_bites_144 : decode cX5_bites 144 = .ok (.iload_n 3, 1) := by decide +kernel
theorem dX5_bites_145 : decode cX5_bites 145 = .ok (.invokevirtual 103, 3) := by decide +kernel
theorem dX5_bites_148 : decode cX5_bites 148 = .ok (.ireturn, 1) := by decide +kernel
theorem dX5_leavesBy_0 : decode cX5_leavesBy 0 = .ok (.iload_n 0, 1) := by decide +kernel
theorem dX5_leavesBy_1 : decode cX5_leavesBy 1 = .ok (.tableswitch 83 1 6 #[39, 43, 48, 58, 83, 70], 39) := by decide +kernel
theorem dX5_leavesBy_40 : decode cX5_leavesBy 40 = .ok (.iload_n 1, 1) := by decide +kernel
theorem dX5_leavesBy_41 : decode cX5_leavesBy 41 = .ok (.iconst 1, 1) := by decide +kernel
theorem dX5_leavesBy_42 : decode cX5_leavesBy 42 = .ok (.isub, 1) := by decide +kernel
theorem dX5_leavesBy_43 : decode cX5_leavesBy 43 = .ok (.ireturn, 1) := by decide +kernel
theorem dX5_leavesBy_44 : decode cX5_leavesBy 44 = .ok (.bipush 10, 2) := by decide +kernel
theorem dX5_leavesBy_46 : decode cX5_leavesBy 46 = .ok (.iload_n 1, 1) := by decide +kernel
theorem dX5_leavesBy_47 : decode cX5_leavesBy 47 = .ok (.isub, 1) := by decide +kernel
theorem dX5_leavesBy_48 : decode cX5_leavesBy 48 = .ok (.ireturn, 1) := by decide +kernel
theorem dX5_leavesBy_49 : decode cX5_leavesBy 49 = .ok (.bipush 9, 2) := by decide +kernel
theorem dX5_leavesBy_51 : decode cX5_leavesBy 51 = .ok (.bipush 11, 2) := by decide +kernel
theorem dX5_leavesBy_53 : decode cX5_leavesBy 53 = .ok (.iload_n 1, 1) := by decide +kernel
theorem dX5_leavesBy_54 : decode cX5_leavesBy 54 = .ok (.isub, 1) := by decide +kernel
theorem dX5_leavesBy_55 : decode cX5_leavesBy 55 = .ok (.invokestatic 109, 3) := by decide +kernel
theorem dX5_leavesBy_58 : decode cX5_leavesBy 58 = .ok (.ireturn, 1) := by decide +kernel
theorem dX5_leavesBy_59 : decode cX5_leavesBy 59 = .ok (.bipush 9, 2) := by decide +kernel
theorem dX5_leavesBy_61 : decode cX5_leavesBy 61 = .ok (.bipush 11, 2) := by decide +kernel
theorem dX5_leavesBy_63 : decode cX5_leavesBy 63 = .ok (.iload_n 1, 1) := by decide +kernel
theorem dX5_leavesBy_64 : decode cX5_leavesBy 64 = .ok (.isub, 1) := by decide +kernel
theorem dX5_leavesBy_65 : decode cX5_leavesBy 65 = .ok (.invokestatic 109, 3) := by decide +kernel
theorem dX5_leavesBy_68 : decode cX5_leavesBy 68 = .ok (.iconst 2, 1) := by decide +kernel
theorem dX5_leavesBy_69 : decode cX5_leavesBy 69 = .ok (.idiv, 1) := by decide +kernel
theorem dX5_leavesBy_70 : decode cX5_leavesBy 70 = .ok (.ireturn, 1) := by decide +kernel
theorem dX5_leavesBy_71 : decode cX5_leavesBy 71 = .ok (.iload_n 1, 1) := by decide +kernel
theorem dX5_leavesBy_72 : decode cX5_leavesBy 72 = .ok (.iconst 2, 1) := by decide +kernel
theorem dX5_leavesBy_73 : decode cX5_leavesBy 73 = .ok (.if_icmp .ge 7, 3) := by decide +kernel
theorem dX5_leavesBy_76 : decode cX5_leavesBy 76 = .ok (.iconst 0, 1) := by decide +kernel
theorem dX5_leavesBy_77 : decode cX5_leavesBy 77 = .ok (.goto 6, 3) := by decide +kernel
theorem dX5_leavesBy_80 : decode cX5_leavesBy 80 = .ok (.iload_n 1, 1) := by decide +kernel
theorem dX5_leavesBy_81 : decode cX5_leavesBy 81 = .ok (.iconst 2, 1) := by decide +kernel
theorem dX5_leavesBy_82 : decode cX5_leavesBy 82 = .ok (.isub, 1) := by decide +kernel
theorem dX5_leavesBy_83 : decode cX5_leavesBy 83 = .ok (.ireturn, 1) := by decide +kernel
theorem dX5_leavesBy_84 : decode cX5_leavesBy 84 = .ok (.iconst 0, 1) := by decide +kernel
theorem dX5_leavesBy_85 : decode cX5_leavesBy 85 = .ok (.ireturn, 1) := by decide +kernel
theorem dX5_gainsBy_0 : decode cX5_gainsBy 0 = .ok (.iload_n 0, 1) := by decide +kernel
theorem dX5_gainsBy_1 : decode cX5_gainsBy 1 = .ok (.tableswitch 57 1 6 #[39, 41, 45, 45, 51, 55], 39) := by decide +kernel
theorem dX5_gainsBy_40 : decode cX5_gainsBy 40 = .ok (.iconst 1, 1) := by decide +kernel
theorem dX5_gainsBy_41 : decode cX5_gainsBy 41 = .ok (.ireturn, 1) := by decide +kernel
theorem dX5_gainsBy_42 : decode cX5_gainsBy 42 = .ok (.iload_n 1, 1) := by decide +kernel
theorem dX5_gainsBy_43 : decode cX5_gainsBy 43 = .ok (.iconst 2, 1) := by decide +kernel
theorem dX5_gainsBy_44 : decode cX5_gainsBy 44 = .ok (.idiv, 1) := by decide +kernel
theorem dX5_gainsBy_45 : decode cX5_gainsBy 45 = .ok (.ireturn, 1) := by decide +kernel
theorem dX5_gainsBy_46 : decode cX5_gainsBy 46 = .ok (.iload_n 1, 1) := by decide +kernel
theorem dX5_gainsBy_47 : decode cX5_gainsBy 47 = .ok (.iconst 2, 1) := by decide +kernel
theorem dX5_gainsBy_48 : decode cX5_gainsBy 48 = .ok (.idiv, 1) := by decide +kernel
theorem dX5_gainsBy_49 : decode cX5_gainsBy 49 = .ok (.iconst 1, 1) := by decide +kernel
theorem dX5_gainsBy_50 : decode cX5_gainsBy 50 = .ok (.iadd, 1) := by decide +kernel
theorem dX5_gainsBy_51 : decode cX5_gainsBy 51 = .ok (.ireturn, 1) := by decide +kernel
theorem dX5_gainsBy_52 : decode cX5_gainsBy 52 = .ok (.iload_n 1, 1) := by decide +kernel
theorem dX5_gainsBy_53 : decode cX5_gainsBy 53 = .ok (.iconst 1, 1) := by decide +kernel
theorem dX5_gainsBy_54 : decode cX5_gainsBy 54 = .ok (.iadd, 1) := by decide +kernel
theorem dX5_gainsBy_55 : decode cX5_gainsBy 55 = .ok (.ireturn, 1) := by decide +kernel
theorem dX5_gainsBy_56 : decode cX5_gainsBy 56 = .ok (.iconst 2, 1) := by decide +kernel
theorem dX5_gainsBy_57 : decode cX5_gainsBy 57 = .ok (.ireturn, 1) := by decide +kernel
theorem dX5_gainsBy_58 : decode cX5_gainsBy 58 = .ok (.iload_n 1, 1) := by decide +kernel
theorem dX5_gainsBy_59 : decode cX5_gainsBy 59 = .ok (.ireturn, 1) := by decide +kernel
theorem dX5_of_0 : decode cX5_of 0 = .ok (.aload_n 0, 1) := by decide +kernel
theorem dX5_of_1 : decode cX5_of 1 = .ok (.iload_n 1, 1) := by decide +kernel
theorem dX5_of_2 : decode cX5_of 2 = .ok (.invokevirtual 112, 3) := by decide +kernel
theorem dX5_of_5 : decode cX5_of 5 = .ok (.ifCond .eq 15, 3) := by decide +kernel
theorem dX5_of_8 : decode cX5_of 8 = .ok (.iload_n 2, 1) := by decide +kernel
theorem dX5_of_9 : decode cX5_of 9 = .ok (.i2l, 1) := by decide +kernel
theorem dX5_of_10 : decode cX5_of 10 = .ok (.lconst 0, 1) := by decide +kernel
theorem dX5_of_11 : decode cX5_of 11 = .ok (.ldc2_w 115, 3) := by decide +kernel
theorem dX5_of_14 : decode cX5_of 14 = .ok (.invokestatic 56, 3) := by decide +kernel
theorem dX5_of_17 : decode cX5_of 17 = .ok (.ifCond .ne 10, 3) := by decide +kernel
theorem dX5_of_20 : decode cX5_of 20 = .ok (.aload_n 0, 1) := by decide +kernel
theorem dX5_of_21 : decode cX5_of 21 = .ok (.ldc 40, 2) := by decide +kernel
theorem dX5_of_23 : decode cX5_of 23 = .ok (.invokevirtual 46, 3) := by decide +kernel
theorem dX5_of_26 : decode cX5_of 26 = .ok (.ireturn, 1) := by decide +kernel
theorem dX5_of_27 : decode cX5_of 27 = .ok (.iload_n 2, 1) := by decide +kernel
theorem dX5_of_28 : decode cX5_of 28 = .ok (.iconst 4, 1) := by decide +kernel
theorem dX5_of_29 : decode cX5_of 29 = .ok (.if_icmp .ge 12, 3) := by decide +kernel
theorem dX5_of_32 : decode cX5_of 32 = .ok (.aload_n 0, 1) := by decide +kernel
theorem dX5_of_33 : decode cX5_of 33 = .ok (.iload_n 1, 1) := by decide +kernel
theorem dX5_of_34 : decode cX5_of 34 = .ok (.iload_n 2, 1) := by decide +kernel
theorem dX5_of_35 : decode cX5_of 35 = .ok (.invokevirtual 67, 3) := by decide +kernel
theorem dX5_of_38 : decode cX5_of 38 = .ok (.goto 8, 3) := by decide +kernel
theorem dX5_of_41 : decode cX5_of 41 = .ok (.aload_n 0, 1) := by decide +kernel
theorem dX5_of_42 : decode cX5_of 42 = .ok (.iload_n 1, 1) := by decide +kernel
theorem dX5_of_43 : decode cX5_of 43 = .ok (.invokevirtual 117, 3) := by decide +kernel
theorem dX5_of_46 : decode cX5_of 46 = .ok (.ireturn, 1) := by decide +kernel
theorem dX5_isFit_0 : decode cX5_isFit 0 = .ok (.iload_n 0, 1) := by decide +kernel
theorem dX5_isFit_1 : decode cX5_isFit 1 = .ok (.tableswitch 52 0 2 #[27, 37, 42], 27) := by decide +kernel
theorem dX5_isFit_28 : decode cX5_isFit 28 = .ok (.iload_n 1, 1) := by decide +kernel
theorem dX5_isFit_29 : decode cX5_isFit 29 = .ok (.i2l, 1) := by decide +kernel
theorem dX5_isFit_30 : decode cX5_isFit 30 = .ok (.lconst 0, 1) := by decide +kernel
theorem dX5_isFit_31 : decode cX5_isFit 31 = .ok (.ldc2_w 87, 3) := by decide +kernel
theorem dX5_isFit_34 : decode cX5_isFit 34 = .ok (.invokestatic 56, 3) := by decide +kernel
theorem dX5_isFit_37 : decode cX5_isFit 37 = .ok (.ireturn, 1) := by decide +kernel
theorem dX5_isFit_38 : decode cX5_isFit 38 = .ok (.iload_n 1, 1) := by decide +kernel
theorem dX5_isFit_39 : decode cX5_isFit 39 = .ok (.invokestatic 41, 3) := by decide +kernel
theorem dX5_isFit_42 : decode cX5_isFit 42 = .ok (.ireturn, 1) := by decide +kernel
theorem dX5_isFit_43 : decode cX5_isFit 43 = .ok (.iload_n 1, 1) := by decide +kernel
theorem dX5_isFit_44 : decode cX5_isFit 44 = .ok (.i2l, 1) := by decide +kernel
theorem dX5_isFit_45 : decode cX5_isFit 45 = .ok (.lconst 1, 1) := by decide +kernel
theorem dX5_isFit_46 : decode cX5_isFit 46 = .ok (.ldc2_w 54, 3) := by decide +kernel
theorem dX5_isFit_49 : decode cX5_isFit 49 = .ok (.invokestatic 56, 3) := by decide +kernel
theorem dX5_isFit_52 : decode cX5_isFit 52 = .ok (.ireturn, 1) := by decide +kernel
theorem dX5_isFit_53 : decode cX5_isFit 53 = .ok (.iload_n 0, 1) := by decide +kernel
theorem dX5_isFit_54 : decode cX5_isFit 54 = .ok (.iconst 3, 1) := by decide +kernel
theorem dX5_isFit_55 : decode cX5_isFit 55 = .ok (.if_icmp .ne 19, 3) := by decide +kernel
theorem dX5_isFit_58 : decode cX5_isFit 58 = .ok (.iload_n 1, 1) := by decide +kernel
theorem dX5_isFit_59 : decode cX5_isFit 59 = .ok (.i2l, 1) := by decide +kernel
theorem dX5_isFit_60 : decode cX5_isFit 60 = .ok (.lconst 0, 1) := by decide +kernel
theorem dX5_isFit_61 : decode cX5_isFit 61 = .ok (.ldc2_w 120, 3) := by decide +kernel
theorem dX5_isFit_64 : decode cX5_isFit 64 = .ok (.invokestatic 56, 3) := by decide +kernel
theorem dX5_isFit_67 : decode cX5_isFit 67 = .ok (.ifCond .eq 7, 3) := by decide +kernel
theorem dX5_isFit_70 : decode cX5_isFit 70 = .ok (.iconst 1, 1) := by decide +kernel
theorem dX5_isFit_71 : decode cX5_isFit 71 = .ok (.goto 4, 3) := by decide +kernel
theorem dX5_isFit_74 : decode cX5_isFit 74 = .ok (.iconst 0, 1) := by decide +kernel
theorem dX5_isFit_75 : decode cX5_isFit 75 = .ok (.ireturn, 1) := by decide +kernel
theorem dX5_change_0 : decode cX5_change 0 = .ok (.aload_n 0, 1) := by decide +kernel
theorem dX5_change_1 : decode cX5_change 1 = .ok (.iload_n 1, 1) := by decide +kernel
theorem dX5_change_2 : decode cX5_change 2 = .ok (.invokevirtual 112, 3) := by decide +kernel
theorem dX5_change_5 : decode cX5_change 5 = .ok (.ifCond .eq 24, 3) := by decide +kernel
theorem dX5_change_8 : decode cX5_change 8 = .ok (.iload_n 2, 1) := by decide +kernel
theorem dX5_change_9 : decode cX5_change 9 = .ok (.iload_n 3, 1) := by decide +kernel
theorem dX5_change_10 : decode cX5_change 10 = .ok (.invokestatic 122, 3) := by decide +kernel
theorem dX5_change_13 : decode cX5_change 13 = .ok (.ifCond .eq 16, 3) := by decide +kernel
theorem dX5_change_16 : decode cX5_change 16 = .ok (.aload_n 0, 1) := by decide +kernel
theorem dX5_change_17 : decode cX5_change 17 = .ok (.iload_n 1, 1) := by decide +kernel
theorem dX5_change_18 : decode cX5_change 18 = .ok (.iload_n 2, 1) := by decide +kernel
theorem dX5_change_19 : decode cX5_change 19 = .ok (.invokestatic 84, 3) := by decide +kernel
theorem dX5_change_22 : decode cX5_change 22 = .ok (.iload_n 3, 1) := by decide +kernel
theorem dX5_change_23 : decode cX5_change 23 = .ok (.invokevirtual 60, 3) := by decide +kernel
theorem dX5_change_26 : decode cX5_change 26 = .ok (.goto 9, 3) := by decide +kernel
theorem dX5_change_29 : decode cX5_change 29 = .ok (.aload_n 0, 1) := by decide +kernel
theorem dX5_change_30 : decode cX5_change 30 = .ok (.ldc 40, 2) := by decide +kernel
theorem dX5_change_32 : decode cX5_change 32 = .ok (.invokevirtual 46, 3) := by decide +kernel
theorem dX5_change_35 : decode cX5_change 35 = .ok (.ireturn, 1) := by decide +kernel
theorem dX5_leaves_0 : decode cX5_leaves 0 = .ok (.aload_n 0, 1) := by decide +kernel
theorem dX5_leaves_1 : decode cX5_leaves 1 = .ok (.iload_n 1, 1) := by decide +kernel
theorem dX5_leaves_2 : decode cX5_leaves 2 = .ok (.invokevirtual 112, 3) := by decide +kernel
theorem dX5_leaves_5 : decode cX5_leaves 5 = .ok (.ifCond .eq 25, 3) := by decide +kernel
theorem dX5_leaves_8 : decode cX5_leaves 8 = .ok (.iload_n 2, 1) := by decide +kernel
theorem dX5_leaves_9 : decode cX5_leaves 9 = .ok (.i2l, 1) := by decide +kernel
theorem dX5_leaves_10 : decode cX5_leaves 10 = .ok (.lconst 1, 1) := by decide +kernel
theorem dX5_leaves_11 : decode cX5_leaves 11 = .ok (.ldc2_w 54, 3) := by decide +kernel
theorem dX5_leaves_14 : decode cX5_leaves 14 = .ok (.invokestatic 56, 3) := by decide +kernel
theorem dX5_leaves_17 : decode cX5_leaves 17 = .ok (.ifCond .eq 13, 3) := by decide +kernel
theorem dX5_leaves_20 : decode cX5_leaves 20 = .ok (.iload_n 3, 1) := by decide +kernel
theorem dX5_leaves_21 : decode cX5_leaves 21 = .ok (.i2l, 1) := by decide +kernel
theorem dX5_leaves_22 : decode cX5_leaves 22 = .ok (.lconst 0, 1) := by decide +kernel
theorem dX5_leaves_23 : decode cX5_leaves 23 = .ok (.lconst 1, 1) := by decide +kernel
theorem dX5_leaves_24 : decode cX5_leaves 24 = .ok (.invokestatic 56, 3) := by decide +kernel
theorem dX5_leaves_27 : decode cX5_leaves 27 = .ok (.ifCond .ne 10, 3) := by decide +kernel
theorem dX5_leaves_30 : decode cX5_leaves 30 = .ok (.aload_n 0, 1) := by decide +kernel
theorem dX5_leaves_31 : decode cX5_leaves 31 = .ok (.ldc 40, 2) := by decide +kernel
theorem dX5_leaves_33 : decode cX5_leaves 33 = .ok (.invokevirtual 46, 3) := by decide +kernel
theorem dX5_leaves_36 : decode cX5_leaves 36 = .ok (.ireturn, 1) := by decide +kernel
theorem dX5_leaves_37 : decode cX5_leaves 37 = .ok (.iload_n 3, 1) := by decide +kernel
theorem dX5_leaves_38 : decode cX5_leaves 38 = .ok (.ifCond .ne 16, 3) := by decide +kernel
theorem dX5_leaves_41 : decode cX5_leaves 41 = .ok (.aload_n 0, 1) := by decide +kernel
theorem dX5_leaves_42 : decode cX5_leaves 42 = .ok (.iload_n 1, 1) := by decide +kernel
theorem dX5_leaves_43 : decode cX5_leaves 43 = .ok (.iconst 0, 1) := by decide +kernel
theorem dX5_leaves_44 : decode cX5_leaves 44 = .ok (.invokevirtual 67, 3) := by decide +kernel
theorem dX5_leaves_47 : decode cX5_leaves 47 = .ok (.iload_n 2, 1) := by decide +kernel
theorem dX5_leaves_48 : decode cX5_leaves 48 = .ok (.invokestatic 125, 3) := by decide +kernel
theorem dX5_leaves_51 : decode cX5_leaves 51 = .ok (.goto 13, 3) := by decide +kernel
theorem dX5_leaves_54 : decode cX5_leaves 54 = .ok (.aload_n 0, 1) := by decide +kernel
theorem dX5_leaves_55 : decode cX5_leaves 55 = .ok (.iload_n 1, 1) := by decide +kernel
theorem dX5_leaves_56 : decode cX5_leaves 56 = .ok (.iconst 0, 1) := by decide +kernel
theorem dX5_leaves_57 : decode cX5_leaves 57 = .ok (.invokevirtual 67, 3) := by decide +kernel
theorem dX5_leaves_60 : decode cX5_leaves 60 = .ok (.iload_n 2, 1) := by decide +kernel
theorem dX5_leaves_61 : decode cX5_leaves 61 = .ok (.invokestatic 128, 3) := by decide +kernel
theorem dX5_leaves_64 : decode cX5_leaves 64 = .ok (.ireturn, 1) := by decide +kernel
theorem dX5_nightBut_0 : decode cX5_nightBut 0 = .ok (.iconst 0, 1) := by decide +kernel
theorem dX5_nightBut_1 : decode cX5_nightBut 1 = .ok (.istore_n 2, 1) := by decide +kernel
theorem dX5_nightBut_2 : decode cX5_nightBut 2 = .ok (.iload_n 2, 1) := by decide +kernel
theorem dX5_nightBut_3 : decode cX5_nightBut 3 = .ok (.aload_n 0, 1) := by decide +kernel
theorem dX5_nightBut_4 : decode cX5_nightBut 4 = .ok (.getfield 7, 3) := by decide +kernel
theorem dX5_nightBut_7 : decode cX5_nightBut 7 = .ok (.iconst 0, 1) := by decide +kernel
theorem dX5_nightBut_8 : decode cX5_nightBut 8 = .ok (.iaload, 1) := by decide +kernel
theorem dX5_nightBut_9 : decode cX5_nightBut 9 = .ok (.if_icmp .ge 105, 3) := by decide +kernel
theorem dX5_nightBut_12 : decode cX5_nightBut 12 = .ok (.iload_n 1, 1) := by decide +kernel
theorem dX5_nightBut_13 : decode cX5_nightBut 13 = .ok (.iload_n 2, 1) := by decide +kernel
theorem dX5_nightBut_14 : decode cX5_nightBut 14 = .ok (.ishr, 1) := by decide +kernel
end
section
theorem dX5_nightBut_15 : decode cX5_nightBut 15 = .ok (.iconst 1, 1) := by decide +kernel
theorem dX5_nightBut_16 : decode cX5_nightBut 16 = .ok (.iand, 1) := by decide +kernel
theorem dX5_nightBut_17 : decode cX5_nightBut 17 = .ok (.iconst 1, 1) := by decide +kernel
theorem dX5_nightBut_18 : decode cX5_nightBut 18 = .ok (.if_icmp .ne 7, 3) := by decide +kernel
theorem dX5_nightBut_21 : decode cX5_nightBut 21 = .ok (.iconst (-1), 1) := by decide +kernel
theorem dX5_nightBut_22 : decode cX5_nightBut 22 = .ok (.goto 8, 3) := by decide +kernel
theorem dX5_nightBut_25 : decode cX5_nightBut 25 = .ok (.aload_n 0, 1) := by decide +kernel
theorem dX5_nightBut_26 : decode cX5_nightBut 26 = .ok (.iload_n 2, 1) := by decide +kernel
theorem dX5_nightBut_27 : decode cX5_nightBut 27 = .ok (.invokevirtual 117, 3) := by decide +kernel
theorem dX5_nightBut_30 : decode cX5_nightBut 30 = .ok (.istore_n 3, 1) := by decide +kernel
theorem dX5_nightBut_31 : decode cX5_nightBut 31 = .ok (.iload_n 3, 1) := by decide +kernel
theorem dX5_nightBut_32 : decode cX5_nightBut 32 = .ok (.ifCond .lt 76, 3) := by decide +kernel
theorem dX5_nightBut_35 : decode cX5_nightBut 35 = .ok (.aload_n 0, 1) := by decide +kernel
theorem dX5_nightBut_36 : decode cX5_nightBut 36 = .ok (.iload_n 2, 1) := by decide +kernel
theorem dX5_nightBut_37 : decode cX5_nightBut 37 = .ok (.iconst 0, 1) := by decide +kernel
theorem dX5_nightBut_38 : decode cX5_nightBut 38 = .ok (.invokevirtual 67, 3) := by decide +kernel
theorem dX5_nightBut_41 : decode cX5_nightBut 41 = .ok (.istore 4, 2) := by decide +kernel
theorem dX5_nightBut_43 : decode cX5_nightBut 43 = .ok (.aload_n 0, 1) := by decide +kernel
theorem dX5_nightBut_44 : decode cX5_nightBut 44 = .ok (.iconst 3, 1) := by decide +kernel
theorem dX5_nightBut_45 : decode cX5_nightBut 45 = .ok (.bipush 8, 2) := by decide +kernel
theorem dX5_nightBut_47 : decode cX5_nightBut 47 = .ok (.aload_n 0, 1) := by decide +kernel
theorem dX5_nightBut_48 : decode cX5_nightBut 48 = .ok (.iload_n 2, 1) := by decide +kernel
theorem dX5_nightBut_49 : decode cX5_nightBut 49 = .ok (.iconst 1, 1) := by decide +kernel
theorem dX5_nightBut_50 : decode cX5_nightBut 50 = .ok (.invokevirtual 67, 3) := by decide +kernel
theorem dX5_nightBut_53 : decode cX5_nightBut 53 = .ok (.imul, 1) := by decide +kernel
theorem dX5_nightBut_54 : decode cX5_nightBut 54 = .ok (.iadd, 1) := by decide +kernel
theorem dX5_nightBut_55 : decode cX5_nightBut 55 = .ok (.iload_n 3, 1) := by decide +kernel
theorem dX5_nightBut_56 : decode cX5_nightBut 56 = .ok (.iadd, 1) := by decide +kernel
theorem dX5_nightBut_57 : decode cX5_nightBut 57 = .ok (.iload 4, 2) := by decide +kernel
theorem dX5_nightBut_59 : decode cX5_nightBut 59 = .ok (.aload_n 0, 1) := by decide +kernel
theorem dX5_nightBut_60 : decode cX5_nightBut 60 = .ok (.aload_n 0, 1) := by decide +kernel
theorem dX5_nightBut_61 : decode cX5_nightBut 61 = .ok (.iload_n 2, 1) := by decide +kernel
theorem dX5_nightBut_62 : decode cX5_nightBut 62 = .ok (.iconst 1, 1) := by decide +kernel
theorem dX5_nightBut_63 : decode cX5_nightBut 63 = .ok (.invokevirtual 67, 3) := by decide +kernel
theorem dX5_nightBut_66 : decode cX5_nightBut 66 = .ok (.iload_n 3, 1) := by decide +kernel
theorem dX5_nightBut_67 : decode cX5_nightBut 67 = .ok (.invokevirtual 64, 3) := by decide +kernel
theorem dX5_nightBut_70 : decode cX5_nightBut 70 = .ok (.invokestatic 125, 3) := by decide +kernel
theorem dX5_nightBut_73 : decode cX5_nightBut 73 = .ok (.invokevirtual 60, 3) := by decide +kernel
theorem dX5_nightBut_76 : decode cX5_nightBut 76 = .ok (.istore 5, 2) := by decide +kernel
theorem dX5_nightBut_78 : decode cX5_nightBut 78 = .ok (.aload_n 0, 1) := by decide +kernel
theorem dX5_nightBut_79 : decode cX5_nightBut 79 = .ok (.getfield 7, 3) := by decide +kernel
theorem dX5_nightBut_82 : decode cX5_nightBut 82 = .ok (.iload_n 2, 1) := by decide +kernel
theorem dX5_nightBut_83 : decode cX5_nightBut 83 = .ok (.iconst 3, 1) := by decide +kernel
theorem dX5_nightBut_84 : decode cX5_nightBut 84 = .ok (.invokestatic 84, 3) := by decide +kernel
theorem dX5_nightBut_87 : decode cX5_nightBut 87 = .ok (.sipush 9999, 3) := by decide +kernel
theorem dX5_nightBut_90 : decode cX5_nightBut 90 = .ok (.aload_n 0, 1) := by decide +kernel
theorem dX5_nightBut_91 : decode cX5_nightBut 91 = .ok (.iload_n 2, 1) := by decide +kernel
theorem dX5_nightBut_92 : decode cX5_nightBut 92 = .ok (.iconst 3, 1) := by decide +kernel
theorem dX5_nightBut_93 : decode cX5_nightBut 93 = .ok (.invokevirtual 67, 3) := by decide +kernel
theorem dX5_nightBut_96 : decode cX5_nightBut 96 = .ok (.iload 4, 2) := by decide +kernel
theorem dX5_nightBut_98 : decode cX5_nightBut 98 = .ok (.iload 5, 2) := by decide +kernel
theorem dX5_nightBut_100 : decode cX5_nightBut 100 = .ok (.invokestatic 128, 3) := by decide +kernel
theorem dX5_nightBut_103 : decode cX5_nightBut 103 = .ok (.iadd, 1) := by decide +kernel
theorem dX5_nightBut_104 : decode cX5_nightBut 104 = .ok (.invokestatic 109, 3) := by decide +kernel
theorem dX5_nightBut_107 : decode cX5_nightBut 107 = .ok (.iastore, 1) := by decide +kernel
theorem dX5_nightBut_108 : decode cX5_nightBut 108 = .ok (.iinc 2 1, 3) := by decide +kernel
theorem dX5_nightBut_111 : decode cX5_nightBut 111 = .ok (.goto (-109), 3) := by decide +kernel
theorem dX5_nightBut_114 : decode cX5_nightBut 114 = .ok (.aload_n 0, 1) := by decide +kernel
theorem dX5_nightBut_115 : decode cX5_nightBut 115 = .ok (.getfield 7, 3) := by decide +kernel
theorem dX5_nightBut_118 : decode cX5_nightBut 118 = .ok (.iconst 1, 1) := by decide +kernel
theorem dX5_nightBut_119 : decode cX5_nightBut 119 = .ok (.dup2, 1) := by decide +kernel
theorem dX5_nightBut_120 : decode cX5_nightBut 120 = .ok (.iaload, 1) := by decide +kernel
theorem dX5_nightBut_121 : decode cX5_nightBut 121 = .ok (.iconst 1, 1) := by decide +kernel
theorem dX5_nightBut_122 : decode cX5_nightBut 122 = .ok (.iadd, 1) := by decide +kernel
theorem dX5_nightBut_123 : decode cX5_nightBut 123 = .ok (.iastore, 1) := by decide +kernel
theorem dX5_nightBut_124 : decode cX5_nightBut 124 = .ok (.return_, 1) := by decide +kernel
theorem dX5_goes_0 : decode cX5_goes 0 = .ok (.iconst 0, 1) := by decide +kernel
theorem dX5_goes_1 : decode cX5_goes 1 = .ok (.istore_n 2, 1) := by decide +kernel
theorem dX5_goes_2 : decode cX5_goes 2 = .ok (.iload_n 2, 1) := by decide +kernel
theorem dX5_goes_3 : decode cX5_goes 3 = .ok (.iload_n 1, 1) := by decide +kernel
theorem dX5_goes_4 : decode cX5_goes 4 = .ok (.if_icmp .ge 14, 3) := by decide +kernel
theorem dX5_goes_7 : decode cX5_goes 7 = .ok (.aload_n 0, 1) := by decide +kernel
theorem dX5_goes_8 : decode cX5_goes 8 = .ok (.iconst 0, 1) := by decide +kernel
theorem dX5_goes_9 : decode cX5_goes 9 = .ok (.invokevirtual 131, 3) := by decide +kernel
theorem dX5_goes_12 : decode cX5_goes 12 = .ok (.iinc 2 1, 3) := by decide +kernel
theorem dX5_goes_15 : decode cX5_goes 15 = .ok (.goto (-13), 3) := by decide +kernel
theorem dX5_goes_18 : decode cX5_goes 18 = .ok (.return_, 1) := by decide +kernel
theorem dX5_holes_0 : decode cX5_holes 0 = .ok (.iconst 0, 1) := by decide +kernel
theorem dX5_holes_1 : decode cX5_holes 1 = .ok (.istore_n 1, 1) := by decide +kernel
theorem dX5_holes_2 : decode cX5_holes 2 = .ok (.iconst 0, 1) := by decide +kernel
theorem dX5_holes_3 : decode cX5_holes 3 = .ok (.istore_n 2, 1) := by decide +kernel
theorem dX5_holes_4 : decode cX5_holes 4 = .ok (.iload_n 2, 1) := by decide +kernel
theorem dX5_holes_5 : decode cX5_holes 5 = .ok (.bipush 48, 2) := by decide +kernel
theorem dX5_holes_7 : decode cX5_holes 7 = .ok (.if_icmp .ge 28, 3) := by decide +kernel
theorem dX5_holes_10 : decode cX5_holes 10 = .ok (.iload_n 1, 1) := by decide +kernel
theorem dX5_holes_11 : decode cX5_holes 11 = .ok (.aload_n 0, 1) := by decide +kernel
theorem dX5_holes_12 : decode cX5_holes 12 = .ok (.getfield 7, 3) := by decide +kernel
theorem dX5_holes_15 : decode cX5_holes 15 = .ok (.iconst 3, 1) := by decide +kernel
theorem dX5_holes_16 : decode cX5_holes 16 = .ok (.iload_n 2, 1) := by decide +kernel
theorem dX5_holes_17 : decode cX5_holes 17 = .ok (.iadd, 1) := by decide +kernel
theorem dX5_holes_18 : decode cX5_holes 18 = .ok (.iaload, 1) := by decide +kernel
theorem dX5_holes_19 : decode cX5_holes 19 = .ok (.ifCond .ne 7, 3) := by decide +kernel
theorem dX5_holes_22 : decode cX5_holes 22 = .ok (.iconst 1, 1) := by decide +kernel
theorem dX5_holes_23 : decode cX5_holes 23 = .ok (.goto 4, 3) := by decide +kernel
theorem dX5_holes_26 : decode cX5_holes 26 = .ok (.iconst 0, 1) := by decide +kernel
theorem dX5_holes_27 : decode cX5_holes 27 = .ok (.iadd, 1) := by decide +kernel
theorem dX5_holes_28 : decode cX5_holes 28 = .ok (.istore_n 1, 1) := by decide +kernel
theorem dX5_holes_29 : decode cX5_holes 29 = .ok (.iinc 2 1, 3) := by decide +kernel
theorem dX5_holes_32 : decode cX5_holes 32 = .ok (.goto (-28), 3) := by decide +kernel
theorem dX5_holes_35 : decode cX5_holes 35 = .ok (.iload_n 1, 1) := by decide +kernel
theorem dX5_holes_36 : decode cX5_holes 36 = .ok (.ireturn, 1) := by decide +kernel
theorem dX5_go_0 : decode cX5_go 0 = .ok (.iload_n 1, 1) := by decide +kernel
theorem dX5_go_1 : decode cX5_go 1 = .ok (.i2l, 1) := by decide +kernel
theorem dX5_go_2 : decode cX5_go 2 = .ok (.lconst 1, 1) := by decide +kernel
theorem dX5_go_3 : decode cX5_go 3 = .ok (.ldc2_w 135, 3) := by decide +kernel
theorem dX5_go_6 : decode cX5_go 6 = .ok (.invokestatic 56, 3) := by decide +kernel
theorem dX5_go_9 : decode cX5_go 9 = .ok (.ifCond .ne 10, 3) := by decide +kernel
theorem dX5_go_12 : decode cX5_go 12 = .ok (.aload_n 0, 1) := by decide +kernel
theorem dX5_go_13 : decode cX5_go 13 = .ok (.ldc 40, 2) := by decide +kernel
theorem dX5_go_15 : decode cX5_go 15 = .ok (.invokevirtual 46, 3) := by decide +kernel
theorem dX5_go_18 : decode cX5_go 18 = .ok (.ireturn, 1) := by decide +kernel
theorem dX5_go_19 : decode cX5_go 19 = .ok (.aload_n 0, 1) := by decide +kernel
theorem dX5_go_20 : decode cX5_go 20 = .ok (.getfield 7, 3) := by decide +kernel
theorem dX5_go_23 : decode cX5_go 23 = .ok (.iconst 1, 1) := by decide +kernel
theorem dX5_go_24 : decode cX5_go 24 = .ok (.iaload, 1) := by decide +kernel
theorem dX5_go_25 : decode cX5_go 25 = .ok (.iload_n 1, 1) := by decide +kernel
theorem dX5_go_26 : decode cX5_go 26 = .ok (.iadd, 1) := by decide +kernel
theorem dX5_go_27 : decode cX5_go 27 = .ok (.ldc 137, 2) := by decide +kernel
theorem dX5_go_29 : decode cX5_go 29 = .ok (.if_icmp .le 10, 3) := by decide +kernel
theorem dX5_go_32 : decode cX5_go 32 = .ok (.aload_n 0, 1) := by decide +kernel
theorem dX5_go_33 : decode cX5_go 33 = .ok (.ldc 138, 2) := by decide +kernel
theorem dX5_go_35 : decode cX5_go 35 = .ok (.invokevirtual 46, 3) := by decide +kernel
theorem dX5_go_38 : decode cX5_go 38 = .ok (.ireturn, 1) := by decide +kernel
theorem dX5_go_39 : decode cX5_go 39 = .ok (.aload_n 0, 1) := by decide +kernel
theorem dX5_go_40 : decode cX5_go 40 = .ok (.iload_n 1, 1) := by decide +kernel
theorem dX5_go_41 : decode cX5_go 41 = .ok (.invokevirtual 139, 3) := by decide +kernel
theorem dX5_go_44 : decode cX5_go 44 = .ok (.aload_n 0, 1) := by decide +kernel
theorem dX5_go_45 : decode cX5_go 45 = .ok (.invokevirtual 142, 3) := by decide +kernel
theorem dX5_go_48 : decode cX5_go 48 = .ok (.ireturn, 1) := by decide +kernel
theorem dX5_saysAll_0 : decode cX5_saysAll 0 = .ok (.iconst 0, 1) := by decide +kernel
theorem dX5_saysAll_1 : decode cX5_saysAll 1 = .ok (.istore_n 1, 1) := by decide +kernel
theorem dX5_saysAll_2 : decode cX5_saysAll 2 = .ok (.iconst 0, 1) := by decide +kernel
theorem dX5_saysAll_3 : decode cX5_saysAll 3 = .ok (.istore_n 2, 1) := by decide +kernel
theorem dX5_saysAll_4 : decode cX5_saysAll 4 = .ok (.iload_n 2, 1) := by decide +kernel
theorem dX5_saysAll_5 : decode cX5_saysAll 5 = .ok (.bipush 6, 2) := by decide +kernel
theorem dX5_saysAll_7 : decode cX5_saysAll 7 = .ok (.if_icmp .ge 17, 3) := by decide +kernel
theorem dX5_saysAll_10 : decode cX5_saysAll 10 = .ok (.iload_n 1, 1) := by decide +kernel
theorem dX5_saysAll_11 : decode cX5_saysAll 11 = .ok (.aload_n 0, 1) := by decide +kernel
theorem dX5_saysAll_12 : decode cX5_saysAll 12 = .ok (.iload_n 2, 1) := by decide +kernel
theorem dX5_saysAll_13 : decode cX5_saysAll 13 = .ok (.invokevirtual 72, 3) := by decide +kernel
theorem dX5_saysAll_16 : decode cX5_saysAll 16 = .ok (.iadd, 1) := by decide +kernel
theorem dX5_saysAll_17 : decode cX5_saysAll 17 = .ok (.istore_n 1, 1) := by decide +kernel
theorem dX5_saysAll_18 : decode cX5_saysAll 18 = .ok (.iinc 2 1, 3) := by decide +kernel
theorem dX5_saysAll_21 : decode cX5_saysAll 21 = .ok (.goto (-17), 3) := by decide +kernel
theorem dX5_saysAll_24 : decode cX5_saysAll 24 = .ok (.iload_n 1, 1) := by decide +kernel
theorem dX5_saysAll_25 : decode cX5_saysAll 25 = .ok (.ireturn, 1) := by decide +kernel
theorem dX5_fedAll_0 : decode cX5_fedAll 0 = .ok (.iconst 0, 1) := by decide +kernel
theorem dX5_fedAll_1 : decode cX5_fedAll 1 = .ok (.istore_n 1, 1) := by decide +kernel
theorem dX5_fedAll_2 : decode cX5_fedAll 2 = .ok (.iconst 0, 1) := by decide +kernel
theorem dX5_fedAll_3 : decode cX5_fedAll 3 = .ok (.istore_n 2, 1) := by decide +kernel
theorem dX5_fedAll_4 : decode cX5_fedAll 4 = .ok (.iload_n 2, 1) := by decide +kernel
theorem dX5_fedAll_5 : decode cX5_fedAll 5 = .ok (.aload_n 0, 1) := by decide +kernel
theorem dX5_fedAll_6 : decode cX5_fedAll 6 = .ok (.getfield 7, 3) := by decide +kernel
theorem dX5_fedAll_9 : decode cX5_fedAll 9 = .ok (.iconst 0, 1) := by decide +kernel
theorem dX5_fedAll_10 : decode cX5_fedAll 10 = .ok (.iaload, 1) := by decide +kernel
theorem dX5_fedAll_11 : decode cX5_fedAll 11 = .ok (.if_icmp .ge 18, 3) := by decide +kernel
theorem dX5_fedAll_14 : decode cX5_fedAll 14 = .ok (.iload_n 1, 1) := by decide +kernel
theorem dX5_fedAll_15 : decode cX5_fedAll 15 = .ok (.aload_n 0, 1) := by decide +kernel
theorem dX5_fedAll_16 : decode cX5_fedAll 16 = .ok (.iload_n 2, 1) := by decide +kernel
theorem dX5_fedAll_17 : decode cX5_fedAll 17 = .ok (.iconst 3, 1) := by decide +kernel
theorem dX5_fedAll_18 : decode cX5_fedAll 18 = .ok (.invokevirtual 67, 3) := by decide +kernel
theorem dX5_fedAll_21 : decode cX5_fedAll 21 = .ok (.iadd, 1) := by decide +kernel
theorem dX5_fedAll_22 : decode cX5_fedAll 22 = .ok (.istore_n 1, 1) := by decide +kernel
theorem dX5_fedAll_23 : decode cX5_fedAll 23 = .ok (.iinc 2 1, 3) := by decide +kernel
theorem dX5_fedAll_26 : decode cX5_fedAll 26 = .ok (.goto (-22), 3) := by decide +kernel
theorem dX5_fedAll_29 : decode cX5_fedAll 29 = .ok (.iload_n 1, 1) := by decide +kernel
theorem dX5_fedAll_30 : decode cX5_fedAll 30 = .ok (.ireturn, 1) := by decide +kernel
theorem dX5_hungry_0 : decode cX5_hungry 0 = .ok (.iconst 0, 1) := by decide +kernel
theorem dX5_hungry_1 : decode cX5_hungry 1 = .ok (.istore_n 1, 1) := by decide +kernel
theorem dX5_hungry_2 : decode cX5_hungry 2 = .ok (.iconst 0, 1) := by decide +kernel
theorem dX5_hungry_3 : decode cX5_hungry 3 = .ok (.istore_n 2, 1) := by decide +kernel
theorem dX5_hungry_4 : decode cX5_hungry 4 = .ok (.iload_n 2, 1) := by decide +kernel
theorem dX5_hungry_5 : decode cX5_hungry 5 = .ok (.aload_n 0, 1) := by decide +kernel
theorem dX5_hungry_6 : decode cX5_hungry 6 = .ok (.getfield 7, 3) := by decide +kernel
theorem dX5_hungry_9 : decode cX5_hungry 9 = .ok (.iconst 0, 1) := by decide +kernel
theorem dX5_hungry_10 : decode cX5_hungry 10 = .ok (.iaload, 1) := by decide +kernel
theorem dX5_hungry_11 : decode cX5_hungry 11 = .ok (.if_icmp .ge 27, 3) := by decide +kernel
theorem dX5_hungry_14 : decode cX5_hungry 14 = .ok (.iload_n 1, 1) := by decide +kernel
theorem dX5_hungry_15 : decode cX5_hungry 15 = .ok (.aload_n 0, 1) := by decide +kernel
theorem dX5_hungry_16 : decode cX5_hungry 16 = .ok (.iload_n 2, 1) := by decide +kernel
theorem dX5_hungry_17 : decode cX5_hungry 17 = .ok (.invokevirtual 117, 3) := by decide +kernel
theorem dX5_hungry_20 : decode cX5_hungry 20 = .ok (.ifCond .ge 9, 3) := by decide +kernel
theorem dX5_hungry_23 : decode cX5_hungry 23 = .ok (.iconst 1, 1) := by decide +kernel
theorem dX5_hungry_24 : decode cX5_hungry 24 = .ok (.iload_n 2, 1) := by decide +kernel
theorem dX5_hungry_25 : decode cX5_hungry 25 = .ok (.ishl, 1) := by decide +kernel
theorem dX5_hungry_26 : decode cX5_hungry 26 = .ok (.goto 4, 3) := by decide +kernel
theorem dX5_hungry_29 : decode cX5_hungry 29 = .ok (.iconst 0, 1) := by decide +kernel
theorem dX5_hungry_30 : decode cX5_hungry 30 = .ok (.ior, 1) := by decide +kernel
theorem dX5_hungry_31 : decode cX5_hungry 31 = .ok (.istore_n 1, 1) := by decide +kernel
theorem dX5_hungry_32 : decode cX5_hungry 32 = .ok (.iinc 2 1, 3) := by decide +kernel
theorem dX5_hungry_35 : decode cX5_hungry 35 = .ok (.goto (-31), 3) := by decide +kernel
theorem dX5_hungry_38 : decode cX5_hungry 38 = .ok (.iload_n 1, 1) := by decide +kernel
theorem dX5_hungry_39 : decode cX5_hungry 39 = .ok (.ireturn, 1) := by decide +kernel
theorem dX5_barePages_0 : decode cX5_barePages 0 = .ok (.iconst 0, 1) := by decide +kernel
theorem dX5_barePages_1 : decode cX5_barePages 1 = .ok (.istore_n 1, 1) := by decide +kernel
theorem dX5_barePages_2 : decode cX5_barePages 2 = .ok (.iconst 0, 1) := by decide +kernel
theorem dX5_barePages_3 : decode cX5_barePages 3 = .ok (.istore_n 2, 1) := by decide +kernel
theorem dX5_barePages_4 : decode cX5_barePages 4 = .ok (.iload_n 2, 1) := by decide +kernel
theorem dX5_barePages_5 : decode cX5_barePages 5 = .ok (.bipush 6, 2) := by decide +kernel
theorem dX5_barePages_7 : decode cX5_barePages 7 = .ok (.if_icmp .ge 27, 3) := by decide +kernel
theorem dX5_barePages_10 : decode cX5_barePages 10 = .ok (.iload_n 1, 1) := by decide +kernel
theorem dX5_barePages_11 : decode cX5_barePages 11 = .ok (.aload_n 0, 1) := by decide +kernel
theorem dX5_barePages_12 : decode cX5_barePages 12 = .ok (.iload_n 2, 1) := by decide +kernel
theorem dX5_barePages_13 : decode cX5_barePages 13 = .ok (.invokevirtual 75, 3) := by decide +kernel
theorem dX5_barePages_16 : decode cX5_barePages 16 = .ok (.ifCond .ne 9, 3) := by decide +kernel
theorem dX5_barePages_19 : decode cX5_barePages 19 = .ok (.iconst 1, 1) := by decide +kernel
theorem dX5_barePages_20 : decode cX5_barePages 20 = .ok (.iload_n 2, 1) := by decide +kernel
theorem dX5_barePages_21 : decode cX5_barePages 21 = .ok (.ishl, 1) := by decide +kernel
theorem dX5_barePages_22 : decode cX5_barePages 22 = .ok (.goto 4, 3) := by decide +kernel
theorem dX5_barePages_25 : decode cX5_barePages 25 = .ok (.iconst 0, 1) := by decide +kernel
theorem dX5_barePages_26 : decode cX5_barePages 26 = .ok (.ior, 1) := by decide +kernel
theorem dX5_barePages_27 : decode cX5_barePages 27 = .ok (.istore_n 1, 1) := by decide +kernel
theorem dX5_barePages_28 : decode cX5_barePages 28 = .ok (.iinc 2 1, 3) := by decide +kernel
theorem dX5_barePages_31 : decode cX5_barePages 31 = .ok (.goto (-27), 3) := by decide +kernel
theorem dX5_barePages_34 : decode cX5_barePages 34 = .ok (.iload_n 1, 1) := by decide +kernel
theorem dX5_barePages_35 : decode cX5_barePages 35 = .ok (.ireturn, 1) := by decide +kernel
theorem dX5_now_0 : decode cX5_now 0 = .ok (.iload_n 1, 1) := by decide +kernel
theorem dX5_now_1 : decode cX5_now 1 = .ok (.tableswitch 71 0 5 #[39, 46, 51, 56, 61, 66], 39) := by decide +kernel
theorem dX5_now_40 : decode cX5_now 40 = .ok (.aload_n 0, 1) := by decide +kernel
theorem dX5_now_41 : decode cX5_now 41 = .ok (.getfield 7, 3) := by decide +kernel
theorem dX5_now_44 : decode cX5_now 44 = .ok (.iconst 1, 1) := by decide +kernel
theorem dX5_now_45 : decode cX5_now 45 = .ok (.iaload, 1) := by decide +kernel
theorem dX5_now_46 : decode cX5_now 46 = .ok (.ireturn, 1) := by decide +kernel
theorem dX5_now_47 : decode cX5_now 47 = .ok (.aload_n 0, 1) := by decide +kernel
theorem dX5_now_48 : decode cX5_now 48 = .ok (.invokevirtual 142, 3) := by decide +kernel
theorem dX5_now_51 : decode cX5_now 51 = .ok (.ireturn, 1) := by decide +kernel
theorem dX5_now_52 : decode cX5_now 52 = .ok (.aload_n 0, 1) := by decide +kernel
theorem dX5_now_53 : decode cX5_now 53 = .ok (.invokevirtual 146, 3) := by decide +kernel
theorem dX5_now_56 : decode cX5_now 56 = .ok (.ireturn, 1) := by decide +kernel
theorem dX5_now_57 : decode cX5_now 57 = .ok (.aload_n 0, 1) := by decide +kernel
theorem dX5_now_58 : decode cX5_now 58 = .ok (.invokevirtual 149, 3) := by decide +kernel
theorem dX5_now_61 : decode cX5_now 61 = .ok (.ireturn, 1) := by decide +kernel
theorem dX5_now_62 : decode cX5_now 62 = .ok (.aload_n 0, 1) := by decide +kernel
theorem dX5_now_63 : decode cX5_now 63 = .ok (.invokevirtual 152, 3) := by decide +kernel
theorem dX5_now_66 : decode cX5_now 66 = .ok (.ireturn, 1) := by decide +kernel
theorem dX5_now_67 : decode cX5_now 67 = .ok (.aload_n 0, 1) := by decide +kernel
theorem dX5_now_68 : decode cX5_now 68 = .ok (.invokevirtual 155, 3) := by decide +kernel
theorem dX5_now_71 : decode cX5_now 71 = .ok (.ireturn, 1) := by decide +kernel
theorem dX5_now_72 : decode cX5_now 72 = .ok (.aload_n 0, 1) := by decide +kernel
theorem dX5_now_73 : decode cX5_now 73 = .ok (.ldc 40, 2) := by decide +kernel
theorem dX5_now_75 : decode cX5_now 75 = .ok (.invokevirtual 46, 3) := by decide +kernel
theorem dX5_now_78 : decode cX5_now 78 = .ok (.ireturn, 1) := by decide +kernel
theorem dX5_ahead_0 : decode cX5_ahead 0 = .ok (.iload_n 1, 1) := by decide +kernel
theorem dX5_ahead_1 : decode cX5_ahead 1 = .ok (.iload_n 2, 1) := by decide +kernel
theorem dX5_ahead_2 : decode cX5_ahead 2 = .ok (.invokestatic 50, 3) := by decide +kernel
theorem dX5_ahead_5 : decode cX5_ahead 5 = .ok (.ifCond .eq 15, 3) := by decide +kernel
theorem dX5_ahead_8 : decode cX5_ahead 8 = .ok (.iload_n 3, 1) := by decide +kernel
theorem dX5_ahead_9 : decode cX5_ahead 9 = .ok (.i2l, 1) := by decide +kernel
theorem dX5_ahead_10 : decode cX5_ahead 10 = .ok (.lconst 0, 1) := by decide +kernel
theorem dX5_ahead_11 : decode cX5_ahead 11 = .ok (.ldc2_w 158, 3) := by decide +kernel
theorem dX5_ahead_14 : decode cX5_ahead 14 = .ok (.invokestatic 56, 3) := by decide +kernel
theorem dX5_ahead_17 : decode cX5_ahead 17 = .ok (.ifCond .ne 10, 3) := by decide +kernel
theorem dX5_ahead_20 : decode cX5_ahead 20 = .ok (.aload_n 0, 1) := by decide +kernel
theorem dX5_ahead_21 : decode cX5_ahead 21 = .ok (.ldc 40, 2) := by decide +kernel
theorem dX5_ahead_23 : decode cX5_ahead 23 = .ok (.invokevirtual 46, 3) := by decide +kernel
theorem dX5_ahead_26 : decode cX5_ahead 26 = .ok (.ireturn, 1) := by decide +kernel
theorem dX5_ahead_27 : decode cX5_ahead 27 = .ok (.aload_n 0, 1) := by decide +kernel
theorem dX5_ahead_28 : decode cX5_ahead 28 = .ok (.getfield 7, 3) := by decide +kernel
theorem dX5_ahead_31 : decode cX5_ahead 31 = .ok (.aload_n 0, 1) := by decide +kernel
theorem dX5_ahead_32 : decode cX5_ahead 32 = .ok (.getfield 19, 3) := by decide +kernel
theorem dX5_ahead_35 : decode cX5_ahead 35 = .ok (.invokestatic 160, 3) := by decide +kernel
theorem dX5_ahead_38 : decode cX5_ahead 38 = .ok (.aload_n 0, 1) := by decide +kernel
theorem dX5_ahead_39 : decode cX5_ahead 39 = .ok (.iload_n 3, 1) := by decide +kernel
theorem dX5_ahead_40 : decode cX5_ahead 40 = .ok (.invokevirtual 139, 3) := by decide +kernel
theorem dX5_ahead_43 : decode cX5_ahead 43 = .ok (.aload_n 0, 1) := by decide +kernel
theorem dX5_ahead_44 : decode cX5_ahead 44 = .ok (.iload_n 1, 1) := by decide +kernel
theorem dX5_ahead_45 : decode cX5_ahead 45 = .ok (.iload_n 2, 1) := by decide +kernel
theorem dX5_ahead_46 : decode cX5_ahead 46 = .ok (.invokevirtual 64, 3) := by decide +kernel
theorem dX5_ahead_49 : decode cX5_ahead 49 = .ok (.istore 4, 2) := by decide +kernel
theorem dX5_ahead_51 : decode cX5_ahead 51 = .ok (.aload_n 0, 1) := by decide +kernel
theorem dX5_ahead_52 : decode cX5_ahead 52 = .ok (.getfield 19, 3) := by decide +kernel
theorem dX5_ahead_55 : decode cX5_ahead 55 = .ok (.aload_n 0, 1) := by decide +kernel
theorem dX5_ahead_56 : decode cX5_ahead 56 = .ok (.getfield 7, 3) := by decide +kernel
theorem dX5_ahead_59 : decode cX5_ahead 59 = .ok (.invokestatic 160, 3) := by decide +kernel
theorem dX5_ahead_62 : decode cX5_ahead 62 = .ok (.iload 4, 2) := by decide +kernel
theorem dX5_ahead_64 : decode cX5_ahead 64 = .ok (.ireturn, 1) := by decide +kernel
theorem dX5_saysIn_0 : decode cX5_saysIn 0 = .ok (.aload_n 0, 1) := by decide +kernel
theorem dX5_saysIn_1 : decode cX5_saysIn 1 = .ok (.getfield 7, 3) := by decide +kernel
theorem dX5_saysIn_4 : decode cX5_saysIn 4 = .ok (.aload_n 0, 1) := by decide +kernel
theorem dX5_saysIn_5 : decode cX5_saysIn 5 = .ok (.getfield 19, 3) := by decide +kernel
theorem dX5_saysIn_8 : decode cX5_saysIn 8 = .ok (.invokestatic 160, 3) := by decide +kernel
theorem dX5_saysIn_11 : decode cX5_saysIn 11 = .ok (.aload_n 0, 1) := by decide +kernel
theorem dX5_saysIn_12 : decode cX5_saysIn 12 = .ok (.iload_n 2, 1) := by decide +kernel
theorem dX5_saysIn_13 : decode cX5_saysIn 13 = .ok (.invokevirtual 139, 3) := by decide +kernel
theorem dX5_saysIn_16 : decode cX5_saysIn 16 = .ok (.aload_n 0, 1) := by decide +kernel
theorem dX5_saysIn_17 : decode cX5_saysIn 17 = .ok (.iload_n 1, 1) := by decide +kernel
theorem dX5_saysIn_18 : decode cX5_saysIn 18 = .ok (.invokevirtual 72, 3) := by decide +kernel
theorem dX5_saysIn_21 : decode cX5_saysIn 21 = .ok (.istore_n 3, 1) := by decide +kernel
theorem dX5_saysIn_22 : decode cX5_saysIn 22 = .ok (.aload_n 0, 1) := by decide +kernel
theorem dX5_saysIn_23 : decode cX5_saysIn 23 = .ok (.getfield 19, 3) := by decide +kernel
theorem dX5_saysIn_26 : decode cX5_saysIn 26 = .ok (.aload_n 0, 1) := by decide +kernel
theorem dX5_saysIn_27 : decode cX5_saysIn 27 = .ok (.getfield 7, 3) := by decide +kernel
theorem dX5_saysIn_30 : decode cX5_saysIn 30 = .ok (.invokestatic 160, 3) := by decide +kernel
theorem dX5_saysIn_33 : decode cX5_saysIn 33 = .ok (.iload_n 3, 1) := by decide +kernel
theorem dX5_saysIn_34 : decode cX5_saysIn 34 = .ok (.ireturn, 1) := by decide +kernel
theorem dX5_says_0 : decode cX5_says 0 = .ok (.iload_n 1, 1) := by decide +kernel
theorem dX5_says_1 : decode cX5_says 1 = .ok (.invokestatic 41, 3) := by decide +kernel
theorem dX5_says_4 : decode cX5_says 4 = .ok (.ifCond .eq 24, 3) := by decide +kernel
theorem dX5_says_7 : decode cX5_says 7 = .ok (.iload_n 2, 1) := by decide +kernel
theorem dX5_says_8 : decode cX5_says 8 = .ok (.i2l, 1) := by decide +kernel
theorem dX5_says_9 : decode cX5_says 9 = .ok (.lconst 0, 1) := by decide +kernel
theorem dX5_says_10 : decode cX5_says 10 = .ok (.ldc2_w 158, 3) := by decide +kernel
theorem dX5_says_13 : decode cX5_says 13 = .ok (.invokestatic 56, 3) := by decide +kernel
theorem dX5_says_16 : decode cX5_says 16 = .ok (.ifCond .eq 12, 3) := by decide +kernel
theorem dX5_says_19 : decode cX5_says 19 = .ok (.aload_n 0, 1) := by decide +kernel
theorem dX5_says_20 : decode cX5_says 20 = .ok (.iload_n 1, 1) := by decide +kernel
theorem dX5_says_21 : decode cX5_says 21 = .ok (.iload_n 2, 1) := by decide +kernel
theorem dX5_says_22 : decode cX5_says 22 = .ok (.invokevirtual 164, 3) := by decide +kernel
theorem dX5_says_25 : decode cX5_says 25 = .ok (.goto 9, 3) := by decide +kernel
theorem dX5_says_28 : decode cX5_says 28 = .ok (.aload_n 0, 1) := by decide +kernel
theorem dX5_says_29 : decode cX5_says 29 = .ok (.ldc 40, 2) := by decide +kernel
theorem dX5_says_31 : decode cX5_says 31 = .ok (.invokevirtual 46, 3) := by decide +kernel
theorem dX5_says_34 : decode cX5_says 34 = .ok (.ireturn, 1) := by decide +kernel
theorem dX5_fed_0 : decode cX5_fed 0 = .ok (.aload_n 0, 1) := by decide +kernel
theorem dX5_fed_1 : decode cX5_fed 1 = .ok (.iload_n 1, 1) := by decide +kernel
theorem dX5_fed_2 : decode cX5_fed 2 = .ok (.invokevirtual 112, 3) := by decide +kernel
theorem dX5_fed_5 : decode cX5_fed 5 = .ok (.ifCond .eq 15, 3) := by decide +kernel
theorem dX5_fed_8 : decode cX5_fed 8 = .ok (.iload_n 2, 1) := by decide +kernel
theorem dX5_fed_9 : decode cX5_fed 9 = .ok (.i2l, 1) := by decide +kernel
theorem dX5_fed_10 : decode cX5_fed 10 = .ok (.lconst 0, 1) := by decide +kernel
theorem dX5_fed_11 : decode cX5_fed 11 = .ok (.ldc2_w 158, 3) := by decide +kernel
theorem dX5_fed_14 : decode cX5_fed 14 = .ok (.invokestatic 56, 3) := by decide +kernel
theorem dX5_fed_17 : decode cX5_fed 17 = .ok (.ifCond .ne 10, 3) := by decide +kernel
theorem dX5_fed_20 : decode cX5_fed 20 = .ok (.aload_n 0, 1) := by decide +kernel
theorem dX5_fed_21 : decode cX5_fed 21 = .ok (.ldc 40, 2) := by decide +kernel
theorem dX5_fed_23 : decode cX5_fed 23 = .ok (.invokevirtual 46, 3) := by decide +kernel
theorem dX5_fed_26 : decode cX5_fed 26 = .ok (.ireturn, 1) := by decide +kernel
theorem dX5_fed_27 : decode cX5_fed 27 = .ok (.aload_n 0, 1) := by decide +kernel
theorem dX5_fed_28 : decode cX5_fed 28 = .ok (.getfield 7, 3) := by decide +kernel
theorem dX5_fed_31 : decode cX5_fed 31 = .ok (.aload_n 0, 1) := by decide +kernel
theorem dX5_fed_32 : decode cX5_fed 32 = .ok (.getfield 19, 3) := by decide +kernel
theorem dX5_fed_35 : decode cX5_fed 35 = .ok (.invokestatic 160, 3) := by decide +kernel
theorem dX5_fed_38 : decode cX5_fed 38 = .ok (.aload_n 0, 1) := by decide +kernel
theorem dX5_fed_39 : decode cX5_fed 39 = .ok (.iload_n 2, 1) := by decide +kernel
theorem dX5_fed_40 : decode cX5_fed 40 = .ok (.invokevirtual 139, 3) := by decide +kernel
theorem dX5_fed_43 : decode cX5_fed 43 = .ok (.aload_n 0, 1) := by decide +kernel
theorem dX5_fed_44 : decode cX5_fed 44 = .ok (.iload_n 1, 1) := by decide +kernel
theorem dX5_fed_45 : decode cX5_fed 45 = .ok (.iconst 3, 1) := by decide +kernel
theorem dX5_fed_46 : decode cX5_fed 46 = .ok (.invokevirtual 67, 3) := by decide +kernel
theorem dX5_fed_49 : decode cX5_fed 49 = .ok (.istore_n 3, 1) := by decide +kernel
theorem dX5_fed_50 : decode cX5_fed 50 = .ok (.aload_n 0, 1) := by decide +kernel
theorem dX5_fed_51 : decode cX5_fed 51 = .ok (.getfield 19, 3) := by decide +kernel
theorem dX5_fed_54 : decode cX5_fed 54 = .ok (.aload_n 0, 1) := by decide +kernel
theorem dX5_fed_55 : decode cX5_fed 55 = .ok (.getfield 7, 3) := by decide +kernel
theorem dX5_fed_58 : decode cX5_fed 58 = .ok (.invokestatic 160, 3) := by decide +kernel
theorem dX5_fed_61 : decode cX5_fed 61 = .ok (.iload_n 3, 1) := by decide +kernel
theorem dX5_fed_62 : decode cX5_fed 62 = .ok (.ireturn, 1) := by decide +kernel
theorem dX5_bare_0 : decode cX5_bare 0 = .ok (.iload_n 1, 1) := by decide +kernel
theorem dX5_bare_1 : decode cX5_bare 1 = .ok (.invokestatic 41, 3) := by decide +kernel
theorem dX5_bare_4 : decode cX5_bare 4 = .ok (.ifCond .ne 10, 3) := by decide +kernel
theorem dX5_bare_7 : decode cX5_bare 7 = .ok (.aload_n 0, 1) := by decide +kernel
theorem dX5_bare_8 : decode cX5_bare 8 = .ok (.ldc 40, 2) := by decide +kernel
theorem dX5_bare_10 : decode cX5_bare 10 = .ok (.invokevirtual 46, 3) := by decide +kernel
theorem dX5_bare_13 : decode cX5_bare 13 = .ok (.ireturn, 1) := by decide +kernel
theorem dX5_bare_14 : decode cX5_bare 14 = .ok (.aload_n 0, 1) := by decide +kernel
theorem dX5_bare_15 : decode cX5_bare 15 = .ok (.getfield 7, 3) := by decide +kernel
theorem dX5_bare_18 : decode cX5_bare 18 = .ok (.aload_n 0, 1) := by decide +kernel
theorem dX5_bare_19 : decode cX5_bare 19 = .ok (.getfield 19, 3) := by decide +kernel
theorem dX5_bare_22 : decode cX5_bare 22 = .ok (.invokestatic 160, 3) := by decide +kernel
theorem dX5_bare_25 : decode cX5_bare 25 = .ok (.iconst 0, 1) := by decide +kernel
theorem dX5_bare_26 : decode cX5_bare 26 = .ok (.istore_n 2, 1) := by decide +kernel
theorem dX5_bare_27 : decode cX5_bare 27 = .ok (.iload_n 2, 1) := by decide +kernel
theorem dX5_bare_28 : decode cX5_bare 28 = .ok (.sipush 200, 3) := by decide +kernel
theorem dX5_bare_31 : decode cX5_bare 31 = .ok (.if_icmp .gt 22, 3) := by decide +kernel
theorem dX5_bare_34 : decode cX5_bare 34 = .ok (.aload_n 0, 1) := by decide +kernel
theorem dX5_bare_35 : decode cX5_bare 35 = .ok (.iload_n 1, 1) := by decide +kernel
theorem dX5_bare_36 : decode cX5_bare 36 = .ok (.invokevirtual 75, 3) := by decide +kernel
theorem dX5_bare_39 : decode cX5_bare 39 = .ok (.ifCond .eq 14, 3) := by decide +kernel
theorem dX5_bare_42 : decode cX5_bare 42 = .ok (.aload_n 0, 1) := by decide +kernel
theorem dX5_bare_43 : decode cX5_bare 43 = .ok (.iconst 0, 1) := by decide +kernel
theorem dX5_bare_44 : decode cX5_bare 44 = .ok (.invokevirtual 131, 3) := by decide +kernel
theorem dX5_bare_47 : decode cX5_bare 47 = .ok (.iinc 2 1, 3) := by decide +kernel
theorem dX5_bare_50 : decode cX5_bare 50 = .ok (.goto (-23), 3) := by decide +kernel
theorem dX5_bare_53 : decode cX5_bare 53 = .ok (.aload_n 0, 1) := by decide +kernel
theorem dX5_bare_54 : decode cX5_bare 54 = .ok (.getfield 19, 3) := by decide +kernel
theorem dX5_bare_57 : decode cX5_bare 57 = .ok (.aload_n 0, 1) := by decide +kernel
theorem dX5_bare_58 : decode cX5_bare 58 = .ok (.getfield 7, 3) := by decide +kernel
theorem dX5_bare_61 : decode cX5_bare 61 = .ok (.invokestatic 160, 3) := by decide +kernel
theorem dX5_bare_64 : decode cX5_bare 64 = .ok (.iload_n 2, 1) := by decide +kernel
theorem dX5_bare_65 : decode cX5_bare 65 = .ok (.sipush 200, 3) := by decide +kernel
theorem dX5_bare_68 : decode cX5_bare 68 = .ok (.if_icmp .gt 7, 3) := by decide +kernel
theorem dX5_bare_71 : decode cX5_bare 71 = .ok (.iload_n 2, 1) := by decide +kernel
theorem dX5_bare_72 : decode cX5_bare 72 = .ok (.goto 9, 3) := by decide +kernel
theorem dX5_bare_75 : decode cX5_bare 75 = .ok (.aload_n 0, 1) := by decide +kernel
theorem dX5_bare_76 : decode cX5_bare 76 = .ok (.ldc 45, 2) := by decide +kernel
theorem dX5_bare_78 : decode cX5_bare 78 = .ok (.invokevirtual 46, 3) := by decide +kernel
theorem dX5_bare_81 : decode cX5_bare 81 = .ok (.ireturn, 1) := by decide +kernel
theorem dX5_when_0 : decode cX5_when 0 = .ok (.iload_n 1, 1) := by decide +kernel
theorem dX5_when_1 : decode cX5_when 1 = .ok (.invokestatic 41, 3) := by decide +kernel
theorem dX5_when_4 : decode cX5_when 4 = .ok (.ifCond .eq 15, 3) := by decide +kernel
theorem dX5_when_7 : decode cX5_when 7 = .ok (.iload_n 2, 1) := by decide +kernel
theorem dX5_when_8 : decode cX5_when 8 = .ok (.i2l, 1) := by decide +kernel
theorem dX5_when_9 : decode cX5_when 9 = .ok (.lconst 0, 1) := by decide +kernel
theorem dX5_when_10 : decode cX5_when 10 = .ok (.ldc2_w 167, 3) := by decide +kernel
theorem dX5_when_13 : decode cX5_when 13 = .ok (.invokestatic 56, 3) := by decide +kernel
theorem dX5_when_16 : decode cX5_when 16 = .ok (.ifCond .ne 10, 3) := by decide +kernel
theorem dX5_when_19 : decode cX5_when 19 = .ok (.aload_n 0, 1) := by decide +kernel
theorem dX5_when_20 : decode cX5_when 20 = .ok (.ldc 40, 2) := by decide +kernel
theorem dX5_when_22 : decode cX5_when 22 = .ok (.invokevirtual 46, 3) := by decide +kernel
theorem dX5_when_25 : decode cX5_when 25 = .ok (.ireturn, 1) := by decide +kernel
theorem dX5_when_26 : decode cX5_when 26 = .ok (.aload_n 0, 1) := by decide +kernel
theorem dX5_when_27 : decode cX5_when 27 = .ok (.getfield 7, 3) := by decide +kernel
theorem dX5_when_30 : decode cX5_when 30 = .ok (.aload_n 0, 1) := by decide +kernel
theorem dX5_when_31 : decode cX5_when 31 = .ok (.getfield 19, 3) := by decide +kernel
theorem dX5_when_34 : decode cX5_when 34 = .ok (.invokestatic 160, 3) := by decide +kernel
theorem dX5_when_37 : decode cX5_when 37 = .ok (.iconst 0, 1) := by decide +kernel
theorem dX5_when_38 : decode cX5_when 38 = .ok (.istore_n 3, 1) := by decide +kernel
theorem dX5_when_39 : decode cX5_when 39 = .ok (.iload_n 3, 1) := by decide +kernel
theorem dX5_when_40 : decode cX5_when 40 = .ok (.sipush 200, 3) := by decide +kernel
theorem dX5_when_43 : decode cX5_when 43 = .ok (.if_icmp .gt 23, 3) := by decide +kernel
theorem dX5_when_46 : decode cX5_when 46 = .ok (.aload_n 0, 1) := by decide +kernel
theorem dX5_when_47 : decode cX5_when 47 = .ok (.iload_n 1, 1) := by decide +kernel
theorem dX5_when_48 : decode cX5_when 48 = .ok (.invokevirtual 72, 3) := by decide +kernel
theorem dX5_when_51 : decode cX5_when 51 = .ok (.iload_n 2, 1) := by decide +kernel
theorem dX5_when_52 : decode cX5_when 52 = .ok (.if_icmp .eq 14, 3) := by decide +kernel
theorem dX5_when_55 : decode cX5_when 55 = .ok (.aload_n 0, 1) := by decide +kernel
theorem dX5_when_56 : decode cX5_when 56 = .ok (.iconst 0, 1) := by decide +kernel
theorem dX5_when_57 : decode cX5_when 57 = .ok (.invokevirtual 131, 3) := by decide +kernel
theorem dX5_when_60 : decode cX5_when 60 = .ok (.iinc 3 1, 3) := by decide +kernel
theorem dX5_when_63 : decode cX5_when 63 = .ok (.goto (-24), 3) := by decide +kernel
theorem dX5_when_66 : decode cX5_when 66 = .ok (.aload_n 0, 1) := by decide +kernel
theorem dX5_when_67 : decode cX5_when 67 = .ok (.getfield 19, 3) := by decide +kernel
theorem dX5_when_70 : decode cX5_when 70 = .ok (.aload_n 0, 1) := by decide +kernel
theorem dX5_when_71 : decode cX5_when 71 = .ok (.getfield 7, 3) := by decide +kernel
theorem dX5_when_74 : decode cX5_when 74 = .ok (.invokestatic 160, 3) := by decide +kernel
theorem dX5_when_77 : decode cX5_when 77 = .ok (.iload_n 3, 1) := by decide +kernel
theorem dX5_when_78 : decode cX5_when 78 = .ok (.sipush 200, 3) := by decide +kernel
theorem dX5_when_81 : decode cX5_when 81 = .ok (.if_icmp .gt 7, 3) := by decide +kernel
theorem dX5_when_84 : decode cX5_when 84 = .ok (.iload_n 3, 1) := by decide +kernel
theorem dX5_when_85 : decode cX5_when 85 = .ok (.goto 9, 3) := by decide +kernel
theorem dX5_when_88 : decode cX5_when 88 = .ok (.aload_n 0, 1) := by decide +kernel
theorem dX5_when_89 : decode cX5_when 89 = .ok (.ldc 45, 2) := by decide +kernel
theorem dX5_when_91 : decode cX5_when 91 = .ok (.invokevirtual 46, 3) := by decide +kernel
theorem dX5_when_94 : decode cX5_when 94 = .ok (.ireturn, 1) := by decide +kernel
theorem dX5_leavesAll_0 : decode cX5_leavesAll 0 = .ok (.iconst 0, 1) := by decide +kernel
theorem dX5_leavesAll_1 : decode cX5_leavesAll 1 = .ok (.istore_n 1, 1) := by decide +kernel
theorem dX5_leavesAll_2 : decode cX5_leavesAll 2 = .ok (.iload_n 1, 1) := by decide +kernel
theorem dX5_leavesAll_3 : decode cX5_leavesAll 3 = .ok (.bipush 48, 2) := by decide +kernel
theorem dX5_leavesAll_5 : decode cX5_leavesAll 5 = .ok (.if_icmp .ge 23, 3) := by decide +kernel
theorem dX5_leavesAll_8 : decode cX5_leavesAll 8 = .ok (.aload_n 0, 1) := by decide +kernel
theorem dX5_leavesAll_9 : decode cX5_leavesAll 9 = .ok (.getfield 37, 3) := by decide +kernel
theorem dX5_leavesAll_12 : decode cX5_leavesAll 12 = .ok (.iload_n 1, 1) := by decide +kernel
theorem dX5_leavesAll_13 : decode cX5_leavesAll 13 = .ok (.aload_n 0, 1) := by decide +kernel
theorem dX5_leavesAll_14 : decode cX5_leavesAll 14 = .ok (.getfield 7, 3) := by decide +kernel
theorem dX5_leavesAll_17 : decode cX5_leavesAll 17 = .ok (.iconst 3, 1) := by decide +kernel
theorem dX5_leavesAll_18 : decode cX5_leavesAll 18 = .ok (.iload_n 1, 1) := by decide +kernel
theorem dX5_leavesAll_19 : decode cX5_leavesAll 19 = .ok (.iadd, 1) := by decide +kernel
theorem dX5_leavesAll_20 : decode cX5_leavesAll 20 = .ok (.iaload, 1) := by decide +kernel
theorem dX5_leavesAll_21 : decode cX5_leavesAll 21 = .ok (.iastore, 1) := by decide +kernel
theorem dX5_leavesAll_22 : decode cX5_leavesAll 22 = .ok (.iinc 1 1, 3) := by decide +kernel
theorem dX5_leavesAll_25 : decode cX5_leavesAll 25 = .ok (.goto (-23), 3) := by decide +kernel
theorem dX5_leavesAll_28 : decode cX5_leavesAll 28 = .ok (.aload_n 0, 1) := by decide +kernel
theorem dX5_leavesAll_29 : decode cX5_leavesAll 29 = .ok (.iconst 0, 1) := by decide +kernel
theorem dX5_leavesAll_30 : decode cX5_leavesAll 30 = .ok (.invokevirtual 131, 3) := by decide +kernel
theorem dX5_leavesAll_33 : decode cX5_leavesAll 33 = .ok (.iconst 1, 1) := by decide +kernel
theorem dX5_leavesAll_34 : decode cX5_leavesAll 34 = .ok (.istore_n 1, 1) := by decide +kernel
theorem dX5_leavesAll_35 : decode cX5_leavesAll 35 = .ok (.iconst 0, 1) := by decide +kernel
theorem dX5_leavesAll_36 : decode cX5_leavesAll 36 = .ok (.istore_n 2, 1) := by decide +kernel
theorem dX5_leavesAll_37 : decode cX5_leavesAll 37 = .ok (.iload_n 2, 1) := by decide +kernel
theorem dX5_leavesAll_38 : decode cX5_leavesAll 38 = .ok (.bipush 48, 2) := by decide +kernel
theorem dX5_leavesAll_40 : decode cX5_leavesAll 40 = .ok (.if_icmp .ge 34, 3) := by decide +kernel
theorem dX5_leavesAll_43 : decode cX5_leavesAll 43 = .ok (.iload_n 1, 1) := by decide +kernel
theorem dX5_leavesAll_44 : decode cX5_leavesAll 44 = .ok (.aload_n 0, 1) := by decide +kernel
theorem dX5_leavesAll_45 : decode cX5_leavesAll 45 = .ok (.getfield 37, 3) := by decide +kernel
theorem dX5_leavesAll_48 : decode cX5_leavesAll 48 = .ok (.iload_n 2, 1) := by decide +kernel
theorem dX5_leavesAll_49 : decode cX5_leavesAll 49 = .ok (.iaload, 1) := by decide +kernel
theorem dX5_leavesAll_50 : decode cX5_leavesAll 50 = .ok (.aload_n 0, 1) := by decide +kernel
theorem dX5_leavesAll_51 : decode cX5_leavesAll 51 = .ok (.getfield 7, 3) := by decide +kernel
theorem dX5_leavesAll_54 : decode cX5_leavesAll 54 = .ok (.iconst 3, 1) := by decide +kernel
theorem dX5_leavesAll_55 : decode cX5_leavesAll 55 = .ok (.iload_n 2, 1) := by decide +kernel
theorem dX5_leavesAll_56 : decode cX5_leavesAll 56 = .ok (.iadd, 1) := by decide +kernel
theorem dX5_leavesAll_57 : decode cX5_leavesAll 57 = .ok (.iaload, 1) := by decide +kernel
theorem dX5_leavesAll_58 : decode cX5_leavesAll 58 = .ok (.if_icmp .ne 7, 3) := by decide +kernel
theorem dX5_leavesAll_61 : decode cX5_leavesAll 61 = .ok (.iconst 1, 1) := by decide +kernel
theorem dX5_leavesAll_62 : decode cX5_leavesAll 62 = .ok (.goto 4, 3) := by decide +kernel
theorem dX5_leavesAll_65 : decode cX5_leavesAll 65 = .ok (.iconst 0, 1) := by decide +kernel
theorem dX5_leavesAll_66 : decode cX5_leavesAll 66 = .ok (.iand, 1) := by decide +kernel
theorem dX5_leavesAll_67 : decode cX5_leavesAll 67 = .ok (.istore_n 1, 1) := by decide +kernel
theorem dX5_leavesAll_68 : decode cX5_leavesAll 68 = .ok (.iinc 2 1, 3) := by decide +kernel
theorem dX5_leavesAll_71 : decode cX5_leavesAll 71 = .ok (.goto (-34), 3) := by decide +kernel
theorem dX5_leavesAll_74 : decode cX5_leavesAll 74 = .ok (.iload_n 1, 1) := by decide +kernel
theorem dX5_leavesAll_75 : decode cX5_leavesAll 75 = .ok (.ireturn, 1) := by decide +kernel
theorem dX5_settles_0 : decode cX5_settles 0 = .ok (.aload_n 0, 1) := by decide +kernel
theorem dX5_settles_1 : decode cX5_settles 1 = .ok (.getfield 7, 3) := by decide +kernel
theorem dX5_settles_4 : decode cX5_settles 4 = .ok (.aload_n 0, 1) := by decide +kernel
theorem dX5_settles_5 : decode cX5_settles 5 = .ok (.getfield 19, 3) := by decide +kernel
theorem dX5_settles_8 : decode cX5_settles 8 = .ok (.invokestatic 160, 3) := by decide +kernel
theorem dX5_settles_11 : decode cX5_settles 11 = .ok (.iconst 0, 1) := by decide +kernel
theorem dX5_settles_12 : decode cX5_settles 12 = .ok (.istore_n 1, 1) := by decide +kernel
theorem dX5_settles_13 : decode cX5_settles 13 = .ok (.iload_n 1, 1) := by decide +kernel
theorem dX5_settles_14 : decode cX5_settles 14 = .ok (.sipush 200, 3) := by decide +kernel
theorem dX5_settles_17 : decode cX5_settles 17 = .ok (.if_icmp .gt 16, 3) := by decide +kernel
theorem dX5_settles_20 : decode cX5_settles 20 = .ok (.aload_n 0, 1) := by decide +kernel
theorem dX5_settles_21 : decode cX5_settles 21 = .ok (.invokevirtual 169, 3) := by decide +kernel
theorem dX5_settles_24 : decode cX5_settles 24 = .ok (.ifCond .ne 9, 3) := by decide +kernel
theorem dX5_settles_27 : decode cX5_settles 27 = .ok (.iinc 1 1, 3) := by decide +kernel
theorem dX5_settles_30 : decode cX5_settles 30 = .ok (.goto (-17), 3) := by decide +kernel
theorem dX5_settles_33 : decode cX5_settles 33 = .ok (.aload_n 0, 1) := by decide +kernel
theorem dX5_settles_34 : decode cX5_settles 34 = .ok (.getfield 19, 3) := by decide +kernel
theorem dX5_settles_37 : decode cX5_settles 37 = .ok (.aload_n 0, 1) := by decide +kernel
theorem dX5_settles_38 : decode cX5_settles 38 = .ok (.getfield 7, 3) := by decide +kernel
theorem dX5_settles_41 : decode cX5_settles 41 = .ok (.invokestatic 160, 3) := by decide +kernel
theorem dX5_settles_44 : decode cX5_settles 44 = .ok (.iload_n 1, 1) := by decide +kernel
theorem dX5_settles_45 : decode cX5_settles 45 = .ok (.sipush 200, 3) := by decide +kernel
theorem dX5_settles_48 : decode cX5_settles 48 = .ok (.if_icmp .gt 7, 3) := by decide +kernel
theorem dX5_settles_51 : decode cX5_settles 51 = .ok (.iload_n 1, 1) := by decide +kernel
theorem dX5_settles_52 : decode cX5_settles 52 = .ok (.goto 9, 3) := by decide +kernel
theorem dX5_settles_55 : decode cX5_settles 55 = .ok (.aload_n 0, 1) := by decide +kernel
theorem dX5_settles_56 : decode cX5_settles 56 = .ok (.ldc 45, 2) := by decide +kernel
theorem dX5_settles_58 : decode cX5_settles 58 = .ok (.invokevirtual 46, 3) := by decide +kernel
theorem dX5_settles_61 : decode cX5_settles 61 = .ok (.ireturn, 1) := by decide +kernel
theorem dX5_areAlike_0 : decode cX5_areAlike 0 = .ok (.iconst 1, 1) := by decide +kernel
theorem dX5_areAlike_1 : decode cX5_areAlike 1 = .ok (.istore_n 3, 1) := by decide +kernel
theorem dX5_areAlike_2 : decode cX5_areAlike 2 = .ok (.iconst 0, 1) := by decide +kernel
theorem dX5_areAlike_3 : decode cX5_areAlike 3 = .ok (.istore 4, 2) := by decide +kernel
theorem dX5_areAlike_5 : decode cX5_areAlike 5 = .ok (.iload 4, 2) := by decide +kernel
theorem dX5_areAlike_7 : decode cX5_areAlike 7 = .ok (.bipush 8, 2) := by decide +kernel
theorem dX5_areAlike_9 : decode cX5_areAlike 9 = .ok (.if_icmp .ge 34, 3) := by decide +kernel
theorem dX5_areAlike_12 : decode cX5_areAlike 12 = .ok (.iload_n 3, 1) := by decide +kernel
theorem dX5_areAlike_13 : decode cX5_areAlike 13 = .ok (.aload_n 0, 1) := by decide +kernel
theorem dX5_areAlike_14 : decode cX5_areAlike 14 = .ok (.iload_n 1, 1) := by decide +kernel
theorem dX5_areAlike_15 : decode cX5_areAlike 15 = .ok (.iload 4, 2) := by decide +kernel
theorem dX5_areAlike_17 : decode cX5_areAlike 17 = .ok (.invokevirtual 64, 3) := by decide +kernel
theorem dX5_areAlike_20 : decode cX5_areAlike 20 = .ok (.aload_n 0, 1) := by decide +kernel
theorem dX5_areAlike_21 : decode cX5_areAlike 21 = .ok (.iload_n 2, 1) := by decide +kernel
theorem dX5_areAlike_22 : decode cX5_areAlike 22 = .ok (.iload 4, 2) := by decide +kernel
theorem dX5_areAlike_24 : decode cX5_areAlike 24 = .ok (.invokevirtual 64, 3) := by decide +kernel
theorem dX5_areAlike_27 : decode cX5_areAlike 27 = .ok (.if_icmp .ne 7, 3) := by decide +kernel
theorem dX5_areAlike_30 : decode cX5_areAlike 30 = .ok (.iconst 1, 1) := by decide +kernel
theorem dX5_areAlike_31 : decode cX5_areAlike 31 = .ok (.goto 4, 3) := by decide +kernel
theorem dX5_areAlike_34 : decode cX5_areAlike 34 = .ok (.iconst 0, 1) := by decide +kernel
theorem dX5_areAlike_35 : decode cX5_areAlike 35 = .ok (.iand, 1) := by decide +kernel
theorem dX5_areAlike_36 : decode cX5_areAlike 36 = .ok (.istore_n 3, 1) := by decide +kernel
theorem dX5_areAlike_37 : decode cX5_areAlike 37 = .ok (.iinc 4 1, 3) := by decide +kernel
theorem dX5_areAlike_40 : decode cX5_areAlike 40 = .ok (.goto (-35), 3) := by decide +kernel
theorem dX5_areAlike_43 : decode cX5_areAlike 43 = .ok (.iload_n 3, 1) := by decide +kernel
theorem dX5_areAlike_44 : decode cX5_areAlike 44 = .ok (.ireturn, 1) := by decide +kernel
theorem dX5_alike_0 : decode cX5_alike 0 = .ok (.iload_n 1, 1) := by decide +kernel
theorem dX5_alike_1 : decode cX5_alike 1 = .ok (.invokestatic 41, 3) := by decide +kernel
theorem dX5_alike_4 : decode cX5_alike 4 = .ok (.ifCond .eq 15, 3) := by decide +kernel
theorem dX5_alike_7 : decode cX5_alike 7 = .ok (.iload_n 2, 1) := by decide +kernel
theorem dX5_alike_8 : decode cX5_alike 8 = .ok (.invokestatic 41, 3) := by decide +kernel
theorem dX5_alike_11 : decode cX5_alike 11 = .ok (.ifCond .eq 8, 3) := by decide +kernel
theorem dX5_alike_14 : decode cX5_alike 14 = .ok (.iload_n 1, 1) := by decide +kernel
theorem dX5_alike_15 : decode cX5_alike 15 = .ok (.iload_n 2, 1) := by decide +kernel
theorem dX5_alike_16 : decode cX5_alike 16 = .ok (.if_icmp .ne 10, 3) := by decide +kernel
theorem dX5_alike_19 : decode cX5_alike 19 = .ok (.aload_n 0, 1) := by decide +kernel
theorem dX5_alike_20 : decode cX5_alike 20 = .ok (.ldc 40, 2) := by decide +kernel
theorem dX5_alike_22 : decode cX5_alike 22 = .ok (.invokevirtual 46, 3) := by decide +kernel
theorem dX5_alike_25 : decode cX5_alike 25 = .ok (.ireturn, 1) := by decide +kernel
theorem dX5_alike_26 : decode cX5_alike 26 = .ok (.aload_n 0, 1) := by decide +kernel
theorem dX5_alike_27 : decode cX5_alike 27 = .ok (.getfield 7, 3) := by decide +kernel
theorem dX5_alike_30 : decode cX5_alike 30 = .ok (.aload_n 0, 1) := by decide +kernel
theorem dX5_alike_31 : decode cX5_alike 31 = .ok (.getfield 19, 3) := by decide +kernel
theorem dX5_alike_34 : decode cX5_alike 34 = .ok (.invokestatic 160, 3) := by decide +kernel
theorem dX5_alike_37 : decode cX5_alike 37 = .ok (.iconst 0, 1) := by decide +kernel
theorem dX5_alike_38 : decode cX5_alike 38 = .ok (.istore_n 3, 1) := by decide +kernel
theorem dX5_alike_39 : decode cX5_alike 39 = .ok (.iload_n 3, 1) := by decide +kernel
theorem dX5_alike_40 : decode cX5_alike 40 = .ok (.sipush 200, 3) := by decide +kernel
theorem dX5_alike_43 : decode cX5_alike 43 = .ok (.if_icmp .gt 23, 3) := by decide +kernel
theorem dX5_alike_46 : decode cX5_alike 46 = .ok (.aload_n 0, 1) := by decide +kernel
theorem dX5_alike_47 : decode cX5_alike 47 = .ok (.iload_n 1, 1) := by decide +kernel
theorem dX5_alike_48 : decode cX5_alike 48 = .ok (.iload_n 2, 1) := by decide +kernel
theorem dX5_alike_49 : decode cX5_alike 49 = .ok (.invokevirtual 173, 3) := by decide +kernel
theorem dX5_alike_52 : decode cX5_alike 52 = .ok (.ifCond .ne 14, 3) := by decide +kernel
theorem dX5_alike_55 : decode cX5_alike 55 = .ok (.aload_n 0, 1) := by decide +kernel
theorem dX5_alike_56 : decode cX5_alike 56 = .ok (.iconst 0, 1) := by decide +kernel
theorem dX5_alike_57 : decode cX5_alike 57 = .ok (.invokevirtual 131, 3) := by decide +kernel
theorem dX5_alike_60 : decode cX5_alike 60 = .ok (.iinc 3 1, 3) := by decide +kernel
theorem dX5_alike_63 : decode cX5_alike 63 = .ok (.goto (-24), 3) := by decide +kernel
theorem dX5_alike_66 : decode cX5_alike 66 = .ok (.aload_n 0, 1) := by decide +kernel
theorem dX5_alike_67 : decode cX5_alike 67 = .ok (.getfield 19, 3) := by decide +kernel
theorem dX5_alike_70 : decode cX5_alike 70 = .ok (.aload_n 0, 1) := by decide +kernel
theorem dX5_alike_71 : decode cX5_alike 71 = .ok (.getfield 7, 3) := by decide +kernel
theorem dX5_alike_74 : decode cX5_alike 74 = .ok (.invokestatic 160, 3) := by decide +kernel
theorem dX5_alike_77 : decode cX5_alike 77 = .ok (.iload_n 3, 1) := by decide +kernel
theorem dX5_alike_78 : decode cX5_alike 78 = .ok (.sipush 200, 3) := by decide +kernel
theorem dX5_alike_81 : decode cX5_alike 81 = .ok (.if_icmp .gt 7, 3) := by decide +kernel
theorem dX5_alike_84 : decode cX5_alike 84 = .ok (.iload_n 3, 1) := by decide +kernel
theorem dX5_alike_85 : decode cX5_alike 85 = .ok (.goto 9, 3) := by decide +kernel
theorem dX5_alike_88 : decode cX5_alike 88 = .ok (.aload_n 0, 1) := by decide +kernel
theorem dX5_alike_89 : decode cX5_alike 89 = .ok (.ldc 45, 2) := by decide +kernel
theorem dX5_alike_91 : decode cX5_alike 91 = .ok (.invokevirtual 46, 3) := by decide +kernel
theorem dX5_alike_94 : decode cX5_alike 94 = .ok (.ireturn, 1) := by decide +kernel
theorem dX5_isAsked_0 : decode cX5_isAsked 0 = .ok (.aload_n 0, 1) := by decide +kernel
theorem dX5_isAsked_1 : decode cX5_isAsked 1 = .ok (.iload_n 1, 1) := by decide +kernel
theorem dX5_isAsked_2 : decode cX5_isAsked 2 = .ok (.invokevirtual 112, 3) := by decide +kernel
theorem dX5_isAsked_5 : decode cX5_isAsked 5 = .ok (.ifCond .eq 26, 3) := by decide +kernel
theorem dX5_isAsked_8 : decode cX5_isAsked 8 = .ok (.iload_n 2, 1) := by decide +kernel
theorem dX5_isAsked_9 : decode cX5_isAsked 9 = .ok (.invokestatic 41, 3) := by decide +kernel
theorem dX5_isAsked_12 : decode cX5_isAsked 12 = .ok (.ifCond .eq 19, 3) := by decide +kernel
theorem dX5_isAsked_15 : decode cX5_isAsked 15 = .ok (.iload_n 3, 1) := by decide +kernel
theorem dX5_isAsked_16 : decode cX5_isAsked 16 = .ok (.i2l, 1) := by decide +kernel
theorem dX5_isAsked_17 : decode cX5_isAsked 17 = .ok (.lconst 0, 1) := by decide +kernel
theorem dX5_isAsked_18 : decode cX5_isAsked 18 = .ok (.ldc2_w 176, 3) := by decide +kernel
theorem dX5_isAsked_21 : decode cX5_isAsked 21 = .ok (.invokestatic 56, 3) := by decide +kernel
theorem dX5_isAsked_24 : decode cX5_isAsked 24 = .ok (.ifCond .eq 7, 3) := by decide +kernel
theorem dX5_isAsked_27 : decode cX5_isAsked 27 = .ok (.iconst 1, 1) := by decide +kernel
theorem dX5_isAsked_28 : decode cX5_isAsked 28 = .ok (.goto 4, 3) := by decide +kernel
theorem dX5_isAsked_31 : decode cX5_isAsked 31 = .ok (.iconst 0, 1) := by decide +kernel
theorem dX5_isAsked_32 : decode cX5_isAsked 32 = .ok (.ireturn, 1) := by decide +kernel
theorem dX5_mostBy_0 : decode cX5_mostBy 0 = .ok (.aload_n 0, 1) := by decide +kernel
theorem dX5_mostBy_1 : decode cX5_mostBy 1 = .ok (.iload_n 1, 1) := by decide +kernel
theorem dX5_mostBy_2 : decode cX5_mostBy 2 = .ok (.iload_n 2, 1) := by decide +kernel
theorem dX5_mostBy_3 : decode cX5_mostBy 3 = .ok (.invokevirtual 67, 3) := by decide +kernel
theorem dX5_mostBy_6 : decode cX5_mostBy 6 = .ok (.istore 7, 2) := by decide +kernel
theorem dX5_mostBy_8 : decode cX5_mostBy 8 = .ok (.iload_n 3, 1) := by decide +kernel
theorem dX5_mostBy_9 : decode cX5_mostBy 9 = .ok (.istore 8, 2) := by decide +kernel
theorem dX5_mostBy_11 : decode cX5_mostBy 11 = .ok (.iconst (-1), 1) := by decide +kernel
theorem dX5_mostBy_12 : decode cX5_mostBy 12 = .ok (.istore 9, 2) := by decide +kernel
theorem dX5_mostBy_14 : decode cX5_mostBy 14 = .ok (.iload_n 3, 1) := by decide +kernel
theorem dX5_mostBy_15 : decode cX5_mostBy 15 = .ok (.istore 10, 2) := by decide +kernel
theorem dX5_mostBy_17 : decode cX5_mostBy 17 = .ok (.iload 10, 2) := by decide +kernel
theorem dX5_mostBy_19 : decode cX5_mostBy 19 = .ok (.iload 4, 2) := by decide +kernel
theorem dX5_mostBy_21 : decode cX5_mostBy 21 = .ok (.if_icmp .gt 63, 3) := by decide +kernel
theorem dX5_mostBy_24 : decode cX5_mostBy 24 = .ok (.aload_n 0, 1) := by decide +kernel
theorem dX5_mostBy_25 : decode cX5_mostBy 25 = .ok (.getfield 7, 3) := by decide +kernel
theorem dX5_mostBy_28 : decode cX5_mostBy 28 = .ok (.iload_n 1, 1) := by decide +kernel
theorem dX5_mostBy_29 : decode cX5_mostBy 29 = .ok (.iload_n 2, 1) := by decide +kernel
theorem dX5_mostBy_30 : decode cX5_mostBy 30 = .ok (.invokestatic 84, 3) := by decide +kernel
theorem dX5_mostBy_33 : decode cX5_mostBy 33 = .ok (.iload 10, 2) := by decide +kernel
theorem dX5_mostBy_35 : decode cX5_mostBy 35 = .ok (.iastore, 1) := by decide +kernel
theorem dX5_mostBy_36 : decode cX5_mostBy 36 = .ok (.aload_n 0, 1) := by decide +kernel
theorem dX5_mostBy_37 : decode cX5_mostBy 37 = .ok (.iload 5, 2) := by decide +kernel
theorem dX5_mostBy_39 : decode cX5_mostBy 39 = .ok (.iload 6, 2) := by decide +kernel
theorem dX5_mostBy_41 : decode cX5_mostBy 41 = .ok (.invokevirtual 164, 3) := by decide +kernel
theorem dX5_mostBy_44 : decode cX5_mostBy 44 = .ok (.istore 11, 2) := by decide +kernel
theorem dX5_mostBy_46 : decode cX5_mostBy 46 = .ok (.iload 11, 2) := by decide +kernel
theorem dX5_mostBy_48 : decode cX5_mostBy 48 = .ok (.iload 9, 2) := by decide +kernel
theorem dX5_mostBy_50 : decode cX5_mostBy 50 = .ok (.if_icmp .le 8, 3) := by decide +kernel
theorem dX5_mostBy_53 : decode cX5_mostBy 53 = .ok (.iload 10, 2) := by decide +kernel
theorem dX5_mostBy_55 : decode cX5_mostBy 55 = .ok (.goto 5, 3) := by decide +kernel
theorem dX5_mostBy_58 : decode cX5_mostBy 58 = .ok (.iload 8, 2) := by decide +kernel
theorem dX5_mostBy_60 : decode cX5_mostBy 60 = .ok (.istore 8, 2) := by decide +kernel
theorem dX5_mostBy_62 : decode cX5_mostBy 62 = .ok (.iload 11, 2) := by decide +kernel
theorem dX5_mostBy_64 : decode cX5_mostBy 64 = .ok (.iload 9, 2) := by decide +kernel
theorem dX5_mostBy_66 : decode cX5_mostBy 66 = .ok (.if_icmp .le 8, 3) := by decide +kernel
theorem dX5_mostBy_69 : decode cX5_mostBy 69 = .ok (.iload 11, 2) := by decide +kernel
theorem dX5_mostBy_71 : decode cX5_mostBy 71 = .ok (.goto 5, 3) := by decide +kernel
theorem dX5_mostBy_74 : decode cX5_mostBy 74 = .ok (.iload 9, 2) := by decide +kernel
theorem dX5_mostBy_76 : decode cX5_mostBy 76 = .ok (.istore 9, 2) := by decide +kernel
theorem dX5_mostBy_78 : decode cX5_mostBy 78 = .ok (.iinc 10 1, 3) := by decide +kernel
theorem dX5_mostBy_81 : decode cX5_mostBy 81 = .ok (.goto (-64), 3) := by decide +kernel
theorem dX5_mostBy_84 : decode cX5_mostBy 84 = .ok (.aload_n 0, 1) := by decide +kernel
theorem dX5_mostBy_85 : decode cX5_mostBy 85 = .ok (.getfield 7, 3) := by decide +kernel
theorem dX5_mostBy_88 : decode cX5_mostBy 88 = .ok (.iload_n 1, 1) := by decide +kernel
theorem dX5_mostBy_89 : decode cX5_mostBy 89 = .ok (.iload_n 2, 1) := by decide +kernel
theorem dX5_mostBy_90 : decode cX5_mostBy 90 = .ok (.invokestatic 84, 3) := by decide +kernel
theorem dX5_mostBy_93 : decode cX5_mostBy 93 = .ok (.iload 7, 2) := by decide +kernel
theorem dX5_mostBy_95 : decode cX5_mostBy 95 = .ok (.iastore, 1) := by decide +kernel
theorem dX5_mostBy_96 : decode cX5_mostBy 96 = .ok (.iload 8, 2) := by decide +kernel
theorem dX5_mostBy_98 : decode cX5_mostBy 98 = .ok (.ireturn, 1) := by decide +kernel
theorem dX5_put_0 : decode cX5_put 0 = .ok (.aload_n 0, 1) := by decide +kernel
theorem dX5_put_1 : decode cX5_put 1 = .ok (.iload_n 1, 1) := by decide +kernel
theorem dX5_put_2 : decode cX5_put 2 = .ok (.iload_n 2, 1) := by decide +kernel
theorem dX5_put_3 : decode cX5_put 3 = .ok (.iload_n 3, 1) := by decide +kernel
theorem dX5_put_4 : decode cX5_put 4 = .ok (.invokevirtual 178, 3) := by decide +kernel
theorem dX5_put_7 : decode cX5_put 7 = .ok (.ifCond .eq 16, 3) := by decide +kernel
theorem dX5_put_10 : decode cX5_put 10 = .ok (.aload_n 0, 1) := by decide +kernel
theorem dX5_put_11 : decode cX5_put 11 = .ok (.iload_n 1, 1) := by decide +kernel
theorem dX5_put_12 : decode cX5_put 12 = .ok (.iconst 1, 1) := by decide +kernel
theorem dX5_put_13 : decode cX5_put 13 = .ok (.iconst 0, 1) := by decide +kernel
theorem dX5_put_14 : decode cX5_put 14 = .ok (.iconst 5, 1) := by decide +kernel
theorem dX5_put_15 : decode cX5_put 15 = .ok (.iload_n 2, 1) := by decide +kernel
theorem dX5_put_16 : decode cX5_put 16 = .ok (.iload_n 3, 1) := by decide +kernel
theorem dX5_put_17 : decode cX5_put 17 = .ok (.invokevirtual 182, 3) := by decide +kernel
theorem dX5_put_20 : decode cX5_put 20 = .ok (.goto 9, 3) := by decide +kernel
theorem dX5_put_23 : decode cX5_put 23 = .ok (.aload_n 0, 1) := by decide +kernel
theorem dX5_put_24 : decode cX5_put 24 = .ok (.ldc 40, 2) := by decide +kernel
theorem dX5_put_26 : decode cX5_put 26 = .ok (.invokevirtual 46, 3) := by decide +kernel
theorem dX5_put_29 : decode cX5_put 29 = .ok (.ireturn, 1) := by decide +kernel
theorem dX5_tasteFor_0 : decode cX5_tasteFor 0 = .ok (.aload_n 0, 1) := by decide +kernel
theorem dX5_tasteFor_1 : decode cX5_tasteFor 1 = .ok (.iload_n 1, 1) := by decide +kernel
theorem dX5_tasteFor_2 : decode cX5_tasteFor 2 = .ok (.iload_n 2, 1) := by decide +kernel
theorem dX5_tasteFor_3 : decode cX5_tasteFor 3 = .ok (.iload_n 3, 1) := by decide +kernel
theorem dX5_tasteFor_4 : decode cX5_tasteFor 4 = .ok (.invokevirtual 178, 3) := by decide +kernel
theorem dX5_tasteFor_7 : decode cX5_tasteFor 7 = .ok (.ifCond .eq 17, 3) := by decide +kernel
theorem dX5_tasteFor_10 : decode cX5_tasteFor 10 = .ok (.aload_n 0, 1) := by decide +kernel
theorem dX5_tasteFor_11 : decode cX5_tasteFor 11 = .ok (.iload_n 1, 1) := by decide +kernel
theorem dX5_tasteFor_12 : decode cX5_tasteFor 12 = .ok (.iconst 2, 1) := by decide +kernel
theorem dX5_tasteFor_13 : decode cX5_tasteFor 13 = .ok (.iconst 1, 1) := by decide +kernel
theorem dX5_tasteFor_14 : decode cX5_tasteFor 14 = .ok (.bipush 9, 2) := by decide +kernel
theorem dX5_tasteFor_16 : decode cX5_tasteFor 16 = .ok (.iload_n 2, 1) := by decide +kernel
theorem dX5_tasteFor_17 : decode cX5_tasteFor 17 = .ok (.iload_n 3, 1) := by decide +kernel
theorem dX5_tasteFor_18 : decode cX5_tasteFor 18 = .ok (.invokevirtual 182, 3) := by decide +kernel
theorem dX5_tasteFor_21 : decode cX5_tasteFor 21 = .ok (.goto 9, 3) := by decide +kernel
theorem dX5_tasteFor_24 : decode cX5_tasteFor 24 = .ok (.aload_n 0, 1) := by decide +kernel
theorem dX5_tasteFor_25 : decode cX5_tasteFor 25 = .ok (.ldc 40, 2) := by decide +kernel
theorem dX5_tasteFor_27 : decode cX5_tasteFor 27 = .ok (.invokevirtual 46, 3) := by decide +kernel
theorem dX5_tasteFor_30 : decode cX5_tasteFor 30 = .ok (.ireturn, 1) := by decide +kernel
theorem dX5_kindFor_0 : decode cX5_kindFor 0 = .ok (.aload_n 0, 1) := by decide +kernel
theorem dX5_kindFor_1 : decode cX5_kindFor 1 = .ok (.iload_n 1, 1) := by decide +kernel
theorem dX5_kindFor_2 : decode cX5_kindFor 2 = .ok (.iload_n 2, 1) := by decide +kernel
theorem dX5_kindFor_3 : decode cX5_kindFor 3 = .ok (.iload_n 3, 1) := by decide +kernel
theorem dX5_kindFor_4 : decode cX5_kindFor 4 = .ok (.invokevirtual 178, 3) := by decide +kernel
theorem dX5_kindFor_7 : decode cX5_kindFor 7 = .ok (.ifCond .eq 17, 3) := by decide +kernel
theorem dX5_kindFor_10 : decode cX5_kindFor 10 = .ok (.aload_n 0, 1) := by decide +kernel
theorem dX5_kindFor_11 : decode cX5_kindFor 11 = .ok (.iload_n 1, 1) := by decide +kernel
theorem dX5_kindFor_12 : decode cX5_kindFor 12 = .ok (.iconst 0, 1) := by decide +kernel
theorem dX5_kindFor_13 : decode cX5_kindFor 13 = .ok (.iconst 0, 1) := by decide +kernel
theorem dX5_kindFor_14 : decode cX5_kindFor 14 = .ok (.bipush 6, 2) := by decide +kernel
theorem dX5_kindFor_16 : decode cX5_kindFor 16 = .ok (.iload_n 2, 1) := by decide +kernel
theorem dX5_kindFor_17 : decode cX5_kindFor 17 = .ok (.iload_n 3, 1) := by decide +kernel
theorem dX5_kindFor_18 : decode cX5_kindFor 18 = .ok (.invokevirtual 182, 3) := by decide +kernel
theorem dX5_kindFor_21 : decode cX5_kindFor 21 = .ok (.goto 9, 3) := by decide +kernel
theorem dX5_kindFor_24 : decode cX5_kindFor 24 = .ok (.aload_n 0, 1) := by decide +kernel
theorem dX5_kindFor_25 : decode cX5_kindFor 25 = .ok (.ldc 40, 2) := by decide +kernel
theorem dX5_kindFor_27 : decode cX5_kindFor 27 = .ok (.invokevirtual 46, 3) := by decide +kernel
theorem dX5_kindFor_30 : decode cX5_kindFor 30 = .ok (.ireturn, 1) := by decide +kernel
theorem dX5_swaps_0 : decode cX5_swaps 0 = .ok (.aload_n 0, 1) := by decide +kernel
theorem dX5_swaps_1 : decode cX5_swaps 1 = .ok (.getfield 7, 3) := by decide +kernel
theorem dX5_swaps_4 : decode cX5_swaps 4 = .ok (.iload_n 1, 1) := by decide +kernel
theorem dX5_swaps_5 : decode cX5_swaps 5 = .ok (.iconst 1, 1) := by decide +kernel
theorem dX5_swaps_6 : decode cX5_swaps 6 = .ok (.invokestatic 84, 3) := by decide +kernel
theorem dX5_swaps_9 : decode cX5_swaps 9 = .ok (.aload_n 0, 1) := by decide +kernel
theorem dX5_swaps_10 : decode cX5_swaps 10 = .ok (.iload_n 2, 1) := by decide +kernel
theorem dX5_swaps_11 : decode cX5_swaps 11 = .ok (.iconst 1, 1) := by decide +kernel
theorem dX5_swaps_12 : decode cX5_swaps 12 = .ok (.invokestatic 84, 3) := by decide +kernel
theorem dX5_swaps_15 : decode cX5_swaps 15 = .ok (.aload_n 0, 1) := by decide +kernel
theorem dX5_swaps_16 : decode cX5_swaps 16 = .ok (.iload_n 1, 1) := by decide +kernel
theorem dX5_swaps_17 : decode cX5_swaps 17 = .ok (.iconst 1, 1) := by decide +kernel
theorem dX5_swaps_18 : decode cX5_swaps 18 = .ok (.invokevirtual 67, 3) := by decide +kernel
theorem dX5_swaps_21 : decode cX5_swaps 21 = .ok (.invokevirtual 60, 3) := by decide +kernel
theorem dX5_swaps_24 : decode cX5_swaps 24 = .ok (.iastore, 1) := by decide +kernel
theorem dX5_swaps_25 : decode cX5_swaps 25 = .ok (.return_, 1) := by decide +kernel
theorem dX5_swapFor_0 : decode cX5_swapFor 0 = .ok (.iload_n 1, 1) := by decide +kernel
theorem dX5_swapFor_1 : decode cX5_swapFor 1 = .ok (.invokestatic 41, 3) := by decide +kernel
theorem dX5_swapFor_4 : decode cX5_swapFor 4 = .ok (.ifCond .eq 15, 3) := by decide +kernel
theorem dX5_swapFor_7 : decode cX5_swapFor 7 = .ok (.iload_n 2, 1) := by decide +kernel
theorem dX5_swapFor_8 : decode cX5_swapFor 8 = .ok (.i2l, 1) := by decide +kernel
theorem dX5_swapFor_9 : decode cX5_swapFor 9 = .ok (.lconst 0, 1) := by decide +kernel
theorem dX5_swapFor_10 : decode cX5_swapFor 10 = .ok (.ldc2_w 176, 3) := by decide +kernel
theorem dX5_swapFor_13 : decode cX5_swapFor 13 = .ok (.invokestatic 56, 3) := by decide +kernel
theorem dX5_swapFor_16 : decode cX5_swapFor 16 = .ok (.ifCond .ne 10, 3) := by decide +kernel
theorem dX5_swapFor_19 : decode cX5_swapFor 19 = .ok (.aload_n 0, 1) := by decide +kernel
theorem dX5_swapFor_20 : decode cX5_swapFor 20 = .ok (.ldc 40, 2) := by decide +kernel
theorem dX5_swapFor_22 : decode cX5_swapFor 22 = .ok (.invokevirtual 46, 3) := by decide +kernel
theorem dX5_swapFor_25 : decode cX5_swapFor 25 = .ok (.ireturn, 1) := by decide +kernel
theorem dX5_swapFor_26 : decode cX5_swapFor 26 = .ok (.iconst (-1), 1) := by decide +kernel
theorem dX5_swapFor_27 : decode cX5_swapFor 27 = .ok (.istore_n 3, 1) := by decide +kernel
theorem dX5_swapFor_28 : decode cX5_swapFor 28 = .ok (.iconst (-1), 1) := by decide +kernel
theorem dX5_swapFor_29 : decode cX5_swapFor 29 = .ok (.istore 4, 2) := by decide +kernel
theorem dX5_swapFor_31 : decode cX5_swapFor 31 = .ok (.iconst 0, 1) := by decide +kernel
theorem dX5_swapFor_32 : decode cX5_swapFor 32 = .ok (.istore 5, 2) := by decide +kernel
theorem dX5_swapFor_34 : decode cX5_swapFor 34 = .ok (.iload 5, 2) := by decide +kernel
theorem dX5_swapFor_36 : decode cX5_swapFor 36 = .ok (.aload_n 0, 1) := by decide +kernel
theorem dX5_swapFor_37 : decode cX5_swapFor 37 = .ok (.getfield 7, 3) := by decide +kernel
theorem dX5_swapFor_40 : decode cX5_swapFor 40 = .ok (.iconst 0, 1) := by decide +kernel
theorem dX5_swapFor_41 : decode cX5_swapFor 41 = .ok (.iaload, 1) := by decide +kernel
theorem dX5_swapFor_42 : decode cX5_swapFor 42 = .ok (.if_icmp .ge 92, 3) := by decide +kernel
theorem dX5_swapFor_45 : decode cX5_swapFor 45 = .ok (.iload 5, 2) := by decide +kernel
theorem dX5_swapFor_47 : decode cX5_swapFor 47 = .ok (.iconst 1, 1) := by decide +kernel
theorem dX5_swapFor_48 : decode cX5_swapFor 48 = .ok (.iadd, 1) := by decide +kernel
theorem dX5_swapFor_49 : decode cX5_swapFor 49 = .ok (.istore 6, 2) := by decide +kernel
theorem dX5_swapFor_51 : decode cX5_swapFor 51 = .ok (.iload 6, 2) := by decide +kernel
theorem dX5_swapFor_53 : decode cX5_swapFor 53 = .ok (.aload_n 0, 1) := by decide +kernel
theorem dX5_swapFor_54 : decode cX5_swapFor 54 = .ok (.getfield 7, 3) := by decide +kernel
theorem dX5_swapFor_57 : decode cX5_swapFor 57 = .ok (.iconst 0, 1) := by decide +kernel
theorem dX5_swapFor_58 : decode cX5_swapFor 58 = .ok (.iaload, 1) := by decide +kernel
theorem dX5_swapFor_59 : decode cX5_swapFor 59 = .ok (.if_icmp .ge 69, 3) := by decide +kernel
theorem dX5_swapFor_62 : decode cX5_swapFor 62 = .ok (.aload_n 0, 1) := by decide +kernel
theorem dX5_swapFor_63 : decode cX5_swapFor 63 = .ok (.iload 5, 2) := by decide +kernel
theorem dX5_swapFor_65 : decode cX5_swapFor 65 = .ok (.iload 6, 2) := by decide +kernel
theorem dX5_swapFor_67 : decode cX5_swapFor 67 = .ok (.invokevirtual 186, 3) := by decide +kernel
theorem dX5_swapFor_70 : decode cX5_swapFor 70 = .ok (.aload_n 0, 1) := by decide +kernel
theorem dX5_swapFor_71 : decode cX5_swapFor 71 = .ok (.iload_n 1, 1) := by decide +kernel
theorem dX5_swapFor_72 : decode cX5_swapFor 72 = .ok (.iload_n 2, 1) := by decide +kernel
theorem dX5_swapFor_73 : decode cX5_swapFor 73 = .ok (.invokevirtual 164, 3) := by decide +kernel
theorem dX5_swapFor_76 : decode cX5_swapFor 76 = .ok (.istore 7, 2) := by decide +kernel
theorem dX5_swapFor_78 : decode cX5_swapFor 78 = .ok (.aload_n 0, 1) := by decide +kernel
theorem dX5_swapFor_79 : decode cX5_swapFor 79 = .ok (.iload 5, 2) := by decide +kernel
theorem dX5_swapFor_81 : decode cX5_swapFor 81 = .ok (.iload 6, 2) := by decide +kernel
theorem dX5_swapFor_83 : decode cX5_swapFor 83 = .ok (.invokevirtual 186, 3) := by decide +kernel
theorem dX5_swapFor_86 : decode cX5_swapFor 86 = .ok (.iload 7, 2) := by decide +kernel
theorem dX5_swapFor_88 : decode cX5_swapFor 88 = .ok (.iload 4, 2) := by decide +kernel
theorem dX5_swapFor_90 : decode cX5_swapFor 90 = .ok (.if_icmp .le 14, 3) := by decide +kernel
theorem dX5_swapFor_93 : decode cX5_swapFor 93 = .ok (.bipush 8, 2) := by decide +kernel
theorem dX5_swapFor_95 : decode cX5_swapFor 95 = .ok (.iload 5, 2) := by decide +kernel
theorem dX5_swapFor_97 : decode cX5_swapFor 97 = .ok (.imul, 1) := by decide +kernel
theorem dX5_swapFor_98 : decode cX5_swapFor 98 = .ok (.iload 6, 2) := by decide +kernel
theorem dX5_swapFor_100 : decode cX5_swapFor 100 = .ok (.iadd, 1) := by decide +kernel
theorem dX5_swapFor_101 : decode cX5_swapFor 101 = .ok (.goto 4, 3) := by decide +kernel
theorem dX5_swapFor_104 : decode cX5_swapFor 104 = .ok (.iload_n 3, 1) := by decide +kernel
theorem dX5_swapFor_105 : decode cX5_swapFor 105 = .ok (.istore_n 3, 1) := by decide +kernel
theorem dX5_swapFor_106 : decode cX5_swapFor 106 = .ok (.iload 7, 2) := by decide +kernel
theorem dX5_swapFor_108 : decode cX5_swapFor 108 = .ok (.iload 4, 2) := by decide +kernel
theorem dX5_swapFor_110 : decode cX5_swapFor 110 = .ok (.if_icmp .le 8, 3) := by decide +kernel
theorem dX5_swapFor_113 : decode cX5_swapFor 113 = .ok (.iload 7, 2) := by decide +kernel
theorem dX5_swapFor_115 : decode cX5_swapFor 115 = .ok (.goto 5, 3) := by decide +kernel
theorem dX5_swapFor_118 : decode cX5_swapFor 118 = .ok (.iload 4, 2) := by decide +kernel
theorem dX5_swapFor_120 : decode cX5_swapFor 120 = .ok (.istore 4, 2) := by decide +kernel
theorem dX5_swapFor_122 : decode cX5_swapFor 122 = .ok (.iinc 6 1, 3) := by decide +kernel
theorem dX5_swapFor_125 : decode cX5_swapFor 125 = .ok (.goto (-74), 3) := by decide +kernel
theorem dX5_swapFor_128 : decode cX5_swapFor 128 = .ok (.iinc 5 1, 3) := by decide +kernel
theorem dX5_swapFor_131 : decode cX5_swapFor 131 = .ok (.goto (-97), 3) := by decide +kernel
theorem dX5_swapFor_134 : decode cX5_swapFor 134 = .ok (.aload_n 0, 1) := by decide +kernel
theorem dX5_swapFor_135 : decode cX5_swapFor 135 = .ok (.iload_n 3, 1) := by decide +kernel
theorem dX5_swapFor_136 : decode cX5_swapFor 136 = .ok (.invokevirtual 189, 3) := by decide +kernel
theorem dX5_swapFor_139 : decode cX5_swapFor 139 = .ok (.ireturn, 1) := by decide +kernel
theorem dX5_stays_0 : decode cX5_stays 0 = .ok (.aload_n 0, 1) := by decide +kernel
theorem dX5_stays_1 : decode cX5_stays 1 = .ok (.getfield 7, 3) := by decide +kernel
theorem dX5_stays_4 : decode cX5_stays 4 = .ok (.aload_n 0, 1) := by decide +kernel
theorem dX5_stays_5 : decode cX5_stays 5 = .ok (.getfield 19, 3) := by decide +kernel
theorem dX5_stays_8 : decode cX5_stays 8 = .ok (.invokestatic 160, 3) := by decide +kernel
theorem dX5_stays_11 : decode cX5_stays 11 = .ok (.iconst 0, 1) := by decide +kernel
theorem dX5_stays_12 : decode cX5_stays 12 = .ok (.istore 4, 2) := by decide +kernel
theorem dX5_stays_14 : decode cX5_stays 14 = .ok (.iload 4, 2) := by decide +kernel
theorem dX5_stays_16 : decode cX5_stays 16 = .ok (.iload_n 2, 1) := by decide +kernel
theorem dX5_stays_17 : decode cX5_stays 17 = .ok (.if_icmp .ge 14, 3) := by decide +kernel
theorem dX5_stays_20 : decode cX5_stays 20 = .ok (.aload_n 0, 1) := by decide +kernel
theorem dX5_stays_21 : decode cX5_stays 21 = .ok (.iload_n 3, 1) := by decide +kernel
theorem dX5_stays_22 : decode cX5_stays 22 = .ok (.invokevirtual 131, 3) := by decide +kernel
theorem dX5_stays_25 : decode cX5_stays 25 = .ok (.iinc 4 1, 3) := by decide +kernel
theorem dX5_stays_28 : decode cX5_stays 28 = .ok (.goto (-14), 3) := by decide +kernel
theorem dX5_stays_31 : decode cX5_stays 31 = .ok (.iconst 1, 1) := by decide +kernel
theorem dX5_stays_32 : decode cX5_stays 32 = .ok (.istore 4, 2) := by decide +kernel
theorem dX5_stays_34 : decode cX5_stays 34 = .ok (.iconst 0, 1) := by decide +kernel
theorem dX5_stays_35 : decode cX5_stays 35 = .ok (.istore 5, 2) := by decide +kernel
theorem dX5_stays_37 : decode cX5_stays 37 = .ok (.iload 5, 2) := by decide +kernel
theorem dX5_stays_39 : decode cX5_stays 39 = .ok (.bipush 8, 2) := by decide +kernel
theorem dX5_stays_41 : decode cX5_stays 41 = .ok (.if_icmp .ge 43, 3) := by decide +kernel
theorem dX5_stays_44 : decode cX5_stays 44 = .ok (.iload 4, 2) := by decide +kernel
theorem dX5_stays_46 : decode cX5_stays 46 = .ok (.aload_n 0, 1) := by decide +kernel
theorem dX5_stays_47 : decode cX5_stays 47 = .ok (.iload_n 1, 1) := by decide +kernel
theorem dX5_stays_48 : decode cX5_stays 48 = .ok (.iload 5, 2) := by decide +kernel
theorem dX5_stays_50 : decode cX5_stays 50 = .ok (.invokevirtual 64, 3) := by decide +kernel
theorem dX5_stays_53 : decode cX5_stays 53 = .ok (.aload_n 0, 1) := by decide +kernel
theorem dX5_stays_54 : decode cX5_stays 54 = .ok (.getfield 19, 3) := by decide +kernel
theorem dX5_stays_57 : decode cX5_stays 57 = .ok (.iconst 3, 1) := by decide +kernel
theorem dX5_stays_58 : decode cX5_stays 58 = .ok (.bipush 8, 2) := by decide +kernel
theorem dX5_stays_60 : decode cX5_stays 60 = .ok (.iload_n 1, 1) := by decide +kernel
theorem dX5_stays_61 : decode cX5_stays 61 = .ok (.imul, 1) := by decide +kernel
theorem dX5_stays_62 : decode cX5_stays 62 = .ok (.iadd, 1) := by decide +kernel
theorem dX5_stays_63 : decode cX5_stays 63 = .ok (.iload 5, 2) := by decide +kernel
theorem dX5_stays_65 : decode cX5_stays 65 = .ok (.iadd, 1) := by decide +kernel
theorem dX5_stays_66 : decode cX5_stays 66 = .ok (.iaload, 1) := by decide +kernel
theorem dX5_stays_67 : decode cX5_stays 67 = .ok (.if_icmp .ne 7, 3) := by decide +kernel
theorem dX5_stays_70 : decode cX5_stays 70 = .ok (.iconst 1, 1) := by decide +kernel
theorem dX5_stays_71 : decode cX5_stays 71 = .ok (.goto 4, 3) := by decide +kernel
theorem dX5_stays_74 : decode cX5_stays 74 = .ok (.iconst 0, 1) := by decide +kernel
theorem dX5_stays_75 : decode cX5_stays 75 = .ok (.iand, 1) := by decide +kernel
theorem dX5_stays_76 : decode cX5_stays 76 = .ok (.istore 4, 2) := by decide +kernel
theorem dX5_stays_78 : decode cX5_stays 78 = .ok (.iinc 5 1, 3) := by decide +kernel
theorem dX5_stays_81 : decode cX5_stays 81 = .ok (.goto (-44), 3) := by decide +kernel
theorem dX5_stays_84 : decode cX5_stays 84 = .ok (.aload_n 0, 1) := by decide +kernel
theorem dX5_stays_85 : decode cX5_stays 85 = .ok (.getfield 19, 3) := by decide +kernel
theorem dX5_stays_88 : decode cX5_stays 88 = .ok (.aload_n 0, 1) := by decide +kernel
theorem dX5_stays_89 : decode cX5_stays 89 = .ok (.getfield 7, 3) := by decide +kernel
theorem dX5_stays_92 : decode cX5_stays 92 = .ok (.invokestatic 160, 3) := by decide +kernel
theorem dX5_stays_95 : decode cX5_stays 95 = .ok (.iload 4, 2) := by decide +kernel
theorem dX5_stays_97 : decode cX5_stays 97 = .ok (.ireturn, 1) := by decide +kernel
theorem dX5_out_0 : decode cX5_out 0 = .ok (.iload_n 1, 1) := by decide +kernel
theorem dX5_out_1 : decode cX5_out 1 = .ok (.invokestatic 41, 3) := by decide +kernel
theorem dX5_out_4 : decode cX5_out 4 = .ok (.ifCond .eq 15, 3) := by decide +kernel
theorem dX5_out_7 : decode cX5_out 7 = .ok (.iload_n 2, 1) := by decide +kernel
theorem dX5_out_8 : decode cX5_out 8 = .ok (.i2l, 1) := by decide +kernel
theorem dX5_out_9 : decode cX5_out 9 = .ok (.lconst 0, 1) := by decide +kernel
theorem dX5_out_10 : decode cX5_out 10 = .ok (.ldc2_w 192, 3) := by decide +kernel
theorem dX5_out_13 : decode cX5_out 13 = .ok (.invokestatic 56, 3) := by decide +kernel
theorem dX5_out_16 : decode cX5_out 16 = .ok (.ifCond .ne 10, 3) := by decide +kernel
theorem dX5_out_19 : decode cX5_out 19 = .ok (.aload_n 0, 1) := by decide +kernel
theorem dX5_out_20 : decode cX5_out 20 = .ok (.ldc 40, 2) := by decide +kernel
theorem dX5_out_22 : decode cX5_out 22 = .ok (.invokevirtual 46, 3) := by decide +kernel
theorem dX5_out_25 : decode cX5_out 25 = .ok (.ireturn, 1) := by decide +kernel
theorem dX5_out_26 : decode cX5_out 26 = .ok (.iconst (-1), 1) := by decide +kernel
theorem dX5_out_27 : decode cX5_out 27 = .ok (.istore_n 3, 1) := by decide +kernel
theorem dX5_out_28 : decode cX5_out 28 = .ok (.iconst 0, 1) := by decide +kernel
theorem dX5_out_29 : decode cX5_out 29 = .ok (.istore 4, 2) := by decide +kernel
theorem dX5_out_31 : decode cX5_out 31 = .ok (.iload 4, 2) := by decide +kernel
theorem dX5_out_33 : decode cX5_out 33 = .ok (.iconst 1, 1) := by decide +kernel
theorem dX5_out_34 : decode cX5_out 34 = .ok (.aload_n 0, 1) := by decide +kernel
theorem dX5_out_35 : decode cX5_out 35 = .ok (.getfield 7, 3) := by decide +kernel
theorem dX5_out_38 : decode cX5_out 38 = .ok (.iconst 0, 1) := by decide +kernel
theorem dX5_out_39 : decode cX5_out 39 = .ok (.iaload, 1) := by decide +kernel
theorem dX5_out_40 : decode cX5_out 40 = .ok (.ishl, 1) := by decide +kernel
theorem dX5_out_41 : decode cX5_out 41 = .ok (.if_icmp .ge 43, 3) := by decide +kernel
theorem dX5_out_44 : decode cX5_out 44 = .ok (.iload_n 3, 1) := by decide +kernel
theorem dX5_out_45 : decode cX5_out 45 = .ok (.ifCond .lt 15, 3) := by decide +kernel
theorem dX5_out_48 : decode cX5_out 48 = .ok (.iload 4, 2) := by decide +kernel
theorem dX5_out_50 : decode cX5_out 50 = .ok (.invokestatic 78, 3) := by decide +kernel
theorem dX5_out_53 : decode cX5_out 53 = .ok (.iload_n 3, 1) := by decide +kernel
theorem dX5_out_54 : decode cX5_out 54 = .ok (.invokestatic 78, 3) := by decide +kernel
theorem dX5_out_57 : decode cX5_out 57 = .ok (.if_icmp .ge 19, 3) := by decide +kernel
theorem dX5_out_60 : decode cX5_out 60 = .ok (.aload_n 0, 1) := by decide +kernel
theorem dX5_out_61 : decode cX5_out 61 = .ok (.iload_n 1, 1) := by decide +kernel
theorem dX5_out_62 : decode cX5_out 62 = .ok (.iload_n 2, 1) := by decide +kernel
theorem dX5_out_63 : decode cX5_out 63 = .ok (.iload 4, 2) := by decide +kernel
theorem dX5_out_65 : decode cX5_out 65 = .ok (.invokevirtual 194, 3) := by decide +kernel
theorem dX5_out_68 : decode cX5_out 68 = .ok (.ifCond .eq 8, 3) := by decide +kernel
theorem dX5_out_71 : decode cX5_out 71 = .ok (.iload 4, 2) := by decide +kernel
theorem dX5_out_73 : decode cX5_out 73 = .ok (.goto 4, 3) := by decide +kernel
theorem dX5_out_76 : decode cX5_out 76 = .ok (.iload_n 3, 1) := by decide +kernel
theorem dX5_out_77 : decode cX5_out 77 = .ok (.istore_n 3, 1) := by decide +kernel
theorem dX5_out_78 : decode cX5_out 78 = .ok (.iinc 4 1, 3) := by decide +kernel
theorem dX5_out_81 : decode cX5_out 81 = .ok (.goto (-50), 3) := by decide +kernel
theorem dX5_out_84 : decode cX5_out 84 = .ok (.iload_n 3, 1) := by decide +kernel
theorem dX5_out_85 : decode cX5_out 85 = .ok (.ireturn, 1) := by decide +kernel
theorem dX5_isTold_0 : decode cX5_isTold 0 = .ok (.aload_n 0, 1) := by decide +kernel
theorem dX5_isTold_1 : decode cX5_isTold 1 = .ok (.getfield 7, 3) := by decide +kernel
theorem dX5_isTold_4 : decode cX5_isTold 4 = .ok (.aload_n 0, 1) := by decide +kernel
theorem dX5_isTold_5 : decode cX5_isTold 5 = .ok (.getfield 19, 3) := by decide +kernel
theorem dX5_isTold_8 : decode cX5_isTold 8 = .ok (.invokestatic 160, 3) := by decide +kernel
theorem dX5_isTold_11 : decode cX5_isTold 11 = .ok (.aload_n 0, 1) := by decide +kernel
theorem dX5_isTold_12 : decode cX5_isTold 12 = .ok (.iload_n 3, 1) := by decide +kernel
theorem dX5_isTold_13 : decode cX5_isTold 13 = .ok (.invokevirtual 139, 3) := by decide +kernel
theorem dX5_isTold_16 : decode cX5_isTold 16 = .ok (.iconst 1, 1) := by decide +kernel
theorem dX5_isTold_17 : decode cX5_isTold 17 = .ok (.istore 4, 2) := by decide +kernel
theorem dX5_isTold_19 : decode cX5_isTold 19 = .ok (.iconst 0, 1) := by decide +kernel
theorem dX5_isTold_20 : decode cX5_isTold 20 = .ok (.istore 5, 2) := by decide +kernel
theorem dX5_isTold_22 : decode cX5_isTold 22 = .ok (.iload 5, 2) := by decide +kernel
theorem dX5_isTold_24 : decode cX5_isTold 24 = .ok (.aload_n 0, 1) := by decide +kernel
theorem dX5_isTold_25 : decode cX5_isTold 25 = .ok (.getfield 31, 3) := by decide +kernel
theorem dX5_isTold_28 : decode cX5_isTold 28 = .ok (.iload_n 1, 1) := by decide +kernel
theorem dX5_isTold_29 : decode cX5_isTold 29 = .ok (.iaload, 1) := by decide +kernel
theorem dX5_isTold_30 : decode cX5_isTold 30 = .ok (.if_icmp .ge 58, 3) := by decide +kernel
theorem dX5_isTold_33 : decode cX5_isTold 33 = .ok (.iload 5, 2) := by decide +kernel
theorem dX5_isTold_35 : decode cX5_isTold 35 = .ok (.bipush 8, 2) := by decide +kernel
theorem dX5_isTold_37 : decode cX5_isTold 37 = .ok (.if_icmp .ge 51, 3) := by decide +kernel
theorem dX5_isTold_40 : decode cX5_isTold 40 = .ok (.aload_n 0, 1) := by decide +kernel
theorem dX5_isTold_41 : decode cX5_isTold 41 = .ok (.getfield 34, 3) := by decide +kernel
theorem dX5_isTold_44 : decode cX5_isTold 44 = .ok (.bipush 40, 2) := by decide +kernel
theorem dX5_isTold_46 : decode cX5_isTold 46 = .ok (.iload_n 1, 1) := by decide +kernel
theorem dX5_isTold_47 : decode cX5_isTold 47 = .ok (.imul, 1) := by decide +kernel
theorem dX5_isTold_48 : decode cX5_isTold 48 = .ok (.iload 5, 2) := by decide +kernel
theorem dX5_isTold_50 : decode cX5_isTold 50 = .ok (.iadd, 1) := by decide +kernel
theorem dX5_isTold_51 : decode cX5_isTold 51 = .ok (.iaload, 1) := by decide +kernel
theorem dX5_isTold_52 : decode cX5_isTold 52 = .ok (.istore 6, 2) := by decide +kernel
theorem dX5_isTold_54 : decode cX5_isTold 54 = .ok (.iload 4, 2) := by decide +kernel
theorem dX5_isTold_56 : decode cX5_isTold 56 = .ok (.iload 6, 2) := by decide +kernel
theorem dX5_isTold_58 : decode cX5_isTold 58 = .ok (.iconst (-1), 1) := by decide +kernel
theorem dX5_isTold_59 : decode cX5_isTold 59 = .ok (.if_icmp .eq 15, 3) := by decide +kernel
theorem dX5_isTold_62 : decode cX5_isTold 62 = .ok (.iload 6, 2) := by decide +kernel
theorem dX5_isTold_64 : decode cX5_isTold 64 = .ok (.aload_n 0, 1) := by decide +kernel
theorem dX5_isTold_65 : decode cX5_isTold 65 = .ok (.iload_n 2, 1) := by decide +kernel
theorem dX5_isTold_66 : decode cX5_isTold 66 = .ok (.iload 5, 2) := by decide +kernel
theorem dX5_isTold_68 : decode cX5_isTold 68 = .ok (.invokevirtual 64, 3) := by decide +kernel
theorem dX5_isTold_71 : decode cX5_isTold 71 = .ok (.if_icmp .ne 7, 3) := by decide +kernel
theorem dX5_isTold_74 : decode cX5_isTold 74 = .ok (.iconst 1, 1) := by decide +kernel
theorem dX5_isTold_75 : decode cX5_isTold 75 = .ok (.goto 4, 3) := by decide +kernel
theorem dX5_isTold_78 : decode cX5_isTold 78 = .ok (.iconst 0, 1) := by decide +kernel
theorem dX5_isTold_79 : decode cX5_isTold 79 = .ok (.iand, 1) := by decide +kernel
theorem dX5_isTold_80 : decode cX5_isTold 80 = .ok (.istore 4, 2) := by decide +kernel
theorem dX5_isTold_82 : decode cX5_isTold 82 = .ok (.iinc 5 1, 3) := by decide +kernel
theorem dX5_isTold_85 : decode cX5_isTold 85 = .ok (.goto (-63), 3) := by decide +kernel
theorem dX5_isTold_88 : decode cX5_isTold 88 = .ok (.aload_n 0, 1) := by decide +kernel
theorem dX5_isTold_89 : decode cX5_isTold 89 = .ok (.getfield 19, 3) := by decide +kernel
theorem dX5_isTold_92 : decode cX5_isTold 92 = .ok (.aload_n 0, 1) := by decide +kernel
theorem dX5_isTold_93 : decode cX5_isTold 93 = .ok (.getfield 7, 3) := by decide +kernel
theorem dX5_isTold_96 : decode cX5_isTold 96 = .ok (.invokestatic 160, 3) := by decide +kernel
theorem dX5_isTold_99 : decode cX5_isTold 99 = .ok (.iload 4, 2) := by decide +kernel
theorem dX5_isTold_101 : decode cX5_isTold 101 = .ok (.ireturn, 1) := by decide +kernel
theorem dX5_fits_0 : decode cX5_fits 0 = .ok (.aload_n 0, 1) := by decide +kernel
theorem dX5_fits_1 : decode cX5_fits 1 = .ok (.iload_n 1, 1) := by decide +kernel
theorem dX5_fits_2 : decode cX5_fits 2 = .ok (.invokevirtual 197, 3) := by decide +kernel
theorem dX5_fits_5 : decode cX5_fits 5 = .ok (.ifCond .eq 11, 3) := by decide +kernel
theorem dX5_fits_8 : decode cX5_fits 8 = .ok (.aload_n 0, 1) := by decide +kernel
theorem dX5_fits_9 : decode cX5_fits 9 = .ok (.iload_n 1, 1) := by decide +kernel
theorem dX5_fits_10 : decode cX5_fits 10 = .ok (.invokevirtual 197, 3) := by decide +kernel
theorem dX5_fits_13 : decode cX5_fits 13 = .ok (.goto 30, 3) := by decide +kernel
theorem dX5_fits_16 : decode cX5_fits 16 = .ok (.iload_n 2, 1) := by decide +kernel
theorem dX5_fits_17 : decode cX5_fits 17 = .ok (.iload_n 3, 1) := by decide +kernel
theorem dX5_fits_18 : decode cX5_fits 18 = .ok (.invokestatic 50, 3) := by decide +kernel
theorem dX5_fits_21 : decode cX5_fits 21 = .ok (.ifCond .eq 20, 3) := by decide +kernel
theorem dX5_fits_24 : decode cX5_fits 24 = .ok (.iload 4, 2) := by decide +kernel
theorem dX5_fits_26 : decode cX5_fits 26 = .ok (.i2l, 1) := by decide +kernel
theorem dX5_fits_27 : decode cX5_fits 27 = .ok (.lconst 0, 1) := by decide +kernel
theorem dX5_fits_28 : decode cX5_fits 28 = .ok (.ldc2_w 192, 3) := by decide +kernel
theorem dX5_fits_31 : decode cX5_fits 31 = .ok (.invokestatic 56, 3) := by decide +kernel
theorem dX5_fits_34 : decode cX5_fits 34 = .ok (.ifCond .eq 7, 3) := by decide +kernel
theorem dX5_fits_37 : decode cX5_fits 37 = .ok (.iconst 0, 1) := by decide +kernel
theorem dX5_fits_38 : decode cX5_fits 38 = .ok (.goto 5, 3) := by decide +kernel
theorem dX5_fits_41 : decode cX5_fits 41 = .ok (.ldc 40, 2) := by decide +kernel
theorem dX5_fits_43 : decode cX5_fits 43 = .ok (.istore 5, 2) := by decide +kernel
theorem dX5_fits_45 : decode cX5_fits 45 = .ok (.iload 5, 2) := by decide +kernel
theorem dX5_fits_47 : decode cX5_fits 47 = .ok (.ifCond .eq 10, 3) := by decide +kernel
theorem dX5_fits_50 : decode cX5_fits 50 = .ok (.aload_n 0, 1) := by decide +kernel
theorem dX5_fits_51 : decode cX5_fits 51 = .ok (.iload 5, 2) := by decide +kernel
theorem dX5_fits_53 : decode cX5_fits 53 = .ok (.invokevirtual 46, 3) := by decide +kernel
theorem dX5_fits_56 : decode cX5_fits 56 = .ok (.ireturn, 1) := by decide +kernel
theorem dX5_fits_57 : decode cX5_fits 57 = .ok (.iconst 3, 1) := by decide +kernel
theorem dX5_fits_58 : decode cX5_fits 58 = .ok (.bipush 8, 2) := by decide +kernel
theorem dX5_fits_60 : decode cX5_fits 60 = .ok (.iload_n 2, 1) := by decide +kernel
theorem dX5_fits_61 : decode cX5_fits 61 = .ok (.imul, 1) := by decide +kernel
theorem dX5_fits_62 : decode cX5_fits 62 = .ok (.iadd, 1) := by decide +kernel
theorem dX5_fits_63 : decode cX5_fits 63 = .ok (.iload_n 3, 1) := by decide +kernel
theorem dX5_fits_64 : decode cX5_fits 64 = .ok (.iadd, 1) := by decide +kernel
theorem dX5_fits_65 : decode cX5_fits 65 = .ok (.istore 6, 2) := by decide +kernel
theorem dX5_fits_67 : decode cX5_fits 67 = .ok (.aload_n 0, 1) := by decide +kernel
theorem dX5_fits_68 : decode cX5_fits 68 = .ok (.getfield 7, 3) := by decide +kernel
theorem dX5_fits_71 : decode cX5_fits 71 = .ok (.iload 6, 2) := by decide +kernel
theorem dX5_fits_73 : decode cX5_fits 73 = .ok (.iaload, 1) := by decide +kernel
theorem dX5_fits_74 : decode cX5_fits 74 = .ok (.istore 7, 2) := by decide +kernel
theorem dX5_fits_76 : decode cX5_fits 76 = .ok (.iconst 0, 1) := by decide +kernel
theorem dX5_fits_77 : decode cX5_fits 77 = .ok (.istore 8, 2) := by decide +kernel
theorem dX5_fits_79 : decode cX5_fits 79 = .ok (.iconst 0, 1) := by decide +kernel
theorem dX5_fits_80 : decode cX5_fits 80 = .ok (.istore 9, 2) := by decide +kernel
theorem dX5_fits_82 : decode cX5_fits 82 = .ok (.iload 9, 2) := by decide +kernel
theorem dX5_fits_84 : decode cX5_fits 84 = .ok (.bipush 9, 2) := by decide +kernel
theorem dX5_fits_86 : decode cX5_fits 86 = .ok (.if_icmp .gt 42, 3) := by decide +kernel
theorem dX5_fits_89 : decode cX5_fits 89 = .ok (.aload_n 0, 1) := by decide +kernel
theorem dX5_fits_90 : decode cX5_fits 90 = .ok (.getfield 7, 3) := by decide +kernel
theorem dX5_fits_93 : decode cX5_fits 93 = .ok (.iload 6, 2) := by decide +kernel
theorem dX5_fits_95 : decode cX5_fits 95 = .ok (.iload 9, 2) := by decide +kernel
theorem dX5_fits_97 : decode cX5_fits 97 = .ok (.iastore, 1) := by decide +kernel
theorem dX5_fits_98 : decode cX5_fits 98 = .ok (.iload 8, 2) := by decide +kernel
theorem dX5_fits_100 : decode cX5_fits 100 = .ok (.aload_n 0, 1) := by decide +kernel
theorem dX5_fits_101 : decode cX5_fits 101 = .ok (.iload_n 1, 1) := by decide +kernel
theorem dX5_fits_102 : decode cX5_fits 102 = .ok (.iload_n 2, 1) := by decide +kernel
theorem dX5_fits_103 : decode cX5_fits 103 = .ok (.iload 4, 2) := by decide +kernel
theorem dX5_fits_105 : decode cX5_fits 105 = .ok (.invokevirtual 200, 3) := by decide +kernel
theorem dX5_fits_108 : decode cX5_fits 108 = .ok (.ifCond .eq 10, 3) := by decide +kernel
theorem dX5_fits_111 : decode cX5_fits 111 = .ok (.iconst 1, 1) := by decide +kernel
theorem dX5_fits_112 : decode cX5_fits 112 = .ok (.iload 9, 2) := by decide +kernel
theorem dX5_fits_114 : decode cX5_fits 114 = .ok (.ishl, 1) := by decide +kernel
theorem dX5_fits_115 : decode cX5_fits 115 = .ok (.goto 4, 3) := by decide +kernel
theorem dX5_fits_118 : decode cX5_fits 118 = .ok (.iconst 0, 1) := by decide +kernel
theorem dX5_fits_119 : decode cX5_fits 119 = .ok (.ior, 1) := by decide +kernel
theorem dX5_fits_120 : decode cX5_fits 120 = .ok (.istore 8, 2) := by decide +kernel
theorem dX5_fits_122 : decode cX5_fits 122 = .ok (.iinc 9 1, 3) := by decide +kernel
theorem dX5_fits_125 : decode cX5_fits 125 = .ok (.goto (-43), 3) := by decide +kernel
theorem dX5_fits_128 : decode cX5_fits 128 = .ok (.aload_n 0, 1) := by decide +kernel
theorem dX5_fits_129 : decode cX5_fits 129 = .ok (.getfield 7, 3) := by decide +kernel
theorem dX5_fits_132 : decode cX5_fits 132 = .ok (.iload 6, 2) := by decide +kernel
theorem dX5_fits_134 : decode cX5_fits 134 = .ok (.iload 7, 2) := by decide +kernel
theorem dX5_fits_136 : decode cX5_fits 136 = .ok (.iastore, 1) := by decide +kernel
theorem dX5_fits_137 : decode cX5_fits 137 = .ok (.iload 8, 2) := by decide +kernel
theorem dX5_fits_139 : decode cX5_fits 139 = .ok (.ireturn, 1) := by decide +kernel
theorem dX5_isFedSo_0 : decode cX5_isFedSo 0 = .ok (.aload_n 0, 1) := by decide +kernel
theorem dX5_isFedSo_1 : decode cX5_isFedSo 1 = .ok (.getfield 7, 3) := by decide +kernel
theorem dX5_isFedSo_4 : decode cX5_isFedSo 4 = .ok (.aload_n 0, 1) := by decide +kernel
theorem dX5_isFedSo_5 : decode cX5_isFedSo 5 = .ok (.getfield 19, 3) := by decide +kernel
theorem dX5_isFedSo_8 : decode cX5_isFedSo 8 = .ok (.invokestatic 160, 3) := by decide +kernel
theorem dX5_isFedSo_11 : decode cX5_isFedSo 11 = .ok (.iconst 1, 1) := by decide +kernel
theorem dX5_isFedSo_12 : decode cX5_isFedSo 12 = .ok (.istore_n 3, 1) := by decide +kernel
theorem dX5_isFedSo_13 : decode cX5_isFedSo 13 = .ok (.iconst 0, 1) := by decide +kernel
theorem dX5_isFedSo_14 : decode cX5_isFedSo 14 = .ok (.istore 4, 2) := by decide +kernel
theorem dX5_isFedSo_16 : decode cX5_isFedSo 16 = .ok (.iload 4, 2) := by decide +kernel
theorem dX5_isFedSo_18 : decode cX5_isFedSo 18 = .ok (.aload_n 0, 1) := by decide +kernel
theorem dX5_isFedSo_19 : decode cX5_isFedSo 19 = .ok (.getfield 31, 3) := by decide +kernel
theorem dX5_isFedSo_22 : decode cX5_isFedSo 22 = .ok (.iload_n 1, 1) := by decide +kernel
theorem dX5_isFedSo_23 : decode cX5_isFedSo 23 = .ok (.iaload, 1) := by decide +kernel
theorem dX5_isFedSo_24 : decode cX5_isFedSo 24 = .ok (.if_icmp .ge 55, 3) := by decide +kernel
theorem dX5_isFedSo_27 : decode cX5_isFedSo 27 = .ok (.iload_n 3, 1) := by decide +kernel
theorem dX5_isFedSo_28 : decode cX5_isFedSo 28 = .ok (.ifCond .eq 51, 3) := by decide +kernel
theorem dX5_isFedSo_31 : decode cX5_isFedSo 31 = .ok (.aload_n 0, 1) := by decide +kernel
theorem dX5_isFedSo_32 : decode cX5_isFedSo 32 = .ok (.getfield 34, 3) := by decide +kernel
theorem dX5_isFedSo_35 : decode cX5_isFedSo 35 = .ok (.bipush 40, 2) := by decide +kernel
theorem dX5_isFedSo_37 : decode cX5_isFedSo 37 = .ok (.iload_n 1, 1) := by decide +kernel
theorem dX5_isFedSo_38 : decode cX5_isFedSo 38 = .ok (.imul, 1) := by decide +kernel
theorem dX5_isFedSo_39 : decode cX5_isFedSo 39 = .ok (.iload 4, 2) := by decide +kernel
theorem dX5_isFedSo_41 : decode cX5_isFedSo 41 = .ok (.iadd, 1) := by decide +kernel
theorem dX5_isFedSo_42 : decode cX5_isFedSo 42 = .ok (.iaload, 1) := by decide +kernel
theorem dX5_isFedSo_43 : decode cX5_isFedSo 43 = .ok (.istore 5, 2) := by decide +kernel
theorem dX5_isFedSo_45 : decode cX5_isFedSo 45 = .ok (.iload 5, 2) := by decide +kernel
theorem dX5_isFedSo_47 : decode cX5_isFedSo 47 = .ok (.iconst (-1), 1) := by decide +kernel
theorem dX5_isFedSo_48 : decode cX5_isFedSo 48 = .ok (.if_icmp .eq 14, 3) := by decide +kernel
theorem dX5_isFedSo_51 : decode cX5_isFedSo 51 = .ok (.iload 5, 2) := by decide +kernel
theorem dX5_isFedSo_53 : decode cX5_isFedSo 53 = .ok (.aload_n 0, 1) := by decide +kernel
theorem dX5_isFedSo_54 : decode cX5_isFedSo 54 = .ok (.iload_n 2, 1) := by decide +kernel
theorem dX5_isFedSo_55 : decode cX5_isFedSo 55 = .ok (.iconst 3, 1) := by decide +kernel
theorem dX5_isFedSo_56 : decode cX5_isFedSo 56 = .ok (.invokevirtual 67, 3) := by decide +kernel
theorem dX5_isFedSo_59 : decode cX5_isFedSo 59 = .ok (.if_icmp .ne 7, 3) := by decide +kernel
theorem dX5_isFedSo_62 : decode cX5_isFedSo 62 = .ok (.iconst 1, 1) := by decide +kernel
theorem dX5_isFedSo_63 : decode cX5_isFedSo 63 = .ok (.goto 4, 3) := by decide +kernel
theorem dX5_isFedSo_66 : decode cX5_isFedSo 66 = .ok (.iconst 0, 1) := by decide +kernel
theorem dX5_isFedSo_67 : decode cX5_isFedSo 67 = .ok (.istore_n 3, 1) := by decide +kernel
theorem dX5_isFedSo_68 : decode cX5_isFedSo 68 = .ok (.aload_n 0, 1) := by decide +kernel
theorem dX5_isFedSo_69 : decode cX5_isFedSo 69 = .ok (.iconst 0, 1) := by decide +kernel
theorem dX5_isFedSo_70 : decode cX5_isFedSo 70 = .ok (.invokevirtual 131, 3) := by decide +kernel
theorem dX5_isFedSo_73 : decode cX5_isFedSo 73 = .ok (.iinc 4 1, 3) := by decide +kernel
theorem dX5_isFedSo_76 : decode cX5_isFedSo 76 = .ok (.goto (-60), 3) := by decide +kernel
theorem dX5_isFedSo_79 : decode cX5_isFedSo 79 = .ok (.aload_n 0, 1) := by decide +kernel
theorem dX5_isFedSo_80 : decode cX5_isFedSo 80 = .ok (.getfield 19, 3) := by decide +kernel
theorem dX5_isFedSo_83 : decode cX5_isFedSo 83 = .ok (.aload_n 0, 1) := by decide +kernel
theorem dX5_isFedSo_84 : decode cX5_isFedSo 84 = .ok (.getfield 7, 3) := by decide +kernel
theorem dX5_isFedSo_87 : decode cX5_isFedSo 87 = .ok (.invokestatic 160, 3) := by decide +kernel
theorem dX5_isFedSo_90 : decode cX5_isFedSo 90 = .ok (.iload_n 3, 1) := by decide +kernel
theorem dX5_isFedSo_91 : decode cX5_isFedSo 91 = .ok (.ireturn, 1) := by decide +kernel
theorem dX5_kinds_0 : decode cX5_kinds 0 = .ok (.aload_n 0, 1) := by decide +kernel
theorem dX5_kinds_1 : decode cX5_kinds 1 = .ok (.iload_n 1, 1) := by decide +kernel
theorem dX5_kinds_2 : decode cX5_kinds 2 = .ok (.invokevirtual 197, 3) := by decide +kernel
theorem dX5_kinds_5 : decode cX5_kinds 5 = .ok (.ifCond .eq 11, 3) := by decide +kernel
theorem dX5_kinds_8 : decode cX5_kinds 8 = .ok (.aload_n 0, 1) := by decide +kernel
theorem dX5_kinds_9 : decode cX5_kinds 9 = .ok (.iload_n 1, 1) := by decide +kernel
theorem dX5_kinds_10 : decode cX5_kinds 10 = .ok (.invokevirtual 197, 3) := by decide +kernel
theorem dX5_kinds_13 : decode cX5_kinds 13 = .ok (.goto 17, 3) := by decide +kernel
theorem dX5_kinds_16 : decode cX5_kinds 16 = .ok (.aload_n 0, 1) := by decide +kernel
theorem dX5_kinds_17 : decode cX5_kinds 17 = .ok (.iload_n 2, 1) := by decide +kernel
theorem dX5_kinds_18 : decode cX5_kinds 18 = .ok (.invokevirtual 112, 3) := by decide +kernel
theorem dX5_kinds_21 : decode cX5_kinds 21 = .ok (.ifCond .eq 7, 3) := by decide +kernel
theorem dX5_kinds_24 : decode cX5_kinds 24 = .ok (.iconst 0, 1) := by decide +kernel
theorem dX5_kinds_25 : decode cX5_kinds 25 = .ok (.goto 5, 3) := by decide +kernel
theorem dX5_kinds_28 : decode cX5_kinds 28 = .ok (.ldc 40, 2) := by decide +kernel
theorem dX5_kinds_30 : decode cX5_kinds 30 = .ok (.istore_n 3, 1) := by decide +kernel
theorem dX5_kinds_31 : decode cX5_kinds 31 = .ok (.iload_n 3, 1) := by decide +kernel
theorem dX5_kinds_32 : decode cX5_kinds 32 = .ok (.ifCond .eq 9, 3) := by decide +kernel
theorem dX5_kinds_35 : decode cX5_kinds 35 = .ok (.aload_n 0, 1) := by decide +kernel
theorem dX5_kinds_36 : decode cX5_kinds 36 = .ok (.iload_n 3, 1) := by decide +kernel
theorem dX5_kinds_37 : decode cX5_kinds 37 = .ok (.invokevirtual 46, 3) := by decide +kernel
theorem dX5_kinds_40 : decode cX5_kinds 40 = .ok (.ireturn, 1) := by decide +kernel
theorem dX5_kinds_41 : decode cX5_kinds 41 = .ok (.aload_n 0, 1) := by decide +kernel
theorem dX5_kinds_42 : decode cX5_kinds 42 = .ok (.iload_n 2, 1) := by decide +kernel
theorem dX5_kinds_43 : decode cX5_kinds 43 = .ok (.iconst 0, 1) := by decide +kernel
theorem dX5_kinds_44 : decode cX5_kinds 44 = .ok (.invokevirtual 67, 3) := by decide +kernel
theorem dX5_kinds_47 : decode cX5_kinds 47 = .ok (.istore 4, 2) := by decide +kernel
theorem dX5_kinds_49 : decode cX5_kinds 49 = .ok (.iconst 0, 1) := by decide +kernel
theorem dX5_kinds_50 : decode cX5_kinds 50 = .ok (.istore 5, 2) := by decide +kernel
theorem dX5_kinds_52 : decode cX5_kinds 52 = .ok (.iconst 0, 1) := by decide +kernel
theorem dX5_kinds_53 : decode cX5_kinds 53 = .ok (.istore 6, 2) := by decide +kernel
theorem dX5_kinds_55 : decode cX5_kinds 55 = .ok (.iload 6, 2) := by decide +kernel
theorem dX5_kinds_57 : decode cX5_kinds 57 = .ok (.bipush 6, 2) := by decide +kernel
theorem dX5_kinds_59 : decode cX5_kinds 59 = .ok (.if_icmp .gt 43, 3) := by decide +kernel
theorem dX5_kinds_62 : decode cX5_kinds 62 = .ok (.aload_n 0, 1) := by decide +kernel
theorem dX5_kinds_63 : decode cX5_kinds 63 = .ok (.getfield 7, 3) := by decide +kernel
theorem dX5_kinds_66 : decode cX5_kinds 66 = .ok (.iload_n 2, 1) := by decide +kernel
theorem dX5_kinds_67 : decode cX5_kinds 67 = .ok (.iconst 0, 1) := by decide +kernel
theorem dX5_kinds_68 : decode cX5_kinds 68 = .ok (.invokestatic 84, 3) := by decide +kernel
theorem dX5_kinds_71 : decode cX5_kinds 71 = .ok (.iload 6, 2) := by decide +kernel
theorem dX5_kinds_73 : decode cX5_kinds 73 = .ok (.iastore, 1) := by decide +kernel
theorem dX5_kinds_74 : decode cX5_kinds 74 = .ok (.iload 5, 2) := by decide +kernel
theorem dX5_kinds_76 : decode cX5_kinds 76 = .ok (.aload_n 0, 1) := by decide +kernel
theorem dX5_kinds_77 : decode cX5_kinds 77 = .ok (.iload_n 1, 1) := by decide +kernel
theorem dX5_kinds_78 : decode cX5_kinds 78 = .ok (.iload_n 2, 1) := by decide +kernel
theorem dX5_kinds_79 : decode cX5_kinds 79 = .ok (.invokevirtual 203, 3) := by decide +kernel
theorem dX5_kinds_82 : decode cX5_kinds 82 = .ok (.ifCond .eq 10, 3) := by decide +kernel
theorem dX5_kinds_85 : decode cX5_kinds 85 = .ok (.iconst 1, 1) := by decide +kernel
theorem dX5_kinds_86 : decode cX5_kinds 86 = .ok (.iload 6, 2) := by decide +kernel
theorem dX5_kinds_88 : decode cX5_kinds 88 = .ok (.ishl, 1) := by decide +kernel
theorem dX5_kinds_89 : decode cX5_kinds 89 = .ok (.goto 4, 3) := by decide +kernel
theorem dX5_kinds_92 : decode cX5_kinds 92 = .ok (.iconst 0, 1) := by decide +kernel
theorem dX5_kinds_93 : decode cX5_kinds 93 = .ok (.ior, 1) := by decide +kernel
theorem dX5_kinds_94 : decode cX5_kinds 94 = .ok (.istore 5, 2) := by decide +kernel
theorem dX5_kinds_96 : decode cX5_kinds 96 = .ok (.iinc 6 1, 3) := by decide +kernel
theorem dX5_kinds_99 : decode cX5_kinds 99 = .ok (.goto (-44), 3) := by decide +kernel
theorem dX5_kinds_102 : decode cX5_kinds 102 = .ok (.aload_n 0, 1) := by decide +kernel
theorem dX5_kinds_103 : decode cX5_kinds 103 = .ok (.getfield 7, 3) := by decide +kernel
theorem dX5_kinds_106 : decode cX5_kinds 106 = .ok (.iload_n 2, 1) := by decide +kernel
theorem dX5_kinds_107 : decode cX5_kinds 107 = .ok (.iconst 0, 1) := by decide +kernel
theorem dX5_kinds_108 : decode cX5_kinds 108 = .ok (.invokestatic 84, 3) := by decide +kernel
theorem dX5_kinds_111 : decode cX5_kinds 111 = .ok (.iload 4, 2) := by decide +kernel
theorem dX5_kinds_113 : decode cX5_kinds 113 = .ok (.iastore, 1) := by decide +kernel
theorem dX5_kinds_114 : decode cX5_kinds 114 = .ok (.iload 5, 2) := by decide +kernel
theorem dX5_kinds_116 : decode cX5_kinds 116 = .ok (.ireturn, 1) := by decide +kernel
theorem dX5_draw_0 : decode cX5_draw 0 = .ok (.aload_n 0, 1) := by decide +kernel
theorem dX5_draw_1 : decode cX5_draw 1 = .ok (.getfield 7, 3) := by decide +kernel
theorem dX5_draw_4 : decode cX5_draw 4 = .ok (.iconst 2, 1) := by decide +kernel
theorem dX5_draw_5 : decode cX5_draw 5 = .ok (.aload_n 0, 1) := by decide +kernel
theorem dX5_draw_6 : decode cX5_draw 6 = .ok (.getfield 7, 3) := by decide +kernel
theorem dX5_draw_9 : decode cX5_draw 9 = .ok (.iconst 2, 1) := by decide +kernel
theorem dX5_draw_10 : decode cX5_draw 10 = .ok (.iaload, 1) := by decide +kernel
theorem dX5_draw_11 : decode cX5_draw 11 = .ok (.ldc 206, 2) := by decide +kernel
theorem dX5_draw_13 : decode cX5_draw 13 = .ok (.imul, 1) := by decide +kernel
theorem dX5_draw_14 : decode cX5_draw 14 = .ok (.sipush 12345, 3) := by decide +kernel
theorem dX5_draw_17 : decode cX5_draw 17 = .ok (.iadd, 1) := by decide +kernel
theorem dX5_draw_18 : decode cX5_draw 18 = .ok (.iastore, 1) := by decide +kernel
theorem dX5_draw_19 : decode cX5_draw 19 = .ok (.aload_n 0, 1) := by decide +kernel
theorem dX5_draw_20 : decode cX5_draw 20 = .ok (.getfield 7, 3) := by decide +kernel
theorem dX5_draw_23 : decode cX5_draw 23 = .ok (.iconst 2, 1) := by decide +kernel
theorem dX5_draw_24 : decode cX5_draw 24 = .ok (.iaload, 1) := by decide +kernel
theorem dX5_draw_25 : decode cX5_draw 25 = .ok (.bipush 8, 2) := by decide +kernel
theorem dX5_draw_27 : decode cX5_draw 27 = .ok (.iushr, 1) := by decide +kernel
theorem dX5_draw_28 : decode cX5_draw 28 = .ok (.ireturn, 1) := by decide +kernel
theorem dX5_lights_0 : decode cX5_lights 0 = .ok (.iload_n 1, 1) := by decide +kernel
theorem dX5_lights_1 : decode cX5_lights 1 = .ok (.i2l, 1) := by decide +kernel
theorem dX5_lights_2 : decode cX5_lights 2 = .ok (.lconst 1, 1) := by decide +kernel
theorem dX5_lights_3 : decode cX5_lights 3 = .ok (.ldc2_w 192, 3) := by decide +kernel
theorem dX5_lights_6 : decode cX5_lights 6 = .ok (.invokestatic 56, 3) := by decide +kernel
theorem dX5_lights_9 : decode cX5_lights 9 = .ok (.ifCond .ne 10, 3) := by decide +kernel
theorem dX5_lights_12 : decode cX5_lights 12 = .ok (.aload_n 0, 1) := by decide +kernel
theorem dX5_lights_13 : decode cX5_lights 13 = .ok (.ldc 40, 2) := by decide +kernel
theorem dX5_lights_15 : decode cX5_lights 15 = .ok (.invokevirtual 46, 3) := by decide +kernel
theorem dX5_lights_18 : decode cX5_lights 18 = .ok (.ireturn, 1) := by decide +kernel
theorem dX5_lights_19 : decode cX5_lights 19 = .ok (.aload_n 0, 1) := by decide +kernel
theorem dX5_lights_20 : decode cX5_lights 20 = .ok (.getfield 7, 3) := by decide +kernel
theorem dX5_lights_23 : decode cX5_lights 23 = .ok (.iconst 1, 1) := by decide +kernel
theorem dX5_lights_24 : decode cX5_lights 24 = .ok (.iaload, 1) := by decide +kernel
theorem dX5_lights_25 : decode cX5_lights 25 = .ok (.iload_n 1, 1) := by decide +kernel
theorem dX5_lights_26 : decode cX5_lights 26 = .ok (.iadd, 1) := by decide +kernel
theorem dX5_lights_27 : decode cX5_lights 27 = .ok (.ldc 137, 2) := by decide +kernel
theorem dX5_lights_29 : decode cX5_lights 29 = .ok (.if_icmp .le 10, 3) := by decide +kernel
theorem dX5_lights_32 : decode cX5_lights 32 = .ok (.aload_n 0, 1) := by decide +kernel
theorem dX5_lights_33 : decode cX5_lights 33 = .ok (.ldc 138, 2) := by decide +kernel
theorem dX5_lights_35 : decode cX5_lights 35 = .ok (.invokevirtual 46, 3) := by decide +kernel
theorem dX5_lights_38 : decode cX5_lights 38 = .ok (.ireturn, 1) := by decide +kernel
theorem dX5_lights_39 : decode cX5_lights 39 = .ok (.iconst 0, 1) := by decide +kernel
theorem dX5_lights_40 : decode cX5_lights 40 = .ok (.istore_n 2, 1) := by decide +kernel
theorem dX5_lights_41 : decode cX5_lights 41 = .ok (.iload_n 2, 1) := by decide +kernel
theorem dX5_lights_42 : decode cX5_lights 42 = .ok (.iload_n 1, 1) := by decide +kernel
theorem dX5_lights_43 : decode cX5_lights 43 = .ok (.if_icmp .ge 51, 3) := by decide +kernel
theorem dX5_lights_46 : decode cX5_lights 46 = .ok (.aload_n 0, 1) := by decide +kernel
theorem dX5_lights_47 : decode cX5_lights 47 = .ok (.invokevirtual 207, 3) := by decide +kernel
theorem dX5_lights_50 : decode cX5_lights 50 = .ok (.bipush 8, 2) := by decide +kernel
theorem dX5_lights_52 : decode cX5_lights 52 = .ok (.irem, 1) := by decide +kernel
theorem dX5_lights_53 : decode cX5_lights 53 = .ok (.istore_n 3, 1) := by decide +kernel
theorem dX5_lights_54 : decode cX5_lights 54 = .ok (.aload_n 0, 1) := by decide +kernel
theorem dX5_lights_55 : decode cX5_lights 55 = .ok (.invokevirtual 207, 3) := by decide +kernel
theorem dX5_lights_58 : decode cX5_lights 58 = .ok (.bipush 6, 2) := by decide +kernel
theorem dX5_lights_60 : decode cX5_lights 60 = .ok (.irem, 1) := by decide +kernel
theorem dX5_lights_61 : decode cX5_lights 61 = .ok (.istore 4, 2) := by decide +kernel
theorem dX5_lights_63 : decode cX5_lights 63 = .ok (.aload_n 0, 1) := by decide +kernel
theorem dX5_lights_64 : decode cX5_lights 64 = .ok (.iload_n 3, 1) := by decide +kernel
theorem dX5_lights_65 : decode cX5_lights 65 = .ok (.invokevirtual 112, 3) := by decide +kernel
theorem dX5_lights_68 : decode cX5_lights 68 = .ok (.ifCond .eq 15, 3) := by decide +kernel
theorem dX5_lights_71 : decode cX5_lights 71 = .ok (.aload_n 0, 1) := by decide +kernel
theorem dX5_lights_72 : decode cX5_lights 72 = .ok (.getfield 7, 3) := by decide +kernel
theorem dX5_lights_75 : decode cX5_lights 75 = .ok (.iload_n 3, 1) := by decide +kernel
theorem dX5_lights_76 : decode cX5_lights 76 = .ok (.iconst 1, 1) := by decide +kernel
theorem dX5_lights_77 : decode cX5_lights 77 = .ok (.invokestatic 84, 3) := by decide +kernel
theorem dX5_lights_80 : decode cX5_lights 80 = .ok (.iload 4, 2) := by decide +kernel
theorem dX5_lights_82 : decode cX5_lights 82 = .ok (.iastore, 1) := by decide +kernel
theorem dX5_lights_83 : decode cX5_lights 83 = .ok (.aload_n 0, 1) := by decide +kernel
theorem dX5_lights_84 : decode cX5_lights 84 = .ok (.iconst 0, 1) := by decide +kernel
theorem dX5_lights_85 : decode cX5_lights 85 = .ok (.invokevirtual 131, 3) := by decide +kernel
theorem dX5_lights_88 : decode cX5_lights 88 = .ok (.iinc 2 1, 3) := by decide +kernel
theorem dX5_lights_91 : decode cX5_lights 91 = .ok (.goto (-50), 3) := by decide +kernel
theorem dX5_lights_94 : decode cX5_lights 94 = .ok (.aload_n 0, 1) := by decide +kernel
theorem dX5_lights_95 : decode cX5_lights 95 = .ok (.invokevirtual 142, 3) := by decide +kernel
theorem dX5_lights_98 : decode cX5_lights 98 = .ok (.ireturn, 1) := by decide +kernel
theorem dX5_odds_0 : decode cX5_odds 0 = .ok (.iload_n 1, 1) := by decide +kernel
theorem dX5_odds_1 : decode cX5_odds 1 = .ok (.i2l, 1) := by decide +kernel
theorem dX5_odds_2 : decode cX5_odds 2 = .ok (.lconst 0, 1) := by decide +kernel
theorem dX5_odds_3 : decode cX5_odds 3 = .ok (.ldc2_w 210, 3) := by decide +kernel
theorem dX5_odds_6 : decode cX5_odds 6 = .ok (.invokestatic 56, 3) := by decide +kernel
theorem dX5_odds_9 : decode cX5_odds 9 = .ok (.ifCond .eq 13, 3) := by decide +kernel
theorem dX5_odds_12 : decode cX5_odds 12 = .ok (.iload_n 2, 1) := by decide +kernel
theorem dX5_odds_13 : decode cX5_odds 13 = .ok (.i2l, 1) := by decide +kernel
theorem dX5_odds_14 : decode cX5_odds 14 = .ok (.lconst 0, 1) := by decide +kernel
theorem dX5_odds_15 : decode cX5_odds 15 = .ok (.lconst 1, 1) := by decide +kernel
theorem dX5_odds_16 : decode cX5_odds 16 = .ok (.invokestatic 56, 3) := by decide +kernel
theorem dX5_odds_19 : decode cX5_odds 19 = .ok (.ifCond .ne 11, 3) := by decide +kernel
theorem dX5_odds_22 : decode cX5_odds 22 = .ok (.aload_n 0, 1) := by decide +kernel
theorem dX5_odds_23 : decode cX5_odds 23 = .ok (.ldc 40, 2) := by decide +kernel
theorem dX5_odds_25 : decode cX5_odds 25 = .ok (.invokevirtual 46, 3) := by decide +kernel
theorem dX5_odds_28 : decode cX5_odds 28 = .ok (.i2l, 1) := by decide +kernel
theorem dX5_odds_29 : decode cX5_odds 29 = .ok (.lreturn, 1) := by decide +kernel
theorem dX5_odds_30 : decode cX5_odds 30 = .ok (.lconst 1, 1) := by decide +kernel
theorem dX5_odds_31 : decode cX5_odds 31 = .ok (.lstore_n 3, 1) := by decide +kernel
theorem dX5_odds_32 : decode cX5_odds 32 = .ok (.lconst 1, 1) := by decide +kernel
theorem dX5_odds_33 : decode cX5_odds 33 = .ok (.lstore 5, 2) := by decide +kernel
theorem dX5_odds_35 : decode cX5_odds 35 = .ok (.bipush 6, 2) := by decide +kernel
theorem dX5_odds_37 : decode cX5_odds 37 = .ok (.aload_n 0, 1) := by decide +kernel
theorem dX5_odds_38 : decode cX5_odds 38 = .ok (.invokevirtual 155, 3) := by decide +kernel
theorem dX5_odds_41 : decode cX5_odds 41 = .ok (.invokestatic 78, 3) := by decide +kernel
theorem dX5_odds_44 : decode cX5_odds 44 = .ok (.isub, 1) := by decide +kernel
theorem dX5_odds_45 : decode cX5_odds 45 = .ok (.istore 7, 2) := by decide +kernel
theorem dX5_odds_47 : decode cX5_odds 47 = .ok (.iconst 0, 1) := by decide +kernel
theorem dX5_odds_48 : decode cX5_odds 48 = .ok (.istore 8, 2) := by decide +kernel
theorem dX5_odds_50 : decode cX5_odds 50 = .ok (.iload 8, 2) := by decide +kernel
theorem dX5_odds_52 : decode cX5_odds 52 = .ok (.iload_n 1, 1) := by decide +kernel
theorem dX5_odds_53 : decode cX5_odds 53 = .ok (.if_icmp .ge 23, 3) := by decide +kernel
theorem dX5_odds_56 : decode cX5_odds 56 = .ok (.lload_n 3, 1) := by decide +kernel
theorem dX5_odds_57 : decode cX5_odds 57 = .ok (.iload 7, 2) := by decide +kernel
theorem dX5_odds_59 : decode cX5_odds 59 = .ok (.i2l, 1) := by decide +kernel
theorem dX5_odds_60 : decode cX5_odds 60 = .ok (.lmul, 1) := by decide +kernel
theorem dX5_odds_61 : decode cX5_odds 61 = .ok (.lstore_n 3, 1) := by decide +kernel
theorem dX5_odds_62 : decode cX5_odds 62 = .ok (.lload 5, 2) := by decide +kernel
theorem dX5_odds_64 : decode cX5_odds 64 = .ok (.ldc2_w 87, 3) := by decide +kernel
theorem dX5_odds_67 : decode cX5_odds 67 = .ok (.lmul, 1) := by decide +kernel
theorem dX5_odds_68 : decode cX5_odds 68 = .ok (.lstore 5, 2) := by decide +kernel
theorem dX5_odds_70 : decode cX5_odds 70 = .ok (.iinc 8 1, 3) := by decide +kernel
theorem dX5_odds_73 : decode cX5_odds 73 = .ok (.goto (-23), 3) := by decide +kernel
theorem dX5_odds_76 : decode cX5_odds 76 = .ok (.lload 5, 2) := by decide +kernel
theorem dX5_odds_78 : decode cX5_odds 78 = .ok (.lstore 8, 2) := by decide +kernel
theorem dX5_odds_80 : decode cX5_odds 80 = .ok (.lload_n 3, 1) := by decide +kernel
theorem dX5_odds_81 : decode cX5_odds 81 = .ok (.lstore 10, 2) := by decide +kernel
theorem dX5_odds_83 : decode cX5_odds 83 = .ok (.lload 10, 2) := by decide +kernel
theorem dX5_odds_85 : decode cX5_odds 85 = .ok (.lconst 0, 1) := by decide +kernel
theorem dX5_odds_86 : decode cX5_odds 86 = .ok (.lcmp, 1) := by decide +kernel
theorem dX5_odds_87 : decode cX5_odds 87 = .ok (.ifCond .eq 21, 3) := by decide +kernel
theorem dX5_odds_90 : decode cX5_odds 90 = .ok (.lload 8, 2) := by decide +kernel
theorem dX5_odds_92 : decode cX5_odds 92 = .ok (.lload 10, 2) := by decide +kernel
theorem dX5_odds_94 : decode cX5_odds 94 = .ok (.lrem, 1) := by decide +kernel
theorem dX5_odds_95 : decode cX5_odds 95 = .ok (.lstore 12, 2) := by decide +kernel
theorem dX5_odds_97 : decode cX5_odds 97 = .ok (.lload 10, 2) := by decide +kernel
theorem dX5_odds_99 : decode cX5_odds 99 = .ok (.lstore 8, 2) := by decide +kernel
theorem dX5_odds_101 : decode cX5_odds 101 = .ok (.lload 12, 2) := by decide +kernel
theorem dX5_odds_103 : decode cX5_odds 103 = .ok (.lstore 10, 2) := by decide +kernel
theorem dX5_odds_105 : decode cX5_odds 105 = .ok (.goto (-22), 3) := by decide +kernel
theorem dX5_odds_108 : decode cX5_odds 108 = .ok (.iload_n 2, 1) := by decide +kernel
theorem dX5_odds_109 : decode cX5_odds 109 = .ok (.ifCond .ne 10, 3) := by decide +kernel
theorem dX5_odds_112 : decode cX5_odds 112 = .ok (.lload_n 3, 1) := by decide +kernel
theorem dX5_odds_113 : decode cX5_odds 113 = .ok (.lload 8, 2) := by decide +kernel
theorem dX5_odds_115 : decode cX5_odds 115 = .ok (.ldiv, 1) := by decide +kernel
theorem dX5_odds_116 : decode cX5_odds 116 = .ok (.goto 8, 3) := by decide +kernel
theorem dX5_odds_119 : decode cX5_odds 119 = .ok (.lload 5, 2) := by decide +kernel
theorem dX5_odds_121 : decode cX5_odds 121 = .ok (.lload 8, 2) := by decide +kernel
theorem dX5_odds_123 : decode cX5_odds 123 = .ok (.ldiv, 1) := by decide +kernel
theorem dX5_odds_124 : decode cX5_odds 124 = .ok (.lreturn, 1) := by decide +kernel
theorem dX5_seed_0 : decode cX5_seed 0 = .ok (.aload_n 0, 1) := by decide +kernel
theorem dX5_seed_1 : decode cX5_seed 1 = .ok (.iconst 2, 1) := by decide +kernel
theorem dX5_seed_2 : decode cX5_seed 2 = .ok (.iload_n 1, 1) := by decide +kernel
theorem dX5_seed_3 : decode cX5_seed 3 = .ok (.invokevirtual 60, 3) := by decide +kernel
theorem dX5_seed_6 : decode cX5_seed 6 = .ok (.ireturn, 1) := by decide +kernel
theorem dX5_feed_0 : decode cX5_feed 0 = .ok (.iload_n 2, 1) := by decide +kernel
theorem dX5_feed_1 : decode cX5_feed 1 = .ok (.i2l, 1) := by decide +kernel
theorem dX5_feed_2 : decode cX5_feed 2 = .ok (.lconst 1, 1) := by decide +kernel
theorem dX5_feed_3 : decode cX5_feed 3 = .ok (.ldc2_w 115, 3) := by decide +kernel
theorem dX5_feed_6 : decode cX5_feed 6 = .ok (.invokestatic 56, 3) := by decide +kernel
theorem dX5_feed_9 : decode cX5_feed 9 = .ok (.ifCond .ne 10, 3) := by decide +kernel
theorem dX5_feed_12 : decode cX5_feed 12 = .ok (.aload_n 0, 1) := by decide +kernel
end
section
theorem dX5_feed_13 : decode cX5_feed 13 = .ok (.ldc 40, 2) := by decide +kernel
theorem dX5_feed_15 : decode cX5_feed 15 = .ok (.invokevirtual 46, 3) := by decide +kernel
theorem dX5_feed_18 : decode cX5_feed 18 = .ok (.ireturn, 1) := by decide +kernel
theorem dX5_feed_19 : decode cX5_feed 19 = .ok (.aload_n 0, 1) := by decide +kernel
theorem dX5_feed_20 : decode cX5_feed 20 = .ok (.getfield 212, 3) := by decide +kernel
theorem dX5_feed_23 : decode cX5_feed 23 = .ok (.iload_n 2, 1) := by decide +kernel
theorem dX5_feed_24 : decode cX5_feed 24 = .ok (.iadd, 1) := by decide +kernel
theorem dX5_feed_25 : decode cX5_feed 25 = .ok (.bipush 120, 2) := by decide +kernel
theorem dX5_feed_27 : decode cX5_feed 27 = .ok (.if_icmp .le 10, 3) := by decide +kernel
theorem dX5_feed_30 : decode cX5_feed 30 = .ok (.aload_n 0, 1) := by decide +kernel
theorem dX5_feed_31 : decode cX5_feed 31 = .ok (.ldc 89, 2) := by decide +kernel
theorem dX5_feed_33 : decode cX5_feed 33 = .ok (.invokevirtual 46, 3) := by decide +kernel
theorem dX5_feed_36 : decode cX5_feed 36 = .ok (.ireturn, 1) := by decide +kernel
theorem dX5_feed_37 : decode cX5_feed 37 = .ok (.iload_n 2, 1) := by decide +kernel
theorem dX5_feed_38 : decode cX5_feed 38 = .ok (.iconst 1, 1) := by decide +kernel
theorem dX5_feed_39 : decode cX5_feed 39 = .ok (.isub, 1) := by decide +kernel
theorem dX5_feed_40 : decode cX5_feed 40 = .ok (.istore_n 3, 1) := by decide +kernel
theorem dX5_feed_41 : decode cX5_feed 41 = .ok (.iload_n 3, 1) := by decide +kernel
theorem dX5_feed_42 : decode cX5_feed 42 = .ok (.ifCond .lt 38, 3) := by decide +kernel
theorem dX5_feed_45 : decode cX5_feed 45 = .ok (.aload_n 0, 1) := by decide +kernel
theorem dX5_feed_46 : decode cX5_feed 46 = .ok (.getfield 25, 3) := by decide +kernel
theorem dX5_feed_49 : decode cX5_feed 49 = .ok (.aload_n 0, 1) := by decide +kernel
theorem dX5_feed_50 : decode cX5_feed 50 = .ok (.getfield 212, 3) := by decide +kernel
theorem dX5_feed_53 : decode cX5_feed 53 = .ok (.iload_n 1, 1) := by decide +kernel
theorem dX5_feed_54 : decode cX5_feed 54 = .ok (.bipush 8, 2) := by decide +kernel
theorem dX5_feed_56 : decode cX5_feed 56 = .ok (.iload_n 3, 1) := by decide +kernel
theorem dX5_feed_57 : decode cX5_feed 57 = .ok (.imul, 1) := by decide +kernel
theorem dX5_feed_58 : decode cX5_feed 58 = .ok (.ishr, 1) := by decide +kernel
theorem dX5_feed_59 : decode cX5_feed 59 = .ok (.sipush 255, 3) := by decide +kernel
theorem dX5_feed_62 : decode cX5_feed 62 = .ok (.iand, 1) := by decide +kernel
theorem dX5_feed_63 : decode cX5_feed 63 = .ok (.iastore, 1) := by decide +kernel
theorem dX5_feed_64 : decode cX5_feed 64 = .ok (.aload_n 0, 1) := by decide +kernel
theorem dX5_feed_65 : decode cX5_feed 65 = .ok (.dup, 1) := by decide +kernel
theorem dX5_feed_66 : decode cX5_feed 66 = .ok (.getfield 212, 3) := by decide +kernel
theorem dX5_feed_69 : decode cX5_feed 69 = .ok (.iconst 1, 1) := by decide +kernel
theorem dX5_feed_70 : decode cX5_feed 70 = .ok (.iadd, 1) := by decide +kernel
theorem dX5_feed_71 : decode cX5_feed 71 = .ok (.putfield 212, 3) := by decide +kernel
theorem dX5_feed_74 : decode cX5_feed 74 = .ok (.iinc 3 (-1), 3) := by decide +kernel
theorem dX5_feed_77 : decode cX5_feed 77 = .ok (.goto (-36), 3) := by decide +kernel
theorem dX5_feed_80 : decode cX5_feed 80 = .ok (.aload_n 0, 1) := by decide +kernel
theorem dX5_feed_81 : decode cX5_feed 81 = .ok (.getfield 212, 3) := by decide +kernel
theorem dX5_feed_84 : decode cX5_feed 84 = .ok (.ireturn, 1) := by decide +kernel
theorem dX5_wipe_0 : decode cX5_wipe 0 = .ok (.aload_n 0, 1) := by decide +kernel
theorem dX5_wipe_1 : decode cX5_wipe 1 = .ok (.getfield 212, 3) := by decide +kernel
theorem dX5_wipe_4 : decode cX5_wipe 4 = .ok (.istore_n 1, 1) := by decide +kernel
theorem dX5_wipe_5 : decode cX5_wipe 5 = .ok (.aload_n 0, 1) := by decide +kernel
theorem dX5_wipe_6 : decode cX5_wipe 6 = .ok (.iconst 0, 1) := by decide +kernel
theorem dX5_wipe_7 : decode cX5_wipe 7 = .ok (.putfield 212, 3) := by decide +kernel
theorem dX5_wipe_10 : decode cX5_wipe 10 = .ok (.iload_n 1, 1) := by decide +kernel
theorem dX5_wipe_11 : decode cX5_wipe 11 = .ok (.ireturn, 1) := by decide +kernel
theorem dX5_isLetter_0 : decode cX5_isLetter 0 = .ok (.iload_n 0, 1) := by decide +kernel
theorem dX5_isLetter_1 : decode cX5_isLetter 1 = .ok (.bipush 97, 2) := by decide +kernel
theorem dX5_isLetter_3 : decode cX5_isLetter 3 = .ok (.if_icmp .lt 13, 3) := by decide +kernel
theorem dX5_isLetter_6 : decode cX5_isLetter 6 = .ok (.iload_n 0, 1) := by decide +kernel
theorem dX5_isLetter_7 : decode cX5_isLetter 7 = .ok (.bipush 122, 2) := by decide +kernel
theorem dX5_isLetter_9 : decode cX5_isLetter 9 = .ok (.if_icmp .gt 7, 3) := by decide +kernel
theorem dX5_isLetter_12 : decode cX5_isLetter 12 = .ok (.iconst 1, 1) := by decide +kernel
theorem dX5_isLetter_13 : decode cX5_isLetter 13 = .ok (.goto 4, 3) := by decide +kernel
theorem dX5_isLetter_16 : decode cX5_isLetter 16 = .ok (.iconst 0, 1) := by decide +kernel
theorem dX5_isLetter_17 : decode cX5_isLetter 17 = .ok (.ireturn, 1) := by decide +kernel
theorem dX5_isDigit_0 : decode cX5_isDigit 0 = .ok (.iload_n 0, 1) := by decide +kernel
theorem dX5_isDigit_1 : decode cX5_isDigit 1 = .ok (.bipush 48, 2) := by decide +kernel
theorem dX5_isDigit_3 : decode cX5_isDigit 3 = .ok (.if_icmp .lt 13, 3) := by decide +kernel
theorem dX5_isDigit_6 : decode cX5_isDigit 6 = .ok (.iload_n 0, 1) := by decide +kernel
theorem dX5_isDigit_7 : decode cX5_isDigit 7 = .ok (.bipush 57, 2) := by decide +kernel
theorem dX5_isDigit_9 : decode cX5_isDigit 9 = .ok (.if_icmp .gt 7, 3) := by decide +kernel
theorem dX5_isDigit_12 : decode cX5_isDigit 12 = .ok (.iconst 1, 1) := by decide +kernel
theorem dX5_isDigit_13 : decode cX5_isDigit 13 = .ok (.goto 4, 3) := by decide +kernel
theorem dX5_isDigit_16 : decode cX5_isDigit 16 = .ok (.iconst 0, 1) := by decide +kernel
theorem dX5_isDigit_17 : decode cX5_isDigit 17 = .ok (.ireturn, 1) := by decide +kernel
theorem dX5_byteAt_0 : decode cX5_byteAt 0 = .ok (.iload_n 1, 1) := by decide +kernel
theorem dX5_byteAt_1 : decode cX5_byteAt 1 = .ok (.aload_n 0, 1) := by decide +kernel
theorem dX5_byteAt_2 : decode cX5_byteAt 2 = .ok (.getfield 212, 3) := by decide +kernel
theorem dX5_byteAt_5 : decode cX5_byteAt 5 = .ok (.if_icmp .ge 12, 3) := by decide +kernel
theorem dX5_byteAt_8 : decode cX5_byteAt 8 = .ok (.aload_n 0, 1) := by decide +kernel
theorem dX5_byteAt_9 : decode cX5_byteAt 9 = .ok (.getfield 25, 3) := by decide +kernel
theorem dX5_byteAt_12 : decode cX5_byteAt 12 = .ok (.iload_n 1, 1) := by decide +kernel
theorem dX5_byteAt_13 : decode cX5_byteAt 13 = .ok (.iaload, 1) := by decide +kernel
theorem dX5_byteAt_14 : decode cX5_byteAt 14 = .ok (.goto 4, 3) := by decide +kernel
theorem dX5_byteAt_17 : decode cX5_byteAt 17 = .ok (.iconst (-1), 1) := by decide +kernel
theorem dX5_byteAt_18 : decode cX5_byteAt 18 = .ok (.ireturn, 1) := by decide +kernel
theorem dX5_nextToken_0 : decode cX5_nextToken 0 = .ok (.aload_n 0, 1) := by decide +kernel
theorem dX5_nextToken_1 : decode cX5_nextToken 1 = .ok (.aload_n 0, 1) := by decide +kernel
theorem dX5_nextToken_2 : decode cX5_nextToken 2 = .ok (.getfield 216, 3) := by decide +kernel
theorem dX5_nextToken_5 : decode cX5_nextToken 5 = .ok (.putfield 219, 3) := by decide +kernel
theorem dX5_nextToken_8 : decode cX5_nextToken 8 = .ok (.aload_n 0, 1) := by decide +kernel
theorem dX5_nextToken_9 : decode cX5_nextToken 9 = .ok (.aload_n 0, 1) := by decide +kernel
theorem dX5_nextToken_10 : decode cX5_nextToken 10 = .ok (.getfield 219, 3) := by decide +kernel
theorem dX5_nextToken_13 : decode cX5_nextToken 13 = .ok (.invokevirtual 222, 3) := by decide +kernel
theorem dX5_nextToken_16 : decode cX5_nextToken 16 = .ok (.bipush 32, 2) := by decide +kernel
theorem dX5_nextToken_18 : decode cX5_nextToken 18 = .ok (.if_icmp .ne 16, 3) := by decide +kernel
theorem dX5_nextToken_21 : decode cX5_nextToken 21 = .ok (.aload_n 0, 1) := by decide +kernel
theorem dX5_nextToken_22 : decode cX5_nextToken 22 = .ok (.dup, 1) := by decide +kernel
theorem dX5_nextToken_23 : decode cX5_nextToken 23 = .ok (.getfield 219, 3) := by decide +kernel
theorem dX5_nextToken_26 : decode cX5_nextToken 26 = .ok (.iconst 1, 1) := by decide +kernel
theorem dX5_nextToken_27 : decode cX5_nextToken 27 = .ok (.iadd, 1) := by decide +kernel
theorem dX5_nextToken_28 : decode cX5_nextToken 28 = .ok (.putfield 219, 3) := by decide +kernel
theorem dX5_nextToken_31 : decode cX5_nextToken 31 = .ok (.goto (-23), 3) := by decide +kernel
theorem dX5_nextToken_34 : decode cX5_nextToken 34 = .ok (.aload_n 0, 1) := by decide +kernel
theorem dX5_nextToken_35 : decode cX5_nextToken 35 = .ok (.aload_n 0, 1) := by decide +kernel
theorem dX5_nextToken_36 : decode cX5_nextToken 36 = .ok (.getfield 219, 3) := by decide +kernel
theorem dX5_nextToken_39 : decode cX5_nextToken 39 = .ok (.putfield 216, 3) := by decide +kernel
theorem dX5_nextToken_42 : decode cX5_nextToken 42 = .ok (.aload_n 0, 1) := by decide +kernel
theorem dX5_nextToken_43 : decode cX5_nextToken 43 = .ok (.aload_n 0, 1) := by decide +kernel
theorem dX5_nextToken_44 : decode cX5_nextToken 44 = .ok (.getfield 219, 3) := by decide +kernel
theorem dX5_nextToken_47 : decode cX5_nextToken 47 = .ok (.invokevirtual 222, 3) := by decide +kernel
theorem dX5_nextToken_50 : decode cX5_nextToken 50 = .ok (.istore_n 1, 1) := by decide +kernel
theorem dX5_nextToken_51 : decode cX5_nextToken 51 = .ok (.aload_n 0, 1) := by decide +kernel
theorem dX5_nextToken_52 : decode cX5_nextToken 52 = .ok (.iload_n 1, 1) := by decide +kernel
theorem dX5_nextToken_53 : decode cX5_nextToken 53 = .ok (.ifCond .ge 7, 3) := by decide +kernel
theorem dX5_nextToken_56 : decode cX5_nextToken 56 = .ok (.iconst 0, 1) := by decide +kernel
theorem dX5_nextToken_57 : decode cX5_nextToken 57 = .ok (.goto 36, 3) := by decide +kernel
theorem dX5_nextToken_60 : decode cX5_nextToken 60 = .ok (.iload_n 1, 1) := by decide +kernel
theorem dX5_nextToken_61 : decode cX5_nextToken 61 = .ok (.invokestatic 225, 3) := by decide +kernel
theorem dX5_nextToken_64 : decode cX5_nextToken 64 = .ok (.ifCond .eq 7, 3) := by decide +kernel
theorem dX5_nextToken_67 : decode cX5_nextToken 67 = .ok (.iconst 1, 1) := by decide +kernel
theorem dX5_nextToken_68 : decode cX5_nextToken 68 = .ok (.goto 25, 3) := by decide +kernel
theorem dX5_nextToken_71 : decode cX5_nextToken 71 = .ok (.iload_n 1, 1) := by decide +kernel
theorem dX5_nextToken_72 : decode cX5_nextToken 72 = .ok (.invokestatic 228, 3) := by decide +kernel
theorem dX5_nextToken_75 : decode cX5_nextToken 75 = .ok (.ifCond .eq 7, 3) := by decide +kernel
theorem dX5_nextToken_78 : decode cX5_nextToken 78 = .ok (.iconst 2, 1) := by decide +kernel
theorem dX5_nextToken_79 : decode cX5_nextToken 79 = .ok (.goto 14, 3) := by decide +kernel
theorem dX5_nextToken_82 : decode cX5_nextToken 82 = .ok (.iload_n 1, 1) := by decide +kernel
theorem dX5_nextToken_83 : decode cX5_nextToken 83 = .ok (.bipush 59, 2) := by decide +kernel
theorem dX5_nextToken_85 : decode cX5_nextToken 85 = .ok (.if_icmp .ne 7, 3) := by decide +kernel
theorem dX5_nextToken_88 : decode cX5_nextToken 88 = .ok (.iconst 3, 1) := by decide +kernel
theorem dX5_nextToken_89 : decode cX5_nextToken 89 = .ok (.goto 4, 3) := by decide +kernel
theorem dX5_nextToken_92 : decode cX5_nextToken 92 = .ok (.iconst 4, 1) := by decide +kernel
theorem dX5_nextToken_93 : decode cX5_nextToken 93 = .ok (.putfield 231, 3) := by decide +kernel
theorem dX5_nextToken_96 : decode cX5_nextToken 96 = .ok (.aload_n 0, 1) := by decide +kernel
theorem dX5_nextToken_97 : decode cX5_nextToken 97 = .ok (.iconst 0, 1) := by decide +kernel
theorem dX5_nextToken_98 : decode cX5_nextToken 98 = .ok (.putfield 234, 3) := by decide +kernel
theorem dX5_nextToken_101 : decode cX5_nextToken 101 = .ok (.aload_n 0, 1) := by decide +kernel
theorem dX5_nextToken_102 : decode cX5_nextToken 102 = .ok (.getfield 231, 3) := by decide +kernel
theorem dX5_nextToken_105 : decode cX5_nextToken 105 = .ok (.iconst 1, 1) := by decide +kernel
theorem dX5_nextToken_106 : decode cX5_nextToken 106 = .ok (.if_icmp .ne 30, 3) := by decide +kernel
theorem dX5_nextToken_109 : decode cX5_nextToken 109 = .ok (.aload_n 0, 1) := by decide +kernel
theorem dX5_nextToken_110 : decode cX5_nextToken 110 = .ok (.aload_n 0, 1) := by decide +kernel
theorem dX5_nextToken_111 : decode cX5_nextToken 111 = .ok (.getfield 216, 3) := by decide +kernel
theorem dX5_nextToken_114 : decode cX5_nextToken 114 = .ok (.invokevirtual 222, 3) := by decide +kernel
theorem dX5_nextToken_117 : decode cX5_nextToken 117 = .ok (.invokestatic 225, 3) := by decide +kernel
theorem dX5_nextToken_120 : decode cX5_nextToken 120 = .ok (.ifCond .eq 16, 3) := by decide +kernel
theorem dX5_nextToken_123 : decode cX5_nextToken 123 = .ok (.aload_n 0, 1) := by decide +kernel
theorem dX5_nextToken_124 : decode cX5_nextToken 124 = .ok (.dup, 1) := by decide +kernel
theorem dX5_nextToken_125 : decode cX5_nextToken 125 = .ok (.getfield 216, 3) := by decide +kernel
theorem dX5_nextToken_128 : decode cX5_nextToken 128 = .ok (.iconst 1, 1) := by decide +kernel
theorem dX5_nextToken_129 : decode cX5_nextToken 129 = .ok (.iadd, 1) := by decide +kernel
theorem dX5_nextToken_130 : decode cX5_nextToken 130 = .ok (.putfield 216, 3) := by decide +kernel
theorem dX5_nextToken_133 : decode cX5_nextToken 133 = .ok (.goto (-32), 3) := by decide +kernel
theorem dX5_nextToken_136 : decode cX5_nextToken 136 = .ok (.aload_n 0, 1) := by decide +kernel
theorem dX5_nextToken_137 : decode cX5_nextToken 137 = .ok (.getfield 231, 3) := by decide +kernel
theorem dX5_nextToken_140 : decode cX5_nextToken 140 = .ok (.iconst 2, 1) := by decide +kernel
theorem dX5_nextToken_141 : decode cX5_nextToken 141 = .ok (.if_icmp .ne 70, 3) := by decide +kernel
theorem dX5_nextToken_144 : decode cX5_nextToken 144 = .ok (.aload_n 0, 1) := by decide +kernel
theorem dX5_nextToken_145 : decode cX5_nextToken 145 = .ok (.aload_n 0, 1) := by decide +kernel
theorem dX5_nextToken_146 : decode cX5_nextToken 146 = .ok (.getfield 216, 3) := by decide +kernel
theorem dX5_nextToken_149 : decode cX5_nextToken 149 = .ok (.invokevirtual 222, 3) := by decide +kernel
theorem dX5_nextToken_152 : decode cX5_nextToken 152 = .ok (.invokestatic 228, 3) := by decide +kernel
theorem dX5_nextToken_155 : decode cX5_nextToken 155 = .ok (.ifCond .eq 56, 3) := by decide +kernel
theorem dX5_nextToken_158 : decode cX5_nextToken 158 = .ok (.aload_n 0, 1) := by decide +kernel
theorem dX5_nextToken_159 : decode cX5_nextToken 159 = .ok (.aload_n 0, 1) := by decide +kernel
theorem dX5_nextToken_160 : decode cX5_nextToken 160 = .ok (.getfield 234, 3) := by decide +kernel
theorem dX5_nextToken_163 : decode cX5_nextToken 163 = .ok (.sipush 999, 3) := by decide +kernel
theorem dX5_nextToken_166 : decode cX5_nextToken 166 = .ok (.if_icmp .le 10, 3) := by decide +kernel
theorem dX5_nextToken_169 : decode cX5_nextToken 169 = .ok (.aload_n 0, 1) := by decide +kernel
theorem dX5_nextToken_170 : decode cX5_nextToken 170 = .ok (.getfield 234, 3) := by decide +kernel
theorem dX5_nextToken_173 : decode cX5_nextToken 173 = .ok (.goto 22, 3) := by decide +kernel
theorem dX5_nextToken_176 : decode cX5_nextToken 176 = .ok (.bipush 10, 2) := by decide +kernel
theorem dX5_nextToken_178 : decode cX5_nextToken 178 = .ok (.aload_n 0, 1) := by decide +kernel
theorem dX5_nextToken_179 : decode cX5_nextToken 179 = .ok (.getfield 234, 3) := by decide +kernel
theorem dX5_nextToken_182 : decode cX5_nextToken 182 = .ok (.imul, 1) := by decide +kernel
theorem dX5_nextToken_183 : decode cX5_nextToken 183 = .ok (.aload_n 0, 1) := by decide +kernel
theorem dX5_nextToken_184 : decode cX5_nextToken 184 = .ok (.aload_n 0, 1) := by decide +kernel
theorem dX5_nextToken_185 : decode cX5_nextToken 185 = .ok (.getfield 216, 3) := by decide +kernel
theorem dX5_nextToken_188 : decode cX5_nextToken 188 = .ok (.invokevirtual 222, 3) := by decide +kernel
theorem dX5_nextToken_191 : decode cX5_nextToken 191 = .ok (.iadd, 1) := by decide +kernel
theorem dX5_nextToken_192 : decode cX5_nextToken 192 = .ok (.bipush 48, 2) := by decide +kernel
theorem dX5_nextToken_194 : decode cX5_nextToken 194 = .ok (.isub, 1) := by decide +kernel
theorem dX5_nextToken_195 : decode cX5_nextToken 195 = .ok (.putfield 234, 3) := by decide +kernel
theorem dX5_nextToken_198 : decode cX5_nextToken 198 = .ok (.aload_n 0, 1) := by decide +kernel
theorem dX5_nextToken_199 : decode cX5_nextToken 199 = .ok (.dup, 1) := by decide +kernel
theorem dX5_nextToken_200 : decode cX5_nextToken 200 = .ok (.getfield 216, 3) := by decide +kernel
theorem dX5_nextToken_203 : decode cX5_nextToken 203 = .ok (.iconst 1, 1) := by decide +kernel
theorem dX5_nextToken_204 : decode cX5_nextToken 204 = .ok (.iadd, 1) := by decide +kernel
theorem dX5_nextToken_205 : decode cX5_nextToken 205 = .ok (.putfield 216, 3) := by decide +kernel
theorem dX5_nextToken_208 : decode cX5_nextToken 208 = .ok (.goto (-72), 3) := by decide +kernel
theorem dX5_nextToken_211 : decode cX5_nextToken 211 = .ok (.aload_n 0, 1) := by decide +kernel
theorem dX5_nextToken_212 : decode cX5_nextToken 212 = .ok (.dup, 1) := by decide +kernel
theorem dX5_nextToken_213 : decode cX5_nextToken 213 = .ok (.getfield 216, 3) := by decide +kernel
theorem dX5_nextToken_216 : decode cX5_nextToken 216 = .ok (.aload_n 0, 1) := by decide +kernel
theorem dX5_nextToken_217 : decode cX5_nextToken 217 = .ok (.getfield 231, 3) := by decide +kernel
theorem dX5_nextToken_220 : decode cX5_nextToken 220 = .ok (.iconst 2, 1) := by decide +kernel
theorem dX5_nextToken_221 : decode cX5_nextToken 221 = .ok (.if_icmp .le 7, 3) := by decide +kernel
theorem dX5_nextToken_224 : decode cX5_nextToken 224 = .ok (.iconst 1, 1) := by decide +kernel
theorem dX5_nextToken_225 : decode cX5_nextToken 225 = .ok (.goto 4, 3) := by decide +kernel
theorem dX5_nextToken_228 : decode cX5_nextToken 228 = .ok (.iconst 0, 1) := by decide +kernel
theorem dX5_nextToken_229 : decode cX5_nextToken 229 = .ok (.iadd, 1) := by decide +kernel
theorem dX5_nextToken_230 : decode cX5_nextToken 230 = .ok (.putfield 216, 3) := by decide +kernel
theorem dX5_nextToken_233 : decode cX5_nextToken 233 = .ok (.return_, 1) := by decide +kernel
theorem dX5_has3_0 : decode cX5_has3 0 = .ok (.aload_n 0, 1) := by decide +kernel
theorem dX5_has3_1 : decode cX5_has3 1 = .ok (.aload_n 0, 1) := by decide +kernel
theorem dX5_has3_2 : decode cX5_has3 2 = .ok (.getfield 219, 3) := by decide +kernel
theorem dX5_has3_5 : decode cX5_has3 5 = .ok (.iload_n 1, 1) := by decide +kernel
theorem dX5_has3_6 : decode cX5_has3 6 = .ok (.iadd, 1) := by decide +kernel
theorem dX5_has3_7 : decode cX5_has3 7 = .ok (.invokevirtual 222, 3) := by decide +kernel
theorem dX5_has3_10 : decode cX5_has3 10 = .ok (.iload_n 2, 1) := by decide +kernel
theorem dX5_has3_11 : decode cX5_has3 11 = .ok (.if_icmp .ne 40, 3) := by decide +kernel
theorem dX5_has3_14 : decode cX5_has3 14 = .ok (.aload_n 0, 1) := by decide +kernel
theorem dX5_has3_15 : decode cX5_has3 15 = .ok (.aload_n 0, 1) := by decide +kernel
theorem dX5_has3_16 : decode cX5_has3 16 = .ok (.getfield 219, 3) := by decide +kernel
theorem dX5_has3_19 : decode cX5_has3 19 = .ok (.iload_n 1, 1) := by decide +kernel
theorem dX5_has3_20 : decode cX5_has3 20 = .ok (.iadd, 1) := by decide +kernel
theorem dX5_has3_21 : decode cX5_has3 21 = .ok (.iconst 1, 1) := by decide +kernel
theorem dX5_has3_22 : decode cX5_has3 22 = .ok (.iadd, 1) := by decide +kernel
theorem dX5_has3_23 : decode cX5_has3 23 = .ok (.invokevirtual 222, 3) := by decide +kernel
theorem dX5_has3_26 : decode cX5_has3 26 = .ok (.iload_n 3, 1) := by decide +kernel
theorem dX5_has3_27 : decode cX5_has3 27 = .ok (.if_icmp .ne 24, 3) := by decide +kernel
theorem dX5_has3_30 : decode cX5_has3 30 = .ok (.aload_n 0, 1) := by decide +kernel
theorem dX5_has3_31 : decode cX5_has3 31 = .ok (.aload_n 0, 1) := by decide +kernel
theorem dX5_has3_32 : decode cX5_has3 32 = .ok (.getfield 219, 3) := by decide +kernel
theorem dX5_has3_35 : decode cX5_has3 35 = .ok (.iload_n 1, 1) := by decide +kernel
theorem dX5_has3_36 : decode cX5_has3 36 = .ok (.iadd, 1) := by decide +kernel
theorem dX5_has3_37 : decode cX5_has3 37 = .ok (.iconst 2, 1) := by decide +kernel
theorem dX5_has3_38 : decode cX5_has3 38 = .ok (.iadd, 1) := by decide +kernel
theorem dX5_has3_39 : decode cX5_has3 39 = .ok (.invokevirtual 222, 3) := by decide +kernel
theorem dX5_has3_42 : decode cX5_has3 42 = .ok (.iload 4, 2) := by decide +kernel
theorem dX5_has3_44 : decode cX5_has3 44 = .ok (.if_icmp .ne 7, 3) := by decide +kernel
theorem dX5_has3_47 : decode cX5_has3 47 = .ok (.iconst 1, 1) := by decide +kernel
theorem dX5_has3_48 : decode cX5_has3 48 = .ok (.goto 4, 3) := by decide +kernel
theorem dX5_has3_51 : decode cX5_has3 51 = .ok (.iconst 0, 1) := by decide +kernel
theorem dX5_has3_52 : decode cX5_has3 52 = .ok (.ireturn, 1) := by decide +kernel
theorem dX5_isWord_0 : decode cX5_isWord 0 = .ok (.aload_n 0, 1) := by decide +kernel
theorem dX5_isWord_1 : decode cX5_isWord 1 = .ok (.getfield 231, 3) := by decide +kernel
theorem dX5_isWord_4 : decode cX5_isWord 4 = .ok (.iconst 1, 1) := by decide +kernel
theorem dX5_isWord_5 : decode cX5_isWord 5 = .ok (.if_icmp .ne 20, 3) := by decide +kernel
theorem dX5_isWord_8 : decode cX5_isWord 8 = .ok (.aload_n 0, 1) := by decide +kernel
theorem dX5_isWord_9 : decode cX5_isWord 9 = .ok (.getfield 216, 3) := by decide +kernel
theorem dX5_isWord_12 : decode cX5_isWord 12 = .ok (.aload_n 0, 1) := by decide +kernel
theorem dX5_isWord_13 : decode cX5_isWord 13 = .ok (.getfield 219, 3) := by decide +kernel
theorem dX5_isWord_16 : decode cX5_isWord 16 = .ok (.isub, 1) := by decide +kernel
theorem dX5_isWord_17 : decode cX5_isWord 17 = .ok (.iload_n 1, 1) := by decide +kernel
theorem dX5_isWord_18 : decode cX5_isWord 18 = .ok (.if_icmp .ne 7, 3) := by decide +kernel
theorem dX5_isWord_21 : decode cX5_isWord 21 = .ok (.iconst 1, 1) := by decide +kernel
theorem dX5_isWord_22 : decode cX5_isWord 22 = .ok (.goto 4, 3) := by decide +kernel
theorem dX5_isWord_25 : decode cX5_isWord 25 = .ok (.iconst 0, 1) := by decide +kernel
theorem dX5_isWord_26 : decode cX5_isWord 26 = .ok (.ireturn, 1) := by decide +kernel
theorem dX5_fails_0 : decode cX5_fails 0 = .ok (.aload_n 0, 1) := by decide +kernel
theorem dX5_fails_1 : decode cX5_fails 1 = .ok (.aload_n 0, 1) := by decide +kernel
theorem dX5_fails_2 : decode cX5_fails 2 = .ok (.getfield 219, 3) := by decide +kernel
theorem dX5_fails_5 : decode cX5_fails 5 = .ok (.putfield 237, 3) := by decide +kernel
theorem dX5_fails_8 : decode cX5_fails 8 = .ok (.iconst 0, 1) := by decide +kernel
theorem dX5_fails_9 : decode cX5_fails 9 = .ok (.ireturn, 1) := by decide +kernel
theorem dX5_isFour_0 : decode cX5_isFour 0 = .ok (.aload_n 0, 1) := by decide +kernel
theorem dX5_isFour_1 : decode cX5_isFour 1 = .ok (.iconst 4, 1) := by decide +kernel
theorem dX5_isFour_2 : decode cX5_isFour 2 = .ok (.invokevirtual 240, 3) := by decide +kernel
theorem dX5_isFour_5 : decode cX5_isFour 5 = .ok (.ifCond .eq 30, 3) := by decide +kernel
theorem dX5_isFour_8 : decode cX5_isFour 8 = .ok (.aload_n 0, 1) := by decide +kernel
theorem dX5_isFour_9 : decode cX5_isFour 9 = .ok (.iconst 0, 1) := by decide +kernel
theorem dX5_isFour_10 : decode cX5_isFour 10 = .ok (.iload_n 1, 1) := by decide +kernel
theorem dX5_isFour_11 : decode cX5_isFour 11 = .ok (.iload_n 2, 1) := by decide +kernel
theorem dX5_isFour_12 : decode cX5_isFour 12 = .ok (.iload_n 3, 1) := by decide +kernel
theorem dX5_isFour_13 : decode cX5_isFour 13 = .ok (.invokevirtual 243, 3) := by decide +kernel
theorem dX5_isFour_16 : decode cX5_isFour 16 = .ok (.ifCond .eq 19, 3) := by decide +kernel
theorem dX5_isFour_19 : decode cX5_isFour 19 = .ok (.aload_n 0, 1) := by decide +kernel
theorem dX5_isFour_20 : decode cX5_isFour 20 = .ok (.iconst 1, 1) := by decide +kernel
theorem dX5_isFour_21 : decode cX5_isFour 21 = .ok (.iload_n 2, 1) := by decide +kernel
theorem dX5_isFour_22 : decode cX5_isFour 22 = .ok (.iload_n 3, 1) := by decide +kernel
theorem dX5_isFour_23 : decode cX5_isFour 23 = .ok (.iload 4, 2) := by decide +kernel
theorem dX5_isFour_25 : decode cX5_isFour 25 = .ok (.invokevirtual 243, 3) := by decide +kernel
theorem dX5_isFour_28 : decode cX5_isFour 28 = .ok (.ifCond .eq 7, 3) := by decide +kernel
theorem dX5_isFour_31 : decode cX5_isFour 31 = .ok (.iconst 1, 1) := by decide +kernel
theorem dX5_isFour_32 : decode cX5_isFour 32 = .ok (.goto 4, 3) := by decide +kernel
theorem dX5_isFour_35 : decode cX5_isFour 35 = .ok (.iconst 0, 1) := by decide +kernel
theorem dX5_isFour_36 : decode cX5_isFour 36 = .ok (.ireturn, 1) := by decide +kernel
theorem dX5_isFive_0 : decode cX5_isFive 0 = .ok (.aload_n 0, 1) := by decide +kernel
theorem dX5_isFive_1 : decode cX5_isFive 1 = .ok (.iconst 5, 1) := by decide +kernel
theorem dX5_isFive_2 : decode cX5_isFive 2 = .ok (.invokevirtual 240, 3) := by decide +kernel
theorem dX5_isFive_5 : decode cX5_isFive 5 = .ok (.ifCond .eq 31, 3) := by decide +kernel
theorem dX5_isFive_8 : decode cX5_isFive 8 = .ok (.aload_n 0, 1) := by decide +kernel
theorem dX5_isFive_9 : decode cX5_isFive 9 = .ok (.iconst 0, 1) := by decide +kernel
theorem dX5_isFive_10 : decode cX5_isFive 10 = .ok (.iload_n 1, 1) := by decide +kernel
theorem dX5_isFive_11 : decode cX5_isFive 11 = .ok (.iload_n 2, 1) := by decide +kernel
theorem dX5_isFive_12 : decode cX5_isFive 12 = .ok (.iload_n 3, 1) := by decide +kernel
theorem dX5_isFive_13 : decode cX5_isFive 13 = .ok (.invokevirtual 243, 3) := by decide +kernel
theorem dX5_isFive_16 : decode cX5_isFive 16 = .ok (.ifCond .eq 20, 3) := by decide +kernel
theorem dX5_isFive_19 : decode cX5_isFive 19 = .ok (.aload_n 0, 1) := by decide +kernel
theorem dX5_isFive_20 : decode cX5_isFive 20 = .ok (.iconst 2, 1) := by decide +kernel
theorem dX5_isFive_21 : decode cX5_isFive 21 = .ok (.iload_n 3, 1) := by decide +kernel
theorem dX5_isFive_22 : decode cX5_isFive 22 = .ok (.iload 4, 2) := by decide +kernel
theorem dX5_isFive_24 : decode cX5_isFive 24 = .ok (.iload 5, 2) := by decide +kernel
theorem dX5_isFive_26 : decode cX5_isFive 26 = .ok (.invokevirtual 243, 3) := by decide +kernel
theorem dX5_isFive_29 : decode cX5_isFive 29 = .ok (.ifCond .eq 7, 3) := by decide +kernel
theorem dX5_isFive_32 : decode cX5_isFive 32 = .ok (.iconst 1, 1) := by decide +kernel
theorem dX5_isFive_33 : decode cX5_isFive 33 = .ok (.goto 4, 3) := by decide +kernel
theorem dX5_isFive_36 : decode cX5_isFive 36 = .ok (.iconst 0, 1) := by decide +kernel
theorem dX5_isFive_37 : decode cX5_isFive 37 = .ok (.ireturn, 1) := by decide +kernel
theorem dX5_isSix_0 : decode cX5_isSix 0 = .ok (.aload_n 0, 1) := by decide +kernel
theorem dX5_isSix_1 : decode cX5_isSix 1 = .ok (.bipush 6, 2) := by decide +kernel
theorem dX5_isSix_3 : decode cX5_isSix 3 = .ok (.invokevirtual 240, 3) := by decide +kernel
theorem dX5_isSix_6 : decode cX5_isSix 6 = .ok (.ifCond .eq 32, 3) := by decide +kernel
theorem dX5_isSix_9 : decode cX5_isSix 9 = .ok (.aload_n 0, 1) := by decide +kernel
theorem dX5_isSix_10 : decode cX5_isSix 10 = .ok (.iconst 0, 1) := by decide +kernel
theorem dX5_isSix_11 : decode cX5_isSix 11 = .ok (.iload_n 1, 1) := by decide +kernel
theorem dX5_isSix_12 : decode cX5_isSix 12 = .ok (.iload_n 2, 1) := by decide +kernel
theorem dX5_isSix_13 : decode cX5_isSix 13 = .ok (.iload_n 3, 1) := by decide +kernel
theorem dX5_isSix_14 : decode cX5_isSix 14 = .ok (.invokevirtual 243, 3) := by decide +kernel
theorem dX5_isSix_17 : decode cX5_isSix 17 = .ok (.ifCond .eq 21, 3) := by decide +kernel
theorem dX5_isSix_20 : decode cX5_isSix 20 = .ok (.aload_n 0, 1) := by decide +kernel
theorem dX5_isSix_21 : decode cX5_isSix 21 = .ok (.iconst 3, 1) := by decide +kernel
theorem dX5_isSix_22 : decode cX5_isSix 22 = .ok (.iload 4, 2) := by decide +kernel
theorem dX5_isSix_24 : decode cX5_isSix 24 = .ok (.iload 5, 2) := by decide +kernel
theorem dX5_isSix_26 : decode cX5_isSix 26 = .ok (.iload 6, 2) := by decide +kernel
theorem dX5_isSix_28 : decode cX5_isSix 28 = .ok (.invokevirtual 243, 3) := by decide +kernel
theorem dX5_isSix_31 : decode cX5_isSix 31 = .ok (.ifCond .eq 7, 3) := by decide +kernel
theorem dX5_isSix_34 : decode cX5_isSix 34 = .ok (.iconst 1, 1) := by decide +kernel
theorem dX5_isSix_35 : decode cX5_isSix 35 = .ok (.goto 4, 3) := by decide +kernel
theorem dX5_isSix_38 : decode cX5_isSix 38 = .ok (.iconst 0, 1) := by decide +kernel
theorem dX5_isSix_39 : decode cX5_isSix 39 = .ok (.ireturn, 1) := by decide +kernel
theorem dX5_isNumber_0 : decode cX5_isNumber 0 = .ok (.aload_n 0, 1) := by decide +kernel
theorem dX5_isNumber_1 : decode cX5_isNumber 1 = .ok (.getfield 231, 3) := by decide +kernel
theorem dX5_isNumber_4 : decode cX5_isNumber 4 = .ok (.iconst 2, 1) := by decide +kernel
theorem dX5_isNumber_5 : decode cX5_isNumber 5 = .ok (.if_icmp .ne 18, 3) := by decide +kernel
theorem dX5_isNumber_8 : decode cX5_isNumber 8 = .ok (.aload_n 0, 1) := by decide +kernel
theorem dX5_isNumber_9 : decode cX5_isNumber 9 = .ok (.getfield 234, 3) := by decide +kernel
theorem dX5_isNumber_12 : decode cX5_isNumber 12 = .ok (.i2l, 1) := by decide +kernel
theorem dX5_isNumber_13 : decode cX5_isNumber 13 = .ok (.iload_n 1, 1) := by decide +kernel
theorem dX5_isNumber_14 : decode cX5_isNumber 14 = .ok (.i2l, 1) := by decide +kernel
theorem dX5_isNumber_15 : decode cX5_isNumber 15 = .ok (.iload_n 2, 1) := by decide +kernel
theorem dX5_isNumber_16 : decode cX5_isNumber 16 = .ok (.i2l, 1) := by decide +kernel
theorem dX5_isNumber_17 : decode cX5_isNumber 17 = .ok (.invokestatic 56, 3) := by decide +kernel
theorem dX5_isNumber_20 : decode cX5_isNumber 20 = .ok (.ifCond .ne 10, 3) := by decide +kernel
theorem dX5_isNumber_23 : decode cX5_isNumber 23 = .ok (.aload_n 0, 1) := by decide +kernel
theorem dX5_isNumber_24 : decode cX5_isNumber 24 = .ok (.invokevirtual 247, 3) := by decide +kernel
theorem dX5_isNumber_27 : decode cX5_isNumber 27 = .ok (.ifCond .eq 7, 3) := by decide +kernel
theorem dX5_isNumber_30 : decode cX5_isNumber 30 = .ok (.iconst 1, 1) := by decide +kernel
theorem dX5_isNumber_31 : decode cX5_isNumber 31 = .ok (.goto 4, 3) := by decide +kernel
theorem dX5_isNumber_34 : decode cX5_isNumber 34 = .ok (.iconst 0, 1) := by decide +kernel
theorem dX5_isNumber_35 : decode cX5_isNumber 35 = .ok (.ireturn, 1) := by decide +kernel
theorem dX5_kindHere_0 : decode cX5_kindHere 0 = .ok (.aload_n 0, 1) := by decide +kernel
theorem dX5_kindHere_1 : decode cX5_kindHere 1 = .ok (.bipush 109, 2) := by decide +kernel
theorem dX5_kindHere_3 : decode cX5_kindHere 3 = .ok (.bipush 111, 2) := by decide +kernel
theorem dX5_kindHere_5 : decode cX5_kindHere 5 = .ok (.bipush 116, 2) := by decide +kernel
theorem dX5_kindHere_7 : decode cX5_kindHere 7 = .ok (.bipush 104, 2) := by decide +kernel
theorem dX5_kindHere_9 : decode cX5_kindHere 9 = .ok (.invokevirtual 250, 3) := by decide +kernel
theorem dX5_kindHere_12 : decode cX5_kindHere 12 = .ok (.ifCond .eq 5, 3) := by decide +kernel
theorem dX5_kindHere_15 : decode cX5_kindHere 15 = .ok (.iconst 0, 1) := by decide +kernel
theorem dX5_kindHere_16 : decode cX5_kindHere 16 = .ok (.ireturn, 1) := by decide +kernel
theorem dX5_kindHere_17 : decode cX5_kindHere 17 = .ok (.aload_n 0, 1) := by decide +kernel
theorem dX5_kindHere_18 : decode cX5_kindHere 18 = .ok (.bipush 108, 2) := by decide +kernel
theorem dX5_kindHere_20 : decode cX5_kindHere 20 = .ok (.bipush 97, 2) := by decide +kernel
theorem dX5_kindHere_22 : decode cX5_kindHere 22 = .ok (.bipush 114, 2) := by decide +kernel
theorem dX5_kindHere_24 : decode cX5_kindHere 24 = .ok (.bipush 118, 2) := by decide +kernel
theorem dX5_kindHere_26 : decode cX5_kindHere 26 = .ok (.bipush 97, 2) := by decide +kernel
theorem dX5_kindHere_28 : decode cX5_kindHere 28 = .ok (.invokevirtual 253, 3) := by decide +kernel
theorem dX5_kindHere_31 : decode cX5_kindHere 31 = .ok (.ifCond .eq 5, 3) := by decide +kernel
theorem dX5_kindHere_34 : decode cX5_kindHere 34 = .ok (.iconst 1, 1) := by decide +kernel
theorem dX5_kindHere_35 : decode cX5_kindHere 35 = .ok (.ireturn, 1) := by decide +kernel
theorem dX5_kindHere_36 : decode cX5_kindHere 36 = .ok (.aload_n 0, 1) := by decide +kernel
theorem dX5_kindHere_37 : decode cX5_kindHere 37 = .ok (.bipush 115, 2) := by decide +kernel
theorem dX5_kindHere_39 : decode cX5_kindHere 39 = .ok (.bipush 105, 2) := by decide +kernel
theorem dX5_kindHere_41 : decode cX5_kindHere 41 = .ok (.bipush 108, 2) := by decide +kernel
theorem dX5_kindHere_43 : decode cX5_kindHere 43 = .ok (.bipush 118, 2) := by decide +kernel
theorem dX5_kindHere_45 : decode cX5_kindHere 45 = .ok (.bipush 101, 2) := by decide +kernel
theorem dX5_kindHere_47 : decode cX5_kindHere 47 = .ok (.bipush 114, 2) := by decide +kernel
theorem dX5_kindHere_49 : decode cX5_kindHere 49 = .ok (.invokevirtual 257, 3) := by decide +kernel
theorem dX5_kindHere_52 : decode cX5_kindHere 52 = .ok (.ifCond .eq 5, 3) := by decide +kernel
theorem dX5_kindHere_55 : decode cX5_kindHere 55 = .ok (.iconst 2, 1) := by decide +kernel
theorem dX5_kindHere_56 : decode cX5_kindHere 56 = .ok (.ireturn, 1) := by decide +kernel
theorem dX5_kindHere_57 : decode cX5_kindHere 57 = .ok (.aload_n 0, 1) := by decide +kernel
theorem dX5_kindHere_58 : decode cX5_kindHere 58 = .ok (.bipush 7, 2) := by decide +kernel
theorem dX5_kindHere_60 : decode cX5_kindHere 60 = .ok (.invokevirtual 240, 3) := by decide +kernel
theorem dX5_kindHere_63 : decode cX5_kindHere 63 = .ok (.ifCond .eq 47, 3) := by decide +kernel
theorem dX5_kindHere_66 : decode cX5_kindHere 66 = .ok (.aload_n 0, 1) := by decide +kernel
theorem dX5_kindHere_67 : decode cX5_kindHere 67 = .ok (.iconst 0, 1) := by decide +kernel
theorem dX5_kindHere_68 : decode cX5_kindHere 68 = .ok (.bipush 115, 2) := by decide +kernel
theorem dX5_kindHere_70 : decode cX5_kindHere 70 = .ok (.bipush 99, 2) := by decide +kernel
theorem dX5_kindHere_72 : decode cX5_kindHere 72 = .ok (.bipush 104, 2) := by decide +kernel
theorem dX5_kindHere_74 : decode cX5_kindHere 74 = .ok (.invokevirtual 243, 3) := by decide +kernel
theorem dX5_kindHere_77 : decode cX5_kindHere 77 = .ok (.ifCond .eq 33, 3) := by decide +kernel
theorem dX5_kindHere_80 : decode cX5_kindHere 80 = .ok (.aload_n 0, 1) := by decide +kernel
theorem dX5_kindHere_81 : decode cX5_kindHere 81 = .ok (.iconst 3, 1) := by decide +kernel
theorem dX5_kindHere_82 : decode cX5_kindHere 82 = .ok (.bipush 111, 2) := by decide +kernel
theorem dX5_kindHere_84 : decode cX5_kindHere 84 = .ok (.bipush 108, 2) := by decide +kernel
theorem dX5_kindHere_86 : decode cX5_kindHere 86 = .ok (.bipush 97, 2) := by decide +kernel
theorem dX5_kindHere_88 : decode cX5_kindHere 88 = .ok (.invokevirtual 243, 3) := by decide +kernel
theorem dX5_kindHere_91 : decode cX5_kindHere 91 = .ok (.ifCond .eq 19, 3) := by decide +kernel
theorem dX5_kindHere_94 : decode cX5_kindHere 94 = .ok (.aload_n 0, 1) := by decide +kernel
theorem dX5_kindHere_95 : decode cX5_kindHere 95 = .ok (.iconst 4, 1) := by decide +kernel
theorem dX5_kindHere_96 : decode cX5_kindHere 96 = .ok (.bipush 108, 2) := by decide +kernel
theorem dX5_kindHere_98 : decode cX5_kindHere 98 = .ok (.bipush 97, 2) := by decide +kernel
theorem dX5_kindHere_100 : decode cX5_kindHere 100 = .ok (.bipush 114, 2) := by decide +kernel
theorem dX5_kindHere_102 : decode cX5_kindHere 102 = .ok (.invokevirtual 243, 3) := by decide +kernel
theorem dX5_kindHere_105 : decode cX5_kindHere 105 = .ok (.ifCond .eq 5, 3) := by decide +kernel
theorem dX5_kindHere_108 : decode cX5_kindHere 108 = .ok (.iconst 3, 1) := by decide +kernel
theorem dX5_kindHere_109 : decode cX5_kindHere 109 = .ok (.ireturn, 1) := by decide +kernel
theorem dX5_kindHere_110 : decode cX5_kindHere 110 = .ok (.aload_n 0, 1) := by decide +kernel
theorem dX5_kindHere_111 : decode cX5_kindHere 111 = .ok (.bipush 98, 2) := by decide +kernel
theorem dX5_kindHere_113 : decode cX5_kindHere 113 = .ok (.bipush 105, 2) := by decide +kernel
theorem dX5_kindHere_115 : decode cX5_kindHere 115 = .ok (.bipush 115, 2) := by decide +kernel
theorem dX5_kindHere_117 : decode cX5_kindHere 117 = .ok (.bipush 104, 2) := by decide +kernel
theorem dX5_kindHere_119 : decode cX5_kindHere 119 = .ok (.bipush 111, 2) := by decide +kernel
theorem dX5_kindHere_121 : decode cX5_kindHere 121 = .ok (.bipush 112, 2) := by decide +kernel
theorem dX5_kindHere_123 : decode cX5_kindHere 123 = .ok (.invokevirtual 257, 3) := by decide +kernel
theorem dX5_kindHere_126 : decode cX5_kindHere 126 = .ok (.ifCond .eq 5, 3) := by decide +kernel
theorem dX5_kindHere_129 : decode cX5_kindHere 129 = .ok (.iconst 4, 1) := by decide +kernel
theorem dX5_kindHere_130 : decode cX5_kindHere 130 = .ok (.ireturn, 1) := by decide +kernel
theorem dX5_kindHere_131 : decode cX5_kindHere 131 = .ok (.aload_n 0, 1) := by decide +kernel
theorem dX5_kindHere_132 : decode cX5_kindHere 132 = .ok (.iconst 3, 1) := by decide +kernel
theorem dX5_kindHere_133 : decode cX5_kindHere 133 = .ok (.invokevirtual 240, 3) := by decide +kernel
theorem dX5_kindHere_136 : decode cX5_kindHere 136 = .ok (.ifCond .eq 19, 3) := by decide +kernel
theorem dX5_kindHere_139 : decode cX5_kindHere 139 = .ok (.aload_n 0, 1) := by decide +kernel
theorem dX5_kindHere_140 : decode cX5_kindHere 140 = .ok (.iconst 0, 1) := by decide +kernel
theorem dX5_kindHere_141 : decode cX5_kindHere 141 = .ok (.bipush 111, 2) := by decide +kernel
theorem dX5_kindHere_143 : decode cX5_kindHere 143 = .ok (.bipush 108, 2) := by decide +kernel
theorem dX5_kindHere_145 : decode cX5_kindHere 145 = .ok (.bipush 100, 2) := by decide +kernel
theorem dX5_kindHere_147 : decode cX5_kindHere 147 = .ok (.invokevirtual 243, 3) := by decide +kernel
theorem dX5_kindHere_150 : decode cX5_kindHere 150 = .ok (.ifCond .eq 5, 3) := by decide +kernel
theorem dX5_kindHere_153 : decode cX5_kindHere 153 = .ok (.iconst 5, 1) := by decide +kernel
theorem dX5_kindHere_154 : decode cX5_kindHere 154 = .ok (.ireturn, 1) := by decide +kernel
theorem dX5_kindHere_155 : decode cX5_kindHere 155 = .ok (.aload_n 0, 1) := by decide +kernel
theorem dX5_kindHere_156 : decode cX5_kindHere 156 = .ok (.bipush 103, 2) := by decide +kernel
theorem dX5_kindHere_158 : decode cX5_kindHere 158 = .ok (.bipush 114, 2) := by decide +kernel
theorem dX5_kindHere_160 : decode cX5_kindHere 160 = .ok (.bipush 117, 2) := by decide +kernel
theorem dX5_kindHere_162 : decode cX5_kindHere 162 = .ok (.bipush 98, 2) := by decide +kernel
theorem dX5_kindHere_164 : decode cX5_kindHere 164 = .ok (.invokevirtual 250, 3) := by decide +kernel
theorem dX5_kindHere_167 : decode cX5_kindHere 167 = .ok (.ifCond .eq 8, 3) := by decide +kernel
theorem dX5_kindHere_170 : decode cX5_kindHere 170 = .ok (.bipush 6, 2) := by decide +kernel
theorem dX5_kindHere_172 : decode cX5_kindHere 172 = .ok (.goto 4, 3) := by decide +kernel
theorem dX5_kindHere_175 : decode cX5_kindHere 175 = .ok (.iconst (-1), 1) := by decide +kernel
theorem dX5_kindHere_176 : decode cX5_kindHere 176 = .ok (.ireturn, 1) := by decide +kernel
theorem dX5_isTwo_0 : decode cX5_isTwo 0 = .ok (.aload_n 0, 1) := by decide +kernel
theorem dX5_isTwo_1 : decode cX5_isTwo 1 = .ok (.iconst 2, 1) := by decide +kernel
theorem dX5_isTwo_2 : decode cX5_isTwo 2 = .ok (.invokevirtual 240, 3) := by decide +kernel
theorem dX5_isTwo_5 : decode cX5_isTwo 5 = .ok (.ifCond .eq 33, 3) := by decide +kernel
theorem dX5_isTwo_8 : decode cX5_isTwo 8 = .ok (.aload_n 0, 1) := by decide +kernel
theorem dX5_isTwo_9 : decode cX5_isTwo 9 = .ok (.aload_n 0, 1) := by decide +kernel
theorem dX5_isTwo_10 : decode cX5_isTwo 10 = .ok (.getfield 219, 3) := by decide +kernel
theorem dX5_isTwo_13 : decode cX5_isTwo 13 = .ok (.invokevirtual 222, 3) := by decide +kernel
theorem dX5_isTwo_16 : decode cX5_isTwo 16 = .ok (.iload_n 1, 1) := by decide +kernel
theorem dX5_isTwo_17 : decode cX5_isTwo 17 = .ok (.if_icmp .ne 21, 3) := by decide +kernel
theorem dX5_isTwo_20 : decode cX5_isTwo 20 = .ok (.aload_n 0, 1) := by decide +kernel
theorem dX5_isTwo_21 : decode cX5_isTwo 21 = .ok (.aload_n 0, 1) := by decide +kernel
theorem dX5_isTwo_22 : decode cX5_isTwo 22 = .ok (.getfield 219, 3) := by decide +kernel
theorem dX5_isTwo_25 : decode cX5_isTwo 25 = .ok (.iconst 1, 1) := by decide +kernel
theorem dX5_isTwo_26 : decode cX5_isTwo 26 = .ok (.iadd, 1) := by decide +kernel
theorem dX5_isTwo_27 : decode cX5_isTwo 27 = .ok (.invokevirtual 222, 3) := by decide +kernel
theorem dX5_isTwo_30 : decode cX5_isTwo 30 = .ok (.iload_n 2, 1) := by decide +kernel
theorem dX5_isTwo_31 : decode cX5_isTwo 31 = .ok (.if_icmp .ne 7, 3) := by decide +kernel
theorem dX5_isTwo_34 : decode cX5_isTwo 34 = .ok (.iconst 1, 1) := by decide +kernel
theorem dX5_isTwo_35 : decode cX5_isTwo 35 = .ok (.goto 4, 3) := by decide +kernel
theorem dX5_isTwo_38 : decode cX5_isTwo 38 = .ok (.iconst 0, 1) := by decide +kernel
theorem dX5_isTwo_39 : decode cX5_isTwo 39 = .ok (.ireturn, 1) := by decide +kernel
theorem dX5_perhaps_0 : decode cX5_perhaps 0 = .ok (.iload_n 1, 1) := by decide +kernel
theorem dX5_perhaps_1 : decode cX5_perhaps 1 = .ok (.ifCond .ne 5, 3) := by decide +kernel
theorem dX5_perhaps_4 : decode cX5_perhaps 4 = .ok (.iconst 1, 1) := by decide +kernel
theorem dX5_perhaps_5 : decode cX5_perhaps 5 = .ok (.ireturn, 1) := by decide +kernel
theorem dX5_perhaps_6 : decode cX5_perhaps 6 = .ok (.aload_n 0, 1) := by decide +kernel
theorem dX5_perhaps_7 : decode cX5_perhaps 7 = .ok (.invokevirtual 261, 3) := by decide +kernel
theorem dX5_perhaps_10 : decode cX5_perhaps 10 = .ok (.aload_n 0, 1) := by decide +kernel
theorem dX5_perhaps_11 : decode cX5_perhaps 11 = .ok (.iload_n 3, 1) := by decide +kernel
theorem dX5_perhaps_12 : decode cX5_perhaps 12 = .ok (.iload 4, 2) := by decide +kernel
theorem dX5_perhaps_14 : decode cX5_perhaps 14 = .ok (.invokevirtual 264, 3) := by decide +kernel
theorem dX5_perhaps_17 : decode cX5_perhaps 17 = .ok (.ifCond .ne 5, 3) := by decide +kernel
theorem dX5_perhaps_20 : decode cX5_perhaps 20 = .ok (.iconst 0, 1) := by decide +kernel
theorem dX5_perhaps_21 : decode cX5_perhaps 21 = .ok (.ireturn, 1) := by decide +kernel
theorem dX5_perhaps_22 : decode cX5_perhaps 22 = .ok (.aload_n 0, 1) := by decide +kernel
theorem dX5_perhaps_23 : decode cX5_perhaps 23 = .ok (.getfield 7, 3) := by decide +kernel
theorem dX5_perhaps_26 : decode cX5_perhaps 26 = .ok (.aload_n 0, 1) := by decide +kernel
theorem dX5_perhaps_27 : decode cX5_perhaps 27 = .ok (.getfield 7, 3) := by decide +kernel
theorem dX5_perhaps_30 : decode cX5_perhaps 30 = .ok (.iconst 0, 1) := by decide +kernel
theorem dX5_perhaps_31 : decode cX5_perhaps 31 = .ok (.iaload, 1) := by decide +kernel
theorem dX5_perhaps_32 : decode cX5_perhaps 32 = .ok (.iconst 1, 1) := by decide +kernel
theorem dX5_perhaps_33 : decode cX5_perhaps 33 = .ok (.isub, 1) := by decide +kernel
theorem dX5_perhaps_34 : decode cX5_perhaps 34 = .ok (.iload_n 2, 1) := by decide +kernel
theorem dX5_perhaps_35 : decode cX5_perhaps 35 = .ok (.invokestatic 84, 3) := by decide +kernel
theorem dX5_perhaps_38 : decode cX5_perhaps 38 = .ok (.aload_n 0, 1) := by decide +kernel
theorem dX5_perhaps_39 : decode cX5_perhaps 39 = .ok (.getfield 234, 3) := by decide +kernel
theorem dX5_perhaps_42 : decode cX5_perhaps 42 = .ok (.iastore, 1) := by decide +kernel
theorem dX5_perhaps_43 : decode cX5_perhaps 43 = .ok (.aload_n 0, 1) := by decide +kernel
theorem dX5_perhaps_44 : decode cX5_perhaps 44 = .ok (.invokevirtual 261, 3) := by decide +kernel
theorem dX5_perhaps_47 : decode cX5_perhaps 47 = .ok (.iconst 1, 1) := by decide +kernel
theorem dX5_perhaps_48 : decode cX5_perhaps 48 = .ok (.ireturn, 1) := by decide +kernel
theorem dX5_mothHere_0 : decode cX5_mothHere 0 = .ok (.aload_n 0, 1) := by decide +kernel
theorem dX5_mothHere_1 : decode cX5_mothHere 1 = .ok (.getfield 7, 3) := by decide +kernel
theorem dX5_mothHere_4 : decode cX5_mothHere 4 = .ok (.iconst 0, 1) := by decide +kernel
theorem dX5_mothHere_5 : decode cX5_mothHere 5 = .ok (.iaload, 1) := by decide +kernel
theorem dX5_mothHere_6 : decode cX5_mothHere 6 = .ok (.bipush 8, 2) := by decide +kernel
theorem dX5_mothHere_8 : decode cX5_mothHere 8 = .ok (.if_icmp .ne 8, 3) := by decide +kernel
theorem dX5_mothHere_11 : decode cX5_mothHere 11 = .ok (.aload_n 0, 1) := by decide +kernel
theorem dX5_mothHere_12 : decode cX5_mothHere 12 = .ok (.invokevirtual 247, 3) := by decide +kernel
theorem dX5_mothHere_15 : decode cX5_mothHere 15 = .ok (.ireturn, 1) := by decide +kernel
theorem dX5_mothHere_16 : decode cX5_mothHere 16 = .ok (.aload_n 0, 1) := by decide +kernel
theorem dX5_mothHere_17 : decode cX5_mothHere 17 = .ok (.iload_n 1, 1) := by decide +kernel
theorem dX5_mothHere_18 : decode cX5_mothHere 18 = .ok (.iconst 0, 1) := by decide +kernel
theorem dX5_mothHere_19 : decode cX5_mothHere 19 = .ok (.invokevirtual 90, 3) := by decide +kernel
theorem dX5_mothHere_22 : decode cX5_mothHere 22 = .ok (.aload_n 0, 1) := by decide +kernel
theorem dX5_mothHere_23 : decode cX5_mothHere 23 = .ok (.invokevirtual 261, 3) := by decide +kernel
theorem dX5_mothHere_26 : decode cX5_mothHere 26 = .ok (.aload_n 0, 1) := by decide +kernel
theorem dX5_mothHere_27 : decode cX5_mothHere 27 = .ok (.aload_n 0, 1) := by decide +kernel
theorem dX5_mothHere_28 : decode cX5_mothHere 28 = .ok (.bipush 111, 2) := by decide +kernel
theorem dX5_mothHere_30 : decode cX5_mothHere 30 = .ok (.bipush 110, 2) := by decide +kernel
theorem dX5_mothHere_32 : decode cX5_mothHere 32 = .ok (.invokevirtual 267, 3) := by decide +kernel
theorem dX5_mothHere_35 : decode cX5_mothHere 35 = .ok (.iconst 1, 1) := by decide +kernel
theorem dX5_mothHere_36 : decode cX5_mothHere 36 = .ok (.iconst 0, 1) := by decide +kernel
theorem dX5_mothHere_37 : decode cX5_mothHere 37 = .ok (.iconst 5, 1) := by decide +kernel
theorem dX5_mothHere_38 : decode cX5_mothHere 38 = .ok (.invokevirtual 270, 3) := by decide +kernel
theorem dX5_mothHere_41 : decode cX5_mothHere 41 = .ok (.ifCond .eq 71, 3) := by decide +kernel
theorem dX5_mothHere_44 : decode cX5_mothHere 44 = .ok (.aload_n 0, 1) := by decide +kernel
theorem dX5_mothHere_45 : decode cX5_mothHere 45 = .ok (.aload_n 0, 1) := by decide +kernel
theorem dX5_mothHere_46 : decode cX5_mothHere 46 = .ok (.bipush 116, 2) := by decide +kernel
theorem dX5_mothHere_48 : decode cX5_mothHere 48 = .ok (.bipush 97, 2) := by decide +kernel
theorem dX5_mothHere_50 : decode cX5_mothHere 50 = .ok (.bipush 115, 2) := by decide +kernel
theorem dX5_mothHere_52 : decode cX5_mothHere 52 = .ok (.bipush 116, 2) := by decide +kernel
theorem dX5_mothHere_54 : decode cX5_mothHere 54 = .ok (.bipush 101, 2) := by decide +kernel
theorem dX5_mothHere_56 : decode cX5_mothHere 56 = .ok (.invokevirtual 253, 3) := by decide +kernel
theorem dX5_mothHere_59 : decode cX5_mothHere 59 = .ok (.iconst 2, 1) := by decide +kernel
theorem dX5_mothHere_60 : decode cX5_mothHere 60 = .ok (.iconst 1, 1) := by decide +kernel
theorem dX5_mothHere_61 : decode cX5_mothHere 61 = .ok (.bipush 9, 2) := by decide +kernel
theorem dX5_mothHere_63 : decode cX5_mothHere 63 = .ok (.invokevirtual 270, 3) := by decide +kernel
theorem dX5_mothHere_66 : decode cX5_mothHere 66 = .ok (.ifCond .eq 46, 3) := by decide +kernel
theorem dX5_mothHere_69 : decode cX5_mothHere 69 = .ok (.aload_n 0, 1) := by decide +kernel
theorem dX5_mothHere_70 : decode cX5_mothHere 70 = .ok (.aload_n 0, 1) := by decide +kernel
theorem dX5_mothHere_71 : decode cX5_mothHere 71 = .ok (.iconst 3, 1) := by decide +kernel
theorem dX5_mothHere_72 : decode cX5_mothHere 72 = .ok (.invokevirtual 240, 3) := by decide +kernel
theorem dX5_mothHere_75 : decode cX5_mothHere 75 = .ok (.ifCond .eq 21, 3) := by decide +kernel
theorem dX5_mothHere_78 : decode cX5_mothHere 78 = .ok (.aload_n 0, 1) := by decide +kernel
theorem dX5_mothHere_79 : decode cX5_mothHere 79 = .ok (.iconst 0, 1) := by decide +kernel
theorem dX5_mothHere_80 : decode cX5_mothHere 80 = .ok (.bipush 102, 2) := by decide +kernel
theorem dX5_mothHere_82 : decode cX5_mothHere 82 = .ok (.bipush 101, 2) := by decide +kernel
theorem dX5_mothHere_84 : decode cX5_mothHere 84 = .ok (.bipush 100, 2) := by decide +kernel
theorem dX5_mothHere_86 : decode cX5_mothHere 86 = .ok (.invokevirtual 243, 3) := by decide +kernel
theorem dX5_mothHere_89 : decode cX5_mothHere 89 = .ok (.ifCond .eq 7, 3) := by decide +kernel
theorem dX5_mothHere_92 : decode cX5_mothHere 92 = .ok (.iconst 1, 1) := by decide +kernel
theorem dX5_mothHere_93 : decode cX5_mothHere 93 = .ok (.goto 4, 3) := by decide +kernel
theorem dX5_mothHere_96 : decode cX5_mothHere 96 = .ok (.iconst 0, 1) := by decide +kernel
theorem dX5_mothHere_97 : decode cX5_mothHere 97 = .ok (.iconst 3, 1) := by decide +kernel
theorem dX5_mothHere_98 : decode cX5_mothHere 98 = .ok (.iconst 0, 1) := by decide +kernel
theorem dX5_mothHere_99 : decode cX5_mothHere 99 = .ok (.sipush 999, 3) := by decide +kernel
theorem dX5_mothHere_102 : decode cX5_mothHere 102 = .ok (.invokevirtual 270, 3) := by decide +kernel
theorem dX5_mothHere_105 : decode cX5_mothHere 105 = .ok (.ifCond .eq 7, 3) := by decide +kernel
theorem dX5_mothHere_108 : decode cX5_mothHere 108 = .ok (.iconst 1, 1) := by decide +kernel
theorem dX5_mothHere_109 : decode cX5_mothHere 109 = .ok (.goto 4, 3) := by decide +kernel
theorem dX5_mothHere_112 : decode cX5_mothHere 112 = .ok (.iconst 0, 1) := by decide +kernel
theorem dX5_mothHere_113 : decode cX5_mothHere 113 = .ok (.ireturn, 1) := by decide +kernel
theorem dX5_empties_0 : decode cX5_empties 0 = .ok (.iconst 0, 1) := by decide +kernel
theorem dX5_empties_1 : decode cX5_empties 1 = .ok (.istore_n 2, 1) := by decide +kernel
theorem dX5_empties_2 : decode cX5_empties 2 = .ok (.iload_n 2, 1) := by decide +kernel
theorem dX5_empties_3 : decode cX5_empties 3 = .ok (.bipush 8, 2) := by decide +kernel
theorem dX5_empties_5 : decode cX5_empties 5 = .ok (.if_icmp .ge 23, 3) := by decide +kernel
theorem dX5_empties_8 : decode cX5_empties 8 = .ok (.aload_n 0, 1) := by decide +kernel
theorem dX5_empties_9 : decode cX5_empties 9 = .ok (.getfield 7, 3) := by decide +kernel
theorem dX5_empties_12 : decode cX5_empties 12 = .ok (.iconst 3, 1) := by decide +kernel
theorem dX5_empties_13 : decode cX5_empties 13 = .ok (.bipush 8, 2) := by decide +kernel
theorem dX5_empties_15 : decode cX5_empties 15 = .ok (.iload_n 1, 1) := by decide +kernel
theorem dX5_empties_16 : decode cX5_empties 16 = .ok (.imul, 1) := by decide +kernel
theorem dX5_empties_17 : decode cX5_empties 17 = .ok (.iadd, 1) := by decide +kernel
theorem dX5_empties_18 : decode cX5_empties 18 = .ok (.iload_n 2, 1) := by decide +kernel
theorem dX5_empties_19 : decode cX5_empties 19 = .ok (.iadd, 1) := by decide +kernel
theorem dX5_empties_20 : decode cX5_empties 20 = .ok (.iconst 0, 1) := by decide +kernel
theorem dX5_empties_21 : decode cX5_empties 21 = .ok (.iastore, 1) := by decide +kernel
theorem dX5_empties_22 : decode cX5_empties 22 = .ok (.iinc 2 1, 3) := by decide +kernel
theorem dX5_empties_25 : decode cX5_empties 25 = .ok (.goto (-23), 3) := by decide +kernel
theorem dX5_empties_28 : decode cX5_empties 28 = .ok (.return_, 1) := by decide +kernel
theorem dX5_pageHere_0 : decode cX5_pageHere 0 = .ok (.aload_n 0, 1) := by decide +kernel
theorem dX5_pageHere_1 : decode cX5_pageHere 1 = .ok (.invokevirtual 261, 3) := by decide +kernel
theorem dX5_pageHere_4 : decode cX5_pageHere 4 = .ok (.aload_n 0, 1) := by decide +kernel
theorem dX5_pageHere_5 : decode cX5_pageHere 5 = .ok (.iconst 0, 1) := by decide +kernel
theorem dX5_pageHere_6 : decode cX5_pageHere 6 = .ok (.iconst 5, 1) := by decide +kernel
theorem dX5_pageHere_7 : decode cX5_pageHere 7 = .ok (.invokevirtual 264, 3) := by decide +kernel
theorem dX5_pageHere_10 : decode cX5_pageHere 10 = .ok (.ifCond .ne 5, 3) := by decide +kernel
theorem dX5_pageHere_13 : decode cX5_pageHere 13 = .ok (.iconst 0, 1) := by decide +kernel
theorem dX5_pageHere_14 : decode cX5_pageHere 14 = .ok (.ireturn, 1) := by decide +kernel
theorem dX5_pageHere_15 : decode cX5_pageHere 15 = .ok (.aload_n 0, 1) := by decide +kernel
theorem dX5_pageHere_16 : decode cX5_pageHere 16 = .ok (.getfield 234, 3) := by decide +kernel
theorem dX5_pageHere_19 : decode cX5_pageHere 19 = .ok (.istore_n 1, 1) := by decide +kernel
theorem dX5_pageHere_20 : decode cX5_pageHere 20 = .ok (.aload_n 0, 1) := by decide +kernel
theorem dX5_pageHere_21 : decode cX5_pageHere 21 = .ok (.iload_n 1, 1) := by decide +kernel
theorem dX5_pageHere_22 : decode cX5_pageHere 22 = .ok (.invokevirtual 274, 3) := by decide +kernel
theorem dX5_pageHere_25 : decode cX5_pageHere 25 = .ok (.aload_n 0, 1) := by decide +kernel
theorem dX5_pageHere_26 : decode cX5_pageHere 26 = .ok (.invokevirtual 261, 3) := by decide +kernel
theorem dX5_pageHere_29 : decode cX5_pageHere 29 = .ok (.aload_n 0, 1) := by decide +kernel
theorem dX5_pageHere_30 : decode cX5_pageHere 30 = .ok (.iconst 0, 1) := by decide +kernel
theorem dX5_pageHere_31 : decode cX5_pageHere 31 = .ok (.bipush 9, 2) := by decide +kernel
theorem dX5_pageHere_33 : decode cX5_pageHere 33 = .ok (.invokevirtual 264, 3) := by decide +kernel
theorem dX5_pageHere_36 : decode cX5_pageHere 36 = .ok (.ifCond .ne 5, 3) := by decide +kernel
theorem dX5_pageHere_39 : decode cX5_pageHere 39 = .ok (.iconst 0, 1) := by decide +kernel
theorem dX5_pageHere_40 : decode cX5_pageHere 40 = .ok (.ireturn, 1) := by decide +kernel
theorem dX5_pageHere_41 : decode cX5_pageHere 41 = .ok (.iconst 0, 1) := by decide +kernel
theorem dX5_pageHere_42 : decode cX5_pageHere 42 = .ok (.istore_n 2, 1) := by decide +kernel
theorem dX5_pageHere_43 : decode cX5_pageHere 43 = .ok (.aload_n 0, 1) := by decide +kernel
theorem dX5_pageHere_44 : decode cX5_pageHere 44 = .ok (.getfield 231, 3) := by decide +kernel
theorem dX5_pageHere_47 : decode cX5_pageHere 47 = .ok (.iconst 2, 1) := by decide +kernel
theorem dX5_pageHere_48 : decode cX5_pageHere 48 = .ok (.if_icmp .ne 50, 3) := by decide +kernel
theorem dX5_pageHere_51 : decode cX5_pageHere 51 = .ok (.iload_n 2, 1) := by decide +kernel
theorem dX5_pageHere_52 : decode cX5_pageHere 52 = .ok (.bipush 8, 2) := by decide +kernel
theorem dX5_pageHere_54 : decode cX5_pageHere 54 = .ok (.if_icmp .eq 12, 3) := by decide +kernel
theorem dX5_pageHere_57 : decode cX5_pageHere 57 = .ok (.aload_n 0, 1) := by decide +kernel
theorem dX5_pageHere_58 : decode cX5_pageHere 58 = .ok (.getfield 234, 3) := by decide +kernel
theorem dX5_pageHere_61 : decode cX5_pageHere 61 = .ok (.bipush 9, 2) := by decide +kernel
theorem dX5_pageHere_63 : decode cX5_pageHere 63 = .ok (.if_icmp .le 8, 3) := by decide +kernel
theorem dX5_pageHere_66 : decode cX5_pageHere 66 = .ok (.aload_n 0, 1) := by decide +kernel
theorem dX5_pageHere_67 : decode cX5_pageHere 67 = .ok (.invokevirtual 247, 3) := by decide +kernel
theorem dX5_pageHere_70 : decode cX5_pageHere 70 = .ok (.ireturn, 1) := by decide +kernel
theorem dX5_pageHere_71 : decode cX5_pageHere 71 = .ok (.aload_n 0, 1) := by decide +kernel
theorem dX5_pageHere_72 : decode cX5_pageHere 72 = .ok (.getfield 7, 3) := by decide +kernel
theorem dX5_pageHere_75 : decode cX5_pageHere 75 = .ok (.iconst 3, 1) := by decide +kernel
theorem dX5_pageHere_76 : decode cX5_pageHere 76 = .ok (.bipush 8, 2) := by decide +kernel
theorem dX5_pageHere_78 : decode cX5_pageHere 78 = .ok (.iload_n 1, 1) := by decide +kernel
theorem dX5_pageHere_79 : decode cX5_pageHere 79 = .ok (.imul, 1) := by decide +kernel
theorem dX5_pageHere_80 : decode cX5_pageHere 80 = .ok (.iadd, 1) := by decide +kernel
theorem dX5_pageHere_81 : decode cX5_pageHere 81 = .ok (.iload_n 2, 1) := by decide +kernel
theorem dX5_pageHere_82 : decode cX5_pageHere 82 = .ok (.iadd, 1) := by decide +kernel
theorem dX5_pageHere_83 : decode cX5_pageHere 83 = .ok (.aload_n 0, 1) := by decide +kernel
theorem dX5_pageHere_84 : decode cX5_pageHere 84 = .ok (.getfield 234, 3) := by decide +kernel
theorem dX5_pageHere_87 : decode cX5_pageHere 87 = .ok (.iastore, 1) := by decide +kernel
theorem dX5_pageHere_88 : decode cX5_pageHere 88 = .ok (.iinc 2 1, 3) := by decide +kernel
theorem dX5_pageHere_91 : decode cX5_pageHere 91 = .ok (.aload_n 0, 1) := by decide +kernel
theorem dX5_pageHere_92 : decode cX5_pageHere 92 = .ok (.invokevirtual 261, 3) := by decide +kernel
theorem dX5_pageHere_95 : decode cX5_pageHere 95 = .ok (.goto (-52), 3) := by decide +kernel
theorem dX5_pageHere_98 : decode cX5_pageHere 98 = .ok (.iconst 1, 1) := by decide +kernel
theorem dX5_pageHere_99 : decode cX5_pageHere 99 = .ok (.ireturn, 1) := by decide +kernel
theorem dX5_emptyHere_0 : decode cX5_emptyHere 0 = .ok (.aload_n 0, 1) := by decide +kernel
theorem dX5_emptyHere_1 : decode cX5_emptyHere 1 = .ok (.invokevirtual 261, 3) := by decide +kernel
theorem dX5_emptyHere_4 : decode cX5_emptyHere 4 = .ok (.aload_n 0, 1) := by decide +kernel
theorem dX5_emptyHere_5 : decode cX5_emptyHere 5 = .ok (.iconst 0, 1) := by decide +kernel
theorem dX5_emptyHere_6 : decode cX5_emptyHere 6 = .ok (.iconst 5, 1) := by decide +kernel
theorem dX5_emptyHere_7 : decode cX5_emptyHere 7 = .ok (.invokevirtual 264, 3) := by decide +kernel
theorem dX5_emptyHere_10 : decode cX5_emptyHere 10 = .ok (.ifCond .ne 5, 3) := by decide +kernel
theorem dX5_emptyHere_13 : decode cX5_emptyHere 13 = .ok (.iconst 0, 1) := by decide +kernel
theorem dX5_emptyHere_14 : decode cX5_emptyHere 14 = .ok (.ireturn, 1) := by decide +kernel
theorem dX5_emptyHere_15 : decode cX5_emptyHere 15 = .ok (.aload_n 0, 1) := by decide +kernel
theorem dX5_emptyHere_16 : decode cX5_emptyHere 16 = .ok (.aload_n 0, 1) := by decide +kernel
theorem dX5_emptyHere_17 : decode cX5_emptyHere 17 = .ok (.getfield 234, 3) := by decide +kernel
theorem dX5_emptyHere_20 : decode cX5_emptyHere 20 = .ok (.invokevirtual 274, 3) := by decide +kernel
theorem dX5_emptyHere_23 : decode cX5_emptyHere 23 = .ok (.aload_n 0, 1) := by decide +kernel
theorem dX5_emptyHere_24 : decode cX5_emptyHere 24 = .ok (.invokevirtual 261, 3) := by decide +kernel
theorem dX5_emptyHere_27 : decode cX5_emptyHere 27 = .ok (.iconst 1, 1) := by decide +kernel
theorem dX5_emptyHere_28 : decode cX5_emptyHere 28 = .ok (.ireturn, 1) := by decide +kernel
theorem dX5_itemHere_0 : decode cX5_itemHere 0 = .ok (.aload_n 0, 1) := by decide +kernel
theorem dX5_itemHere_1 : decode cX5_itemHere 1 = .ok (.invokevirtual 277, 3) := by decide +kernel
theorem dX5_itemHere_4 : decode cX5_itemHere 4 = .ok (.istore_n 1, 1) := by decide +kernel
theorem dX5_itemHere_5 : decode cX5_itemHere 5 = .ok (.iload_n 1, 1) := by decide +kernel
theorem dX5_itemHere_6 : decode cX5_itemHere 6 = .ok (.ifCond .lt 9, 3) := by decide +kernel
theorem dX5_itemHere_9 : decode cX5_itemHere 9 = .ok (.aload_n 0, 1) := by decide +kernel
theorem dX5_itemHere_10 : decode cX5_itemHere 10 = .ok (.iload_n 1, 1) := by decide +kernel
theorem dX5_itemHere_11 : decode cX5_itemHere 11 = .ok (.invokevirtual 280, 3) := by decide +kernel
theorem dX5_itemHere_14 : decode cX5_itemHere 14 = .ok (.ireturn, 1) := by decide +kernel
theorem dX5_itemHere_15 : decode cX5_itemHere 15 = .ok (.aload_n 0, 1) := by decide +kernel
theorem dX5_itemHere_16 : decode cX5_itemHere 16 = .ok (.bipush 112, 2) := by decide +kernel
theorem dX5_itemHere_18 : decode cX5_itemHere 18 = .ok (.bipush 97, 2) := by decide +kernel
theorem dX5_itemHere_20 : decode cX5_itemHere 20 = .ok (.bipush 103, 2) := by decide +kernel
theorem dX5_itemHere_22 : decode cX5_itemHere 22 = .ok (.bipush 101, 2) := by decide +kernel
theorem dX5_itemHere_24 : decode cX5_itemHere 24 = .ok (.invokevirtual 250, 3) := by decide +kernel
theorem dX5_itemHere_27 : decode cX5_itemHere 27 = .ok (.ifCond .eq 8, 3) := by decide +kernel
theorem dX5_itemHere_30 : decode cX5_itemHere 30 = .ok (.aload_n 0, 1) := by decide +kernel
theorem dX5_itemHere_31 : decode cX5_itemHere 31 = .ok (.invokevirtual 283, 3) := by decide +kernel
theorem dX5_itemHere_34 : decode cX5_itemHere 34 = .ok (.ireturn, 1) := by decide +kernel
theorem dX5_itemHere_35 : decode cX5_itemHere 35 = .ok (.aload_n 0, 1) := by decide +kernel
theorem dX5_itemHere_36 : decode cX5_itemHere 36 = .ok (.bipush 101, 2) := by decide +kernel
theorem dX5_itemHere_38 : decode cX5_itemHere 38 = .ok (.bipush 109, 2) := by decide +kernel
theorem dX5_itemHere_40 : decode cX5_itemHere 40 = .ok (.bipush 112, 2) := by decide +kernel
theorem dX5_itemHere_42 : decode cX5_itemHere 42 = .ok (.bipush 116, 2) := by decide +kernel
theorem dX5_itemHere_44 : decode cX5_itemHere 44 = .ok (.bipush 121, 2) := by decide +kernel
theorem dX5_itemHere_46 : decode cX5_itemHere 46 = .ok (.invokevirtual 253, 3) := by decide +kernel
theorem dX5_itemHere_49 : decode cX5_itemHere 49 = .ok (.ifCond .eq 10, 3) := by decide +kernel
theorem dX5_itemHere_52 : decode cX5_itemHere 52 = .ok (.aload_n 0, 1) := by decide +kernel
theorem dX5_itemHere_53 : decode cX5_itemHere 53 = .ok (.invokevirtual 286, 3) := by decide +kernel
theorem dX5_itemHere_56 : decode cX5_itemHere 56 = .ok (.goto 7, 3) := by decide +kernel
theorem dX5_itemHere_59 : decode cX5_itemHere 59 = .ok (.aload_n 0, 1) := by decide +kernel
theorem dX5_itemHere_60 : decode cX5_itemHere 60 = .ok (.invokevirtual 247, 3) := by decide +kernel
theorem dX5_itemHere_63 : decode cX5_itemHere 63 = .ok (.ireturn, 1) := by decide +kernel
theorem dX5_text_0 : decode cX5_text 0 = .ok (.aload_n 0, 1) := by decide +kernel
theorem dX5_text_1 : decode cX5_text 1 = .ok (.getfield 7, 3) := by decide +kernel
theorem dX5_text_4 : decode cX5_text 4 = .ok (.aload_n 0, 1) := by decide +kernel
theorem dX5_text_5 : decode cX5_text 5 = .ok (.getfield 16, 3) := by decide +kernel
theorem dX5_text_8 : decode cX5_text 8 = .ok (.invokestatic 160, 3) := by decide +kernel
theorem dX5_text_11 : decode cX5_text 11 = .ok (.aload_n 0, 1) := by decide +kernel
theorem dX5_text_12 : decode cX5_text 12 = .ok (.iconst 0, 1) := by decide +kernel
theorem dX5_text_13 : decode cX5_text 13 = .ok (.putfield 216, 3) := by decide +kernel
theorem dX5_text_16 : decode cX5_text 16 = .ok (.aload_n 0, 1) := by decide +kernel
theorem dX5_text_17 : decode cX5_text 17 = .ok (.invokevirtual 261, 3) := by decide +kernel
theorem dX5_text_20 : decode cX5_text 20 = .ok (.iconst 1, 1) := by decide +kernel
theorem dX5_text_21 : decode cX5_text 21 = .ok (.istore_n 1, 1) := by decide +kernel
theorem dX5_text_22 : decode cX5_text 22 = .ok (.aload_n 0, 1) := by decide +kernel
theorem dX5_text_23 : decode cX5_text 23 = .ok (.invokevirtual 289, 3) := by decide +kernel
theorem dX5_text_26 : decode cX5_text 26 = .ok (.istore_n 2, 1) := by decide +kernel
theorem dX5_text_27 : decode cX5_text 27 = .ok (.iload_n 2, 1) := by decide +kernel
theorem dX5_text_28 : decode cX5_text 28 = .ok (.ifCond .eq 26, 3) := by decide +kernel
theorem dX5_text_31 : decode cX5_text 31 = .ok (.aload_n 0, 1) := by decide +kernel
theorem dX5_text_32 : decode cX5_text 32 = .ok (.getfield 231, 3) := by decide +kernel
theorem dX5_text_35 : decode cX5_text 35 = .ok (.iconst 3, 1) := by decide +kernel
theorem dX5_text_36 : decode cX5_text 36 = .ok (.if_icmp .ne 18, 3) := by decide +kernel
theorem dX5_text_39 : decode cX5_text 39 = .ok (.aload_n 0, 1) := by decide +kernel
theorem dX5_text_40 : decode cX5_text 40 = .ok (.invokevirtual 261, 3) := by decide +kernel
theorem dX5_text_43 : decode cX5_text 43 = .ok (.aload_n 0, 1) := by decide +kernel
theorem dX5_text_44 : decode cX5_text 44 = .ok (.invokevirtual 289, 3) := by decide +kernel
theorem dX5_text_47 : decode cX5_text 47 = .ok (.istore_n 2, 1) := by decide +kernel
theorem dX5_text_48 : decode cX5_text 48 = .ok (.iinc 1 1, 3) := by decide +kernel
theorem dX5_text_51 : decode cX5_text 51 = .ok (.goto (-24), 3) := by decide +kernel
theorem dX5_text_54 : decode cX5_text 54 = .ok (.iload_n 2, 1) := by decide +kernel
theorem dX5_text_55 : decode cX5_text 55 = .ok (.ifCond .eq 21, 3) := by decide +kernel
theorem dX5_text_58 : decode cX5_text 58 = .ok (.aload_n 0, 1) := by decide +kernel
theorem dX5_text_59 : decode cX5_text 59 = .ok (.getfield 231, 3) := by decide +kernel
theorem dX5_text_62 : decode cX5_text 62 = .ok (.ifCond .eq 10, 3) := by decide +kernel
theorem dX5_text_65 : decode cX5_text 65 = .ok (.aload_n 0, 1) := by decide +kernel
theorem dX5_text_66 : decode cX5_text 66 = .ok (.invokevirtual 247, 3) := by decide +kernel
theorem dX5_text_69 : decode cX5_text 69 = .ok (.ifCond .eq 7, 3) := by decide +kernel
theorem dX5_text_72 : decode cX5_text 72 = .ok (.iconst 1, 1) := by decide +kernel
theorem dX5_text_73 : decode cX5_text 73 = .ok (.goto 4, 3) := by decide +kernel
theorem dX5_text_76 : decode cX5_text 76 = .ok (.iconst 0, 1) := by decide +kernel
theorem dX5_text_77 : decode cX5_text 77 = .ok (.istore_n 2, 1) := by decide +kernel
theorem dX5_text_78 : decode cX5_text 78 = .ok (.aload_n 0, 1) := by decide +kernel
theorem dX5_text_79 : decode cX5_text 79 = .ok (.iconst 0, 1) := by decide +kernel
theorem dX5_text_80 : decode cX5_text 80 = .ok (.putfield 212, 3) := by decide +kernel
theorem dX5_text_83 : decode cX5_text 83 = .ok (.iload_n 2, 1) := by decide +kernel
theorem dX5_text_84 : decode cX5_text 84 = .ok (.ifCond .ne 14, 3) := by decide +kernel
theorem dX5_text_87 : decode cX5_text 87 = .ok (.aload_n 0, 1) := by decide +kernel
theorem dX5_text_88 : decode cX5_text 88 = .ok (.getfield 16, 3) := by decide +kernel
theorem dX5_text_91 : decode cX5_text 91 = .ok (.aload_n 0, 1) := by decide +kernel
theorem dX5_text_92 : decode cX5_text 92 = .ok (.getfield 7, 3) := by decide +kernel
theorem dX5_text_95 : decode cX5_text 95 = .ok (.invokestatic 160, 3) := by decide +kernel
theorem dX5_text_98 : decode cX5_text 98 = .ok (.iload_n 2, 1) := by decide +kernel
theorem dX5_text_99 : decode cX5_text 99 = .ok (.ifCond .eq 7, 3) := by decide +kernel
theorem dX5_text_102 : decode cX5_text 102 = .ok (.iload_n 1, 1) := by decide +kernel
theorem dX5_text_103 : decode cX5_text 103 = .ok (.goto 9, 3) := by decide +kernel
theorem dX5_text_106 : decode cX5_text 106 = .ok (.iconst (-1), 1) := by decide +kernel
theorem dX5_text_107 : decode cX5_text 107 = .ok (.aload_n 0, 1) := by decide +kernel
theorem dX5_text_108 : decode cX5_text 108 = .ok (.getfield 237, 3) := by decide +kernel
theorem dX5_text_111 : decode cX5_text 111 = .ok (.isub, 1) := by decide +kernel
theorem dX5_text_112 : decode cX5_text 112 = .ok (.ireturn, 1) := by decide +kernel
theorem dX5_hold_0 : decode cX5_hold 0 = .ok (.iload_n 1, 1) := by decide +kernel
theorem dX5_hold_1 : decode cX5_hold 1 = .ok (.i2l, 1) := by decide +kernel
theorem dX5_hold_2 : decode cX5_hold 2 = .ok (.lconst 0, 1) := by decide +kernel
theorem dX5_hold_3 : decode cX5_hold 3 = .ok (.ldc2_w 54, 3) := by decide +kernel
theorem dX5_hold_6 : decode cX5_hold 6 = .ok (.invokestatic 56, 3) := by decide +kernel
theorem dX5_hold_9 : decode cX5_hold 9 = .ok (.ifCond .eq 16, 3) := by decide +kernel
theorem dX5_hold_12 : decode cX5_hold 12 = .ok (.iload_n 2, 1) := by decide +kernel
theorem dX5_hold_13 : decode cX5_hold 13 = .ok (.iconst (-1), 1) := by decide +kernel
theorem dX5_hold_14 : decode cX5_hold 14 = .ok (.if_icmp .eq 18, 3) := by decide +kernel
theorem dX5_hold_17 : decode cX5_hold 17 = .ok (.aload_n 0, 1) := by decide +kernel
theorem dX5_hold_18 : decode cX5_hold 18 = .ok (.iload_n 2, 1) := by decide +kernel
theorem dX5_hold_19 : decode cX5_hold 19 = .ok (.invokevirtual 112, 3) := by decide +kernel
theorem dX5_hold_22 : decode cX5_hold 22 = .ok (.ifCond .ne 10, 3) := by decide +kernel
theorem dX5_hold_25 : decode cX5_hold 25 = .ok (.aload_n 0, 1) := by decide +kernel
theorem dX5_hold_26 : decode cX5_hold 26 = .ok (.ldc 40, 2) := by decide +kernel
theorem dX5_hold_28 : decode cX5_hold 28 = .ok (.invokevirtual 46, 3) := by decide +kernel
theorem dX5_hold_31 : decode cX5_hold 31 = .ok (.ireturn, 1) := by decide +kernel
theorem dX5_hold_32 : decode cX5_hold 32 = .ok (.aload_n 0, 1) := by decide +kernel
theorem dX5_hold_33 : decode cX5_hold 33 = .ok (.getfield 7, 3) := by decide +kernel
theorem dX5_hold_36 : decode cX5_hold 36 = .ok (.bipush 83, 2) := by decide +kernel
theorem dX5_hold_38 : decode cX5_hold 38 = .ok (.iload_n 1, 1) := by decide +kernel
theorem dX5_hold_39 : decode cX5_hold 39 = .ok (.iadd, 1) := by decide +kernel
theorem dX5_hold_40 : decode cX5_hold 40 = .ok (.iload_n 2, 1) := by decide +kernel
theorem dX5_hold_41 : decode cX5_hold 41 = .ok (.iastore, 1) := by decide +kernel
theorem dX5_hold_42 : decode cX5_hold 42 = .ok (.iconst 1, 1) := by decide +kernel
theorem dX5_hold_43 : decode cX5_hold 43 = .ok (.ireturn, 1) := by decide +kernel
theorem dX5_isUnder_0 : decode cX5_isUnder 0 = .ok (.iload_n 1, 1) := by decide +kernel
theorem dX5_isUnder_1 : decode cX5_isUnder 1 = .ok (.ifCond .eq 44, 3) := by decide +kernel
theorem dX5_isUnder_4 : decode cX5_isUnder 4 = .ok (.iload_n 0, 1) := by decide +kernel
theorem dX5_isUnder_5 : decode cX5_isUnder 5 = .ok (.iload_n 1, 1) := by decide +kernel
theorem dX5_isUnder_6 : decode cX5_isUnder 6 = .ok (.if_icmp .eq 39, 3) := by decide +kernel
theorem dX5_isUnder_9 : decode cX5_isUnder 9 = .ok (.iload_n 1, 1) := by decide +kernel
theorem dX5_isUnder_10 : decode cX5_isUnder 10 = .ok (.iconst 2, 1) := by decide +kernel
theorem dX5_isUnder_11 : decode cX5_isUnder 11 = .ok (.if_icmp .ne 13, 3) := by decide +kernel
theorem dX5_isUnder_14 : decode cX5_isUnder 14 = .ok (.iload_n 0, 1) := by decide +kernel
theorem dX5_isUnder_15 : decode cX5_isUnder 15 = .ok (.iconst 3, 1) := by decide +kernel
theorem dX5_isUnder_16 : decode cX5_isUnder 16 = .ok (.if_icmp .eq 29, 3) := by decide +kernel
theorem dX5_isUnder_19 : decode cX5_isUnder 19 = .ok (.iload_n 0, 1) := by decide +kernel
theorem dX5_isUnder_20 : decode cX5_isUnder 20 = .ok (.iconst 4, 1) := by decide +kernel
theorem dX5_isUnder_21 : decode cX5_isUnder 21 = .ok (.if_icmp .eq 24, 3) := by decide +kernel
theorem dX5_isUnder_24 : decode cX5_isUnder 24 = .ok (.iload_n 1, 1) := by decide +kernel
theorem dX5_isUnder_25 : decode cX5_isUnder 25 = .ok (.iconst 3, 1) := by decide +kernel
theorem dX5_isUnder_26 : decode cX5_isUnder 26 = .ok (.if_icmp .ne 8, 3) := by decide +kernel
theorem dX5_isUnder_29 : decode cX5_isUnder 29 = .ok (.iload_n 0, 1) := by decide +kernel
theorem dX5_isUnder_30 : decode cX5_isUnder 30 = .ok (.iconst 4, 1) := by decide +kernel
theorem dX5_isUnder_31 : decode cX5_isUnder 31 = .ok (.if_icmp .eq 14, 3) := by decide +kernel
theorem dX5_isUnder_34 : decode cX5_isUnder 34 = .ok (.iload_n 1, 1) := by decide +kernel
theorem dX5_isUnder_35 : decode cX5_isUnder 35 = .ok (.iconst 1, 1) := by decide +kernel
theorem dX5_isUnder_36 : decode cX5_isUnder 36 = .ok (.if_icmp .ne 13, 3) := by decide +kernel
theorem dX5_isUnder_39 : decode cX5_isUnder 39 = .ok (.iload_n 0, 1) := by decide +kernel
theorem dX5_isUnder_40 : decode cX5_isUnder 40 = .ok (.bipush 6, 2) := by decide +kernel
theorem dX5_isUnder_42 : decode cX5_isUnder 42 = .ok (.if_icmp .ne 7, 3) := by decide +kernel
theorem dX5_isUnder_45 : decode cX5_isUnder 45 = .ok (.iconst 1, 1) := by decide +kernel
theorem dX5_isUnder_46 : decode cX5_isUnder 46 = .ok (.goto 4, 3) := by decide +kernel
theorem dX5_isUnder_49 : decode cX5_isUnder 49 = .ok (.iconst 0, 1) := by decide +kernel
theorem dX5_isUnder_50 : decode cX5_isUnder 50 = .ok (.ireturn, 1) := by decide +kernel
theorem dX5_as_0 : decode cX5_as 0 = .ok (.iload_n 1, 1) := by decide +kernel
theorem dX5_as_1 : decode cX5_as 1 = .ok (.i2l, 1) := by decide +kernel
theorem dX5_as_2 : decode cX5_as 2 = .ok (.lconst 0, 1) := by decide +kernel
theorem dX5_as_3 : decode cX5_as 3 = .ok (.ldc2_w 54, 3) := by decide +kernel
theorem dX5_as_6 : decode cX5_as 6 = .ok (.invokestatic 56, 3) := by decide +kernel
theorem dX5_as_9 : decode cX5_as 9 = .ok (.ifCond .eq 15, 3) := by decide +kernel
theorem dX5_as_12 : decode cX5_as 12 = .ok (.iload_n 2, 1) := by decide +kernel
theorem dX5_as_13 : decode cX5_as 13 = .ok (.i2l, 1) := by decide +kernel
theorem dX5_as_14 : decode cX5_as 14 = .ok (.lconst 0, 1) := by decide +kernel
theorem dX5_as_15 : decode cX5_as 15 = .ok (.ldc2_w 87, 3) := by decide +kernel
theorem dX5_as_18 : decode cX5_as 18 = .ok (.invokestatic 56, 3) := by decide +kernel
theorem dX5_as_21 : decode cX5_as 21 = .ok (.ifCond .ne 10, 3) := by decide +kernel
theorem dX5_as_24 : decode cX5_as 24 = .ok (.aload_n 0, 1) := by decide +kernel
theorem dX5_as_25 : decode cX5_as 25 = .ok (.ldc 40, 2) := by decide +kernel
theorem dX5_as_27 : decode cX5_as 27 = .ok (.invokevirtual 46, 3) := by decide +kernel
theorem dX5_as_30 : decode cX5_as 30 = .ok (.ireturn, 1) := by decide +kernel
theorem dX5_as_31 : decode cX5_as 31 = .ok (.aload_n 0, 1) := by decide +kernel
theorem dX5_as_32 : decode cX5_as 32 = .ok (.getfield 7, 3) := by decide +kernel
theorem dX5_as_35 : decode cX5_as 35 = .ok (.bipush 83, 2) := by decide +kernel
theorem dX5_as_37 : decode cX5_as 37 = .ok (.iload_n 1, 1) := by decide +kernel
theorem dX5_as_38 : decode cX5_as 38 = .ok (.iadd, 1) := by decide +kernel
theorem dX5_as_39 : decode cX5_as 39 = .ok (.iaload, 1) := by decide +kernel
theorem dX5_as_40 : decode cX5_as 40 = .ok (.istore_n 3, 1) := by decide +kernel
theorem dX5_as_41 : decode cX5_as 41 = .ok (.iload_n 3, 1) := by decide +kernel
theorem dX5_as_42 : decode cX5_as 42 = .ok (.ifCond .ge 11, 3) := by decide +kernel
theorem dX5_as_45 : decode cX5_as 45 = .ok (.aload_n 0, 1) := by decide +kernel
theorem dX5_as_46 : decode cX5_as 46 = .ok (.ldc_w 292, 3) := by decide +kernel
theorem dX5_as_49 : decode cX5_as 49 = .ok (.invokevirtual 46, 3) := by decide +kernel
theorem dX5_as_52 : decode cX5_as 52 = .ok (.ireturn, 1) := by decide +kernel
theorem dX5_as_53 : decode cX5_as 53 = .ok (.aload_n 0, 1) := by decide +kernel
theorem dX5_as_54 : decode cX5_as 54 = .ok (.iload_n 3, 1) := by decide +kernel
theorem dX5_as_55 : decode cX5_as 55 = .ok (.iconst 0, 1) := by decide +kernel
theorem dX5_as_56 : decode cX5_as 56 = .ok (.invokevirtual 67, 3) := by decide +kernel
theorem dX5_as_59 : decode cX5_as 59 = .ok (.iload_n 2, 1) := by decide +kernel
theorem dX5_as_60 : decode cX5_as 60 = .ok (.invokestatic 293, 3) := by decide +kernel
theorem dX5_as_63 : decode cX5_as 63 = .ok (.ifCond .eq 7, 3) := by decide +kernel
theorem dX5_as_66 : decode cX5_as 66 = .ok (.iload_n 3, 1) := by decide +kernel
theorem dX5_as_67 : decode cX5_as 67 = .ok (.goto 10, 3) := by decide +kernel
theorem dX5_as_70 : decode cX5_as 70 = .ok (.aload_n 0, 1) := by decide +kernel
theorem dX5_as_71 : decode cX5_as 71 = .ok (.ldc_w 296, 3) := by decide +kernel
theorem dX5_as_74 : decode cX5_as 74 = .ok (.invokevirtual 46, 3) := by decide +kernel
theorem dX5_as_77 : decode cX5_as 77 = .ok (.ireturn, 1) := by decide +kernel
theorem dX5_isSheet_0 : decode cX5_isSheet 0 = .ok (.iload_n 0, 1) := by decide +kernel
theorem dX5_isSheet_1 : decode cX5_isSheet 1 = .ok (.ifCond .lt 12, 3) := by decide +kernel
theorem dX5_isSheet_4 : decode cX5_isSheet 4 = .ok (.iload_n 0, 1) := by decide +kernel
theorem dX5_isSheet_5 : decode cX5_isSheet 5 = .ok (.iconst 4, 1) := by decide +kernel
theorem dX5_isSheet_6 : decode cX5_isSheet 6 = .ok (.if_icmp .ge 7, 3) := by decide +kernel
theorem dX5_isSheet_9 : decode cX5_isSheet 9 = .ok (.iconst 1, 1) := by decide +kernel
theorem dX5_isSheet_10 : decode cX5_isSheet 10 = .ok (.goto 4, 3) := by decide +kernel
theorem dX5_isSheet_13 : decode cX5_isSheet 13 = .ok (.iconst 0, 1) := by decide +kernel
theorem dX5_isSheet_14 : decode cX5_isSheet 14 = .ok (.ireturn, 1) := by decide +kernel
theorem dX5_sheet_0 : decode cX5_sheet 0 = .ok (.iload_n 1, 1) := by decide +kernel
theorem dX5_sheet_1 : decode cX5_sheet 1 = .ok (.invokestatic 297, 3) := by decide +kernel
theorem dX5_sheet_4 : decode cX5_sheet 4 = .ok (.ifCond .eq 25, 3) := by decide +kernel
theorem dX5_sheet_7 : decode cX5_sheet 7 = .ok (.iload_n 2, 1) := by decide +kernel
theorem dX5_sheet_8 : decode cX5_sheet 8 = .ok (.ifCond .eq 28, 3) := by decide +kernel
theorem dX5_sheet_11 : decode cX5_sheet 11 = .ok (.iload_n 2, 1) := by decide +kernel
theorem dX5_sheet_12 : decode cX5_sheet 12 = .ok (.bipush 8, 2) := by decide +kernel
theorem dX5_sheet_14 : decode cX5_sheet 14 = .ok (.if_icmp .eq 22, 3) := by decide +kernel
theorem dX5_sheet_17 : decode cX5_sheet 17 = .ok (.iload_n 2, 1) := by decide +kernel
theorem dX5_sheet_18 : decode cX5_sheet 18 = .ok (.bipush 16, 2) := by decide +kernel
theorem dX5_sheet_20 : decode cX5_sheet 20 = .ok (.if_icmp .eq 16, 3) := by decide +kernel
theorem dX5_sheet_23 : decode cX5_sheet 23 = .ok (.iload_n 2, 1) := by decide +kernel
theorem dX5_sheet_24 : decode cX5_sheet 24 = .ok (.bipush 32, 2) := by decide +kernel
theorem dX5_sheet_26 : decode cX5_sheet 26 = .ok (.if_icmp .eq 10, 3) := by decide +kernel
theorem dX5_sheet_29 : decode cX5_sheet 29 = .ok (.aload_n 0, 1) := by decide +kernel
theorem dX5_sheet_30 : decode cX5_sheet 30 = .ok (.ldc 40, 2) := by decide +kernel
theorem dX5_sheet_32 : decode cX5_sheet 32 = .ok (.invokevirtual 46, 3) := by decide +kernel
theorem dX5_sheet_35 : decode cX5_sheet 35 = .ok (.ireturn, 1) := by decide +kernel
theorem dX5_sheet_36 : decode cX5_sheet 36 = .ok (.iload_n 3, 1) := by decide +kernel
theorem dX5_sheet_37 : decode cX5_sheet 37 = .ok (.ifCond .ge 11, 3) := by decide +kernel
theorem dX5_sheet_40 : decode cX5_sheet 40 = .ok (.aload_n 0, 1) := by decide +kernel
theorem dX5_sheet_41 : decode cX5_sheet 41 = .ok (.ldc_w 300, 3) := by decide +kernel
theorem dX5_sheet_44 : decode cX5_sheet 44 = .ok (.invokevirtual 46, 3) := by decide +kernel
theorem dX5_sheet_47 : decode cX5_sheet 47 = .ok (.ireturn, 1) := by decide +kernel
theorem dX5_sheet_48 : decode cX5_sheet 48 = .ok (.iload_n 3, 1) := by decide +kernel
theorem dX5_sheet_49 : decode cX5_sheet 49 = .ok (.bipush 40, 2) := by decide +kernel
theorem dX5_sheet_51 : decode cX5_sheet 51 = .ok (.if_icmp .le 10, 3) := by decide +kernel
theorem dX5_sheet_54 : decode cX5_sheet 54 = .ok (.aload_n 0, 1) := by decide +kernel
theorem dX5_sheet_55 : decode cX5_sheet 55 = .ok (.ldc 40, 2) := by decide +kernel
theorem dX5_sheet_57 : decode cX5_sheet 57 = .ok (.invokevirtual 46, 3) := by decide +kernel
theorem dX5_sheet_60 : decode cX5_sheet 60 = .ok (.ireturn, 1) := by decide +kernel
theorem dX5_sheet_61 : decode cX5_sheet 61 = .ok (.aload_n 0, 1) := by decide +kernel
theorem dX5_sheet_62 : decode cX5_sheet 62 = .ok (.getfield 28, 3) := by decide +kernel
theorem dX5_sheet_65 : decode cX5_sheet 65 = .ok (.iload_n 1, 1) := by decide +kernel
theorem dX5_sheet_66 : decode cX5_sheet 66 = .ok (.iload_n 2, 1) := by decide +kernel
theorem dX5_sheet_67 : decode cX5_sheet 67 = .ok (.ifCond .ne 7, 3) := by decide +kernel
theorem dX5_sheet_70 : decode cX5_sheet 70 = .ok (.iconst (-1), 1) := by decide +kernel
theorem dX5_sheet_71 : decode cX5_sheet 71 = .ok (.goto 4, 3) := by decide +kernel
theorem dX5_sheet_74 : decode cX5_sheet 74 = .ok (.iload_n 2, 1) := by decide +kernel
theorem dX5_sheet_75 : decode cX5_sheet 75 = .ok (.iastore, 1) := by decide +kernel
theorem dX5_sheet_76 : decode cX5_sheet 76 = .ok (.aload_n 0, 1) := by decide +kernel
theorem dX5_sheet_77 : decode cX5_sheet 77 = .ok (.getfield 31, 3) := by decide +kernel
theorem dX5_sheet_80 : decode cX5_sheet 80 = .ok (.iload_n 1, 1) := by decide +kernel
theorem dX5_sheet_81 : decode cX5_sheet 81 = .ok (.iload_n 2, 1) := by decide +kernel
theorem dX5_sheet_82 : decode cX5_sheet 82 = .ok (.ifCond .ne 7, 3) := by decide +kernel
theorem dX5_sheet_85 : decode cX5_sheet 85 = .ok (.iconst 0, 1) := by decide +kernel
theorem dX5_sheet_86 : decode cX5_sheet 86 = .ok (.goto 4, 3) := by decide +kernel
theorem dX5_sheet_89 : decode cX5_sheet 89 = .ok (.iload_n 3, 1) := by decide +kernel
theorem dX5_sheet_90 : decode cX5_sheet 90 = .ok (.iastore, 1) := by decide +kernel
theorem dX5_sheet_91 : decode cX5_sheet 91 = .ok (.iconst 0, 1) := by decide +kernel
theorem dX5_sheet_92 : decode cX5_sheet 92 = .ok (.istore 4, 2) := by decide +kernel
theorem dX5_sheet_94 : decode cX5_sheet 94 = .ok (.iload 4, 2) := by decide +kernel
theorem dX5_sheet_96 : decode cX5_sheet 96 = .ok (.bipush 40, 2) := by decide +kernel
theorem dX5_sheet_98 : decode cX5_sheet 98 = .ok (.if_icmp .ge 22, 3) := by decide +kernel
theorem dX5_sheet_101 : decode cX5_sheet 101 = .ok (.aload_n 0, 1) := by decide +kernel
theorem dX5_sheet_102 : decode cX5_sheet 102 = .ok (.getfield 34, 3) := by decide +kernel
theorem dX5_sheet_105 : decode cX5_sheet 105 = .ok (.bipush 40, 2) := by decide +kernel
theorem dX5_sheet_107 : decode cX5_sheet 107 = .ok (.iload_n 1, 1) := by decide +kernel
theorem dX5_sheet_108 : decode cX5_sheet 108 = .ok (.imul, 1) := by decide +kernel
theorem dX5_sheet_109 : decode cX5_sheet 109 = .ok (.iload 4, 2) := by decide +kernel
theorem dX5_sheet_111 : decode cX5_sheet 111 = .ok (.iadd, 1) := by decide +kernel
theorem dX5_sheet_112 : decode cX5_sheet 112 = .ok (.iconst 0, 1) := by decide +kernel
theorem dX5_sheet_113 : decode cX5_sheet 113 = .ok (.iastore, 1) := by decide +kernel
theorem dX5_sheet_114 : decode cX5_sheet 114 = .ok (.iinc 4 1, 3) := by decide +kernel
theorem dX5_sheet_117 : decode cX5_sheet 117 = .ok (.goto (-23), 3) := by decide +kernel
theorem dX5_sheet_120 : decode cX5_sheet 120 = .ok (.aload_n 0, 1) := by decide +kernel
theorem dX5_sheet_121 : decode cX5_sheet 121 = .ok (.getfield 31, 3) := by decide +kernel
theorem dX5_sheet_124 : decode cX5_sheet 124 = .ok (.iload_n 1, 1) := by decide +kernel
theorem dX5_sheet_125 : decode cX5_sheet 125 = .ok (.iaload, 1) := by decide +kernel
theorem dX5_sheet_126 : decode cX5_sheet 126 = .ok (.ireturn, 1) := by decide +kernel
theorem dX5_write_0 : decode cX5_write 0 = .ok (.iload_n 1, 1) := by decide +kernel
theorem dX5_write_1 : decode cX5_write 1 = .ok (.invokestatic 297, 3) := by decide +kernel
theorem dX5_write_4 : decode cX5_write 4 = .ok (.ifCond .ne 10, 3) := by decide +kernel
theorem dX5_write_7 : decode cX5_write 7 = .ok (.aload_n 0, 1) := by decide +kernel
theorem dX5_write_8 : decode cX5_write 8 = .ok (.ldc 40, 2) := by decide +kernel
theorem dX5_write_10 : decode cX5_write 10 = .ok (.invokevirtual 46, 3) := by decide +kernel
theorem dX5_write_13 : decode cX5_write 13 = .ok (.ireturn, 1) := by decide +kernel
theorem dX5_write_14 : decode cX5_write 14 = .ok (.aload_n 0, 1) := by decide +kernel
theorem dX5_write_15 : decode cX5_write 15 = .ok (.getfield 28, 3) := by decide +kernel
theorem dX5_write_18 : decode cX5_write 18 = .ok (.iload_n 1, 1) := by decide +kernel
theorem dX5_write_19 : decode cX5_write 19 = .ok (.iaload, 1) := by decide +kernel
theorem dX5_write_20 : decode cX5_write 20 = .ok (.ifCond .ge 11, 3) := by decide +kernel
theorem dX5_write_23 : decode cX5_write 23 = .ok (.aload_n 0, 1) := by decide +kernel
theorem dX5_write_24 : decode cX5_write 24 = .ok (.ldc_w 292, 3) := by decide +kernel
theorem dX5_write_27 : decode cX5_write 27 = .ok (.invokevirtual 46, 3) := by decide +kernel
theorem dX5_write_30 : decode cX5_write 30 = .ok (.ireturn, 1) := by decide +kernel
theorem dX5_write_31 : decode cX5_write 31 = .ok (.iload_n 2, 1) := by decide +kernel
theorem dX5_write_32 : decode cX5_write 32 = .ok (.i2l, 1) := by decide +kernel
theorem dX5_write_33 : decode cX5_write 33 = .ok (.lconst 0, 1) := by decide +kernel
theorem dX5_write_34 : decode cX5_write 34 = .ok (.aload_n 0, 1) := by decide +kernel
theorem dX5_write_35 : decode cX5_write 35 = .ok (.getfield 31, 3) := by decide +kernel
theorem dX5_write_38 : decode cX5_write 38 = .ok (.iload_n 1, 1) := by decide +kernel
theorem dX5_write_39 : decode cX5_write 39 = .ok (.iaload, 1) := by decide +kernel
theorem dX5_write_40 : decode cX5_write 40 = .ok (.iconst 1, 1) := by decide +kernel
theorem dX5_write_41 : decode cX5_write 41 = .ok (.isub, 1) := by decide +kernel
theorem dX5_write_42 : decode cX5_write 42 = .ok (.i2l, 1) := by decide +kernel
theorem dX5_write_43 : decode cX5_write 43 = .ok (.invokestatic 56, 3) := by decide +kernel
theorem dX5_write_46 : decode cX5_write 46 = .ok (.ifCond .ne 10, 3) := by decide +kernel
theorem dX5_write_49 : decode cX5_write 49 = .ok (.aload_n 0, 1) := by decide +kernel
theorem dX5_write_50 : decode cX5_write 50 = .ok (.ldc 40, 2) := by decide +kernel
theorem dX5_write_52 : decode cX5_write 52 = .ok (.invokevirtual 46, 3) := by decide +kernel
theorem dX5_write_55 : decode cX5_write 55 = .ok (.ireturn, 1) := by decide +kernel
theorem dX5_write_56 : decode cX5_write 56 = .ok (.aload_n 0, 1) := by decide +kernel
theorem dX5_write_57 : decode cX5_write 57 = .ok (.getfield 34, 3) := by decide +kernel
theorem dX5_write_60 : decode cX5_write 60 = .ok (.bipush 40, 2) := by decide +kernel
theorem dX5_write_62 : decode cX5_write 62 = .ok (.iload_n 1, 1) := by decide +kernel
theorem dX5_write_63 : decode cX5_write 63 = .ok (.imul, 1) := by decide +kernel
theorem dX5_write_64 : decode cX5_write 64 = .ok (.iload_n 2, 1) := by decide +kernel
theorem dX5_write_65 : decode cX5_write 65 = .ok (.iadd, 1) := by decide +kernel
theorem dX5_write_66 : decode cX5_write 66 = .ok (.aload_n 0, 1) := by decide +kernel
theorem dX5_write_67 : decode cX5_write 67 = .ok (.getfield 28, 3) := by decide +kernel
theorem dX5_write_70 : decode cX5_write 70 = .ok (.iload_n 1, 1) := by decide +kernel
theorem dX5_write_71 : decode cX5_write 71 = .ok (.iaload, 1) := by decide +kernel
theorem dX5_write_72 : decode cX5_write 72 = .ok (.bipush 8, 2) := by decide +kernel
theorem dX5_write_74 : decode cX5_write 74 = .ok (.if_icmp .ne 8, 3) := by decide +kernel
theorem dX5_write_77 : decode cX5_write 77 = .ok (.iload_n 3, 1) := by decide +kernel
theorem dX5_write_78 : decode cX5_write 78 = .ok (.i2b, 1) := by decide +kernel
theorem dX5_write_79 : decode cX5_write 79 = .ok (.goto 20, 3) := by decide +kernel
theorem dX5_write_82 : decode cX5_write 82 = .ok (.aload_n 0, 1) := by decide +kernel
theorem dX5_write_83 : decode cX5_write 83 = .ok (.getfield 28, 3) := by decide +kernel
theorem dX5_write_86 : decode cX5_write 86 = .ok (.iload_n 1, 1) := by decide +kernel
theorem dX5_write_87 : decode cX5_write 87 = .ok (.iaload, 1) := by decide +kernel
theorem dX5_write_88 : decode cX5_write 88 = .ok (.bipush 16, 2) := by decide +kernel
theorem dX5_write_90 : decode cX5_write 90 = .ok (.if_icmp .ne 8, 3) := by decide +kernel
theorem dX5_write_93 : decode cX5_write 93 = .ok (.iload_n 3, 1) := by decide +kernel
theorem dX5_write_94 : decode cX5_write 94 = .ok (.i2s, 1) := by decide +kernel
theorem dX5_write_95 : decode cX5_write 95 = .ok (.goto 4, 3) := by decide +kernel
theorem dX5_write_98 : decode cX5_write 98 = .ok (.iload_n 3, 1) := by decide +kernel
theorem dX5_write_99 : decode cX5_write 99 = .ok (.iastore, 1) := by decide +kernel
theorem dX5_write_100 : decode cX5_write 100 = .ok (.iconst 1, 1) := by decide +kernel
theorem dX5_write_101 : decode cX5_write 101 = .ok (.ireturn, 1) := by decide +kernel
theorem dX5_copy_0 : decode cX5_copy 0 = .ok (.iload_n 1, 1) := by decide +kernel
theorem dX5_copy_1 : decode cX5_copy 1 = .ok (.invokestatic 297, 3) := by decide +kernel
theorem dX5_copy_4 : decode cX5_copy 4 = .ok (.ifCond .eq 10, 3) := by decide +kernel
theorem dX5_copy_7 : decode cX5_copy 7 = .ok (.iload_n 3, 1) := by decide +kernel
theorem dX5_copy_8 : decode cX5_copy 8 = .ok (.invokestatic 297, 3) := by decide +kernel
theorem dX5_copy_11 : decode cX5_copy 11 = .ok (.ifCond .ne 10, 3) := by decide +kernel
theorem dX5_copy_14 : decode cX5_copy 14 = .ok (.aload_n 0, 1) := by decide +kernel
theorem dX5_copy_15 : decode cX5_copy 15 = .ok (.ldc 40, 2) := by decide +kernel
theorem dX5_copy_17 : decode cX5_copy 17 = .ok (.invokevirtual 46, 3) := by decide +kernel
theorem dX5_copy_20 : decode cX5_copy 20 = .ok (.ireturn, 1) := by decide +kernel
theorem dX5_copy_21 : decode cX5_copy 21 = .ok (.aload_n 0, 1) := by decide +kernel
theorem dX5_copy_22 : decode cX5_copy 22 = .ok (.getfield 28, 3) := by decide +kernel
theorem dX5_copy_25 : decode cX5_copy 25 = .ok (.iload_n 1, 1) := by decide +kernel
theorem dX5_copy_26 : decode cX5_copy 26 = .ok (.iaload, 1) := by decide +kernel
theorem dX5_copy_27 : decode cX5_copy 27 = .ok (.ifCond .lt 12, 3) := by decide +kernel
theorem dX5_copy_30 : decode cX5_copy 30 = .ok (.aload_n 0, 1) := by decide +kernel
theorem dX5_copy_31 : decode cX5_copy 31 = .ok (.getfield 28, 3) := by decide +kernel
theorem dX5_copy_34 : decode cX5_copy 34 = .ok (.iload_n 3, 1) := by decide +kernel
theorem dX5_copy_35 : decode cX5_copy 35 = .ok (.iaload, 1) := by decide +kernel
theorem dX5_copy_36 : decode cX5_copy 36 = .ok (.ifCond .ge 11, 3) := by decide +kernel
theorem dX5_copy_39 : decode cX5_copy 39 = .ok (.aload_n 0, 1) := by decide +kernel
theorem dX5_copy_40 : decode cX5_copy 40 = .ok (.ldc_w 292, 3) := by decide +kernel
theorem dX5_copy_43 : decode cX5_copy 43 = .ok (.invokevirtual 46, 3) := by decide +kernel
theorem dX5_copy_46 : decode cX5_copy 46 = .ok (.ireturn, 1) := by decide +kernel
theorem dX5_copy_47 : decode cX5_copy 47 = .ok (.aload_n 0, 1) := by decide +kernel
theorem dX5_copy_48 : decode cX5_copy 48 = .ok (.getfield 28, 3) := by decide +kernel
theorem dX5_copy_51 : decode cX5_copy 51 = .ok (.iload_n 1, 1) := by decide +kernel
theorem dX5_copy_52 : decode cX5_copy 52 = .ok (.iaload, 1) := by decide +kernel
theorem dX5_copy_53 : decode cX5_copy 53 = .ok (.aload_n 0, 1) := by decide +kernel
theorem dX5_copy_54 : decode cX5_copy 54 = .ok (.getfield 28, 3) := by decide +kernel
theorem dX5_copy_57 : decode cX5_copy 57 = .ok (.iload_n 3, 1) := by decide +kernel
theorem dX5_copy_58 : decode cX5_copy 58 = .ok (.iaload, 1) := by decide +kernel
theorem dX5_copy_59 : decode cX5_copy 59 = .ok (.if_icmp .eq 11, 3) := by decide +kernel
theorem dX5_copy_62 : decode cX5_copy 62 = .ok (.aload_n 0, 1) := by decide +kernel
theorem dX5_copy_63 : decode cX5_copy 63 = .ok (.ldc_w 296, 3) := by decide +kernel
theorem dX5_copy_66 : decode cX5_copy 66 = .ok (.invokevirtual 46, 3) := by decide +kernel
theorem dX5_copy_69 : decode cX5_copy 69 = .ok (.ireturn, 1) := by decide +kernel
theorem dX5_copy_70 : decode cX5_copy 70 = .ok (.iload_n 2, 1) := by decide +kernel
theorem dX5_copy_71 : decode cX5_copy 71 = .ok (.ifCond .lt 40, 3) := by decide +kernel
theorem dX5_copy_74 : decode cX5_copy 74 = .ok (.iload 4, 2) := by decide +kernel
theorem dX5_copy_76 : decode cX5_copy 76 = .ok (.ifCond .lt 35, 3) := by decide +kernel
theorem dX5_copy_79 : decode cX5_copy 79 = .ok (.iload 5, 2) := by decide +kernel
theorem dX5_copy_81 : decode cX5_copy 81 = .ok (.ifCond .lt 30, 3) := by decide +kernel
theorem dX5_copy_84 : decode cX5_copy 84 = .ok (.iload 5, 2) := by decide +kernel
theorem dX5_copy_86 : decode cX5_copy 86 = .ok (.aload_n 0, 1) := by decide +kernel
theorem dX5_copy_87 : decode cX5_copy 87 = .ok (.getfield 31, 3) := by decide +kernel
theorem dX5_copy_90 : decode cX5_copy 90 = .ok (.iload_n 1, 1) := by decide +kernel
theorem dX5_copy_91 : decode cX5_copy 91 = .ok (.iaload, 1) := by decide +kernel
theorem dX5_copy_92 : decode cX5_copy 92 = .ok (.iload_n 2, 1) := by decide +kernel
theorem dX5_copy_93 : decode cX5_copy 93 = .ok (.isub, 1) := by decide +kernel
theorem dX5_copy_94 : decode cX5_copy 94 = .ok (.if_icmp .gt 17, 3) := by decide +kernel
theorem dX5_copy_97 : decode cX5_copy 97 = .ok (.iload 5, 2) := by decide +kernel
theorem dX5_copy_99 : decode cX5_copy 99 = .ok (.aload_n 0, 1) := by decide +kernel
theorem dX5_copy_100 : decode cX5_copy 100 = .ok (.getfield 31, 3) := by decide +kernel
theorem dX5_copy_103 : decode cX5_copy 103 = .ok (.iload_n 3, 1) := by decide +kernel
theorem dX5_copy_104 : decode cX5_copy 104 = .ok (.iaload, 1) := by decide +kernel
theorem dX5_copy_105 : decode cX5_copy 105 = .ok (.iload 4, 2) := by decide +kernel
theorem dX5_copy_107 : decode cX5_copy 107 = .ok (.isub, 1) := by decide +kernel
theorem dX5_copy_108 : decode cX5_copy 108 = .ok (.if_icmp .le 10, 3) := by decide +kernel
theorem dX5_copy_111 : decode cX5_copy 111 = .ok (.aload_n 0, 1) := by decide +kernel
theorem dX5_copy_112 : decode cX5_copy 112 = .ok (.ldc 40, 2) := by decide +kernel
theorem dX5_copy_114 : decode cX5_copy 114 = .ok (.invokevirtual 46, 3) := by decide +kernel
theorem dX5_copy_117 : decode cX5_copy 117 = .ok (.ireturn, 1) := by decide +kernel
theorem dX5_copy_118 : decode cX5_copy 118 = .ok (.bipush 40, 2) := by decide +kernel
theorem dX5_copy_120 : decode cX5_copy 120 = .ok (.iload_n 1, 1) := by decide +kernel
theorem dX5_copy_121 : decode cX5_copy 121 = .ok (.imul, 1) := by decide +kernel
theorem dX5_copy_122 : decode cX5_copy 122 = .ok (.iload_n 2, 1) := by decide +kernel
theorem dX5_copy_123 : decode cX5_copy 123 = .ok (.iadd, 1) := by decide +kernel
theorem dX5_copy_124 : decode cX5_copy 124 = .ok (.istore 6, 2) := by decide +kernel
theorem dX5_copy_126 : decode cX5_copy 126 = .ok (.bipush 40, 2) := by decide +kernel
theorem dX5_copy_128 : decode cX5_copy 128 = .ok (.iload_n 3, 1) := by decide +kernel
theorem dX5_copy_129 : decode cX5_copy 129 = .ok (.imul, 1) := by decide +kernel
theorem dX5_copy_130 : decode cX5_copy 130 = .ok (.iload 4, 2) := by decide +kernel
theorem dX5_copy_132 : decode cX5_copy 132 = .ok (.iadd, 1) := by decide +kernel
theorem dX5_copy_133 : decode cX5_copy 133 = .ok (.istore 7, 2) := by decide +kernel
theorem dX5_copy_135 : decode cX5_copy 135 = .ok (.iconst 0, 1) := by decide +kernel
theorem dX5_copy_136 : decode cX5_copy 136 = .ok (.istore 8, 2) := by decide +kernel
theorem dX5_copy_138 : decode cX5_copy 138 = .ok (.iload 8, 2) := by decide +kernel
theorem dX5_copy_140 : decode cX5_copy 140 = .ok (.iload 5, 2) := by decide +kernel
theorem dX5_copy_142 : decode cX5_copy 142 = .ok (.if_icmp .ge 50, 3) := by decide +kernel
theorem dX5_copy_145 : decode cX5_copy 145 = .ok (.iload 6, 2) := by decide +kernel
theorem dX5_copy_147 : decode cX5_copy 147 = .ok (.iload 7, 2) := by decide +kernel
theorem dX5_copy_149 : decode cX5_copy 149 = .ok (.if_icmp .ge 13, 3) := by decide +kernel
theorem dX5_copy_152 : decode cX5_copy 152 = .ok (.iload 5, 2) := by decide +kernel
theorem dX5_copy_154 : decode cX5_copy 154 = .ok (.iconst 1, 1) := by decide +kernel
theorem dX5_copy_155 : decode cX5_copy 155 = .ok (.isub, 1) := by decide +kernel
theorem dX5_copy_156 : decode cX5_copy 156 = .ok (.iload 8, 2) := by decide +kernel
theorem dX5_copy_158 : decode cX5_copy 158 = .ok (.isub, 1) := by decide +kernel
theorem dX5_copy_159 : decode cX5_copy 159 = .ok (.goto 5, 3) := by decide +kernel
theorem dX5_copy_162 : decode cX5_copy 162 = .ok (.iload 8, 2) := by decide +kernel
theorem dX5_copy_164 : decode cX5_copy 164 = .ok (.istore 9, 2) := by decide +kernel
theorem dX5_copy_166 : decode cX5_copy 166 = .ok (.aload_n 0, 1) := by decide +kernel
theorem dX5_copy_167 : decode cX5_copy 167 = .ok (.getfield 34, 3) := by decide +kernel
theorem dX5_copy_170 : decode cX5_copy 170 = .ok (.iload 7, 2) := by decide +kernel
theorem dX5_copy_172 : decode cX5_copy 172 = .ok (.iload 9, 2) := by decide +kernel
theorem dX5_copy_174 : decode cX5_copy 174 = .ok (.iadd, 1) := by decide +kernel
theorem dX5_copy_175 : decode cX5_copy 175 = .ok (.aload_n 0, 1) := by decide +kernel
theorem dX5_copy_176 : decode cX5_copy 176 = .ok (.getfield 34, 3) := by decide +kernel
theorem dX5_copy_179 : decode cX5_copy 179 = .ok (.iload 6, 2) := by decide +kernel
theorem dX5_copy_181 : decode cX5_copy 181 = .ok (.iload 9, 2) := by decide +kernel
theorem dX5_copy_183 : decode cX5_copy 183 = .ok (.iadd, 1) := by decide +kernel
theorem dX5_copy_184 : decode cX5_copy 184 = .ok (.iaload, 1) := by decide +kernel
theorem dX5_copy_185 : decode cX5_copy 185 = .ok (.iastore, 1) := by decide +kernel
theorem dX5_copy_186 : decode cX5_copy 186 = .ok (.iinc 8 1, 3) := by decide +kernel
theorem dX5_copy_189 : decode cX5_copy 189 = .ok (.goto (-51), 3) := by decide +kernel
theorem dX5_copy_192 : decode cX5_copy 192 = .ok (.iload 5, 2) := by decide +kernel
theorem dX5_copy_194 : decode cX5_copy 194 = .ok (.ireturn, 1) := by decide +kernel
theorem dX5_wants_0 : decode cX5_wants 0 = .ok (.iload_n 1, 1) := by decide +kernel
theorem dX5_wants_1 : decode cX5_wants 1 = .ok (.invokestatic 297, 3) := by decide +kernel
theorem dX5_wants_4 : decode cX5_wants 4 = .ok (.ifCond .ne 8, 3) := by decide +kernel
theorem dX5_wants_7 : decode cX5_wants 7 = .ok (.ldc 40, 2) := by decide +kernel
theorem dX5_wants_9 : decode cX5_wants 9 = .ok (.goto 19, 3) := by decide +kernel
theorem dX5_wants_12 : decode cX5_wants 12 = .ok (.aload_n 0, 1) := by decide +kernel
theorem dX5_wants_13 : decode cX5_wants 13 = .ok (.getfield 28, 3) := by decide +kernel
theorem dX5_wants_16 : decode cX5_wants 16 = .ok (.iload_n 1, 1) := by decide +kernel
theorem dX5_wants_17 : decode cX5_wants 17 = .ok (.iaload, 1) := by decide +kernel
theorem dX5_wants_18 : decode cX5_wants 18 = .ok (.ifCond .ge 9, 3) := by decide +kernel
theorem dX5_wants_21 : decode cX5_wants 21 = .ok (.ldc_w 292, 3) := by decide +kernel
theorem dX5_wants_24 : decode cX5_wants 24 = .ok (.goto 4, 3) := by decide +kernel
theorem dX5_wants_27 : decode cX5_wants 27 = .ok (.iconst 0, 1) := by decide +kernel
theorem dX5_wants_28 : decode cX5_wants 28 = .ok (.ireturn, 1) := by decide +kernel
theorem dX5_load_0 : decode cX5_load 0 = .ok (.aload_n 0, 1) := by decide +kernel
theorem dX5_load_1 : decode cX5_load 1 = .ok (.iload_n 1, 1) := by decide +kernel
theorem dX5_load_2 : decode cX5_load 2 = .ok (.invokevirtual 197, 3) := by decide +kernel
theorem dX5_load_5 : decode cX5_load 5 = .ok (.ifCond .eq 13, 3) := by decide +kernel
theorem dX5_load_8 : decode cX5_load 8 = .ok (.aload_n 0, 1) := by decide +kernel
theorem dX5_load_9 : decode cX5_load 9 = .ok (.aload_n 0, 1) := by decide +kernel
theorem dX5_load_10 : decode cX5_load 10 = .ok (.iload_n 1, 1) := by decide +kernel
theorem dX5_load_11 : decode cX5_load 11 = .ok (.invokevirtual 197, 3) := by decide +kernel
theorem dX5_load_14 : decode cX5_load 14 = .ok (.invokevirtual 46, 3) := by decide +kernel
theorem dX5_load_17 : decode cX5_load 17 = .ok (.ireturn, 1) := by decide +kernel
theorem dX5_load_18 : decode cX5_load 18 = .ok (.iconst 0, 1) := by decide +kernel
theorem dX5_load_19 : decode cX5_load 19 = .ok (.istore_n 2, 1) := by decide +kernel
theorem dX5_load_20 : decode cX5_load 20 = .ok (.iload_n 2, 1) := by decide +kernel
theorem dX5_load_21 : decode cX5_load 21 = .ok (.aload_n 0, 1) := by decide +kernel
theorem dX5_load_22 : decode cX5_load 22 = .ok (.getfield 31, 3) := by decide +kernel
theorem dX5_load_25 : decode cX5_load 25 = .ok (.iload_n 1, 1) := by decide +kernel
theorem dX5_load_26 : decode cX5_load 26 = .ok (.iaload, 1) := by decide +kernel
theorem dX5_load_27 : decode cX5_load 27 = .ok (.if_icmp .ge 56, 3) := by decide +kernel
theorem dX5_load_30 : decode cX5_load 30 = .ok (.iload_n 2, 1) := by decide +kernel
theorem dX5_load_31 : decode cX5_load 31 = .ok (.bipush 8, 2) := by decide +kernel
theorem dX5_load_33 : decode cX5_load 33 = .ok (.if_icmp .ge 50, 3) := by decide +kernel
theorem dX5_load_36 : decode cX5_load 36 = .ok (.aload_n 0, 1) := by decide +kernel
theorem dX5_load_37 : decode cX5_load 37 = .ok (.getfield 34, 3) := by decide +kernel
theorem dX5_load_40 : decode cX5_load 40 = .ok (.bipush 40, 2) := by decide +kernel
theorem dX5_load_42 : decode cX5_load 42 = .ok (.iload_n 1, 1) := by decide +kernel
theorem dX5_load_43 : decode cX5_load 43 = .ok (.imul, 1) := by decide +kernel
theorem dX5_load_44 : decode cX5_load 44 = .ok (.iload_n 2, 1) := by decide +kernel
theorem dX5_load_45 : decode cX5_load 45 = .ok (.iadd, 1) := by decide +kernel
theorem dX5_load_46 : decode cX5_load 46 = .ok (.iaload, 1) := by decide +kernel
theorem dX5_load_47 : decode cX5_load 47 = .ok (.i2l, 1) := by decide +kernel
theorem dX5_load_48 : decode cX5_load 48 = .ok (.lconst 0, 1) := by decide +kernel
theorem dX5_load_49 : decode cX5_load 49 = .ok (.ldc2_w 54, 3) := by decide +kernel
theorem dX5_load_52 : decode cX5_load 52 = .ok (.invokestatic 56, 3) := by decide +kernel
theorem dX5_load_55 : decode cX5_load 55 = .ok (.ifCond .eq 28, 3) := by decide +kernel
theorem dX5_load_58 : decode cX5_load 58 = .ok (.aload_n 0, 1) := by decide +kernel
theorem dX5_load_59 : decode cX5_load 59 = .ok (.getfield 7, 3) := by decide +kernel
theorem dX5_load_62 : decode cX5_load 62 = .ok (.iconst 3, 1) := by decide +kernel
theorem dX5_load_63 : decode cX5_load 63 = .ok (.iload_n 2, 1) := by decide +kernel
theorem dX5_load_64 : decode cX5_load 64 = .ok (.iadd, 1) := by decide +kernel
theorem dX5_load_65 : decode cX5_load 65 = .ok (.aload_n 0, 1) := by decide +kernel
theorem dX5_load_66 : decode cX5_load 66 = .ok (.getfield 34, 3) := by decide +kernel
theorem dX5_load_69 : decode cX5_load 69 = .ok (.bipush 40, 2) := by decide +kernel
theorem dX5_load_71 : decode cX5_load 71 = .ok (.iload_n 1, 1) := by decide +kernel
theorem dX5_load_72 : decode cX5_load 72 = .ok (.imul, 1) := by decide +kernel
theorem dX5_load_73 : decode cX5_load 73 = .ok (.iload_n 2, 1) := by decide +kernel
theorem dX5_load_74 : decode cX5_load 74 = .ok (.iadd, 1) := by decide +kernel
theorem dX5_load_75 : decode cX5_load 75 = .ok (.iaload, 1) := by decide +kernel
theorem dX5_load_76 : decode cX5_load 76 = .ok (.iastore, 1) := by decide +kernel
theorem dX5_load_77 : decode cX5_load 77 = .ok (.iinc 2 1, 3) := by decide +kernel
theorem dX5_load_80 : decode cX5_load 80 = .ok (.goto (-60), 3) := by decide +kernel
theorem dX5_load_83 : decode cX5_load 83 = .ok (.iload_n 2, 1) := by decide +kernel
theorem dX5_load_84 : decode cX5_load 84 = .ok (.ireturn, 1) := by decide +kernel
theorem dX5_judge_0 : decode cX5_judge 0 = .ok (.aload_n 0, 1) := by decide +kernel
theorem dX5_judge_1 : decode cX5_judge 1 = .ok (.iload_n 1, 1) := by decide +kernel
theorem dX5_judge_2 : decode cX5_judge 2 = .ok (.invokevirtual 197, 3) := by decide +kernel
theorem dX5_judge_5 : decode cX5_judge 5 = .ok (.ifCond .eq 13, 3) := by decide +kernel
theorem dX5_judge_8 : decode cX5_judge 8 = .ok (.aload_n 0, 1) := by decide +kernel
theorem dX5_judge_9 : decode cX5_judge 9 = .ok (.aload_n 0, 1) := by decide +kernel
theorem dX5_judge_10 : decode cX5_judge 10 = .ok (.iload_n 1, 1) := by decide +kernel
theorem dX5_judge_11 : decode cX5_judge 11 = .ok (.invokevirtual 197, 3) := by decide +kernel
theorem dX5_judge_14 : decode cX5_judge 14 = .ok (.invokevirtual 46, 3) := by decide +kernel
theorem dX5_judge_17 : decode cX5_judge 17 = .ok (.ireturn, 1) := by decide +kernel
theorem dX5_judge_18 : decode cX5_judge 18 = .ok (.iconst 0, 1) := by decide +kernel
theorem dX5_judge_19 : decode cX5_judge 19 = .ok (.istore_n 2, 1) := by decide +kernel
theorem dX5_judge_20 : decode cX5_judge 20 = .ok (.iload_n 2, 1) := by decide +kernel
theorem dX5_judge_21 : decode cX5_judge 21 = .ok (.aload_n 0, 1) := by decide +kernel
theorem dX5_judge_22 : decode cX5_judge 22 = .ok (.getfield 31, 3) := by decide +kernel
theorem dX5_judge_25 : decode cX5_judge 25 = .ok (.iload_n 1, 1) := by decide +kernel
theorem dX5_judge_26 : decode cX5_judge 26 = .ok (.iaload, 1) := by decide +kernel
theorem dX5_judge_27 : decode cX5_judge 27 = .ok (.if_icmp .ge 34, 3) := by decide +kernel
theorem dX5_judge_30 : decode cX5_judge 30 = .ok (.iload_n 2, 1) := by decide +kernel
theorem dX5_judge_31 : decode cX5_judge 31 = .ok (.bipush 6, 2) := by decide +kernel
theorem dX5_judge_33 : decode cX5_judge 33 = .ok (.if_icmp .ge 28, 3) := by decide +kernel
theorem dX5_judge_36 : decode cX5_judge 36 = .ok (.aload_n 0, 1) := by decide +kernel
theorem dX5_judge_37 : decode cX5_judge 37 = .ok (.getfield 34, 3) := by decide +kernel
theorem dX5_judge_40 : decode cX5_judge 40 = .ok (.bipush 40, 2) := by decide +kernel
theorem dX5_judge_42 : decode cX5_judge 42 = .ok (.iload_n 1, 1) := by decide +kernel
theorem dX5_judge_43 : decode cX5_judge 43 = .ok (.imul, 1) := by decide +kernel
theorem dX5_judge_44 : decode cX5_judge 44 = .ok (.iload_n 2, 1) := by decide +kernel
theorem dX5_judge_45 : decode cX5_judge 45 = .ok (.iadd, 1) := by decide +kernel
theorem dX5_judge_46 : decode cX5_judge 46 = .ok (.iaload, 1) := by decide +kernel
theorem dX5_judge_47 : decode cX5_judge 47 = .ok (.aload_n 0, 1) := by decide +kernel
theorem dX5_judge_48 : decode cX5_judge 48 = .ok (.iload_n 2, 1) := by decide +kernel
theorem dX5_judge_49 : decode cX5_judge 49 = .ok (.invokevirtual 72, 3) := by decide +kernel
theorem dX5_judge_52 : decode cX5_judge 52 = .ok (.if_icmp .ne 9, 3) := by decide +kernel
theorem dX5_judge_55 : decode cX5_judge 55 = .ok (.iinc 2 1, 3) := by decide +kernel
theorem dX5_judge_58 : decode cX5_judge 58 = .ok (.goto (-38), 3) := by decide +kernel
theorem dX5_judge_61 : decode cX5_judge 61 = .ok (.iload_n 2, 1) := by decide +kernel
theorem dX5_judge_62 : decode cX5_judge 62 = .ok (.aload_n 0, 1) := by decide +kernel
theorem dX5_judge_63 : decode cX5_judge 63 = .ok (.getfield 31, 3) := by decide +kernel
theorem dX5_judge_66 : decode cX5_judge 66 = .ok (.iload_n 1, 1) := by decide +kernel
theorem dX5_judge_67 : decode cX5_judge 67 = .ok (.iaload, 1) := by decide +kernel
theorem dX5_judge_68 : decode cX5_judge 68 = .ok (.if_icmp .ge 9, 3) := by decide +kernel
theorem dX5_judge_71 : decode cX5_judge 71 = .ok (.iconst 1, 1) := by decide +kernel
theorem dX5_judge_72 : decode cX5_judge 72 = .ok (.iload_n 2, 1) := by decide +kernel
theorem dX5_judge_73 : decode cX5_judge 73 = .ok (.iadd, 1) := by decide +kernel
theorem dX5_judge_74 : decode cX5_judge 74 = .ok (.goto 4, 3) := by decide +kernel
theorem dX5_judge_77 : decode cX5_judge 77 = .ok (.iconst 0, 1) := by decide +kernel
theorem dX5_judge_78 : decode cX5_judge 78 = .ok (.ireturn, 1) := by decide +kernel
theorem dX5_image_0 : decode cX5_image 0 = .ok (.aload_n 0, 1) := by decide +kernel
theorem dX5_image_1 : decode cX5_image 1 = .ok (.getfield 7, 3) := by decide +kernel
theorem dX5_image_4 : decode cX5_image 4 = .ok (.aload_n 0, 1) := by decide +kernel
theorem dX5_image_5 : decode cX5_image 5 = .ok (.getfield 13, 3) := by decide +kernel
theorem dX5_image_8 : decode cX5_image 8 = .ok (.invokestatic 160, 3) := by decide +kernel
theorem dX5_image_11 : decode cX5_image 11 = .ok (.aload_n 0, 1) := by decide +kernel
theorem dX5_image_12 : decode cX5_image 12 = .ok (.iconst 1, 1) := by decide +kernel
theorem dX5_image_13 : decode cX5_image 13 = .ok (.putfield 301, 3) := by decide +kernel
theorem dX5_image_16 : decode cX5_image 16 = .ok (.iconst 1, 1) := by decide +kernel
theorem dX5_image_17 : decode cX5_image 17 = .ok (.ireturn, 1) := by decide +kernel
theorem dX5_undo_0 : decode cX5_undo 0 = .ok (.aload_n 0, 1) := by decide +kernel
theorem dX5_undo_1 : decode cX5_undo 1 = .ok (.getfield 301, 3) := by decide +kernel
theorem dX5_undo_4 : decode cX5_undo 4 = .ok (.ifCond .ne 10, 3) := by decide +kernel
theorem dX5_undo_7 : decode cX5_undo 7 = .ok (.aload_n 0, 1) := by decide +kernel
theorem dX5_undo_8 : decode cX5_undo 8 = .ok (.ldc 45, 2) := by decide +kernel
theorem dX5_undo_10 : decode cX5_undo 10 = .ok (.invokevirtual 46, 3) := by decide +kernel
theorem dX5_undo_13 : decode cX5_undo 13 = .ok (.ireturn, 1) := by decide +kernel
theorem dX5_undo_14 : decode cX5_undo 14 = .ok (.aload_n 0, 1) := by decide +kernel
theorem dX5_undo_15 : decode cX5_undo 15 = .ok (.getfield 13, 3) := by decide +kernel
theorem dX5_undo_18 : decode cX5_undo 18 = .ok (.aload_n 0, 1) := by decide +kernel
theorem dX5_undo_19 : decode cX5_undo 19 = .ok (.getfield 7, 3) := by decide +kernel
theorem dX5_undo_22 : decode cX5_undo 22 = .ok (.invokestatic 160, 3) := by decide +kernel
theorem dX5_undo_25 : decode cX5_undo 25 = .ok (.aload_n 0, 1) := by decide +kernel
theorem dX5_undo_26 : decode cX5_undo 26 = .ok (.getfield 7, 3) := by decide +kernel
theorem dX5_undo_29 : decode cX5_undo 29 = .ok (.iconst 1, 1) := by decide +kernel
theorem dX5_undo_30 : decode cX5_undo 30 = .ok (.iaload, 1) := by decide +kernel
theorem dX5_undo_31 : decode cX5_undo 31 = .ok (.ireturn, 1) := by decide +kernel
theorem dX5_tear_0 : decode cX5_tear 0 = .ok (.aload_n 0, 1) := by decide +kernel
theorem dX5_tear_1 : decode cX5_tear 1 = .ok (.getfield 301, 3) := by decide +kernel
theorem dX5_tear_4 : decode cX5_tear 4 = .ok (.istore_n 1, 1) := by decide +kernel
theorem dX5_tear_5 : decode cX5_tear 5 = .ok (.aload_n 0, 1) := by decide +kernel
theorem dX5_tear_6 : decode cX5_tear 6 = .ok (.iconst 0, 1) := by decide +kernel
theorem dX5_tear_7 : decode cX5_tear 7 = .ok (.putfield 301, 3) := by decide +kernel
theorem dX5_tear_10 : decode cX5_tear 10 = .ok (.iload_n 1, 1) := by decide +kernel
theorem dX5_tear_11 : decode cX5_tear 11 = .ok (.ifCond .eq 7, 3) := by decide +kernel
theorem dX5_tear_14 : decode cX5_tear 14 = .ok (.iconst 1, 1) := by decide +kernel
theorem dX5_tear_15 : decode cX5_tear 15 = .ok (.goto 4, 3) := by decide +kernel
theorem dX5_tear_18 : decode cX5_tear 18 = .ok (.iconst 0, 1) := by decide +kernel
theorem dX5_tear_19 : decode cX5_tear 19 = .ok (.ireturn, 1) := by decide +kernel
theorem dX5_count_0 : decode cX5_count 0 = .ok (.iconst 0, 1) := by decide +kernel
theorem dX5_count_1 : decode cX5_count 1 = .ok (.istore_n 2, 1) := by decide +kernel
theorem dX5_count_2 : decode cX5_count 2 = .ok (.iload_n 1, 1) := by decide +kernel
theorem dX5_count_3 : decode cX5_count 3 = .ok (.tableswitch 122 0 7 #[45, 52, 59, 64, 69, 74, 79, 86], 45) := by decide +kernel
theorem dX5_count_48 : decode cX5_count 48 = .ok (.aload_n 0, 1) := by decide +kernel
theorem dX5_count_49 : decode cX5_count 49 = .ok (.getfield 7, 3) := by decide +kernel
theorem dX5_count_52 : decode cX5_count 52 = .ok (.iconst 1, 1) := by decide +kernel
theorem dX5_count_53 : decode cX5_count 53 = .ok (.iaload, 1) := by decide +kernel
theorem dX5_count_54 : decode cX5_count 54 = .ok (.ireturn, 1) := by decide +kernel
theorem dX5_count_55 : decode cX5_count 55 = .ok (.aload_n 0, 1) := by decide +kernel
theorem dX5_count_56 : decode cX5_count 56 = .ok (.getfield 7, 3) := by decide +kernel
theorem dX5_count_59 : decode cX5_count 59 = .ok (.iconst 0, 1) := by decide +kernel
theorem dX5_count_60 : decode cX5_count 60 = .ok (.iaload, 1) := by decide +kernel
theorem dX5_count_61 : decode cX5_count 61 = .ok (.ireturn, 1) := by decide +kernel
theorem dX5_count_62 : decode cX5_count 62 = .ok (.aload_n 0, 1) := by decide +kernel
theorem dX5_count_63 : decode cX5_count 63 = .ok (.invokevirtual 142, 3) := by decide +kernel
theorem dX5_count_66 : decode cX5_count 66 = .ok (.ireturn, 1) := by decide +kernel
theorem dX5_count_67 : decode cX5_count 67 = .ok (.aload_n 0, 1) := by decide +kernel
theorem dX5_count_68 : decode cX5_count 68 = .ok (.invokevirtual 149, 3) := by decide +kernel
theorem dX5_count_71 : decode cX5_count 71 = .ok (.ireturn, 1) := by decide +kernel
theorem dX5_count_72 : decode cX5_count 72 = .ok (.aload_n 0, 1) := by decide +kernel
theorem dX5_count_73 : decode cX5_count 73 = .ok (.invokevirtual 146, 3) := by decide +kernel
theorem dX5_count_76 : decode cX5_count 76 = .ok (.ireturn, 1) := by decide +kernel
theorem dX5_count_77 : decode cX5_count 77 = .ok (.aload_n 0, 1) := by decide +kernel
theorem dX5_count_78 : decode cX5_count 78 = .ok (.getfield 212, 3) := by decide +kernel
theorem dX5_count_81 : decode cX5_count 81 = .ok (.ireturn, 1) := by decide +kernel
theorem dX5_count_82 : decode cX5_count 82 = .ok (.aload_n 0, 1) := by decide +kernel
theorem dX5_count_83 : decode cX5_count 83 = .ok (.getfield 7, 3) := by decide +kernel
theorem dX5_count_86 : decode cX5_count 86 = .ok (.iconst 2, 1) := by decide +kernel
theorem dX5_count_87 : decode cX5_count 87 = .ok (.iaload, 1) := by decide +kernel
theorem dX5_count_88 : decode cX5_count 88 = .ok (.ireturn, 1) := by decide +kernel
theorem dX5_count_89 : decode cX5_count 89 = .ok (.iconst 0, 1) := by decide +kernel
theorem dX5_count_90 : decode cX5_count 90 = .ok (.istore_n 3, 1) := by decide +kernel
theorem dX5_count_91 : decode cX5_count 91 = .ok (.iload_n 3, 1) := by decide +kernel
theorem dX5_count_92 : decode cX5_count 92 = .ok (.bipush 10, 2) := by decide +kernel
theorem dX5_count_94 : decode cX5_count 94 = .ok (.if_icmp .ge 29, 3) := by decide +kernel
theorem dX5_count_97 : decode cX5_count 97 = .ok (.iload_n 2, 1) := by decide +kernel
theorem dX5_count_98 : decode cX5_count 98 = .ok (.aload_n 0, 1) := by decide +kernel
theorem dX5_count_99 : decode cX5_count 99 = .ok (.getfield 7, 3) := by decide +kernel
theorem dX5_count_102 : decode cX5_count 102 = .ok (.bipush 83, 2) := by decide +kernel
theorem dX5_count_104 : decode cX5_count 104 = .ok (.iload_n 3, 1) := by decide +kernel
theorem dX5_count_105 : decode cX5_count 105 = .ok (.iadd, 1) := by decide +kernel
theorem dX5_count_106 : decode cX5_count 106 = .ok (.iaload, 1) := by decide +kernel
theorem dX5_count_107 : decode cX5_count 107 = .ok (.ifCond .ge 7, 3) := by decide +kernel
theorem dX5_count_110 : decode cX5_count 110 = .ok (.iconst 0, 1) := by decide +kernel
theorem dX5_count_111 : decode cX5_count 111 = .ok (.goto 4, 3) := by decide +kernel
theorem dX5_count_114 : decode cX5_count 114 = .ok (.iconst 1, 1) := by decide +kernel
theorem dX5_count_115 : decode cX5_count 115 = .ok (.iadd, 1) := by decide +kernel
theorem dX5_count_116 : decode cX5_count 116 = .ok (.istore_n 2, 1) := by decide +kernel
theorem dX5_count_117 : decode cX5_count 117 = .ok (.iinc 3 1, 3) := by decide +kernel
theorem dX5_count_120 : decode cX5_count 120 = .ok (.goto (-29), 3) := by decide +kernel
theorem dX5_count_123 : decode cX5_count 123 = .ok (.iload_n 2, 1) := by decide +kernel
theorem dX5_count_124 : decode cX5_count 124 = .ok (.ireturn, 1) := by decide +kernel
theorem dX5_count_125 : decode cX5_count 125 = .ok (.aload_n 0, 1) := by decide +kernel
theorem dX5_count_126 : decode cX5_count 126 = .ok (.ldc 40, 2) := by decide +kernel
theorem dX5_count_128 : decode cX5_count 128 = .ok (.invokevirtual 46, 3) := by decide +kernel
theorem dX5_count_131 : decode cX5_count 131 = .ok (.ireturn, 1) := by decide +kernel
theorem dX5_status_0 : decode cX5_status 0 = .ok (.iload_n 1, 1) := by decide +kernel
theorem dX5_status_1 : decode cX5_status 1 = .ok (.i2l, 1) := by decide +kernel
theorem dX5_status_2 : decode cX5_status 2 = .ok (.ldc2_w 305, 3) := by decide +kernel
theorem dX5_status_5 : decode cX5_status 5 = .ok (.ldc2_w 87, 3) := by decide +kernel
theorem dX5_status_8 : decode cX5_status 8 = .ok (.invokestatic 56, 3) := by decide +kernel
theorem dX5_status_11 : decode cX5_status 11 = .ok (.ifCond .eq 14, 3) := by decide +kernel
theorem dX5_status_14 : decode cX5_status 14 = .ok (.aload_n 0, 1) := by decide +kernel
theorem dX5_status_15 : decode cX5_status 15 = .ok (.getfield 22, 3) := by decide +kernel
theorem dX5_status_18 : decode cX5_status 18 = .ok (.iload_n 1, 1) := by decide +kernel
theorem dX5_status_19 : decode cX5_status 19 = .ok (.iconst 1, 1) := by decide +kernel
theorem dX5_status_20 : decode cX5_status 20 = .ok (.iadd, 1) := by decide +kernel
theorem dX5_status_21 : decode cX5_status 21 = .ok (.iaload, 1) := by decide +kernel
theorem dX5_status_22 : decode cX5_status 22 = .ok (.goto 9, 3) := by decide +kernel
theorem dX5_status_25 : decode cX5_status 25 = .ok (.aload_n 0, 1) := by decide +kernel
theorem dX5_status_26 : decode cX5_status 26 = .ok (.ldc 40, 2) := by decide +kernel
theorem dX5_status_28 : decode cX5_status 28 = .ok (.invokevirtual 46, 3) := by decide +kernel
end
section
theorem dX5_status_31 : decode cX5_status 31 = .ok (.ireturn, 1) := by decide +kernel
theorem dJ6_bitCount_0f7a4_0 : decode cJ6_bitCount_0f7a4 0 = .ok (.iload_n 0, 1) := by decide +kernel
theorem dJ6_bitCount_0f7a4_1 : decode cJ6_bitCount_0f7a4 1 = .ok (.iload_n 0, 1) := by decide +kernel
theorem dJ6_bitCount_0f7a4_2 : decode cJ6_bitCount_0f7a4 2 = .ok (.iconst 1, 1) := by decide +kernel
theorem dJ6_bitCount_0f7a4_3 : decode cJ6_bitCount_0f7a4 3 = .ok (.iushr, 1) := by decide +kernel
theorem dJ6_bitCount_0f7a4_4 : decode cJ6_bitCount_0f7a4 4 = .ok (.ldc_w 265, 3) := by decide +kernel
theorem dJ6_bitCount_0f7a4_7 : decode cJ6_bitCount_0f7a4 7 = .ok (.iand, 1) := by decide +kernel
theorem dJ6_bitCount_0f7a4_8 : decode cJ6_bitCount_0f7a4 8 = .ok (.isub, 1) := by decide +kernel
theorem dJ6_bitCount_0f7a4_9 : decode cJ6_bitCount_0f7a4 9 = .ok (.istore_n 0, 1) := by decide +kernel
theorem dJ6_bitCount_0f7a4_10 : decode cJ6_bitCount_0f7a4 10 = .ok (.iload_n 0, 1) := by decide +kernel
theorem dJ6_bitCount_0f7a4_11 : decode cJ6_bitCount_0f7a4 11 = .ok (.ldc_w 266, 3) := by decide +kernel
theorem dJ6_bitCount_0f7a4_14 : decode cJ6_bitCount_0f7a4 14 = .ok (.iand, 1) := by decide +kernel
theorem dJ6_bitCount_0f7a4_15 : decode cJ6_bitCount_0f7a4 15 = .ok (.iload_n 0, 1) := by decide +kernel
theorem dJ6_bitCount_0f7a4_16 : decode cJ6_bitCount_0f7a4 16 = .ok (.iconst 2, 1) := by decide +kernel
theorem dJ6_bitCount_0f7a4_17 : decode cJ6_bitCount_0f7a4 17 = .ok (.iushr, 1) := by decide +kernel
theorem dJ6_bitCount_0f7a4_18 : decode cJ6_bitCount_0f7a4 18 = .ok (.ldc_w 266, 3) := by decide +kernel
theorem dJ6_bitCount_0f7a4_21 : decode cJ6_bitCount_0f7a4 21 = .ok (.iand, 1) := by decide +kernel
theorem dJ6_bitCount_0f7a4_22 : decode cJ6_bitCount_0f7a4 22 = .ok (.iadd, 1) := by decide +kernel
theorem dJ6_bitCount_0f7a4_23 : decode cJ6_bitCount_0f7a4 23 = .ok (.istore_n 0, 1) := by decide +kernel
theorem dJ6_bitCount_0f7a4_24 : decode cJ6_bitCount_0f7a4 24 = .ok (.iload_n 0, 1) := by decide +kernel
theorem dJ6_bitCount_0f7a4_25 : decode cJ6_bitCount_0f7a4 25 = .ok (.iload_n 0, 1) := by decide +kernel
theorem dJ6_bitCount_0f7a4_26 : decode cJ6_bitCount_0f7a4 26 = .ok (.iconst 4, 1) := by decide +kernel
theorem dJ6_bitCount_0f7a4_27 : decode cJ6_bitCount_0f7a4 27 = .ok (.iushr, 1) := by decide +kernel
theorem dJ6_bitCount_0f7a4_28 : decode cJ6_bitCount_0f7a4 28 = .ok (.iadd, 1) := by decide +kernel
theorem dJ6_bitCount_0f7a4_29 : decode cJ6_bitCount_0f7a4 29 = .ok (.ldc_w 267, 3) := by decide +kernel
theorem dJ6_bitCount_0f7a4_32 : decode cJ6_bitCount_0f7a4 32 = .ok (.iand, 1) := by decide +kernel
theorem dJ6_bitCount_0f7a4_33 : decode cJ6_bitCount_0f7a4 33 = .ok (.istore_n 0, 1) := by decide +kernel
theorem dJ6_bitCount_0f7a4_34 : decode cJ6_bitCount_0f7a4 34 = .ok (.iload_n 0, 1) := by decide +kernel
theorem dJ6_bitCount_0f7a4_35 : decode cJ6_bitCount_0f7a4 35 = .ok (.iload_n 0, 1) := by decide +kernel
theorem dJ6_bitCount_0f7a4_36 : decode cJ6_bitCount_0f7a4 36 = .ok (.bipush 8, 2) := by decide +kernel
theorem dJ6_bitCount_0f7a4_38 : decode cJ6_bitCount_0f7a4 38 = .ok (.iushr, 1) := by decide +kernel
theorem dJ6_bitCount_0f7a4_39 : decode cJ6_bitCount_0f7a4 39 = .ok (.iadd, 1) := by decide +kernel
theorem dJ6_bitCount_0f7a4_40 : decode cJ6_bitCount_0f7a4 40 = .ok (.istore_n 0, 1) := by decide +kernel
theorem dJ6_bitCount_0f7a4_41 : decode cJ6_bitCount_0f7a4 41 = .ok (.iload_n 0, 1) := by decide +kernel
theorem dJ6_bitCount_0f7a4_42 : decode cJ6_bitCount_0f7a4 42 = .ok (.iload_n 0, 1) := by decide +kernel
theorem dJ6_bitCount_0f7a4_43 : decode cJ6_bitCount_0f7a4 43 = .ok (.bipush 16, 2) := by decide +kernel
theorem dJ6_bitCount_0f7a4_45 : decode cJ6_bitCount_0f7a4 45 = .ok (.iushr, 1) := by decide +kernel
theorem dJ6_bitCount_0f7a4_46 : decode cJ6_bitCount_0f7a4 46 = .ok (.iadd, 1) := by decide +kernel
theorem dJ6_bitCount_0f7a4_47 : decode cJ6_bitCount_0f7a4 47 = .ok (.istore_n 0, 1) := by decide +kernel
theorem dJ6_bitCount_0f7a4_48 : decode cJ6_bitCount_0f7a4 48 = .ok (.iload_n 0, 1) := by decide +kernel
theorem dJ6_bitCount_0f7a4_49 : decode cJ6_bitCount_0f7a4 49 = .ok (.bipush 63, 2) := by decide +kernel
theorem dJ6_bitCount_0f7a4_51 : decode cJ6_bitCount_0f7a4 51 = .ok (.iand, 1) := by decide +kernel
theorem dJ6_bitCount_0f7a4_52 : decode cJ6_bitCount_0f7a4 52 = .ok (.ireturn, 1) := by decide +kernel
theorem dJ9_max_7cf53_0 : decode cJ9_max_7cf53 0 = .ok (.iload_n 0, 1) := by decide +kernel
theorem dJ9_max_7cf53_1 : decode cJ9_max_7cf53 1 = .ok (.iload_n 1, 1) := by decide +kernel
theorem dJ9_max_7cf53_2 : decode cJ9_max_7cf53 2 = .ok (.if_icmp .lt 7, 3) := by decide +kernel
theorem dJ9_max_7cf53_5 : decode cJ9_max_7cf53 5 = .ok (.iload_n 0, 1) := by decide +kernel
theorem dJ9_max_7cf53_6 : decode cJ9_max_7cf53 6 = .ok (.goto 4, 3) := by decide +kernel
theorem dJ9_max_7cf53_9 : decode cJ9_max_7cf53 9 = .ok (.iload_n 1, 1) := by decide +kernel
theorem dJ9_max_7cf53_10 : decode cJ9_max_7cf53 10 = .ok (.ireturn, 1) := by decide +kernel
theorem dJ9_min_7cf53_0 : decode cJ9_min_7cf53 0 = .ok (.iload_n 0, 1) := by decide +kernel
theorem dJ9_min_7cf53_1 : decode cJ9_min_7cf53 1 = .ok (.iload_n 1, 1) := by decide +kernel
theorem dJ9_min_7cf53_2 : decode cJ9_min_7cf53 2 = .ok (.if_icmp .gt 7, 3) := by decide +kernel
theorem dJ9_min_7cf53_5 : decode cJ9_min_7cf53 5 = .ok (.iload_n 0, 1) := by decide +kernel
theorem dJ9_min_7cf53_6 : decode cJ9_min_7cf53 6 = .ok (.goto 4, 3) := by decide +kernel
theorem dJ9_min_7cf53_9 : decode cJ9_min_7cf53 9 = .ok (.iload_n 1, 1) := by decide +kernel
theorem dJ9_min_7cf53_10 : decode cJ9_min_7cf53 10 = .ok (.ireturn, 1) := by decide +kernel
theorem dJ0_length_8abf5_0 : decode cJ0_length_8abf5 0 = .ok (.aload_n 0, 1) := by decide +kernel
theorem dJ0_length_8abf5_1 : decode cJ0_length_8abf5 1 = .ok (.getfield 9, 3) := by decide +kernel
theorem dJ0_length_8abf5_4 : decode cJ0_length_8abf5 4 = .ok (.arraylength, 1) := by decide +kernel
theorem dJ0_length_8abf5_5 : decode cJ0_length_8abf5 5 = .ok (.aload_n 0, 1) := by decide +kernel
theorem dJ0_length_8abf5_6 : decode cJ0_length_8abf5 6 = .ok (.invokevirtual 335, 3) := by decide +kernel
theorem dJ0_length_8abf5_9 : decode cJ0_length_8abf5 9 = .ok (.ishr, 1) := by decide +kernel
theorem dJ0_length_8abf5_10 : decode cJ0_length_8abf5 10 = .ok (.ireturn, 1) := by decide +kernel
theorem dJ0_charAt_5068e_0 : decode cJ0_charAt_5068e 0 = .ok (.aload_n 0, 1) := by decide +kernel
theorem dJ0_charAt_5068e_1 : decode cJ0_charAt_5068e 1 = .ok (.invokevirtual 492, 3) := by decide +kernel
theorem dJ0_charAt_5068e_4 : decode cJ0_charAt_5068e 4 = .ok (.ifCond .eq 12, 3) := by decide +kernel
theorem dJ0_charAt_5068e_7 : decode cJ0_charAt_5068e 7 = .ok (.aload_n 0, 1) := by decide +kernel
theorem dJ0_charAt_5068e_8 : decode cJ0_charAt_5068e 8 = .ok (.getfield 9, 3) := by decide +kernel
theorem dJ0_charAt_5068e_11 : decode cJ0_charAt_5068e 11 = .ok (.iload_n 1, 1) := by decide +kernel
theorem dJ0_charAt_5068e_12 : decode cJ0_charAt_5068e 12 = .ok (.invokestatic 495, 3) := by decide +kernel
theorem dJ0_charAt_5068e_15 : decode cJ0_charAt_5068e 15 = .ok (.ireturn, 1) := by decide +kernel
theorem dJ0_charAt_5068e_16 : decode cJ0_charAt_5068e 16 = .ok (.aload_n 0, 1) := by decide +kernel
theorem dJ0_charAt_5068e_17 : decode cJ0_charAt_5068e 17 = .ok (.getfield 9, 3) := by decide +kernel
theorem dJ0_charAt_5068e_20 : decode cJ0_charAt_5068e 20 = .ok (.iload_n 1, 1) := by decide +kernel
theorem dJ0_charAt_5068e_21 : decode cJ0_charAt_5068e 21 = .ok (.invokestatic 498, 3) := by decide +kernel
theorem dJ0_charAt_5068e_24 : decode cJ0_charAt_5068e 24 = .ok (.ireturn, 1) := by decide +kernel
theorem dJ0_coder_7d493_0 : decode cJ0_coder_7d493 0 = .ok (.getstatic 38, 3) := by decide +kernel
theorem dJ0_coder_7d493_3 : decode cJ0_coder_7d493 3 = .ok (.ifCond .eq 10, 3) := by decide +kernel
theorem dJ0_coder_7d493_6 : decode cJ0_coder_7d493 6 = .ok (.aload_n 0, 1) := by decide +kernel
theorem dJ0_coder_7d493_7 : decode cJ0_coder_7d493 7 = .ok (.getfield 15, 3) := by decide +kernel
theorem dJ0_coder_7d493_10 : decode cJ0_coder_7d493 10 = .ok (.goto 4, 3) := by decide +kernel
theorem dJ0_coder_7d493_13 : decode cJ0_coder_7d493 13 = .ok (.iconst 1, 1) := by decide +kernel
theorem dJ0_coder_7d493_14 : decode cJ0_coder_7d493 14 = .ok (.ireturn, 1) := by decide +kernel
theorem dJ0_isLatin1_aae02_0 : decode cJ0_isLatin1_aae02 0 = .ok (.getstatic 38, 3) := by decide +kernel
theorem dJ0_isLatin1_aae02_3 : decode cJ0_isLatin1_aae02 3 = .ok (.ifCond .eq 14, 3) := by decide +kernel
theorem dJ0_isLatin1_aae02_6 : decode cJ0_isLatin1_aae02 6 = .ok (.aload_n 0, 1) := by decide +kernel
theorem dJ0_isLatin1_aae02_7 : decode cJ0_isLatin1_aae02 7 = .ok (.getfield 15, 3) := by decide +kernel
theorem dJ0_isLatin1_aae02_10 : decode cJ0_isLatin1_aae02 10 = .ok (.ifCond .ne 7, 3) := by decide +kernel
theorem dJ0_isLatin1_aae02_13 : decode cJ0_isLatin1_aae02 13 = .ok (.iconst 1, 1) := by decide +kernel
theorem dJ0_isLatin1_aae02_14 : decode cJ0_isLatin1_aae02 14 = .ok (.goto 4, 3) := by decide +kernel
theorem dJ0_isLatin1_aae02_17 : decode cJ0_isLatin1_aae02 17 = .ok (.iconst 0, 1) := by decide +kernel
theorem dJ0_isLatin1_aae02_18 : decode cJ0_isLatin1_aae02 18 = .ok (.ireturn, 1) := by decide +kernel
theorem dJ0_checkIndex_df160_0 : decode cJ0_checkIndex_df160 0 = .ok (.iload_n 0, 1) := by decide +kernel
theorem dJ0_checkIndex_df160_1 : decode cJ0_checkIndex_df160 1 = .ok (.iload_n 1, 1) := by decide +kernel
theorem dJ0_checkIndex_df160_2 : decode cJ0_checkIndex_df160 2 = .ok (.getstatic 1053, 3) := by decide +kernel
theorem dJ0_checkIndex_df160_5 : decode cJ0_checkIndex_df160 5 = .ok (.invokestatic 1059, 3) := by decide +kernel
theorem dJ0_checkIndex_df160_8 : decode cJ0_checkIndex_df160 8 = .ok (.pop, 1) := by decide +kernel
theorem dJ0_checkIndex_df160_9 : decode cJ0_checkIndex_df160 9 = .ok (.return_, 1) := by decide +kernel
theorem dJ1_charAt_3b067_0 : decode cJ1_charAt_3b067 0 = .ok (.iload_n 1, 1) := by decide +kernel
theorem dJ1_charAt_3b067_1 : decode cJ1_charAt_3b067 1 = .ok (.aload_n 0, 1) := by decide +kernel
theorem dJ1_charAt_3b067_2 : decode cJ1_charAt_3b067 2 = .ok (.arraylength, 1) := by decide +kernel
theorem dJ1_charAt_3b067_3 : decode cJ1_charAt_3b067 3 = .ok (.invokestatic 9, 3) := by decide +kernel
theorem dJ1_charAt_3b067_6 : decode cJ1_charAt_3b067 6 = .ok (.aload_n 0, 1) := by decide +kernel
theorem dJ1_charAt_3b067_7 : decode cJ1_charAt_3b067 7 = .ok (.iload_n 1, 1) := by decide +kernel
theorem dJ1_charAt_3b067_8 : decode cJ1_charAt_3b067 8 = .ok (.baload, 1) := by decide +kernel
theorem dJ1_charAt_3b067_9 : decode cJ1_charAt_3b067 9 = .ok (.sipush 255, 3) := by decide +kernel
theorem dJ1_charAt_3b067_12 : decode cJ1_charAt_3b067 12 = .ok (.iand, 1) := by decide +kernel
theorem dJ1_charAt_3b067_13 : decode cJ1_charAt_3b067 13 = .ok (.i2c, 1) := by decide +kernel
theorem dJ1_charAt_3b067_14 : decode cJ1_charAt_3b067 14 = .ok (.ireturn, 1) := by decide +kernel
theorem dJ2_getChar_3b067_0 : decode cJ2_getChar_3b067 0 = .ok (.getstatic 44, 3) := by decide +kernel
theorem dJ2_getChar_3b067_3 : decode cJ2_getChar_3b067 3 = .ok (.ifCond .ne 25, 3) := by decide +kernel
theorem dJ2_getChar_3b067_6 : decode cJ2_getChar_3b067 6 = .ok (.iload_n 1, 1) := by decide +kernel
theorem dJ2_getChar_3b067_7 : decode cJ2_getChar_3b067 7 = .ok (.ifCond .lt 11, 3) := by decide +kernel
theorem dJ2_getChar_3b067_10 : decode cJ2_getChar_3b067 10 = .ok (.iload_n 1, 1) := by decide +kernel
theorem dJ2_getChar_3b067_11 : decode cJ2_getChar_3b067 11 = .ok (.aload_n 0, 1) := by decide +kernel
theorem dJ2_getChar_3b067_12 : decode cJ2_getChar_3b067 12 = .ok (.invokestatic 48, 3) := by decide +kernel
theorem dJ2_getChar_3b067_15 : decode cJ2_getChar_3b067 15 = .ok (.if_icmp .lt 13, 3) := by decide +kernel
theorem dJ2_getChar_3b067_18 : decode cJ2_getChar_3b067 18 = .ok (.new 52, 3) := by decide +kernel
theorem dJ2_getChar_3b067_21 : decode cJ2_getChar_3b067 21 = .ok (.dup, 1) := by decide +kernel
theorem dJ2_getChar_3b067_22 : decode cJ2_getChar_3b067 22 = .ok (.ldc 54, 2) := by decide +kernel
theorem dJ2_getChar_3b067_24 : decode cJ2_getChar_3b067 24 = .ok (.invokespecial 56, 3) := by decide +kernel
theorem dJ2_getChar_3b067_27 : decode cJ2_getChar_3b067 27 = .ok (.athrow, 1) := by decide +kernel
theorem dJ2_getChar_3b067_28 : decode cJ2_getChar_3b067 28 = .ok (.iload_n 1, 1) := by decide +kernel
theorem dJ2_getChar_3b067_29 : decode cJ2_getChar_3b067 29 = .ok (.iconst 1, 1) := by decide +kernel
theorem dJ2_getChar_3b067_30 : decode cJ2_getChar_3b067 30 = .ok (.ishl, 1) := by decide +kernel
theorem dJ2_getChar_3b067_31 : decode cJ2_getChar_3b067 31 = .ok (.istore_n 1, 1) := by decide +kernel
theorem dJ2_getChar_3b067_32 : decode cJ2_getChar_3b067 32 = .ok (.aload_n 0, 1) := by decide +kernel
theorem dJ2_getChar_3b067_33 : decode cJ2_getChar_3b067 33 = .ok (.iload_n 1, 1) := by decide +kernel
theorem dJ2_getChar_3b067_34 : decode cJ2_getChar_3b067 34 = .ok (.iinc 1 1, 3) := by decide +kernel
theorem dJ2_getChar_3b067_37 : decode cJ2_getChar_3b067 37 = .ok (.baload, 1) := by decide +kernel
theorem dJ2_getChar_3b067_38 : decode cJ2_getChar_3b067 38 = .ok (.sipush 255, 3) := by decide +kernel
theorem dJ2_getChar_3b067_41 : decode cJ2_getChar_3b067 41 = .ok (.iand, 1) := by decide +kernel
theorem dJ2_getChar_3b067_42 : decode cJ2_getChar_3b067 42 = .ok (.getstatic 59, 3) := by decide +kernel
theorem dJ2_getChar_3b067_45 : decode cJ2_getChar_3b067 45 = .ok (.ishl, 1) := by decide +kernel
theorem dJ2_getChar_3b067_46 : decode cJ2_getChar_3b067 46 = .ok (.aload_n 0, 1) := by decide +kernel
theorem dJ2_getChar_3b067_47 : decode cJ2_getChar_3b067 47 = .ok (.iload_n 1, 1) := by decide +kernel
theorem dJ2_getChar_3b067_48 : decode cJ2_getChar_3b067 48 = .ok (.baload, 1) := by decide +kernel
theorem dJ2_getChar_3b067_49 : decode cJ2_getChar_3b067 49 = .ok (.sipush 255, 3) := by decide +kernel
theorem dJ2_getChar_3b067_52 : decode cJ2_getChar_3b067 52 = .ok (.iand, 1) := by decide +kernel
theorem dJ2_getChar_3b067_53 : decode cJ2_getChar_3b067 53 = .ok (.getstatic 63, 3) := by decide +kernel
theorem dJ2_getChar_3b067_56 : decode cJ2_getChar_3b067 56 = .ok (.ishl, 1) := by decide +kernel
theorem dJ2_getChar_3b067_57 : decode cJ2_getChar_3b067 57 = .ok (.ior, 1) := by decide +kernel
theorem dJ2_getChar_3b067_58 : decode cJ2_getChar_3b067 58 = .ok (.i2c, 1) := by decide +kernel
theorem dJ2_getChar_3b067_59 : decode cJ2_getChar_3b067 59 = .ok (.ireturn, 1) := by decide +kernel
theorem dJ2_length_9d52b_0 : decode cJ2_length_9d52b 0 = .ok (.aload_n 0, 1) := by decide +kernel
theorem dJ2_length_9d52b_1 : decode cJ2_length_9d52b 1 = .ok (.arraylength, 1) := by decide +kernel
theorem dJ2_length_9d52b_2 : decode cJ2_length_9d52b 2 = .ok (.iconst 1, 1) := by decide +kernel
theorem dJ2_length_9d52b_3 : decode cJ2_length_9d52b 3 = .ok (.ishr, 1) := by decide +kernel
theorem dJ2_length_9d52b_4 : decode cJ2_length_9d52b 4 = .ok (.ireturn, 1) := by decide +kernel
theorem dJ2_charAt_3b067_0 : decode cJ2_charAt_3b067 0 = .ok (.iload_n 1, 1) := by decide +kernel
theorem dJ2_charAt_3b067_1 : decode cJ2_charAt_3b067 1 = .ok (.aload_n 0, 1) := by decide +kernel
theorem dJ2_charAt_3b067_2 : decode cJ2_charAt_3b067 2 = .ok (.invokestatic 67, 3) := by decide +kernel
theorem dJ2_charAt_3b067_5 : decode cJ2_charAt_3b067 5 = .ok (.aload_n 0, 1) := by decide +kernel
theorem dJ2_charAt_3b067_6 : decode cJ2_charAt_3b067 6 = .ok (.iload_n 1, 1) := by decide +kernel
theorem dJ2_charAt_3b067_7 : decode cJ2_charAt_3b067 7 = .ok (.invokestatic 71, 3) := by decide +kernel
theorem dJ2_charAt_3b067_10 : decode cJ2_charAt_3b067 10 = .ok (.ireturn, 1) := by decide +kernel
theorem dJ2_checkIndex_2214a_0 : decode cJ2_checkIndex_2214a 0 = .ok (.iload_n 0, 1) := by decide +kernel
theorem dJ2_checkIndex_2214a_1 : decode cJ2_checkIndex_2214a 1 = .ok (.aload_n 1, 1) := by decide +kernel
theorem dJ2_checkIndex_2214a_2 : decode cJ2_checkIndex_2214a 2 = .ok (.invokestatic 48, 3) := by decide +kernel
theorem dJ2_checkIndex_2214a_5 : decode cJ2_checkIndex_2214a 5 = .ok (.invokestatic 414, 3) := by decide +kernel
theorem dJ2_checkIndex_2214a_8 : decode cJ2_checkIndex_2214a 8 = .ok (.return_, 1) := by decide +kernel
theorem dJ3_checkIndex_8e157_0 : decode cJ3_checkIndex_8e157 0 = .ok (.iload_n 0, 1) := by decide +kernel
theorem dJ3_checkIndex_8e157_1 : decode cJ3_checkIndex_8e157 1 = .ok (.ifCond .lt 8, 3) := by decide +kernel
theorem dJ3_checkIndex_8e157_4 : decode cJ3_checkIndex_8e157 4 = .ok (.iload_n 0, 1) := by decide +kernel
theorem dJ3_checkIndex_8e157_5 : decode cJ3_checkIndex_8e157 5 = .ok (.iload_n 1, 1) := by decide +kernel
theorem dJ3_checkIndex_8e157_6 : decode cJ3_checkIndex_8e157 6 = .ok (.if_icmp .lt 10, 3) := by decide +kernel
theorem dJ3_checkIndex_8e157_9 : decode cJ3_checkIndex_8e157 9 = .ok (.aload_n 2, 1) := by decide +kernel
theorem dJ3_checkIndex_8e157_10 : decode cJ3_checkIndex_8e157 10 = .ok (.iload_n 0, 1) := by decide +kernel
theorem dJ3_checkIndex_8e157_11 : decode cJ3_checkIndex_8e157 11 = .ok (.iload_n 1, 1) := by decide +kernel
theorem dJ3_checkIndex_8e157_12 : decode cJ3_checkIndex_8e157 12 = .ok (.invokestatic 95, 3) := by decide +kernel
theorem dJ3_checkIndex_8e157_15 : decode cJ3_checkIndex_8e157 15 = .ok (.athrow, 1) := by decide +kernel
theorem dJ3_checkIndex_8e157_16 : decode cJ3_checkIndex_8e157 16 = .ok (.iload_n 0, 1) := by decide +kernel
theorem dJ3_checkIndex_8e157_17 : decode cJ3_checkIndex_8e157 17 = .ok (.ireturn, 1) := by decide +kernel
end
section
/-! the words of the tables that a warm machine keeps: one list for every method -/
def TBL : List Cond := lw_tbl.filter goodWord
theorem TBL_of {w : Cond} (i : Nat) (h : lw_tbl[i]? = some w) (hg : goodWord w = true) : w ∈ TBL := List.mem_filter.mpr ⟨List.mem_of_getElem? h, hg⟩
theorem TBL_in {w : Cond} (h : w ∈ TBL) : w ∈ lw_tbl := (List.mem_filter.mp h).1
theorem TBL_gd {w : Cond} (h : w ∈ TBL) : (w.onTables && w.keeps) = true ∨ ∃ ty, w = .arrayClass ty := good_of_word (List.mem_filter.mp h).2
theorem TBL_good {ws : List Cond} (h : ∀ w ∈ ws, w ∈ TBL) : GoodIn TBL ws := fun w hw => ⟨h w hw, TBL_gd (h w hw)⟩
/-! the memory: banks of ints; the addresses of the cells; the world -/
abbrev Mem : Type := Nat → Nat → Int32
def ub (g : Mem) (b : Nat) (S : Nat → Int32) : Mem := fun b' => if b' = b then S else g b'
theorem ub_s {g : Mem} {b : Nat} {S : Nat → Int32} : ub g b S b = S := if_pos rfl
theorem ub_n {g : Mem} {b b' : Nat} {S : Nat → Int32} (h : b' ≠ b) : ub g b S b' = g b' := if_neg h
theorem ub_id {g : Mem} {b : Nat} : ub g b (g b) = g := by
  funext b'
  by_cases h : b' = b
  · subst h; exact ub_s
  · exact ub_n h
theorem ub_ub {g : Mem} {b : Nat} {S T : Nat → Int32} : ub (ub g b S) b T = ub g b T := by
  funext b'
  by_cases h : b' = b
  · subst h; rw [ub_s, ub_s]
  · rw [ub_n h, ub_n h, ub_n h]
theorem ub_comm {g : Mem} {b c : Nat} {S T : Nat → Int32} (h : b ≠ c) : ub (ub g b S) c T = ub (ub g c T) b S := by
  funext b'
  by_cases h1 : b' = b
  · subst h1; rw [ub_s, ub_n h, ub_s]
  · by_cases h2 : b' = c
    · subst h2; rw [ub_s, ub_n h1, ub_s]
    · rw [ub_n h1, ub_n h2, ub_n h2, ub_n h1]
abbrev GT : Type := Launch × va_G × (ClassId × ClassId × ClassId) × (Nat → Nat) × (Nat → Nat) × (Nat → Nat) × (Nat → Nat) × Value
def gD (G : GT) : va_G := G.2.1
def cyB (G : GT) : ClassId := G.2.2.1.1
def cyI (G : GT) : ClassId := G.2.2.1.2.1
def cyO (G : GT) : ClassId := G.2.2.1.2.2
def gq (G : GT) (k : Nat) : Nat := G.2.2.2.1 k
def gK (G : GT) : Nat → Nat := G.2.2.2.2.1
def gV (G : GT) : Nat → Nat := G.2.2.2.2.2.1
def gs (G : GT) : Nat → Nat := G.2.2.2.2.2.2.1
def gv (G : GT) : Value := G.2.2.2.2.2.2.2
def xo (G : GT) : Nat := gq G 0
def dr (G : GT) (d : Nat) : Nat := gq G (1 + 4 * d)
def wa (G : GT) (d : Nat) : Nat := gq G (2 + 4 * d)
def ta (G : GT) (d : Nat) : Nat := gq G (3 + 4 * d)
def sa (G : GT) (d : Nat) : Nat := gq G (4 + 4 * d)
def tp (G : GT) : Nat := gq G 17
def tb (G : GT) : Nat := gq G 18
def hs (G : GT) : Nat := gq G 19
def sh (G : GT) (t : Nat) : Nat := gq G (20 + 2 * t)
def sn (G : GT) (t : Nat) : Nat := gq G (21 + 2 * t)
def fa (G : GT) : Nat := gq G 28
def mo (G : GT) : Nat := gq G 29
def ar (G : GT) (j : Nat) : Nat := gq G (30 + j)
abbrev tys (G : GT) : List (ClassId × FieldType) := [(cyB G, .byte), (cyI G, .int), (cyO G, .object "MothTongue$Sheet")]
abbrev eI (G : GT) (n : Nat) (f : Nat → Int32) : va_E := .inl (cyI G, n, .inl f)
abbrev cD (G : GT) (g : Mem) (d : Nat) : Nat × va_E := (dr G d, .inr (0, [.ref (wa G d), .ref (ta G d), .ref (sa G d), .int (g d 0), .int (g d 1), .int (g d 2)]))
abbrev cWd (G : GT) (g : Mem) (d : Nat) : Nat × va_E := (wa G d, eI G 48 (fun i => g d (3 + i)))
abbrev cTr (G : GT) (g : Mem) (d : Nat) : Nat × va_E := (ta G d, eI G 32 (fun i => g d (51 + i)))
abbrev cSp (G : GT) (g : Mem) (d : Nat) : Nat × va_E := (sa G d, eI G 10 (fun i => g d (83 + i)))
abbrev cSh (G : GT) (g : Mem) (t : Nat) : Nat × va_E := (sh G t, .inr (1, [.ref (sn G t), .int (g (6 + t) 0), .int (g (6 + t) 1)]))
abbrev cSn (G : GT) (g : Mem) (t : Nat) : Nat × va_E := (sn G t, eI G 40 (fun i => g (6 + t) (2 + i)))
abbrev cX (G : GT) (g : Mem) : Nat × va_E := (xo G, .inr (3, [.ref (dr G 0), .ref (dr G 1), .ref (dr G 2), .ref (dr G 3), .ref (tp G), .ref (hs G), .ref (fa G), .int (g 11 0)]))
abbrev cT (G : GT) (g : Mem) : Nat × va_E := (tp G, .inr (2, [.ref (tb G), .int (g 4 0), .int (g 4 1), .int (g 4 2), .int (g 4 3), .int (g 4 4)]))
abbrev cTb (G : GT) (g : Mem) : Nat × va_E := (tb G, .inl (cyB G, 120, .inl (g 5)))
abbrev cHs (G : GT) : Nat × va_E := (hs G, .inl (cyO G, 4, .inr (.inr (.inr (.inr (fun i => some (sh G i)))))))
abbrev cFa (G : GT) (g : Mem) : Nat × va_E := (fa G, eI G 7 (g 10))
abbrev cM (G : GT) (g : Mem) : Nat × va_E := (mo G, .inr (4, [.ref (ar G 0), .ref (ar G 1), .ref (ar G 2), .ref (ar G 3), .int (g 22 0), .ref (ar G 4), .ref (ar G 5), .int (g 22 1), .ref (ar G 6), .ref (ar G 7), .ref (ar G 8), .ref (ar G 9), .int (g 22 2), .int (g 22 3), .int (g 22 4), .int (g 22 5), .int (g 22 6)]))
/-- the length of the reference's row j -/
def aLen (j : Nat) : Nat := [93, 93, 93, 93, 8, 120, 4, 4, 160, 48].getD j 0
abbrev cA (G : GT) (g : Mem) (j : Nat) : Nat × va_E := (ar G j, eI G (aLen j) (g (12 + j)))
def WW (G : GT) (g : Mem) : va_W := [cX G g, cD G g 0, cWd G g 0, cTr G g 0, cSp G g 0, cD G g 1, cWd G g 1, cTr G g 1, cSp G g 1, cD G g 2, cWd G g 2, cTr G g 2, cSp G g 2, cD G g 3, cWd G g 3, cTr G g 3, cSp G g 3, cT G g, cTb G g, cHs G, cSh G g 0, cSn G g 0, cSh G g 1, cSn G g 1, cSh G g 2, cSn G g 2, cSh G g 3, cSn G g 3, cFa G g, cM G g, cA G g 0, cA G g 1, cA G g 2, cA G g 3, cA G g 4, cA G g 5, cA G g 6, cA G g 7, cA G g 8, cA G g 9]
/-- the cells that may change -/
def Aq (G : GT) : Nat → Prop := fun a => ∃ k, k < 40 ∧ a = gq G k
theorem WW_fst (G : GT) (g g' : Mem) : (WW G g).map Prod.fst = (WW G g').map Prod.fst := rfl
theorem D_fst {A : Nat → Prop} {ws ws' : va_W} (h : ws.map Prod.fst = ws'.map Prod.fst) (hD : va_D A ws) : va_D A ws' := by
  have key : ∀ (k : Nat) (q : Nat × va_E), ws'[k]? = some q → ∃ q0, ws[k]? = some q0 ∧ q0.1 = q.1 := by
    intro k q hk
    have h1 : (ws'.map Prod.fst)[k]? = some q.1 := by rw [List.getElem?_map, hk]; rfl
    rw [← h, List.getElem?_map] at h1
    cases h2 : ws[k]? with
    | none => rw [h2] at h1; cases h1
    | some q0 => rw [h2] at h1; exact ⟨q0, rfl, Option.some.inj h1⟩
  refine ⟨fun i j x y hi hj hxy => ?_, fun k q hk => ?_⟩
  · obtain ⟨x0, h1, h2⟩ := key i x hi
    obtain ⟨y0, h3, h4⟩ := key j y hj
    exact hD.1 i j x0 y0 h1 h3 (h2.trans (hxy.trans h4.symm))
  · obtain ⟨q0, h1, h2⟩ := key k q hk
    rw [← h2]; exact hD.2 k q0 h1
theorem WW_D {G : GT} {g : Mem} (h : va_D (Aq G) (WW G (fun _ _ => 0))) : va_D (Aq G) (WW G g) := D_fst (WW_fst G _ g) h
/-! cells by their places -/
theorem at_D {G : GT} {g : Mem} {d : Nat} (h : d < 4) : (WW G g)[1 + 4 * d]? = some (cD G g d) := by
  match d, h with
  | 0, _ => rfl
  | 1, _ => rfl
  | 2, _ => rfl
  | 3, _ => rfl
theorem at_Wd {G : GT} {g : Mem} {d : Nat} (h : d < 4) : (WW G g)[2 + 4 * d]? = some (cWd G g d) := by
  match d, h with
  | 0, _ => rfl
  | 1, _ => rfl
  | 2, _ => rfl
  | 3, _ => rfl
theorem at_Tr {G : GT} {g : Mem} {d : Nat} (h : d < 4) : (WW G g)[3 + 4 * d]? = some (cTr G g d) := by
  match d, h with
  | 0, _ => rfl
  | 1, _ => rfl
  | 2, _ => rfl
  | 3, _ => rfl
theorem at_Sp {G : GT} {g : Mem} {d : Nat} (h : d < 4) : (WW G g)[4 + 4 * d]? = some (cSp G g d) := by
  match d, h with
  | 0, _ => rfl
  | 1, _ => rfl
  | 2, _ => rfl
  | 3, _ => rfl
theorem at_Sh {G : GT} {g : Mem} {t : Nat} (h : t < 4) : (WW G g)[20 + 2 * t]? = some (cSh G g t) := by
  match t, h with
  | 0, _ => rfl
  | 1, _ => rfl
  | 2, _ => rfl
  | 3, _ => rfl
theorem at_Sn {G : GT} {g : Mem} {t : Nat} (h : t < 4) : (WW G g)[21 + 2 * t]? = some (cSn G g t) := by
  match t, h with
  | 0, _ => rfl
  | 1, _ => rfl
  | 2, _ => rfl
  | 3, _ => rfl
theorem at_A {G : GT} {g : Mem} {j : Nat} (h : j < 10) : (WW G g)[30 + j]? = some (cA G g j) := by
  match j, h with
  | 0, _ => rfl
  | 1, _ => rfl
  | 2, _ => rfl
  | 3, _ => rfl
  | 4, _ => rfl
  | 5, _ => rfl
  | 6, _ => rfl
  | 7, _ => rfl
  | 8, _ => rfl
  | 9, _ => rfl
/-! a world told by functions that agree below the lengths -/
theorem P_cons {D : va_G} {cl : List vw_C} {c : Nat × va_E} {ws : va_W} {H : Heap} : va_P D cl (c :: ws) H ↔ va_at D cl c H ∧ va_P D cl ws H := by
  constructor
  · intro h
    exact ⟨h 0 c rfl, fun k q hk => h (k + 1) q (by simpa using hk)⟩
  · rintro ⟨h1, h2⟩ k q hk
    cases k with
    | zero => simp at hk; subst hk; exact h1
    | succ k => exact h2 k q (by simpa using hk)
theorem at_arr {D : va_G} {cl : List vw_C} {a n : Nat} {c : ClassId} {f f' : Nat → Int32} {H : Heap} (h : va_at D cl (a, .inl (c, n, .inl f)) H) (he : ∀ i, i < n → f i = f' i) : va_at D cl (a, .inl (c, n, .inl f')) H := by
  have e : vp_cell c (n, .inl f) = vp_cell c (n, .inl f') := by
    rw [vp_cell_i, vp_cell_i]
    unfold arrV
    congr 2
    funext j
    exact congrArg Value.int (he j.val j.isLt)
  show H[a]? = some (vp_cell c (n, .inl f'))
  rw [← e]
  exact h
/-! which bank a cell reads, from where to where -/
def cb (k : Nat) : Nat := [11, 0, 0, 0, 0, 1, 1, 1, 1, 2, 2, 2, 2, 3, 3, 3, 3, 4, 5, 99, 6, 6, 7, 7, 8, 8, 9, 9, 10, 22, 12, 13, 14, 15, 16, 17, 18, 19, 20, 21].getD k 0
def clo (k : Nat) : Nat := [0, 0, 3, 51, 83, 0, 3, 51, 83, 0, 3, 51, 83, 0, 3, 51, 83, 0, 0, 0, 0, 2, 0, 2, 0, 2, 0, 2, 0, 0, 0, 0, 0, 0, 0, 0, 0, 0, 0, 0].getD k 0
def chi (k : Nat) : Nat := [1, 3, 51, 83, 93, 3, 51, 83, 93, 3, 51, 83, 93, 3, 51, 83, 93, 5, 120, 0, 2, 42, 2, 42, 2, 42, 2, 42, 7, 7, 93, 93, 93, 93, 8, 120, 4, 4, 160, 48].getD k 0
theorem cdis : ∀ k, k < 40 → ∀ k', k' < 40 → k ≠ k' → cb k ≠ cb k' ∨ chi k ≤ clo k' ∨ chi k' ≤ clo k := by decide +kernel
theorem WW_len {G : GT} {g : Mem} : (WW G g).length = 40 := rfl
theorem WW_cell {G : GT} {g g' : Mem} {D : va_G} {H : Heap} (k : Nat) {q q' : Nat × va_E} (hq : (WW G g)[k]? = some q) (hq' : (WW G g')[k]? = some q') (h : ∀ i, clo k ≤ i → i < chi k → g (cb k) i = g' (cb k) i) (ha : va_at D vwCl q H) : va_at D vwCl q' H := by
  match k, hq, hq', h with
  | 0, hq, hq', h =>
    obtain rfl := Option.some.inj hq
    obtain rfl := Option.some.inj hq'
    have e0 : g 11 0 = g' 11 0 := h 0 (Nat.le_of_ble_eq_true rfl) (Nat.le_of_ble_eq_true rfl)
    dsimp only [cX, cD, cT, cSh, cM] at ha ⊢
    simp only [e0] at ha
    exact ha
  | 1, hq, hq', h =>
    obtain rfl := Option.some.inj hq
    obtain rfl := Option.some.inj hq'
    have e0 : g 0 0 = g' 0 0 := h 0 (Nat.le_of_ble_eq_true rfl) (Nat.le_of_ble_eq_true rfl)
    have e1 : g 0 1 = g' 0 1 := h 1 (Nat.le_of_ble_eq_true rfl) (Nat.le_of_ble_eq_true rfl)
    have e2 : g 0 2 = g' 0 2 := h 2 (Nat.le_of_ble_eq_true rfl) (Nat.le_of_ble_eq_true rfl)
    dsimp only [cX, cD, cT, cSh, cM] at ha ⊢
    simp only [e0, e1, e2] at ha
    exact ha
  | 2, hq, hq', h =>
    obtain rfl := Option.some.inj hq
    obtain rfl := Option.some.inj hq'
    exact at_arr ha (fun i hi => h (3 + i) (Nat.le_add_right 3 i) (Nat.add_lt_add_left hi 3))
  | 3, hq, hq', h =>
    obtain rfl := Option.some.inj hq
    obtain rfl := Option.some.inj hq'
    exact at_arr ha (fun i hi => h (51 + i) (Nat.le_add_right 51 i) (Nat.add_lt_add_left hi 51))
  | 4, hq, hq', h =>
    obtain rfl := Option.some.inj hq
    obtain rfl := Option.some.inj hq'
    exact at_arr ha (fun i hi => h (83 + i) (Nat.le_add_right 83 i) (Nat.add_lt_add_left hi 83))
  | 5, hq, hq', h =>
    obtain rfl := Option.some.inj hq
    obtain rfl := Option.some.inj hq'
    have e0 : g 1 0 = g' 1 0 := h 0 (Nat.le_of_ble_eq_true rfl) (Nat.le_of_ble_eq_true rfl)
    have e1 : g 1 1 = g' 1 1 := h 1 (Nat.le_of_ble_eq_true rfl) (Nat.le_of_ble_eq_true rfl)
    have e2 : g 1 2 = g' 1 2 := h 2 (Nat.le_of_ble_eq_true rfl) (Nat.le_of_ble_eq_true rfl)
    dsimp only [cX, cD, cT, cSh, cM] at ha ⊢
    simp only [e0, e1, e2] at ha
    exact ha
  | 6, hq, hq', h =>
    obtain rfl := Option.some.inj hq
    obtain rfl := Option.some.inj hq'
    exact at_arr ha (fun i hi => h (3 + i) (Nat.le_add_right 3 i) (Nat.add_lt_add_left hi 3))
  | 7, hq, hq', h =>
    obtain rfl := Option.some.inj hq
    obtain rfl := Option.some.inj hq'
    exact at_arr ha (fun i hi => h (51 + i) (Nat.le_add_right 51 i) (Nat.add_lt_add_left hi 51))
  | 8, hq, hq', h =>
    obtain rfl := Option.some.inj hq
    obtain rfl := Option.some.inj hq'
    exact at_arr ha (fun i hi => h (83 + i) (Nat.le_add_right 83 i) (Nat.add_lt_add_left hi 83))
  | 9, hq, hq', h =>
    obtain rfl := Option.some.inj hq
    obtain rfl := Option.some.inj hq'
    have e0 : g 2 0 = g' 2 0 := h 0 (Nat.le_of_ble_eq_true rfl) (Nat.le_of_ble_eq_true rfl)
    have e1 : g 2 1 = g' 2 1 := h 1 (Nat.le_of_ble_eq_true rfl) (Nat.le_of_ble_eq_true rfl)
    have e2 : g 2 2 = g' 2 2 := h 2 (Nat.le_of_ble_eq_true rfl) (Nat.le_of_ble_eq_true rfl)
    dsimp only [cX, cD, cT, cSh, cM] at ha ⊢
    simp only [e0, e1, e2] at ha
    exact ha
  | 10, hq, hq', h =>
    obtain rfl := Option.some.inj hq
    obtain rfl := Option.some.inj hq'
    exact at_arr ha (fun i hi => h (3 + i) (Nat.le_add_right 3 i) (Nat.add_lt_add_left hi 3))
  | 11, hq, hq', h =>
    obtain rfl := Option.some.inj hq
    obtain rfl := Option.some.inj hq'
    exact at_arr ha (fun i hi => h (51 + i) (Nat.le_add_right 51 i) (Nat.add_lt_add_left hi 51))
  | 12, hq, hq', h =>
    obtain rfl := Option.some.inj hq
    obtain rfl := Option.some.inj hq'
    exact at_arr ha (fun i hi => h (83 + i) (Nat.le_add_right 83 i) (Nat.add_lt_add_left hi 83))
  | 13, hq, hq', h =>
    obtain rfl := Option.some.inj hq
    obtain rfl := Option.some.inj hq'
    have e0 : g 3 0 = g' 3 0 := h 0 (Nat.le_of_ble_eq_true rfl) (Nat.le_of_ble_eq_true rfl)
    have e1 : g 3 1 = g' 3 1 := h 1 (Nat.le_of_ble_eq_true rfl) (Nat.le_of_ble_eq_true rfl)
    have e2 : g 3 2 = g' 3 2 := h 2 (Nat.le_of_ble_eq_true rfl) (Nat.le_of_ble_eq_true rfl)
    dsimp only [cX, cD, cT, cSh, cM] at ha ⊢
    simp only [e0, e1, e2] at ha
    exact ha
  | 14, hq, hq', h =>
    obtain rfl := Option.some.inj hq
    obtain rfl := Option.some.inj hq'
    exact at_arr ha (fun i hi => h (3 + i) (Nat.le_add_right 3 i) (Nat.add_lt_add_left hi 3))
  | 15, hq, hq', h =>
    obtain rfl := Option.some.inj hq
    obtain rfl := Option.some.inj hq'
    exact at_arr ha (fun i hi => h (51 + i) (Nat.le_add_right 51 i) (Nat.add_lt_add_left hi 51))
  | 16, hq, hq', h =>
    obtain rfl := Option.some.inj hq
    obtain rfl := Option.some.inj hq'
    exact at_arr ha (fun i hi => h (83 + i) (Nat.le_add_right 83 i) (Nat.add_lt_add_left hi 83))
  | 17, hq, hq', h =>
    obtain rfl := Option.some.inj hq
    obtain rfl := Option.some.inj hq'
    have e0 : g 4 0 = g' 4 0 := h 0 (Nat.le_of_ble_eq_true rfl) (Nat.le_of_ble_eq_true rfl)
    have e1 : g 4 1 = g' 4 1 := h 1 (Nat.le_of_ble_eq_true rfl) (Nat.le_of_ble_eq_true rfl)
    have e2 : g 4 2 = g' 4 2 := h 2 (Nat.le_of_ble_eq_true rfl) (Nat.le_of_ble_eq_true rfl)
    have e3 : g 4 3 = g' 4 3 := h 3 (Nat.le_of_ble_eq_true rfl) (Nat.le_of_ble_eq_true rfl)
    have e4 : g 4 4 = g' 4 4 := h 4 (Nat.le_of_ble_eq_true rfl) (Nat.le_of_ble_eq_true rfl)
    dsimp only [cX, cD, cT, cSh, cM] at ha ⊢
    simp only [e0, e1, e2, e3, e4] at ha
    exact ha
  | 18, hq, hq', h =>
    obtain rfl := Option.some.inj hq
    obtain rfl := Option.some.inj hq'
    exact at_arr ha (fun i hi => h i (Nat.zero_le _) hi)
  | 19, hq, hq', h =>
    obtain rfl := Option.some.inj hq
    obtain rfl := Option.some.inj hq'
    exact ha
  | 20, hq, hq', h =>
    obtain rfl := Option.some.inj hq
    obtain rfl := Option.some.inj hq'
    have e0 : g 6 0 = g' 6 0 := h 0 (Nat.le_of_ble_eq_true rfl) (Nat.le_of_ble_eq_true rfl)
    have e1 : g 6 1 = g' 6 1 := h 1 (Nat.le_of_ble_eq_true rfl) (Nat.le_of_ble_eq_true rfl)
    dsimp only [cX, cD, cT, cSh, cM] at ha ⊢
    simp only [Nat.reduceAdd, e0, e1] at ha ⊢
    exact ha
  | 21, hq, hq', h =>
    obtain rfl := Option.some.inj hq
    obtain rfl := Option.some.inj hq'
    exact at_arr ha (fun i hi => h (2 + i) (Nat.le_add_right 2 i) (Nat.add_lt_add_left hi 2))
  | 22, hq, hq', h =>
    obtain rfl := Option.some.inj hq
    obtain rfl := Option.some.inj hq'
    have e0 : g 7 0 = g' 7 0 := h 0 (Nat.le_of_ble_eq_true rfl) (Nat.le_of_ble_eq_true rfl)
    have e1 : g 7 1 = g' 7 1 := h 1 (Nat.le_of_ble_eq_true rfl) (Nat.le_of_ble_eq_true rfl)
    dsimp only [cX, cD, cT, cSh, cM] at ha ⊢
    simp only [Nat.reduceAdd, e0, e1] at ha ⊢
    exact ha
  | 23, hq, hq', h =>
    obtain rfl := Option.some.inj hq
    obtain rfl := Option.some.inj hq'
    exact at_arr ha (fun i hi => h (2 + i) (Nat.le_add_right 2 i) (Nat.add_lt_add_left hi 2))
  | 24, hq, hq', h =>
    obtain rfl := Option.some.inj hq
    obtain rfl := Option.some.inj hq'
    have e0 : g 8 0 = g' 8 0 := h 0 (Nat.le_of_ble_eq_true rfl) (Nat.le_of_ble_eq_true rfl)
    have e1 : g 8 1 = g' 8 1 := h 1 (Nat.le_of_ble_eq_true rfl) (Nat.le_of_ble_eq_true rfl)
    dsimp only [cX, cD, cT, cSh, cM] at ha ⊢
    simp only [Nat.reduceAdd, e0, e1] at ha ⊢
    exact ha
  | 25, hq, hq', h =>
    obtain rfl := Option.some.inj hq
    obtain rfl := Option.some.inj hq'
    exact at_arr ha (fun i hi => h (2 + i) (Nat.le_add_right 2 i) (Nat.add_lt_add_left hi 2))
  | 26, hq, hq', h =>
    obtain rfl := Option.some.inj hq
    obtain rfl := Option.some.inj hq'
    have e0 : g 9 0 = g' 9 0 := h 0 (Nat.le_of_ble_eq_true rfl) (Nat.le_of_ble_eq_true rfl)
    have e1 : g 9 1 = g' 9 1 := h 1 (Nat.le_of_ble_eq_true rfl) (Nat.le_of_ble_eq_true rfl)
    dsimp only [cX, cD, cT, cSh, cM] at ha ⊢
    simp only [Nat.reduceAdd, e0, e1] at ha ⊢
    exact ha
  | 27, hq, hq', h =>
    obtain rfl := Option.some.inj hq
    obtain rfl := Option.some.inj hq'
    exact at_arr ha (fun i hi => h (2 + i) (Nat.le_add_right 2 i) (Nat.add_lt_add_left hi 2))
  | 28, hq, hq', h =>
    obtain rfl := Option.some.inj hq
    obtain rfl := Option.some.inj hq'
    exact at_arr ha (fun i hi => h i (Nat.zero_le _) hi)
  | 29, hq, hq', h =>
    obtain rfl := Option.some.inj hq
    obtain rfl := Option.some.inj hq'
    have e0 : g 22 0 = g' 22 0 := h 0 (Nat.le_of_ble_eq_true rfl) (Nat.le_of_ble_eq_true rfl)
    have e1 : g 22 1 = g' 22 1 := h 1 (Nat.le_of_ble_eq_true rfl) (Nat.le_of_ble_eq_true rfl)
    have e2 : g 22 2 = g' 22 2 := h 2 (Nat.le_of_ble_eq_true rfl) (Nat.le_of_ble_eq_true rfl)
    have e3 : g 22 3 = g' 22 3 := h 3 (Nat.le_of_ble_eq_true rfl) (Nat.le_of_ble_eq_true rfl)
    have e4 : g 22 4 = g' 22 4 := h 4 (Nat.le_of_ble_eq_true rfl) (Nat.le_of_ble_eq_true rfl)
    have e5 : g 22 5 = g' 22 5 := h 5 (Nat.le_of_ble_eq_true rfl) (Nat.le_of_ble_eq_true rfl)
    have e6 : g 22 6 = g' 22 6 := h 6 (Nat.le_of_ble_eq_true rfl) (Nat.le_of_ble_eq_true rfl)
    dsimp only [cX, cD, cT, cSh, cM] at ha ⊢
    simp only [e0, e1, e2, e3, e4, e5, e6] at ha
    exact ha
  | 30, hq, hq', h =>
    obtain rfl := Option.some.inj hq
    obtain rfl := Option.some.inj hq'
    exact at_arr ha (fun i hi => h i (Nat.zero_le _) hi)
  | 31, hq, hq', h =>
    obtain rfl := Option.some.inj hq
    obtain rfl := Option.some.inj hq'
    exact at_arr ha (fun i hi => h i (Nat.zero_le _) hi)
  | 32, hq, hq', h =>
    obtain rfl := Option.some.inj hq
    obtain rfl := Option.some.inj hq'
    exact at_arr ha (fun i hi => h i (Nat.zero_le _) hi)
  | 33, hq, hq', h =>
    obtain rfl := Option.some.inj hq
    obtain rfl := Option.some.inj hq'
    exact at_arr ha (fun i hi => h i (Nat.zero_le _) hi)
  | 34, hq, hq', h =>
    obtain rfl := Option.some.inj hq
    obtain rfl := Option.some.inj hq'
    exact at_arr ha (fun i hi => h i (Nat.zero_le _) hi)
  | 35, hq, hq', h =>
    obtain rfl := Option.some.inj hq
    obtain rfl := Option.some.inj hq'
    exact at_arr ha (fun i hi => h i (Nat.zero_le _) hi)
  | 36, hq, hq', h =>
    obtain rfl := Option.some.inj hq
    obtain rfl := Option.some.inj hq'
    exact at_arr ha (fun i hi => h i (Nat.zero_le _) hi)
  | 37, hq, hq', h =>
    obtain rfl := Option.some.inj hq
    obtain rfl := Option.some.inj hq'
    exact at_arr ha (fun i hi => h i (Nat.zero_le _) hi)
  | 38, hq, hq', h =>
    obtain rfl := Option.some.inj hq
    obtain rfl := Option.some.inj hq'
    exact at_arr ha (fun i hi => h i (Nat.zero_le _) hi)
  | 39, hq, hq', h =>
    obtain rfl := Option.some.inj hq
    obtain rfl := Option.some.inj hq'
    exact at_arr ha (fun i hi => h i (Nat.zero_le _) hi)
  | k + 40, hq, hq', h =>
    rw [List.getElem?_eq_none (by rw [WW_len]; omega)] at hq
    cases hq
theorem WW_ext {G : GT} {g g' : Mem} {D : va_G} {H : Heap} (h : ∀ k, k < 40 → ∀ i, clo k ≤ i → i < chi k → g (cb k) i = g' (cb k) i) (hP : va_P D vwCl (WW G g) H) : va_P D vwCl (WW G g') H := by
  intro k q' hk
  have hl : k < 40 := (List.getElem?_eq_some_iff.mp hk).1
  have hq : (WW G g)[k]? = some ((WW G g)[k]'hl) := List.getElem?_eq_getElem hl
  exact WW_cell k hq hk (h k hl) (hP k _ hq)
/-- a store at index j of cell k's bank -/
theorem WW_put {G : GT} {g : Mem} {D : va_G} {H : Heap} {x : Int32} (k j : Nat) {b : Nat} (hk : k < 40) (hb : cb k = b) (h1 : clo k ≤ j) (h2 : j < chi k) {e q : Nat × va_E} (hP : va_P D vwCl ((WW G g).set k e) H) (hq : (WW G (ub g b (upd (g b) j x)))[k]? = some q) (he : va_at D vwCl e H → va_at D vwCl q H) : va_P D vwCl (WW G (ub g b (upd (g b) j x))) H := by
  subst hb
  intro k' q' hk'
  have hl : k' < 40 := (List.getElem?_eq_some_iff.mp hk').1
  by_cases hkk : k' = k
  · subst hkk
    rw [hq] at hk'
    obtain rfl := Option.some.inj hk'
    exact he (hP k' e (by rw [List.getElem?_set_self (by rw [WW_len]; exact hl)]))
  · have hq0 : (WW G g)[k']? = some ((WW G g)[k']'hl) := List.getElem?_eq_getElem hl
    refine WW_cell k' hq0 hk' (fun i i1 i2 => ?_) (hP k' _ (by rw [List.getElem?_set_ne (Ne.symm hkk)]; exact hq0))
    rcases cdis k hk k' hl (Ne.symm hkk) with h | h | h
    · rw [ub_n (Ne.symm h)]
    all_goals
      by_cases hb : cb k' = cb k
      · rw [hb, ub_s]
        show _ = if i = j then x else g (cb k) i
        rw [if_neg (by omega)]
      · rw [ub_n hb]
theorem upd_off {f : Nat → Int32} {o i i' : Nat} {x : Int32} : upd (fun i => f (o + i)) i x i' = upd f (o + i) x (o + i') := by
  show (if i' = i then x else f (o + i')) = if o + i' = o + i then x else f (o + i')
  by_cases h : i' = i
  · subst h; rw [if_pos rfl, if_pos rfl]
  · rw [if_neg h, if_neg (by omega)]
/-- a store into a row whose bank begins at o -/
theorem WW_arr {G : GT} {g : Mem} {D : va_G} {H : Heap} {x : Int32} (k o i n a : Nat) {b : Nat} {c : ClassId} (hk : k < 40) (hb : cb k = b) (h1 : clo k ≤ o + i) (h2 : o + i < chi k) (hw : ∀ g : Mem, (WW G g)[k]? = some (a, .inl (c, n, .inl (fun i => g b (o + i))))) (hP : va_P D vwCl ((WW G g).set k (a, .inl (c, n, .inl (upd (fun i => g b (o + i)) i x)))) H) : va_P D vwCl (WW G (ub g b (upd (g b) (o + i) x))) H :=
  WW_put k (o + i) hk hb h1 h2 hP (hw _) (fun ha => at_arr ha (fun i' _ => by rw [ub_s]; exact upd_off))
theorem WW_arr0 {G : GT} {g : Mem} {D : va_G} {H : Heap} {x : Int32} (k i n a : Nat) {b : Nat} {c : ClassId} (hk : k < 40) (hb : cb k = b) (h1 : clo k ≤ i) (h2 : i < chi k) (hw : ∀ g : Mem, (WW G g)[k]? = some (a, .inl (c, n, .inl (g b)))) (hP : va_P D vwCl ((WW G g).set k (a, .inl (c, n, .inl (upd (g b) i x)))) H) : va_P D vwCl (WW G (ub g b (upd (g b) i x))) H :=
  WW_put k i hk hb h1 h2 hP (hw _) (fun ha => at_arr ha (fun i' _ => by rw [ub_s]))
end
section
/-! what holds beside the world in every state: the tables, the statics, the String constants -/
def sLen : List Nat := [4, 5, 2, 5, 3, 4, 5, 6, 7, 6, 3, 4]
def sByt : List (List Int32) := [[112, 97, 103, 101], [101, 109, 112, 116, 121], [111, 110], [116, 97, 115, 116, 101], [102, 101, 100], [109, 111, 116, 104], [108, 97, 114, 118, 97], [115, 105, 108, 118, 101, 114], [115, 99, 104, 111, 108, 97, 114], [98, 105, 115, 104, 111, 112], [111, 108, 100], [103, 114, 117, 98]]
def sIdx : List Nat := [38, 47, 71, 81, 83, 128, 116, 118, 120, 122, 124, 126]
def sTxt : List String := ["page", "empty", "on", "taste", "fed", "moth", "larva", "silver", "scholar", "bishop", "old", "grub"]
def kLeast : List Int32 := [0, 0, 1, 0]
def kMost : List Int32 := [6, 5, 9, 9999]
def kUpper : List Int32 := [-1, 0, 0, 2, 3, 0, 1]
def EV (G : GT) (U : State) (H : Heap) : Prop :=
  va_K (gD G) vwCl (tys G) U ∧ va_D (Aq G) (WW G (fun _ _ => 0)) ∧
  (va_Z "MothTongue" "LEAST_TRAIT" "[I" (.ref (gs G 0)) (Aq G) U H ∧ va_T .int (gs G 0) 4 (fun i => .int (kLeast.getD i 0)) (Aq G) U H) ∧
  (va_Z "MothTongue" "MOST_TRAIT" "[I" (.ref (gs G 1)) (Aq G) U H ∧ va_T .int (gs G 1) 4 (fun i => .int (kMost.getD i 0)) (Aq G) U H) ∧
  (va_Z "MothTongue$Kinds" "UPPER" "[I" (.ref (gs G 2)) (Aq G) U H ∧ va_T .int (gs G 2) 7 (fun i => .int (kUpper.getD i 0)) (Aq G) U H) ∧
  va_Z "java/lang/String" "COMPACT_STRINGS" "Z" (.int 1) (Aq G) U H ∧
  (va_Z "jdk/internal/util/Preconditions" "SIOOBE_FORMATTER" "Ljava/util/function/BiFunction;" (gv G) (Aq G) U H ∧ (gv G = .null ∨ ∃ a, gv G = .ref a)) ∧
  vk_S 12 sLen sByt (gK G) (gV G) (Aq G) U H ∧
  (∀ i : Nat, i < 12 → vk_R "MothTongue$Tape" (sIdx.getD i 0) (sTxt.getD i "") (gK G i) U) ∧
  va_Nw (.fieldLinkNest "MothTongue$Tape" 73 "MothTongue" "MOST_TRAIT" "[I" "MothTongue") U ∧ va_Nw (.fieldLinkNest "MothTongue$Tape" 85 "MothTongue" "LEAST_TRAIT" "[I" "MothTongue") U ∧ va_Nw (.methodLinkNest "MothTongue$Tape" 102 ⟨"MothTongue", "within", "(III)Z"⟩ "MothTongue") U
theorem EV.warm {G : GT} {s U : State} {H : Heap} (hW : s.WarmedH U.vm) (h : EV G s H) : EV G U H := by
  obtain ⟨h1, h2, ⟨a1, a2⟩, ⟨b1, b2⟩, ⟨c1, c2⟩, d1, ⟨e1, e2⟩, f1, f2, n1, n2, n3⟩ := h
  have q := hW.alike
  exact ⟨h1.moved q, h2, ⟨a1.moved q, a2.moved q⟩, ⟨b1.moved q, b2.moved q⟩, ⟨c1.moved q, c2.moved q⟩, d1.moved q, ⟨e1.moved q, e2⟩, f1.moved q, fun i hi => (f2 i hi).warm hW, n1.warmF hW, n2.warmF hW, n3.warmM hW⟩
theorem EV.same {G : GT} {u U : State} {H : Heap} (hv : U.vm = u.vm) (h : EV G u H) : EV G U H := by
  obtain ⟨h1, h2, ⟨a1, a2⟩, ⟨b1, b2⟩, ⟨c1, c2⟩, d1, ⟨e1, e2⟩, f1, f2, n1, n2, n3⟩ := h
  have q : u.vm.Alike U.vm := by rw [hv]; exact Vm.Alike.refl _
  exact ⟨h1.moved q, h2, ⟨a1.moved q, a2.moved q⟩, ⟨b1.moved q, b2.moved q⟩, ⟨c1.moved q, c2.moved q⟩, d1.moved q, ⟨e1.moved q, e2⟩, f1.moved q, fun i hi => (f2 i hi).same hv, n1.same rfl hv.symm, n2.same rfl hv.symm, n3.same rfl hv.symm⟩
theorem EV.kept {G : GT} {U : State} {H H1 : Heap} (hq : ∀ a : Nat, a < H.size → ¬ Aq G a → H1[a]? = H[a]?) (h : EV G U H) : EV G U H1 := by
  obtain ⟨h1, h2, ⟨a1, a2⟩, ⟨b1, b2⟩, ⟨c1, c2⟩, d1, ⟨e1, e2⟩, f1, f2, n1, n2, n3⟩ := h
  exact ⟨h1, h2, ⟨a1.kept hq, a2.kept hq⟩, ⟨b1.kept hq, b2.kept hq⟩, ⟨c1.kept hq, c2.kept hq⟩, d1.kept hq, ⟨e1.kept hq, e2⟩, f1.kept hq, f2, n1, n2, n3⟩
/-! the locals, by their places -/
def lis : Nat → List (Option Value) → List (Nat × Value)
  | _, [] => []
  | i, some v :: t => (i, v) :: lis (i + 1) t
  | i, none :: t => lis (i + 1) t
theorem lis_mem (L : List (Option Value)) : ∀ (i : Nat) (q : Nat × Value), q ∈ lis i L ↔ i ≤ q.1 ∧ L[q.1 - i]? = some (some q.2) := by
  induction L with
  | nil => intro i q; simp [lis]
  | cons o t ih =>
    intro i q
    have hs : i + 1 ≤ q.1 → q.1 - i = (q.1 - (i + 1)) + 1 := fun h => by omega
    cases o with
    | none =>
      simp only [lis, ih]
      constructor
      · rintro ⟨h1, h2⟩
        exact ⟨by omega, by rw [hs h1, List.getElem?_cons_succ]; exact h2⟩
      · rintro ⟨h1, h2⟩
        by_cases h : q.1 = i
        · rw [h, Nat.sub_self] at h2; simp at h2
        · refine ⟨by omega, ?_⟩
          rw [hs (by omega), List.getElem?_cons_succ] at h2; exact h2
    | some v =>
      simp only [lis, List.mem_cons, ih]
      constructor
      · rintro (rfl | ⟨h1, h2⟩)
        · exact ⟨Nat.le_refl _, by simp⟩
        · exact ⟨by omega, by rw [hs h1, List.getElem?_cons_succ]; exact h2⟩
      · rintro ⟨h1, h2⟩
        by_cases h : q.1 = i
        · left
          rw [h, Nat.sub_self] at h2
          simp at h2
          exact Prod.ext h h2.symm
        · right
          refine ⟨by omega, ?_⟩
          rw [hs (by omega), List.getElem?_cons_succ] at h2; exact h2
theorem lis_at {ls : Array Slot} {nL : Nat} {L : List (Option Value)} (h : lv_has ls nL (lis 0 L)) (k : Nat) {v : Value} (hk : L[k]? = some (some v)) : ls[k]? = some (.val v) := h.2.2 (k, v) ((lis_mem L 0 (k, v)).mpr ⟨Nat.zero_le _, hk⟩)
theorem lv_has.mono {ls : Array Slot} {nL : Nat} {l l' : List (Nat × Value)} (h : lv_has ls nL l) (hl : ∀ q ∈ l', q ∈ l) : lv_has ls nL l' := ⟨h.1, h.2.1, fun q hq => h.2.2 q (hl q hq)⟩
/-- no long stands at this place -/
def nlg : Option Value → Bool
  | some v => v.category == 1
  | none => true
theorem lis_set {L : List (Option Value)} {k : Nat} {v : Value} (hn : ∀ j w, j + 1 = k → L[j]? = some (some w) → w.category ≠ 2) : ∀ q ∈ lis 0 (L.set k (some v)), q ∈ (k, v) :: (lis 0 L).filter (fun q => !(q.1 == k) && !(q.1 + 1 == k && q.2.category == 2)) := by
  intro q hq
  obtain ⟨-, h⟩ := (lis_mem _ 0 q).mp hq
  rw [Nat.sub_zero] at h
  by_cases hk : q.1 = k
  · have hl : k < L.length := by
      have := (List.getElem?_eq_some_iff.mp h).1
      rw [List.length_set] at this; omega
    rw [hk, List.getElem?_set_self hl] at h
    have e : v = q.2 := Option.some.inj (Option.some.inj h)
    rw [List.mem_cons]; left
    exact Prod.ext hk e.symm
  · rw [List.getElem?_set_ne (Ne.symm hk)] at h
    refine List.mem_cons_of_mem _ (List.mem_filter.mpr ⟨(lis_mem _ 0 q).mpr ⟨Nat.zero_le _, h⟩, ?_⟩)
    have h2 : q.1 + 1 = k → q.2.category ≠ 2 := fun e => hn q.1 q.2 e h
    have h3 : (q.1 == k) = false := by simpa using hk
    rw [h3]
    by_cases e : q.1 + 1 = k
    · have := h2 e
      simp [e, this]
    · simp [e]
/-! the judgement: from this memory, pc, locals and stack the method comes to its end -/
abbrev XT : Type := Program × Env × Room × State × MethodId × Array Value × List Frame × Method × Code × (State → Prop) × Nat × Nat
def J (X : XT) (G : GT) (nL : Nat) (g : Mem) (pc : Nat) (L : List (Option Value)) (st : List Value) : Prop :=
  match X with
  | (p, e, R, s, m, args, below, meth, c, Q, cells, slots) => ∀ (H : Heap) (locs : List Loc) (ls : Array Slot), va_P (gD G) vwCl (WW G g) H → va_S (Aq G) s.heap H locs → lv_has ls nL (lis 0 L) → W p G.1 e R s m args below meth c H locs cells slots Q (F0 m pc ls st)
/-- what a method's body knows: own is its class, cc its code, fr and lo the frames and words that are left -/
def CX (X : XT) (G : GT) (own : String) (cc : ByteArray) (nL fr lo : Nat) : Prop :=
  match X with
  | (p, _, R, s, m, args, _, _, c, _, cells, slots) => p.tables.exec = Jvm.exec ∧ c.code = cc ∧ c.maxLocals = nL ∧ s.vm.findClass own = some m.cls ∧ (∀ w ∈ TBL, w.before args s = true) ∧ EV G s s.heap ∧ cells ≤ R.cells ∧ slots ≤ R.slots ∧ fr ≤ R.frames ∧ lo ≤ R.locals
theorem J.congr {X : XT} {G : GT} {nL : Nat} {g g' : Mem} {pc : Nat} {L : List (Option Value)} {st : List Value} (h : ∀ k, k < 40 → ∀ i, clo k ≤ i → i < chi k → g (cb k) i = g' (cb k) i) (k : J X G nL g' pc L st) : J X G nL g pc L st := by
  obtain ⟨p, e, R, s, m, args, below, meth, c, Q, cells, slots⟩ := X
  intro H locs ls hP hS hl
  exact k H locs ls (WW_ext h hP) hS hl
theorem J.locals {X : XT} {G : GT} {nL : Nat} {g : Mem} {pc : Nat} {L L' : List (Option Value)} {st : List Value} (h : ∀ q ∈ lis 0 L', q ∈ lis 0 L) (k : J X G nL g pc L' st) : J X G nL g pc L st := by
  obtain ⟨p, e, R, s, m, args, below, meth, c, Q, cells, slots⟩ := X
  intro H locs ls hP hS hl
  exact k H locs ls hP hS (hl.mono h)
/-! contracts -/
abbrev RM (fr lo : Nat) : Room := { frames := fr, cells := 0, slots := 0, locals := lo }
abbrev PRE (G : GT) (g : Mem) : State → Prop := fun U => va_P (gD G) vwCl (WW G g) U.heap ∧ EV G U U.heap
abbrev POS (G : GT) : Mem → State → Prop := fun g' t => va_P (gD G) vwCl (WW G g') t.heap
/-- an int (or boolean) method -/
def Cti (G : GT) (y : MethodName) (cc : ByteArray) (mL : Nat) (rt : FieldType) (fr lo : Nat) (av : List Value) (g : Mem) (post : Int32 → Mem → Prop) : Prop :=
  Met G.1 y (Cond.code y cc mL (some rt) :: TBL) (RM fr lo) (va_Pc av (PRE G g)) (va_Qi post (POS G) (Aq G)) 0 0 (Aq G)
def Ctv (G : GT) (y : MethodName) (cc : ByteArray) (mL : Nat) (fr lo : Nat) (av : List Value) (g : Mem) (post : Mem → Prop) : Prop :=
  Met G.1 y (Cond.code y cc mL none :: TBL) (RM fr lo) (va_Pc av (PRE G g)) (va_Qv post (POS G) (Aq G)) 0 0 (Aq G)
def Ctl (G : GT) (y : MethodName) (cc : ByteArray) (mL : Nat) (fr lo : Nat) (av : List Value) (g : Mem) (post : Int64 → Mem → Prop) : Prop :=
  Met G.1 y (Cond.code y cc mL (some .long) :: TBL) (RM fr lo) (va_Pc av (PRE G g)) (va_Ql post (POS G) (Aq G)) 0 0 (Aq G)
section ENTER
variable {G : GT} {y : MethodName} {cc : ByteArray} {mL fr lo : Nat} {av : List Value} {g : Mem}
theorem ent_W {rt : Option FieldType} {Qc : Array Value → State → Outcome → State → Prop} (hy : plainName y.cls = true) (hl : (lg_sl av).length ≤ mL) (L0 : List (Option Value)) (hL : lv_args 0 av = lis 0 L0)
    (body : ∀ (p : Program) (e : Env) (s : State) (m : MethodId) (below : List Frame) (meth : Method) (c : Code), meth.sig.returnType = rt → meth.locks = false →
      CX (p, e, RM fr lo, s, m, av.toArray, below, meth, c, MQ below Qc av.toArray s 0 0 (Aq G), 0, 0) G y.cls cc mL fr lo →
      J (p, e, RM fr lo, s, m, av.toArray, below, meth, c, MQ below Qc av.toArray s 0 0 (Aq G), 0, 0) G mL g 0 L0 []) :
    Met G.1 y (Cond.code y cc mL rt :: TBL) (RM fr lo) (va_Pc av (PRE G g)) Qc 0 0 (Aq G) := by
  refine Met.ofW (cc := cc) (maxL := mL) (ret := rt) hy rfl ?_
  intro p e s m args below meth c s₁ B hml hv
  obtain ⟨rfl, hP, hE⟩ := hv
  have hx := B.exec
  have hb := B.bytes
  have hr := B.returns
  have hts := atoms_spec (ws := Cond.code y cc mL rt :: TBL) B.pre
  have hown : s.vm.findClass y.cls = some m.cls := findClass_of_methodNamed B.named
  have hlocks := B.notSynchronized
  have hl0 := lv_entry av (n := mL) hl
  rw [lg_entry_eq]
  generalize (lg_sl av ++ List.replicate (mL - (lg_sl av).length) Slot.unset).toArray = ls at hl0 ⊢
  rw [hL] at hl0
  exact body p e s m below meth c hr hlocks ⟨hx, hb, hml, hown, fun w hw => hts w (List.mem_cons_of_mem _ hw), hE, Nat.zero_le _, Nat.zero_le _, Nat.le_refl _, Nat.le_refl _⟩ s.heap [] ls hP va_S.rf hl0
theorem ent_i {post : Int32 → Mem → Prop} (hy : plainName y.cls = true) (hl : (lg_sl av).length ≤ mL) (L0 : List (Option Value)) (hL : lv_args 0 av = lis 0 L0)
    (body : ∀ X : XT, CX X G y.cls cc mL fr lo → (∀ {pc : Nat} {L : List (Option Value)} {r : Int32} {g' : Mem}, decode cc pc = .ok (.ireturn, 1) → post r g' → J X G mL g' pc L [.int r]) → J X G mL g 0 L0 []) : Cti G y cc mL .int fr lo av g post := by
  refine ent_W hy hl L0 hL ?_
  intro p e s m below meth c hr hlocks C
  refine body _ C ?_
  intro pc L r g' hd hp H locs ls hP hS hls
  obtain ⟨hx, hb, -⟩ := C
  exact W.iret (v := r) hx hb hr (fun t ht hW => ⟨⟨r, g', rfl, hp, by show va_P _ _ _ t.heap; rw [ht]; exact hP⟩, hS.F ht⟩) hS.2.2 hd
theorem ent_z {post : Int32 → Mem → Prop} (hy : plainName y.cls = true) (hl : (lg_sl av).length ≤ mL) (L0 : List (Option Value)) (hL : lv_args 0 av = lis 0 L0)
    (body : ∀ X : XT, CX X G y.cls cc mL fr lo → (∀ {pc : Nat} {L : List (Option Value)} {r : Int32} {g' : Mem}, decode cc pc = .ok (.ireturn, 1) → r = 0 ∨ r = 1 → post r g' → J X G mL g' pc L [.int r]) → J X G mL g 0 L0 []) : Cti G y cc mL .boolean fr lo av g post := by
  refine ent_W hy hl L0 hL ?_
  intro p e s m below meth c hr hlocks C
  refine body _ C ?_
  intro pc L r g' hd h01 hp H locs ls hP hS hls
  obtain ⟨hx, hb, -⟩ := C
  have hn : narrow .boolean (.int r) = .int r := by rcases h01 with rfl | rfl <;> decide
  exact W.zret (v := r) hx hb hr hn (fun t ht hW => ⟨⟨r, g', rfl, hp, by show va_P _ _ _ t.heap; rw [ht]; exact hP⟩, hS.F ht⟩) hS.2.2 hd
theorem ent_v {post : Mem → Prop} (hy : plainName y.cls = true) (hl : (lg_sl av).length ≤ mL) (L0 : List (Option Value)) (hL : lv_args 0 av = lis 0 L0)
    (body : ∀ X : XT, CX X G y.cls cc mL fr lo → (∀ {pc : Nat} {L : List (Option Value)} {g' : Mem}, decode cc pc = .ok (.return_, 1) → post g' → J X G mL g' pc L []) → J X G mL g 0 L0 []) : Ctv G y cc mL fr lo av g post := by
  refine ent_W hy hl L0 hL ?_
  intro p e s m below meth c hr hlocks C
  refine body _ C ?_
  intro pc L g' hd hp H locs ls hP hS hls
  obtain ⟨hx, hb, -⟩ := C
  exact W.vret hx hb hr (fun t ht hW => ⟨⟨g', rfl, hp, by show va_P _ _ _ t.heap; rw [ht]; exact hP⟩, hS.F ht⟩) hS.2.2 hd
theorem ent_l {post : Int64 → Mem → Prop} (hy : plainName y.cls = true) (hl : (lg_sl av).length ≤ mL) (L0 : List (Option Value)) (hL : lv_args 0 av = lis 0 L0)
    (body : ∀ X : XT, CX X G y.cls cc mL fr lo → (∀ {pc : Nat} {L : List (Option Value)} {r : Int64} {g' : Mem}, decode cc pc = .ok (.lreturn, 1) → post r g' → J X G mL g' pc L [.long r]) → J X G mL g 0 L0 []) : Ctl G y cc mL fr lo av g post := by
  refine ent_W hy hl L0 hL ?_
  intro p e s m below meth c hr hlocks C
  refine body _ C ?_
  intro pc L r g' hd hp H locs ls hP hS hls
  obtain ⟨hx, hb, -⟩ := C
  exact W.lret (v := r) hx hb hr (fun t ht hW => ⟨⟨r, g', rfl, hp, by show va_P _ _ _ t.heap; rw [ht]; exact hP⟩, hS.F ht⟩) hS.2.2 hd
end ENTER
end
section
section ROWS
variable {X : XT} {G : GT} {own : String} {cc : ByteArray} {nL fr lo : Nat} {g : Mem} {L : List (Option Value)} {st : List Value}
theorem j_iadd (pc : Nat) {x y : Int32} (C : CX X G own cc nL fr lo) (hd : decode cc pc = .ok (.iadd, 1)) (k : J X G nL g (pc + 1) L (.int (x + y) :: st)) : J X G nL g pc L (.int y :: .int x :: st) := by
  obtain ⟨p, e, R, s, m, args, below, meth, c, Q, cells, slots⟩ := X
  obtain ⟨hx, hb, hml, hown, hts, hE, hc1, hc2, hfr, hlo⟩ := C
  intro H locs ls hP hS hl
  exact lv_iadd hx hb hd (k H locs ls hP hS hl)
theorem j_isub (pc : Nat) {x y : Int32} (C : CX X G own cc nL fr lo) (hd : decode cc pc = .ok (.isub, 1)) (k : J X G nL g (pc + 1) L (.int (x - y) :: st)) : J X G nL g pc L (.int y :: .int x :: st) := by
  obtain ⟨p, e, R, s, m, args, below, meth, c, Q, cells, slots⟩ := X
  obtain ⟨hx, hb, hml, hown, hts, hE, hc1, hc2, hfr, hlo⟩ := C
  intro H locs ls hP hS hl
  exact lv_isub hx hb hd (k H locs ls hP hS hl)
theorem j_imul (pc : Nat) {x y : Int32} (C : CX X G own cc nL fr lo) (hd : decode cc pc = .ok (.imul, 1)) (k : J X G nL g (pc + 1) L (.int (x * y) :: st)) : J X G nL g pc L (.int y :: .int x :: st) := by
  obtain ⟨p, e, R, s, m, args, below, meth, c, Q, cells, slots⟩ := X
  obtain ⟨hx, hb, hml, hown, hts, hE, hc1, hc2, hfr, hlo⟩ := C
  intro H locs ls hP hS hl
  exact lv_imul hx hb hd (k H locs ls hP hS hl)
theorem j_iand (pc : Nat) {x y : Int32} (C : CX X G own cc nL fr lo) (hd : decode cc pc = .ok (.iand, 1)) (k : J X G nL g (pc + 1) L (.int (x &&& y) :: st)) : J X G nL g pc L (.int y :: .int x :: st) := by
  obtain ⟨p, e, R, s, m, args, below, meth, c, Q, cells, slots⟩ := X
  obtain ⟨hx, hb, hml, hown, hts, hE, hc1, hc2, hfr, hlo⟩ := C
  intro H locs ls hP hS hl
  exact lv_iand hx hb hd (k H locs ls hP hS hl)
theorem j_ior (pc : Nat) {x y : Int32} (C : CX X G own cc nL fr lo) (hd : decode cc pc = .ok (.ior, 1)) (k : J X G nL g (pc + 1) L (.int (x ||| y) :: st)) : J X G nL g pc L (.int y :: .int x :: st) := by
  obtain ⟨p, e, R, s, m, args, below, meth, c, Q, cells, slots⟩ := X
  obtain ⟨hx, hb, hml, hown, hts, hE, hc1, hc2, hfr, hlo⟩ := C
  intro H locs ls hP hS hl
  exact lv_ior hx hb hd (k H locs ls hP hS hl)
theorem j_ixor (pc : Nat) {x y : Int32} (C : CX X G own cc nL fr lo) (hd : decode cc pc = .ok (.ixor, 1)) (k : J X G nL g (pc + 1) L (.int (x ^^^ y) :: st)) : J X G nL g pc L (.int y :: .int x :: st) := by
  obtain ⟨p, e, R, s, m, args, below, meth, c, Q, cells, slots⟩ := X
  obtain ⟨hx, hb, hml, hown, hts, hE, hc1, hc2, hfr, hlo⟩ := C
  intro H locs ls hP hS hl
  exact lv_ixor hx hb hd (k H locs ls hP hS hl)
theorem j_ishl (pc : Nat) {x y : Int32} (C : CX X G own cc nL fr lo) (hd : decode cc pc = .ok (.ishl, 1)) (k : J X G nL g (pc + 1) L (.int (x <<< (y &&& 31)) :: st)) : J X G nL g pc L (.int y :: .int x :: st) := by
  obtain ⟨p, e, R, s, m, args, below, meth, c, Q, cells, slots⟩ := X
  obtain ⟨hx, hb, hml, hown, hts, hE, hc1, hc2, hfr, hlo⟩ := C
  intro H locs ls hP hS hl
  exact lv_ishl hx hb hd (k H locs ls hP hS hl)
theorem j_ishr (pc : Nat) {x y : Int32} (C : CX X G own cc nL fr lo) (hd : decode cc pc = .ok (.ishr, 1)) (k : J X G nL g (pc + 1) L (.int (x >>> (y &&& 31)) :: st)) : J X G nL g pc L (.int y :: .int x :: st) := by
  obtain ⟨p, e, R, s, m, args, below, meth, c, Q, cells, slots⟩ := X
  obtain ⟨hx, hb, hml, hown, hts, hE, hc1, hc2, hfr, hlo⟩ := C
  intro H locs ls hP hS hl
  exact lv_ishr hx hb hd (k H locs ls hP hS hl)
theorem j_idiv (pc : Nat) {x y : Int32} (C : CX X G own cc nL fr lo) (hd : decode cc pc = .ok (.idiv, 1)) (hne : ¬ y = 0) (k : J X G nL g (pc + 1) L (.int (x / y) :: st)) : J X G nL g pc L (.int y :: .int x :: st) := by
  obtain ⟨p, e, R, s, m, args, below, meth, c, Q, cells, slots⟩ := X
  obtain ⟨hx, hb, hml, hown, hts, hE, hc1, hc2, hfr, hlo⟩ := C
  intro H locs ls hP hS hl
  exact lv_idiv hx hb hd hne (k H locs ls hP hS hl)
theorem j_irem (pc : Nat) {x y : Int32} (C : CX X G own cc nL fr lo) (hd : decode cc pc = .ok (.irem, 1)) (hne : ¬ y = 0) (k : J X G nL g (pc + 1) L (.int (x - x / y * y) :: st)) : J X G nL g pc L (.int y :: .int x :: st) := by
  obtain ⟨p, e, R, s, m, args, below, meth, c, Q, cells, slots⟩ := X
  obtain ⟨hx, hb, hml, hown, hts, hE, hc1, hc2, hfr, hlo⟩ := C
  intro H locs ls hP hS hl
  exact lv_irem hx hb hd hne (k H locs ls hP hS hl)
theorem j_iushr (pc : Nat) {x y v : Int32} (C : CX X G own cc nL fr lo) (hd : decode cc pc = .ok (.iushr, 1)) (hv : (x.toUInt32 >>> (y.toUInt32 &&& Int32.toUInt32 31)).toInt32 = v) (k : J X G nL g (pc + 1) L (.int v :: st)) : J X G nL g pc L (.int y :: .int x :: st) := by
  obtain ⟨p, e, R, s, m, args, below, meth, c, Q, cells, slots⟩ := X
  obtain ⟨hx, hb, hml, hown, hts, hE, hc1, hc2, hfr, hlo⟩ := C
  intro H locs ls hP hS hl
  exact lv_iushr hx hb hd hv (k H locs ls hP hS hl)
theorem j_ladd (pc : Nat) {x y : Int64} (C : CX X G own cc nL fr lo) (hd : decode cc pc = .ok (.ladd, 1)) (k : J X G nL g (pc + 1) L (.long (x + y) :: st)) : J X G nL g pc L (.long y :: .long x :: st) := by
  obtain ⟨p, e, R, s, m, args, below, meth, c, Q, cells, slots⟩ := X
  obtain ⟨hx, hb, hml, hown, hts, hE, hc1, hc2, hfr, hlo⟩ := C
  intro H locs ls hP hS hl
  exact lv_ladd hx hb hd (k H locs ls hP hS hl)
theorem j_lmul (pc : Nat) {x y : Int64} (C : CX X G own cc nL fr lo) (hd : decode cc pc = .ok (.lmul, 1)) (k : J X G nL g (pc + 1) L (.long (x * y) :: st)) : J X G nL g pc L (.long y :: .long x :: st) := by
  obtain ⟨p, e, R, s, m, args, below, meth, c, Q, cells, slots⟩ := X
  obtain ⟨hx, hb, hml, hown, hts, hE, hc1, hc2, hfr, hlo⟩ := C
  intro H locs ls hP hS hl
  exact lv_lmul hx hb hd (k H locs ls hP hS hl)
theorem j_ldiv (pc : Nat) {x y : Int64} (C : CX X G own cc nL fr lo) (hd : decode cc pc = .ok (.ldiv, 1)) (hne : ¬ y = 0) (k : J X G nL g (pc + 1) L (.long (x / y) :: st)) : J X G nL g pc L (.long y :: .long x :: st) := by
  obtain ⟨p, e, R, s, m, args, below, meth, c, Q, cells, slots⟩ := X
  obtain ⟨hx, hb, hml, hown, hts, hE, hc1, hc2, hfr, hlo⟩ := C
  intro H locs ls hP hS hl
  exact lv_ldiv hx hb hd hne (k H locs ls hP hS hl)
theorem j_lrem (pc : Nat) {x y : Int64} (C : CX X G own cc nL fr lo) (hd : decode cc pc = .ok (.lrem, 1)) (hne : ¬ y = 0) (k : J X G nL g (pc + 1) L (.long (x - x / y * y) :: st)) : J X G nL g pc L (.long y :: .long x :: st) := by
  obtain ⟨p, e, R, s, m, args, below, meth, c, Q, cells, slots⟩ := X
  obtain ⟨hx, hb, hml, hown, hts, hE, hc1, hc2, hfr, hlo⟩ := C
  intro H locs ls hP hS hl
  exact lv_lrem hx hb hd hne (k H locs ls hP hS hl)
theorem j_i2l (pc : Nat) {x : Int32} (C : CX X G own cc nL fr lo) (hd : decode cc pc = .ok (.i2l, 1)) (k : J X G nL g (pc + 1) L (.long x.toInt64 :: st)) : J X G nL g pc L (.int x :: st) := by
  obtain ⟨p, e, R, s, m, args, below, meth, c, Q, cells, slots⟩ := X
  obtain ⟨hx, hb, hml, hown, hts, hE, hc1, hc2, hfr, hlo⟩ := C
  intro H locs ls hP hS hl
  exact lv_i2l hx hb hd rfl (k H locs ls hP hS hl)
theorem j_i2b (pc : Nat) {x : Int32} (C : CX X G own cc nL fr lo) (hd : decode cc pc = .ok (.i2b, 1)) (k : J X G nL g (pc + 1) L (.int x.toInt8.toInt32 :: st)) : J X G nL g pc L (.int x :: st) := by
  obtain ⟨p, e, R, s, m, args, below, meth, c, Q, cells, slots⟩ := X
  obtain ⟨hx, hb, hml, hown, hts, hE, hc1, hc2, hfr, hlo⟩ := C
  intro H locs ls hP hS hl
  exact lv_i2b hx hb hd rfl (k H locs ls hP hS hl)
theorem j_i2s (pc : Nat) {x : Int32} (C : CX X G own cc nL fr lo) (hd : decode cc pc = .ok (.i2s, 1)) (k : J X G nL g (pc + 1) L (.int x.toInt16.toInt32 :: st)) : J X G nL g pc L (.int x :: st) := by
  obtain ⟨p, e, R, s, m, args, below, meth, c, Q, cells, slots⟩ := X
  obtain ⟨hx, hb, hml, hown, hts, hE, hc1, hc2, hfr, hlo⟩ := C
  intro H locs ls hP hS hl
  exact lv_i2s hx hb hd rfl (k H locs ls hP hS hl)
theorem j_lcmp (pc : Nat) {x y : Int64} (C : CX X G own cc nL fr lo) (hd : decode cc pc = .ok (.lcmp, 1)) (k : J X G nL g (pc + 1) L (.int (lg_cmp x y) :: st)) : J X G nL g pc L (.long y :: .long x :: st) := by
  obtain ⟨p, e, R, s, m, args, below, meth, c, Q, cells, slots⟩ := X
  obtain ⟨hx, hb, hml, hown, hts, hE, hc1, hc2, hfr, hlo⟩ := C
  intro H locs ls hP hS hl
  exact W.lcmp hx hb hd (k H locs ls hP hS hl)
theorem j_iconst (pc : Nat) {n : Int} {v : Int32} (C : CX X G own cc nL fr lo) (hd : decode cc pc = .ok (.iconst n, 1)) (hv : Int32.ofInt n = v) (k : J X G nL g (pc + 1) L (.int v :: st)) : J X G nL g pc L st := by
  obtain ⟨p, e, R, s, m, args, below, meth, c, Q, cells, slots⟩ := X
  obtain ⟨hx, hb, hml, hown, hts, hE, hc1, hc2, hfr, hlo⟩ := C
  intro H locs ls hP hS hl
  exact lv_iconst hx hb hd hv (k H locs ls hP hS hl)
theorem j_bipush (pc : Nat) {n : Int} {v : Int32} (C : CX X G own cc nL fr lo) (hd : decode cc pc = .ok (.bipush n, 2)) (hv : (Int8.ofInt n).toInt32 = v) (k : J X G nL g (pc + 2) L (.int v :: st)) : J X G nL g pc L st := by
  obtain ⟨p, e, R, s, m, args, below, meth, c, Q, cells, slots⟩ := X
  obtain ⟨hx, hb, hml, hown, hts, hE, hc1, hc2, hfr, hlo⟩ := C
  intro H locs ls hP hS hl
  exact lv_bipush hx hb hd hv (k H locs ls hP hS hl)
theorem j_sipush (pc : Nat) {n : Int} {v : Int32} (C : CX X G own cc nL fr lo) (hd : decode cc pc = .ok (.sipush n, 3)) (hv : (Int16.ofInt n).toInt32 = v) (k : J X G nL g (pc + 3) L (.int v :: st)) : J X G nL g pc L st := by
  obtain ⟨p, e, R, s, m, args, below, meth, c, Q, cells, slots⟩ := X
  obtain ⟨hx, hb, hml, hown, hts, hE, hc1, hc2, hfr, hlo⟩ := C
  intro H locs ls hP hS hl
  exact lv_sipush hx hb hd hv (k H locs ls hP hS hl)
theorem j_lconst (pc : Nat) {n : Fin 2} {v : Int64} (C : CX X G own cc nL fr lo) (hd : decode cc pc = .ok (.lconst n, 1)) (hv : Int64.ofNat (n : Nat) = v) (k : J X G nL g (pc + 1) L (.long v :: st)) : J X G nL g pc L st := by
  obtain ⟨p, e, R, s, m, args, below, meth, c, Q, cells, slots⟩ := X
  obtain ⟨hx, hb, hml, hown, hts, hE, hc1, hc2, hfr, hlo⟩ := C
  intro H locs ls hP hS hl
  exact lv_lconst hx hb hd hv (k H locs ls hP hS hl)
theorem j_ldc (pc : Nat) {i : Nat} {v : Int32} (C : CX X G own cc nL fr lo) (hd : decode cc pc = .ok (.ldc i, 2)) (hw : Cond.constant own i v ∈ TBL) (k : J X G nL g (pc + 2) L (.int v :: st)) : J X G nL g pc L st := by
  obtain ⟨p, e, R, s, m, args, below, meth, c, Q, cells, slots⟩ := X
  obtain ⟨hx, hb, hml, hown, hts, hE, hc1, hc2, hfr, hlo⟩ := C
  intro H locs ls hP hS hl
  exact lv_ldc hx hb hown (hts _ hw) hd (k H locs ls hP hS hl)
theorem j_ldcw (pc : Nat) {i : Nat} {v : Int32} (C : CX X G own cc nL fr lo) (hd : decode cc pc = .ok (.ldc_w i, 3)) (hw : Cond.constant own i v ∈ TBL) (k : J X G nL g (pc + 3) L (.int v :: st)) : J X G nL g pc L st := by
  obtain ⟨p, e, R, s, m, args, below, meth, c, Q, cells, slots⟩ := X
  obtain ⟨hx, hb, hml, hown, hts, hE, hc1, hc2, hfr, hlo⟩ := C
  intro H locs ls hP hS hl
  exact lv_ldcw hx hb hown (hts _ hw) hd (k H locs ls hP hS hl)
theorem j_ldc2 (pc : Nat) {i : Nat} {v : Int64} (C : CX X G own cc nL fr lo) (hd : decode cc pc = .ok (.ldc2_w i, 3)) (hw : Cond.constantLong own i v ∈ TBL) (k : J X G nL g (pc + 3) L (.long v :: st)) : J X G nL g pc L st := by
  obtain ⟨p, e, R, s, m, args, below, meth, c, Q, cells, slots⟩ := X
  obtain ⟨hx, hb, hml, hown, hts, hE, hc1, hc2, hfr, hlo⟩ := C
  intro H locs ls hP hS hl
  exact lv_ldc2 hx hb hown (hts _ hw) hd (k H locs ls hP hS hl)
theorem j_dup (pc : Nat) {v : Value} (C : CX X G own cc nL fr lo) (hd : decode cc pc = .ok (.dup, 1)) (hv : v.category = 1) (k : J X G nL g (pc + 1) L (v :: v :: st)) : J X G nL g pc L (v :: st) := by
  obtain ⟨p, e, R, s, m, args, below, meth, c, Q, cells, slots⟩ := X
  obtain ⟨hx, hb, hml, hown, hts, hE, hc1, hc2, hfr, hlo⟩ := C
  intro H locs ls hP hS hl
  exact lv_dup hx hb hd hv (k H locs ls hP hS hl)
theorem j_dup2 (pc : Nat) {v w : Value} (C : CX X G own cc nL fr lo) (hd : decode cc pc = .ok (.dup2, 1)) (hv : v.category = 1) (hw : w.category = 1) (k : J X G nL g (pc + 1) L (v :: w :: v :: w :: st)) : J X G nL g pc L (v :: w :: st) := by
  obtain ⟨p, e, R, s, m, args, below, meth, c, Q, cells, slots⟩ := X
  obtain ⟨hx, hb, hml, hown, hts, hE, hc1, hc2, hfr, hlo⟩ := C
  intro H locs ls hP hS hl
  exact lv_dup2_11 hx hb hd hv hw (k H locs ls hP hS hl)
theorem j_pop (pc : Nat) {v : Value} (C : CX X G own cc nL fr lo) (hd : decode cc pc = .ok (.pop, 1)) (hv : v.category = 1) (k : J X G nL g (pc + 1) L st) : J X G nL g pc L (v :: st) := by
  obtain ⟨p, e, R, s, m, args, below, meth, c, Q, cells, slots⟩ := X
  obtain ⟨hx, hb, hml, hown, hts, hE, hc1, hc2, hfr, hlo⟩ := C
  intro H locs ls hP hS hl
  exact lv_pop hx hb hd hv (k H locs ls hP hS hl)
theorem j_ifeq (pc : Nat) (tgt : Nat) {x : Int32} {off : Int} (C : CX X G own cc nL fr lo) (hd : decode cc pc = .ok (.ifCond .eq off, 3)) (ht : (pc : Int) + off = (tgt : Int)) (kt : x = 0 → J X G nL g tgt L st) (kf : ¬ x = 0 → J X G nL g (pc + 3) L st) : J X G nL g pc L (.int x :: st) := by
  obtain ⟨p, e, R, s, m, args, below, meth, c, Q, cells, slots⟩ := X
  obtain ⟨hx, hb, hml, hown, hts, hE, hc1, hc2, hfr, hlo⟩ := C
  intro H locs ls hP hS hl
  exact lv_if_eq hx hb hd ht (fun q => kt q H locs ls hP hS hl) (fun q => kf q H locs ls hP hS hl)
theorem j_iceq (pc : Nat) (tgt : Nat) {x y : Int32} {off : Int} (C : CX X G own cc nL fr lo) (hd : decode cc pc = .ok (.if_icmp .eq off, 3)) (ht : (pc : Int) + off = (tgt : Int)) (kt : x = y → J X G nL g tgt L st) (kf : ¬ x = y → J X G nL g (pc + 3) L st) : J X G nL g pc L (.int y :: .int x :: st) := by
  obtain ⟨p, e, R, s, m, args, below, meth, c, Q, cells, slots⟩ := X
  obtain ⟨hx, hb, hml, hown, hts, hE, hc1, hc2, hfr, hlo⟩ := C
  intro H locs ls hP hS hl
  exact lv_icmp_eq hx hb hd ht (fun q => kt q H locs ls hP hS hl) (fun q => kf q H locs ls hP hS hl)
theorem j_ifne (pc : Nat) (tgt : Nat) {x : Int32} {off : Int} (C : CX X G own cc nL fr lo) (hd : decode cc pc = .ok (.ifCond .ne off, 3)) (ht : (pc : Int) + off = (tgt : Int)) (kt : ¬ x = 0 → J X G nL g tgt L st) (kf : x = 0 → J X G nL g (pc + 3) L st) : J X G nL g pc L (.int x :: st) := by
  obtain ⟨p, e, R, s, m, args, below, meth, c, Q, cells, slots⟩ := X
  obtain ⟨hx, hb, hml, hown, hts, hE, hc1, hc2, hfr, hlo⟩ := C
  intro H locs ls hP hS hl
  exact lv_if_ne hx hb hd ht (fun q => kt q H locs ls hP hS hl) (fun q => kf q H locs ls hP hS hl)
theorem j_icne (pc : Nat) (tgt : Nat) {x y : Int32} {off : Int} (C : CX X G own cc nL fr lo) (hd : decode cc pc = .ok (.if_icmp .ne off, 3)) (ht : (pc : Int) + off = (tgt : Int)) (kt : ¬ x = y → J X G nL g tgt L st) (kf : x = y → J X G nL g (pc + 3) L st) : J X G nL g pc L (.int y :: .int x :: st) := by
  obtain ⟨p, e, R, s, m, args, below, meth, c, Q, cells, slots⟩ := X
  obtain ⟨hx, hb, hml, hown, hts, hE, hc1, hc2, hfr, hlo⟩ := C
  intro H locs ls hP hS hl
  exact lv_icmp_ne hx hb hd ht (fun q => kt q H locs ls hP hS hl) (fun q => kf q H locs ls hP hS hl)
theorem j_iflt (pc : Nat) (tgt : Nat) {x : Int32} {off : Int} (C : CX X G own cc nL fr lo) (hd : decode cc pc = .ok (.ifCond .lt off, 3)) (ht : (pc : Int) + off = (tgt : Int)) (kt : x < 0 → J X G nL g tgt L st) (kf : ¬ x < 0 → J X G nL g (pc + 3) L st) : J X G nL g pc L (.int x :: st) := by
  obtain ⟨p, e, R, s, m, args, below, meth, c, Q, cells, slots⟩ := X
  obtain ⟨hx, hb, hml, hown, hts, hE, hc1, hc2, hfr, hlo⟩ := C
  intro H locs ls hP hS hl
  exact lv_if_lt hx hb hd ht (fun q => kt q H locs ls hP hS hl) (fun q => kf q H locs ls hP hS hl)
theorem j_iclt (pc : Nat) (tgt : Nat) {x y : Int32} {off : Int} (C : CX X G own cc nL fr lo) (hd : decode cc pc = .ok (.if_icmp .lt off, 3)) (ht : (pc : Int) + off = (tgt : Int)) (kt : x < y → J X G nL g tgt L st) (kf : ¬ x < y → J X G nL g (pc + 3) L st) : J X G nL g pc L (.int y :: .int x :: st) := by
  obtain ⟨p, e, R, s, m, args, below, meth, c, Q, cells, slots⟩ := X
  obtain ⟨hx, hb, hml, hown, hts, hE, hc1, hc2, hfr, hlo⟩ := C
  intro H locs ls hP hS hl
  exact lv_icmp_lt hx hb hd ht (fun q => kt q H locs ls hP hS hl) (fun q => kf q H locs ls hP hS hl)
theorem j_ifge (pc : Nat) (tgt : Nat) {x : Int32} {off : Int} (C : CX X G own cc nL fr lo) (hd : decode cc pc = .ok (.ifCond .ge off, 3)) (ht : (pc : Int) + off = (tgt : Int)) (kt : 0 ≤ x → J X G nL g tgt L st) (kf : ¬ 0 ≤ x → J X G nL g (pc + 3) L st) : J X G nL g pc L (.int x :: st) := by
  obtain ⟨p, e, R, s, m, args, below, meth, c, Q, cells, slots⟩ := X
  obtain ⟨hx, hb, hml, hown, hts, hE, hc1, hc2, hfr, hlo⟩ := C
  intro H locs ls hP hS hl
  exact lv_if_ge hx hb hd ht (fun q => kt q H locs ls hP hS hl) (fun q => kf q H locs ls hP hS hl)
theorem j_icge (pc : Nat) (tgt : Nat) {x y : Int32} {off : Int} (C : CX X G own cc nL fr lo) (hd : decode cc pc = .ok (.if_icmp .ge off, 3)) (ht : (pc : Int) + off = (tgt : Int)) (kt : y ≤ x → J X G nL g tgt L st) (kf : ¬ y ≤ x → J X G nL g (pc + 3) L st) : J X G nL g pc L (.int y :: .int x :: st) := by
  obtain ⟨p, e, R, s, m, args, below, meth, c, Q, cells, slots⟩ := X
  obtain ⟨hx, hb, hml, hown, hts, hE, hc1, hc2, hfr, hlo⟩ := C
  intro H locs ls hP hS hl
  exact lv_icmp_ge hx hb hd ht (fun q => kt q H locs ls hP hS hl) (fun q => kf q H locs ls hP hS hl)
theorem j_ifgt (pc : Nat) (tgt : Nat) {x : Int32} {off : Int} (C : CX X G own cc nL fr lo) (hd : decode cc pc = .ok (.ifCond .gt off, 3)) (ht : (pc : Int) + off = (tgt : Int)) (kt : 0 < x → J X G nL g tgt L st) (kf : ¬ 0 < x → J X G nL g (pc + 3) L st) : J X G nL g pc L (.int x :: st) := by
  obtain ⟨p, e, R, s, m, args, below, meth, c, Q, cells, slots⟩ := X
  obtain ⟨hx, hb, hml, hown, hts, hE, hc1, hc2, hfr, hlo⟩ := C
  intro H locs ls hP hS hl
  exact lv_if_gt hx hb hd ht (fun q => kt q H locs ls hP hS hl) (fun q => kf q H locs ls hP hS hl)
theorem j_icgt (pc : Nat) (tgt : Nat) {x y : Int32} {off : Int} (C : CX X G own cc nL fr lo) (hd : decode cc pc = .ok (.if_icmp .gt off, 3)) (ht : (pc : Int) + off = (tgt : Int)) (kt : y < x → J X G nL g tgt L st) (kf : ¬ y < x → J X G nL g (pc + 3) L st) : J X G nL g pc L (.int y :: .int x :: st) := by
  obtain ⟨p, e, R, s, m, args, below, meth, c, Q, cells, slots⟩ := X
  obtain ⟨hx, hb, hml, hown, hts, hE, hc1, hc2, hfr, hlo⟩ := C
  intro H locs ls hP hS hl
  exact lv_icmp_gt hx hb hd ht (fun q => kt q H locs ls hP hS hl) (fun q => kf q H locs ls hP hS hl)
theorem j_ifle (pc : Nat) (tgt : Nat) {x : Int32} {off : Int} (C : CX X G own cc nL fr lo) (hd : decode cc pc = .ok (.ifCond .le off, 3)) (ht : (pc : Int) + off = (tgt : Int)) (kt : x ≤ 0 → J X G nL g tgt L st) (kf : ¬ x ≤ 0 → J X G nL g (pc + 3) L st) : J X G nL g pc L (.int x :: st) := by
  obtain ⟨p, e, R, s, m, args, below, meth, c, Q, cells, slots⟩ := X
  obtain ⟨hx, hb, hml, hown, hts, hE, hc1, hc2, hfr, hlo⟩ := C
  intro H locs ls hP hS hl
  exact lv_if_le hx hb hd ht (fun q => kt q H locs ls hP hS hl) (fun q => kf q H locs ls hP hS hl)
theorem j_icle (pc : Nat) (tgt : Nat) {x y : Int32} {off : Int} (C : CX X G own cc nL fr lo) (hd : decode cc pc = .ok (.if_icmp .le off, 3)) (ht : (pc : Int) + off = (tgt : Int)) (kt : x ≤ y → J X G nL g tgt L st) (kf : ¬ x ≤ y → J X G nL g (pc + 3) L st) : J X G nL g pc L (.int y :: .int x :: st) := by
  obtain ⟨p, e, R, s, m, args, below, meth, c, Q, cells, slots⟩ := X
  obtain ⟨hx, hb, hml, hown, hts, hE, hc1, hc2, hfr, hlo⟩ := C
  intro H locs ls hP hS hl
  exact lv_icmp_le hx hb hd ht (fun q => kt q H locs ls hP hS hl) (fun q => kf q H locs ls hP hS hl)
theorem j_goto (pc : Nat) (tgt : Nat) {off : Int} (C : CX X G own cc nL fr lo) (hd : decode cc pc = .ok (.goto off, 3)) (ht : (pc : Int) + off = (tgt : Int)) (k : J X G nL g tgt L st) : J X G nL g pc L st := by
  obtain ⟨p, e, R, s, m, args, below, meth, c, Q, cells, slots⟩ := X
  obtain ⟨hx, hb, hml, hown, hts, hE, hc1, hc2, hfr, hlo⟩ := C
  intro H locs ls hP hS hl
  exact lv_goto hx hb hd ht (k H locs ls hP hS hl)
theorem j_tsOut (pc : Nat) (tgt : Nat) {dflt lo1 hi1 : Int} {offs : Array Int} {len : Nat} {x : Int32} (C : CX X G own cc nL fr lo) (hd : decode cc pc = .ok (.tableswitch dflt lo1 hi1 offs, len)) (h : x.toInt < lo1 ∨ hi1 < x.toInt) (ht : (pc : Int) + dflt = (tgt : Int)) (k : J X G nL g tgt L st) : J X G nL g pc L (.int x :: st) := by
  obtain ⟨p, e, R, s, m, args, below, meth, c, Q, cells, slots⟩ := X
  obtain ⟨hx, hb, hml, hown, hts, hE, hc1, hc2, hfr, hlo⟩ := C
  intro H locs ls hP hS hl
  exact lv_tableOut hx hb hd h ht (k H locs ls hP hS hl)
theorem j_tsIn (pc : Nat) (tgt : Nat) {dflt lo1 hi1 : Int} {offs : Array Int} {len : Nat} {x : Int32} {off : Int} (C : CX X G own cc nL fr lo) (hd : decode cc pc = .ok (.tableswitch dflt lo1 hi1 offs, len)) (h1 : ¬ x.toInt < lo1) (h2 : ¬ hi1 < x.toInt) (ho : offs[(x.toInt - lo1).toNat]? = some off) (ht : (pc : Int) + off = (tgt : Int)) (k : J X G nL g tgt L st) : J X G nL g pc L (.int x :: st) := by
  obtain ⟨p, e, R, s, m, args, below, meth, c, Q, cells, slots⟩ := X
  obtain ⟨hx, hb, hml, hown, hts, hE, hc1, hc2, hfr, hlo⟩ := C
  intro H locs ls hP hS hl
  exact lv_tableIn hx hb hd h1 h2 ho ht (k H locs ls hP hS hl)
theorem j_lookup (pc : Nat) (tgt : Nat) {dflt : Int} {ps : Array (Int × Int)} {len : Nat} {x : Int32} {off : Int} (C : CX X G own cc nL fr lo) (hd : decode cc pc = .ok (.lookupswitch dflt ps, len)) (hp : (ps.toList.zip (ps.toList.drop 1)).all (fun (a, next) => a.1 < next.1) = true) (ho : Op.lookupswitch.offset ps.toList dflt x.toInt = off) (ht : (pc : Int) + off = (tgt : Int)) (k : J X G nL g tgt L st) : J X G nL g pc L (.int x :: st) := by
  obtain ⟨p, e, R, s, m, args, below, meth, c, Q, cells, slots⟩ := X
  obtain ⟨hx, hb, hml, hown, hts, hE, hc1, hc2, hfr, hlo⟩ := C
  intro H locs ls hP hS hl
  exact lv_lookup hx hb hd hp ho ht (k H locs ls hP hS hl)
theorem j_top {pc : Nat} {x : Int32} (y : Int32) (h : x = y) (k : J X G nL g pc L (.int y :: st)) : J X G nL g pc L (.int x :: st) := h ▸ k
theorem j_top2 {pc : Nat} {x : Int32} {v : Value} (y : Int32) (h : x = y) (k : J X G nL g pc L (v :: .int y :: st)) : J X G nL g pc L (v :: .int x :: st) := h ▸ k
theorem j_mem {pc : Nat} (g' : Mem) (h : g = g') (k : J X G nL g' pc L st) : J X G nL g pc L st := h ▸ k
theorem j_il0 (pc : Nat)  {x : Int32} (C : CX X G own cc nL fr lo) (hd : decode cc pc = .ok (.iload_n 0, 1)) (k : J X G nL g (pc + 1) (some (.int x) :: L) (.int x :: st)) : J X G nL g pc (some (.int x) :: L) st := by
  obtain ⟨p, e, R, s, m, args, below, meth, c, Q, cells, slots⟩ := X
  obtain ⟨hx, hb, hml, hown, hts, hE, hc1, hc2, hfr, hlo⟩ := C
  intro H locs ls hP hS hl
  exact lv_iload_n hx hb hd rfl (lis_at hl 0 rfl) (k H locs ls hP hS hl)
theorem j_al0 (pc : Nat)  {x : Nat} (C : CX X G own cc nL fr lo) (hd : decode cc pc = .ok (.aload_n 0, 1)) (k : J X G nL g (pc + 1) (some (.ref x) :: L) (.ref x :: st)) : J X G nL g pc (some (.ref x) :: L) st := by
  obtain ⟨p, e, R, s, m, args, below, meth, c, Q, cells, slots⟩ := X
  obtain ⟨hx, hb, hml, hown, hts, hE, hc1, hc2, hfr, hlo⟩ := C
  intro H locs ls hP hS hl
  exact lv_aload_n hx hb hd rfl (lis_at hl 0 rfl) (k H locs ls hP hS hl)
theorem j_ll0 (pc : Nat)  {x : Int64} (C : CX X G own cc nL fr lo) (hd : decode cc pc = .ok (.lload_n 0, 1)) (k : J X G nL g (pc + 1) (some (.long x) :: L) (.long x :: st)) : J X G nL g pc (some (.long x) :: L) st := by
  obtain ⟨p, e, R, s, m, args, below, meth, c, Q, cells, slots⟩ := X
  obtain ⟨hx, hb, hml, hown, hts, hE, hc1, hc2, hfr, hlo⟩ := C
  intro H locs ls hP hS hl
  exact lv_lload_n hx hb hd rfl (lis_at hl 0 rfl) (k H locs ls hP hS hl)
theorem j_is0 (pc : Nat)  {o : Option Value} {x : Int32} (C : CX X G own cc nL fr lo) (hd : decode cc pc = .ok (.istore_n 0, 1)) (hk : 0 < nL) (k : J X G nL g (pc + 1) (some (.int x) :: L) st) : J X G nL g pc (o :: L) (.int x :: st) := by
  obtain ⟨p, e, R, s, m, args, below, meth, c, Q, cells, slots⟩ := X
  obtain ⟨hx, hb, hml, hown, hts, hE, hc1, hc2, hfr, hlo⟩ := C
  intro H locs ls hP hS hl
  refine lv_istore_n hx hb hd rfl hl hk rfl (fun ls' hl' => k H locs ls' hP hS (hl'.mono ?_))
  exact lis_set (L := (o :: L)) (k := 0) (v := .int x) (fun j w hj hw => by omega)
theorem j_as0 (pc : Nat)  {o : Option Value} {x : Nat} (C : CX X G own cc nL fr lo) (hd : decode cc pc = .ok (.astore_n 0, 1)) (hk : 0 < nL) (k : J X G nL g (pc + 1) (some (.ref x) :: L) st) : J X G nL g pc (o :: L) (.ref x :: st) := by
  obtain ⟨p, e, R, s, m, args, below, meth, c, Q, cells, slots⟩ := X
  obtain ⟨hx, hb, hml, hown, hts, hE, hc1, hc2, hfr, hlo⟩ := C
  intro H locs ls hP hS hl
  refine lv_astore_n hx hb hd rfl hl hk rfl (fun ls' hl' => k H locs ls' hP hS (hl'.mono ?_))
  exact lis_set (L := (o :: L)) (k := 0) (v := .ref x) (fun j w hj hw => by omega)
theorem j_inc0 (pc : Nat)  {n : Int} {x v : Int32} (C : CX X G own cc nL fr lo) (hd : decode cc pc = .ok (.iinc 0 n, 3)) (hv : x + Int32.ofInt n = v) (hk : 0 < nL) (k : J X G nL g (pc + 3) (some (.int v) :: L) st) : J X G nL g pc (some (.int x) :: L) st := by
  obtain ⟨p, e, R, s, m, args, below, meth, c, Q, cells, slots⟩ := X
  obtain ⟨hx, hb, hml, hown, hts, hE, hc1, hc2, hfr, hlo⟩ := C
  intro H locs ls hP hS hl
  obtain ⟨i9, hi9⟩ := List.getElem?_of_mem ((lis_mem (some (.int x) :: L) 0 (0, .int x)).mpr ⟨Nat.zero_le _, rfl⟩)
  refine lv_iinc hx hb hd hl hi9 hv hk rfl (fun ls' hl' => k H locs ls' hP hS (hl'.mono ?_))
  exact lis_set (L := (some (.int x) :: L)) (k := 0) (v := .int v) (fun j w hj hw => by omega)
theorem j_il1 (pc : Nat) {a0 : Option Value} {x : Int32} (C : CX X G own cc nL fr lo) (hd : decode cc pc = .ok (.iload_n 1, 1)) (k : J X G nL g (pc + 1) (a0 :: some (.int x) :: L) (.int x :: st)) : J X G nL g pc (a0 :: some (.int x) :: L) st := by
  obtain ⟨p, e, R, s, m, args, below, meth, c, Q, cells, slots⟩ := X
  obtain ⟨hx, hb, hml, hown, hts, hE, hc1, hc2, hfr, hlo⟩ := C
  intro H locs ls hP hS hl
  exact lv_iload_n hx hb hd rfl (lis_at hl 1 rfl) (k H locs ls hP hS hl)
theorem j_al1 (pc : Nat) {a0 : Option Value} {x : Nat} (C : CX X G own cc nL fr lo) (hd : decode cc pc = .ok (.aload_n 1, 1)) (k : J X G nL g (pc + 1) (a0 :: some (.ref x) :: L) (.ref x :: st)) : J X G nL g pc (a0 :: some (.ref x) :: L) st := by
  obtain ⟨p, e, R, s, m, args, below, meth, c, Q, cells, slots⟩ := X
  obtain ⟨hx, hb, hml, hown, hts, hE, hc1, hc2, hfr, hlo⟩ := C
  intro H locs ls hP hS hl
  exact lv_aload_n hx hb hd rfl (lis_at hl 1 rfl) (k H locs ls hP hS hl)
theorem j_ll1 (pc : Nat) {a0 : Option Value} {x : Int64} (C : CX X G own cc nL fr lo) (hd : decode cc pc = .ok (.lload_n 1, 1)) (k : J X G nL g (pc + 1) (a0 :: some (.long x) :: L) (.long x :: st)) : J X G nL g pc (a0 :: some (.long x) :: L) st := by
  obtain ⟨p, e, R, s, m, args, below, meth, c, Q, cells, slots⟩ := X
  obtain ⟨hx, hb, hml, hown, hts, hE, hc1, hc2, hfr, hlo⟩ := C
  intro H locs ls hP hS hl
  exact lv_lload_n hx hb hd rfl (lis_at hl 1 rfl) (k H locs ls hP hS hl)
theorem j_is1 (pc : Nat) {a0 : Option Value} {o : Option Value} {x : Int32} (C : CX X G own cc nL fr lo) (hd : decode cc pc = .ok (.istore_n 1, 1)) (hn : nlg a0 = true) (hk : 1 < nL) (k : J X G nL g (pc + 1) (a0 :: some (.int x) :: L) st) : J X G nL g pc (a0 :: o :: L) (.int x :: st) := by
  obtain ⟨p, e, R, s, m, args, below, meth, c, Q, cells, slots⟩ := X
  obtain ⟨hx, hb, hml, hown, hts, hE, hc1, hc2, hfr, hlo⟩ := C
  intro H locs ls hP hS hl
  refine lv_istore_n hx hb hd rfl hl hk rfl (fun ls' hl' => k H locs ls' hP hS (hl'.mono ?_))
  exact lis_set (L := (a0 :: o :: L)) (k := 1) (v := .int x) (fun j w hj hw => by
    obtain rfl : j = 0 := by omega
    obtain rfl : a0 = some w := Option.some.inj hw
    intro hc; simp [nlg, hc] at hn)
theorem j_as1 (pc : Nat) {a0 : Option Value} {o : Option Value} {x : Nat} (C : CX X G own cc nL fr lo) (hd : decode cc pc = .ok (.astore_n 1, 1)) (hn : nlg a0 = true) (hk : 1 < nL) (k : J X G nL g (pc + 1) (a0 :: some (.ref x) :: L) st) : J X G nL g pc (a0 :: o :: L) (.ref x :: st) := by
  obtain ⟨p, e, R, s, m, args, below, meth, c, Q, cells, slots⟩ := X
  obtain ⟨hx, hb, hml, hown, hts, hE, hc1, hc2, hfr, hlo⟩ := C
  intro H locs ls hP hS hl
  refine lv_astore_n hx hb hd rfl hl hk rfl (fun ls' hl' => k H locs ls' hP hS (hl'.mono ?_))
  exact lis_set (L := (a0 :: o :: L)) (k := 1) (v := .ref x) (fun j w hj hw => by
    obtain rfl : j = 0 := by omega
    obtain rfl : a0 = some w := Option.some.inj hw
    intro hc; simp [nlg, hc] at hn)
theorem j_inc1 (pc : Nat) {a0 : Option Value} {n : Int} {x v : Int32} (C : CX X G own cc nL fr lo) (hd : decode cc pc = .ok (.iinc 1 n, 3)) (hn : nlg a0 = true) (hv : x + Int32.ofInt n = v) (hk : 1 < nL) (k : J X G nL g (pc + 3) (a0 :: some (.int v) :: L) st) : J X G nL g pc (a0 :: some (.int x) :: L) st := by
  obtain ⟨p, e, R, s, m, args, below, meth, c, Q, cells, slots⟩ := X
  obtain ⟨hx, hb, hml, hown, hts, hE, hc1, hc2, hfr, hlo⟩ := C
  intro H locs ls hP hS hl
  obtain ⟨i9, hi9⟩ := List.getElem?_of_mem ((lis_mem (a0 :: some (.int x) :: L) 0 (1, .int x)).mpr ⟨Nat.zero_le _, rfl⟩)
  refine lv_iinc hx hb hd hl hi9 hv hk rfl (fun ls' hl' => k H locs ls' hP hS (hl'.mono ?_))
  exact lis_set (L := (a0 :: some (.int x) :: L)) (k := 1) (v := .int v) (fun j w hj hw => by
    obtain rfl : j = 0 := by omega
    obtain rfl : a0 = some w := Option.some.inj hw
    intro hc; simp [nlg, hc] at hn)
theorem j_il2 (pc : Nat) {a0 a1 : Option Value} {x : Int32} (C : CX X G own cc nL fr lo) (hd : decode cc pc = .ok (.iload_n 2, 1)) (k : J X G nL g (pc + 1) (a0 :: a1 :: some (.int x) :: L) (.int x :: st)) : J X G nL g pc (a0 :: a1 :: some (.int x) :: L) st := by
  obtain ⟨p, e, R, s, m, args, below, meth, c, Q, cells, slots⟩ := X
  obtain ⟨hx, hb, hml, hown, hts, hE, hc1, hc2, hfr, hlo⟩ := C
  intro H locs ls hP hS hl
  exact lv_iload_n hx hb hd rfl (lis_at hl 2 rfl) (k H locs ls hP hS hl)
theorem j_al2 (pc : Nat) {a0 a1 : Option Value} {x : Nat} (C : CX X G own cc nL fr lo) (hd : decode cc pc = .ok (.aload_n 2, 1)) (k : J X G nL g (pc + 1) (a0 :: a1 :: some (.ref x) :: L) (.ref x :: st)) : J X G nL g pc (a0 :: a1 :: some (.ref x) :: L) st := by
  obtain ⟨p, e, R, s, m, args, below, meth, c, Q, cells, slots⟩ := X
  obtain ⟨hx, hb, hml, hown, hts, hE, hc1, hc2, hfr, hlo⟩ := C
  intro H locs ls hP hS hl
  exact lv_aload_n hx hb hd rfl (lis_at hl 2 rfl) (k H locs ls hP hS hl)
theorem j_ll2 (pc : Nat) {a0 a1 : Option Value} {x : Int64} (C : CX X G own cc nL fr lo) (hd : decode cc pc = .ok (.lload_n 2, 1)) (k : J X G nL g (pc + 1) (a0 :: a1 :: some (.long x) :: L) (.long x :: st)) : J X G nL g pc (a0 :: a1 :: some (.long x) :: L) st := by
  obtain ⟨p, e, R, s, m, args, below, meth, c, Q, cells, slots⟩ := X
  obtain ⟨hx, hb, hml, hown, hts, hE, hc1, hc2, hfr, hlo⟩ := C
  intro H locs ls hP hS hl
  exact lv_lload_n hx hb hd rfl (lis_at hl 2 rfl) (k H locs ls hP hS hl)
theorem j_is2 (pc : Nat) {a0 a1 : Option Value} {o : Option Value} {x : Int32} (C : CX X G own cc nL fr lo) (hd : decode cc pc = .ok (.istore_n 2, 1)) (hn : nlg a1 = true) (hk : 2 < nL) (k : J X G nL g (pc + 1) (a0 :: a1 :: some (.int x) :: L) st) : J X G nL g pc (a0 :: a1 :: o :: L) (.int x :: st) := by
  obtain ⟨p, e, R, s, m, args, below, meth, c, Q, cells, slots⟩ := X
  obtain ⟨hx, hb, hml, hown, hts, hE, hc1, hc2, hfr, hlo⟩ := C
  intro H locs ls hP hS hl
  refine lv_istore_n hx hb hd rfl hl hk rfl (fun ls' hl' => k H locs ls' hP hS (hl'.mono ?_))
  exact lis_set (L := (a0 :: a1 :: o :: L)) (k := 2) (v := .int x) (fun j w hj hw => by
    obtain rfl : j = 1 := by omega
    obtain rfl : a1 = some w := Option.some.inj hw
    intro hc; simp [nlg, hc] at hn)
theorem j_as2 (pc : Nat) {a0 a1 : Option Value} {o : Option Value} {x : Nat} (C : CX X G own cc nL fr lo) (hd : decode cc pc = .ok (.astore_n 2, 1)) (hn : nlg a1 = true) (hk : 2 < nL) (k : J X G nL g (pc + 1) (a0 :: a1 :: some (.ref x) :: L) st) : J X G nL g pc (a0 :: a1 :: o :: L) (.ref x :: st) := by
  obtain ⟨p, e, R, s, m, args, below, meth, c, Q, cells, slots⟩ := X
  obtain ⟨hx, hb, hml, hown, hts, hE, hc1, hc2, hfr, hlo⟩ := C
  intro H locs ls hP hS hl
  refine lv_astore_n hx hb hd rfl hl hk rfl (fun ls' hl' => k H locs ls' hP hS (hl'.mono ?_))
  exact lis_set (L := (a0 :: a1 :: o :: L)) (k := 2) (v := .ref x) (fun j w hj hw => by
    obtain rfl : j = 1 := by omega
    obtain rfl : a1 = some w := Option.some.inj hw
    intro hc; simp [nlg, hc] at hn)
theorem j_inc2 (pc : Nat) {a0 a1 : Option Value} {n : Int} {x v : Int32} (C : CX X G own cc nL fr lo) (hd : decode cc pc = .ok (.iinc 2 n, 3)) (hn : nlg a1 = true) (hv : x + Int32.ofInt n = v) (hk : 2 < nL) (k : J X G nL g (pc + 3) (a0 :: a1 :: some (.int v) :: L) st) : J X G nL g pc (a0 :: a1 :: some (.int x) :: L) st := by
  obtain ⟨p, e, R, s, m, args, below, meth, c, Q, cells, slots⟩ := X
  obtain ⟨hx, hb, hml, hown, hts, hE, hc1, hc2, hfr, hlo⟩ := C
  intro H locs ls hP hS hl
  obtain ⟨i9, hi9⟩ := List.getElem?_of_mem ((lis_mem (a0 :: a1 :: some (.int x) :: L) 0 (2, .int x)).mpr ⟨Nat.zero_le _, rfl⟩)
  refine lv_iinc hx hb hd hl hi9 hv hk rfl (fun ls' hl' => k H locs ls' hP hS (hl'.mono ?_))
  exact lis_set (L := (a0 :: a1 :: some (.int x) :: L)) (k := 2) (v := .int v) (fun j w hj hw => by
    obtain rfl : j = 1 := by omega
    obtain rfl : a1 = some w := Option.some.inj hw
    intro hc; simp [nlg, hc] at hn)
theorem j_il3 (pc : Nat) {a0 a1 a2 : Option Value} {x : Int32} (C : CX X G own cc nL fr lo) (hd : decode cc pc = .ok (.iload_n 3, 1)) (k : J X G nL g (pc + 1) (a0 :: a1 :: a2 :: some (.int x) :: L) (.int x :: st)) : J X G nL g pc (a0 :: a1 :: a2 :: some (.int x) :: L) st := by
  obtain ⟨p, e, R, s, m, args, below, meth, c, Q, cells, slots⟩ := X
  obtain ⟨hx, hb, hml, hown, hts, hE, hc1, hc2, hfr, hlo⟩ := C
  intro H locs ls hP hS hl
  exact lv_iload_n hx hb hd rfl (lis_at hl 3 rfl) (k H locs ls hP hS hl)
theorem j_al3 (pc : Nat) {a0 a1 a2 : Option Value} {x : Nat} (C : CX X G own cc nL fr lo) (hd : decode cc pc = .ok (.aload_n 3, 1)) (k : J X G nL g (pc + 1) (a0 :: a1 :: a2 :: some (.ref x) :: L) (.ref x :: st)) : J X G nL g pc (a0 :: a1 :: a2 :: some (.ref x) :: L) st := by
  obtain ⟨p, e, R, s, m, args, below, meth, c, Q, cells, slots⟩ := X
  obtain ⟨hx, hb, hml, hown, hts, hE, hc1, hc2, hfr, hlo⟩ := C
  intro H locs ls hP hS hl
  exact lv_aload_n hx hb hd rfl (lis_at hl 3 rfl) (k H locs ls hP hS hl)
theorem j_ll3 (pc : Nat) {a0 a1 a2 : Option Value} {x : Int64} (C : CX X G own cc nL fr lo) (hd : decode cc pc = .ok (.lload_n 3, 1)) (k : J X G nL g (pc + 1) (a0 :: a1 :: a2 :: some (.long x) :: L) (.long x :: st)) : J X G nL g pc (a0 :: a1 :: a2 :: some (.long x) :: L) st := by
  obtain ⟨p, e, R, s, m, args, below, meth, c, Q, cells, slots⟩ := X
  obtain ⟨hx, hb, hml, hown, hts, hE, hc1, hc2, hfr, hlo⟩ := C
  intro H locs ls hP hS hl
  exact lv_lload_n hx hb hd rfl (lis_at hl 3 rfl) (k H locs ls hP hS hl)
theorem j_is3 (pc : Nat) {a0 a1 a2 : Option Value} {o : Option Value} {x : Int32} (C : CX X G own cc nL fr lo) (hd : decode cc pc = .ok (.istore_n 3, 1)) (hn : nlg a2 = true) (hk : 3 < nL) (k : J X G nL g (pc + 1) (a0 :: a1 :: a2 :: some (.int x) :: L) st) : J X G nL g pc (a0 :: a1 :: a2 :: o :: L) (.int x :: st) := by
  obtain ⟨p, e, R, s, m, args, below, meth, c, Q, cells, slots⟩ := X
  obtain ⟨hx, hb, hml, hown, hts, hE, hc1, hc2, hfr, hlo⟩ := C
  intro H locs ls hP hS hl
  refine lv_istore_n hx hb hd rfl hl hk rfl (fun ls' hl' => k H locs ls' hP hS (hl'.mono ?_))
  exact lis_set (L := (a0 :: a1 :: a2 :: o :: L)) (k := 3) (v := .int x) (fun j w hj hw => by
    obtain rfl : j = 2 := by omega
    obtain rfl : a2 = some w := Option.some.inj hw
    intro hc; simp [nlg, hc] at hn)
theorem j_as3 (pc : Nat) {a0 a1 a2 : Option Value} {o : Option Value} {x : Nat} (C : CX X G own cc nL fr lo) (hd : decode cc pc = .ok (.astore_n 3, 1)) (hn : nlg a2 = true) (hk : 3 < nL) (k : J X G nL g (pc + 1) (a0 :: a1 :: a2 :: some (.ref x) :: L) st) : J X G nL g pc (a0 :: a1 :: a2 :: o :: L) (.ref x :: st) := by
  obtain ⟨p, e, R, s, m, args, below, meth, c, Q, cells, slots⟩ := X
  obtain ⟨hx, hb, hml, hown, hts, hE, hc1, hc2, hfr, hlo⟩ := C
  intro H locs ls hP hS hl
  refine lv_astore_n hx hb hd rfl hl hk rfl (fun ls' hl' => k H locs ls' hP hS (hl'.mono ?_))
  exact lis_set (L := (a0 :: a1 :: a2 :: o :: L)) (k := 3) (v := .ref x) (fun j w hj hw => by
    obtain rfl : j = 2 := by omega
    obtain rfl : a2 = some w := Option.some.inj hw
    intro hc; simp [nlg, hc] at hn)
theorem j_inc3 (pc : Nat) {a0 a1 a2 : Option Value} {n : Int} {x v : Int32} (C : CX X G own cc nL fr lo) (hd : decode cc pc = .ok (.iinc 3 n, 3)) (hn : nlg a2 = true) (hv : x + Int32.ofInt n = v) (hk : 3 < nL) (k : J X G nL g (pc + 3) (a0 :: a1 :: a2 :: some (.int v) :: L) st) : J X G nL g pc (a0 :: a1 :: a2 :: some (.int x) :: L) st := by
  obtain ⟨p, e, R, s, m, args, below, meth, c, Q, cells, slots⟩ := X
  obtain ⟨hx, hb, hml, hown, hts, hE, hc1, hc2, hfr, hlo⟩ := C
  intro H locs ls hP hS hl
  obtain ⟨i9, hi9⟩ := List.getElem?_of_mem ((lis_mem (a0 :: a1 :: a2 :: some (.int x) :: L) 0 (3, .int x)).mpr ⟨Nat.zero_le _, rfl⟩)
  refine lv_iinc hx hb hd hl hi9 hv hk rfl (fun ls' hl' => k H locs ls' hP hS (hl'.mono ?_))
  exact lis_set (L := (a0 :: a1 :: a2 :: some (.int x) :: L)) (k := 3) (v := .int v) (fun j w hj hw => by
    obtain rfl : j = 2 := by omega
    obtain rfl : a2 = some w := Option.some.inj hw
    intro hc; simp [nlg, hc] at hn)
theorem j_il4 (pc : Nat) {a0 a1 a2 a3 : Option Value} {x : Int32} (C : CX X G own cc nL fr lo) (hd : decode cc pc = .ok (.iload 4, 2)) (k : J X G nL g (pc + 2) (a0 :: a1 :: a2 :: a3 :: some (.int x) :: L) (.int x :: st)) : J X G nL g pc (a0 :: a1 :: a2 :: a3 :: some (.int x) :: L) st := by
  obtain ⟨p, e, R, s, m, args, below, meth, c, Q, cells, slots⟩ := X
  obtain ⟨hx, hb, hml, hown, hts, hE, hc1, hc2, hfr, hlo⟩ := C
  intro H locs ls hP hS hl
  exact lv_iload hx hb hd (lis_at hl 4 rfl) (k H locs ls hP hS hl)
theorem j_al4 (pc : Nat) {a0 a1 a2 a3 : Option Value} {x : Nat} (C : CX X G own cc nL fr lo) (hd : decode cc pc = .ok (.aload 4, 2)) (k : J X G nL g (pc + 2) (a0 :: a1 :: a2 :: a3 :: some (.ref x) :: L) (.ref x :: st)) : J X G nL g pc (a0 :: a1 :: a2 :: a3 :: some (.ref x) :: L) st := by
  obtain ⟨p, e, R, s, m, args, below, meth, c, Q, cells, slots⟩ := X
  obtain ⟨hx, hb, hml, hown, hts, hE, hc1, hc2, hfr, hlo⟩ := C
  intro H locs ls hP hS hl
  exact lv_aload hx hb hd (lis_at hl 4 rfl) (k H locs ls hP hS hl)
theorem j_ll4 (pc : Nat) {a0 a1 a2 a3 : Option Value} {x : Int64} (C : CX X G own cc nL fr lo) (hd : decode cc pc = .ok (.lload 4, 2)) (k : J X G nL g (pc + 2) (a0 :: a1 :: a2 :: a3 :: some (.long x) :: L) (.long x :: st)) : J X G nL g pc (a0 :: a1 :: a2 :: a3 :: some (.long x) :: L) st := by
  obtain ⟨p, e, R, s, m, args, below, meth, c, Q, cells, slots⟩ := X
  obtain ⟨hx, hb, hml, hown, hts, hE, hc1, hc2, hfr, hlo⟩ := C
  intro H locs ls hP hS hl
  exact lv_lload hx hb hd (lis_at hl 4 rfl) (k H locs ls hP hS hl)
theorem j_is4 (pc : Nat) {a0 a1 a2 a3 : Option Value} {o : Option Value} {x : Int32} (C : CX X G own cc nL fr lo) (hd : decode cc pc = .ok (.istore 4, 2)) (hn : nlg a3 = true) (hk : 4 < nL) (k : J X G nL g (pc + 2) (a0 :: a1 :: a2 :: a3 :: some (.int x) :: L) st) : J X G nL g pc (a0 :: a1 :: a2 :: a3 :: o :: L) (.int x :: st) := by
  obtain ⟨p, e, R, s, m, args, below, meth, c, Q, cells, slots⟩ := X
  obtain ⟨hx, hb, hml, hown, hts, hE, hc1, hc2, hfr, hlo⟩ := C
  intro H locs ls hP hS hl
  refine lv_istore hx hb hd hl hk rfl (fun ls' hl' => k H locs ls' hP hS (hl'.mono ?_))
  exact lis_set (L := (a0 :: a1 :: a2 :: a3 :: o :: L)) (k := 4) (v := .int x) (fun j w hj hw => by
    obtain rfl : j = 3 := by omega
    obtain rfl : a3 = some w := Option.some.inj hw
    intro hc; simp [nlg, hc] at hn)
theorem j_as4 (pc : Nat) {a0 a1 a2 a3 : Option Value} {o : Option Value} {x : Nat} (C : CX X G own cc nL fr lo) (hd : decode cc pc = .ok (.astore 4, 2)) (hn : nlg a3 = true) (hk : 4 < nL) (k : J X G nL g (pc + 2) (a0 :: a1 :: a2 :: a3 :: some (.ref x) :: L) st) : J X G nL g pc (a0 :: a1 :: a2 :: a3 :: o :: L) (.ref x :: st) := by
  obtain ⟨p, e, R, s, m, args, below, meth, c, Q, cells, slots⟩ := X
  obtain ⟨hx, hb, hml, hown, hts, hE, hc1, hc2, hfr, hlo⟩ := C
  intro H locs ls hP hS hl
  refine lv_astore hx hb hd hl hk rfl (fun ls' hl' => k H locs ls' hP hS (hl'.mono ?_))
  exact lis_set (L := (a0 :: a1 :: a2 :: a3 :: o :: L)) (k := 4) (v := .ref x) (fun j w hj hw => by
    obtain rfl : j = 3 := by omega
    obtain rfl : a3 = some w := Option.some.inj hw
    intro hc; simp [nlg, hc] at hn)
theorem j_inc4 (pc : Nat) {a0 a1 a2 a3 : Option Value} {n : Int} {x v : Int32} (C : CX X G own cc nL fr lo) (hd : decode cc pc = .ok (.iinc 4 n, 3)) (hn : nlg a3 = true) (hv : x + Int32.ofInt n = v) (hk : 4 < nL) (k : J X G nL g (pc + 3) (a0 :: a1 :: a2 :: a3 :: some (.int v) :: L) st) : J X G nL g pc (a0 :: a1 :: a2 :: a3 :: some (.int x) :: L) st := by
  obtain ⟨p, e, R, s, m, args, below, meth, c, Q, cells, slots⟩ := X
  obtain ⟨hx, hb, hml, hown, hts, hE, hc1, hc2, hfr, hlo⟩ := C
  intro H locs ls hP hS hl
  obtain ⟨i9, hi9⟩ := List.getElem?_of_mem ((lis_mem (a0 :: a1 :: a2 :: a3 :: some (.int x) :: L) 0 (4, .int x)).mpr ⟨Nat.zero_le _, rfl⟩)
  refine lv_iinc hx hb hd hl hi9 hv hk rfl (fun ls' hl' => k H locs ls' hP hS (hl'.mono ?_))
  exact lis_set (L := (a0 :: a1 :: a2 :: a3 :: some (.int x) :: L)) (k := 4) (v := .int v) (fun j w hj hw => by
    obtain rfl : j = 3 := by omega
    obtain rfl : a3 = some w := Option.some.inj hw
    intro hc; simp [nlg, hc] at hn)
theorem j_il5 (pc : Nat) {a0 a1 a2 a3 a4 : Option Value} {x : Int32} (C : CX X G own cc nL fr lo) (hd : decode cc pc = .ok (.iload 5, 2)) (k : J X G nL g (pc + 2) (a0 :: a1 :: a2 :: a3 :: a4 :: some (.int x) :: L) (.int x :: st)) : J X G nL g pc (a0 :: a1 :: a2 :: a3 :: a4 :: some (.int x) :: L) st := by
  obtain ⟨p, e, R, s, m, args, below, meth, c, Q, cells, slots⟩ := X
  obtain ⟨hx, hb, hml, hown, hts, hE, hc1, hc2, hfr, hlo⟩ := C
  intro H locs ls hP hS hl
  exact lv_iload hx hb hd (lis_at hl 5 rfl) (k H locs ls hP hS hl)
theorem j_al5 (pc : Nat) {a0 a1 a2 a3 a4 : Option Value} {x : Nat} (C : CX X G own cc nL fr lo) (hd : decode cc pc = .ok (.aload 5, 2)) (k : J X G nL g (pc + 2) (a0 :: a1 :: a2 :: a3 :: a4 :: some (.ref x) :: L) (.ref x :: st)) : J X G nL g pc (a0 :: a1 :: a2 :: a3 :: a4 :: some (.ref x) :: L) st := by
  obtain ⟨p, e, R, s, m, args, below, meth, c, Q, cells, slots⟩ := X
  obtain ⟨hx, hb, hml, hown, hts, hE, hc1, hc2, hfr, hlo⟩ := C
  intro H locs ls hP hS hl
  exact lv_aload hx hb hd (lis_at hl 5 rfl) (k H locs ls hP hS hl)
theorem j_ll5 (pc : Nat) {a0 a1 a2 a3 a4 : Option Value} {x : Int64} (C : CX X G own cc nL fr lo) (hd : decode cc pc = .ok (.lload 5, 2)) (k : J X G nL g (pc + 2) (a0 :: a1 :: a2 :: a3 :: a4 :: some (.long x) :: L) (.long x :: st)) : J X G nL g pc (a0 :: a1 :: a2 :: a3 :: a4 :: some (.long x) :: L) st := by
  obtain ⟨p, e, R, s, m, args, below, meth, c, Q, cells, slots⟩ := X
  obtain ⟨hx, hb, hml, hown, hts, hE, hc1, hc2, hfr, hlo⟩ := C
  intro H locs ls hP hS hl
  exact lv_lload hx hb hd (lis_at hl 5 rfl) (k H locs ls hP hS hl)
theorem j_is5 (pc : Nat) {a0 a1 a2 a3 a4 : Option Value} {o : Option Value} {x : Int32} (C : CX X G own cc nL fr lo) (hd : decode cc pc = .ok (.istore 5, 2)) (hn : nlg a4 = true) (hk : 5 < nL) (k : J X G nL g (pc + 2) (a0 :: a1 :: a2 :: a3 :: a4 :: some (.int x) :: L) st) : J X G nL g pc (a0 :: a1 :: a2 :: a3 :: a4 :: o :: L) (.int x :: st) := by
  obtain ⟨p, e, R, s, m, args, below, meth, c, Q, cells, slots⟩ := X
  obtain ⟨hx, hb, hml, hown, hts, hE, hc1, hc2, hfr, hlo⟩ := C
  intro H locs ls hP hS hl
  refine lv_istore hx hb hd hl hk rfl (fun ls' hl' => k H locs ls' hP hS (hl'.mono ?_))
  exact lis_set (L := (a0 :: a1 :: a2 :: a3 :: a4 :: o :: L)) (k := 5) (v := .int x) (fun j w hj hw => by
    obtain rfl : j = 4 := by omega
    obtain rfl : a4 = some w := Option.some.inj hw
    intro hc; simp [nlg, hc] at hn)
theorem j_as5 (pc : Nat) {a0 a1 a2 a3 a4 : Option Value} {o : Option Value} {x : Nat} (C : CX X G own cc nL fr lo) (hd : decode cc pc = .ok (.astore 5, 2)) (hn : nlg a4 = true) (hk : 5 < nL) (k : J X G nL g (pc + 2) (a0 :: a1 :: a2 :: a3 :: a4 :: some (.ref x) :: L) st) : J X G nL g pc (a0 :: a1 :: a2 :: a3 :: a4 :: o :: L) (.ref x :: st) := by
  obtain ⟨p, e, R, s, m, args, below, meth, c, Q, cells, slots⟩ := X
  obtain ⟨hx, hb, hml, hown, hts, hE, hc1, hc2, hfr, hlo⟩ := C
  intro H locs ls hP hS hl
  refine lv_astore hx hb hd hl hk rfl (fun ls' hl' => k H locs ls' hP hS (hl'.mono ?_))
  exact lis_set (L := (a0 :: a1 :: a2 :: a3 :: a4 :: o :: L)) (k := 5) (v := .ref x) (fun j w hj hw => by
    obtain rfl : j = 4 := by omega
    obtain rfl : a4 = some w := Option.some.inj hw
    intro hc; simp [nlg, hc] at hn)
theorem j_inc5 (pc : Nat) {a0 a1 a2 a3 a4 : Option Value} {n : Int} {x v : Int32} (C : CX X G own cc nL fr lo) (hd : decode cc pc = .ok (.iinc 5 n, 3)) (hn : nlg a4 = true) (hv : x + Int32.ofInt n = v) (hk : 5 < nL) (k : J X G nL g (pc + 3) (a0 :: a1 :: a2 :: a3 :: a4 :: some (.int v) :: L) st) : J X G nL g pc (a0 :: a1 :: a2 :: a3 :: a4 :: some (.int x) :: L) st := by
  obtain ⟨p, e, R, s, m, args, below, meth, c, Q, cells, slots⟩ := X
  obtain ⟨hx, hb, hml, hown, hts, hE, hc1, hc2, hfr, hlo⟩ := C
  intro H locs ls hP hS hl
  obtain ⟨i9, hi9⟩ := List.getElem?_of_mem ((lis_mem (a0 :: a1 :: a2 :: a3 :: a4 :: some (.int x) :: L) 0 (5, .int x)).mpr ⟨Nat.zero_le _, rfl⟩)
  refine lv_iinc hx hb hd hl hi9 hv hk rfl (fun ls' hl' => k H locs ls' hP hS (hl'.mono ?_))
  exact lis_set (L := (a0 :: a1 :: a2 :: a3 :: a4 :: some (.int x) :: L)) (k := 5) (v := .int v) (fun j w hj hw => by
    obtain rfl : j = 4 := by omega
    obtain rfl : a4 = some w := Option.some.inj hw
    intro hc; simp [nlg, hc] at hn)
theorem j_il6 (pc : Nat) {a0 a1 a2 a3 a4 a5 : Option Value} {x : Int32} (C : CX X G own cc nL fr lo) (hd : decode cc pc = .ok (.iload 6, 2)) (k : J X G nL g (pc + 2) (a0 :: a1 :: a2 :: a3 :: a4 :: a5 :: some (.int x) :: L) (.int x :: st)) : J X G nL g pc (a0 :: a1 :: a2 :: a3 :: a4 :: a5 :: some (.int x) :: L) st := by
  obtain ⟨p, e, R, s, m, args, below, meth, c, Q, cells, slots⟩ := X
  obtain ⟨hx, hb, hml, hown, hts, hE, hc1, hc2, hfr, hlo⟩ := C
  intro H locs ls hP hS hl
  exact lv_iload hx hb hd (lis_at hl 6 rfl) (k H locs ls hP hS hl)
theorem j_al6 (pc : Nat) {a0 a1 a2 a3 a4 a5 : Option Value} {x : Nat} (C : CX X G own cc nL fr lo) (hd : decode cc pc = .ok (.aload 6, 2)) (k : J X G nL g (pc + 2) (a0 :: a1 :: a2 :: a3 :: a4 :: a5 :: some (.ref x) :: L) (.ref x :: st)) : J X G nL g pc (a0 :: a1 :: a2 :: a3 :: a4 :: a5 :: some (.ref x) :: L) st := by
  obtain ⟨p, e, R, s, m, args, below, meth, c, Q, cells, slots⟩ := X
  obtain ⟨hx, hb, hml, hown, hts, hE, hc1, hc2, hfr, hlo⟩ := C
  intro H locs ls hP hS hl
  exact lv_aload hx hb hd (lis_at hl 6 rfl) (k H locs ls hP hS hl)
theorem j_ll6 (pc : Nat) {a0 a1 a2 a3 a4 a5 : Option Value} {x : Int64} (C : CX X G own cc nL fr lo) (hd : decode cc pc = .ok (.lload 6, 2)) (k : J X G nL g (pc + 2) (a0 :: a1 :: a2 :: a3 :: a4 :: a5 :: some (.long x) :: L) (.long x :: st)) : J X G nL g pc (a0 :: a1 :: a2 :: a3 :: a4 :: a5 :: some (.long x) :: L) st := by
  obtain ⟨p, e, R, s, m, args, below, meth, c, Q, cells, slots⟩ := X
  obtain ⟨hx, hb, hml, hown, hts, hE, hc1, hc2, hfr, hlo⟩ := C
  intro H locs ls hP hS hl
  exact lv_lload hx hb hd (lis_at hl 6 rfl) (k H locs ls hP hS hl)
theorem j_is6 (pc : Nat) {a0 a1 a2 a3 a4 a5 : Option Value} {o : Option Value} {x : Int32} (C : CX X G own cc nL fr lo) (hd : decode cc pc = .ok (.istore 6, 2)) (hn : nlg a5 = true) (hk : 6 < nL) (k : J X G nL g (pc + 2) (a0 :: a1 :: a2 :: a3 :: a4 :: a5 :: some (.int x) :: L) st) : J X G nL g pc (a0 :: a1 :: a2 :: a3 :: a4 :: a5 :: o :: L) (.int x :: st) := by
  obtain ⟨p, e, R, s, m, args, below, meth, c, Q, cells, slots⟩ := X
  obtain ⟨hx, hb, hml, hown, hts, hE, hc1, hc2, hfr, hlo⟩ := C
  intro H locs ls hP hS hl
  refine lv_istore hx hb hd hl hk rfl (fun ls' hl' => k H locs ls' hP hS (hl'.mono ?_))
  exact lis_set (L := (a0 :: a1 :: a2 :: a3 :: a4 :: a5 :: o :: L)) (k := 6) (v := .int x) (fun j w hj hw => by
    obtain rfl : j = 5 := by omega
    obtain rfl : a5 = some w := Option.some.inj hw
    intro hc; simp [nlg, hc] at hn)
theorem j_as6 (pc : Nat) {a0 a1 a2 a3 a4 a5 : Option Value} {o : Option Value} {x : Nat} (C : CX X G own cc nL fr lo) (hd : decode cc pc = .ok (.astore 6, 2)) (hn : nlg a5 = true) (hk : 6 < nL) (k : J X G nL g (pc + 2) (a0 :: a1 :: a2 :: a3 :: a4 :: a5 :: some (.ref x) :: L) st) : J X G nL g pc (a0 :: a1 :: a2 :: a3 :: a4 :: a5 :: o :: L) (.ref x :: st) := by
  obtain ⟨p, e, R, s, m, args, below, meth, c, Q, cells, slots⟩ := X
  obtain ⟨hx, hb, hml, hown, hts, hE, hc1, hc2, hfr, hlo⟩ := C
  intro H locs ls hP hS hl
  refine lv_astore hx hb hd hl hk rfl (fun ls' hl' => k H locs ls' hP hS (hl'.mono ?_))
  exact lis_set (L := (a0 :: a1 :: a2 :: a3 :: a4 :: a5 :: o :: L)) (k := 6) (v := .ref x) (fun j w hj hw => by
    obtain rfl : j = 5 := by omega
    obtain rfl : a5 = some w := Option.some.inj hw
    intro hc; simp [nlg, hc] at hn)
theorem j_inc6 (pc : Nat) {a0 a1 a2 a3 a4 a5 : Option Value} {n : Int} {x v : Int32} (C : CX X G own cc nL fr lo) (hd : decode cc pc = .ok (.iinc 6 n, 3)) (hn : nlg a5 = true) (hv : x + Int32.ofInt n = v) (hk : 6 < nL) (k : J X G nL g (pc + 3) (a0 :: a1 :: a2 :: a3 :: a4 :: a5 :: some (.int v) :: L) st) : J X G nL g pc (a0 :: a1 :: a2 :: a3 :: a4 :: a5 :: some (.int x) :: L) st := by
  obtain ⟨p, e, R, s, m, args, below, meth, c, Q, cells, slots⟩ := X
  obtain ⟨hx, hb, hml, hown, hts, hE, hc1, hc2, hfr, hlo⟩ := C
  intro H locs ls hP hS hl
  obtain ⟨i9, hi9⟩ := List.getElem?_of_mem ((lis_mem (a0 :: a1 :: a2 :: a3 :: a4 :: a5 :: some (.int x) :: L) 0 (6, .int x)).mpr ⟨Nat.zero_le _, rfl⟩)
  refine lv_iinc hx hb hd hl hi9 hv hk rfl (fun ls' hl' => k H locs ls' hP hS (hl'.mono ?_))
  exact lis_set (L := (a0 :: a1 :: a2 :: a3 :: a4 :: a5 :: some (.int x) :: L)) (k := 6) (v := .int v) (fun j w hj hw => by
    obtain rfl : j = 5 := by omega
    obtain rfl : a5 = some w := Option.some.inj hw
    intro hc; simp [nlg, hc] at hn)
theorem j_il7 (pc : Nat) {a0 a1 a2 a3 a4 a5 a6 : Option Value} {x : Int32} (C : CX X G own cc nL fr lo) (hd : decode cc pc = .ok (.iload 7, 2)) (k : J X G nL g (pc + 2) (a0 :: a1 :: a2 :: a3 :: a4 :: a5 :: a6 :: some (.int x) :: L) (.int x :: st)) : J X G nL g pc (a0 :: a1 :: a2 :: a3 :: a4 :: a5 :: a6 :: some (.int x) :: L) st := by
  obtain ⟨p, e, R, s, m, args, below, meth, c, Q, cells, slots⟩ := X
  obtain ⟨hx, hb, hml, hown, hts, hE, hc1, hc2, hfr, hlo⟩ := C
  intro H locs ls hP hS hl
  exact lv_iload hx hb hd (lis_at hl 7 rfl) (k H locs ls hP hS hl)
theorem j_al7 (pc : Nat) {a0 a1 a2 a3 a4 a5 a6 : Option Value} {x : Nat} (C : CX X G own cc nL fr lo) (hd : decode cc pc = .ok (.aload 7, 2)) (k : J X G nL g (pc + 2) (a0 :: a1 :: a2 :: a3 :: a4 :: a5 :: a6 :: some (.ref x) :: L) (.ref x :: st)) : J X G nL g pc (a0 :: a1 :: a2 :: a3 :: a4 :: a5 :: a6 :: some (.ref x) :: L) st := by
  obtain ⟨p, e, R, s, m, args, below, meth, c, Q, cells, slots⟩ := X
  obtain ⟨hx, hb, hml, hown, hts, hE, hc1, hc2, hfr, hlo⟩ := C
  intro H locs ls hP hS hl
  exact lv_aload hx hb hd (lis_at hl 7 rfl) (k H locs ls hP hS hl)
theorem j_ll7 (pc : Nat) {a0 a1 a2 a3 a4 a5 a6 : Option Value} {x : Int64} (C : CX X G own cc nL fr lo) (hd : decode cc pc = .ok (.lload 7, 2)) (k : J X G nL g (pc + 2) (a0 :: a1 :: a2 :: a3 :: a4 :: a5 :: a6 :: some (.long x) :: L) (.long x :: st)) : J X G nL g pc (a0 :: a1 :: a2 :: a3 :: a4 :: a5 :: a6 :: some (.long x) :: L) st := by
  obtain ⟨p, e, R, s, m, args, below, meth, c, Q, cells, slots⟩ := X
  obtain ⟨hx, hb, hml, hown, hts, hE, hc1, hc2, hfr, hlo⟩ := C
  intro H locs ls hP hS hl
  exact lv_lload hx hb hd (lis_at hl 7 rfl) (k H locs ls hP hS hl)
theorem j_is7 (pc : Nat) {a0 a1 a2 a3 a4 a5 a6 : Option Value} {o : Option Value} {x : Int32} (C : CX X G own cc nL fr lo) (hd : decode cc pc = .ok (.istore 7, 2)) (hn : nlg a6 = true) (hk : 7 < nL) (k : J X G nL g (pc + 2) (a0 :: a1 :: a2 :: a3 :: a4 :: a5 :: a6 :: some (.int x) :: L) st) : J X G nL g pc (a0 :: a1 :: a2 :: a3 :: a4 :: a5 :: a6 :: o :: L) (.int x :: st) := by
  obtain ⟨p, e, R, s, m, args, below, meth, c, Q, cells, slots⟩ := X
  obtain ⟨hx, hb, hml, hown, hts, hE, hc1, hc2, hfr, hlo⟩ := C
  intro H locs ls hP hS hl
  refine lv_istore hx hb hd hl hk rfl (fun ls' hl' => k H locs ls' hP hS (hl'.mono ?_))
  exact lis_set (L := (a0 :: a1 :: a2 :: a3 :: a4 :: a5 :: a6 :: o :: L)) (k := 7) (v := .int x) (fun j w hj hw => by
    obtain rfl : j = 6 := by omega
    obtain rfl : a6 = some w := Option.some.inj hw
    intro hc; simp [nlg, hc] at hn)
theorem j_as7 (pc : Nat) {a0 a1 a2 a3 a4 a5 a6 : Option Value} {o : Option Value} {x : Nat} (C : CX X G own cc nL fr lo) (hd : decode cc pc = .ok (.astore 7, 2)) (hn : nlg a6 = true) (hk : 7 < nL) (k : J X G nL g (pc + 2) (a0 :: a1 :: a2 :: a3 :: a4 :: a5 :: a6 :: some (.ref x) :: L) st) : J X G nL g pc (a0 :: a1 :: a2 :: a3 :: a4 :: a5 :: a6 :: o :: L) (.ref x :: st) := by
  obtain ⟨p, e, R, s, m, args, below, meth, c, Q, cells, slots⟩ := X
  obtain ⟨hx, hb, hml, hown, hts, hE, hc1, hc2, hfr, hlo⟩ := C
  intro H locs ls hP hS hl
  refine lv_astore hx hb hd hl hk rfl (fun ls' hl' => k H locs ls' hP hS (hl'.mono ?_))
  exact lis_set (L := (a0 :: a1 :: a2 :: a3 :: a4 :: a5 :: a6 :: o :: L)) (k := 7) (v := .ref x) (fun j w hj hw => by
    obtain rfl : j = 6 := by omega
    obtain rfl : a6 = some w := Option.some.inj hw
    intro hc; simp [nlg, hc] at hn)
theorem j_inc7 (pc : Nat) {a0 a1 a2 a3 a4 a5 a6 : Option Value} {n : Int} {x v : Int32} (C : CX X G own cc nL fr lo) (hd : decode cc pc = .ok (.iinc 7 n, 3)) (hn : nlg a6 = true) (hv : x + Int32.ofInt n = v) (hk : 7 < nL) (k : J X G nL g (pc + 3) (a0 :: a1 :: a2 :: a3 :: a4 :: a5 :: a6 :: some (.int v) :: L) st) : J X G nL g pc (a0 :: a1 :: a2 :: a3 :: a4 :: a5 :: a6 :: some (.int x) :: L) st := by
  obtain ⟨p, e, R, s, m, args, below, meth, c, Q, cells, slots⟩ := X
  obtain ⟨hx, hb, hml, hown, hts, hE, hc1, hc2, hfr, hlo⟩ := C
  intro H locs ls hP hS hl
  obtain ⟨i9, hi9⟩ := List.getElem?_of_mem ((lis_mem (a0 :: a1 :: a2 :: a3 :: a4 :: a5 :: a6 :: some (.int x) :: L) 0 (7, .int x)).mpr ⟨Nat.zero_le _, rfl⟩)
  refine lv_iinc hx hb hd hl hi9 hv hk rfl (fun ls' hl' => k H locs ls' hP hS (hl'.mono ?_))
  exact lis_set (L := (a0 :: a1 :: a2 :: a3 :: a4 :: a5 :: a6 :: some (.int x) :: L)) (k := 7) (v := .int v) (fun j w hj hw => by
    obtain rfl : j = 6 := by omega
    obtain rfl : a6 = some w := Option.some.inj hw
    intro hc; simp [nlg, hc] at hn)
theorem j_il8 (pc : Nat) {a0 a1 a2 a3 a4 a5 a6 a7 : Option Value} {x : Int32} (C : CX X G own cc nL fr lo) (hd : decode cc pc = .ok (.iload 8, 2)) (k : J X G nL g (pc + 2) (a0 :: a1 :: a2 :: a3 :: a4 :: a5 :: a6 :: a7 :: some (.int x) :: L) (.int x :: st)) : J X G nL g pc (a0 :: a1 :: a2 :: a3 :: a4 :: a5 :: a6 :: a7 :: some (.int x) :: L) st := by
  obtain ⟨p, e, R, s, m, args, below, meth, c, Q, cells, slots⟩ := X
  obtain ⟨hx, hb, hml, hown, hts, hE, hc1, hc2, hfr, hlo⟩ := C
  intro H locs ls hP hS hl
  exact lv_iload hx hb hd (lis_at hl 8 rfl) (k H locs ls hP hS hl)
theorem j_al8 (pc : Nat) {a0 a1 a2 a3 a4 a5 a6 a7 : Option Value} {x : Nat} (C : CX X G own cc nL fr lo) (hd : decode cc pc = .ok (.aload 8, 2)) (k : J X G nL g (pc + 2) (a0 :: a1 :: a2 :: a3 :: a4 :: a5 :: a6 :: a7 :: some (.ref x) :: L) (.ref x :: st)) : J X G nL g pc (a0 :: a1 :: a2 :: a3 :: a4 :: a5 :: a6 :: a7 :: some (.ref x) :: L) st := by
  obtain ⟨p, e, R, s, m, args, below, meth, c, Q, cells, slots⟩ := X
  obtain ⟨hx, hb, hml, hown, hts, hE, hc1, hc2, hfr, hlo⟩ := C
  intro H locs ls hP hS hl
  exact lv_aload hx hb hd (lis_at hl 8 rfl) (k H locs ls hP hS hl)
theorem j_ll8 (pc : Nat) {a0 a1 a2 a3 a4 a5 a6 a7 : Option Value} {x : Int64} (C : CX X G own cc nL fr lo) (hd : decode cc pc = .ok (.lload 8, 2)) (k : J X G nL g (pc + 2) (a0 :: a1 :: a2 :: a3 :: a4 :: a5 :: a6 :: a7 :: some (.long x) :: L) (.long x :: st)) : J X G nL g pc (a0 :: a1 :: a2 :: a3 :: a4 :: a5 :: a6 :: a7 :: some (.long x) :: L) st := by
  obtain ⟨p, e, R, s, m, args, below, meth, c, Q, cells, slots⟩ := X
  obtain ⟨hx, hb, hml, hown, hts, hE, hc1, hc2, hfr, hlo⟩ := C
  intro H locs ls hP hS hl
  exact lv_lload hx hb hd (lis_at hl 8 rfl) (k H locs ls hP hS hl)
theorem j_is8 (pc : Nat) {a0 a1 a2 a3 a4 a5 a6 a7 : Option Value} {o : Option Value} {x : Int32} (C : CX X G own cc nL fr lo) (hd : decode cc pc = .ok (.istore 8, 2)) (hn : nlg a7 = true) (hk : 8 < nL) (k : J X G nL g (pc + 2) (a0 :: a1 :: a2 :: a3 :: a4 :: a5 :: a6 :: a7 :: some (.int x) :: L) st) : J X G nL g pc (a0 :: a1 :: a2 :: a3 :: a4 :: a5 :: a6 :: a7 :: o :: L) (.int x :: st) := by
  obtain ⟨p, e, R, s, m, args, below, meth, c, Q, cells, slots⟩ := X
  obtain ⟨hx, hb, hml, hown, hts, hE, hc1, hc2, hfr, hlo⟩ := C
  intro H locs ls hP hS hl
  refine lv_istore hx hb hd hl hk rfl (fun ls' hl' => k H locs ls' hP hS (hl'.mono ?_))
  exact lis_set (L := (a0 :: a1 :: a2 :: a3 :: a4 :: a5 :: a6 :: a7 :: o :: L)) (k := 8) (v := .int x) (fun j w hj hw => by
    obtain rfl : j = 7 := by omega
    obtain rfl : a7 = some w := Option.some.inj hw
    intro hc; simp [nlg, hc] at hn)
theorem j_as8 (pc : Nat) {a0 a1 a2 a3 a4 a5 a6 a7 : Option Value} {o : Option Value} {x : Nat} (C : CX X G own cc nL fr lo) (hd : decode cc pc = .ok (.astore 8, 2)) (hn : nlg a7 = true) (hk : 8 < nL) (k : J X G nL g (pc + 2) (a0 :: a1 :: a2 :: a3 :: a4 :: a5 :: a6 :: a7 :: some (.ref x) :: L) st) : J X G nL g pc (a0 :: a1 :: a2 :: a3 :: a4 :: a5 :: a6 :: a7 :: o :: L) (.ref x :: st) := by
  obtain ⟨p, e, R, s, m, args, below, meth, c, Q, cells, slots⟩ := X
  obtain ⟨hx, hb, hml, hown, hts, hE, hc1, hc2, hfr, hlo⟩ := C
  intro H locs ls hP hS hl
  refine lv_astore hx hb hd hl hk rfl (fun ls' hl' => k H locs ls' hP hS (hl'.mono ?_))
  exact lis_set (L := (a0 :: a1 :: a2 :: a3 :: a4 :: a5 :: a6 :: a7 :: o :: L)) (k := 8) (v := .ref x) (fun j w hj hw => by
    obtain rfl : j = 7 := by omega
    obtain rfl : a7 = some w := Option.some.inj hw
    intro hc; simp [nlg, hc] at hn)
theorem j_inc8 (pc : Nat) {a0 a1 a2 a3 a4 a5 a6 a7 : Option Value} {n : Int} {x v : Int32} (C : CX X G own cc nL fr lo) (hd : decode cc pc = .ok (.iinc 8 n, 3)) (hn : nlg a7 = true) (hv : x + Int32.ofInt n = v) (hk : 8 < nL) (k : J X G nL g (pc + 3) (a0 :: a1 :: a2 :: a3 :: a4 :: a5 :: a6 :: a7 :: some (.int v) :: L) st) : J X G nL g pc (a0 :: a1 :: a2 :: a3 :: a4 :: a5 :: a6 :: a7 :: some (.int x) :: L) st := by
  obtain ⟨p, e, R, s, m, args, below, meth, c, Q, cells, slots⟩ := X
  obtain ⟨hx, hb, hml, hown, hts, hE, hc1, hc2, hfr, hlo⟩ := C
  intro H locs ls hP hS hl
  obtain ⟨i9, hi9⟩ := List.getElem?_of_mem ((lis_mem (a0 :: a1 :: a2 :: a3 :: a4 :: a5 :: a6 :: a7 :: some (.int x) :: L) 0 (8, .int x)).mpr ⟨Nat.zero_le _, rfl⟩)
  refine lv_iinc hx hb hd hl hi9 hv hk rfl (fun ls' hl' => k H locs ls' hP hS (hl'.mono ?_))
  exact lis_set (L := (a0 :: a1 :: a2 :: a3 :: a4 :: a5 :: a6 :: a7 :: some (.int x) :: L)) (k := 8) (v := .int v) (fun j w hj hw => by
    obtain rfl : j = 7 := by omega
    obtain rfl : a7 = some w := Option.some.inj hw
    intro hc; simp [nlg, hc] at hn)
theorem j_il9 (pc : Nat) {a0 a1 a2 a3 a4 a5 a6 a7 a8 : Option Value} {x : Int32} (C : CX X G own cc nL fr lo) (hd : decode cc pc = .ok (.iload 9, 2)) (k : J X G nL g (pc + 2) (a0 :: a1 :: a2 :: a3 :: a4 :: a5 :: a6 :: a7 :: a8 :: some (.int x) :: L) (.int x :: st)) : J X G nL g pc (a0 :: a1 :: a2 :: a3 :: a4 :: a5 :: a6 :: a7 :: a8 :: some (.int x) :: L) st := by
  obtain ⟨p, e, R, s, m, args, below, meth, c, Q, cells, slots⟩ := X
  obtain ⟨hx, hb, hml, hown, hts, hE, hc1, hc2, hfr, hlo⟩ := C
  intro H locs ls hP hS hl
  exact lv_iload hx hb hd (lis_at hl 9 rfl) (k H locs ls hP hS hl)
theorem j_al9 (pc : Nat) {a0 a1 a2 a3 a4 a5 a6 a7 a8 : Option Value} {x : Nat} (C : CX X G own cc nL fr lo) (hd : decode cc pc = .ok (.aload 9, 2)) (k : J X G nL g (pc + 2) (a0 :: a1 :: a2 :: a3 :: a4 :: a5 :: a6 :: a7 :: a8 :: some (.ref x) :: L) (.ref x :: st)) : J X G nL g pc (a0 :: a1 :: a2 :: a3 :: a4 :: a5 :: a6 :: a7 :: a8 :: some (.ref x) :: L) st := by
  obtain ⟨p, e, R, s, m, args, below, meth, c, Q, cells, slots⟩ := X
  obtain ⟨hx, hb, hml, hown, hts, hE, hc1, hc2, hfr, hlo⟩ := C
  intro H locs ls hP hS hl
  exact lv_aload hx hb hd (lis_at hl 9 rfl) (k H locs ls hP hS hl)
theorem j_ll9 (pc : Nat) {a0 a1 a2 a3 a4 a5 a6 a7 a8 : Option Value} {x : Int64} (C : CX X G own cc nL fr lo) (hd : decode cc pc = .ok (.lload 9, 2)) (k : J X G nL g (pc + 2) (a0 :: a1 :: a2 :: a3 :: a4 :: a5 :: a6 :: a7 :: a8 :: some (.long x) :: L) (.long x :: st)) : J X G nL g pc (a0 :: a1 :: a2 :: a3 :: a4 :: a5 :: a6 :: a7 :: a8 :: some (.long x) :: L) st := by
  obtain ⟨p, e, R, s, m, args, below, meth, c, Q, cells, slots⟩ := X
  obtain ⟨hx, hb, hml, hown, hts, hE, hc1, hc2, hfr, hlo⟩ := C
  intro H locs ls hP hS hl
  exact lv_lload hx hb hd (lis_at hl 9 rfl) (k H locs ls hP hS hl)
theorem j_is9 (pc : Nat) {a0 a1 a2 a3 a4 a5 a6 a7 a8 : Option Value} {o : Option Value} {x : Int32} (C : CX X G own cc nL fr lo) (hd : decode cc pc = .ok (.istore 9, 2)) (hn : nlg a8 = true) (hk : 9 < nL) (k : J X G nL g (pc + 2) (a0 :: a1 :: a2 :: a3 :: a4 :: a5 :: a6 :: a7 :: a8 :: some (.int x) :: L) st) : J X G nL g pc (a0 :: a1 :: a2 :: a3 :: a4 :: a5 :: a6 :: a7 :: a8 :: o :: L) (.int x :: st) := by
  obtain ⟨p, e, R, s, m, args, below, meth, c, Q, cells, slots⟩ := X
  obtain ⟨hx, hb, hml, hown, hts, hE, hc1, hc2, hfr, hlo⟩ := C
  intro H locs ls hP hS hl
  refine lv_istore hx hb hd hl hk rfl (fun ls' hl' => k H locs ls' hP hS (hl'.mono ?_))
  exact lis_set (L := (a0 :: a1 :: a2 :: a3 :: a4 :: a5 :: a6 :: a7 :: a8 :: o :: L)) (k := 9) (v := .int x) (fun j w hj hw => by
    obtain rfl : j = 8 := by omega
    obtain rfl : a8 = some w := Option.some.inj hw
    intro hc; simp [nlg, hc] at hn)
theorem j_as9 (pc : Nat) {a0 a1 a2 a3 a4 a5 a6 a7 a8 : Option Value} {o : Option Value} {x : Nat} (C : CX X G own cc nL fr lo) (hd : decode cc pc = .ok (.astore 9, 2)) (hn : nlg a8 = true) (hk : 9 < nL) (k : J X G nL g (pc + 2) (a0 :: a1 :: a2 :: a3 :: a4 :: a5 :: a6 :: a7 :: a8 :: some (.ref x) :: L) st) : J X G nL g pc (a0 :: a1 :: a2 :: a3 :: a4 :: a5 :: a6 :: a7 :: a8 :: o :: L) (.ref x :: st) := by
  obtain ⟨p, e, R, s, m, args, below, meth, c, Q, cells, slots⟩ := X
  obtain ⟨hx, hb, hml, hown, hts, hE, hc1, hc2, hfr, hlo⟩ := C
  intro H locs ls hP hS hl
  refine lv_astore hx hb hd hl hk rfl (fun ls' hl' => k H locs ls' hP hS (hl'.mono ?_))
  exact lis_set (L := (a0 :: a1 :: a2 :: a3 :: a4 :: a5 :: a6 :: a7 :: a8 :: o :: L)) (k := 9) (v := .ref x) (fun j w hj hw => by
    obtain rfl : j = 8 := by omega
    obtain rfl : a8 = some w := Option.some.inj hw
    intro hc; simp [nlg, hc] at hn)
theorem j_inc9 (pc : Nat) {a0 a1 a2 a3 a4 a5 a6 a7 a8 : Option Value} {n : Int} {x v : Int32} (C : CX X G own cc nL fr lo) (hd : decode cc pc = .ok (.iinc 9 n, 3)) (hn : nlg a8 = true) (hv : x + Int32.ofInt n = v) (hk : 9 < nL) (k : J X G nL g (pc + 3) (a0 :: a1 :: a2 :: a3 :: a4 :: a5 :: a6 :: a7 :: a8 :: some (.int v) :: L) st) : J X G nL g pc (a0 :: a1 :: a2 :: a3 :: a4 :: a5 :: a6 :: a7 :: a8 :: some (.int x) :: L) st := by
  obtain ⟨p, e, R, s, m, args, below, meth, c, Q, cells, slots⟩ := X
  obtain ⟨hx, hb, hml, hown, hts, hE, hc1, hc2, hfr, hlo⟩ := C
  intro H locs ls hP hS hl
  obtain ⟨i9, hi9⟩ := List.getElem?_of_mem ((lis_mem (a0 :: a1 :: a2 :: a3 :: a4 :: a5 :: a6 :: a7 :: a8 :: some (.int x) :: L) 0 (9, .int x)).mpr ⟨Nat.zero_le _, rfl⟩)
  refine lv_iinc hx hb hd hl hi9 hv hk rfl (fun ls' hl' => k H locs ls' hP hS (hl'.mono ?_))
  exact lis_set (L := (a0 :: a1 :: a2 :: a3 :: a4 :: a5 :: a6 :: a7 :: a8 :: some (.int x) :: L)) (k := 9) (v := .int v) (fun j w hj hw => by
    obtain rfl : j = 8 := by omega
    obtain rfl : a8 = some w := Option.some.inj hw
    intro hc; simp [nlg, hc] at hn)
theorem j_ls0 (pc : Nat)  {o o2 : Option Value} {x : Int64} (C : CX X G own cc nL fr lo) (hd : decode cc pc = .ok (.lstore_n 0, 1)) (hk : 0 + 1 < nL) (k : J X G nL g (pc + 1) (some (.long x) :: none :: L) st) : J X G nL g pc (o :: o2 :: L) (.long x :: st) := by
  obtain ⟨p, e, R, s, m, args, below, meth, c, Q, cells, slots⟩ := X
  obtain ⟨hx, hb, hml, hown, hts, hE, hc1, hc2, hfr, hlo⟩ := C
  intro H locs ls hP hS hl
  refine lv_lstore_n hx hb hd rfl hl hk rfl (fun ls' hl' => k H locs ls' hP hS (hl'.mono ?_))
  intro q hq
  obtain ⟨-, h⟩ := (lis_mem _ 0 q).mp hq
  rw [Nat.sub_zero] at h
  by_cases hk1 : q.1 = 0
  · rw [hk1] at h
    rw [List.mem_cons]; left
    exact Prod.ext hk1 (Option.some.inj (Option.some.inj h)).symm
  · by_cases hk2 : q.1 = 1
    · rw [hk2] at h
      cases Option.some.inj h
    · refine List.mem_cons_of_mem _ (List.mem_filter.mpr ⟨(lis_mem _ 0 q).mpr ⟨Nat.zero_le _, ?_⟩, ?_⟩)
      · rw [Nat.sub_zero]
        have e : (o :: o2 :: L)[q.1]? = (((some (.long x) :: none :: L).set 0 o).set 1 o2)[q.1]? := rfl
        rw [e, List.getElem?_set_ne (Ne.symm hk2), List.getElem?_set_ne (Ne.symm hk1)]; exact h
      · have h3 : (q.1 == 0) = false := by simpa using hk1
        have h4 : (q.1 == 0 + 1) = false := by simpa using hk2
        show (!(q.1 == 0) && (!(q.1 == 0 + 1) && !(q.1 + 1 == 0 && q.2.category == 2))) = true
        rw [h3, h4]
        by_cases e : q.1 + 1 = 0
        · omega
        · rw [beq_eq_false_iff_ne.mpr e]
          rfl
theorem j_ls1 (pc : Nat) {a0 : Option Value} {o o2 : Option Value} {x : Int64} (C : CX X G own cc nL fr lo) (hd : decode cc pc = .ok (.lstore_n 1, 1)) (hn : nlg a0 = true) (hk : 1 + 1 < nL) (k : J X G nL g (pc + 1) (a0 :: some (.long x) :: none :: L) st) : J X G nL g pc (a0 :: o :: o2 :: L) (.long x :: st) := by
  obtain ⟨p, e, R, s, m, args, below, meth, c, Q, cells, slots⟩ := X
  obtain ⟨hx, hb, hml, hown, hts, hE, hc1, hc2, hfr, hlo⟩ := C
  intro H locs ls hP hS hl
  refine lv_lstore_n hx hb hd rfl hl hk rfl (fun ls' hl' => k H locs ls' hP hS (hl'.mono ?_))
  intro q hq
  obtain ⟨-, h⟩ := (lis_mem _ 0 q).mp hq
  rw [Nat.sub_zero] at h
  by_cases hk1 : q.1 = 1
  · rw [hk1] at h
    rw [List.mem_cons]; left
    exact Prod.ext hk1 (Option.some.inj (Option.some.inj h)).symm
  · by_cases hk2 : q.1 = 2
    · rw [hk2] at h
      cases Option.some.inj h
    · refine List.mem_cons_of_mem _ (List.mem_filter.mpr ⟨(lis_mem _ 0 q).mpr ⟨Nat.zero_le _, ?_⟩, ?_⟩)
      · rw [Nat.sub_zero]
        have e : (a0 :: o :: o2 :: L)[q.1]? = (((a0 :: some (.long x) :: none :: L).set 1 o).set 2 o2)[q.1]? := rfl
        rw [e, List.getElem?_set_ne (Ne.symm hk2), List.getElem?_set_ne (Ne.symm hk1)]; exact h
      · have h3 : (q.1 == 1) = false := by simpa using hk1
        have h4 : (q.1 == 1 + 1) = false := by simpa using hk2
        show (!(q.1 == 1) && (!(q.1 == 1 + 1) && !(q.1 + 1 == 1 && q.2.category == 2))) = true
        rw [h3, h4]
        by_cases e : q.1 + 1 = 1
        · obtain rfl : a0 = some q.2 := by
            have e9 : q.1 = 0 := by omega
            rw [e9] at h
            exact Option.some.inj h
          have hc : q.2.category ≠ 2 := by intro hc; simp [nlg, hc] at hn
          simp [hc]
        · rw [beq_eq_false_iff_ne.mpr e]
          rfl
theorem j_ls2 (pc : Nat) {a0 a1 : Option Value} {o o2 : Option Value} {x : Int64} (C : CX X G own cc nL fr lo) (hd : decode cc pc = .ok (.lstore_n 2, 1)) (hn : nlg a1 = true) (hk : 2 + 1 < nL) (k : J X G nL g (pc + 1) (a0 :: a1 :: some (.long x) :: none :: L) st) : J X G nL g pc (a0 :: a1 :: o :: o2 :: L) (.long x :: st) := by
  obtain ⟨p, e, R, s, m, args, below, meth, c, Q, cells, slots⟩ := X
  obtain ⟨hx, hb, hml, hown, hts, hE, hc1, hc2, hfr, hlo⟩ := C
  intro H locs ls hP hS hl
  refine lv_lstore_n hx hb hd rfl hl hk rfl (fun ls' hl' => k H locs ls' hP hS (hl'.mono ?_))
  intro q hq
  obtain ⟨-, h⟩ := (lis_mem _ 0 q).mp hq
  rw [Nat.sub_zero] at h
  by_cases hk1 : q.1 = 2
  · rw [hk1] at h
    rw [List.mem_cons]; left
    exact Prod.ext hk1 (Option.some.inj (Option.some.inj h)).symm
  · by_cases hk2 : q.1 = 3
    · rw [hk2] at h
      cases Option.some.inj h
    · refine List.mem_cons_of_mem _ (List.mem_filter.mpr ⟨(lis_mem _ 0 q).mpr ⟨Nat.zero_le _, ?_⟩, ?_⟩)
      · rw [Nat.sub_zero]
        have e : (a0 :: a1 :: o :: o2 :: L)[q.1]? = (((a0 :: a1 :: some (.long x) :: none :: L).set 2 o).set 3 o2)[q.1]? := rfl
        rw [e, List.getElem?_set_ne (Ne.symm hk2), List.getElem?_set_ne (Ne.symm hk1)]; exact h
      · have h3 : (q.1 == 2) = false := by simpa using hk1
        have h4 : (q.1 == 2 + 1) = false := by simpa using hk2
        show (!(q.1 == 2) && (!(q.1 == 2 + 1) && !(q.1 + 1 == 2 && q.2.category == 2))) = true
        rw [h3, h4]
        by_cases e : q.1 + 1 = 2
        · obtain rfl : a1 = some q.2 := by
            have e9 : q.1 = 1 := by omega
            rw [e9] at h
            exact Option.some.inj h
          have hc : q.2.category ≠ 2 := by intro hc; simp [nlg, hc] at hn
          simp [hc]
        · rw [beq_eq_false_iff_ne.mpr e]
          rfl
theorem j_ls3 (pc : Nat) {a0 a1 a2 : Option Value} {o o2 : Option Value} {x : Int64} (C : CX X G own cc nL fr lo) (hd : decode cc pc = .ok (.lstore_n 3, 1)) (hn : nlg a2 = true) (hk : 3 + 1 < nL) (k : J X G nL g (pc + 1) (a0 :: a1 :: a2 :: some (.long x) :: none :: L) st) : J X G nL g pc (a0 :: a1 :: a2 :: o :: o2 :: L) (.long x :: st) := by
  obtain ⟨p, e, R, s, m, args, below, meth, c, Q, cells, slots⟩ := X
  obtain ⟨hx, hb, hml, hown, hts, hE, hc1, hc2, hfr, hlo⟩ := C
  intro H locs ls hP hS hl
  refine lv_lstore_n hx hb hd rfl hl hk rfl (fun ls' hl' => k H locs ls' hP hS (hl'.mono ?_))
  intro q hq
  obtain ⟨-, h⟩ := (lis_mem _ 0 q).mp hq
  rw [Nat.sub_zero] at h
  by_cases hk1 : q.1 = 3
  · rw [hk1] at h
    rw [List.mem_cons]; left
    exact Prod.ext hk1 (Option.some.inj (Option.some.inj h)).symm
  · by_cases hk2 : q.1 = 4
    · rw [hk2] at h
      cases Option.some.inj h
    · refine List.mem_cons_of_mem _ (List.mem_filter.mpr ⟨(lis_mem _ 0 q).mpr ⟨Nat.zero_le _, ?_⟩, ?_⟩)
      · rw [Nat.sub_zero]
        have e : (a0 :: a1 :: a2 :: o :: o2 :: L)[q.1]? = (((a0 :: a1 :: a2 :: some (.long x) :: none :: L).set 3 o).set 4 o2)[q.1]? := rfl
        rw [e, List.getElem?_set_ne (Ne.symm hk2), List.getElem?_set_ne (Ne.symm hk1)]; exact h
      · have h3 : (q.1 == 3) = false := by simpa using hk1
        have h4 : (q.1 == 3 + 1) = false := by simpa using hk2
        show (!(q.1 == 3) && (!(q.1 == 3 + 1) && !(q.1 + 1 == 3 && q.2.category == 2))) = true
        rw [h3, h4]
        by_cases e : q.1 + 1 = 3
        · obtain rfl : a2 = some q.2 := by
            have e9 : q.1 = 2 := by omega
            rw [e9] at h
            exact Option.some.inj h
          have hc : q.2.category ≠ 2 := by intro hc; simp [nlg, hc] at hn
          simp [hc]
        · rw [beq_eq_false_iff_ne.mpr e]
          rfl
theorem j_ls4 (pc : Nat) {a0 a1 a2 a3 : Option Value} {o o2 : Option Value} {x : Int64} (C : CX X G own cc nL fr lo) (hd : decode cc pc = .ok (.lstore 4, 2)) (hn : nlg a3 = true) (hk : 4 + 1 < nL) (k : J X G nL g (pc + 2) (a0 :: a1 :: a2 :: a3 :: some (.long x) :: none :: L) st) : J X G nL g pc (a0 :: a1 :: a2 :: a3 :: o :: o2 :: L) (.long x :: st) := by
  obtain ⟨p, e, R, s, m, args, below, meth, c, Q, cells, slots⟩ := X
  obtain ⟨hx, hb, hml, hown, hts, hE, hc1, hc2, hfr, hlo⟩ := C
  intro H locs ls hP hS hl
  refine lv_lstore hx hb hd hl hk rfl (fun ls' hl' => k H locs ls' hP hS (hl'.mono ?_))
  intro q hq
  obtain ⟨-, h⟩ := (lis_mem _ 0 q).mp hq
  rw [Nat.sub_zero] at h
  by_cases hk1 : q.1 = 4
  · rw [hk1] at h
    rw [List.mem_cons]; left
    exact Prod.ext hk1 (Option.some.inj (Option.some.inj h)).symm
  · by_cases hk2 : q.1 = 5
    · rw [hk2] at h
      cases Option.some.inj h
    · refine List.mem_cons_of_mem _ (List.mem_filter.mpr ⟨(lis_mem _ 0 q).mpr ⟨Nat.zero_le _, ?_⟩, ?_⟩)
      · rw [Nat.sub_zero]
        have e : (a0 :: a1 :: a2 :: a3 :: o :: o2 :: L)[q.1]? = (((a0 :: a1 :: a2 :: a3 :: some (.long x) :: none :: L).set 4 o).set 5 o2)[q.1]? := rfl
        rw [e, List.getElem?_set_ne (Ne.symm hk2), List.getElem?_set_ne (Ne.symm hk1)]; exact h
      · have h3 : (q.1 == 4) = false := by simpa using hk1
        have h4 : (q.1 == 4 + 1) = false := by simpa using hk2
        show (!(q.1 == 4) && (!(q.1 == 4 + 1) && !(q.1 + 1 == 4 && q.2.category == 2))) = true
        rw [h3, h4]
        by_cases e : q.1 + 1 = 4
        · obtain rfl : a3 = some q.2 := by
            have e9 : q.1 = 3 := by omega
            rw [e9] at h
            exact Option.some.inj h
          have hc : q.2.category ≠ 2 := by intro hc; simp [nlg, hc] at hn
          simp [hc]
        · rw [beq_eq_false_iff_ne.mpr e]
          rfl
theorem j_ls5 (pc : Nat) {a0 a1 a2 a3 a4 : Option Value} {o o2 : Option Value} {x : Int64} (C : CX X G own cc nL fr lo) (hd : decode cc pc = .ok (.lstore 5, 2)) (hn : nlg a4 = true) (hk : 5 + 1 < nL) (k : J X G nL g (pc + 2) (a0 :: a1 :: a2 :: a3 :: a4 :: some (.long x) :: none :: L) st) : J X G nL g pc (a0 :: a1 :: a2 :: a3 :: a4 :: o :: o2 :: L) (.long x :: st) := by
  obtain ⟨p, e, R, s, m, args, below, meth, c, Q, cells, slots⟩ := X
  obtain ⟨hx, hb, hml, hown, hts, hE, hc1, hc2, hfr, hlo⟩ := C
  intro H locs ls hP hS hl
  refine lv_lstore hx hb hd hl hk rfl (fun ls' hl' => k H locs ls' hP hS (hl'.mono ?_))
  intro q hq
  obtain ⟨-, h⟩ := (lis_mem _ 0 q).mp hq
  rw [Nat.sub_zero] at h
  by_cases hk1 : q.1 = 5
  · rw [hk1] at h
    rw [List.mem_cons]; left
    exact Prod.ext hk1 (Option.some.inj (Option.some.inj h)).symm
  · by_cases hk2 : q.1 = 6
    · rw [hk2] at h
      cases Option.some.inj h
    · refine List.mem_cons_of_mem _ (List.mem_filter.mpr ⟨(lis_mem _ 0 q).mpr ⟨Nat.zero_le _, ?_⟩, ?_⟩)
      · rw [Nat.sub_zero]
        have e : (a0 :: a1 :: a2 :: a3 :: a4 :: o :: o2 :: L)[q.1]? = (((a0 :: a1 :: a2 :: a3 :: a4 :: some (.long x) :: none :: L).set 5 o).set 6 o2)[q.1]? := rfl
        rw [e, List.getElem?_set_ne (Ne.symm hk2), List.getElem?_set_ne (Ne.symm hk1)]; exact h
      · have h3 : (q.1 == 5) = false := by simpa using hk1
        have h4 : (q.1 == 5 + 1) = false := by simpa using hk2
        show (!(q.1 == 5) && (!(q.1 == 5 + 1) && !(q.1 + 1 == 5 && q.2.category == 2))) = true
        rw [h3, h4]
        by_cases e : q.1 + 1 = 5
        · obtain rfl : a4 = some q.2 := by
            have e9 : q.1 = 4 := by omega
            rw [e9] at h
            exact Option.some.inj h
          have hc : q.2.category ≠ 2 := by intro hc; simp [nlg, hc] at hn
          simp [hc]
        · rw [beq_eq_false_iff_ne.mpr e]
          rfl
theorem j_ls6 (pc : Nat) {a0 a1 a2 a3 a4 a5 : Option Value} {o o2 : Option Value} {x : Int64} (C : CX X G own cc nL fr lo) (hd : decode cc pc = .ok (.lstore 6, 2)) (hn : nlg a5 = true) (hk : 6 + 1 < nL) (k : J X G nL g (pc + 2) (a0 :: a1 :: a2 :: a3 :: a4 :: a5 :: some (.long x) :: none :: L) st) : J X G nL g pc (a0 :: a1 :: a2 :: a3 :: a4 :: a5 :: o :: o2 :: L) (.long x :: st) := by
  obtain ⟨p, e, R, s, m, args, below, meth, c, Q, cells, slots⟩ := X
  obtain ⟨hx, hb, hml, hown, hts, hE, hc1, hc2, hfr, hlo⟩ := C
  intro H locs ls hP hS hl
  refine lv_lstore hx hb hd hl hk rfl (fun ls' hl' => k H locs ls' hP hS (hl'.mono ?_))
  intro q hq
  obtain ⟨-, h⟩ := (lis_mem _ 0 q).mp hq
  rw [Nat.sub_zero] at h
  by_cases hk1 : q.1 = 6
  · rw [hk1] at h
    rw [List.mem_cons]; left
    exact Prod.ext hk1 (Option.some.inj (Option.some.inj h)).symm
  · by_cases hk2 : q.1 = 7
    · rw [hk2] at h
      cases Option.some.inj h
    · refine List.mem_cons_of_mem _ (List.mem_filter.mpr ⟨(lis_mem _ 0 q).mpr ⟨Nat.zero_le _, ?_⟩, ?_⟩)
      · rw [Nat.sub_zero]
        have e : (a0 :: a1 :: a2 :: a3 :: a4 :: a5 :: o :: o2 :: L)[q.1]? = (((a0 :: a1 :: a2 :: a3 :: a4 :: a5 :: some (.long x) :: none :: L).set 6 o).set 7 o2)[q.1]? := rfl
        rw [e, List.getElem?_set_ne (Ne.symm hk2), List.getElem?_set_ne (Ne.symm hk1)]; exact h
      · have h3 : (q.1 == 6) = false := by simpa using hk1
        have h4 : (q.1 == 6 + 1) = false := by simpa using hk2
        show (!(q.1 == 6) && (!(q.1 == 6 + 1) && !(q.1 + 1 == 6 && q.2.category == 2))) = true
        rw [h3, h4]
        by_cases e : q.1 + 1 = 6
        · obtain rfl : a5 = some q.2 := by
            have e9 : q.1 = 5 := by omega
            rw [e9] at h
            exact Option.some.inj h
          have hc : q.2.category ≠ 2 := by intro hc; simp [nlg, hc] at hn
          simp [hc]
        · rw [beq_eq_false_iff_ne.mpr e]
          rfl
theorem j_ls7 (pc : Nat) {a0 a1 a2 a3 a4 a5 a6 : Option Value} {o o2 : Option Value} {x : Int64} (C : CX X G own cc nL fr lo) (hd : decode cc pc = .ok (.lstore 7, 2)) (hn : nlg a6 = true) (hk : 7 + 1 < nL) (k : J X G nL g (pc + 2) (a0 :: a1 :: a2 :: a3 :: a4 :: a5 :: a6 :: some (.long x) :: none :: L) st) : J X G nL g pc (a0 :: a1 :: a2 :: a3 :: a4 :: a5 :: a6 :: o :: o2 :: L) (.long x :: st) := by
  obtain ⟨p, e, R, s, m, args, below, meth, c, Q, cells, slots⟩ := X
  obtain ⟨hx, hb, hml, hown, hts, hE, hc1, hc2, hfr, hlo⟩ := C
  intro H locs ls hP hS hl
  refine lv_lstore hx hb hd hl hk rfl (fun ls' hl' => k H locs ls' hP hS (hl'.mono ?_))
  intro q hq
  obtain ⟨-, h⟩ := (lis_mem _ 0 q).mp hq
  rw [Nat.sub_zero] at h
  by_cases hk1 : q.1 = 7
  · rw [hk1] at h
    rw [List.mem_cons]; left
    exact Prod.ext hk1 (Option.some.inj (Option.some.inj h)).symm
  · by_cases hk2 : q.1 = 8
    · rw [hk2] at h
      cases Option.some.inj h
    · refine List.mem_cons_of_mem _ (List.mem_filter.mpr ⟨(lis_mem _ 0 q).mpr ⟨Nat.zero_le _, ?_⟩, ?_⟩)
      · rw [Nat.sub_zero]
        have e : (a0 :: a1 :: a2 :: a3 :: a4 :: a5 :: a6 :: o :: o2 :: L)[q.1]? = (((a0 :: a1 :: a2 :: a3 :: a4 :: a5 :: a6 :: some (.long x) :: none :: L).set 7 o).set 8 o2)[q.1]? := rfl
        rw [e, List.getElem?_set_ne (Ne.symm hk2), List.getElem?_set_ne (Ne.symm hk1)]; exact h
      · have h3 : (q.1 == 7) = false := by simpa using hk1
        have h4 : (q.1 == 7 + 1) = false := by simpa using hk2
        show (!(q.1 == 7) && (!(q.1 == 7 + 1) && !(q.1 + 1 == 7 && q.2.category == 2))) = true
        rw [h3, h4]
        by_cases e : q.1 + 1 = 7
        · obtain rfl : a6 = some q.2 := by
            have e9 : q.1 = 6 := by omega
            rw [e9] at h
            exact Option.some.inj h
          have hc : q.2.category ≠ 2 := by intro hc; simp [nlg, hc] at hn
          simp [hc]
        · rw [beq_eq_false_iff_ne.mpr e]
          rfl
theorem j_ls8 (pc : Nat) {a0 a1 a2 a3 a4 a5 a6 a7 : Option Value} {o o2 : Option Value} {x : Int64} (C : CX X G own cc nL fr lo) (hd : decode cc pc = .ok (.lstore 8, 2)) (hn : nlg a7 = true) (hk : 8 + 1 < nL) (k : J X G nL g (pc + 2) (a0 :: a1 :: a2 :: a3 :: a4 :: a5 :: a6 :: a7 :: some (.long x) :: none :: L) st) : J X G nL g pc (a0 :: a1 :: a2 :: a3 :: a4 :: a5 :: a6 :: a7 :: o :: o2 :: L) (.long x :: st) := by
  obtain ⟨p, e, R, s, m, args, below, meth, c, Q, cells, slots⟩ := X
  obtain ⟨hx, hb, hml, hown, hts, hE, hc1, hc2, hfr, hlo⟩ := C
  intro H locs ls hP hS hl
  refine lv_lstore hx hb hd hl hk rfl (fun ls' hl' => k H locs ls' hP hS (hl'.mono ?_))
  intro q hq
  obtain ⟨-, h⟩ := (lis_mem _ 0 q).mp hq
  rw [Nat.sub_zero] at h
  by_cases hk1 : q.1 = 8
  · rw [hk1] at h
    rw [List.mem_cons]; left
    exact Prod.ext hk1 (Option.some.inj (Option.some.inj h)).symm
  · by_cases hk2 : q.1 = 9
    · rw [hk2] at h
      cases Option.some.inj h
    · refine List.mem_cons_of_mem _ (List.mem_filter.mpr ⟨(lis_mem _ 0 q).mpr ⟨Nat.zero_le _, ?_⟩, ?_⟩)
      · rw [Nat.sub_zero]
        have e : (a0 :: a1 :: a2 :: a3 :: a4 :: a5 :: a6 :: a7 :: o :: o2 :: L)[q.1]? = (((a0 :: a1 :: a2 :: a3 :: a4 :: a5 :: a6 :: a7 :: some (.long x) :: none :: L).set 8 o).set 9 o2)[q.1]? := rfl
        rw [e, List.getElem?_set_ne (Ne.symm hk2), List.getElem?_set_ne (Ne.symm hk1)]; exact h
      · have h3 : (q.1 == 8) = false := by simpa using hk1
        have h4 : (q.1 == 8 + 1) = false := by simpa using hk2
        show (!(q.1 == 8) && (!(q.1 == 8 + 1) && !(q.1 + 1 == 8 && q.2.category == 2))) = true
        rw [h3, h4]
        by_cases e : q.1 + 1 = 8
        · obtain rfl : a7 = some q.2 := by
            have e9 : q.1 = 7 := by omega
            rw [e9] at h
            exact Option.some.inj h
          have hc : q.2.category ≠ 2 := by intro hc; simp [nlg, hc] at hn
          simp [hc]
        · rw [beq_eq_false_iff_ne.mpr e]
          rfl
end ROWS
end
section
/-! receivers; what a call asks of its callee -/
def RC (G : GT) (Cn : String) (b : Nat) : Prop := ∀ (g : Mem) (s : State) (H : Heap) (locs : List Loc), EV G s s.heap → va_S (Aq G) s.heap H locs → va_P (gD G) vwCl (WW G g) H → ∃ cell : Cell, H[b]? = some cell ∧ cell.vm.isStatics = false ∧ s.vm.findClass Cn = some cell.cls
theorem rc_of {G : GT} {Cn : String} {b k ci : Nat} {q : vw_C} (h : ∀ g : Mem, ∃ fs : List Value, (WW G g)[k]? = some (b, .inr (ci, fs))) (hc : vwCl[ci]? = some q) (he : q.1 = Cn) : RC G Cn b := by
  intro g s H locs hE hS hP
  obtain ⟨fs, h1⟩ := h g
  have := va_recv hE.1 hP hc h1
  rw [he] at this
  exact this
theorem rc_x {G : GT} : RC G RX4 (xo G) := rc_of (k := 0) (ci := 3) (fun _ => ⟨_, rfl⟩) rfl rfl
theorem rc_d {G : GT} {d : Nat} (h : d < 4) : RC G RX0 (dr G d) := rc_of (k := 1 + 4 * d) (ci := 0) (fun _ => ⟨_, at_D h⟩) rfl rfl
theorem rc_t {G : GT} : RC G RX3 (tp G) := rc_of (k := 17) (ci := 2) (fun _ => ⟨_, rfl⟩) rfl rfl
theorem rc_s {G : GT} {t : Nat} (h : t < 4) : RC G RX2 (sh G t) := rc_of (k := 20 + 2 * t) (ci := 1) (fun _ => ⟨_, at_Sh h⟩) rfl rfl
theorem rc_m {G : GT} : RC G RX5 (mo G) := rc_of (k := 29) (ci := 4) (fun _ => ⟨_, rfl⟩) rfl rfl
theorem rc_k {G : GT} {i : Nat} (h : i < 12) : RC G "java/lang/String" (gK G i) := fun _ _ _ _ hE hS _ => vk_recv hE.2.2.2.2.2.2.2.1 h hS
def MV (y : MethodName) (ccy : ByteArray) (mL : Nat) (rt : Option FieldType) (n : Nat) : Prop := Cond.code y ccy mL rt ∈ TBL ∧ Cond.instanceMethod y ∈ TBL ∧ Cond.selects y.cls y y ∈ TBL ∧ Cond.initialized y.cls ∈ TBL ∧ (y.cls ≠ "java/lang/invoke/MethodHandle" ∧ y.cls ≠ "java/lang/invoke/VarHandle" ∧ (parseMethodDescriptor y.desc).map (fun d => d.parameters.length) = some n)
def MS (y : MethodName) (ccy : ByteArray) (mL : Nat) (rt : Option FieldType) (n : Nat) : Prop := Cond.code y ccy mL rt ∈ TBL ∧ Cond.static y ∈ TBL ∧ Cond.initialized y.cls ∈ TBL ∧ (y.cls ≠ "java/lang/invoke/MethodHandle" ∧ y.cls ≠ "java/lang/invoke/VarHandle" ∧ (parseMethodDescriptor y.desc).map (fun d => d.parameters.length) = some n)
theorem MV.good {y : MethodName} {ccy : ByteArray} {mL n idx : Nat} {rt : Option FieldType} {own : String} (h : MV y ccy mL rt n) (hl : Cond.methodLink own idx y ∈ TBL) : GoodIn TBL (wsV own idx y.cls y (Cond.code y ccy mL rt :: TBL)) := by
  obtain ⟨v1, v2, v3, v4, -⟩ := h
  refine TBL_good (fun w hw => ?_)
  unfold wsV at hw
  rcases List.mem_append.mp hw with hw | hw
  · simp only [List.mem_cons, List.not_mem_nil, or_false] at hw
    rcases hw with rfl | rfl | rfl | rfl <;> assumption
  · rcases List.mem_cons.mp hw with rfl | hw
    · exact v1
    · exact hw
theorem MS.good {y : MethodName} {ccy : ByteArray} {mL n idx : Nat} {rt : Option FieldType} {own : String} (h : MS y ccy mL rt n) (hl : Cond.methodLink own idx y ∈ TBL) : GoodIn TBL (va_wsS own idx y (Cond.code y ccy mL rt :: TBL)) := by
  obtain ⟨v1, v2, v3, -⟩ := h
  refine TBL_good (fun w hw => ?_)
  unfold va_wsS at hw
  rcases List.mem_append.mp hw with hw | hw
  · simp only [List.mem_cons, List.not_mem_nil, or_false] at hw
    rcases hw with rfl | rfl | rfl <;> assumption
  · rcases List.mem_cons.mp hw with rfl | hw
    · exact v1
    · exact hw
theorem PRE_blind {G : GT} {g : Mem} {av : List Value} : FrameBlind (va_Pc av (PRE G g)) := fun _ _ _ _ h => ⟨h.1, h.2.1, h.2.2.same rfl⟩
section CALLS
variable {X : XT} {G : GT} {own : String} {cc : ByteArray} {nL fr lo : Nat} {g : Mem} {L : List (Option Value)} {st st0 : List Value} {idx mLy n fr' lo' b : Nat} {y : MethodName} {ccy : ByteArray} {rt : FieldType} {As : List Value}
theorem j_vi (pc : Nat) {post : Int32 → Mem → Prop} (C : CX X G own cc nL fr lo) (hd : decode cc pc = .ok (.invokevirtual idx, 3)) (hV : MV y ccy mLy (some rt) n) (hlk : Cond.methodLink own idx y ∈ TBL) (hM : Cti G y ccy mLy rt fr' lo' (.ref b :: As) g post) (hrc : RC G y.cls b) (hn : As.length = n) (hst : st0 = As.reverse ++ .ref b :: st) (hro : fr' + 1 ≤ fr ∧ 19 + mLy + lo' ≤ lo) (hsm : (st.map fun v => v.category).sum ≤ 8) (k : ∀ r g', post r g' → J X G nL g' (pc + 3) L (.int r :: st)) : J X G nL g pc L st0 := by
  obtain ⟨p, e, R, s, m, args, below, meth, c, Q, cells, slots⟩ := X
  obtain ⟨hx, hb, hml, hown, hts, hE, hc1, hc2, hfr, hlo⟩ := C
  intro H locs ls hP hS hl
  subst hst
  have hEH : EV G s H := hE.kept (fun a h1 h2 => hS.2.1 a h1 h2)
  have h1 : (RM fr' lo').frames + 1 ≤ R.frames := Nat.le_trans hro.1 hfr
  have h2 : 8 + (mLy + 11) + (RM fr' lo').locals ≤ R.locals := by show 8 + (mLy + 11) + lo' ≤ R.locals; have := hro.2; omega
  have hrv := hrc g s H locs hE hS hP
  refine va_calli (va_runV (As := As) (rest := st) (C := y.cls) ⟨hx, hb, hml, hown, hts⟩ hM (cwV n hts (hV.good hlk) rfl rfl rfl ⟨rfl, hV.2.2.2.2⟩ ⟨h1, h2⟩) ⟨PRE_blind, hrv, fun U hU hW => ⟨rfl, by rw [hU]; exact hP, by rw [hU]; exact hEH.warm hW⟩⟩ rfl hn hl.1 rfl (lv_room hsm) hd ⟨hc1, hc2⟩) hS (fun q _ h => h) (fun q h => h) (fun r u t H1 locs1 ht hvm hp hB hz1 hk1 hS1 => ?_)
  have hB : va_P (gD G) vwCl (WW G u) t.heap := hB
  rw [ht] at hB
  exact k r u hp H1 locs1 ls hB hS1 hl
theorem j_vl (pc : Nat) {post : Int64 → Mem → Prop} (C : CX X G own cc nL fr lo) (hd : decode cc pc = .ok (.invokevirtual idx, 3)) (hV : MV y ccy mLy (some .long) n) (hlk : Cond.methodLink own idx y ∈ TBL) (hM : Ctl G y ccy mLy fr' lo' (.ref b :: As) g post) (hrc : RC G y.cls b) (hn : As.length = n) (hst : st0 = As.reverse ++ .ref b :: st) (hro : fr' + 1 ≤ fr ∧ 19 + mLy + lo' ≤ lo) (hsm : (st.map fun v => v.category).sum ≤ 8) (k : ∀ r g', post r g' → J X G nL g' (pc + 3) L (.long r :: st)) : J X G nL g pc L st0 := by
  obtain ⟨p, e, R, s, m, args, below, meth, c, Q, cells, slots⟩ := X
  obtain ⟨hx, hb, hml, hown, hts, hE, hc1, hc2, hfr, hlo⟩ := C
  intro H locs ls hP hS hl
  subst hst
  have hEH : EV G s H := hE.kept (fun a h1 h2 => hS.2.1 a h1 h2)
  have h1 : (RM fr' lo').frames + 1 ≤ R.frames := Nat.le_trans hro.1 hfr
  have h2 : 8 + (mLy + 11) + (RM fr' lo').locals ≤ R.locals := by show 8 + (mLy + 11) + lo' ≤ R.locals; have := hro.2; omega
  have hrv := hrc g s H locs hE hS hP
  refine va_calll (va_runV (As := As) (rest := st) (C := y.cls) ⟨hx, hb, hml, hown, hts⟩ hM (cwV n hts (hV.good hlk) rfl rfl rfl ⟨rfl, hV.2.2.2.2⟩ ⟨h1, h2⟩) ⟨PRE_blind, hrv, fun U hU hW => ⟨rfl, by rw [hU]; exact hP, by rw [hU]; exact hEH.warm hW⟩⟩ rfl hn hl.1 rfl (lv_room hsm) hd ⟨hc1, hc2⟩) hS (fun q _ h => h) (fun q h => h) (fun r u t H1 locs1 ht hvm hp hB hz1 hk1 hS1 => ?_)
  have hB : va_P (gD G) vwCl (WW G u) t.heap := hB
  rw [ht] at hB
  exact k r u hp H1 locs1 ls hB hS1 hl
theorem j_vv (pc : Nat) {post : Mem → Prop} (C : CX X G own cc nL fr lo) (hd : decode cc pc = .ok (.invokevirtual idx, 3)) (hV : MV y ccy mLy none n) (hlk : Cond.methodLink own idx y ∈ TBL) (hM : Ctv G y ccy mLy fr' lo' (.ref b :: As) g post) (hrc : RC G y.cls b) (hn : As.length = n) (hst : st0 = As.reverse ++ .ref b :: st) (hro : fr' + 1 ≤ fr ∧ 19 + mLy + lo' ≤ lo) (hsm : (st.map fun v => v.category).sum ≤ 8) (k : ∀ g', post g' → J X G nL g' (pc + 3) L st) : J X G nL g pc L st0 := by
  obtain ⟨p, e, R, s, m, args, below, meth, c, Q, cells, slots⟩ := X
  obtain ⟨hx, hb, hml, hown, hts, hE, hc1, hc2, hfr, hlo⟩ := C
  intro H locs ls hP hS hl
  subst hst
  have hEH : EV G s H := hE.kept (fun a h1 h2 => hS.2.1 a h1 h2)
  have h1 : (RM fr' lo').frames + 1 ≤ R.frames := Nat.le_trans hro.1 hfr
  have h2 : 8 + (mLy + 11) + (RM fr' lo').locals ≤ R.locals := by show 8 + (mLy + 11) + lo' ≤ R.locals; have := hro.2; omega
  have hrv := hrc g s H locs hE hS hP
  refine va_callv (va_runV (As := As) (rest := st) (C := y.cls) ⟨hx, hb, hml, hown, hts⟩ hM (cwV n hts (hV.good hlk) rfl rfl rfl ⟨rfl, hV.2.2.2.2⟩ ⟨h1, h2⟩) ⟨PRE_blind, hrv, fun U hU hW => ⟨rfl, by rw [hU]; exact hP, by rw [hU]; exact hEH.warm hW⟩⟩ rfl hn hl.1 rfl (lv_room hsm) hd ⟨hc1, hc2⟩) hS (fun q _ h => h) (fun q h => h) (fun u t H1 locs1 ht hvm hp hB hz1 hk1 hS1 => ?_)
  have hB : va_P (gD G) vwCl (WW G u) t.heap := hB
  rw [ht] at hB
  exact k u hp H1 locs1 ls hB hS1 hl
theorem j_si (pc : Nat) {post : Int32 → Mem → Prop} (C : CX X G own cc nL fr lo) (hd : decode cc pc = .ok (.invokestatic idx, 3)) (hV : MS y ccy mLy (some rt) n) (hlk : Cond.methodLink own idx y ∈ TBL) (hM : Cti G y ccy mLy rt fr' lo' As g post) (hn : As.length = n) (hst : st0 = As.reverse ++ st) (hro : fr' + 1 ≤ fr ∧ 19 + mLy + lo' ≤ lo) (hsm : (st.map fun v => v.category).sum ≤ 8) (k : ∀ r g', post r g' → J X G nL g' (pc + 3) L (.int r :: st)) : J X G nL g pc L st0 := by
  obtain ⟨p, e, R, s, m, args, below, meth, c, Q, cells, slots⟩ := X
  obtain ⟨hx, hb, hml, hown, hts, hE, hc1, hc2, hfr, hlo⟩ := C
  intro H locs ls hP hS hl
  subst hst
  have hEH : EV G s H := hE.kept (fun a h1 h2 => hS.2.1 a h1 h2)
  have h1 : (RM fr' lo').frames + 1 ≤ R.frames := Nat.le_trans hro.1 hfr
  have h2 : 8 + (mLy + 11) + (RM fr' lo').locals ≤ R.locals := by show 8 + (mLy + 11) + lo' ≤ R.locals; have := hro.2; omega
  refine va_calli (va_runS (As := As) (rest := st) ⟨hx, hb, hml, hown, hts⟩ hM (va_cwS n hts (hV.good hlk) rfl rfl rfl hV.2.2.2 ⟨h1, h2⟩) ⟨PRE_blind, fun U hU hW => ⟨rfl, by rw [hU]; exact hP, by rw [hU]; exact hEH.warm hW⟩⟩ rfl hn hl.1 rfl (lv_room hsm) hd ⟨hc1, hc2⟩) hS (fun q _ h => h) (fun q h => h) (fun r u t H1 locs1 ht hvm hp hB hz1 hk1 hS1 => ?_)
  have hB : va_P (gD G) vwCl (WW G u) t.heap := hB
  rw [ht] at hB
  exact k r u hp H1 locs1 ls hB hS1 hl
theorem j_sl (pc : Nat) {post : Int64 → Mem → Prop} (C : CX X G own cc nL fr lo) (hd : decode cc pc = .ok (.invokestatic idx, 3)) (hV : MS y ccy mLy (some .long) n) (hlk : Cond.methodLink own idx y ∈ TBL) (hM : Ctl G y ccy mLy fr' lo' As g post) (hn : As.length = n) (hst : st0 = As.reverse ++ st) (hro : fr' + 1 ≤ fr ∧ 19 + mLy + lo' ≤ lo) (hsm : (st.map fun v => v.category).sum ≤ 8) (k : ∀ r g', post r g' → J X G nL g' (pc + 3) L (.long r :: st)) : J X G nL g pc L st0 := by
  obtain ⟨p, e, R, s, m, args, below, meth, c, Q, cells, slots⟩ := X
  obtain ⟨hx, hb, hml, hown, hts, hE, hc1, hc2, hfr, hlo⟩ := C
  intro H locs ls hP hS hl
  subst hst
  have hEH : EV G s H := hE.kept (fun a h1 h2 => hS.2.1 a h1 h2)
  have h1 : (RM fr' lo').frames + 1 ≤ R.frames := Nat.le_trans hro.1 hfr
  have h2 : 8 + (mLy + 11) + (RM fr' lo').locals ≤ R.locals := by show 8 + (mLy + 11) + lo' ≤ R.locals; have := hro.2; omega
  refine va_calll (va_runS (As := As) (rest := st) ⟨hx, hb, hml, hown, hts⟩ hM (va_cwS n hts (hV.good hlk) rfl rfl rfl hV.2.2.2 ⟨h1, h2⟩) ⟨PRE_blind, fun U hU hW => ⟨rfl, by rw [hU]; exact hP, by rw [hU]; exact hEH.warm hW⟩⟩ rfl hn hl.1 rfl (lv_room hsm) hd ⟨hc1, hc2⟩) hS (fun q _ h => h) (fun q h => h) (fun r u t H1 locs1 ht hvm hp hB hz1 hk1 hS1 => ?_)
  have hB : va_P (gD G) vwCl (WW G u) t.heap := hB
  rw [ht] at hB
  exact k r u hp H1 locs1 ls hB hS1 hl
theorem j_sv (pc : Nat) {post : Mem → Prop} (C : CX X G own cc nL fr lo) (hd : decode cc pc = .ok (.invokestatic idx, 3)) (hV : MS y ccy mLy none n) (hlk : Cond.methodLink own idx y ∈ TBL) (hM : Ctv G y ccy mLy fr' lo' As g post) (hn : As.length = n) (hst : st0 = As.reverse ++ st) (hro : fr' + 1 ≤ fr ∧ 19 + mLy + lo' ≤ lo) (hsm : (st.map fun v => v.category).sum ≤ 8) (k : ∀ g', post g' → J X G nL g' (pc + 3) L st) : J X G nL g pc L st0 := by
  obtain ⟨p, e, R, s, m, args, below, meth, c, Q, cells, slots⟩ := X
  obtain ⟨hx, hb, hml, hown, hts, hE, hc1, hc2, hfr, hlo⟩ := C
  intro H locs ls hP hS hl
  subst hst
  have hEH : EV G s H := hE.kept (fun a h1 h2 => hS.2.1 a h1 h2)
  have h1 : (RM fr' lo').frames + 1 ≤ R.frames := Nat.le_trans hro.1 hfr
  have h2 : 8 + (mLy + 11) + (RM fr' lo').locals ≤ R.locals := by show 8 + (mLy + 11) + lo' ≤ R.locals; have := hro.2; omega
  refine va_callv (va_runS (As := As) (rest := st) ⟨hx, hb, hml, hown, hts⟩ hM (va_cwS n hts (hV.good hlk) rfl rfl rfl hV.2.2.2 ⟨h1, h2⟩) ⟨PRE_blind, fun U hU hW => ⟨rfl, by rw [hU]; exact hP, by rw [hU]; exact hEH.warm hW⟩⟩ rfl hn hl.1 rfl (lv_room hsm) hd ⟨hc1, hc2⟩) hS (fun q _ h => h) (fun q h => h) (fun u t H1 locs1 ht hvm hp hB hz1 hk1 hS1 => ?_)
  have hB : va_P (gD G) vwCl (WW G u) t.heap := hB
  rw [ht] at hB
  exact k u hp H1 locs1 ls hB hS1 hl
theorem j_mmin (pc : Nat) {x y : Int32} (C : CX X G own cc nL fr lo) (hd : decode cc pc = .ok (.invokestatic idx, 3)) (hlk : Cond.methodLink own idx Lib.Math.min.name ∈ TBL) (hw : Cond.static Lib.Math.min.name ∈ TBL ∧ Cond.initialized "java/lang/Math" ∈ TBL ∧ Cond.code Lib.Math.min.name Lib.Math.min.code 2 (some .int) ∈ TBL) (hro : 1 ≤ fr ∧ (st.map fun v => v.category).sum + 13 ≤ lo) (k : J X G nL g (pc + 3) L (.int (if y < x then y else x) :: st)) : J X G nL g pc L (.int y :: .int x :: st) := by
  obtain ⟨p, e, R, s, m, args, below, meth, c, Q, cells, slots⟩ := X
  obtain ⟨hx, hb, hml, hown, hts, hE, hc1, hc2, hfr, hlo⟩ := C
  intro H locs ls hP hS hl
  exact va_mmin hx hb (hml.trans hl.1.symm) hown (hts _ hlk) (hts _ hw.1) (hts _ hw.2.1) (hts _ hw.2.2) (Nat.le_trans hro.1 hfr) (Nat.le_trans hro.2 hlo) hc1 hc2 hd (k H locs ls hP hS hl)
theorem j_mmax (pc : Nat) {x y : Int32} (C : CX X G own cc nL fr lo) (hd : decode cc pc = .ok (.invokestatic idx, 3)) (hlk : Cond.methodLink own idx Lib.Math.max.name ∈ TBL) (hw : Cond.static Lib.Math.max.name ∈ TBL ∧ Cond.initialized "java/lang/Math" ∈ TBL ∧ Cond.code Lib.Math.max.name Lib.Math.max.code 2 (some .int) ∈ TBL) (hro : 1 ≤ fr ∧ (st.map fun v => v.category).sum + 13 ≤ lo) (k : J X G nL g (pc + 3) L (.int (if x < y then y else x) :: st)) : J X G nL g pc L (.int y :: .int x :: st) := by
  obtain ⟨p, e, R, s, m, args, below, meth, c, Q, cells, slots⟩ := X
  obtain ⟨hx, hb, hml, hown, hts, hE, hc1, hc2, hfr, hlo⟩ := C
  intro H locs ls hP hS hl
  exact va_mmax hx hb (hml.trans hl.1.symm) hown (hts _ hlk) (hts _ hw.1) (hts _ hw.2.1) (hts _ hw.2.2) (Nat.le_trans hro.1 hfr) (Nat.le_trans hro.2 hlo) hc1 hc2 hd (k H locs ls hP hS hl)
end CALLS
end
section
theorem ti_X4 : Cond.initialized RX4 ∈ TBL := TBL_of 67 (by decide +kernel) rfl
theorem ti_X0 : Cond.initialized RX0 ∈ TBL := TBL_of 68 (by decide +kernel) rfl
theorem ti_X3 : Cond.initialized RX3 ∈ TBL := TBL_of 69 (by decide +kernel) rfl
theorem ti_X2 : Cond.initialized RX2 ∈ TBL := TBL_of 70 (by decide +kernel) rfl
theorem ti_X5 : Cond.initialized RX5 ∈ TBL := TBL_of 71 (by decide +kernel) rfl
theorem ti_J6 : Cond.initialized RJ6 ∈ TBL := TBL_of 72 (by decide +kernel) rfl
theorem ti_J10 : Cond.initialized RJ10 ∈ TBL := TBL_of 73 (by decide +kernel) rfl
theorem ti_X1 : Cond.initialized RX1 ∈ TBL := TBL_of 74 (by decide +kernel) rfl
theorem ti_J9 : Cond.initialized RJ9 ∈ TBL := TBL_of 75 (by decide +kernel) rfl
theorem ti_J0 : Cond.initialized RJ0 ∈ TBL := TBL_of 76 (by decide +kernel) rfl
theorem ti_J1 : Cond.initialized RJ1 ∈ TBL := TBL_of 77 (by decide +kernel) rfl
theorem ti_J3 : Cond.initialized RJ3 ∈ TBL := TBL_of 78 (by decide +kernel) rfl
theorem ti_J2 : Cond.initialized RJ2 ∈ TBL := TBL_of 79 (by decide +kernel) rfl
theorem tc_X4_init : Cond.code yX4_init cX4_init 2 none ∈ TBL := TBL_of 84 rfl rfl
theorem tc_X0_init : Cond.code yX0_init cX0_init 2 none ∈ TBL := TBL_of 92 rfl rfl
theorem tc_X3_init : Cond.code yX3_init cX3_init 1 none ∈ TBL := TBL_of 122 rfl rfl
theorem tc_X2_init : Cond.code yX2_init cX2_init 1 none ∈ TBL := TBL_of 150 rfl rfl
theorem tc_X4_word : Cond.code yX4_word cX4_word 5 (some .int) ∈ TBL := TBL_of 193 rfl rfl
theorem mv_X4_word : MV yX4_word cX4_word 5 (some .int) 3 := ⟨tc_X4_word, TBL_of 191 (by decide +kernel) rfl, TBL_of 192 (by decide +kernel) rfl, ti_X4, ⟨by decide +kernel, by decide +kernel, by decide +kernel⟩⟩
theorem tc_X4_isPage : Cond.code yX4_isPage cX4_isPage 1 (some .boolean) ∈ TBL := TBL_of 196 rfl rfl
theorem ms_X4_isPage : MS yX4_isPage cX4_isPage 1 (some .boolean) 1 := ⟨tc_X4_isPage, TBL_of 195 (by decide +kernel) rfl, ti_X4, ⟨by decide +kernel, by decide +kernel, by decide +kernel⟩⟩
theorem tc_X4_within : Cond.code yX4_within cX4_within 3 (some .boolean) ∈ TBL := TBL_of 199 rfl rfl
theorem ms_X4_within : MS yX4_within cX4_within 3 (some .boolean) 3 := ⟨tc_X4_within, TBL_of 198 (by decide +kernel) rfl, ti_X4, ⟨by decide +kernel, by decide +kernel, by decide +kernel⟩⟩
theorem tc_X4_isPlace : Cond.code yX4_isPlace cX4_isPlace 1 (some .boolean) ∈ TBL := TBL_of 202 rfl rfl
theorem ms_X4_isPlace : MS yX4_isPlace cX4_isPlace 1 (some .boolean) 1 := ⟨tc_X4_isPlace, TBL_of 201 (by decide +kernel) rfl, ti_X4, ⟨by decide +kernel, by decide +kernel, by decide +kernel⟩⟩
theorem tc_X4_isWord : Cond.code yX4_isWord cX4_isWord 1 (some .boolean) ∈ TBL := TBL_of 205 rfl rfl
theorem ms_X4_isWord : MS yX4_isWord cX4_isWord 1 (some .boolean) 1 := ⟨tc_X4_isWord, TBL_of 204 (by decide +kernel) rfl, ti_X4, ⟨by decide +kernel, by decide +kernel, by decide +kernel⟩⟩
theorem tc_X4_finding : Cond.code yX4_finding cX4_finding 2 (some .int) ∈ TBL := TBL_of 210 rfl rfl
theorem mv_X4_finding : MV yX4_finding cX4_finding 2 (some .int) 1 := ⟨tc_X4_finding, TBL_of 209 (by decide +kernel) rfl, TBL_of 0 (by decide +kernel) rfl, ti_X4, ⟨by decide +kernel, by decide +kernel, by decide +kernel⟩⟩
theorem tc_X0_wordAt : Cond.code yX0_wordAt cX0_wordAt 3 (some .int) ∈ TBL := TBL_of 214 rfl rfl
theorem mv_X0_wordAt : MV yX0_wordAt cX0_wordAt 3 (some .int) 2 := ⟨tc_X0_wordAt, TBL_of 212 (by decide +kernel) rfl, TBL_of 213 (by decide +kernel) rfl, ti_X0, ⟨by decide +kernel, by decide +kernel, by decide +kernel⟩⟩
theorem tc_X0_setWord : Cond.code yX0_setWord cX0_setWord 4 none ∈ TBL := TBL_of 218 rfl rfl
theorem mv_X0_setWord : MV yX0_setWord cX0_setWord 4 none 3 := ⟨tc_X0_setWord, TBL_of 216 (by decide +kernel) rfl, TBL_of 217 (by decide +kernel) rfl, ti_X0, ⟨by decide +kernel, by decide +kernel, by decide +kernel⟩⟩
theorem tc_X4_reads : Cond.code yX4_reads cX4_reads 3 (some .int) ∈ TBL := TBL_of 222 rfl rfl
theorem mv_X4_reads : MV yX4_reads cX4_reads 3 (some .int) 2 := ⟨tc_X4_reads, TBL_of 220 (by decide +kernel) rfl, TBL_of 221 (by decide +kernel) rfl, ti_X4, ⟨by decide +kernel, by decide +kernel, by decide +kernel⟩⟩
theorem tc_X4_page : Cond.code yX4_page cX4_page 3 (some .int) ∈ TBL := TBL_of 226 rfl rfl
theorem mv_X4_page : MV yX4_page cX4_page 3 (some .int) 2 := ⟨tc_X4_page, TBL_of 224 (by decide +kernel) rfl, TBL_of 225 (by decide +kernel) rfl, ti_X4, ⟨by decide +kernel, by decide +kernel, by decide +kernel⟩⟩
theorem tc_X0_saidBy : Cond.code yX0_saidBy cX0_saidBy 4 (some .int) ∈ TBL := TBL_of 230 rfl rfl
theorem mv_X0_saidBy : MV yX0_saidBy cX0_saidBy 4 (some .int) 1 := ⟨tc_X0_saidBy, TBL_of 228 (by decide +kernel) rfl, TBL_of 229 (by decide +kernel) rfl, ti_X0, ⟨by decide +kernel, by decide +kernel, by decide +kernel⟩⟩
theorem tc_X0_holesOf : Cond.code yX0_holesOf cX0_holesOf 2 (some .int) ∈ TBL := TBL_of 235 rfl rfl
theorem mv_X0_holesOf : MV yX0_holesOf cX0_holesOf 2 (some .int) 1 := ⟨tc_X0_holesOf, TBL_of 233 (by decide +kernel) rfl, TBL_of 234 (by decide +kernel) rfl, ti_X0, ⟨by decide +kernel, by decide +kernel, by decide +kernel⟩⟩
theorem tc_X0_placesWithWords : Cond.code yX0_placesWithWords cX0_placesWithWords 4 (some .int) ∈ TBL := TBL_of 239 rfl rfl
theorem mv_X0_placesWithWords : MV yX0_placesWithWords cX0_placesWithWords 4 (some .int) 1 := ⟨tc_X0_placesWithWords, TBL_of 237 (by decide +kernel) rfl, TBL_of 238 (by decide +kernel) rfl, ti_X0, ⟨by decide +kernel, by decide +kernel, by decide +kernel⟩⟩
theorem tc_J6_bitCount_0f7a4 : Cond.code yJ6_bitCount_0f7a4 cJ6_bitCount_0f7a4 1 (some .int) ∈ TBL := TBL_of 242 rfl rfl
theorem ms_J6_bitCount_0f7a4 : MS yJ6_bitCount_0f7a4 cJ6_bitCount_0f7a4 1 (some .int) 1 := ⟨tc_J6_bitCount_0f7a4, TBL_of 241 (by decide +kernel) rfl, ti_J6, ⟨by decide +kernel, by decide +kernel, by decide +kernel⟩⟩
theorem tc_X0_mothsOn : Cond.code yX0_mothsOn cX0_mothsOn 4 (some .int) ∈ TBL := TBL_of 249 rfl rfl
theorem mv_X0_mothsOn : MV yX0_mothsOn cX0_mothsOn 4 (some .int) 1 := ⟨tc_X0_mothsOn, TBL_of 247 (by decide +kernel) rfl, TBL_of 248 (by decide +kernel) rfl, ti_X0, ⟨by decide +kernel, by decide +kernel, by decide +kernel⟩⟩
theorem tc_X0_trait : Cond.code yX0_trait cX0_trait 3 (some .int) ∈ TBL := TBL_of 253 rfl rfl
theorem mv_X0_trait : MV yX0_trait cX0_trait 3 (some .int) 2 := ⟨tc_X0_trait, TBL_of 251 (by decide +kernel) rfl, TBL_of 252 (by decide +kernel) rfl, ti_X0, ⟨by decide +kernel, by decide +kernel, by decide +kernel⟩⟩
theorem tc_X4_copied : Cond.code yX4_copied cX4_copied 3 (some .int) ∈ TBL := TBL_of 258 rfl rfl
theorem mv_X4_copied : MV yX4_copied cX4_copied 3 (some .int) 2 := ⟨tc_X4_copied, TBL_of 256 (by decide +kernel) rfl, TBL_of 257 (by decide +kernel) rfl, ti_X4, ⟨by decide +kernel, by decide +kernel, by decide +kernel⟩⟩
theorem tc_X0_copyPage : Cond.code yX0_copyPage cX0_copyPage 4 (some .int) ∈ TBL := TBL_of 262 rfl rfl
theorem mv_X0_copyPage : MV yX0_copyPage cX0_copyPage 4 (some .int) 2 := ⟨tc_X0_copyPage, TBL_of 260 (by decide +kernel) rfl, TBL_of 261 (by decide +kernel) rfl, ti_X0, ⟨by decide +kernel, by decide +kernel, by decide +kernel⟩⟩
theorem tc_X0_unlikePlaces : Cond.code yX0_unlikePlaces cX0_unlikePlaces 5 (some .int) ∈ TBL := TBL_of 266 rfl rfl
theorem mv_X0_unlikePlaces : MV yX0_unlikePlaces cX0_unlikePlaces 5 (some .int) 2 := ⟨tc_X0_unlikePlaces, TBL_of 264 (by decide +kernel) rfl, TBL_of 265 (by decide +kernel) rfl, ti_X0, ⟨by decide +kernel, by decide +kernel, by decide +kernel⟩⟩
theorem tc_X4_moth : Cond.code yX4_moth cX4_moth 3 (some .int) ∈ TBL := TBL_of 273 rfl rfl
theorem mv_X4_moth : MV yX4_moth cX4_moth 3 (some .int) 2 := ⟨tc_X4_moth, TBL_of 271 (by decide +kernel) rfl, TBL_of 272 (by decide +kernel) rfl, ti_X4, ⟨by decide +kernel, by decide +kernel, by decide +kernel⟩⟩
theorem tc_X4_isKind : Cond.code yX4_isKind cX4_isKind 1 (some .boolean) ∈ TBL := TBL_of 276 rfl rfl
theorem ms_X4_isKind : MS yX4_isKind cX4_isKind 1 (some .boolean) 1 := ⟨tc_X4_isKind, TBL_of 275 (by decide +kernel) rfl, ti_X4, ⟨by decide +kernel, by decide +kernel, by decide +kernel⟩⟩
theorem tc_X0_isFull : Cond.code yX0_isFull cX0_isFull 1 (some .boolean) ∈ TBL := TBL_of 280 rfl rfl
theorem mv_X0_isFull : MV yX0_isFull cX0_isFull 1 (some .boolean) 0 := ⟨tc_X0_isFull, TBL_of 278 (by decide +kernel) rfl, TBL_of 279 (by decide +kernel) rfl, ti_X0, ⟨by decide +kernel, by decide +kernel, by decide +kernel⟩⟩
theorem tc_X0_addMoth : Cond.code yX0_addMoth cX0_addMoth 4 (some .int) ∈ TBL := TBL_of 285 rfl rfl
theorem mv_X0_addMoth : MV yX0_addMoth cX0_addMoth 4 (some .int) 2 := ⟨tc_X0_addMoth, TBL_of 283 (by decide +kernel) rfl, TBL_of 284 (by decide +kernel) rfl, ti_X0, ⟨by decide +kernel, by decide +kernel, by decide +kernel⟩⟩
theorem tc_X0_setTrait : Cond.code yX0_setTrait cX0_setTrait 4 none ∈ TBL := TBL_of 289 rfl rfl
theorem mv_X0_setTrait : MV yX0_setTrait cX0_setTrait 4 none 3 := ⟨tc_X0_setTrait, TBL_of 287 (by decide +kernel) rfl, TBL_of 288 (by decide +kernel) rfl, ti_X0, ⟨by decide +kernel, by decide +kernel, by decide +kernel⟩⟩
theorem tc_X4_of : Cond.code yX4_of cX4_of 3 (some .int) ∈ TBL := TBL_of 293 rfl rfl
theorem mv_X4_of : MV yX4_of cX4_of 3 (some .int) 2 := ⟨tc_X4_of, TBL_of 291 (by decide +kernel) rfl, TBL_of 292 (by decide +kernel) rfl, ti_X4, ⟨by decide +kernel, by decide +kernel, by decide +kernel⟩⟩
theorem tc_X4_isMoth : Cond.code yX4_isMoth cX4_isMoth 2 (some .boolean) ∈ TBL := TBL_of 297 rfl rfl
theorem mv_X4_isMoth : MV yX4_isMoth cX4_isMoth 2 (some .boolean) 1 := ⟨tc_X4_isMoth, TBL_of 296 (by decide +kernel) rfl, TBL_of 1 (by decide +kernel) rfl, ti_X4, ⟨by decide +kernel, by decide +kernel, by decide +kernel⟩⟩
theorem tc_X0_bittenPlace : Cond.code yX0_bittenPlace cX0_bittenPlace 2 (some .int) ∈ TBL := TBL_of 301 rfl rfl
theorem mv_X0_bittenPlace : MV yX0_bittenPlace cX0_bittenPlace 2 (some .int) 1 := ⟨tc_X0_bittenPlace, TBL_of 299 (by decide +kernel) rfl, TBL_of 300 (by decide +kernel) rfl, ti_X0, ⟨by decide +kernel, by decide +kernel, by decide +kernel⟩⟩
theorem tc_X1_bittenPlace : Cond.code yX1_bittenPlace cX1_bittenPlace 6 (some .int) ∈ TBL := TBL_of 304 rfl rfl
theorem ms_X1_bittenPlace : MS yX1_bittenPlace cX1_bittenPlace 6 (some .int) 5 := ⟨tc_X1_bittenPlace, TBL_of 303 (by decide +kernel) rfl, ti_X1, ⟨by decide +kernel, by decide +kernel, by decide +kernel⟩⟩
theorem tc_X1_firstWord : Cond.code yX1_firstWord cX1_firstWord 3 (some .int) ∈ TBL := TBL_of 307 rfl rfl
theorem ms_X1_firstWord : MS yX1_firstWord cX1_firstWord 3 (some .int) 2 := ⟨tc_X1_firstWord, TBL_of 306 (by decide +kernel) rfl, ti_X1, ⟨by decide +kernel, by decide +kernel, by decide +kernel⟩⟩
theorem tc_X1_lastWord : Cond.code yX1_lastWord cX1_lastWord 3 (some .int) ∈ TBL := TBL_of 310 rfl rfl
theorem ms_X1_lastWord : MS yX1_lastWord cX1_lastWord 3 (some .int) 2 := ⟨tc_X1_lastWord, TBL_of 309 (by decide +kernel) rfl, ti_X1, ⟨by decide +kernel, by decide +kernel, by decide +kernel⟩⟩
theorem tc_X1_firstOfParity : Cond.code yX1_firstOfParity cX1_firstOfParity 5 (some .int) ∈ TBL := TBL_of 313 rfl rfl
theorem ms_X1_firstOfParity : MS yX1_firstOfParity cX1_firstOfParity 5 (some .int) 3 := ⟨tc_X1_firstOfParity, TBL_of 312 (by decide +kernel) rfl, ti_X1, ⟨by decide +kernel, by decide +kernel, by decide +kernel⟩⟩
theorem tc_X1_firstLike : Cond.code yX1_firstLike cX1_firstLike 4 (some .int) ∈ TBL := TBL_of 316 rfl rfl
theorem ms_X1_firstLike : MS yX1_firstLike cX1_firstLike 4 (some .int) 3 := ⟨tc_X1_firstLike, TBL_of 315 (by decide +kernel) rfl, ti_X1, ⟨by decide +kernel, by decide +kernel, by decide +kernel⟩⟩
theorem tc_X4_change : Cond.code yX4_change cX4_change 5 (some .int) ∈ TBL := TBL_of 321 rfl rfl
theorem mv_X4_change : MV yX4_change cX4_change 5 (some .int) 3 := ⟨tc_X4_change, TBL_of 319 (by decide +kernel) rfl, TBL_of 320 (by decide +kernel) rfl, ti_X4, ⟨by decide +kernel, by decide +kernel, by decide +kernel⟩⟩
theorem tc_X4_leaves : Cond.code yX4_leaves cX4_leaves 5 (some .int) ∈ TBL := TBL_of 330 rfl rfl
theorem mv_X4_leaves : MV yX4_leaves cX4_leaves 5 (some .int) 3 := ⟨tc_X4_leaves, TBL_of 328 (by decide +kernel) rfl, TBL_of 329 (by decide +kernel) rfl, ti_X4, ⟨by decide +kernel, by decide +kernel, by decide +kernel⟩⟩
theorem tc_X1_leftOf : Cond.code yX1_leftOf cX1_leftOf 2 (some .int) ∈ TBL := TBL_of 333 rfl rfl
theorem ms_X1_leftOf : MS yX1_leftOf cX1_leftOf 2 (some .int) 2 := ⟨tc_X1_leftOf, TBL_of 332 (by decide +kernel) rfl, ti_X1, ⟨by decide +kernel, by decide +kernel, by decide +kernel⟩⟩
theorem tc_J9_max_7cf53 : Cond.code yJ9_max_7cf53 cJ9_max_7cf53 2 (some .int) ∈ TBL := TBL_of 336 rfl rfl
theorem ms_J9_max_7cf53 : MS yJ9_max_7cf53 cJ9_max_7cf53 2 (some .int) 2 := ⟨tc_J9_max_7cf53, TBL_of 335 (by decide +kernel) rfl, ti_J9, ⟨by decide +kernel, by decide +kernel, by decide +kernel⟩⟩
theorem tc_X1_learnedLeft : Cond.code yX1_learnedLeft cX1_learnedLeft 1 (some .int) ∈ TBL := TBL_of 339 rfl rfl
theorem ms_X1_learnedLeft : MS yX1_learnedLeft cX1_learnedLeft 1 (some .int) 1 := ⟨tc_X1_learnedLeft, TBL_of 338 (by decide +kernel) rfl, ti_X1, ⟨by decide +kernel, by decide +kernel, by decide +kernel⟩⟩
theorem tc_J9_min_7cf53 : Cond.code yJ9_min_7cf53 cJ9_min_7cf53 2 (some .int) ∈ TBL := TBL_of 342 rfl rfl
theorem ms_J9_min_7cf53 : MS yJ9_min_7cf53 cJ9_min_7cf53 2 (some .int) 2 := ⟨tc_J9_min_7cf53, TBL_of 341 (by decide +kernel) rfl, ti_J9, ⟨by decide +kernel, by decide +kernel, by decide +kernel⟩⟩
theorem tc_X1_gainBy : Cond.code yX1_gainBy cX1_gainBy 2 (some .int) ∈ TBL := TBL_of 345 rfl rfl
theorem ms_X1_gainBy : MS yX1_gainBy cX1_gainBy 2 (some .int) 2 := ⟨tc_X1_gainBy, TBL_of 344 (by decide +kernel) rfl, ti_X1, ⟨by decide +kernel, by decide +kernel, by decide +kernel⟩⟩
theorem tc_X4_go : Cond.code yX4_go cX4_go 2 (some .int) ∈ TBL := TBL_of 349 rfl rfl
theorem mv_X4_go : MV yX4_go cX4_go 2 (some .int) 1 := ⟨tc_X4_go, TBL_of 347 (by decide +kernel) rfl, TBL_of 348 (by decide +kernel) rfl, ti_X4, ⟨by decide +kernel, by decide +kernel, by decide +kernel⟩⟩
theorem tc_X0_passNights : Cond.code yX0_passNights cX0_passNights 5 none ∈ TBL := TBL_of 355 rfl rfl
theorem mv_X0_passNights : MV yX0_passNights cX0_passNights 5 none 2 := ⟨tc_X0_passNights, TBL_of 353 (by decide +kernel) rfl, TBL_of 354 (by decide +kernel) rfl, ti_X0, ⟨by decide +kernel, by decide +kernel, by decide +kernel⟩⟩
theorem tc_X0_bite : Cond.code yX0_bite cX0_bite 7 none ∈ TBL := TBL_of 359 rfl rfl
theorem mv_X0_bite : MV yX0_bite cX0_bite 7 none 1 := ⟨tc_X0_bite, TBL_of 357 (by decide +kernel) rfl, TBL_of 358 (by decide +kernel) rfl, ti_X0, ⟨by decide +kernel, by decide +kernel, by decide +kernel⟩⟩
theorem tc_X0_allHoles : Cond.code yX0_allHoles cX0_allHoles 3 (some .int) ∈ TBL := TBL_of 369 rfl rfl
theorem mv_X0_allHoles : MV yX0_allHoles cX0_allHoles 3 (some .int) 0 := ⟨tc_X0_allHoles, TBL_of 367 (by decide +kernel) rfl, TBL_of 368 (by decide +kernel) rfl, ti_X0, ⟨by decide +kernel, by decide +kernel, by decide +kernel⟩⟩
theorem tc_X4_now : Cond.code yX4_now cX4_now 2 (some .int) ∈ TBL := TBL_of 374 rfl rfl
theorem mv_X4_now : MV yX4_now cX4_now 2 (some .int) 1 := ⟨tc_X4_now, TBL_of 372 (by decide +kernel) rfl, TBL_of 373 (by decide +kernel) rfl, ti_X4, ⟨by decide +kernel, by decide +kernel, by decide +kernel⟩⟩
theorem tc_X0_allSaid : Cond.code yX0_allSaid cX0_allSaid 3 (some .int) ∈ TBL := TBL_of 378 rfl rfl
theorem mv_X0_allSaid : MV yX0_allSaid cX0_allSaid 3 (some .int) 0 := ⟨tc_X0_allSaid, TBL_of 376 (by decide +kernel) rfl, TBL_of 377 (by decide +kernel) rfl, ti_X0, ⟨by decide +kernel, by decide +kernel, by decide +kernel⟩⟩
theorem tc_X0_allFed : Cond.code yX0_allFed cX0_allFed 3 (some .int) ∈ TBL := TBL_of 383 rfl rfl
theorem mv_X0_allFed : MV yX0_allFed cX0_allFed 3 (some .int) 0 := ⟨tc_X0_allFed, TBL_of 381 (by decide +kernel) rfl, TBL_of 382 (by decide +kernel) rfl, ti_X0, ⟨by decide +kernel, by decide +kernel, by decide +kernel⟩⟩
theorem tc_X0_idleMoths : Cond.code yX0_idleMoths cX0_idleMoths 3 (some .int) ∈ TBL := TBL_of 387 rfl rfl
theorem mv_X0_idleMoths : MV yX0_idleMoths cX0_idleMoths 3 (some .int) 0 := ⟨tc_X0_idleMoths, TBL_of 385 (by decide +kernel) rfl, TBL_of 386 (by decide +kernel) rfl, ti_X0, ⟨by decide +kernel, by decide +kernel, by decide +kernel⟩⟩
theorem tc_X0_barePages : Cond.code yX0_barePages cX0_barePages 3 (some .int) ∈ TBL := TBL_of 391 rfl rfl
theorem mv_X0_barePages : MV yX0_barePages cX0_barePages 3 (some .int) 0 := ⟨tc_X0_barePages, TBL_of 389 (by decide +kernel) rfl, TBL_of 390 (by decide +kernel) rfl, ti_X0, ⟨by decide +kernel, by decide +kernel, by decide +kernel⟩⟩
theorem tc_X0_isBare : Cond.code yX0_isBare cX0_isBare 2 (some .boolean) ∈ TBL := TBL_of 395 rfl rfl
theorem mv_X0_isBare : MV yX0_isBare cX0_isBare 2 (some .boolean) 1 := ⟨tc_X0_isBare, TBL_of 393 (by decide +kernel) rfl, TBL_of 394 (by decide +kernel) rfl, ti_X0, ⟨by decide +kernel, by decide +kernel, by decide +kernel⟩⟩
theorem tc_X4_ahead : Cond.code yX4_ahead cX4_ahead 4 (some .int) ∈ TBL := TBL_of 399 rfl rfl
theorem mv_X4_ahead : MV yX4_ahead cX4_ahead 4 (some .int) 3 := ⟨tc_X4_ahead, TBL_of 397 (by decide +kernel) rfl, TBL_of 398 (by decide +kernel) rfl, ti_X4, ⟨by decide +kernel, by decide +kernel, by decide +kernel⟩⟩
set_option maxRecDepth 100000 in
theorem tc_X4_lookAhead : Cond.code yX4_lookAhead cX4_lookAhead 2 none ∈ TBL := TBL_of 403 rfl rfl
theorem mv_X4_lookAhead : MV yX4_lookAhead cX4_lookAhead 2 none 1 := ⟨tc_X4_lookAhead, TBL_of 402 (by decide +kernel) rfl, TBL_of 2 (by decide +kernel) rfl, ti_X4, ⟨by decide +kernel, by decide +kernel, by decide +kernel⟩⟩
set_option maxRecDepth 100000 in
theorem tc_X0_become : Cond.code yX0_become cX0_become 2 none ∈ TBL := TBL_of 407 rfl rfl
theorem mv_X0_become : MV yX0_become cX0_become 2 none 1 := ⟨tc_X0_become, TBL_of 405 (by decide +kernel) rfl, TBL_of 406 (by decide +kernel) rfl, ti_X0, ⟨by decide +kernel, by decide +kernel, by decide +kernel⟩⟩
set_option maxRecDepth 100000 in
theorem tc_X4_says : Cond.code yX4_says cX4_says 3 (some .int) ∈ TBL := TBL_of 411 rfl rfl
theorem mv_X4_says : MV yX4_says cX4_says 3 (some .int) 2 := ⟨tc_X4_says, TBL_of 409 (by decide +kernel) rfl, TBL_of 410 (by decide +kernel) rfl, ti_X4, ⟨by decide +kernel, by decide +kernel, by decide +kernel⟩⟩
set_option maxRecDepth 100000 in
theorem tc_X4_fed : Cond.code yX4_fed cX4_fed 3 (some .int) ∈ TBL := TBL_of 415 rfl rfl
theorem mv_X4_fed : MV yX4_fed cX4_fed 3 (some .int) 2 := ⟨tc_X4_fed, TBL_of 413 (by decide +kernel) rfl, TBL_of 414 (by decide +kernel) rfl, ti_X4, ⟨by decide +kernel, by decide +kernel, by decide +kernel⟩⟩
set_option maxRecDepth 100000 in
theorem tc_X4_bare : Cond.code yX4_bare cX4_bare 3 (some .int) ∈ TBL := TBL_of 419 rfl rfl
theorem mv_X4_bare : MV yX4_bare cX4_bare 3 (some .int) 1 := ⟨tc_X4_bare, TBL_of 417 (by decide +kernel) rfl, TBL_of 418 (by decide +kernel) rfl, ti_X4, ⟨by decide +kernel, by decide +kernel, by decide +kernel⟩⟩
set_option maxRecDepth 100000 in
theorem tc_X4_when : Cond.code yX4_when cX4_when 4 (some .int) ∈ TBL := TBL_of 425 rfl rfl
theorem mv_X4_when : MV yX4_when cX4_when 4 (some .int) 2 := ⟨tc_X4_when, TBL_of 423 (by decide +kernel) rfl, TBL_of 424 (by decide +kernel) rfl, ti_X4, ⟨by decide +kernel, by decide +kernel, by decide +kernel⟩⟩
set_option maxRecDepth 100000 in
theorem tc_X4_settles : Cond.code yX4_settles cX4_settles 2 (some .int) ∈ TBL := TBL_of 429 rfl rfl
theorem mv_X4_settles : MV yX4_settles cX4_settles 2 (some .int) 0 := ⟨tc_X4_settles, TBL_of 427 (by decide +kernel) rfl, TBL_of 428 (by decide +kernel) rfl, ti_X4, ⟨by decide +kernel, by decide +kernel, by decide +kernel⟩⟩
set_option maxRecDepth 100000 in
theorem tc_X0_hasPagesOf : Cond.code yX0_hasPagesOf cX0_hasPagesOf 3 (some .boolean) ∈ TBL := TBL_of 433 rfl rfl
theorem mv_X0_hasPagesOf : MV yX0_hasPagesOf cX0_hasPagesOf 3 (some .boolean) 1 := ⟨tc_X0_hasPagesOf, TBL_of 431 (by decide +kernel) rfl, TBL_of 432 (by decide +kernel) rfl, ti_X0, ⟨by decide +kernel, by decide +kernel, by decide +kernel⟩⟩
set_option maxRecDepth 100000 in
theorem tc_X0_hasPageOf : Cond.code yX0_hasPageOf cX0_hasPageOf 4 (some .boolean) ∈ TBL := TBL_of 437 rfl rfl
theorem mv_X0_hasPageOf : MV yX0_hasPageOf cX0_hasPageOf 4 (some .boolean) 2 := ⟨tc_X0_hasPageOf, TBL_of 435 (by decide +kernel) rfl, TBL_of 436 (by decide +kernel) rfl, ti_X0, ⟨by decide +kernel, by decide +kernel, by decide +kernel⟩⟩
set_option maxRecDepth 100000 in
theorem tc_X4_alike : Cond.code yX4_alike cX4_alike 4 (some .int) ∈ TBL := TBL_of 441 rfl rfl
theorem mv_X4_alike : MV yX4_alike cX4_alike 4 (some .int) 2 := ⟨tc_X4_alike, TBL_of 439 (by decide +kernel) rfl, TBL_of 440 (by decide +kernel) rfl, ti_X4, ⟨by decide +kernel, by decide +kernel, by decide +kernel⟩⟩
set_option maxRecDepth 100000 in
theorem tc_X4_put : Cond.code yX4_put cX4_put 4 (some .int) ∈ TBL := TBL_of 446 rfl rfl
theorem mv_X4_put : MV yX4_put cX4_put 4 (some .int) 3 := ⟨tc_X4_put, TBL_of 444 (by decide +kernel) rfl, TBL_of 445 (by decide +kernel) rfl, ti_X4, ⟨by decide +kernel, by decide +kernel, by decide +kernel⟩⟩
set_option maxRecDepth 100000 in
theorem tc_X4_bestTrait : Cond.code yX4_bestTrait cX4_bestTrait 9 (some .int) ∈ TBL := TBL_of 450 rfl rfl
theorem mv_X4_bestTrait : MV yX4_bestTrait cX4_bestTrait 9 (some .int) 4 := ⟨tc_X4_bestTrait, TBL_of 449 (by decide +kernel) rfl, TBL_of 3 (by decide +kernel) rfl, ti_X4, ⟨by decide +kernel, by decide +kernel, by decide +kernel⟩⟩
set_option maxRecDepth 100000 in
theorem tc_X4_tasteFor : Cond.code yX4_tasteFor cX4_tasteFor 4 (some .int) ∈ TBL := TBL_of 454 rfl rfl
theorem mv_X4_tasteFor : MV yX4_tasteFor cX4_tasteFor 4 (some .int) 3 := ⟨tc_X4_tasteFor, TBL_of 452 (by decide +kernel) rfl, TBL_of 453 (by decide +kernel) rfl, ti_X4, ⟨by decide +kernel, by decide +kernel, by decide +kernel⟩⟩
set_option maxRecDepth 100000 in
theorem tc_X4_kindFor : Cond.code yX4_kindFor cX4_kindFor 4 (some .int) ∈ TBL := TBL_of 458 rfl rfl
theorem mv_X4_kindFor : MV yX4_kindFor cX4_kindFor 4 (some .int) 3 := ⟨tc_X4_kindFor, TBL_of 456 (by decide +kernel) rfl, TBL_of 457 (by decide +kernel) rfl, ti_X4, ⟨by decide +kernel, by decide +kernel, by decide +kernel⟩⟩
set_option maxRecDepth 100000 in
theorem tc_X4_swapFor : Cond.code yX4_swapFor cX4_swapFor 8 (some .int) ∈ TBL := TBL_of 462 rfl rfl
theorem mv_X4_swapFor : MV yX4_swapFor cX4_swapFor 8 (some .int) 2 := ⟨tc_X4_swapFor, TBL_of 460 (by decide +kernel) rfl, TBL_of 461 (by decide +kernel) rfl, ti_X4, ⟨by decide +kernel, by decide +kernel, by decide +kernel⟩⟩
set_option maxRecDepth 100000 in
theorem tc_X0_swapPages : Cond.code yX0_swapPages cX0_swapPages 4 none ∈ TBL := TBL_of 466 rfl rfl
theorem mv_X0_swapPages : MV yX0_swapPages cX0_swapPages 4 none 2 := ⟨tc_X0_swapPages, TBL_of 464 (by decide +kernel) rfl, TBL_of 465 (by decide +kernel) rfl, ti_X0, ⟨by decide +kernel, by decide +kernel, by decide +kernel⟩⟩
set_option maxRecDepth 100000 in
theorem tc_X4_out : Cond.code yX4_out cX4_out 7 (some .int) ∈ TBL := TBL_of 470 rfl rfl
theorem mv_X4_out : MV yX4_out cX4_out 7 (some .int) 2 := ⟨tc_X4_out, TBL_of 468 (by decide +kernel) rfl, TBL_of 469 (by decide +kernel) rfl, ti_X4, ⟨by decide +kernel, by decide +kernel, by decide +kernel⟩⟩
set_option maxRecDepth 100000 in
theorem tc_X4_staysWithout : Cond.code yX4_staysWithout cX4_staysWithout 4 (some .boolean) ∈ TBL := TBL_of 475 rfl rfl
theorem mv_X4_staysWithout : MV yX4_staysWithout cX4_staysWithout 4 (some .boolean) 3 := ⟨tc_X4_staysWithout, TBL_of 474 (by decide +kernel) rfl, TBL_of 4 (by decide +kernel) rfl, ti_X4, ⟨by decide +kernel, by decide +kernel, by decide +kernel⟩⟩
set_option maxRecDepth 100000 in
theorem tc_X4_fits : Cond.code yX4_fits cX4_fits 7 (some .int) ∈ TBL := TBL_of 480 rfl rfl
theorem mv_X4_fits : MV yX4_fits cX4_fits 7 (some .int) 4 := ⟨tc_X4_fits, TBL_of 478 (by decide +kernel) rfl, TBL_of 479 (by decide +kernel) rfl, ti_X4, ⟨by decide +kernel, by decide +kernel, by decide +kernel⟩⟩
set_option maxRecDepth 100000 in
theorem tc_X4_isSheet : Cond.code yX4_isSheet cX4_isSheet 1 (some .boolean) ∈ TBL := TBL_of 483 rfl rfl
theorem ms_X4_isSheet : MS yX4_isSheet cX4_isSheet 1 (some .boolean) 1 := ⟨tc_X4_isSheet, TBL_of 482 (by decide +kernel) rfl, ti_X4, ⟨by decide +kernel, by decide +kernel, by decide +kernel⟩⟩
set_option maxRecDepth 100000 in
theorem tc_X2_isMissing : Cond.code yX2_isMissing cX2_isMissing 1 (some .boolean) ∈ TBL := TBL_of 487 rfl rfl
theorem mv_X2_isMissing : MV yX2_isMissing cX2_isMissing 1 (some .boolean) 0 := ⟨tc_X2_isMissing, TBL_of 485 (by decide +kernel) rfl, TBL_of 486 (by decide +kernel) rfl, ti_X2, ⟨by decide +kernel, by decide +kernel, by decide +kernel⟩⟩
set_option maxRecDepth 100000 in
theorem tc_X4_isPageAsTold : Cond.code yX4_isPageAsTold cX4_isPageAsTold 5 (some .boolean) ∈ TBL := TBL_of 492 rfl rfl
theorem mv_X4_isPageAsTold : MV yX4_isPageAsTold cX4_isPageAsTold 5 (some .boolean) 2 := ⟨tc_X4_isPageAsTold, TBL_of 491 (by decide +kernel) rfl, TBL_of 5 (by decide +kernel) rfl, ti_X4, ⟨by decide +kernel, by decide +kernel, by decide +kernel⟩⟩
set_option maxRecDepth 100000 in
theorem tc_X4_kinds : Cond.code yX4_kinds cX4_kinds 5 (some .int) ∈ TBL := TBL_of 497 rfl rfl
theorem mv_X4_kinds : MV yX4_kinds cX4_kinds 5 (some .int) 2 := ⟨tc_X4_kinds, TBL_of 495 (by decide +kernel) rfl, TBL_of 496 (by decide +kernel) rfl, ti_X4, ⟨by decide +kernel, by decide +kernel, by decide +kernel⟩⟩
set_option maxRecDepth 100000 in
theorem tc_X4_isFedAsTold : Cond.code yX4_isFedAsTold cX4_isFedAsTold 4 (some .boolean) ∈ TBL := TBL_of 501 rfl rfl
theorem mv_X4_isFedAsTold : MV yX4_isFedAsTold cX4_isFedAsTold 4 (some .boolean) 2 := ⟨tc_X4_isFedAsTold, TBL_of 500 (by decide +kernel) rfl, TBL_of 6 (by decide +kernel) rfl, ti_X4, ⟨by decide +kernel, by decide +kernel, by decide +kernel⟩⟩
set_option maxRecDepth 100000 in
theorem tc_X4_lights : Cond.code yX4_lights cX4_lights 3 (some .int) ∈ TBL := TBL_of 505 rfl rfl
theorem mv_X4_lights : MV yX4_lights cX4_lights 3 (some .int) 1 := ⟨tc_X4_lights, TBL_of 503 (by decide +kernel) rfl, TBL_of 504 (by decide +kernel) rfl, ti_X4, ⟨by decide +kernel, by decide +kernel, by decide +kernel⟩⟩
set_option maxRecDepth 100000 in
theorem tc_X0_leaveLightOn : Cond.code yX0_leaveLightOn cX0_leaveLightOn 3 none ∈ TBL := TBL_of 509 rfl rfl
theorem mv_X0_leaveLightOn : MV yX0_leaveLightOn cX0_leaveLightOn 3 none 0 := ⟨tc_X0_leaveLightOn, TBL_of 507 (by decide +kernel) rfl, TBL_of 508 (by decide +kernel) rfl, ti_X0, ⟨by decide +kernel, by decide +kernel, by decide +kernel⟩⟩
set_option maxRecDepth 100000 in
theorem tc_X0_draw : Cond.code yX0_draw cX0_draw 1 (some .int) ∈ TBL := TBL_of 513 rfl rfl
theorem mv_X0_draw : MV yX0_draw cX0_draw 1 (some .int) 0 := ⟨tc_X0_draw, TBL_of 511 (by decide +kernel) rfl, TBL_of 512 (by decide +kernel) rfl, ti_X0, ⟨by decide +kernel, by decide +kernel, by decide +kernel⟩⟩
set_option maxRecDepth 100000 in
theorem tc_X4_odds : Cond.code yX4_odds cX4_odds 5 (some .long) ∈ TBL := TBL_of 518 rfl rfl
theorem mv_X4_odds : MV yX4_odds cX4_odds 5 (some .long) 2 := ⟨tc_X4_odds, TBL_of 516 (by decide +kernel) rfl, TBL_of 517 (by decide +kernel) rfl, ti_X4, ⟨by decide +kernel, by decide +kernel, by decide +kernel⟩⟩
set_option maxRecDepth 100000 in
theorem tc_X4_commonDivisor : Cond.code yX4_commonDivisor cX4_commonDivisor 3 (some .int) ∈ TBL := TBL_of 521 rfl rfl
theorem ms_X4_commonDivisor : MS yX4_commonDivisor cX4_commonDivisor 3 (some .int) 2 := ⟨tc_X4_commonDivisor, TBL_of 520 (by decide +kernel) rfl, ti_X4, ⟨by decide +kernel, by decide +kernel, by decide +kernel⟩⟩
set_option maxRecDepth 100000 in
theorem tc_X4_power : Cond.code yX4_power cX4_power 6 (some .long) ∈ TBL := TBL_of 524 rfl rfl
theorem ms_X4_power : MS yX4_power cX4_power 6 (some .long) 2 := ⟨tc_X4_power, TBL_of 523 (by decide +kernel) rfl, ti_X4, ⟨by decide +kernel, by decide +kernel, by decide +kernel⟩⟩
set_option maxRecDepth 100000 in
theorem tc_X4_seed : Cond.code yX4_seed cX4_seed 3 (some .int) ∈ TBL := TBL_of 528 rfl rfl
theorem mv_X4_seed : MV yX4_seed cX4_seed 3 (some .int) 1 := ⟨tc_X4_seed, TBL_of 526 (by decide +kernel) rfl, TBL_of 527 (by decide +kernel) rfl, ti_X4, ⟨by decide +kernel, by decide +kernel, by decide +kernel⟩⟩
set_option maxRecDepth 100000 in
theorem tc_X4_feed : Cond.code yX4_feed cX4_feed 4 (some .int) ∈ TBL := TBL_of 532 rfl rfl
theorem mv_X4_feed : MV yX4_feed cX4_feed 4 (some .int) 2 := ⟨tc_X4_feed, TBL_of 530 (by decide +kernel) rfl, TBL_of 531 (by decide +kernel) rfl, ti_X4, ⟨by decide +kernel, by decide +kernel, by decide +kernel⟩⟩
set_option maxRecDepth 100000 in
theorem tc_X3_append : Cond.code yX3_append cX3_append 2 none ∈ TBL := TBL_of 536 rfl rfl
theorem mv_X3_append : MV yX3_append cX3_append 2 none 1 := ⟨tc_X3_append, TBL_of 534 (by decide +kernel) rfl, TBL_of 535 (by decide +kernel) rfl, ti_X3, ⟨by decide +kernel, by decide +kernel, by decide +kernel⟩⟩
set_option maxRecDepth 100000 in
theorem tc_X4_wipe : Cond.code yX4_wipe cX4_wipe 1 (some .int) ∈ TBL := TBL_of 540 rfl rfl
theorem mv_X4_wipe : MV yX4_wipe cX4_wipe 1 (some .int) 0 := ⟨tc_X4_wipe, TBL_of 538 (by decide +kernel) rfl, TBL_of 539 (by decide +kernel) rfl, ti_X4, ⟨by decide +kernel, by decide +kernel, by decide +kernel⟩⟩
set_option maxRecDepth 100000 in
theorem tc_X3_empty : Cond.code yX3_empty cX3_empty 2 (some .int) ∈ TBL := TBL_of 544 rfl rfl
theorem mv_X3_empty : MV yX3_empty cX3_empty 2 (some .int) 0 := ⟨tc_X3_empty, TBL_of 542 (by decide +kernel) rfl, TBL_of 543 (by decide +kernel) rfl, ti_X3, ⟨by decide +kernel, by decide +kernel, by decide +kernel⟩⟩
set_option maxRecDepth 100000 in
theorem tc_X4_text : Cond.code yX4_text cX4_text 2 (some .int) ∈ TBL := TBL_of 548 rfl rfl
theorem mv_X4_text : MV yX4_text cX4_text 2 (some .int) 0 := ⟨tc_X4_text, TBL_of 546 (by decide +kernel) rfl, TBL_of 547 (by decide +kernel) rfl, ti_X4, ⟨by decide +kernel, by decide +kernel, by decide +kernel⟩⟩
set_option maxRecDepth 100000 in
theorem tc_X3_readInto : Cond.code yX3_readInto cX3_readInto 3 (some .int) ∈ TBL := TBL_of 552 rfl rfl
theorem mv_X3_readInto : MV yX3_readInto cX3_readInto 3 (some .int) 1 := ⟨tc_X3_readInto, TBL_of 550 (by decide +kernel) rfl, TBL_of 551 (by decide +kernel) rfl, ti_X3, ⟨by decide +kernel, by decide +kernel, by decide +kernel⟩⟩
set_option maxRecDepth 100000 in
theorem tc_X3_step : Cond.code yX3_step cX3_step 1 none ∈ TBL := TBL_of 556 rfl rfl
theorem mv_X3_step : MV yX3_step cX3_step 1 none 0 := ⟨tc_X3_step, TBL_of 555 (by decide +kernel) rfl, TBL_of 7 (by decide +kernel) rfl, ti_X3, ⟨by decide +kernel, by decide +kernel, by decide +kernel⟩⟩
set_option maxRecDepth 100000 in
theorem tc_X3_readItem : Cond.code yX3_readItem cX3_readItem 3 (some .boolean) ∈ TBL := TBL_of 560 rfl rfl
theorem mv_X3_readItem : MV yX3_readItem cX3_readItem 3 (some .boolean) 1 := ⟨tc_X3_readItem, TBL_of 559 (by decide +kernel) rfl, TBL_of 8 (by decide +kernel) rfl, ti_X3, ⟨by decide +kernel, by decide +kernel, by decide +kernel⟩⟩
set_option maxRecDepth 100000 in
theorem tc_X3_isName : Cond.code yX3_isName cX3_isName 3 (some .boolean) ∈ TBL := TBL_of 565 rfl rfl
theorem mv_X3_isName : MV yX3_isName cX3_isName 3 (some .boolean) 1 := ⟨tc_X3_isName, TBL_of 564 (by decide +kernel) rfl, TBL_of 9 (by decide +kernel) rfl, ti_X3, ⟨by decide +kernel, by decide +kernel, by decide +kernel⟩⟩
set_option maxRecDepth 100000 in
theorem tc_J0_length_8abf5 : Cond.code yJ0_length_8abf5 cJ0_length_8abf5 1 (some .int) ∈ TBL := TBL_of 569 rfl rfl
theorem mv_J0_length_8abf5 : MV yJ0_length_8abf5 cJ0_length_8abf5 1 (some .int) 0 := ⟨tc_J0_length_8abf5, TBL_of 567 (by decide +kernel) rfl, TBL_of 568 (by decide +kernel) rfl, ti_J0, ⟨by decide +kernel, by decide +kernel, by decide +kernel⟩⟩
set_option maxRecDepth 100000 in
theorem tc_J0_coder_7d493 : Cond.code yJ0_coder_7d493 cJ0_coder_7d493 1 (some .byte) ∈ TBL := TBL_of 573 rfl rfl
theorem mv_J0_coder_7d493 : MV yJ0_coder_7d493 cJ0_coder_7d493 1 (some .byte) 0 := ⟨tc_J0_coder_7d493, TBL_of 571 (by decide +kernel) rfl, TBL_of 572 (by decide +kernel) rfl, ti_J0, ⟨by decide +kernel, by decide +kernel, by decide +kernel⟩⟩
set_option maxRecDepth 100000 in
theorem tc_J0_charAt_5068e : Cond.code yJ0_charAt_5068e cJ0_charAt_5068e 2 (some .char) ∈ TBL := TBL_of 579 rfl rfl
theorem mv_J0_charAt_5068e : MV yJ0_charAt_5068e cJ0_charAt_5068e 2 (some .char) 1 := ⟨tc_J0_charAt_5068e, TBL_of 577 (by decide +kernel) rfl, TBL_of 578 (by decide +kernel) rfl, ti_J0, ⟨by decide +kernel, by decide +kernel, by decide +kernel⟩⟩
set_option maxRecDepth 100000 in
theorem tc_J0_isLatin1_aae02 : Cond.code yJ0_isLatin1_aae02 cJ0_isLatin1_aae02 1 (some .boolean) ∈ TBL := TBL_of 583 rfl rfl
theorem mv_J0_isLatin1_aae02 : MV yJ0_isLatin1_aae02 cJ0_isLatin1_aae02 1 (some .boolean) 0 := ⟨tc_J0_isLatin1_aae02, TBL_of 581 (by decide +kernel) rfl, TBL_of 582 (by decide +kernel) rfl, ti_J0, ⟨by decide +kernel, by decide +kernel, by decide +kernel⟩⟩
set_option maxRecDepth 100000 in
theorem tc_J1_charAt_3b067 : Cond.code yJ1_charAt_3b067 cJ1_charAt_3b067 2 (some .char) ∈ TBL := TBL_of 586 rfl rfl
theorem ms_J1_charAt_3b067 : MS yJ1_charAt_3b067 cJ1_charAt_3b067 2 (some .char) 2 := ⟨tc_J1_charAt_3b067, TBL_of 585 (by decide +kernel) rfl, ti_J1, ⟨by decide +kernel, by decide +kernel, by decide +kernel⟩⟩
set_option maxRecDepth 100000 in
theorem tc_J0_checkIndex_df160 : Cond.code yJ0_checkIndex_df160 cJ0_checkIndex_df160 2 none ∈ TBL := TBL_of 589 rfl rfl
theorem ms_J0_checkIndex_df160 : MS yJ0_checkIndex_df160 cJ0_checkIndex_df160 2 none 2 := ⟨tc_J0_checkIndex_df160, TBL_of 588 (by decide +kernel) rfl, ti_J0, ⟨by decide +kernel, by decide +kernel, by decide +kernel⟩⟩
set_option maxRecDepth 100000 in
theorem tc_J3_checkIndex_8e157 : Cond.code yJ3_checkIndex_8e157 cJ3_checkIndex_8e157 3 (some .int) ∈ TBL := TBL_of 594 rfl rfl
theorem ms_J3_checkIndex_8e157 : MS yJ3_checkIndex_8e157 cJ3_checkIndex_8e157 3 (some .int) 3 := ⟨tc_J3_checkIndex_8e157, TBL_of 593 (by decide +kernel) rfl, ti_J3, ⟨by decide +kernel, by decide +kernel, by decide +kernel⟩⟩
set_option maxRecDepth 100000 in
theorem tc_J2_charAt_3b067 : Cond.code yJ2_charAt_3b067 cJ2_charAt_3b067 2 (some .char) ∈ TBL := TBL_of 597 rfl rfl
theorem ms_J2_charAt_3b067 : MS yJ2_charAt_3b067 cJ2_charAt_3b067 2 (some .char) 2 := ⟨tc_J2_charAt_3b067, TBL_of 596 (by decide +kernel) rfl, ti_J2, ⟨by decide +kernel, by decide +kernel, by decide +kernel⟩⟩
set_option maxRecDepth 100000 in
theorem tc_J2_checkIndex_2214a : Cond.code yJ2_checkIndex_2214a cJ2_checkIndex_2214a 2 none ∈ TBL := TBL_of 600 rfl rfl
theorem ms_J2_checkIndex_2214a : MS yJ2_checkIndex_2214a cJ2_checkIndex_2214a 2 none 2 := ⟨tc_J2_checkIndex_2214a, TBL_of 599 (by decide +kernel) rfl, ti_J2, ⟨by decide +kernel, by decide +kernel, by decide +kernel⟩⟩
set_option maxRecDepth 100000 in
theorem tc_J2_length_9d52b : Cond.code yJ2_length_9d52b cJ2_length_9d52b 1 (some .int) ∈ TBL := TBL_of 603 rfl rfl
theorem ms_J2_length_9d52b : MS yJ2_length_9d52b cJ2_length_9d52b 1 (some .int) 1 := ⟨tc_J2_length_9d52b, TBL_of 602 (by decide +kernel) rfl, ti_J2, ⟨by decide +kernel, by decide +kernel, by decide +kernel⟩⟩
set_option maxRecDepth 100000 in
theorem tc_J2_getChar_3b067 : Cond.code yJ2_getChar_3b067 cJ2_getChar_3b067 2 (some .char) ∈ TBL := TBL_of 607 rfl rfl
theorem ms_J2_getChar_3b067 : MS yJ2_getChar_3b067 cJ2_getChar_3b067 2 (some .char) 2 := ⟨tc_J2_getChar_3b067, TBL_of 606 (by decide +kernel) rfl, ti_J2, ⟨by decide +kernel, by decide +kernel, by decide +kernel⟩⟩
set_option maxRecDepth 100000 in
theorem tc_X3_readPage : Cond.code yX3_readPage cX3_readPage 5 (some .boolean) ∈ TBL := TBL_of 617 rfl rfl
theorem mv_X3_readPage : MV yX3_readPage cX3_readPage 5 (some .boolean) 1 := ⟨tc_X3_readPage, TBL_of 616 (by decide +kernel) rfl, TBL_of 10 (by decide +kernel) rfl, ti_X3, ⟨by decide +kernel, by decide +kernel, by decide +kernel⟩⟩
set_option maxRecDepth 100000 in
theorem tc_X3_takeBarePage : Cond.code yX3_takeBarePage cX3_takeBarePage 3 (some .int) ∈ TBL := TBL_of 621 rfl rfl
theorem mv_X3_takeBarePage : MV yX3_takeBarePage cX3_takeBarePage 3 (some .int) 1 := ⟨tc_X3_takeBarePage, TBL_of 620 (by decide +kernel) rfl, TBL_of 11 (by decide +kernel) rfl, ti_X3, ⟨by decide +kernel, by decide +kernel, by decide +kernel⟩⟩
set_option maxRecDepth 100000 in
theorem tc_X3_takeNumber : Cond.code yX3_takeNumber cX3_takeNumber 4 (some .int) ∈ TBL := TBL_of 625 rfl rfl
theorem mv_X3_takeNumber : MV yX3_takeNumber cX3_takeNumber 4 (some .int) 2 := ⟨tc_X3_takeNumber, TBL_of 624 (by decide +kernel) rfl, TBL_of 12 (by decide +kernel) rfl, ti_X3, ⟨by decide +kernel, by decide +kernel, by decide +kernel⟩⟩
set_option maxRecDepth 100000 in
theorem tc_X0_setHoles : Cond.code yX0_setHoles cX0_setHoles 3 none ∈ TBL := TBL_of 630 rfl rfl
theorem mv_X0_setHoles : MV yX0_setHoles cX0_setHoles 3 none 1 := ⟨tc_X0_setHoles, TBL_of 628 (by decide +kernel) rfl, TBL_of 629 (by decide +kernel) rfl, ti_X0, ⟨by decide +kernel, by decide +kernel, by decide +kernel⟩⟩
set_option maxRecDepth 100000 in
theorem tc_X3_kindName : Cond.code yX3_kindName cX3_kindName 1 (some (.object "java/lang/String")) ∈ TBL := TBL_of 635 rfl rfl
theorem ms_X3_kindName : MS yX3_kindName cX3_kindName 1 (some (.object "java/lang/String")) 1 := ⟨tc_X3_kindName, TBL_of 634 (by decide +kernel) rfl, ti_X3, ⟨by decide +kernel, by decide +kernel, by decide +kernel⟩⟩
set_option maxRecDepth 100000 in
theorem tc_X3_readMoth : Cond.code yX3_readMoth cX3_readMoth 4 (some .boolean) ∈ TBL := TBL_of 646 rfl rfl
theorem mv_X3_readMoth : MV yX3_readMoth cX3_readMoth 4 (some .boolean) 2 := ⟨tc_X3_readMoth, TBL_of 645 (by decide +kernel) rfl, TBL_of 13 (by decide +kernel) rfl, ti_X3, ⟨by decide +kernel, by decide +kernel, by decide +kernel⟩⟩
set_option maxRecDepth 100000 in
theorem tc_X3_readTrait : Cond.code yX3_readTrait cX3_readTrait 7 (some .boolean) ∈ TBL := TBL_of 654 rfl rfl
theorem mv_X3_readTrait : MV yX3_readTrait cX3_readTrait 7 (some .boolean) 5 := ⟨tc_X3_readTrait, TBL_of 653 (by decide +kernel) rfl, TBL_of 14 (by decide +kernel) rfl, ti_X3, ⟨by decide +kernel, by decide +kernel, by decide +kernel⟩⟩
set_option maxRecDepth 100000 in
theorem tc_X4_hold : Cond.code yX4_hold cX4_hold 3 (some .int) ∈ TBL := TBL_of 662 rfl rfl
theorem mv_X4_hold : MV yX4_hold cX4_hold 3 (some .int) 2 := ⟨tc_X4_hold, TBL_of 660 (by decide +kernel) rfl, TBL_of 661 (by decide +kernel) rfl, ti_X4, ⟨by decide +kernel, by decide +kernel, by decide +kernel⟩⟩
set_option maxRecDepth 100000 in
theorem tc_X4_isSpot : Cond.code yX4_isSpot cX4_isSpot 1 (some .boolean) ∈ TBL := TBL_of 665 rfl rfl
theorem ms_X4_isSpot : MS yX4_isSpot cX4_isSpot 1 (some .boolean) 1 := ⟨tc_X4_isSpot, TBL_of 664 (by decide +kernel) rfl, ti_X4, ⟨by decide +kernel, by decide +kernel, by decide +kernel⟩⟩
set_option maxRecDepth 100000 in
theorem tc_X4_as : Cond.code yX4_as cX4_as 4 (some .int) ∈ TBL := TBL_of 669 rfl rfl
theorem mv_X4_as : MV yX4_as cX4_as 4 (some .int) 2 := ⟨tc_X4_as, TBL_of 667 (by decide +kernel) rfl, TBL_of 668 (by decide +kernel) rfl, ti_X4, ⟨by decide +kernel, by decide +kernel, by decide +kernel⟩⟩
set_option maxRecDepth 100000 in
theorem tc_X1_isOneOf : Cond.code yX1_isOneOf cX1_isOneOf 4 (some .boolean) ∈ TBL := TBL_of 672 rfl rfl
theorem ms_X1_isOneOf : MS yX1_isOneOf cX1_isOneOf 4 (some .boolean) 2 := ⟨tc_X1_isOneOf, TBL_of 671 (by decide +kernel) rfl, ti_X1, ⟨by decide +kernel, by decide +kernel, by decide +kernel⟩⟩
set_option maxRecDepth 100000 in
theorem tc_X4_sheet : Cond.code yX4_sheet cX4_sheet 4 (some .int) ∈ TBL := TBL_of 679 rfl rfl
theorem mv_X4_sheet : MV yX4_sheet cX4_sheet 4 (some .int) 3 := ⟨tc_X4_sheet, TBL_of 677 (by decide +kernel) rfl, TBL_of 678 (by decide +kernel) rfl, ti_X4, ⟨by decide +kernel, by decide +kernel, by decide +kernel⟩⟩
set_option maxRecDepth 100000 in
theorem tc_X2_make : Cond.code yX2_make cX2_make 4 none ∈ TBL := TBL_of 684 rfl rfl
theorem mv_X2_make : MV yX2_make cX2_make 4 none 2 := ⟨tc_X2_make, TBL_of 682 (by decide +kernel) rfl, TBL_of 683 (by decide +kernel) rfl, ti_X2, ⟨by decide +kernel, by decide +kernel, by decide +kernel⟩⟩
set_option maxRecDepth 100000 in
theorem tc_X4_write : Cond.code yX4_write cX4_write 4 (some .int) ∈ TBL := TBL_of 688 rfl rfl
theorem mv_X4_write : MV yX4_write cX4_write 4 (some .int) 3 := ⟨tc_X4_write, TBL_of 686 (by decide +kernel) rfl, TBL_of 687 (by decide +kernel) rfl, ti_X4, ⟨by decide +kernel, by decide +kernel, by decide +kernel⟩⟩
set_option maxRecDepth 100000 in
theorem tc_X2_set : Cond.code yX2_set cX2_set 3 none ∈ TBL := TBL_of 692 rfl rfl
theorem mv_X2_set : MV yX2_set cX2_set 3 none 2 := ⟨tc_X2_set, TBL_of 690 (by decide +kernel) rfl, TBL_of 691 (by decide +kernel) rfl, ti_X2, ⟨by decide +kernel, by decide +kernel, by decide +kernel⟩⟩
set_option maxRecDepth 100000 in
theorem tc_X4_copy : Cond.code yX4_copy cX4_copy 6 (some .int) ∈ TBL := TBL_of 696 rfl rfl
theorem mv_X4_copy : MV yX4_copy cX4_copy 6 (some .int) 5 := ⟨tc_X4_copy, TBL_of 694 (by decide +kernel) rfl, TBL_of 695 (by decide +kernel) rfl, ti_X4, ⟨by decide +kernel, by decide +kernel, by decide +kernel⟩⟩
set_option maxRecDepth 100000 in
theorem tc_X2_hasRun : Cond.code yX2_hasRun cX2_hasRun 3 (some .boolean) ∈ TBL := TBL_of 700 rfl rfl
theorem mv_X2_hasRun : MV yX2_hasRun cX2_hasRun 3 (some .boolean) 2 := ⟨tc_X2_hasRun, TBL_of 698 (by decide +kernel) rfl, TBL_of 699 (by decide +kernel) rfl, ti_X2, ⟨by decide +kernel, by decide +kernel, by decide +kernel⟩⟩
set_option maxRecDepth 100000 in
theorem tc_X4_load : Cond.code yX4_load cX4_load 5 (some .int) ∈ TBL := TBL_of 705 rfl rfl
theorem mv_X4_load : MV yX4_load cX4_load 5 (some .int) 1 := ⟨tc_X4_load, TBL_of 703 (by decide +kernel) rfl, TBL_of 704 (by decide +kernel) rfl, ti_X4, ⟨by decide +kernel, by decide +kernel, by decide +kernel⟩⟩
set_option maxRecDepth 100000 in
theorem tc_X4_judge : Cond.code yX4_judge cX4_judge 3 (some .int) ∈ TBL := TBL_of 709 rfl rfl
theorem mv_X4_judge : MV yX4_judge cX4_judge 3 (some .int) 1 := ⟨tc_X4_judge, TBL_of 707 (by decide +kernel) rfl, TBL_of 708 (by decide +kernel) rfl, ti_X4, ⟨by decide +kernel, by decide +kernel, by decide +kernel⟩⟩
set_option maxRecDepth 100000 in
theorem tc_X4_image : Cond.code yX4_image cX4_image 1 (some .int) ∈ TBL := TBL_of 713 rfl rfl
theorem mv_X4_image : MV yX4_image cX4_image 1 (some .int) 0 := ⟨tc_X4_image, TBL_of 711 (by decide +kernel) rfl, TBL_of 712 (by decide +kernel) rfl, ti_X4, ⟨by decide +kernel, by decide +kernel, by decide +kernel⟩⟩
set_option maxRecDepth 100000 in
theorem tc_X4_undo : Cond.code yX4_undo cX4_undo 1 (some .int) ∈ TBL := TBL_of 717 rfl rfl
theorem mv_X4_undo : MV yX4_undo cX4_undo 1 (some .int) 0 := ⟨tc_X4_undo, TBL_of 715 (by decide +kernel) rfl, TBL_of 716 (by decide +kernel) rfl, ti_X4, ⟨by decide +kernel, by decide +kernel, by decide +kernel⟩⟩
set_option maxRecDepth 100000 in
theorem tc_X4_tear : Cond.code yX4_tear cX4_tear 2 (some .int) ∈ TBL := TBL_of 721 rfl rfl
theorem mv_X4_tear : MV yX4_tear cX4_tear 2 (some .int) 0 := ⟨tc_X4_tear, TBL_of 719 (by decide +kernel) rfl, TBL_of 720 (by decide +kernel) rfl, ti_X4, ⟨by decide +kernel, by decide +kernel, by decide +kernel⟩⟩
set_option maxRecDepth 100000 in
theorem tc_X4_count : Cond.code yX4_count cX4_count 2 (some .int) ∈ TBL := TBL_of 725 rfl rfl
theorem mv_X4_count : MV yX4_count cX4_count 2 (some .int) 1 := ⟨tc_X4_count, TBL_of 723 (by decide +kernel) rfl, TBL_of 724 (by decide +kernel) rfl, ti_X4, ⟨by decide +kernel, by decide +kernel, by decide +kernel⟩⟩
set_option maxRecDepth 100000 in
theorem tc_X0_heldSpots : Cond.code yX0_heldSpots cX0_heldSpots 3 (some .int) ∈ TBL := TBL_of 729 rfl rfl
theorem mv_X0_heldSpots : MV yX0_heldSpots cX0_heldSpots 3 (some .int) 0 := ⟨tc_X0_heldSpots, TBL_of 727 (by decide +kernel) rfl, TBL_of 728 (by decide +kernel) rfl, ti_X0, ⟨by decide +kernel, by decide +kernel, by decide +kernel⟩⟩
set_option maxRecDepth 100000 in
theorem tc_X4_status : Cond.code yX4_status cX4_status 4 (some .int) ∈ TBL := TBL_of 733 rfl rfl
theorem mv_X4_status : MV yX4_status cX4_status 4 (some .int) 1 := ⟨tc_X4_status, TBL_of 731 (by decide +kernel) rfl, TBL_of 732 (by decide +kernel) rfl, ti_X4, ⟨by decide +kernel, by decide +kernel, by decide +kernel⟩⟩
set_option maxRecDepth 100000 in
theorem tc_X5_init : Cond.code yX5_init cX5_init 2 none ∈ TBL := TBL_of 738 rfl rfl
set_option maxRecDepth 100000 in
theorem tc_X5_word : Cond.code yX5_word cX5_word 4 (some .int) ∈ TBL := TBL_of 795 rfl rfl
theorem mv_X5_word : MV yX5_word cX5_word 4 (some .int) 3 := ⟨tc_X5_word, TBL_of 793 (by decide +kernel) rfl, TBL_of 794 (by decide +kernel) rfl, ti_X5, ⟨by decide +kernel, by decide +kernel, by decide +kernel⟩⟩
set_option maxRecDepth 100000 in
theorem tc_X5_isPlace : Cond.code yX5_isPlace cX5_isPlace 2 (some .boolean) ∈ TBL := TBL_of 798 rfl rfl
theorem ms_X5_isPlace : MS yX5_isPlace cX5_isPlace 2 (some .boolean) 2 := ⟨tc_X5_isPlace, TBL_of 797 (by decide +kernel) rfl, ti_X5, ⟨by decide +kernel, by decide +kernel, by decide +kernel⟩⟩
set_option maxRecDepth 100000 in
theorem tc_X5_isPage : Cond.code yX5_isPage cX5_isPage 1 (some .boolean) ∈ TBL := TBL_of 801 rfl rfl
theorem ms_X5_isPage : MS yX5_isPage cX5_isPage 1 (some .boolean) 1 := ⟨tc_X5_isPage, TBL_of 800 (by decide +kernel) rfl, ti_X5, ⟨by decide +kernel, by decide +kernel, by decide +kernel⟩⟩
set_option maxRecDepth 100000 in
theorem tc_X5_isIn : Cond.code yX5_isIn cX5_isIn 6 (some .boolean) ∈ TBL := TBL_of 805 rfl rfl
theorem ms_X5_isIn : MS yX5_isIn cX5_isIn 6 (some .boolean) 3 := ⟨tc_X5_isIn, TBL_of 804 (by decide +kernel) rfl, ti_X5, ⟨by decide +kernel, by decide +kernel, by decide +kernel⟩⟩
set_option maxRecDepth 100000 in
theorem tc_X5_becomes : Cond.code yX5_becomes cX5_becomes 4 (some .int) ∈ TBL := TBL_of 809 rfl rfl
theorem mv_X5_becomes : MV yX5_becomes cX5_becomes 4 (some .int) 2 := ⟨tc_X5_becomes, TBL_of 808 (by decide +kernel) rfl, TBL_of 15 (by decide +kernel) rfl, ti_X5, ⟨by decide +kernel, by decide +kernel, by decide +kernel⟩⟩
set_option maxRecDepth 100000 in
theorem tc_X5_finds : Cond.code yX5_finds cX5_finds 2 (some .int) ∈ TBL := TBL_of 814 rfl rfl
theorem mv_X5_finds : MV yX5_finds cX5_finds 2 (some .int) 1 := ⟨tc_X5_finds, TBL_of 813 (by decide +kernel) rfl, TBL_of 16 (by decide +kernel) rfl, ti_X5, ⟨by decide +kernel, by decide +kernel, by decide +kernel⟩⟩
set_option maxRecDepth 100000 in
theorem tc_X5_reads : Cond.code yX5_reads cX5_reads 3 (some .int) ∈ TBL := TBL_of 818 rfl rfl
theorem mv_X5_reads : MV yX5_reads cX5_reads 3 (some .int) 2 := ⟨tc_X5_reads, TBL_of 816 (by decide +kernel) rfl, TBL_of 817 (by decide +kernel) rfl, ti_X5, ⟨by decide +kernel, by decide +kernel, by decide +kernel⟩⟩
set_option maxRecDepth 100000 in
theorem tc_X5_wordAt : Cond.code yX5_wordAt cX5_wordAt 3 (some .int) ∈ TBL := TBL_of 822 rfl rfl
theorem mv_X5_wordAt : MV yX5_wordAt cX5_wordAt 3 (some .int) 2 := ⟨tc_X5_wordAt, TBL_of 821 (by decide +kernel) rfl, TBL_of 17 (by decide +kernel) rfl, ti_X5, ⟨by decide +kernel, by decide +kernel, by decide +kernel⟩⟩
set_option maxRecDepth 100000 in
theorem tc_X5_page : Cond.code yX5_page cX5_page 3 (some .int) ∈ TBL := TBL_of 826 rfl rfl
theorem mv_X5_page : MV yX5_page cX5_page 3 (some .int) 2 := ⟨tc_X5_page, TBL_of 824 (by decide +kernel) rfl, TBL_of 825 (by decide +kernel) rfl, ti_X5, ⟨by decide +kernel, by decide +kernel, by decide +kernel⟩⟩
set_option maxRecDepth 100000 in
theorem tc_X5_saysNow : Cond.code yX5_saysNow cX5_saysNow 4 (some .int) ∈ TBL := TBL_of 831 rfl rfl
theorem mv_X5_saysNow : MV yX5_saysNow cX5_saysNow 4 (some .int) 1 := ⟨tc_X5_saysNow, TBL_of 830 (by decide +kernel) rfl, TBL_of 18 (by decide +kernel) rfl, ti_X5, ⟨by decide +kernel, by decide +kernel, by decide +kernel⟩⟩
set_option maxRecDepth 100000 in
theorem tc_X5_whole : Cond.code yX5_whole cX5_whole 4 (some .int) ∈ TBL := TBL_of 835 rfl rfl
theorem mv_X5_whole : MV yX5_whole cX5_whole 4 (some .int) 1 := ⟨tc_X5_whole, TBL_of 834 (by decide +kernel) rfl, TBL_of 19 (by decide +kernel) rfl, ti_X5, ⟨by decide +kernel, by decide +kernel, by decide +kernel⟩⟩
set_option maxRecDepth 100000 in
theorem tc_X5_many : Cond.code yX5_many cX5_many 3 (some .int) ∈ TBL := TBL_of 838 rfl rfl
theorem ms_X5_many : MS yX5_many cX5_many 3 (some .int) 1 := ⟨tc_X5_many, TBL_of 837 (by decide +kernel) rfl, ti_X5, ⟨by decide +kernel, by decide +kernel, by decide +kernel⟩⟩
set_option maxRecDepth 100000 in
theorem tc_X5_there : Cond.code yX5_there cX5_there 4 (some .int) ∈ TBL := TBL_of 842 rfl rfl
theorem mv_X5_there : MV yX5_there cX5_there 4 (some .int) 1 := ⟨tc_X5_there, TBL_of 841 (by decide +kernel) rfl, TBL_of 20 (by decide +kernel) rfl, ti_X5, ⟨by decide +kernel, by decide +kernel, by decide +kernel⟩⟩
set_option maxRecDepth 100000 in
theorem tc_X5_its : Cond.code yX5_its cX5_its 3 (some .int) ∈ TBL := TBL_of 846 rfl rfl
theorem mv_X5_its : MV yX5_its cX5_its 3 (some .int) 2 := ⟨tc_X5_its, TBL_of 845 (by decide +kernel) rfl, TBL_of 21 (by decide +kernel) rfl, ti_X5, ⟨by decide +kernel, by decide +kernel, by decide +kernel⟩⟩
set_option maxRecDepth 100000 in
theorem tc_X5_copied : Cond.code yX5_copied cX5_copied 5 (some .int) ∈ TBL := TBL_of 850 rfl rfl
theorem mv_X5_copied : MV yX5_copied cX5_copied 5 (some .int) 2 := ⟨tc_X5_copied, TBL_of 848 (by decide +kernel) rfl, TBL_of 849 (by decide +kernel) rfl, ti_X5, ⟨by decide +kernel, by decide +kernel, by decide +kernel⟩⟩
set_option maxRecDepth 100000 in
theorem tc_X5_moth : Cond.code yX5_moth cX5_moth 3 (some .int) ∈ TBL := TBL_of 854 rfl rfl
theorem mv_X5_moth : MV yX5_moth cX5_moth 3 (some .int) 2 := ⟨tc_X5_moth, TBL_of 852 (by decide +kernel) rfl, TBL_of 853 (by decide +kernel) rfl, ti_X5, ⟨by decide +kernel, by decide +kernel, by decide +kernel⟩⟩
set_option maxRecDepth 100000 in
theorem tc_X5_comes : Cond.code yX5_comes cX5_comes 3 none ∈ TBL := TBL_of 860 rfl rfl
theorem mv_X5_comes : MV yX5_comes cX5_comes 3 none 2 := ⟨tc_X5_comes, TBL_of 859 (by decide +kernel) rfl, TBL_of 22 (by decide +kernel) rfl, ti_X5, ⟨by decide +kernel, by decide +kernel, by decide +kernel⟩⟩
set_option maxRecDepth 100000 in
theorem tc_X5_at : Cond.code yX5_at cX5_at 2 (some .int) ∈ TBL := TBL_of 863 rfl rfl
theorem ms_X5_at : MS yX5_at cX5_at 2 (some .int) 2 := ⟨tc_X5_at, TBL_of 862 (by decide +kernel) rfl, ti_X5, ⟨by decide +kernel, by decide +kernel, by decide +kernel⟩⟩
set_option maxRecDepth 100000 in
theorem tc_X5_of : Cond.code yX5_of cX5_of 3 (some .int) ∈ TBL := TBL_of 867 rfl rfl
theorem mv_X5_of : MV yX5_of cX5_of 3 (some .int) 2 := ⟨tc_X5_of, TBL_of 865 (by decide +kernel) rfl, TBL_of 866 (by decide +kernel) rfl, ti_X5, ⟨by decide +kernel, by decide +kernel, by decide +kernel⟩⟩
set_option maxRecDepth 100000 in
theorem tc_X5_isMoth : Cond.code yX5_isMoth cX5_isMoth 2 (some .boolean) ∈ TBL := TBL_of 871 rfl rfl
theorem mv_X5_isMoth : MV yX5_isMoth cX5_isMoth 2 (some .boolean) 1 := ⟨tc_X5_isMoth, TBL_of 870 (by decide +kernel) rfl, TBL_of 23 (by decide +kernel) rfl, ti_X5, ⟨by decide +kernel, by decide +kernel, by decide +kernel⟩⟩
set_option maxRecDepth 100000 in
theorem tc_X5_bites : Cond.code yX5_bites cX5_bites 4 (some .int) ∈ TBL := TBL_of 876 rfl rfl
theorem mv_X5_bites : MV yX5_bites cX5_bites 4 (some .int) 1 := ⟨tc_X5_bites, TBL_of 875 (by decide +kernel) rfl, TBL_of 24 (by decide +kernel) rfl, ti_X5, ⟨by decide +kernel, by decide +kernel, by decide +kernel⟩⟩
set_option maxRecDepth 100000 in
theorem tc_X5_firstWhole : Cond.code yX5_firstWhole cX5_firstWhole 4 (some .int) ∈ TBL := TBL_of 880 rfl rfl
theorem mv_X5_firstWhole : MV yX5_firstWhole cX5_firstWhole 4 (some .int) 1 := ⟨tc_X5_firstWhole, TBL_of 879 (by decide +kernel) rfl, TBL_of 25 (by decide +kernel) rfl, ti_X5, ⟨by decide +kernel, by decide +kernel, by decide +kernel⟩⟩
set_option maxRecDepth 100000 in
theorem tc_X5_firstLike : Cond.code yX5_firstLike cX5_firstLike 6 (some .int) ∈ TBL := TBL_of 884 rfl rfl
theorem mv_X5_firstLike : MV yX5_firstLike cX5_firstLike 6 (some .int) 2 := ⟨tc_X5_firstLike, TBL_of 883 (by decide +kernel) rfl, TBL_of 26 (by decide +kernel) rfl, ti_X5, ⟨by decide +kernel, by decide +kernel, by decide +kernel⟩⟩
set_option maxRecDepth 100000 in
theorem tc_X5_scholarBites : Cond.code yX5_scholarBites cX5_scholarBites 4 (some .int) ∈ TBL := TBL_of 888 rfl rfl
theorem mv_X5_scholarBites : MV yX5_scholarBites cX5_scholarBites 4 (some .int) 2 := ⟨tc_X5_scholarBites, TBL_of 887 (by decide +kernel) rfl, TBL_of 27 (by decide +kernel) rfl, ti_X5, ⟨by decide +kernel, by decide +kernel, by decide +kernel⟩⟩
set_option maxRecDepth 100000 in
theorem tc_X5_firstOf : Cond.code yX5_firstOf cX5_firstOf 5 (some .int) ∈ TBL := TBL_of 892 rfl rfl
theorem mv_X5_firstOf : MV yX5_firstOf cX5_firstOf 5 (some .int) 2 := ⟨tc_X5_firstOf, TBL_of 891 (by decide +kernel) rfl, TBL_of 28 (by decide +kernel) rfl, ti_X5, ⟨by decide +kernel, by decide +kernel, by decide +kernel⟩⟩
set_option maxRecDepth 100000 in
theorem tc_X5_lastWhole : Cond.code yX5_lastWhole cX5_lastWhole 4 (some .int) ∈ TBL := TBL_of 896 rfl rfl
theorem mv_X5_lastWhole : MV yX5_lastWhole cX5_lastWhole 4 (some .int) 1 := ⟨tc_X5_lastWhole, TBL_of 895 (by decide +kernel) rfl, TBL_of 29 (by decide +kernel) rfl, ti_X5, ⟨by decide +kernel, by decide +kernel, by decide +kernel⟩⟩
set_option maxRecDepth 100000 in
theorem tc_X5_change : Cond.code yX5_change cX5_change 4 (some .int) ∈ TBL := TBL_of 900 rfl rfl
theorem mv_X5_change : MV yX5_change cX5_change 4 (some .int) 3 := ⟨tc_X5_change, TBL_of 898 (by decide +kernel) rfl, TBL_of 899 (by decide +kernel) rfl, ti_X5, ⟨by decide +kernel, by decide +kernel, by decide +kernel⟩⟩
set_option maxRecDepth 100000 in
theorem tc_X5_isFit : Cond.code yX5_isFit cX5_isFit 2 (some .boolean) ∈ TBL := TBL_of 903 rfl rfl
theorem ms_X5_isFit : MS yX5_isFit cX5_isFit 2 (some .boolean) 2 := ⟨tc_X5_isFit, TBL_of 902 (by decide +kernel) rfl, ti_X5, ⟨by decide +kernel, by decide +kernel, by decide +kernel⟩⟩
set_option maxRecDepth 100000 in
theorem tc_X5_leaves : Cond.code yX5_leaves cX5_leaves 4 (some .int) ∈ TBL := TBL_of 908 rfl rfl
theorem mv_X5_leaves : MV yX5_leaves cX5_leaves 4 (some .int) 3 := ⟨tc_X5_leaves, TBL_of 906 (by decide +kernel) rfl, TBL_of 907 (by decide +kernel) rfl, ti_X5, ⟨by decide +kernel, by decide +kernel, by decide +kernel⟩⟩
set_option maxRecDepth 100000 in
theorem tc_X5_leavesBy : Cond.code yX5_leavesBy cX5_leavesBy 2 (some .int) ∈ TBL := TBL_of 911 rfl rfl
theorem ms_X5_leavesBy : MS yX5_leavesBy cX5_leavesBy 2 (some .int) 2 := ⟨tc_X5_leavesBy, TBL_of 910 (by decide +kernel) rfl, ti_X5, ⟨by decide +kernel, by decide +kernel, by decide +kernel⟩⟩
set_option maxRecDepth 100000 in
theorem tc_X5_least : Cond.code yX5_least cX5_least 2 (some .int) ∈ TBL := TBL_of 914 rfl rfl
theorem ms_X5_least : MS yX5_least cX5_least 2 (some .int) 2 := ⟨tc_X5_least, TBL_of 913 (by decide +kernel) rfl, ti_X5, ⟨by decide +kernel, by decide +kernel, by decide +kernel⟩⟩
set_option maxRecDepth 100000 in
theorem tc_X5_gainsBy : Cond.code yX5_gainsBy cX5_gainsBy 2 (some .int) ∈ TBL := TBL_of 917 rfl rfl
theorem ms_X5_gainsBy : MS yX5_gainsBy cX5_gainsBy 2 (some .int) 2 := ⟨tc_X5_gainsBy, TBL_of 916 (by decide +kernel) rfl, ti_X5, ⟨by decide +kernel, by decide +kernel, by decide +kernel⟩⟩
set_option maxRecDepth 100000 in
theorem tc_X5_go : Cond.code yX5_go cX5_go 2 (some .int) ∈ TBL := TBL_of 921 rfl rfl
theorem mv_X5_go : MV yX5_go cX5_go 2 (some .int) 1 := ⟨tc_X5_go, TBL_of 919 (by decide +kernel) rfl, TBL_of 920 (by decide +kernel) rfl, ti_X5, ⟨by decide +kernel, by decide +kernel, by decide +kernel⟩⟩
set_option maxRecDepth 100000 in
theorem tc_X5_goes : Cond.code yX5_goes cX5_goes 3 none ∈ TBL := TBL_of 928 rfl rfl
theorem mv_X5_goes : MV yX5_goes cX5_goes 3 none 1 := ⟨tc_X5_goes, TBL_of 927 (by decide +kernel) rfl, TBL_of 30 (by decide +kernel) rfl, ti_X5, ⟨by decide +kernel, by decide +kernel, by decide +kernel⟩⟩
set_option maxRecDepth 100000 in
theorem tc_X5_nightBut : Cond.code yX5_nightBut cX5_nightBut 6 none ∈ TBL := TBL_of 932 rfl rfl
theorem mv_X5_nightBut : MV yX5_nightBut cX5_nightBut 6 none 1 := ⟨tc_X5_nightBut, TBL_of 931 (by decide +kernel) rfl, TBL_of 31 (by decide +kernel) rfl, ti_X5, ⟨by decide +kernel, by decide +kernel, by decide +kernel⟩⟩
set_option maxRecDepth 100000 in
theorem tc_X5_holes : Cond.code yX5_holes cX5_holes 3 (some .int) ∈ TBL := TBL_of 936 rfl rfl
theorem mv_X5_holes : MV yX5_holes cX5_holes 3 (some .int) 0 := ⟨tc_X5_holes, TBL_of 935 (by decide +kernel) rfl, TBL_of 32 (by decide +kernel) rfl, ti_X5, ⟨by decide +kernel, by decide +kernel, by decide +kernel⟩⟩
set_option maxRecDepth 100000 in
theorem tc_X5_now : Cond.code yX5_now cX5_now 2 (some .int) ∈ TBL := TBL_of 940 rfl rfl
theorem mv_X5_now : MV yX5_now cX5_now 2 (some .int) 1 := ⟨tc_X5_now, TBL_of 938 (by decide +kernel) rfl, TBL_of 939 (by decide +kernel) rfl, ti_X5, ⟨by decide +kernel, by decide +kernel, by decide +kernel⟩⟩
set_option maxRecDepth 100000 in
theorem tc_X5_saysAll : Cond.code yX5_saysAll cX5_saysAll 3 (some .int) ∈ TBL := TBL_of 944 rfl rfl
theorem mv_X5_saysAll : MV yX5_saysAll cX5_saysAll 3 (some .int) 0 := ⟨tc_X5_saysAll, TBL_of 943 (by decide +kernel) rfl, TBL_of 33 (by decide +kernel) rfl, ti_X5, ⟨by decide +kernel, by decide +kernel, by decide +kernel⟩⟩
set_option maxRecDepth 100000 in
theorem tc_X5_fedAll : Cond.code yX5_fedAll cX5_fedAll 3 (some .int) ∈ TBL := TBL_of 948 rfl rfl
theorem mv_X5_fedAll : MV yX5_fedAll cX5_fedAll 3 (some .int) 0 := ⟨tc_X5_fedAll, TBL_of 947 (by decide +kernel) rfl, TBL_of 34 (by decide +kernel) rfl, ti_X5, ⟨by decide +kernel, by decide +kernel, by decide +kernel⟩⟩
set_option maxRecDepth 100000 in
theorem tc_X5_hungry : Cond.code yX5_hungry cX5_hungry 3 (some .int) ∈ TBL := TBL_of 952 rfl rfl
theorem mv_X5_hungry : MV yX5_hungry cX5_hungry 3 (some .int) 0 := ⟨tc_X5_hungry, TBL_of 951 (by decide +kernel) rfl, TBL_of 35 (by decide +kernel) rfl, ti_X5, ⟨by decide +kernel, by decide +kernel, by decide +kernel⟩⟩
set_option maxRecDepth 100000 in
theorem tc_X5_barePages : Cond.code yX5_barePages cX5_barePages 3 (some .int) ∈ TBL := TBL_of 956 rfl rfl
theorem mv_X5_barePages : MV yX5_barePages cX5_barePages 3 (some .int) 0 := ⟨tc_X5_barePages, TBL_of 955 (by decide +kernel) rfl, TBL_of 36 (by decide +kernel) rfl, ti_X5, ⟨by decide +kernel, by decide +kernel, by decide +kernel⟩⟩
set_option maxRecDepth 100000 in
theorem tc_X5_ahead : Cond.code yX5_ahead cX5_ahead 5 (some .int) ∈ TBL := TBL_of 960 rfl rfl
theorem mv_X5_ahead : MV yX5_ahead cX5_ahead 5 (some .int) 3 := ⟨tc_X5_ahead, TBL_of 958 (by decide +kernel) rfl, TBL_of 959 (by decide +kernel) rfl, ti_X5, ⟨by decide +kernel, by decide +kernel, by decide +kernel⟩⟩
set_option maxRecDepth 100000 in
theorem tc_X5_copyRow : Cond.code yX5_copyRow cX5_copyRow 3 none ∈ TBL := TBL_of 964 rfl rfl
theorem ms_X5_copyRow : MS yX5_copyRow cX5_copyRow 3 none 2 := ⟨tc_X5_copyRow, TBL_of 963 (by decide +kernel) rfl, ti_X5, ⟨by decide +kernel, by decide +kernel, by decide +kernel⟩⟩
set_option maxRecDepth 100000 in
theorem tc_X5_says : Cond.code yX5_says cX5_says 3 (some .int) ∈ TBL := TBL_of 968 rfl rfl
theorem mv_X5_says : MV yX5_says cX5_says 3 (some .int) 2 := ⟨tc_X5_says, TBL_of 966 (by decide +kernel) rfl, TBL_of 967 (by decide +kernel) rfl, ti_X5, ⟨by decide +kernel, by decide +kernel, by decide +kernel⟩⟩
set_option maxRecDepth 100000 in
theorem tc_X5_saysIn : Cond.code yX5_saysIn cX5_saysIn 4 (some .int) ∈ TBL := TBL_of 972 rfl rfl
theorem mv_X5_saysIn : MV yX5_saysIn cX5_saysIn 4 (some .int) 2 := ⟨tc_X5_saysIn, TBL_of 971 (by decide +kernel) rfl, TBL_of 37 (by decide +kernel) rfl, ti_X5, ⟨by decide +kernel, by decide +kernel, by decide +kernel⟩⟩
set_option maxRecDepth 100000 in
theorem tc_X5_fed : Cond.code yX5_fed cX5_fed 4 (some .int) ∈ TBL := TBL_of 976 rfl rfl
theorem mv_X5_fed : MV yX5_fed cX5_fed 4 (some .int) 2 := ⟨tc_X5_fed, TBL_of 974 (by decide +kernel) rfl, TBL_of 975 (by decide +kernel) rfl, ti_X5, ⟨by decide +kernel, by decide +kernel, by decide +kernel⟩⟩
set_option maxRecDepth 100000 in
theorem tc_X5_bare : Cond.code yX5_bare cX5_bare 3 (some .int) ∈ TBL := TBL_of 980 rfl rfl
theorem mv_X5_bare : MV yX5_bare cX5_bare 3 (some .int) 1 := ⟨tc_X5_bare, TBL_of 978 (by decide +kernel) rfl, TBL_of 979 (by decide +kernel) rfl, ti_X5, ⟨by decide +kernel, by decide +kernel, by decide +kernel⟩⟩
set_option maxRecDepth 100000 in
theorem tc_X5_when : Cond.code yX5_when cX5_when 4 (some .int) ∈ TBL := TBL_of 985 rfl rfl
theorem mv_X5_when : MV yX5_when cX5_when 4 (some .int) 2 := ⟨tc_X5_when, TBL_of 983 (by decide +kernel) rfl, TBL_of 984 (by decide +kernel) rfl, ti_X5, ⟨by decide +kernel, by decide +kernel, by decide +kernel⟩⟩
set_option maxRecDepth 100000 in
theorem tc_X5_settles : Cond.code yX5_settles cX5_settles 2 (some .int) ∈ TBL := TBL_of 990 rfl rfl
theorem mv_X5_settles : MV yX5_settles cX5_settles 2 (some .int) 0 := ⟨tc_X5_settles, TBL_of 988 (by decide +kernel) rfl, TBL_of 989 (by decide +kernel) rfl, ti_X5, ⟨by decide +kernel, by decide +kernel, by decide +kernel⟩⟩
set_option maxRecDepth 100000 in
theorem tc_X5_leavesAll : Cond.code yX5_leavesAll cX5_leavesAll 3 (some .boolean) ∈ TBL := TBL_of 994 rfl rfl
theorem mv_X5_leavesAll : MV yX5_leavesAll cX5_leavesAll 3 (some .boolean) 0 := ⟨tc_X5_leavesAll, TBL_of 993 (by decide +kernel) rfl, TBL_of 38 (by decide +kernel) rfl, ti_X5, ⟨by decide +kernel, by decide +kernel, by decide +kernel⟩⟩
set_option maxRecDepth 100000 in
theorem tc_X5_alike : Cond.code yX5_alike cX5_alike 4 (some .int) ∈ TBL := TBL_of 998 rfl rfl
theorem mv_X5_alike : MV yX5_alike cX5_alike 4 (some .int) 2 := ⟨tc_X5_alike, TBL_of 996 (by decide +kernel) rfl, TBL_of 997 (by decide +kernel) rfl, ti_X5, ⟨by decide +kernel, by decide +kernel, by decide +kernel⟩⟩
set_option maxRecDepth 100000 in
theorem tc_X5_areAlike : Cond.code yX5_areAlike cX5_areAlike 5 (some .boolean) ∈ TBL := TBL_of 1002 rfl rfl
theorem mv_X5_areAlike : MV yX5_areAlike cX5_areAlike 5 (some .boolean) 2 := ⟨tc_X5_areAlike, TBL_of 1001 (by decide +kernel) rfl, TBL_of 39 (by decide +kernel) rfl, ti_X5, ⟨by decide +kernel, by decide +kernel, by decide +kernel⟩⟩
set_option maxRecDepth 100000 in
theorem tc_X5_put : Cond.code yX5_put cX5_put 4 (some .int) ∈ TBL := TBL_of 1006 rfl rfl
theorem mv_X5_put : MV yX5_put cX5_put 4 (some .int) 3 := ⟨tc_X5_put, TBL_of 1004 (by decide +kernel) rfl, TBL_of 1005 (by decide +kernel) rfl, ti_X5, ⟨by decide +kernel, by decide +kernel, by decide +kernel⟩⟩
set_option maxRecDepth 100000 in
theorem tc_X5_isAsked : Cond.code yX5_isAsked cX5_isAsked 4 (some .boolean) ∈ TBL := TBL_of 1010 rfl rfl
theorem mv_X5_isAsked : MV yX5_isAsked cX5_isAsked 4 (some .boolean) 3 := ⟨tc_X5_isAsked, TBL_of 1009 (by decide +kernel) rfl, TBL_of 40 (by decide +kernel) rfl, ti_X5, ⟨by decide +kernel, by decide +kernel, by decide +kernel⟩⟩
set_option maxRecDepth 100000 in
theorem tc_X5_mostBy : Cond.code yX5_mostBy cX5_mostBy 12 (some .int) ∈ TBL := TBL_of 1015 rfl rfl
theorem mv_X5_mostBy : MV yX5_mostBy cX5_mostBy 12 (some .int) 6 := ⟨tc_X5_mostBy, TBL_of 1014 (by decide +kernel) rfl, TBL_of 41 (by decide +kernel) rfl, ti_X5, ⟨by decide +kernel, by decide +kernel, by decide +kernel⟩⟩
set_option maxRecDepth 100000 in
theorem tc_X5_tasteFor : Cond.code yX5_tasteFor cX5_tasteFor 4 (some .int) ∈ TBL := TBL_of 1019 rfl rfl
theorem mv_X5_tasteFor : MV yX5_tasteFor cX5_tasteFor 4 (some .int) 3 := ⟨tc_X5_tasteFor, TBL_of 1017 (by decide +kernel) rfl, TBL_of 1018 (by decide +kernel) rfl, ti_X5, ⟨by decide +kernel, by decide +kernel, by decide +kernel⟩⟩
set_option maxRecDepth 100000 in
theorem tc_X5_kindFor : Cond.code yX5_kindFor cX5_kindFor 4 (some .int) ∈ TBL := TBL_of 1023 rfl rfl
theorem mv_X5_kindFor : MV yX5_kindFor cX5_kindFor 4 (some .int) 3 := ⟨tc_X5_kindFor, TBL_of 1021 (by decide +kernel) rfl, TBL_of 1022 (by decide +kernel) rfl, ti_X5, ⟨by decide +kernel, by decide +kernel, by decide +kernel⟩⟩
set_option maxRecDepth 100000 in
theorem tc_X5_swapFor : Cond.code yX5_swapFor cX5_swapFor 8 (some .int) ∈ TBL := TBL_of 1027 rfl rfl
theorem mv_X5_swapFor : MV yX5_swapFor cX5_swapFor 8 (some .int) 2 := ⟨tc_X5_swapFor, TBL_of 1025 (by decide +kernel) rfl, TBL_of 1026 (by decide +kernel) rfl, ti_X5, ⟨by decide +kernel, by decide +kernel, by decide +kernel⟩⟩
set_option maxRecDepth 100000 in
theorem tc_X5_swaps : Cond.code yX5_swaps cX5_swaps 3 none ∈ TBL := TBL_of 1031 rfl rfl
theorem mv_X5_swaps : MV yX5_swaps cX5_swaps 3 none 2 := ⟨tc_X5_swaps, TBL_of 1030 (by decide +kernel) rfl, TBL_of 42 (by decide +kernel) rfl, ti_X5, ⟨by decide +kernel, by decide +kernel, by decide +kernel⟩⟩
set_option maxRecDepth 100000 in
theorem tc_X5_orNone : Cond.code yX5_orNone cX5_orNone 2 (some .int) ∈ TBL := TBL_of 1035 rfl rfl
theorem mv_X5_orNone : MV yX5_orNone cX5_orNone 2 (some .int) 1 := ⟨tc_X5_orNone, TBL_of 1034 (by decide +kernel) rfl, TBL_of 43 (by decide +kernel) rfl, ti_X5, ⟨by decide +kernel, by decide +kernel, by decide +kernel⟩⟩
set_option maxRecDepth 100000 in
theorem tc_X5_out : Cond.code yX5_out cX5_out 5 (some .int) ∈ TBL := TBL_of 1039 rfl rfl
theorem mv_X5_out : MV yX5_out cX5_out 5 (some .int) 2 := ⟨tc_X5_out, TBL_of 1037 (by decide +kernel) rfl, TBL_of 1038 (by decide +kernel) rfl, ti_X5, ⟨by decide +kernel, by decide +kernel, by decide +kernel⟩⟩
set_option maxRecDepth 100000 in
theorem tc_X5_stays : Cond.code yX5_stays cX5_stays 6 (some .boolean) ∈ TBL := TBL_of 1044 rfl rfl
theorem mv_X5_stays : MV yX5_stays cX5_stays 6 (some .boolean) 3 := ⟨tc_X5_stays, TBL_of 1043 (by decide +kernel) rfl, TBL_of 44 (by decide +kernel) rfl, ti_X5, ⟨by decide +kernel, by decide +kernel, by decide +kernel⟩⟩
set_option maxRecDepth 100000 in
theorem tc_X5_fits : Cond.code yX5_fits cX5_fits 10 (some .int) ∈ TBL := TBL_of 1048 rfl rfl
theorem mv_X5_fits : MV yX5_fits cX5_fits 10 (some .int) 4 := ⟨tc_X5_fits, TBL_of 1046 (by decide +kernel) rfl, TBL_of 1047 (by decide +kernel) rfl, ti_X5, ⟨by decide +kernel, by decide +kernel, by decide +kernel⟩⟩
set_option maxRecDepth 100000 in
theorem tc_X5_wants : Cond.code yX5_wants cX5_wants 2 (some .int) ∈ TBL := TBL_of 1052 rfl rfl
theorem mv_X5_wants : MV yX5_wants cX5_wants 2 (some .int) 1 := ⟨tc_X5_wants, TBL_of 1051 (by decide +kernel) rfl, TBL_of 45 (by decide +kernel) rfl, ti_X5, ⟨by decide +kernel, by decide +kernel, by decide +kernel⟩⟩
set_option maxRecDepth 100000 in
theorem tc_X5_isSheet : Cond.code yX5_isSheet cX5_isSheet 1 (some .boolean) ∈ TBL := TBL_of 1055 rfl rfl
theorem ms_X5_isSheet : MS yX5_isSheet cX5_isSheet 1 (some .boolean) 1 := ⟨tc_X5_isSheet, TBL_of 1054 (by decide +kernel) rfl, ti_X5, ⟨by decide +kernel, by decide +kernel, by decide +kernel⟩⟩
set_option maxRecDepth 100000 in
theorem tc_X5_isTold : Cond.code yX5_isTold cX5_isTold 7 (some .boolean) ∈ TBL := TBL_of 1060 rfl rfl
theorem mv_X5_isTold : MV yX5_isTold cX5_isTold 7 (some .boolean) 3 := ⟨tc_X5_isTold, TBL_of 1059 (by decide +kernel) rfl, TBL_of 46 (by decide +kernel) rfl, ti_X5, ⟨by decide +kernel, by decide +kernel, by decide +kernel⟩⟩
set_option maxRecDepth 100000 in
theorem tc_X5_kinds : Cond.code yX5_kinds cX5_kinds 7 (some .int) ∈ TBL := TBL_of 1064 rfl rfl
theorem mv_X5_kinds : MV yX5_kinds cX5_kinds 7 (some .int) 2 := ⟨tc_X5_kinds, TBL_of 1062 (by decide +kernel) rfl, TBL_of 1063 (by decide +kernel) rfl, ti_X5, ⟨by decide +kernel, by decide +kernel, by decide +kernel⟩⟩
set_option maxRecDepth 100000 in
theorem tc_X5_isFedSo : Cond.code yX5_isFedSo cX5_isFedSo 6 (some .boolean) ∈ TBL := TBL_of 1068 rfl rfl
theorem mv_X5_isFedSo : MV yX5_isFedSo cX5_isFedSo 6 (some .boolean) 2 := ⟨tc_X5_isFedSo, TBL_of 1067 (by decide +kernel) rfl, TBL_of 47 (by decide +kernel) rfl, ti_X5, ⟨by decide +kernel, by decide +kernel, by decide +kernel⟩⟩
set_option maxRecDepth 100000 in
theorem tc_X5_lights : Cond.code yX5_lights cX5_lights 5 (some .int) ∈ TBL := TBL_of 1072 rfl rfl
theorem mv_X5_lights : MV yX5_lights cX5_lights 5 (some .int) 1 := ⟨tc_X5_lights, TBL_of 1070 (by decide +kernel) rfl, TBL_of 1071 (by decide +kernel) rfl, ti_X5, ⟨by decide +kernel, by decide +kernel, by decide +kernel⟩⟩
set_option maxRecDepth 100000 in
theorem tc_X5_draw : Cond.code yX5_draw cX5_draw 1 (some .int) ∈ TBL := TBL_of 1076 rfl rfl
theorem mv_X5_draw : MV yX5_draw cX5_draw 1 (some .int) 0 := ⟨tc_X5_draw, TBL_of 1075 (by decide +kernel) rfl, TBL_of 48 (by decide +kernel) rfl, ti_X5, ⟨by decide +kernel, by decide +kernel, by decide +kernel⟩⟩
set_option maxRecDepth 100000 in
theorem tc_X5_odds : Cond.code yX5_odds cX5_odds 14 (some .long) ∈ TBL := TBL_of 1081 rfl rfl
theorem mv_X5_odds : MV yX5_odds cX5_odds 14 (some .long) 2 := ⟨tc_X5_odds, TBL_of 1079 (by decide +kernel) rfl, TBL_of 1080 (by decide +kernel) rfl, ti_X5, ⟨by decide +kernel, by decide +kernel, by decide +kernel⟩⟩
set_option maxRecDepth 100000 in
theorem tc_X5_seed : Cond.code yX5_seed cX5_seed 2 (some .int) ∈ TBL := TBL_of 1086 rfl rfl
theorem mv_X5_seed : MV yX5_seed cX5_seed 2 (some .int) 1 := ⟨tc_X5_seed, TBL_of 1084 (by decide +kernel) rfl, TBL_of 1085 (by decide +kernel) rfl, ti_X5, ⟨by decide +kernel, by decide +kernel, by decide +kernel⟩⟩
set_option maxRecDepth 100000 in
theorem tc_X5_feed : Cond.code yX5_feed cX5_feed 4 (some .int) ∈ TBL := TBL_of 1090 rfl rfl
theorem mv_X5_feed : MV yX5_feed cX5_feed 4 (some .int) 2 := ⟨tc_X5_feed, TBL_of 1088 (by decide +kernel) rfl, TBL_of 1089 (by decide +kernel) rfl, ti_X5, ⟨by decide +kernel, by decide +kernel, by decide +kernel⟩⟩
set_option maxRecDepth 100000 in
theorem tc_X5_wipe : Cond.code yX5_wipe cX5_wipe 2 (some .int) ∈ TBL := TBL_of 1094 rfl rfl
theorem mv_X5_wipe : MV yX5_wipe cX5_wipe 2 (some .int) 0 := ⟨tc_X5_wipe, TBL_of 1092 (by decide +kernel) rfl, TBL_of 1093 (by decide +kernel) rfl, ti_X5, ⟨by decide +kernel, by decide +kernel, by decide +kernel⟩⟩
set_option maxRecDepth 100000 in
theorem tc_X5_text : Cond.code yX5_text cX5_text 3 (some .int) ∈ TBL := TBL_of 1098 rfl rfl
theorem mv_X5_text : MV yX5_text cX5_text 3 (some .int) 0 := ⟨tc_X5_text, TBL_of 1096 (by decide +kernel) rfl, TBL_of 1097 (by decide +kernel) rfl, ti_X5, ⟨by decide +kernel, by decide +kernel, by decide +kernel⟩⟩
set_option maxRecDepth 100000 in
theorem tc_X5_nextToken : Cond.code yX5_nextToken cX5_nextToken 2 none ∈ TBL := TBL_of 1102 rfl rfl
theorem mv_X5_nextToken : MV yX5_nextToken cX5_nextToken 2 none 0 := ⟨tc_X5_nextToken, TBL_of 1101 (by decide +kernel) rfl, TBL_of 49 (by decide +kernel) rfl, ti_X5, ⟨by decide +kernel, by decide +kernel, by decide +kernel⟩⟩
set_option maxRecDepth 100000 in
theorem tc_X5_byteAt : Cond.code yX5_byteAt cX5_byteAt 2 (some .int) ∈ TBL := TBL_of 1106 rfl rfl
theorem mv_X5_byteAt : MV yX5_byteAt cX5_byteAt 2 (some .int) 1 := ⟨tc_X5_byteAt, TBL_of 1105 (by decide +kernel) rfl, TBL_of 50 (by decide +kernel) rfl, ti_X5, ⟨by decide +kernel, by decide +kernel, by decide +kernel⟩⟩
set_option maxRecDepth 100000 in
theorem tc_X5_isLetter : Cond.code yX5_isLetter cX5_isLetter 1 (some .boolean) ∈ TBL := TBL_of 1109 rfl rfl
theorem ms_X5_isLetter : MS yX5_isLetter cX5_isLetter 1 (some .boolean) 1 := ⟨tc_X5_isLetter, TBL_of 1108 (by decide +kernel) rfl, ti_X5, ⟨by decide +kernel, by decide +kernel, by decide +kernel⟩⟩
set_option maxRecDepth 100000 in
theorem tc_X5_isDigit : Cond.code yX5_isDigit cX5_isDigit 1 (some .boolean) ∈ TBL := TBL_of 1112 rfl rfl
theorem ms_X5_isDigit : MS yX5_isDigit cX5_isDigit 1 (some .boolean) 1 := ⟨tc_X5_isDigit, TBL_of 1111 (by decide +kernel) rfl, ti_X5, ⟨by decide +kernel, by decide +kernel, by decide +kernel⟩⟩
set_option maxRecDepth 100000 in
theorem tc_X5_itemHere : Cond.code yX5_itemHere cX5_itemHere 2 (some .boolean) ∈ TBL := TBL_of 1116 rfl rfl
theorem mv_X5_itemHere : MV yX5_itemHere cX5_itemHere 2 (some .boolean) 0 := ⟨tc_X5_itemHere, TBL_of 1115 (by decide +kernel) rfl, TBL_of 51 (by decide +kernel) rfl, ti_X5, ⟨by decide +kernel, by decide +kernel, by decide +kernel⟩⟩
set_option maxRecDepth 100000 in
theorem tc_X5_kindHere : Cond.code yX5_kindHere cX5_kindHere 1 (some .int) ∈ TBL := TBL_of 1120 rfl rfl
theorem mv_X5_kindHere : MV yX5_kindHere cX5_kindHere 1 (some .int) 0 := ⟨tc_X5_kindHere, TBL_of 1119 (by decide +kernel) rfl, TBL_of 52 (by decide +kernel) rfl, ti_X5, ⟨by decide +kernel, by decide +kernel, by decide +kernel⟩⟩
set_option maxRecDepth 100000 in
theorem tc_X5_isFour : Cond.code yX5_isFour cX5_isFour 5 (some .boolean) ∈ TBL := TBL_of 1124 rfl rfl
theorem mv_X5_isFour : MV yX5_isFour cX5_isFour 5 (some .boolean) 4 := ⟨tc_X5_isFour, TBL_of 1123 (by decide +kernel) rfl, TBL_of 53 (by decide +kernel) rfl, ti_X5, ⟨by decide +kernel, by decide +kernel, by decide +kernel⟩⟩
set_option maxRecDepth 100000 in
theorem tc_X5_isWord : Cond.code yX5_isWord cX5_isWord 2 (some .boolean) ∈ TBL := TBL_of 1128 rfl rfl
theorem mv_X5_isWord : MV yX5_isWord cX5_isWord 2 (some .boolean) 1 := ⟨tc_X5_isWord, TBL_of 1127 (by decide +kernel) rfl, TBL_of 54 (by decide +kernel) rfl, ti_X5, ⟨by decide +kernel, by decide +kernel, by decide +kernel⟩⟩
set_option maxRecDepth 100000 in
theorem tc_X5_has3 : Cond.code yX5_has3 cX5_has3 5 (some .boolean) ∈ TBL := TBL_of 1132 rfl rfl
theorem mv_X5_has3 : MV yX5_has3 cX5_has3 5 (some .boolean) 4 := ⟨tc_X5_has3, TBL_of 1131 (by decide +kernel) rfl, TBL_of 55 (by decide +kernel) rfl, ti_X5, ⟨by decide +kernel, by decide +kernel, by decide +kernel⟩⟩
set_option maxRecDepth 100000 in
theorem tc_X5_isFive : Cond.code yX5_isFive cX5_isFive 6 (some .boolean) ∈ TBL := TBL_of 1136 rfl rfl
theorem mv_X5_isFive : MV yX5_isFive cX5_isFive 6 (some .boolean) 5 := ⟨tc_X5_isFive, TBL_of 1135 (by decide +kernel) rfl, TBL_of 56 (by decide +kernel) rfl, ti_X5, ⟨by decide +kernel, by decide +kernel, by decide +kernel⟩⟩
set_option maxRecDepth 100000 in
theorem tc_X5_isSix : Cond.code yX5_isSix cX5_isSix 7 (some .boolean) ∈ TBL := TBL_of 1140 rfl rfl
theorem mv_X5_isSix : MV yX5_isSix cX5_isSix 7 (some .boolean) 6 := ⟨tc_X5_isSix, TBL_of 1139 (by decide +kernel) rfl, TBL_of 57 (by decide +kernel) rfl, ti_X5, ⟨by decide +kernel, by decide +kernel, by decide +kernel⟩⟩
set_option maxRecDepth 100000 in
theorem tc_X5_mothHere : Cond.code yX5_mothHere cX5_mothHere 2 (some .boolean) ∈ TBL := TBL_of 1144 rfl rfl
theorem mv_X5_mothHere : MV yX5_mothHere cX5_mothHere 2 (some .boolean) 1 := ⟨tc_X5_mothHere, TBL_of 1143 (by decide +kernel) rfl, TBL_of 58 (by decide +kernel) rfl, ti_X5, ⟨by decide +kernel, by decide +kernel, by decide +kernel⟩⟩
set_option maxRecDepth 100000 in
theorem tc_X5_fails : Cond.code yX5_fails cX5_fails 1 (some .boolean) ∈ TBL := TBL_of 1148 rfl rfl
theorem mv_X5_fails : MV yX5_fails cX5_fails 1 (some .boolean) 0 := ⟨tc_X5_fails, TBL_of 1147 (by decide +kernel) rfl, TBL_of 59 (by decide +kernel) rfl, ti_X5, ⟨by decide +kernel, by decide +kernel, by decide +kernel⟩⟩
set_option maxRecDepth 100000 in
theorem tc_X5_isTwo : Cond.code yX5_isTwo cX5_isTwo 3 (some .boolean) ∈ TBL := TBL_of 1152 rfl rfl
theorem mv_X5_isTwo : MV yX5_isTwo cX5_isTwo 3 (some .boolean) 2 := ⟨tc_X5_isTwo, TBL_of 1151 (by decide +kernel) rfl, TBL_of 60 (by decide +kernel) rfl, ti_X5, ⟨by decide +kernel, by decide +kernel, by decide +kernel⟩⟩
set_option maxRecDepth 100000 in
theorem tc_X5_perhaps : Cond.code yX5_perhaps cX5_perhaps 5 (some .boolean) ∈ TBL := TBL_of 1156 rfl rfl
theorem mv_X5_perhaps : MV yX5_perhaps cX5_perhaps 5 (some .boolean) 4 := ⟨tc_X5_perhaps, TBL_of 1155 (by decide +kernel) rfl, TBL_of 61 (by decide +kernel) rfl, ti_X5, ⟨by decide +kernel, by decide +kernel, by decide +kernel⟩⟩
set_option maxRecDepth 100000 in
theorem tc_X5_isNumber : Cond.code yX5_isNumber cX5_isNumber 3 (some .boolean) ∈ TBL := TBL_of 1160 rfl rfl
theorem mv_X5_isNumber : MV yX5_isNumber cX5_isNumber 3 (some .boolean) 2 := ⟨tc_X5_isNumber, TBL_of 1159 (by decide +kernel) rfl, TBL_of 62 (by decide +kernel) rfl, ti_X5, ⟨by decide +kernel, by decide +kernel, by decide +kernel⟩⟩
set_option maxRecDepth 100000 in
theorem tc_X5_pageHere : Cond.code yX5_pageHere cX5_pageHere 3 (some .boolean) ∈ TBL := TBL_of 1164 rfl rfl
theorem mv_X5_pageHere : MV yX5_pageHere cX5_pageHere 3 (some .boolean) 0 := ⟨tc_X5_pageHere, TBL_of 1163 (by decide +kernel) rfl, TBL_of 63 (by decide +kernel) rfl, ti_X5, ⟨by decide +kernel, by decide +kernel, by decide +kernel⟩⟩
set_option maxRecDepth 100000 in
theorem tc_X5_empties : Cond.code yX5_empties cX5_empties 3 none ∈ TBL := TBL_of 1168 rfl rfl
theorem mv_X5_empties : MV yX5_empties cX5_empties 3 none 1 := ⟨tc_X5_empties, TBL_of 1167 (by decide +kernel) rfl, TBL_of 64 (by decide +kernel) rfl, ti_X5, ⟨by decide +kernel, by decide +kernel, by decide +kernel⟩⟩
set_option maxRecDepth 100000 in
theorem tc_X5_emptyHere : Cond.code yX5_emptyHere cX5_emptyHere 1 (some .boolean) ∈ TBL := TBL_of 1172 rfl rfl
theorem mv_X5_emptyHere : MV yX5_emptyHere cX5_emptyHere 1 (some .boolean) 0 := ⟨tc_X5_emptyHere, TBL_of 1171 (by decide +kernel) rfl, TBL_of 65 (by decide +kernel) rfl, ti_X5, ⟨by decide +kernel, by decide +kernel, by decide +kernel⟩⟩
set_option maxRecDepth 100000 in
theorem tc_X5_hold : Cond.code yX5_hold cX5_hold 3 (some .int) ∈ TBL := TBL_of 1176 rfl rfl
theorem mv_X5_hold : MV yX5_hold cX5_hold 3 (some .int) 2 := ⟨tc_X5_hold, TBL_of 1174 (by decide +kernel) rfl, TBL_of 1175 (by decide +kernel) rfl, ti_X5, ⟨by decide +kernel, by decide +kernel, by decide +kernel⟩⟩
set_option maxRecDepth 100000 in
theorem tc_X5_as : Cond.code yX5_as cX5_as 4 (some .int) ∈ TBL := TBL_of 1180 rfl rfl
theorem mv_X5_as : MV yX5_as cX5_as 4 (some .int) 2 := ⟨tc_X5_as, TBL_of 1178 (by decide +kernel) rfl, TBL_of 1179 (by decide +kernel) rfl, ti_X5, ⟨by decide +kernel, by decide +kernel, by decide +kernel⟩⟩
set_option maxRecDepth 100000 in
theorem tc_X5_isUnder : Cond.code yX5_isUnder cX5_isUnder 2 (some .boolean) ∈ TBL := TBL_of 1183 rfl rfl
theorem ms_X5_isUnder : MS yX5_isUnder cX5_isUnder 2 (some .boolean) 2 := ⟨tc_X5_isUnder, TBL_of 1182 (by decide +kernel) rfl, ti_X5, ⟨by decide +kernel, by decide +kernel, by decide +kernel⟩⟩
set_option maxRecDepth 100000 in
theorem tc_X5_sheet : Cond.code yX5_sheet cX5_sheet 5 (some .int) ∈ TBL := TBL_of 1188 rfl rfl
theorem mv_X5_sheet : MV yX5_sheet cX5_sheet 5 (some .int) 3 := ⟨tc_X5_sheet, TBL_of 1186 (by decide +kernel) rfl, TBL_of 1187 (by decide +kernel) rfl, ti_X5, ⟨by decide +kernel, by decide +kernel, by decide +kernel⟩⟩
set_option maxRecDepth 100000 in
theorem tc_X5_write : Cond.code yX5_write cX5_write 4 (some .int) ∈ TBL := TBL_of 1193 rfl rfl
theorem mv_X5_write : MV yX5_write cX5_write 4 (some .int) 3 := ⟨tc_X5_write, TBL_of 1191 (by decide +kernel) rfl, TBL_of 1192 (by decide +kernel) rfl, ti_X5, ⟨by decide +kernel, by decide +kernel, by decide +kernel⟩⟩
set_option maxRecDepth 100000 in
theorem tc_X5_copy : Cond.code yX5_copy cX5_copy 10 (some .int) ∈ TBL := TBL_of 1197 rfl rfl
theorem mv_X5_copy : MV yX5_copy cX5_copy 10 (some .int) 5 := ⟨tc_X5_copy, TBL_of 1195 (by decide +kernel) rfl, TBL_of 1196 (by decide +kernel) rfl, ti_X5, ⟨by decide +kernel, by decide +kernel, by decide +kernel⟩⟩
set_option maxRecDepth 100000 in
theorem tc_X5_load : Cond.code yX5_load cX5_load 3 (some .int) ∈ TBL := TBL_of 1201 rfl rfl
theorem mv_X5_load : MV yX5_load cX5_load 3 (some .int) 1 := ⟨tc_X5_load, TBL_of 1199 (by decide +kernel) rfl, TBL_of 1200 (by decide +kernel) rfl, ti_X5, ⟨by decide +kernel, by decide +kernel, by decide +kernel⟩⟩
set_option maxRecDepth 100000 in
theorem tc_X5_judge : Cond.code yX5_judge cX5_judge 3 (some .int) ∈ TBL := TBL_of 1205 rfl rfl
theorem mv_X5_judge : MV yX5_judge cX5_judge 3 (some .int) 1 := ⟨tc_X5_judge, TBL_of 1203 (by decide +kernel) rfl, TBL_of 1204 (by decide +kernel) rfl, ti_X5, ⟨by decide +kernel, by decide +kernel, by decide +kernel⟩⟩
set_option maxRecDepth 100000 in
theorem tc_X5_image : Cond.code yX5_image cX5_image 1 (some .int) ∈ TBL := TBL_of 1209 rfl rfl
theorem mv_X5_image : MV yX5_image cX5_image 1 (some .int) 0 := ⟨tc_X5_image, TBL_of 1207 (by decide +kernel) rfl, TBL_of 1208 (by decide +kernel) rfl, ti_X5, ⟨by decide +kernel, by decide +kernel, by decide +kernel⟩⟩
set_option maxRecDepth 100000 in
theorem tc_X5_undo : Cond.code yX5_undo cX5_undo 1 (some .int) ∈ TBL := TBL_of 1213 rfl rfl
theorem mv_X5_undo : MV yX5_undo cX5_undo 1 (some .int) 0 := ⟨tc_X5_undo, TBL_of 1211 (by decide +kernel) rfl, TBL_of 1212 (by decide +kernel) rfl, ti_X5, ⟨by decide +kernel, by decide +kernel, by decide +kernel⟩⟩
set_option maxRecDepth 100000 in
theorem tc_X5_tear : Cond.code yX5_tear cX5_tear 2 (some .int) ∈ TBL := TBL_of 1217 rfl rfl
theorem mv_X5_tear : MV yX5_tear cX5_tear 2 (some .int) 0 := ⟨tc_X5_tear, TBL_of 1215 (by decide +kernel) rfl, TBL_of 1216 (by decide +kernel) rfl, ti_X5, ⟨by decide +kernel, by decide +kernel, by decide +kernel⟩⟩
set_option maxRecDepth 100000 in
theorem tc_X5_count : Cond.code yX5_count cX5_count 4 (some .int) ∈ TBL := TBL_of 1221 rfl rfl
theorem mv_X5_count : MV yX5_count cX5_count 4 (some .int) 1 := ⟨tc_X5_count, TBL_of 1219 (by decide +kernel) rfl, TBL_of 1220 (by decide +kernel) rfl, ti_X5, ⟨by decide +kernel, by decide +kernel, by decide +kernel⟩⟩
set_option maxRecDepth 100000 in
theorem tc_X5_status : Cond.code yX5_status cX5_status 2 (some .int) ∈ TBL := TBL_of 1225 rfl rfl
theorem mv_X5_status : MV yX5_status cX5_status 2 (some .int) 1 := ⟨tc_X5_status, TBL_of 1223 (by decide +kernel) rfl, TBL_of 1224 (by decide +kernel) rfl, ti_X5, ⟨by decide +kernel, by decide +kernel, by decide +kernel⟩⟩
theorem lk_L_9 : Cond.methodLink RL 9 yX4_init ∈ TBL := TBL_of 82 (by decide +kernel) rfl
theorem lk_X4_11 : Cond.methodLink RX4 11 yX0_init ∈ TBL := TBL_of 90 (by decide +kernel) rfl
theorem fl_X0_9 : Cond.fieldLink RX0 9 RX0 "words" "[I" ∈ TBL := TBL_of 94 (by decide +kernel) rfl
theorem fl_X0_15 : Cond.fieldLink RX0 15 RX0 "traits" "[I" ∈ TBL := TBL_of 95 (by decide +kernel) rfl
theorem fl_X0_18 : Cond.fieldLink RX0 18 RX0 "spots" "[I" ∈ TBL := TBL_of 96 (by decide +kernel) rfl
theorem fl_X4_233 : Cond.fieldLink RX4 233 RX0 "spots" "[I" ∈ TBL := TBL_of 97 (by decide +kernel) rfl
theorem fl_X0_21 : Cond.fieldLink RX0 21 RX0 "moths" "I" ∈ TBL := TBL_of 98 (by decide +kernel) rfl
theorem fl_X4_175 : Cond.fieldLink RX4 175 RX0 "moths" "I" ∈ TBL := TBL_of 99 (by decide +kernel) rfl
theorem fl_X0_25 : Cond.fieldLink RX0 25 RX0 "night" "I" ∈ TBL := TBL_of 100 (by decide +kernel) rfl
theorem fl_X4_126 : Cond.fieldLink RX4 126 RX0 "night" "I" ∈ TBL := TBL_of 101 (by decide +kernel) rfl
theorem fl_X0_28 : Cond.fieldLink RX0 28 RX0 "z" "I" ∈ TBL := TBL_of 102 (by decide +kernel) rfl
theorem fl_X4_213 : Cond.fieldLink RX4 213 RX0 "z" "I" ∈ TBL := TBL_of 103 (by decide +kernel) rfl
theorem fl_X3_9 : Cond.fieldLink RX3 9 RX3 "bytes" "[B" ∈ TBL := TBL_of 124 (by decide +kernel) rfl
theorem fl_X3_15 : Cond.fieldLink RX3 15 RX3 "size" "I" ∈ TBL := TBL_of 125 (by decide +kernel) rfl
theorem fl_X4_216 : Cond.fieldLink RX4 216 RX3 "size" "I" ∈ TBL := TBL_of 126 (by decide +kernel) rfl
theorem fl_X3_19 : Cond.fieldLink RX3 19 RX3 "token" "I" ∈ TBL := TBL_of 127 (by decide +kernel) rfl
theorem fl_X3_22 : Cond.fieldLink RX3 22 RX3 "begin" "I" ∈ TBL := TBL_of 128 (by decide +kernel) rfl
theorem fl_X3_25 : Cond.fieldLink RX3 25 RX3 "end" "I" ∈ TBL := TBL_of 129 (by decide +kernel) rfl
theorem fl_X3_28 : Cond.fieldLink RX3 28 RX3 "value" "I" ∈ TBL := TBL_of 130 (by decide +kernel) rfl
theorem fl_X2_9 : Cond.fieldLink RX2 9 RX2 "numbers" "[I" ∈ TBL := TBL_of 152 (by decide +kernel) rfl
theorem fl_X4_255 : Cond.fieldLink RX4 255 RX2 "numbers" "[I" ∈ TBL := TBL_of 153 (by decide +kernel) rfl
theorem fl_X2_15 : Cond.fieldLink RX2 15 RX2 "bits" "I" ∈ TBL := TBL_of 154 (by decide +kernel) rfl
theorem fl_X4_249 : Cond.fieldLink RX4 249 RX2 "bits" "I" ∈ TBL := TBL_of 155 (by decide +kernel) rfl
theorem fl_X2_19 : Cond.fieldLink RX2 19 RX2 "size" "I" ∈ TBL := TBL_of 156 (by decide +kernel) rfl
theorem fl_X4_245 : Cond.fieldLink RX4 245 RX2 "size" "I" ∈ TBL := TBL_of 157 (by decide +kernel) rfl
theorem fl_X4_12 : Cond.fieldLink RX4 12 RX4 "live" "LMothTongue$Drawer;" ∈ TBL := TBL_of 165 (by decide +kernel) rfl
theorem fl_X4_16 : Cond.fieldLink RX4 16 RX4 "kept" "LMothTongue$Drawer;" ∈ TBL := TBL_of 166 (by decide +kernel) rfl
theorem fl_X4_19 : Cond.fieldLink RX4 19 RX4 "trial" "LMothTongue$Drawer;" ∈ TBL := TBL_of 167 (by decide +kernel) rfl
theorem fl_X4_22 : Cond.fieldLink RX4 22 RX4 "eve" "LMothTongue$Drawer;" ∈ TBL := TBL_of 168 (by decide +kernel) rfl
theorem fl_X4_28 : Cond.fieldLink RX4 28 RX4 "tape" "LMothTongue$Tape;" ∈ TBL := TBL_of 169 (by decide +kernel) rfl
theorem fl_X4_34 : Cond.fieldLink RX4 34 RX4 "sheets" "[LMothTongue$Sheet;" ∈ TBL := TBL_of 170 (by decide +kernel) rfl
theorem fl_X4_38 : Cond.fieldLink RX4 38 RX4 "findings" "[I" ∈ TBL := TBL_of 171 (by decide +kernel) rfl
theorem fl_X4_42 : Cond.fieldLink RX4 42 RX4 "isKept" "Z" ∈ TBL := TBL_of 172 (by decide +kernel) rfl
theorem lk_L_13 : Cond.methodLink RL 13 yX4_word ∈ TBL := TBL_of 190 (by decide +kernel) rfl
theorem lk_X4_47 : Cond.methodLink RX4 47 yX4_isPage ∈ TBL := TBL_of 194 (by decide +kernel) rfl
theorem lk_X4_99 : Cond.methodLink RX4 99 yX4_within ∈ TBL := TBL_of 197 (by decide +kernel) rfl
theorem lk_X4_51 : Cond.methodLink RX4 51 yX4_isPlace ∈ TBL := TBL_of 200 (by decide +kernel) rfl
theorem lk_X4_54 : Cond.methodLink RX4 54 yX4_isWord ∈ TBL := TBL_of 203 (by decide +kernel) rfl
theorem cs_X4_57 : Cond.constant RX4 57 (-1000001) ∈ TBL := TBL_of 206 (by decide +kernel) rfl
theorem lk_X4_58 : Cond.methodLink RX4 58 yX4_finding ∈ TBL := TBL_of 207 (by decide +kernel) rfl
theorem lk_X4_62 : Cond.methodLink RX4 62 yX0_wordAt ∈ TBL := TBL_of 211 (by decide +kernel) rfl
theorem lk_X4_66 : Cond.methodLink RX4 66 yX0_setWord ∈ TBL := TBL_of 215 (by decide +kernel) rfl
theorem lk_L_18 : Cond.methodLink RL 18 yX4_reads ∈ TBL := TBL_of 219 (by decide +kernel) rfl
theorem lk_L_23 : Cond.methodLink RL 23 yX4_page ∈ TBL := TBL_of 223 (by decide +kernel) rfl
theorem lk_X4_70 : Cond.methodLink RX4 70 yX0_saidBy ∈ TBL := TBL_of 227 (by decide +kernel) rfl
theorem lk_X0_41 : Cond.methodLink RX0 41 yX0_wordAt ∈ TBL := TBL_of 231 (by decide +kernel) rfl
theorem lk_X4_73 : Cond.methodLink RX4 73 yX0_holesOf ∈ TBL := TBL_of 232 (by decide +kernel) rfl
theorem lk_X0_45 : Cond.methodLink RX0 45 yX0_placesWithWords ∈ TBL := TBL_of 236 (by decide +kernel) rfl
theorem lk_X0_49 : Cond.methodLink RX0 49 yJ6_bitCount_0f7a4 ∈ TBL := TBL_of 240 (by decide +kernel) rfl
theorem cs_J6_265 : Cond.constant RJ6 265 (1431655765) ∈ TBL := TBL_of 243 (by decide +kernel) rfl
theorem cs_J6_266 : Cond.constant RJ6 266 (858993459) ∈ TBL := TBL_of 244 (by decide +kernel) rfl
theorem cs_J6_267 : Cond.constant RJ6 267 (252645135) ∈ TBL := TBL_of 245 (by decide +kernel) rfl
theorem lk_X4_76 : Cond.methodLink RX4 76 yX0_mothsOn ∈ TBL := TBL_of 246 (by decide +kernel) rfl
theorem lk_X0_74 : Cond.methodLink RX0 74 yX0_trait ∈ TBL := TBL_of 250 (by decide +kernel) rfl
theorem lk_X4_79 : Cond.methodLink RX4 79 yX0_placesWithWords ∈ TBL := TBL_of 254 (by decide +kernel) rfl
theorem lk_L_27 : Cond.methodLink RL 27 yX4_copied ∈ TBL := TBL_of 255 (by decide +kernel) rfl
theorem lk_X4_82 : Cond.methodLink RX4 82 yX0_copyPage ∈ TBL := TBL_of 259 (by decide +kernel) rfl
theorem lk_X0_54 : Cond.methodLink RX0 54 yX0_unlikePlaces ∈ TBL := TBL_of 263 (by decide +kernel) rfl
theorem lk_X0_31 : Cond.methodLink RX0 31 arraycopyName ∈ TBL := TBL_of 267 (by decide +kernel) rfl
theorem lk_L_31 : Cond.methodLink RL 31 yX4_moth ∈ TBL := TBL_of 270 (by decide +kernel) rfl
theorem lk_X4_85 : Cond.methodLink RX4 85 yX4_isKind ∈ TBL := TBL_of 274 (by decide +kernel) rfl
theorem lk_X4_88 : Cond.methodLink RX4 88 yX0_isFull ∈ TBL := TBL_of 277 (by decide +kernel) rfl
theorem cs_X4_92 : Cond.constant RX4 92 (-1000002) ∈ TBL := TBL_of 281 (by decide +kernel) rfl
theorem lk_X4_93 : Cond.methodLink RX4 93 yX0_addMoth ∈ TBL := TBL_of 282 (by decide +kernel) rfl
theorem lk_X0_71 : Cond.methodLink RX0 71 yX0_setTrait ∈ TBL := TBL_of 286 (by decide +kernel) rfl
theorem lk_L_35 : Cond.methodLink RL 35 yX4_of ∈ TBL := TBL_of 290 (by decide +kernel) rfl
theorem lk_X4_96 : Cond.methodLink RX4 96 yX4_isMoth ∈ TBL := TBL_of 294 (by decide +kernel) rfl
theorem lk_X4_103 : Cond.methodLink RX4 103 yX0_bittenPlace ∈ TBL := TBL_of 298 (by decide +kernel) rfl
theorem lk_X0_80 : Cond.methodLink RX0 80 yX1_bittenPlace ∈ TBL := TBL_of 302 (by decide +kernel) rfl
theorem lk_X1_15 : Cond.methodLink RX1 15 yX1_firstWord ∈ TBL := TBL_of 305 (by decide +kernel) rfl
theorem lk_X1_19 : Cond.methodLink RX1 19 yX1_lastWord ∈ TBL := TBL_of 308 (by decide +kernel) rfl
theorem lk_X1_22 : Cond.methodLink RX1 22 yX1_firstOfParity ∈ TBL := TBL_of 311 (by decide +kernel) rfl
theorem lk_X1_26 : Cond.methodLink RX1 26 yX1_firstLike ∈ TBL := TBL_of 314 (by decide +kernel) rfl
theorem lk_X4_106 : Cond.methodLink RX4 106 yX0_trait ∈ TBL := TBL_of 317 (by decide +kernel) rfl
theorem lk_L_39 : Cond.methodLink RL 39 yX4_change ∈ TBL := TBL_of 318 (by decide +kernel) rfl
theorem fl_X4_109 : Cond.fieldLink RX4 109 RX4 "LEAST_TRAIT" "[I" ∈ TBL := TBL_of 322 (by decide +kernel) rfl
theorem fl_X4_112 : Cond.fieldLink RX4 112 RX4 "MOST_TRAIT" "[I" ∈ TBL := TBL_of 324 (by decide +kernel) rfl
theorem lk_X4_115 : Cond.methodLink RX4 115 yX0_setTrait ∈ TBL := TBL_of 326 (by decide +kernel) rfl
theorem lk_L_43 : Cond.methodLink RL 43 yX4_leaves ∈ TBL := TBL_of 327 (by decide +kernel) rfl
theorem lk_X4_118 : Cond.methodLink RX4 118 yX1_leftOf ∈ TBL := TBL_of 331 (by decide +kernel) rfl
theorem lk_X1_29 : Cond.methodLink RX1 29 yJ9_max_7cf53 ∈ TBL := TBL_of 334 (by decide +kernel) rfl
theorem lk_X1_35 : Cond.methodLink RX1 35 yX1_learnedLeft ∈ TBL := TBL_of 337 (by decide +kernel) rfl
theorem lk_X1_39 : Cond.methodLink RX1 39 yJ9_min_7cf53 ∈ TBL := TBL_of 340 (by decide +kernel) rfl
theorem lk_X4_123 : Cond.methodLink RX4 123 yX1_gainBy ∈ TBL := TBL_of 343 (by decide +kernel) rfl
theorem lk_L_47 : Cond.methodLink RL 47 yX4_go ∈ TBL := TBL_of 346 (by decide +kernel) rfl
theorem cs_X4_130 : Cond.constant RX4 130 (99999) ∈ TBL := TBL_of 350 (by decide +kernel) rfl
theorem cs_X4_131 : Cond.constant RX4 131 (-1000005) ∈ TBL := TBL_of 351 (by decide +kernel) rfl
theorem lk_X4_132 : Cond.methodLink RX4 132 yX0_passNights ∈ TBL := TBL_of 352 (by decide +kernel) rfl
theorem lk_X0_96 : Cond.methodLink RX0 96 yX0_bite ∈ TBL := TBL_of 356 (by decide +kernel) rfl
theorem lk_X0_77 : Cond.methodLink RX0 77 yX0_bittenPlace ∈ TBL := TBL_of 360 (by decide +kernel) rfl
theorem lk_X0_85 : Cond.methodLink RX0 85 yX1_leftOf ∈ TBL := TBL_of 361 (by decide +kernel) rfl
theorem lk_X0_37 : Cond.methodLink RX0 37 yX0_setWord ∈ TBL := TBL_of 362 (by decide +kernel) rfl
theorem lk_X0_88 : Cond.methodLink RX0 88 yX1_gainBy ∈ TBL := TBL_of 363 (by decide +kernel) rfl
theorem lk_X0_91 : Cond.methodLink RX0 91 yJ9_min_7cf53 ∈ TBL := TBL_of 364 (by decide +kernel) rfl
theorem cs_X0_100 : Cond.constant RX0 100 (99999) ∈ TBL := TBL_of 365 (by decide +kernel) rfl
theorem lk_X4_136 : Cond.methodLink RX4 136 yX0_allHoles ∈ TBL := TBL_of 366 (by decide +kernel) rfl
theorem lk_X0_61 : Cond.methodLink RX0 61 yX0_holesOf ∈ TBL := TBL_of 370 (by decide +kernel) rfl
theorem lk_L_52 : Cond.methodLink RL 52 yX4_now ∈ TBL := TBL_of 371 (by decide +kernel) rfl
theorem lk_X4_140 : Cond.methodLink RX4 140 yX0_allSaid ∈ TBL := TBL_of 375 (by decide +kernel) rfl
theorem lk_X0_64 : Cond.methodLink RX0 64 yX0_saidBy ∈ TBL := TBL_of 379 (by decide +kernel) rfl
theorem lk_X4_143 : Cond.methodLink RX4 143 yX0_allFed ∈ TBL := TBL_of 380 (by decide +kernel) rfl
theorem lk_X4_146 : Cond.methodLink RX4 146 yX0_idleMoths ∈ TBL := TBL_of 384 (by decide +kernel) rfl
theorem lk_X4_149 : Cond.methodLink RX4 149 yX0_barePages ∈ TBL := TBL_of 388 (by decide +kernel) rfl
theorem lk_X0_67 : Cond.methodLink RX0 67 yX0_isBare ∈ TBL := TBL_of 392 (by decide +kernel) rfl
theorem lk_L_56 : Cond.methodLink RL 56 yX4_ahead ∈ TBL := TBL_of 396 (by decide +kernel) rfl
theorem lk_X4_152 : Cond.methodLink RX4 152 yX4_lookAhead ∈ TBL := TBL_of 400 (by decide +kernel) rfl
theorem lk_X4_156 : Cond.methodLink RX4 156 yX0_become ∈ TBL := TBL_of 404 (by decide +kernel) rfl
theorem lk_L_60 : Cond.methodLink RL 60 yX4_says ∈ TBL := TBL_of 408 (by decide +kernel) rfl
theorem lk_L_64 : Cond.methodLink RL 64 yX4_fed ∈ TBL := TBL_of 412 (by decide +kernel) rfl
theorem lk_L_68 : Cond.methodLink RL 68 yX4_bare ∈ TBL := TBL_of 416 (by decide +kernel) rfl
theorem lk_X4_160 : Cond.methodLink RX4 160 yX0_isBare ∈ TBL := TBL_of 420 (by decide +kernel) rfl
theorem cs_X4_163 : Cond.constant RX4 163 (-1000004) ∈ TBL := TBL_of 421 (by decide +kernel) rfl
theorem lk_L_72 : Cond.methodLink RL 72 yX4_when ∈ TBL := TBL_of 422 (by decide +kernel) rfl
theorem lk_L_76 : Cond.methodLink RL 76 yX4_settles ∈ TBL := TBL_of 426 (by decide +kernel) rfl
theorem lk_X4_164 : Cond.methodLink RX4 164 yX0_hasPagesOf ∈ TBL := TBL_of 430 (by decide +kernel) rfl
theorem lk_X0_57 : Cond.methodLink RX0 57 yX0_hasPageOf ∈ TBL := TBL_of 434 (by decide +kernel) rfl
theorem lk_L_81 : Cond.methodLink RL 81 yX4_alike ∈ TBL := TBL_of 438 (by decide +kernel) rfl
theorem lk_X4_168 : Cond.methodLink RX4 168 yX0_unlikePlaces ∈ TBL := TBL_of 442 (by decide +kernel) rfl
theorem lk_L_85 : Cond.methodLink RL 85 yX4_put ∈ TBL := TBL_of 443 (by decide +kernel) rfl
theorem lk_X4_171 : Cond.methodLink RX4 171 yX4_bestTrait ∈ TBL := TBL_of 447 (by decide +kernel) rfl
theorem lk_L_89 : Cond.methodLink RL 89 yX4_tasteFor ∈ TBL := TBL_of 451 (by decide +kernel) rfl
theorem lk_L_93 : Cond.methodLink RL 93 yX4_kindFor ∈ TBL := TBL_of 455 (by decide +kernel) rfl
theorem lk_L_97 : Cond.methodLink RL 97 yX4_swapFor ∈ TBL := TBL_of 459 (by decide +kernel) rfl
theorem lk_X4_178 : Cond.methodLink RX4 178 yX0_swapPages ∈ TBL := TBL_of 463 (by decide +kernel) rfl
theorem lk_L_101 : Cond.methodLink RL 101 yX4_out ∈ TBL := TBL_of 467 (by decide +kernel) rfl
theorem lk_X4_181 : Cond.methodLink RX4 181 yJ6_bitCount_0f7a4 ∈ TBL := TBL_of 471 (by decide +kernel) rfl
theorem lk_X4_186 : Cond.methodLink RX4 186 yX4_staysWithout ∈ TBL := TBL_of 472 (by decide +kernel) rfl
theorem lk_X4_272 : Cond.methodLink RX4 272 yX0_hasPageOf ∈ TBL := TBL_of 476 (by decide +kernel) rfl
theorem lk_L_105 : Cond.methodLink RL 105 yX4_fits ∈ TBL := TBL_of 477 (by decide +kernel) rfl
theorem lk_X4_189 : Cond.methodLink RX4 189 yX4_isSheet ∈ TBL := TBL_of 481 (by decide +kernel) rfl
theorem lk_X4_192 : Cond.methodLink RX4 192 yX2_isMissing ∈ TBL := TBL_of 484 (by decide +kernel) rfl
theorem cs_X4_195 : Cond.constant RX4 195 (-1000006) ∈ TBL := TBL_of 488 (by decide +kernel) rfl
theorem lk_X4_196 : Cond.methodLink RX4 196 yX4_isPageAsTold ∈ TBL := TBL_of 489 (by decide +kernel) rfl
theorem lk_X4_264 : Cond.methodLink RX4 264 yJ9_min_7cf53 ∈ TBL := TBL_of 493 (by decide +kernel) rfl
theorem lk_L_110 : Cond.methodLink RL 110 yX4_kinds ∈ TBL := TBL_of 494 (by decide +kernel) rfl
theorem lk_X4_200 : Cond.methodLink RX4 200 yX4_isFedAsTold ∈ TBL := TBL_of 498 (by decide +kernel) rfl
theorem lk_L_114 : Cond.methodLink RL 114 yX4_lights ∈ TBL := TBL_of 502 (by decide +kernel) rfl
theorem lk_X4_203 : Cond.methodLink RX4 203 yX0_leaveLightOn ∈ TBL := TBL_of 506 (by decide +kernel) rfl
theorem lk_X0_102 : Cond.methodLink RX0 102 yX0_draw ∈ TBL := TBL_of 510 (by decide +kernel) rfl
theorem cs_X0_101 : Cond.constant RX0 101 (1103515245) ∈ TBL := TBL_of 514 (by decide +kernel) rfl
theorem lk_L_118 : Cond.methodLink RL 118 yX4_odds ∈ TBL := TBL_of 515 (by decide +kernel) rfl
theorem lk_X4_206 : Cond.methodLink RX4 206 yX4_commonDivisor ∈ TBL := TBL_of 519 (by decide +kernel) rfl
theorem lk_X4_209 : Cond.methodLink RX4 209 yX4_power ∈ TBL := TBL_of 522 (by decide +kernel) rfl
theorem lk_L_123 : Cond.methodLink RL 123 yX4_seed ∈ TBL := TBL_of 525 (by decide +kernel) rfl
theorem lk_L_127 : Cond.methodLink RL 127 yX4_feed ∈ TBL := TBL_of 529 (by decide +kernel) rfl
theorem lk_X4_219 : Cond.methodLink RX4 219 yX3_append ∈ TBL := TBL_of 533 (by decide +kernel) rfl
theorem lk_L_131 : Cond.methodLink RL 131 yX4_wipe ∈ TBL := TBL_of 537 (by decide +kernel) rfl
theorem lk_X4_223 : Cond.methodLink RX4 223 yX3_empty ∈ TBL := TBL_of 541 (by decide +kernel) rfl
theorem lk_L_135 : Cond.methodLink RL 135 yX4_text ∈ TBL := TBL_of 545 (by decide +kernel) rfl
theorem lk_X4_226 : Cond.methodLink RX4 226 yX3_readInto ∈ TBL := TBL_of 549 (by decide +kernel) rfl
theorem lk_X3_31 : Cond.methodLink RX3 31 yX3_step ∈ TBL := TBL_of 553 (by decide +kernel) rfl
theorem lk_X3_34 : Cond.methodLink RX3 34 yX3_readItem ∈ TBL := TBL_of 557 (by decide +kernel) rfl
theorem lk_X3_40 : Cond.methodLink RX3 40 yX3_isName ∈ TBL := TBL_of 562 (by decide +kernel) rfl
theorem lk_X3_106 : Cond.methodLink RX3 106 yJ0_length_8abf5 ∈ TBL := TBL_of 566 (by decide +kernel) rfl
theorem lk_J0_335 : Cond.methodLink RJ0 335 yJ0_coder_7d493 ∈ TBL := TBL_of 570 (by decide +kernel) rfl
theorem fl_J0_38 : Cond.fieldLink RJ0 38 RJ0 "COMPACT_STRINGS" "Z" ∈ TBL := TBL_of 574 (by decide +kernel) rfl
theorem lk_X3_112 : Cond.methodLink RX3 112 yJ0_charAt_5068e ∈ TBL := TBL_of 576 (by decide +kernel) rfl
theorem lk_J0_492 : Cond.methodLink RJ0 492 yJ0_isLatin1_aae02 ∈ TBL := TBL_of 580 (by decide +kernel) rfl
theorem lk_J0_495 : Cond.methodLink RJ0 495 yJ1_charAt_3b067 ∈ TBL := TBL_of 584 (by decide +kernel) rfl
theorem lk_J1_9 : Cond.methodLink RJ1 9 yJ0_checkIndex_df160 ∈ TBL := TBL_of 587 (by decide +kernel) rfl
theorem fl_J0_1053 : Cond.fieldLink RJ0 1053 RJ3 "SIOOBE_FORMATTER" "Ljava/util/function/BiFunction;" ∈ TBL := TBL_of 590 (by decide +kernel) rfl
theorem lk_J0_1059 : Cond.methodLink RJ0 1059 yJ3_checkIndex_8e157 ∈ TBL := TBL_of 592 (by decide +kernel) rfl
theorem lk_J0_498 : Cond.methodLink RJ0 498 yJ2_charAt_3b067 ∈ TBL := TBL_of 595 (by decide +kernel) rfl
theorem lk_J2_67 : Cond.methodLink RJ2 67 yJ2_checkIndex_2214a ∈ TBL := TBL_of 598 (by decide +kernel) rfl
theorem lk_J2_48 : Cond.methodLink RJ2 48 yJ2_length_9d52b ∈ TBL := TBL_of 601 (by decide +kernel) rfl
theorem lk_J2_414 : Cond.methodLink RJ2 414 yJ0_checkIndex_df160 ∈ TBL := TBL_of 604 (by decide +kernel) rfl
theorem lk_J2_71 : Cond.methodLink RJ2 71 yJ2_getChar_3b067 ∈ TBL := TBL_of 605 (by decide +kernel) rfl
theorem fl_J2_44 : Cond.fieldLink RJ2 44 RJ2 "$assertionsDisabled" "Z" ∈ TBL := TBL_of 608 (by decide +kernel) rfl
theorem fl_J2_59 : Cond.fieldLink RJ2 59 RJ2 "HI_BYTE_SHIFT" "I" ∈ TBL := TBL_of 610 (by decide +kernel) rfl
theorem fl_J2_63 : Cond.fieldLink RJ2 63 RJ2 "LO_BYTE_SHIFT" "I" ∈ TBL := TBL_of 612 (by decide +kernel) rfl
theorem lk_X3_44 : Cond.methodLink RX3 44 yX3_readPage ∈ TBL := TBL_of 614 (by decide +kernel) rfl
theorem lk_X3_49 : Cond.methodLink RX3 49 yX3_takeBarePage ∈ TBL := TBL_of 618 (by decide +kernel) rfl
theorem lk_X3_88 : Cond.methodLink RX3 88 yX3_takeNumber ∈ TBL := TBL_of 622 (by decide +kernel) rfl
theorem lk_X3_98 : Cond.methodLink RX3 98 yX0_setHoles ∈ TBL := TBL_of 627 (by decide +kernel) rfl
theorem lk_X3_95 : Cond.methodLink RX3 95 yX0_setWord ∈ TBL := TBL_of 631 (by decide +kernel) rfl
theorem lk_X3_53 : Cond.methodLink RX3 53 yX3_kindName ∈ TBL := TBL_of 633 (by decide +kernel) rfl
theorem lk_X3_57 : Cond.methodLink RX3 57 yX3_readMoth ∈ TBL := TBL_of 643 (by decide +kernel) rfl
theorem lk_X3_61 : Cond.methodLink RX3 61 yX0_isFull ∈ TBL := TBL_of 647 (by decide +kernel) rfl
theorem lk_X3_67 : Cond.methodLink RX3 67 yX0_addMoth ∈ TBL := TBL_of 648 (by decide +kernel) rfl
theorem lk_X3_77 : Cond.methodLink RX3 77 yX3_readTrait ∈ TBL := TBL_of 651 (by decide +kernel) rfl
theorem lk_X3_91 : Cond.methodLink RX3 91 yX0_setTrait ∈ TBL := TBL_of 656 (by decide +kernel) rfl
theorem lk_L_139 : Cond.methodLink RL 139 yX4_hold ∈ TBL := TBL_of 659 (by decide +kernel) rfl
theorem lk_X4_230 : Cond.methodLink RX4 230 yX4_isSpot ∈ TBL := TBL_of 663 (by decide +kernel) rfl
theorem lk_L_143 : Cond.methodLink RL 143 yX4_as ∈ TBL := TBL_of 666 (by decide +kernel) rfl
theorem lk_X4_236 : Cond.methodLink RX4 236 yX1_isOneOf ∈ TBL := TBL_of 670 (by decide +kernel) rfl
theorem fl_X1_9 : Cond.fieldLink RX1 9 RX1 "UPPER" "[I" ∈ TBL := TBL_of 673 (by decide +kernel) rfl
theorem cs_X4_240 : Cond.constant RX4 240 (-1000003) ∈ TBL := TBL_of 675 (by decide +kernel) rfl
theorem lk_L_147 : Cond.methodLink RL 147 yX4_sheet ∈ TBL := TBL_of 676 (by decide +kernel) rfl
theorem cs_X4_241 : Cond.constant RX4 241 (-1000007) ∈ TBL := TBL_of 680 (by decide +kernel) rfl
theorem lk_X4_242 : Cond.methodLink RX4 242 yX2_make ∈ TBL := TBL_of 681 (by decide +kernel) rfl
theorem lk_L_151 : Cond.methodLink RL 151 yX4_write ∈ TBL := TBL_of 685 (by decide +kernel) rfl
theorem lk_X4_246 : Cond.methodLink RX4 246 yX2_set ∈ TBL := TBL_of 689 (by decide +kernel) rfl
theorem lk_L_155 : Cond.methodLink RL 155 yX4_copy ∈ TBL := TBL_of 693 (by decide +kernel) rfl
theorem lk_X4_252 : Cond.methodLink RX4 252 yX2_hasRun ∈ TBL := TBL_of 697 (by decide +kernel) rfl
theorem lk_X4_258 : Cond.methodLink RX4 258 arraycopyName ∈ TBL := TBL_of 701 (by decide +kernel) rfl
theorem lk_L_160 : Cond.methodLink RL 160 yX4_load ∈ TBL := TBL_of 702 (by decide +kernel) rfl
theorem lk_L_164 : Cond.methodLink RL 164 yX4_judge ∈ TBL := TBL_of 706 (by decide +kernel) rfl
theorem lk_L_168 : Cond.methodLink RL 168 yX4_image ∈ TBL := TBL_of 710 (by decide +kernel) rfl
theorem lk_L_172 : Cond.methodLink RL 172 yX4_undo ∈ TBL := TBL_of 714 (by decide +kernel) rfl
theorem lk_L_176 : Cond.methodLink RL 176 yX4_tear ∈ TBL := TBL_of 718 (by decide +kernel) rfl
theorem lk_L_180 : Cond.methodLink RL 180 yX4_count ∈ TBL := TBL_of 722 (by decide +kernel) rfl
theorem lk_X4_269 : Cond.methodLink RX4 269 yX0_heldSpots ∈ TBL := TBL_of 726 (by decide +kernel) rfl
theorem lk_L_184 : Cond.methodLink RL 184 yX4_status ∈ TBL := TBL_of 730 (by decide +kernel) rfl
theorem lk_L_12 : Cond.methodLink RL 12 yX5_init ∈ TBL := TBL_of 736 (by decide +kernel) rfl
theorem fl_X5_7 : Cond.fieldLink RX5 7 RX5 "s" "[I" ∈ TBL := TBL_of 740 (by decide +kernel) rfl
theorem fl_X5_13 : Cond.fieldLink RX5 13 RX5 "kept" "[I" ∈ TBL := TBL_of 741 (by decide +kernel) rfl
theorem fl_X5_16 : Cond.fieldLink RX5 16 RX5 "before" "[I" ∈ TBL := TBL_of 742 (by decide +kernel) rfl
theorem fl_X5_19 : Cond.fieldLink RX5 19 RX5 "aside" "[I" ∈ TBL := TBL_of 743 (by decide +kernel) rfl
theorem fl_X5_301 : Cond.fieldLink RX5 301 RX5 "isKept" "Z" ∈ TBL := TBL_of 744 (by decide +kernel) rfl
theorem fl_X5_22 : Cond.fieldLink RX5 22 RX5 "findings" "[I" ∈ TBL := TBL_of 745 (by decide +kernel) rfl
theorem fl_X5_25 : Cond.fieldLink RX5 25 RX5 "tape" "[I" ∈ TBL := TBL_of 746 (by decide +kernel) rfl
theorem fl_X5_212 : Cond.fieldLink RX5 212 RX5 "taped" "I" ∈ TBL := TBL_of 747 (by decide +kernel) rfl
theorem fl_X5_28 : Cond.fieldLink RX5 28 RX5 "bitsOf" "[I" ∈ TBL := TBL_of 748 (by decide +kernel) rfl
theorem fl_X5_31 : Cond.fieldLink RX5 31 RX5 "sizes" "[I" ∈ TBL := TBL_of 749 (by decide +kernel) rfl
theorem fl_X5_34 : Cond.fieldLink RX5 34 RX5 "numbers" "[I" ∈ TBL := TBL_of 750 (by decide +kernel) rfl
theorem fl_X5_37 : Cond.fieldLink RX5 37 RX5 "words" "[I" ∈ TBL := TBL_of 751 (by decide +kernel) rfl
theorem fl_X5_231 : Cond.fieldLink RX5 231 RX5 "token" "I" ∈ TBL := TBL_of 752 (by decide +kernel) rfl
theorem fl_X5_219 : Cond.fieldLink RX5 219 RX5 "from" "I" ∈ TBL := TBL_of 753 (by decide +kernel) rfl
theorem fl_X5_216 : Cond.fieldLink RX5 216 RX5 "to" "I" ∈ TBL := TBL_of 754 (by decide +kernel) rfl
theorem fl_X5_234 : Cond.fieldLink RX5 234 RX5 "value" "I" ∈ TBL := TBL_of 755 (by decide +kernel) rfl
theorem fl_X5_237 : Cond.fieldLink RX5 237 RX5 "faultAt" "I" ∈ TBL := TBL_of 756 (by decide +kernel) rfl
theorem lk_L_17 : Cond.methodLink RL 17 yX5_word ∈ TBL := TBL_of 792 (by decide +kernel) rfl
theorem lk_X5_50 : Cond.methodLink RX5 50 yX5_isPlace ∈ TBL := TBL_of 796 (by decide +kernel) rfl
theorem lk_X5_41 : Cond.methodLink RX5 41 yX5_isPage ∈ TBL := TBL_of 799 (by decide +kernel) rfl
theorem cl_X5_54 : Cond.constantLong RX5 54 (9) ∈ TBL := TBL_of 802 (by decide +kernel) rfl
theorem lk_X5_56 : Cond.methodLink RX5 56 yX5_isIn ∈ TBL := TBL_of 803 (by decide +kernel) rfl
theorem lk_X5_60 : Cond.methodLink RX5 60 yX5_becomes ∈ TBL := TBL_of 806 (by decide +kernel) rfl
theorem cs_X5_40 : Cond.constant RX5 40 (-1000001) ∈ TBL := TBL_of 810 (by decide +kernel) rfl
theorem lk_X5_46 : Cond.methodLink RX5 46 yX5_finds ∈ TBL := TBL_of 811 (by decide +kernel) rfl
theorem lk_L_22 : Cond.methodLink RL 22 yX5_reads ∈ TBL := TBL_of 815 (by decide +kernel) rfl
theorem lk_X5_64 : Cond.methodLink RX5 64 yX5_wordAt ∈ TBL := TBL_of 819 (by decide +kernel) rfl
theorem lk_L_26 : Cond.methodLink RL 26 yX5_page ∈ TBL := TBL_of 823 (by decide +kernel) rfl
theorem cl_X5_70 : Cond.constantLong RX5 70 (3) ∈ TBL := TBL_of 827 (by decide +kernel) rfl
theorem lk_X5_72 : Cond.methodLink RX5 72 yX5_saysNow ∈ TBL := TBL_of 828 (by decide +kernel) rfl
theorem lk_X5_75 : Cond.methodLink RX5 75 yX5_whole ∈ TBL := TBL_of 832 (by decide +kernel) rfl
theorem lk_X5_78 : Cond.methodLink RX5 78 yX5_many ∈ TBL := TBL_of 836 (by decide +kernel) rfl
theorem lk_X5_81 : Cond.methodLink RX5 81 yX5_there ∈ TBL := TBL_of 839 (by decide +kernel) rfl
theorem lk_X5_67 : Cond.methodLink RX5 67 yX5_its ∈ TBL := TBL_of 843 (by decide +kernel) rfl
theorem lk_L_30 : Cond.methodLink RL 30 yX5_copied ∈ TBL := TBL_of 847 (by decide +kernel) rfl
theorem lk_L_34 : Cond.methodLink RL 34 yX5_moth ∈ TBL := TBL_of 851 (by decide +kernel) rfl
theorem cl_X5_87 : Cond.constantLong RX5 87 (6) ∈ TBL := TBL_of 855 (by decide +kernel) rfl
theorem cs_X5_89 : Cond.constant RX5 89 (-1000002) ∈ TBL := TBL_of 856 (by decide +kernel) rfl
theorem lk_X5_90 : Cond.methodLink RX5 90 yX5_comes ∈ TBL := TBL_of 857 (by decide +kernel) rfl
theorem lk_X5_84 : Cond.methodLink RX5 84 yX5_at ∈ TBL := TBL_of 861 (by decide +kernel) rfl
theorem lk_L_38 : Cond.methodLink RL 38 yX5_of ∈ TBL := TBL_of 864 (by decide +kernel) rfl
theorem lk_X5_112 : Cond.methodLink RX5 112 yX5_isMoth ∈ TBL := TBL_of 868 (by decide +kernel) rfl
theorem cl_X5_115 : Cond.constantLong RX5 115 (4) ∈ TBL := TBL_of 872 (by decide +kernel) rfl
theorem lk_X5_117 : Cond.methodLink RX5 117 yX5_bites ∈ TBL := TBL_of 873 (by decide +kernel) rfl
theorem lk_X5_97 : Cond.methodLink RX5 97 yX5_firstWhole ∈ TBL := TBL_of 877 (by decide +kernel) rfl
theorem lk_X5_94 : Cond.methodLink RX5 94 yX5_firstLike ∈ TBL := TBL_of 881 (by decide +kernel) rfl
theorem lk_X5_100 : Cond.methodLink RX5 100 yX5_scholarBites ∈ TBL := TBL_of 885 (by decide +kernel) rfl
theorem lk_X5_103 : Cond.methodLink RX5 103 yX5_firstOf ∈ TBL := TBL_of 889 (by decide +kernel) rfl
theorem lk_X5_106 : Cond.methodLink RX5 106 yX5_lastWhole ∈ TBL := TBL_of 893 (by decide +kernel) rfl
theorem lk_L_42 : Cond.methodLink RL 42 yX5_change ∈ TBL := TBL_of 897 (by decide +kernel) rfl
theorem lk_X5_122 : Cond.methodLink RX5 122 yX5_isFit ∈ TBL := TBL_of 901 (by decide +kernel) rfl
theorem cl_X5_120 : Cond.constantLong RX5 120 (9999) ∈ TBL := TBL_of 904 (by decide +kernel) rfl
theorem lk_L_46 : Cond.methodLink RL 46 yX5_leaves ∈ TBL := TBL_of 905 (by decide +kernel) rfl
theorem lk_X5_125 : Cond.methodLink RX5 125 yX5_leavesBy ∈ TBL := TBL_of 909 (by decide +kernel) rfl
theorem lk_X5_109 : Cond.methodLink RX5 109 yX5_least ∈ TBL := TBL_of 912 (by decide +kernel) rfl
theorem lk_X5_128 : Cond.methodLink RX5 128 yX5_gainsBy ∈ TBL := TBL_of 915 (by decide +kernel) rfl
theorem lk_L_51 : Cond.methodLink RL 51 yX5_go ∈ TBL := TBL_of 918 (by decide +kernel) rfl
theorem cl_X5_135 : Cond.constantLong RX5 135 (60) ∈ TBL := TBL_of 922 (by decide +kernel) rfl
theorem cs_X5_137 : Cond.constant RX5 137 (99999) ∈ TBL := TBL_of 923 (by decide +kernel) rfl
theorem cs_X5_138 : Cond.constant RX5 138 (-1000005) ∈ TBL := TBL_of 924 (by decide +kernel) rfl
theorem lk_X5_139 : Cond.methodLink RX5 139 yX5_goes ∈ TBL := TBL_of 925 (by decide +kernel) rfl
theorem lk_X5_131 : Cond.methodLink RX5 131 yX5_nightBut ∈ TBL := TBL_of 929 (by decide +kernel) rfl
theorem lk_X5_142 : Cond.methodLink RX5 142 yX5_holes ∈ TBL := TBL_of 933 (by decide +kernel) rfl
theorem lk_L_55 : Cond.methodLink RL 55 yX5_now ∈ TBL := TBL_of 937 (by decide +kernel) rfl
theorem lk_X5_146 : Cond.methodLink RX5 146 yX5_saysAll ∈ TBL := TBL_of 941 (by decide +kernel) rfl
theorem lk_X5_149 : Cond.methodLink RX5 149 yX5_fedAll ∈ TBL := TBL_of 945 (by decide +kernel) rfl
theorem lk_X5_152 : Cond.methodLink RX5 152 yX5_hungry ∈ TBL := TBL_of 949 (by decide +kernel) rfl
theorem lk_X5_155 : Cond.methodLink RX5 155 yX5_barePages ∈ TBL := TBL_of 953 (by decide +kernel) rfl
theorem lk_L_59 : Cond.methodLink RL 59 yX5_ahead ∈ TBL := TBL_of 957 (by decide +kernel) rfl
theorem cl_X5_158 : Cond.constantLong RX5 158 (100) ∈ TBL := TBL_of 961 (by decide +kernel) rfl
theorem lk_X5_160 : Cond.methodLink RX5 160 yX5_copyRow ∈ TBL := TBL_of 962 (by decide +kernel) rfl
theorem lk_L_63 : Cond.methodLink RL 63 yX5_says ∈ TBL := TBL_of 965 (by decide +kernel) rfl
theorem lk_X5_164 : Cond.methodLink RX5 164 yX5_saysIn ∈ TBL := TBL_of 969 (by decide +kernel) rfl
theorem lk_L_67 : Cond.methodLink RL 67 yX5_fed ∈ TBL := TBL_of 973 (by decide +kernel) rfl
theorem lk_L_71 : Cond.methodLink RL 71 yX5_bare ∈ TBL := TBL_of 977 (by decide +kernel) rfl
theorem cs_X5_45 : Cond.constant RX5 45 (-1000004) ∈ TBL := TBL_of 981 (by decide +kernel) rfl
theorem lk_L_75 : Cond.methodLink RL 75 yX5_when ∈ TBL := TBL_of 982 (by decide +kernel) rfl
theorem cl_X5_167 : Cond.constantLong RX5 167 (324) ∈ TBL := TBL_of 986 (by decide +kernel) rfl
theorem lk_L_80 : Cond.methodLink RL 80 yX5_settles ∈ TBL := TBL_of 987 (by decide +kernel) rfl
theorem lk_X5_169 : Cond.methodLink RX5 169 yX5_leavesAll ∈ TBL := TBL_of 991 (by decide +kernel) rfl
theorem lk_L_84 : Cond.methodLink RL 84 yX5_alike ∈ TBL := TBL_of 995 (by decide +kernel) rfl
theorem lk_X5_173 : Cond.methodLink RX5 173 yX5_areAlike ∈ TBL := TBL_of 999 (by decide +kernel) rfl
theorem lk_L_88 : Cond.methodLink RL 88 yX5_put ∈ TBL := TBL_of 1003 (by decide +kernel) rfl
theorem lk_X5_178 : Cond.methodLink RX5 178 yX5_isAsked ∈ TBL := TBL_of 1007 (by decide +kernel) rfl
theorem cl_X5_176 : Cond.constantLong RX5 176 (40) ∈ TBL := TBL_of 1011 (by decide +kernel) rfl
theorem lk_X5_182 : Cond.methodLink RX5 182 yX5_mostBy ∈ TBL := TBL_of 1012 (by decide +kernel) rfl
theorem lk_L_92 : Cond.methodLink RL 92 yX5_tasteFor ∈ TBL := TBL_of 1016 (by decide +kernel) rfl
theorem lk_L_96 : Cond.methodLink RL 96 yX5_kindFor ∈ TBL := TBL_of 1020 (by decide +kernel) rfl
theorem lk_L_100 : Cond.methodLink RL 100 yX5_swapFor ∈ TBL := TBL_of 1024 (by decide +kernel) rfl
theorem lk_X5_186 : Cond.methodLink RX5 186 yX5_swaps ∈ TBL := TBL_of 1028 (by decide +kernel) rfl
theorem lk_X5_189 : Cond.methodLink RX5 189 yX5_orNone ∈ TBL := TBL_of 1032 (by decide +kernel) rfl
theorem lk_L_104 : Cond.methodLink RL 104 yX5_out ∈ TBL := TBL_of 1036 (by decide +kernel) rfl
theorem cl_X5_192 : Cond.constantLong RX5 192 (20) ∈ TBL := TBL_of 1040 (by decide +kernel) rfl
theorem lk_X5_194 : Cond.methodLink RX5 194 yX5_stays ∈ TBL := TBL_of 1041 (by decide +kernel) rfl
theorem lk_L_109 : Cond.methodLink RL 109 yX5_fits ∈ TBL := TBL_of 1045 (by decide +kernel) rfl
theorem lk_X5_197 : Cond.methodLink RX5 197 yX5_wants ∈ TBL := TBL_of 1049 (by decide +kernel) rfl
theorem lk_X5_297 : Cond.methodLink RX5 297 yX5_isSheet ∈ TBL := TBL_of 1053 (by decide +kernel) rfl
theorem cs_X5_292 : Cond.constant RX5 292 (-1000006) ∈ TBL := TBL_of 1056 (by decide +kernel) rfl
theorem lk_X5_200 : Cond.methodLink RX5 200 yX5_isTold ∈ TBL := TBL_of 1057 (by decide +kernel) rfl
theorem lk_L_113 : Cond.methodLink RL 113 yX5_kinds ∈ TBL := TBL_of 1061 (by decide +kernel) rfl
theorem lk_X5_203 : Cond.methodLink RX5 203 yX5_isFedSo ∈ TBL := TBL_of 1065 (by decide +kernel) rfl
theorem lk_L_117 : Cond.methodLink RL 117 yX5_lights ∈ TBL := TBL_of 1069 (by decide +kernel) rfl
theorem lk_X5_207 : Cond.methodLink RX5 207 yX5_draw ∈ TBL := TBL_of 1073 (by decide +kernel) rfl
theorem cs_X5_206 : Cond.constant RX5 206 (1103515245) ∈ TBL := TBL_of 1077 (by decide +kernel) rfl
theorem lk_L_122 : Cond.methodLink RL 122 yX5_odds ∈ TBL := TBL_of 1078 (by decide +kernel) rfl
theorem cl_X5_210 : Cond.constantLong RX5 210 (23) ∈ TBL := TBL_of 1082 (by decide +kernel) rfl
theorem lk_L_126 : Cond.methodLink RL 126 yX5_seed ∈ TBL := TBL_of 1083 (by decide +kernel) rfl
theorem lk_L_130 : Cond.methodLink RL 130 yX5_feed ∈ TBL := TBL_of 1087 (by decide +kernel) rfl
theorem lk_L_134 : Cond.methodLink RL 134 yX5_wipe ∈ TBL := TBL_of 1091 (by decide +kernel) rfl
theorem lk_L_138 : Cond.methodLink RL 138 yX5_text ∈ TBL := TBL_of 1095 (by decide +kernel) rfl
theorem lk_X5_261 : Cond.methodLink RX5 261 yX5_nextToken ∈ TBL := TBL_of 1099 (by decide +kernel) rfl
theorem lk_X5_222 : Cond.methodLink RX5 222 yX5_byteAt ∈ TBL := TBL_of 1103 (by decide +kernel) rfl
theorem lk_X5_225 : Cond.methodLink RX5 225 yX5_isLetter ∈ TBL := TBL_of 1107 (by decide +kernel) rfl
theorem lk_X5_228 : Cond.methodLink RX5 228 yX5_isDigit ∈ TBL := TBL_of 1110 (by decide +kernel) rfl
theorem lk_X5_289 : Cond.methodLink RX5 289 yX5_itemHere ∈ TBL := TBL_of 1113 (by decide +kernel) rfl
theorem lk_X5_277 : Cond.methodLink RX5 277 yX5_kindHere ∈ TBL := TBL_of 1117 (by decide +kernel) rfl
theorem lk_X5_250 : Cond.methodLink RX5 250 yX5_isFour ∈ TBL := TBL_of 1121 (by decide +kernel) rfl
theorem lk_X5_240 : Cond.methodLink RX5 240 yX5_isWord ∈ TBL := TBL_of 1125 (by decide +kernel) rfl
theorem lk_X5_243 : Cond.methodLink RX5 243 yX5_has3 ∈ TBL := TBL_of 1129 (by decide +kernel) rfl
theorem lk_X5_253 : Cond.methodLink RX5 253 yX5_isFive ∈ TBL := TBL_of 1133 (by decide +kernel) rfl
theorem lk_X5_257 : Cond.methodLink RX5 257 yX5_isSix ∈ TBL := TBL_of 1137 (by decide +kernel) rfl
theorem lk_X5_280 : Cond.methodLink RX5 280 yX5_mothHere ∈ TBL := TBL_of 1141 (by decide +kernel) rfl
theorem lk_X5_247 : Cond.methodLink RX5 247 yX5_fails ∈ TBL := TBL_of 1145 (by decide +kernel) rfl
theorem lk_X5_267 : Cond.methodLink RX5 267 yX5_isTwo ∈ TBL := TBL_of 1149 (by decide +kernel) rfl
theorem lk_X5_270 : Cond.methodLink RX5 270 yX5_perhaps ∈ TBL := TBL_of 1153 (by decide +kernel) rfl
theorem lk_X5_264 : Cond.methodLink RX5 264 yX5_isNumber ∈ TBL := TBL_of 1157 (by decide +kernel) rfl
theorem lk_X5_283 : Cond.methodLink RX5 283 yX5_pageHere ∈ TBL := TBL_of 1161 (by decide +kernel) rfl
theorem lk_X5_274 : Cond.methodLink RX5 274 yX5_empties ∈ TBL := TBL_of 1165 (by decide +kernel) rfl
theorem lk_X5_286 : Cond.methodLink RX5 286 yX5_emptyHere ∈ TBL := TBL_of 1169 (by decide +kernel) rfl
theorem lk_L_142 : Cond.methodLink RL 142 yX5_hold ∈ TBL := TBL_of 1173 (by decide +kernel) rfl
theorem lk_L_146 : Cond.methodLink RL 146 yX5_as ∈ TBL := TBL_of 1177 (by decide +kernel) rfl
theorem lk_X5_293 : Cond.methodLink RX5 293 yX5_isUnder ∈ TBL := TBL_of 1181 (by decide +kernel) rfl
theorem cs_X5_296 : Cond.constant RX5 296 (-1000003) ∈ TBL := TBL_of 1184 (by decide +kernel) rfl
theorem lk_L_150 : Cond.methodLink RL 150 yX5_sheet ∈ TBL := TBL_of 1185 (by decide +kernel) rfl
theorem cs_X5_300 : Cond.constant RX5 300 (-1000007) ∈ TBL := TBL_of 1189 (by decide +kernel) rfl
theorem lk_L_154 : Cond.methodLink RL 154 yX5_write ∈ TBL := TBL_of 1190 (by decide +kernel) rfl
theorem lk_L_159 : Cond.methodLink RL 159 yX5_copy ∈ TBL := TBL_of 1194 (by decide +kernel) rfl
theorem lk_L_163 : Cond.methodLink RL 163 yX5_load ∈ TBL := TBL_of 1198 (by decide +kernel) rfl
theorem lk_L_167 : Cond.methodLink RL 167 yX5_judge ∈ TBL := TBL_of 1202 (by decide +kernel) rfl
theorem lk_L_171 : Cond.methodLink RL 171 yX5_image ∈ TBL := TBL_of 1206 (by decide +kernel) rfl
theorem lk_L_175 : Cond.methodLink RL 175 yX5_undo ∈ TBL := TBL_of 1210 (by decide +kernel) rfl
theorem lk_L_179 : Cond.methodLink RL 179 yX5_tear ∈ TBL := TBL_of 1214 (by decide +kernel) rfl
theorem lk_L_183 : Cond.methodLink RL 183 yX5_count ∈ TBL := TBL_of 1218 (by decide +kernel) rfl
theorem lk_L_187 : Cond.methodLink RL 187 yX5_status ∈ TBL := TBL_of 1222 (by decide +kernel) rfl
theorem cl_X5_305 : Cond.constantLong RX5 305 (-1) ∈ TBL := TBL_of 1226 (by decide +kernel) rfl
theorem fl_J0_9 : Cond.fieldLink RJ0 9 RJ0 "value" "[B" ∈ TBL := TBL_of 1227 (by decide +kernel) rfl
theorem fl_J0_15 : Cond.fieldLink RJ0 15 RJ0 "coder" "B" ∈ TBL := TBL_of 1228 (by decide +kernel) rfl
theorem in_X0 : ∀ w ∈ u_ws RX0 TX0 6, w ∈ TBL := by
  intro w hw
  obtain ⟨k, hk, rfl⟩ := List.mem_map.mp hw
  have hk := List.mem_range.mp hk
  match k, hk with
  | 0, _ => exact TBL_of 104 (by decide +kernel) (by decide +kernel)
  | 1, _ => exact TBL_of 106 (by decide +kernel) (by decide +kernel)
  | 2, _ => exact TBL_of 108 (by decide +kernel) (by decide +kernel)
  | 3, _ => exact TBL_of 110 (by decide +kernel) (by decide +kernel)
  | 4, _ => exact TBL_of 112 (by decide +kernel) (by decide +kernel)
  | 5, _ => exact TBL_of 114 (by decide +kernel) (by decide +kernel)
  | k + 6, h => exact absurd h (by omega)
theorem in_X2 : ∀ w ∈ u_ws RX2 TX2 3, w ∈ TBL := by
  intro w hw
  obtain ⟨k, hk, rfl⟩ := List.mem_map.mp hw
  have hk := List.mem_range.mp hk
  match k, hk with
  | 0, _ => exact TBL_of 158 (by decide +kernel) (by decide +kernel)
  | 1, _ => exact TBL_of 160 (by decide +kernel) (by decide +kernel)
  | 2, _ => exact TBL_of 162 (by decide +kernel) (by decide +kernel)
  | k + 3, h => exact absurd h (by omega)
theorem in_X3 : ∀ w ∈ u_ws RX3 TX3 6, w ∈ TBL := by
  intro w hw
  obtain ⟨k, hk, rfl⟩ := List.mem_map.mp hw
  have hk := List.mem_range.mp hk
  match k, hk with
  | 0, _ => exact TBL_of 131 (by decide +kernel) (by decide +kernel)
  | 1, _ => exact TBL_of 133 (by decide +kernel) (by decide +kernel)
  | 2, _ => exact TBL_of 135 (by decide +kernel) (by decide +kernel)
  | 3, _ => exact TBL_of 137 (by decide +kernel) (by decide +kernel)
  | 4, _ => exact TBL_of 139 (by decide +kernel) (by decide +kernel)
  | 5, _ => exact TBL_of 141 (by decide +kernel) (by decide +kernel)
  | k + 6, h => exact absurd h (by omega)
theorem in_X4 : ∀ w ∈ u_ws RX4 TX4 8, w ∈ TBL := by
  intro w hw
  obtain ⟨k, hk, rfl⟩ := List.mem_map.mp hw
  have hk := List.mem_range.mp hk
  match k, hk with
  | 0, _ => exact TBL_of 173 (by decide +kernel) (by decide +kernel)
  | 1, _ => exact TBL_of 175 (by decide +kernel) (by decide +kernel)
  | 2, _ => exact TBL_of 177 (by decide +kernel) (by decide +kernel)
  | 3, _ => exact TBL_of 179 (by decide +kernel) (by decide +kernel)
  | 4, _ => exact TBL_of 181 (by decide +kernel) (by decide +kernel)
  | 5, _ => exact TBL_of 183 (by decide +kernel) (by decide +kernel)
  | 6, _ => exact TBL_of 185 (by decide +kernel) (by decide +kernel)
  | 7, _ => exact TBL_of 187 (by decide +kernel) (by decide +kernel)
  | k + 8, h => exact absurd h (by omega)
theorem in_X5 : ∀ w ∈ u_ws RX5 TX5 17, w ∈ TBL := by
  intro w hw
  obtain ⟨k, hk, rfl⟩ := List.mem_map.mp hw
  have hk := List.mem_range.mp hk
  match k, hk with
  | 0, _ => exact TBL_of 757 (by decide +kernel) (by decide +kernel)
  | 1, _ => exact TBL_of 759 (by decide +kernel) (by decide +kernel)
  | 2, _ => exact TBL_of 761 (by decide +kernel) (by decide +kernel)
  | 3, _ => exact TBL_of 763 (by decide +kernel) (by decide +kernel)
  | 4, _ => exact TBL_of 765 (by decide +kernel) (by decide +kernel)
  | 5, _ => exact TBL_of 767 (by decide +kernel) (by decide +kernel)
  | 6, _ => exact TBL_of 769 (by decide +kernel) (by decide +kernel)
  | 7, _ => exact TBL_of 771 (by decide +kernel) (by decide +kernel)
  | 8, _ => exact TBL_of 773 (by decide +kernel) (by decide +kernel)
  | 9, _ => exact TBL_of 775 (by decide +kernel) (by decide +kernel)
  | 10, _ => exact TBL_of 777 (by decide +kernel) (by decide +kernel)
  | 11, _ => exact TBL_of 779 (by decide +kernel) (by decide +kernel)
  | 12, _ => exact TBL_of 781 (by decide +kernel) (by decide +kernel)
  | 13, _ => exact TBL_of 783 (by decide +kernel) (by decide +kernel)
  | 14, _ => exact TBL_of 785 (by decide +kernel) (by decide +kernel)
  | 15, _ => exact TBL_of 787 (by decide +kernel) (by decide +kernel)
  | 16, _ => exact TBL_of 789 (by decide +kernel) (by decide +kernel)
  | k + 17, h => exact absurd h (by omega)
theorem tw_ac : Cond.native arraycopyName ∈ TBL ∧ Cond.static arraycopyName ∈ TBL ∧ Cond.initialized "java/lang/System" ∈ TBL := ⟨TBL_of 269 (by decide +kernel) rfl, TBL_of 268 (by decide +kernel) rfl, TBL_of 73 (by decide +kernel) rfl⟩
end
section
section FIELDS
variable {X : XT} {G : GT} {own : String} {cc : ByteArray} {nL fr lo : Nat} {g : Mem} {L : List (Option Value)} {st : List Value}
theorem tb_D {d : Nat} (h : d < 4) : cb (1 + 4 * d) = d ∧ clo (1 + 4 * d) = 0 ∧ chi (1 + 4 * d) = 3 := by
  match d, h with
  | 0, _ => exact ⟨rfl, rfl, rfl⟩
  | 1, _ => exact ⟨rfl, rfl, rfl⟩
  | 2, _ => exact ⟨rfl, rfl, rfl⟩
  | 3, _ => exact ⟨rfl, rfl, rfl⟩
theorem tb_Wd {d : Nat} (h : d < 4) : cb (2 + 4 * d) = d ∧ clo (2 + 4 * d) = 3 ∧ chi (2 + 4 * d) = 51 := by
  match d, h with
  | 0, _ => exact ⟨rfl, rfl, rfl⟩
  | 1, _ => exact ⟨rfl, rfl, rfl⟩
  | 2, _ => exact ⟨rfl, rfl, rfl⟩
  | 3, _ => exact ⟨rfl, rfl, rfl⟩
theorem tb_Tr {d : Nat} (h : d < 4) : cb (3 + 4 * d) = d ∧ clo (3 + 4 * d) = 51 ∧ chi (3 + 4 * d) = 83 := by
  match d, h with
  | 0, _ => exact ⟨rfl, rfl, rfl⟩
  | 1, _ => exact ⟨rfl, rfl, rfl⟩
  | 2, _ => exact ⟨rfl, rfl, rfl⟩
  | 3, _ => exact ⟨rfl, rfl, rfl⟩
theorem tb_Sp {d : Nat} (h : d < 4) : cb (4 + 4 * d) = d ∧ clo (4 + 4 * d) = 83 ∧ chi (4 + 4 * d) = 93 := by
  match d, h with
  | 0, _ => exact ⟨rfl, rfl, rfl⟩
  | 1, _ => exact ⟨rfl, rfl, rfl⟩
  | 2, _ => exact ⟨rfl, rfl, rfl⟩
  | 3, _ => exact ⟨rfl, rfl, rfl⟩
theorem tb_Sh {d : Nat} (h : d < 4) : cb (20 + 2 * d) = 6 + d ∧ clo (20 + 2 * d) = 0 ∧ chi (20 + 2 * d) = 2 := by
  match d, h with
  | 0, _ => exact ⟨rfl, rfl, rfl⟩
  | 1, _ => exact ⟨rfl, rfl, rfl⟩
  | 2, _ => exact ⟨rfl, rfl, rfl⟩
  | 3, _ => exact ⟨rfl, rfl, rfl⟩
theorem tb_Sn {d : Nat} (h : d < 4) : cb (21 + 2 * d) = 6 + d ∧ clo (21 + 2 * d) = 2 ∧ chi (21 + 2 * d) = 42 := by
  match d, h with
  | 0, _ => exact ⟨rfl, rfl, rfl⟩
  | 1, _ => exact ⟨rfl, rfl, rfl⟩
  | 2, _ => exact ⟨rfl, rfl, rfl⟩
  | 3, _ => exact ⟨rfl, rfl, rfl⟩
theorem tb_A {j : Nat} (h : j < 10) : cb (30 + j) = 12 + j ∧ clo (30 + j) = 0 ∧ chi (30 + j) = aLen j := by
  match j, h with
  | 0, _ => exact ⟨rfl, rfl, rfl⟩
  | 1, _ => exact ⟨rfl, rfl, rfl⟩
  | 2, _ => exact ⟨rfl, rfl, rfl⟩
  | 3, _ => exact ⟨rfl, rfl, rfl⟩
  | 4, _ => exact ⟨rfl, rfl, rfl⟩
  | 5, _ => exact ⟨rfl, rfl, rfl⟩
  | 6, _ => exact ⟨rfl, rfl, rfl⟩
  | 7, _ => exact ⟨rfl, rfl, rfl⟩
  | 8, _ => exact ⟨rfl, rfl, rfl⟩
  | 9, _ => exact ⟨rfl, rfl, rfl⟩
theorem aLen_lt {j : Nat} (h : j < 10) : aLen j < 2 ^ 31 := by
  match j, h with
  | 0, _ => decide
  | 1, _ => decide
  | 2, _ => decide
  | 3, _ => decide
  | 4, _ => decide
  | 5, _ => decide
  | 6, _ => decide
  | 7, _ => decide
  | 8, _ => decide
  | 9, _ => decide
theorem j_get (pc : Nat) (k q0 : Nat) {idx ci : Nat} {Cn : String} {T : u_T} {N a : Nat} {fs : List Value} {v : Value} (C : CX X G own cc nL fr lo) (hd : decode cc pc = .ok (.getfield idx, 3)) (hcl : vwCl[ci]? = some (Cn, T, N)) (hin : ∀ w ∈ u_ws Cn T N, w ∈ TBL) (hk : k < N) (hlk : Cond.fieldLink own idx (T k).1 (T k).2.1 (T k).2.2.1 ∈ TBL) (he : (WW G g)[q0]? = some (a, .inr (ci, fs))) (hv : fs[k]? = some v) (kk : J X G nL g (pc + 3) L (v :: st)) : J X G nL g pc L (.ref a :: st) := by
  obtain ⟨p, e, R, s, m, args, below, meth, c, Q, cells, slots⟩ := X
  obtain ⟨hx, hb, hml, hown, hts, hE, hc1, hc2, hfr, hlo⟩ := C
  intro H locs ls hP hS hl
  exact va_get (D := gD G) hx hb hts hin hown hE.1 hP q0 he hcl k hk (hts _ hlk) (fun _ h => h) hv hd (kk H locs ls hP hS hl)
theorem j_put (pc : Nat) (k q0 j : Nat) {idx ci b : Nat} {Cn : String} {T : u_T} {N a : Nat} {fs : List Value} {x : Int32} {ty : FieldType} {ty0 : Nat → FieldType} (C : CX X G own cc nL fr lo) (hd : decode cc pc = .ok (.putfield idx, 3)) (hcl : vwCl[ci]? = some (Cn, T, N)) (hin : ∀ w ∈ u_ws Cn T N, w ∈ TBL) (hty : ∀ k, k < N → parseFieldDescriptor (T k).2.2.1 = some (ty0 k)) (hnm : ∀ a, a < N → ∀ b, b < N → a ≠ b → (T a).2.1 ≠ (T b).2.1) (hk : k < N) (hlk : Cond.fieldLink own idx (T k).1 (T k).2.1 (T k).2.2.1 ∈ TBL) (hfin : (T k).2.2.2 = false) (hds : parseFieldDescriptor (T k).2.2.1 = some ty) (hnw : narrow ty (.int x) = .int x) (hfit : fits ty (.int x) = true) (hlf : k < fs.length) (he : (WW G g)[q0]? = some (a, .inr (ci, fs))) (hq0 : q0 < 40) (hcb : cb q0 = b) (h1 : clo q0 ≤ j) (h2 : j < chi q0) (hq : (WW G (ub g b (upd (g b) j x)))[q0]? = some (a, .inr (ci, fs.set k (.int x)))) (kk : J X G nL (ub g b (upd (g b) j x)) (pc + 3) L st) : J X G nL g pc L (.int x :: .ref a :: st) := by
  obtain ⟨p, e, R, s, m, args, below, meth, c, Q, cells, slots⟩ := X
  obtain ⟨hx, hb, hml, hown, hts, hE, hc1, hc2, hfr, hlo⟩ := C
  intro H locs ls hP hS hl
  refine va_put (D := gD G) (ty := ty) hx hb hts hin ty0 hty hnm hown hE.1 hP (WW_D hE.2.1) hS q0 he hcl k hk (hts _ hlk) (fun _ h => h) hfin hds hnw hfit hlf hd (fun H1 locs1 hP1 _ hS1 => ?_)
  exact kk H1 locs1 ls (WW_put q0 j hq0 hcb h1 h2 hP1 hq (fun h => h)) hS1 hl
theorem j_ild (pc q0 : Nat) {a n i : Nat} {f : Nat → Int32} (C : CX X G own cc nL fr lo) (hd : decode cc pc = .ok (.iaload, 1)) (he : (WW G g)[q0]? = some (a, eI G n f)) (hi : i < n) (hn : n < 2 ^ 31) (k : J X G nL g (pc + 1) L (.int (f i) :: st)) : J X G nL g pc L (.int (nI i) :: .ref a :: st) := by
  obtain ⟨p, e, R, s, m, args, below, meth, c, Q, cells, slots⟩ := X
  obtain ⟨hx, hb, hml, hown, hts, hE, hc1, hc2, hfr, hlo⟩ := C
  intro H locs ls hP hS hl
  refine va_iald hx hb hE.1 hP q0 1 he rfl (nI_in hi hn) hd ?_
  rw [nI_clamp (Nat.lt_trans hi hn)]
  exact k H locs ls hP hS hl
theorem j_ist (pc q0 : Nat) {a n i : Nat} {x : Int32} {f : Nat → Int32} {g' : Mem} (C : CX X G own cc nL fr lo) (hd : decode cc pc = .ok (.iastore, 1)) (he : (WW G g)[q0]? = some (a, eI G n f)) (hi : i < n) (hn : n < 2 ^ 31) (hw : ∀ H, va_P (gD G) vwCl ((WW G g).set q0 (a, eI G n (upd f i x))) H → va_P (gD G) vwCl (WW G g') H) (k : J X G nL g' (pc + 1) L st) : J X G nL g pc L (.int x :: .int (nI i) :: .ref a :: st) := by
  obtain ⟨p, e, R, s, m, args, below, meth, c, Q, cells, slots⟩ := X
  obtain ⟨hx, hb, hml, hown, hts, hE, hc1, hc2, hfr, hlo⟩ := C
  intro H locs ls hP hS hl
  refine va_iast hx hb hE.1 hP (WW_D hE.2.1) hS q0 1 he rfl (nI_in hi hn) hd (fun H1 locs1 hP1 _ hS1 => ?_)
  rw [nI_clamp (Nat.lt_trans hi hn)] at hP1
  exact k H1 locs1 ls (hw H1 hP1) hS1 hl
theorem jg_X0_9 (pc : Nat) {d : Nat} (h : d < 4) (C : CX X G RX0 cc nL fr lo) (hd : decode cc pc = .ok (.getfield 9, 3)) (k : J X G nL g (pc + 3) L (.ref (wa G d) :: st)) : J X G nL g pc L (.ref (dr G d) :: st) := j_get pc 0 (1 + 4 * d) C hd (ci := 0) rfl in_X0 (Nat.le_of_ble_eq_true rfl) fl_X0_9 (at_D h) rfl k
theorem jg_X0_15 (pc : Nat) {d : Nat} (h : d < 4) (C : CX X G RX0 cc nL fr lo) (hd : decode cc pc = .ok (.getfield 15, 3)) (k : J X G nL g (pc + 3) L (.ref (ta G d) :: st)) : J X G nL g pc L (.ref (dr G d) :: st) := j_get pc 1 (1 + 4 * d) C hd (ci := 0) rfl in_X0 (Nat.le_of_ble_eq_true rfl) fl_X0_15 (at_D h) rfl k
theorem jg_X0_18 (pc : Nat) {d : Nat} (h : d < 4) (C : CX X G RX0 cc nL fr lo) (hd : decode cc pc = .ok (.getfield 18, 3)) (k : J X G nL g (pc + 3) L (.ref (sa G d) :: st)) : J X G nL g pc L (.ref (dr G d) :: st) := j_get pc 2 (1 + 4 * d) C hd (ci := 0) rfl in_X0 (Nat.le_of_ble_eq_true rfl) fl_X0_18 (at_D h) rfl k
theorem jg_X4_233 (pc : Nat) {d : Nat} (h : d < 4) (C : CX X G RX4 cc nL fr lo) (hd : decode cc pc = .ok (.getfield 233, 3)) (k : J X G nL g (pc + 3) L (.ref (sa G d) :: st)) : J X G nL g pc L (.ref (dr G d) :: st) := j_get pc 2 (1 + 4 * d) C hd (ci := 0) rfl in_X0 (Nat.le_of_ble_eq_true rfl) fl_X4_233 (at_D h) rfl k
theorem jg_X0_21 (pc : Nat) {d : Nat} (h : d < 4) (C : CX X G RX0 cc nL fr lo) (hd : decode cc pc = .ok (.getfield 21, 3)) (k : J X G nL g (pc + 3) L (.int (g d 0) :: st)) : J X G nL g pc L (.ref (dr G d) :: st) := j_get pc 3 (1 + 4 * d) C hd (ci := 0) rfl in_X0 (Nat.le_of_ble_eq_true rfl) fl_X0_21 (at_D h) rfl k
theorem jp_X0_21 (pc : Nat) {d : Nat} (h : d < 4) {x : Int32} (C : CX X G RX0 cc nL fr lo) (hd : decode cc pc = .ok (.putfield 21, 3)) (k : J X G nL (ub g d (upd (g d) 0 x)) (pc + 3) L st) : J X G nL g pc L (.int x :: .ref (dr G d) :: st) := j_put pc 3 (1 + 4 * d) 0 C hd (ci := 0) rfl in_X0 tyX0_ok nmX0 (Nat.le_of_ble_eq_true rfl) fl_X0_21 rfl rfl (vp_nar_int x) rfl (Nat.le_of_ble_eq_true rfl) (at_D h) (by omega) (tb_D h).1 (by rw [(tb_D h).2.1]; exact Nat.zero_le _) (by rw [(tb_D h).2.2]; exact Nat.le_of_ble_eq_true rfl) (by rw [at_D h]; simp only [cD, cSh, ub_s]; rfl) k
theorem jg_X4_175 (pc : Nat) {d : Nat} (h : d < 4) (C : CX X G RX4 cc nL fr lo) (hd : decode cc pc = .ok (.getfield 175, 3)) (k : J X G nL g (pc + 3) L (.int (g d 0) :: st)) : J X G nL g pc L (.ref (dr G d) :: st) := j_get pc 3 (1 + 4 * d) C hd (ci := 0) rfl in_X0 (Nat.le_of_ble_eq_true rfl) fl_X4_175 (at_D h) rfl k
theorem jp_X4_175 (pc : Nat) {d : Nat} (h : d < 4) {x : Int32} (C : CX X G RX4 cc nL fr lo) (hd : decode cc pc = .ok (.putfield 175, 3)) (k : J X G nL (ub g d (upd (g d) 0 x)) (pc + 3) L st) : J X G nL g pc L (.int x :: .ref (dr G d) :: st) := j_put pc 3 (1 + 4 * d) 0 C hd (ci := 0) rfl in_X0 tyX0_ok nmX0 (Nat.le_of_ble_eq_true rfl) fl_X4_175 rfl rfl (vp_nar_int x) rfl (Nat.le_of_ble_eq_true rfl) (at_D h) (by omega) (tb_D h).1 (by rw [(tb_D h).2.1]; exact Nat.zero_le _) (by rw [(tb_D h).2.2]; exact Nat.le_of_ble_eq_true rfl) (by rw [at_D h]; simp only [cD, cSh, ub_s]; rfl) k
theorem jg_X0_25 (pc : Nat) {d : Nat} (h : d < 4) (C : CX X G RX0 cc nL fr lo) (hd : decode cc pc = .ok (.getfield 25, 3)) (k : J X G nL g (pc + 3) L (.int (g d 1) :: st)) : J X G nL g pc L (.ref (dr G d) :: st) := j_get pc 4 (1 + 4 * d) C hd (ci := 0) rfl in_X0 (Nat.le_of_ble_eq_true rfl) fl_X0_25 (at_D h) rfl k
theorem jp_X0_25 (pc : Nat) {d : Nat} (h : d < 4) {x : Int32} (C : CX X G RX0 cc nL fr lo) (hd : decode cc pc = .ok (.putfield 25, 3)) (k : J X G nL (ub g d (upd (g d) 1 x)) (pc + 3) L st) : J X G nL g pc L (.int x :: .ref (dr G d) :: st) := j_put pc 4 (1 + 4 * d) 1 C hd (ci := 0) rfl in_X0 tyX0_ok nmX0 (Nat.le_of_ble_eq_true rfl) fl_X0_25 rfl rfl (vp_nar_int x) rfl (Nat.le_of_ble_eq_true rfl) (at_D h) (by omega) (tb_D h).1 (by rw [(tb_D h).2.1]; exact Nat.zero_le _) (by rw [(tb_D h).2.2]; exact Nat.le_of_ble_eq_true rfl) (by rw [at_D h]; simp only [cD, cSh, ub_s]; rfl) k
theorem jg_X4_126 (pc : Nat) {d : Nat} (h : d < 4) (C : CX X G RX4 cc nL fr lo) (hd : decode cc pc = .ok (.getfield 126, 3)) (k : J X G nL g (pc + 3) L (.int (g d 1) :: st)) : J X G nL g pc L (.ref (dr G d) :: st) := j_get pc 4 (1 + 4 * d) C hd (ci := 0) rfl in_X0 (Nat.le_of_ble_eq_true rfl) fl_X4_126 (at_D h) rfl k
theorem jp_X4_126 (pc : Nat) {d : Nat} (h : d < 4) {x : Int32} (C : CX X G RX4 cc nL fr lo) (hd : decode cc pc = .ok (.putfield 126, 3)) (k : J X G nL (ub g d (upd (g d) 1 x)) (pc + 3) L st) : J X G nL g pc L (.int x :: .ref (dr G d) :: st) := j_put pc 4 (1 + 4 * d) 1 C hd (ci := 0) rfl in_X0 tyX0_ok nmX0 (Nat.le_of_ble_eq_true rfl) fl_X4_126 rfl rfl (vp_nar_int x) rfl (Nat.le_of_ble_eq_true rfl) (at_D h) (by omega) (tb_D h).1 (by rw [(tb_D h).2.1]; exact Nat.zero_le _) (by rw [(tb_D h).2.2]; exact Nat.le_of_ble_eq_true rfl) (by rw [at_D h]; simp only [cD, cSh, ub_s]; rfl) k
theorem jg_X0_28 (pc : Nat) {d : Nat} (h : d < 4) (C : CX X G RX0 cc nL fr lo) (hd : decode cc pc = .ok (.getfield 28, 3)) (k : J X G nL g (pc + 3) L (.int (g d 2) :: st)) : J X G nL g pc L (.ref (dr G d) :: st) := j_get pc 5 (1 + 4 * d) C hd (ci := 0) rfl in_X0 (Nat.le_of_ble_eq_true rfl) fl_X0_28 (at_D h) rfl k
theorem jp_X0_28 (pc : Nat) {d : Nat} (h : d < 4) {x : Int32} (C : CX X G RX0 cc nL fr lo) (hd : decode cc pc = .ok (.putfield 28, 3)) (k : J X G nL (ub g d (upd (g d) 2 x)) (pc + 3) L st) : J X G nL g pc L (.int x :: .ref (dr G d) :: st) := j_put pc 5 (1 + 4 * d) 2 C hd (ci := 0) rfl in_X0 tyX0_ok nmX0 (Nat.le_of_ble_eq_true rfl) fl_X0_28 rfl rfl (vp_nar_int x) rfl (Nat.le_of_ble_eq_true rfl) (at_D h) (by omega) (tb_D h).1 (by rw [(tb_D h).2.1]; exact Nat.zero_le _) (by rw [(tb_D h).2.2]; exact Nat.le_of_ble_eq_true rfl) (by rw [at_D h]; simp only [cD, cSh, ub_s]; rfl) k
theorem jg_X4_213 (pc : Nat) {d : Nat} (h : d < 4) (C : CX X G RX4 cc nL fr lo) (hd : decode cc pc = .ok (.getfield 213, 3)) (k : J X G nL g (pc + 3) L (.int (g d 2) :: st)) : J X G nL g pc L (.ref (dr G d) :: st) := j_get pc 5 (1 + 4 * d) C hd (ci := 0) rfl in_X0 (Nat.le_of_ble_eq_true rfl) fl_X4_213 (at_D h) rfl k
theorem jp_X4_213 (pc : Nat) {d : Nat} (h : d < 4) {x : Int32} (C : CX X G RX4 cc nL fr lo) (hd : decode cc pc = .ok (.putfield 213, 3)) (k : J X G nL (ub g d (upd (g d) 2 x)) (pc + 3) L st) : J X G nL g pc L (.int x :: .ref (dr G d) :: st) := j_put pc 5 (1 + 4 * d) 2 C hd (ci := 0) rfl in_X0 tyX0_ok nmX0 (Nat.le_of_ble_eq_true rfl) fl_X4_213 rfl rfl (vp_nar_int x) rfl (Nat.le_of_ble_eq_true rfl) (at_D h) (by omega) (tb_D h).1 (by rw [(tb_D h).2.1]; exact Nat.zero_le _) (by rw [(tb_D h).2.2]; exact Nat.le_of_ble_eq_true rfl) (by rw [at_D h]; simp only [cD, cSh, ub_s]; rfl) k
theorem jg_X3_9 (pc : Nat) (C : CX X G RX3 cc nL fr lo) (hd : decode cc pc = .ok (.getfield 9, 3)) (k : J X G nL g (pc + 3) L (.ref (tb G) :: st)) : J X G nL g pc L (.ref (tp G) :: st) := j_get pc 0 17 C hd (ci := 2) rfl in_X3 (Nat.le_of_ble_eq_true rfl) fl_X3_9 rfl rfl k
theorem jg_X3_15 (pc : Nat) (C : CX X G RX3 cc nL fr lo) (hd : decode cc pc = .ok (.getfield 15, 3)) (k : J X G nL g (pc + 3) L (.int (g 4 0) :: st)) : J X G nL g pc L (.ref (tp G) :: st) := j_get pc 1 17 C hd (ci := 2) rfl in_X3 (Nat.le_of_ble_eq_true rfl) fl_X3_15 rfl rfl k
theorem jp_X3_15 (pc : Nat) {x : Int32} (C : CX X G RX3 cc nL fr lo) (hd : decode cc pc = .ok (.putfield 15, 3)) (k : J X G nL (ub g 4 (upd (g 4) 0 x)) (pc + 3) L st) : J X G nL g pc L (.int x :: .ref (tp G) :: st) := j_put pc 1 17 0 C hd (ci := 2) rfl in_X3 tyX3_ok nmX3 (Nat.le_of_ble_eq_true rfl) fl_X3_15 rfl rfl (vp_nar_int x) rfl (Nat.le_of_ble_eq_true rfl) rfl (Nat.le_of_ble_eq_true rfl) rfl (Nat.zero_le _) (Nat.le_of_ble_eq_true rfl) rfl k
theorem jg_X4_216 (pc : Nat) (C : CX X G RX4 cc nL fr lo) (hd : decode cc pc = .ok (.getfield 216, 3)) (k : J X G nL g (pc + 3) L (.int (g 4 0) :: st)) : J X G nL g pc L (.ref (tp G) :: st) := j_get pc 1 17 C hd (ci := 2) rfl in_X3 (Nat.le_of_ble_eq_true rfl) fl_X4_216 rfl rfl k
theorem jp_X4_216 (pc : Nat) {x : Int32} (C : CX X G RX4 cc nL fr lo) (hd : decode cc pc = .ok (.putfield 216, 3)) (k : J X G nL (ub g 4 (upd (g 4) 0 x)) (pc + 3) L st) : J X G nL g pc L (.int x :: .ref (tp G) :: st) := j_put pc 1 17 0 C hd (ci := 2) rfl in_X3 tyX3_ok nmX3 (Nat.le_of_ble_eq_true rfl) fl_X4_216 rfl rfl (vp_nar_int x) rfl (Nat.le_of_ble_eq_true rfl) rfl (Nat.le_of_ble_eq_true rfl) rfl (Nat.zero_le _) (Nat.le_of_ble_eq_true rfl) rfl k
theorem jg_X3_19 (pc : Nat) (C : CX X G RX3 cc nL fr lo) (hd : decode cc pc = .ok (.getfield 19, 3)) (k : J X G nL g (pc + 3) L (.int (g 4 1) :: st)) : J X G nL g pc L (.ref (tp G) :: st) := j_get pc 2 17 C hd (ci := 2) rfl in_X3 (Nat.le_of_ble_eq_true rfl) fl_X3_19 rfl rfl k
theorem jp_X3_19 (pc : Nat) {x : Int32} (C : CX X G RX3 cc nL fr lo) (hd : decode cc pc = .ok (.putfield 19, 3)) (k : J X G nL (ub g 4 (upd (g 4) 1 x)) (pc + 3) L st) : J X G nL g pc L (.int x :: .ref (tp G) :: st) := j_put pc 2 17 1 C hd (ci := 2) rfl in_X3 tyX3_ok nmX3 (Nat.le_of_ble_eq_true rfl) fl_X3_19 rfl rfl (vp_nar_int x) rfl (Nat.le_of_ble_eq_true rfl) rfl (Nat.le_of_ble_eq_true rfl) rfl (Nat.zero_le _) (Nat.le_of_ble_eq_true rfl) rfl k
theorem jg_X3_22 (pc : Nat) (C : CX X G RX3 cc nL fr lo) (hd : decode cc pc = .ok (.getfield 22, 3)) (k : J X G nL g (pc + 3) L (.int (g 4 2) :: st)) : J X G nL g pc L (.ref (tp G) :: st) := j_get pc 3 17 C hd (ci := 2) rfl in_X3 (Nat.le_of_ble_eq_true rfl) fl_X3_22 rfl rfl k
theorem jp_X3_22 (pc : Nat) {x : Int32} (C : CX X G RX3 cc nL fr lo) (hd : decode cc pc = .ok (.putfield 22, 3)) (k : J X G nL (ub g 4 (upd (g 4) 2 x)) (pc + 3) L st) : J X G nL g pc L (.int x :: .ref (tp G) :: st) := j_put pc 3 17 2 C hd (ci := 2) rfl in_X3 tyX3_ok nmX3 (Nat.le_of_ble_eq_true rfl) fl_X3_22 rfl rfl (vp_nar_int x) rfl (Nat.le_of_ble_eq_true rfl) rfl (Nat.le_of_ble_eq_true rfl) rfl (Nat.zero_le _) (Nat.le_of_ble_eq_true rfl) rfl k
theorem jg_X3_25 (pc : Nat) (C : CX X G RX3 cc nL fr lo) (hd : decode cc pc = .ok (.getfield 25, 3)) (k : J X G nL g (pc + 3) L (.int (g 4 3) :: st)) : J X G nL g pc L (.ref (tp G) :: st) := j_get pc 4 17 C hd (ci := 2) rfl in_X3 (Nat.le_of_ble_eq_true rfl) fl_X3_25 rfl rfl k
theorem jp_X3_25 (pc : Nat) {x : Int32} (C : CX X G RX3 cc nL fr lo) (hd : decode cc pc = .ok (.putfield 25, 3)) (k : J X G nL (ub g 4 (upd (g 4) 3 x)) (pc + 3) L st) : J X G nL g pc L (.int x :: .ref (tp G) :: st) := j_put pc 4 17 3 C hd (ci := 2) rfl in_X3 tyX3_ok nmX3 (Nat.le_of_ble_eq_true rfl) fl_X3_25 rfl rfl (vp_nar_int x) rfl (Nat.le_of_ble_eq_true rfl) rfl (Nat.le_of_ble_eq_true rfl) rfl (Nat.zero_le _) (Nat.le_of_ble_eq_true rfl) rfl k
theorem jg_X3_28 (pc : Nat) (C : CX X G RX3 cc nL fr lo) (hd : decode cc pc = .ok (.getfield 28, 3)) (k : J X G nL g (pc + 3) L (.int (g 4 4) :: st)) : J X G nL g pc L (.ref (tp G) :: st) := j_get pc 5 17 C hd (ci := 2) rfl in_X3 (Nat.le_of_ble_eq_true rfl) fl_X3_28 rfl rfl k
theorem jp_X3_28 (pc : Nat) {x : Int32} (C : CX X G RX3 cc nL fr lo) (hd : decode cc pc = .ok (.putfield 28, 3)) (k : J X G nL (ub g 4 (upd (g 4) 4 x)) (pc + 3) L st) : J X G nL g pc L (.int x :: .ref (tp G) :: st) := j_put pc 5 17 4 C hd (ci := 2) rfl in_X3 tyX3_ok nmX3 (Nat.le_of_ble_eq_true rfl) fl_X3_28 rfl rfl (vp_nar_int x) rfl (Nat.le_of_ble_eq_true rfl) rfl (Nat.le_of_ble_eq_true rfl) rfl (Nat.zero_le _) (Nat.le_of_ble_eq_true rfl) rfl k
theorem jg_X2_9 (pc : Nat) {t : Nat} (h : t < 4) (C : CX X G RX2 cc nL fr lo) (hd : decode cc pc = .ok (.getfield 9, 3)) (k : J X G nL g (pc + 3) L (.ref (sn G t) :: st)) : J X G nL g pc L (.ref (sh G t) :: st) := j_get pc 0 (20 + 2 * t) C hd (ci := 1) rfl in_X2 (Nat.le_of_ble_eq_true rfl) fl_X2_9 (at_Sh h) rfl k
theorem jg_X4_255 (pc : Nat) {t : Nat} (h : t < 4) (C : CX X G RX4 cc nL fr lo) (hd : decode cc pc = .ok (.getfield 255, 3)) (k : J X G nL g (pc + 3) L (.ref (sn G t) :: st)) : J X G nL g pc L (.ref (sh G t) :: st) := j_get pc 0 (20 + 2 * t) C hd (ci := 1) rfl in_X2 (Nat.le_of_ble_eq_true rfl) fl_X4_255 (at_Sh h) rfl k
theorem jg_X2_15 (pc : Nat) {t : Nat} (h : t < 4) (C : CX X G RX2 cc nL fr lo) (hd : decode cc pc = .ok (.getfield 15, 3)) (k : J X G nL g (pc + 3) L (.int (g (6 + t) 0) :: st)) : J X G nL g pc L (.ref (sh G t) :: st) := j_get pc 1 (20 + 2 * t) C hd (ci := 1) rfl in_X2 (Nat.le_of_ble_eq_true rfl) fl_X2_15 (at_Sh h) rfl k
theorem jp_X2_15 (pc : Nat) {t : Nat} (h : t < 4) {x : Int32} (C : CX X G RX2 cc nL fr lo) (hd : decode cc pc = .ok (.putfield 15, 3)) (k : J X G nL (ub g (6 + t) (upd (g (6 + t)) 0 x)) (pc + 3) L st) : J X G nL g pc L (.int x :: .ref (sh G t) :: st) := j_put pc 1 (20 + 2 * t) 0 C hd (ci := 1) rfl in_X2 tyX2_ok nmX2 (Nat.le_of_ble_eq_true rfl) fl_X2_15 rfl rfl (vp_nar_int x) rfl (Nat.le_of_ble_eq_true rfl) (at_Sh h) (by omega) (tb_Sh h).1 (by rw [(tb_Sh h).2.1]; exact Nat.zero_le _) (by rw [(tb_Sh h).2.2]; exact Nat.le_of_ble_eq_true rfl) (by rw [at_Sh h]; simp only [cD, cSh, ub_s]; rfl) k
theorem jg_X4_249 (pc : Nat) {t : Nat} (h : t < 4) (C : CX X G RX4 cc nL fr lo) (hd : decode cc pc = .ok (.getfield 249, 3)) (k : J X G nL g (pc + 3) L (.int (g (6 + t) 0) :: st)) : J X G nL g pc L (.ref (sh G t) :: st) := j_get pc 1 (20 + 2 * t) C hd (ci := 1) rfl in_X2 (Nat.le_of_ble_eq_true rfl) fl_X4_249 (at_Sh h) rfl k
theorem jp_X4_249 (pc : Nat) {t : Nat} (h : t < 4) {x : Int32} (C : CX X G RX4 cc nL fr lo) (hd : decode cc pc = .ok (.putfield 249, 3)) (k : J X G nL (ub g (6 + t) (upd (g (6 + t)) 0 x)) (pc + 3) L st) : J X G nL g pc L (.int x :: .ref (sh G t) :: st) := j_put pc 1 (20 + 2 * t) 0 C hd (ci := 1) rfl in_X2 tyX2_ok nmX2 (Nat.le_of_ble_eq_true rfl) fl_X4_249 rfl rfl (vp_nar_int x) rfl (Nat.le_of_ble_eq_true rfl) (at_Sh h) (by omega) (tb_Sh h).1 (by rw [(tb_Sh h).2.1]; exact Nat.zero_le _) (by rw [(tb_Sh h).2.2]; exact Nat.le_of_ble_eq_true rfl) (by rw [at_Sh h]; simp only [cD, cSh, ub_s]; rfl) k
theorem jg_X2_19 (pc : Nat) {t : Nat} (h : t < 4) (C : CX X G RX2 cc nL fr lo) (hd : decode cc pc = .ok (.getfield 19, 3)) (k : J X G nL g (pc + 3) L (.int (g (6 + t) 1) :: st)) : J X G nL g pc L (.ref (sh G t) :: st) := j_get pc 2 (20 + 2 * t) C hd (ci := 1) rfl in_X2 (Nat.le_of_ble_eq_true rfl) fl_X2_19 (at_Sh h) rfl k
theorem jp_X2_19 (pc : Nat) {t : Nat} (h : t < 4) {x : Int32} (C : CX X G RX2 cc nL fr lo) (hd : decode cc pc = .ok (.putfield 19, 3)) (k : J X G nL (ub g (6 + t) (upd (g (6 + t)) 1 x)) (pc + 3) L st) : J X G nL g pc L (.int x :: .ref (sh G t) :: st) := j_put pc 2 (20 + 2 * t) 1 C hd (ci := 1) rfl in_X2 tyX2_ok nmX2 (Nat.le_of_ble_eq_true rfl) fl_X2_19 rfl rfl (vp_nar_int x) rfl (Nat.le_of_ble_eq_true rfl) (at_Sh h) (by omega) (tb_Sh h).1 (by rw [(tb_Sh h).2.1]; exact Nat.zero_le _) (by rw [(tb_Sh h).2.2]; exact Nat.le_of_ble_eq_true rfl) (by rw [at_Sh h]; simp only [cD, cSh, ub_s]; rfl) k
theorem jg_X4_245 (pc : Nat) {t : Nat} (h : t < 4) (C : CX X G RX4 cc nL fr lo) (hd : decode cc pc = .ok (.getfield 245, 3)) (k : J X G nL g (pc + 3) L (.int (g (6 + t) 1) :: st)) : J X G nL g pc L (.ref (sh G t) :: st) := j_get pc 2 (20 + 2 * t) C hd (ci := 1) rfl in_X2 (Nat.le_of_ble_eq_true rfl) fl_X4_245 (at_Sh h) rfl k
theorem jp_X4_245 (pc : Nat) {t : Nat} (h : t < 4) {x : Int32} (C : CX X G RX4 cc nL fr lo) (hd : decode cc pc = .ok (.putfield 245, 3)) (k : J X G nL (ub g (6 + t) (upd (g (6 + t)) 1 x)) (pc + 3) L st) : J X G nL g pc L (.int x :: .ref (sh G t) :: st) := j_put pc 2 (20 + 2 * t) 1 C hd (ci := 1) rfl in_X2 tyX2_ok nmX2 (Nat.le_of_ble_eq_true rfl) fl_X4_245 rfl rfl (vp_nar_int x) rfl (Nat.le_of_ble_eq_true rfl) (at_Sh h) (by omega) (tb_Sh h).1 (by rw [(tb_Sh h).2.1]; exact Nat.zero_le _) (by rw [(tb_Sh h).2.2]; exact Nat.le_of_ble_eq_true rfl) (by rw [at_Sh h]; simp only [cD, cSh, ub_s]; rfl) k
theorem jg_X4_12 (pc : Nat) (C : CX X G RX4 cc nL fr lo) (hd : decode cc pc = .ok (.getfield 12, 3)) (k : J X G nL g (pc + 3) L (.ref (dr G 0) :: st)) : J X G nL g pc L (.ref (xo G) :: st) := j_get pc 0 0 C hd (ci := 3) rfl in_X4 (Nat.le_of_ble_eq_true rfl) fl_X4_12 rfl rfl k
theorem jg_X4_16 (pc : Nat) (C : CX X G RX4 cc nL fr lo) (hd : decode cc pc = .ok (.getfield 16, 3)) (k : J X G nL g (pc + 3) L (.ref (dr G 1) :: st)) : J X G nL g pc L (.ref (xo G) :: st) := j_get pc 1 0 C hd (ci := 3) rfl in_X4 (Nat.le_of_ble_eq_true rfl) fl_X4_16 rfl rfl k
theorem jg_X4_19 (pc : Nat) (C : CX X G RX4 cc nL fr lo) (hd : decode cc pc = .ok (.getfield 19, 3)) (k : J X G nL g (pc + 3) L (.ref (dr G 2) :: st)) : J X G nL g pc L (.ref (xo G) :: st) := j_get pc 2 0 C hd (ci := 3) rfl in_X4 (Nat.le_of_ble_eq_true rfl) fl_X4_19 rfl rfl k
theorem jg_X4_22 (pc : Nat) (C : CX X G RX4 cc nL fr lo) (hd : decode cc pc = .ok (.getfield 22, 3)) (k : J X G nL g (pc + 3) L (.ref (dr G 3) :: st)) : J X G nL g pc L (.ref (xo G) :: st) := j_get pc 3 0 C hd (ci := 3) rfl in_X4 (Nat.le_of_ble_eq_true rfl) fl_X4_22 rfl rfl k
theorem jg_X4_28 (pc : Nat) (C : CX X G RX4 cc nL fr lo) (hd : decode cc pc = .ok (.getfield 28, 3)) (k : J X G nL g (pc + 3) L (.ref (tp G) :: st)) : J X G nL g pc L (.ref (xo G) :: st) := j_get pc 4 0 C hd (ci := 3) rfl in_X4 (Nat.le_of_ble_eq_true rfl) fl_X4_28 rfl rfl k
theorem jg_X4_34 (pc : Nat) (C : CX X G RX4 cc nL fr lo) (hd : decode cc pc = .ok (.getfield 34, 3)) (k : J X G nL g (pc + 3) L (.ref (hs G) :: st)) : J X G nL g pc L (.ref (xo G) :: st) := j_get pc 5 0 C hd (ci := 3) rfl in_X4 (Nat.le_of_ble_eq_true rfl) fl_X4_34 rfl rfl k
theorem jg_X4_38 (pc : Nat) (C : CX X G RX4 cc nL fr lo) (hd : decode cc pc = .ok (.getfield 38, 3)) (k : J X G nL g (pc + 3) L (.ref (fa G) :: st)) : J X G nL g pc L (.ref (xo G) :: st) := j_get pc 6 0 C hd (ci := 3) rfl in_X4 (Nat.le_of_ble_eq_true rfl) fl_X4_38 rfl rfl k
theorem jg_X4_42 (pc : Nat) (C : CX X G RX4 cc nL fr lo) (hd : decode cc pc = .ok (.getfield 42, 3)) (k : J X G nL g (pc + 3) L (.int (g 11 0) :: st)) : J X G nL g pc L (.ref (xo G) :: st) := j_get pc 7 0 C hd (ci := 3) rfl in_X4 (Nat.le_of_ble_eq_true rfl) fl_X4_42 rfl rfl k
theorem jp_X4_42 (pc : Nat) {x : Int32} (C : CX X G RX4 cc nL fr lo) (hd : decode cc pc = .ok (.putfield 42, 3)) (hx01 : x = 0 ∨ x = 1) (k : J X G nL (ub g 11 (upd (g 11) 0 x)) (pc + 3) L st) : J X G nL g pc L (.int x :: .ref (xo G) :: st) := j_put pc 7 0 0 C hd (ci := 3) rfl in_X4 tyX4_ok nmX4 (Nat.le_of_ble_eq_true rfl) fl_X4_42 rfl rfl (by rcases hx01 with rfl | rfl <;> decide) (by rcases hx01 with rfl | rfl <;> decide) (Nat.le_of_ble_eq_true rfl) rfl (Nat.le_of_ble_eq_true rfl) rfl (Nat.zero_le _) (Nat.le_of_ble_eq_true rfl) rfl k
theorem jg_X5_7 (pc : Nat) (C : CX X G RX5 cc nL fr lo) (hd : decode cc pc = .ok (.getfield 7, 3)) (k : J X G nL g (pc + 3) L (.ref (ar G 0) :: st)) : J X G nL g pc L (.ref (mo G) :: st) := j_get pc 0 29 C hd (ci := 4) rfl in_X5 (Nat.le_of_ble_eq_true rfl) fl_X5_7 rfl rfl k
theorem jg_X5_13 (pc : Nat) (C : CX X G RX5 cc nL fr lo) (hd : decode cc pc = .ok (.getfield 13, 3)) (k : J X G nL g (pc + 3) L (.ref (ar G 1) :: st)) : J X G nL g pc L (.ref (mo G) :: st) := j_get pc 1 29 C hd (ci := 4) rfl in_X5 (Nat.le_of_ble_eq_true rfl) fl_X5_13 rfl rfl k
theorem jg_X5_16 (pc : Nat) (C : CX X G RX5 cc nL fr lo) (hd : decode cc pc = .ok (.getfield 16, 3)) (k : J X G nL g (pc + 3) L (.ref (ar G 2) :: st)) : J X G nL g pc L (.ref (mo G) :: st) := j_get pc 2 29 C hd (ci := 4) rfl in_X5 (Nat.le_of_ble_eq_true rfl) fl_X5_16 rfl rfl k
theorem jg_X5_19 (pc : Nat) (C : CX X G RX5 cc nL fr lo) (hd : decode cc pc = .ok (.getfield 19, 3)) (k : J X G nL g (pc + 3) L (.ref (ar G 3) :: st)) : J X G nL g pc L (.ref (mo G) :: st) := j_get pc 3 29 C hd (ci := 4) rfl in_X5 (Nat.le_of_ble_eq_true rfl) fl_X5_19 rfl rfl k
theorem jg_X5_301 (pc : Nat) (C : CX X G RX5 cc nL fr lo) (hd : decode cc pc = .ok (.getfield 301, 3)) (k : J X G nL g (pc + 3) L (.int (g 22 0) :: st)) : J X G nL g pc L (.ref (mo G) :: st) := j_get pc 4 29 C hd (ci := 4) rfl in_X5 (Nat.le_of_ble_eq_true rfl) fl_X5_301 rfl rfl k
theorem jp_X5_301 (pc : Nat) {x : Int32} (C : CX X G RX5 cc nL fr lo) (hd : decode cc pc = .ok (.putfield 301, 3)) (hx01 : x = 0 ∨ x = 1) (k : J X G nL (ub g 22 (upd (g 22) 0 x)) (pc + 3) L st) : J X G nL g pc L (.int x :: .ref (mo G) :: st) := j_put pc 4 29 0 C hd (ci := 4) rfl in_X5 tyX5_ok nmX5 (Nat.le_of_ble_eq_true rfl) fl_X5_301 rfl rfl (by rcases hx01 with rfl | rfl <;> decide) (by rcases hx01 with rfl | rfl <;> decide) (Nat.le_of_ble_eq_true rfl) rfl (Nat.le_of_ble_eq_true rfl) rfl (Nat.zero_le _) (Nat.le_of_ble_eq_true rfl) rfl k
theorem jg_X5_22 (pc : Nat) (C : CX X G RX5 cc nL fr lo) (hd : decode cc pc = .ok (.getfield 22, 3)) (k : J X G nL g (pc + 3) L (.ref (ar G 4) :: st)) : J X G nL g pc L (.ref (mo G) :: st) := j_get pc 5 29 C hd (ci := 4) rfl in_X5 (Nat.le_of_ble_eq_true rfl) fl_X5_22 rfl rfl k
theorem jg_X5_25 (pc : Nat) (C : CX X G RX5 cc nL fr lo) (hd : decode cc pc = .ok (.getfield 25, 3)) (k : J X G nL g (pc + 3) L (.ref (ar G 5) :: st)) : J X G nL g pc L (.ref (mo G) :: st) := j_get pc 6 29 C hd (ci := 4) rfl in_X5 (Nat.le_of_ble_eq_true rfl) fl_X5_25 rfl rfl k
theorem jg_X5_212 (pc : Nat) (C : CX X G RX5 cc nL fr lo) (hd : decode cc pc = .ok (.getfield 212, 3)) (k : J X G nL g (pc + 3) L (.int (g 22 1) :: st)) : J X G nL g pc L (.ref (mo G) :: st) := j_get pc 7 29 C hd (ci := 4) rfl in_X5 (Nat.le_of_ble_eq_true rfl) fl_X5_212 rfl rfl k
theorem jp_X5_212 (pc : Nat) {x : Int32} (C : CX X G RX5 cc nL fr lo) (hd : decode cc pc = .ok (.putfield 212, 3)) (k : J X G nL (ub g 22 (upd (g 22) 1 x)) (pc + 3) L st) : J X G nL g pc L (.int x :: .ref (mo G) :: st) := j_put pc 7 29 1 C hd (ci := 4) rfl in_X5 tyX5_ok nmX5 (Nat.le_of_ble_eq_true rfl) fl_X5_212 rfl rfl (vp_nar_int x) rfl (Nat.le_of_ble_eq_true rfl) rfl (Nat.le_of_ble_eq_true rfl) rfl (Nat.zero_le _) (Nat.le_of_ble_eq_true rfl) rfl k
theorem jg_X5_28 (pc : Nat) (C : CX X G RX5 cc nL fr lo) (hd : decode cc pc = .ok (.getfield 28, 3)) (k : J X G nL g (pc + 3) L (.ref (ar G 6) :: st)) : J X G nL g pc L (.ref (mo G) :: st) := j_get pc 8 29 C hd (ci := 4) rfl in_X5 (Nat.le_of_ble_eq_true rfl) fl_X5_28 rfl rfl k
theorem jg_X5_31 (pc : Nat) (C : CX X G RX5 cc nL fr lo) (hd : decode cc pc = .ok (.getfield 31, 3)) (k : J X G nL g (pc + 3) L (.ref (ar G 7) :: st)) : J X G nL g pc L (.ref (mo G) :: st) := j_get pc 9 29 C hd (ci := 4) rfl in_X5 (Nat.le_of_ble_eq_true rfl) fl_X5_31 rfl rfl k
theorem jg_X5_34 (pc : Nat) (C : CX X G RX5 cc nL fr lo) (hd : decode cc pc = .ok (.getfield 34, 3)) (k : J X G nL g (pc + 3) L (.ref (ar G 8) :: st)) : J X G nL g pc L (.ref (mo G) :: st) := j_get pc 10 29 C hd (ci := 4) rfl in_X5 (Nat.le_of_ble_eq_true rfl) fl_X5_34 rfl rfl k
theorem jg_X5_37 (pc : Nat) (C : CX X G RX5 cc nL fr lo) (hd : decode cc pc = .ok (.getfield 37, 3)) (k : J X G nL g (pc + 3) L (.ref (ar G 9) :: st)) : J X G nL g pc L (.ref (mo G) :: st) := j_get pc 11 29 C hd (ci := 4) rfl in_X5 (Nat.le_of_ble_eq_true rfl) fl_X5_37 rfl rfl k
theorem jg_X5_231 (pc : Nat) (C : CX X G RX5 cc nL fr lo) (hd : decode cc pc = .ok (.getfield 231, 3)) (k : J X G nL g (pc + 3) L (.int (g 22 2) :: st)) : J X G nL g pc L (.ref (mo G) :: st) := j_get pc 12 29 C hd (ci := 4) rfl in_X5 (Nat.le_of_ble_eq_true rfl) fl_X5_231 rfl rfl k
theorem jp_X5_231 (pc : Nat) {x : Int32} (C : CX X G RX5 cc nL fr lo) (hd : decode cc pc = .ok (.putfield 231, 3)) (k : J X G nL (ub g 22 (upd (g 22) 2 x)) (pc + 3) L st) : J X G nL g pc L (.int x :: .ref (mo G) :: st) := j_put pc 12 29 2 C hd (ci := 4) rfl in_X5 tyX5_ok nmX5 (Nat.le_of_ble_eq_true rfl) fl_X5_231 rfl rfl (vp_nar_int x) rfl (Nat.le_of_ble_eq_true rfl) rfl (Nat.le_of_ble_eq_true rfl) rfl (Nat.zero_le _) (Nat.le_of_ble_eq_true rfl) rfl k
theorem jg_X5_219 (pc : Nat) (C : CX X G RX5 cc nL fr lo) (hd : decode cc pc = .ok (.getfield 219, 3)) (k : J X G nL g (pc + 3) L (.int (g 22 3) :: st)) : J X G nL g pc L (.ref (mo G) :: st) := j_get pc 13 29 C hd (ci := 4) rfl in_X5 (Nat.le_of_ble_eq_true rfl) fl_X5_219 rfl rfl k
theorem jp_X5_219 (pc : Nat) {x : Int32} (C : CX X G RX5 cc nL fr lo) (hd : decode cc pc = .ok (.putfield 219, 3)) (k : J X G nL (ub g 22 (upd (g 22) 3 x)) (pc + 3) L st) : J X G nL g pc L (.int x :: .ref (mo G) :: st) := j_put pc 13 29 3 C hd (ci := 4) rfl in_X5 tyX5_ok nmX5 (Nat.le_of_ble_eq_true rfl) fl_X5_219 rfl rfl (vp_nar_int x) rfl (Nat.le_of_ble_eq_true rfl) rfl (Nat.le_of_ble_eq_true rfl) rfl (Nat.zero_le _) (Nat.le_of_ble_eq_true rfl) rfl k
theorem jg_X5_216 (pc : Nat) (C : CX X G RX5 cc nL fr lo) (hd : decode cc pc = .ok (.getfield 216, 3)) (k : J X G nL g (pc + 3) L (.int (g 22 4) :: st)) : J X G nL g pc L (.ref (mo G) :: st) := j_get pc 14 29 C hd (ci := 4) rfl in_X5 (Nat.le_of_ble_eq_true rfl) fl_X5_216 rfl rfl k
theorem jp_X5_216 (pc : Nat) {x : Int32} (C : CX X G RX5 cc nL fr lo) (hd : decode cc pc = .ok (.putfield 216, 3)) (k : J X G nL (ub g 22 (upd (g 22) 4 x)) (pc + 3) L st) : J X G nL g pc L (.int x :: .ref (mo G) :: st) := j_put pc 14 29 4 C hd (ci := 4) rfl in_X5 tyX5_ok nmX5 (Nat.le_of_ble_eq_true rfl) fl_X5_216 rfl rfl (vp_nar_int x) rfl (Nat.le_of_ble_eq_true rfl) rfl (Nat.le_of_ble_eq_true rfl) rfl (Nat.zero_le _) (Nat.le_of_ble_eq_true rfl) rfl k
theorem jg_X5_234 (pc : Nat) (C : CX X G RX5 cc nL fr lo) (hd : decode cc pc = .ok (.getfield 234, 3)) (k : J X G nL g (pc + 3) L (.int (g 22 5) :: st)) : J X G nL g pc L (.ref (mo G) :: st) := j_get pc 15 29 C hd (ci := 4) rfl in_X5 (Nat.le_of_ble_eq_true rfl) fl_X5_234 rfl rfl k
theorem jp_X5_234 (pc : Nat) {x : Int32} (C : CX X G RX5 cc nL fr lo) (hd : decode cc pc = .ok (.putfield 234, 3)) (k : J X G nL (ub g 22 (upd (g 22) 5 x)) (pc + 3) L st) : J X G nL g pc L (.int x :: .ref (mo G) :: st) := j_put pc 15 29 5 C hd (ci := 4) rfl in_X5 tyX5_ok nmX5 (Nat.le_of_ble_eq_true rfl) fl_X5_234 rfl rfl (vp_nar_int x) rfl (Nat.le_of_ble_eq_true rfl) rfl (Nat.le_of_ble_eq_true rfl) rfl (Nat.zero_le _) (Nat.le_of_ble_eq_true rfl) rfl k
theorem jg_X5_237 (pc : Nat) (C : CX X G RX5 cc nL fr lo) (hd : decode cc pc = .ok (.getfield 237, 3)) (k : J X G nL g (pc + 3) L (.int (g 22 6) :: st)) : J X G nL g pc L (.ref (mo G) :: st) := j_get pc 16 29 C hd (ci := 4) rfl in_X5 (Nat.le_of_ble_eq_true rfl) fl_X5_237 rfl rfl k
theorem jp_X5_237 (pc : Nat) {x : Int32} (C : CX X G RX5 cc nL fr lo) (hd : decode cc pc = .ok (.putfield 237, 3)) (k : J X G nL (ub g 22 (upd (g 22) 6 x)) (pc + 3) L st) : J X G nL g pc L (.int x :: .ref (mo G) :: st) := j_put pc 16 29 6 C hd (ci := 4) rfl in_X5 tyX5_ok nmX5 (Nat.le_of_ble_eq_true rfl) fl_X5_237 rfl rfl (vp_nar_int x) rfl (Nat.le_of_ble_eq_true rfl) rfl (Nat.le_of_ble_eq_true rfl) rfl (Nat.zero_le _) (Nat.le_of_ble_eq_true rfl) rfl k
theorem jl_wd (pc : Nat) {d : Nat} (h : d < 4) {i : Nat} (hi : i < 48) (C : CX X G own cc nL fr lo) (hd : decode cc pc = .ok (.iaload, 1)) (k : J X G nL g (pc + 1) L (.int (g d (3 + i)) :: st)) : J X G nL g pc L (.int (nI i) :: .ref (wa G d) :: st) := j_ild pc (2 + 4 * d) C hd (f := (fun i => g d (3 + i))) (at_Wd h) hi (by decide) k
theorem js_wd (pc : Nat) {d : Nat} (h : d < 4) {i : Nat} {x : Int32} (hi : i < 48) (C : CX X G own cc nL fr lo) (hd : decode cc pc = .ok (.iastore, 1)) (k : J X G nL (ub g d (upd (g d) (3 + i) x)) (pc + 1) L st) : J X G nL g pc L (.int x :: .int (nI i) :: .ref (wa G d) :: st) := j_ist pc (2 + 4 * d) C hd (f := (fun i => g d (3 + i))) (at_Wd h) hi (by decide) (fun H hP => WW_arr (2 + 4 * d) 3 i 48 _ (by omega) (tb_Wd h).1 (by rw [(tb_Wd h).2.1]; exact Nat.le_add_right _ _) (by rw [(tb_Wd h).2.2]; omega) (fun g => (at_Wd h)) hP) k
theorem jl_tr (pc : Nat) {d : Nat} (h : d < 4) {i : Nat} (hi : i < 32) (C : CX X G own cc nL fr lo) (hd : decode cc pc = .ok (.iaload, 1)) (k : J X G nL g (pc + 1) L (.int (g d (51 + i)) :: st)) : J X G nL g pc L (.int (nI i) :: .ref (ta G d) :: st) := j_ild pc (3 + 4 * d) C hd (f := (fun i => g d (51 + i))) (at_Tr h) hi (by decide) k
theorem js_tr (pc : Nat) {d : Nat} (h : d < 4) {i : Nat} {x : Int32} (hi : i < 32) (C : CX X G own cc nL fr lo) (hd : decode cc pc = .ok (.iastore, 1)) (k : J X G nL (ub g d (upd (g d) (51 + i) x)) (pc + 1) L st) : J X G nL g pc L (.int x :: .int (nI i) :: .ref (ta G d) :: st) := j_ist pc (3 + 4 * d) C hd (f := (fun i => g d (51 + i))) (at_Tr h) hi (by decide) (fun H hP => WW_arr (3 + 4 * d) 51 i 32 _ (by omega) (tb_Tr h).1 (by rw [(tb_Tr h).2.1]; exact Nat.le_add_right _ _) (by rw [(tb_Tr h).2.2]; omega) (fun g => (at_Tr h)) hP) k
theorem jl_sp (pc : Nat) {d : Nat} (h : d < 4) {i : Nat} (hi : i < 10) (C : CX X G own cc nL fr lo) (hd : decode cc pc = .ok (.iaload, 1)) (k : J X G nL g (pc + 1) L (.int (g d (83 + i)) :: st)) : J X G nL g pc L (.int (nI i) :: .ref (sa G d) :: st) := j_ild pc (4 + 4 * d) C hd (f := (fun i => g d (83 + i))) (at_Sp h) hi (by decide) k
theorem js_sp (pc : Nat) {d : Nat} (h : d < 4) {i : Nat} {x : Int32} (hi : i < 10) (C : CX X G own cc nL fr lo) (hd : decode cc pc = .ok (.iastore, 1)) (k : J X G nL (ub g d (upd (g d) (83 + i) x)) (pc + 1) L st) : J X G nL g pc L (.int x :: .int (nI i) :: .ref (sa G d) :: st) := j_ist pc (4 + 4 * d) C hd (f := (fun i => g d (83 + i))) (at_Sp h) hi (by decide) (fun H hP => WW_arr (4 + 4 * d) 83 i 10 _ (by omega) (tb_Sp h).1 (by rw [(tb_Sp h).2.1]; exact Nat.le_add_right _ _) (by rw [(tb_Sp h).2.2]; omega) (fun g => (at_Sp h)) hP) k
theorem jl_sn (pc : Nat) {t : Nat} (h : t < 4) {i : Nat} (hi : i < 40) (C : CX X G own cc nL fr lo) (hd : decode cc pc = .ok (.iaload, 1)) (k : J X G nL g (pc + 1) L (.int (g (6 + t) (2 + i)) :: st)) : J X G nL g pc L (.int (nI i) :: .ref (sn G t) :: st) := j_ild pc (21 + 2 * t) C hd (f := (fun i => g (6 + t) (2 + i))) (at_Sn h) hi (by decide) k
theorem js_sn (pc : Nat) {t : Nat} (h : t < 4) {i : Nat} {x : Int32} (hi : i < 40) (C : CX X G own cc nL fr lo) (hd : decode cc pc = .ok (.iastore, 1)) (k : J X G nL (ub g (6 + t) (upd (g (6 + t)) (2 + i) x)) (pc + 1) L st) : J X G nL g pc L (.int x :: .int (nI i) :: .ref (sn G t) :: st) := j_ist pc (21 + 2 * t) C hd (f := (fun i => g (6 + t) (2 + i))) (at_Sn h) hi (by decide) (fun H hP => WW_arr (21 + 2 * t) 2 i 40 _ (by omega) (tb_Sn h).1 (by rw [(tb_Sn h).2.1]; exact Nat.le_add_right _ _) (by rw [(tb_Sn h).2.2]; omega) (fun g => (at_Sn h)) hP) k
theorem jl_fa (pc : Nat) {i : Nat} (hi : i < 7) (C : CX X G own cc nL fr lo) (hd : decode cc pc = .ok (.iaload, 1)) (k : J X G nL g (pc + 1) L (.int (g 10 i) :: st)) : J X G nL g pc L (.int (nI i) :: .ref (fa G) :: st) := j_ild pc 28 C hd (f := (g 10)) rfl hi (by decide) k
theorem js_fa (pc : Nat) {i : Nat} {x : Int32} (hi : i < 7) (C : CX X G own cc nL fr lo) (hd : decode cc pc = .ok (.iastore, 1)) (k : J X G nL (ub g 10 (upd (g 10) i x)) (pc + 1) L st) : J X G nL g pc L (.int x :: .int (nI i) :: .ref (fa G) :: st) := j_ist pc 28 C hd (f := (g 10)) rfl hi (by decide) (fun H hP => WW_arr0 28 i 7 _ (Nat.le_of_ble_eq_true rfl) rfl (Nat.zero_le _) hi (fun g => rfl) hP) k
theorem jl_A (pc : Nat) {j : Nat} (h : j < 10) {i : Nat} (hi : i < (aLen j)) (C : CX X G own cc nL fr lo) (hd : decode cc pc = .ok (.iaload, 1)) (k : J X G nL g (pc + 1) L (.int (g (12 + j) i) :: st)) : J X G nL g pc L (.int (nI i) :: .ref (ar G j) :: st) := j_ild pc (30 + j) C hd (f := (g (12 + j))) (at_A h) hi (aLen_lt h) k
theorem js_A (pc : Nat) {j : Nat} (h : j < 10) {i : Nat} {x : Int32} (hi : i < (aLen j)) (C : CX X G own cc nL fr lo) (hd : decode cc pc = .ok (.iastore, 1)) (k : J X G nL (ub g (12 + j) (upd (g (12 + j)) i x)) (pc + 1) L st) : J X G nL g pc L (.int x :: .int (nI i) :: .ref (ar G j) :: st) := j_ist pc (30 + j) C hd (f := (g (12 + j))) (at_A h) hi (aLen_lt h) (fun H hP => WW_arr0 (30 + j) i (aLen j) _ (by omega) (tb_A h).1 (by rw [(tb_A h).2.1]; exact Nat.zero_le _) (by rw [(tb_A h).2.2]; exact hi) (fun g => (at_A h)) hP) k
theorem jl_tb (pc : Nat) {i : Nat} (hi : i < 120) (C : CX X G own cc nL fr lo) (hd : decode cc pc = .ok (.baload, 1)) (k : J X G nL g (pc + 1) L (.int (g 5 i) :: st)) : J X G nL g pc L (.int (nI i) :: .ref (tb G) :: st) := by
  obtain ⟨p, e, R, s, m, args, below, meth, c, Q, cells, slots⟩ := X
  obtain ⟨hx, hb, hml, hown, hts, hE, hc1, hc2, hfr, hlo⟩ := C
  intro H locs ls hP hS hl
  refine va_bald hx hb hE.1 hP 18 0 (f := g 5) (n := 120) rfl rfl (nI_in hi (by decide)) hd ?_
  rw [nI_clamp (Nat.lt_trans hi (by decide))]
  exact k H locs ls hP hS hl
theorem js_tb (pc : Nat) {i : Nat} {x : Int32} (hi : i < 120) (C : CX X G own cc nL fr lo) (hd : decode cc pc = .ok (.bastore, 1)) (k : J X G nL (ub g 5 (upd (g 5) i (vp_nar .byte x))) (pc + 1) L st) : J X G nL g pc L (.int x :: .int (nI i) :: .ref (tb G) :: st) := by
  obtain ⟨p, e, R, s, m, args, below, meth, c, Q, cells, slots⟩ := X
  obtain ⟨hx, hb, hml, hown, hts, hE, hc1, hc2, hfr, hlo⟩ := C
  intro H locs ls hP hS hl
  refine va_bast hx hb hE.1 hP (WW_D hE.2.1) hS 18 0 (f := g 5) (n := 120) rfl rfl (nI_in hi (by decide)) hd (fun H1 locs1 hP1 _ hS1 => ?_)
  rw [nI_clamp (Nat.lt_trans hi (by decide))] at hP1
  exact k H1 locs1 ls (WW_arr0 18 i 120 _ (Nat.le_of_ble_eq_true rfl) rfl (Nat.zero_le _) hi (fun g => rfl) hP1) hS1 hl
theorem jl_hs (pc : Nat) {t : Nat} (h : t < 4) (C : CX X G own cc nL fr lo) (hd : decode cc pc = .ok (.aaload, 1)) (k : J X G nL g (pc + 1) L (.ref (sh G t) :: st)) : J X G nL g pc L (.int (nI t) :: .ref (hs G) :: st) := by
  obtain ⟨p, e, R, s, m, args, below, meth, c, Q, cells, slots⟩ := X
  obtain ⟨hx, hb, hml, hown, hts, hE, hc1, hc2, hfr, hlo⟩ := C
  intro H locs ls hP hS hl
  refine va_aldq hx hb hE.1 hP 19 2 (n := 4) (f := fun i => some (sh G i)) rfl rfl (nI_in h (by decide)) hd ?_
  rw [nI_clamp (Nat.lt_trans h (by decide))]
  exact k H locs ls hP hS hl
theorem j_alen (pc q0 t0 : Nat) {a n : Nat} {cy : ClassId} {f : Nat → Int32} {ty : FieldType} {v : Int32} (C : CX X G own cc nL fr lo) (hd : decode cc pc = .ok (.arraylength, 1)) (he : (WW G g)[q0]? = some (a, .inl (cy, n, .inl f))) (ht : (tys G)[t0]? = some (cy, ty)) (hv : Int32.ofNat n = v) (k : J X G nL g (pc + 1) L (.int v :: st)) : J X G nL g pc L (.ref a :: st) := by
  obtain ⟨p, e, R, s, m, args, below, meth, c, Q, cells, slots⟩ := X
  obtain ⟨hx, hb, hml, hown, hts, hE, hc1, hc2, hfr, hlo⟩ := C
  intro H locs ls hP hS hl
  exact va_alen hx hb hE.1 hP q0 t0 he ht hv hd (k H locs ls hP hS hl)
theorem jgs_X4_109 (pc : Nat) (C : CX X G RX4 cc nL fr lo) (hd : decode cc pc = .ok (.getstatic 109, 3)) (k : J X G nL g (pc + 3) L (.ref (gs G 0) :: st)) : J X G nL g pc L st := by
  obtain ⟨p, e, R, s, m, args, below, meth, c, Q, cells, slots⟩ := X
  obtain ⟨hx, hb, hml, hown, hts, hE, hc1, hc2, hfr, hlo⟩ := C
  intro H locs ls hP hS hl
  exact va_gets hx hb hE.2.2.1.1 hS hown (hts _ fl_X4_109) (fun _ h => h) hd (k H locs ls hP hS hl)
theorem jgs_X4_112 (pc : Nat) (C : CX X G RX4 cc nL fr lo) (hd : decode cc pc = .ok (.getstatic 112, 3)) (k : J X G nL g (pc + 3) L (.ref (gs G 1) :: st)) : J X G nL g pc L st := by
  obtain ⟨p, e, R, s, m, args, below, meth, c, Q, cells, slots⟩ := X
  obtain ⟨hx, hb, hml, hown, hts, hE, hc1, hc2, hfr, hlo⟩ := C
  intro H locs ls hP hS hl
  exact va_gets hx hb hE.2.2.2.1.1 hS hown (hts _ fl_X4_112) (fun _ h => h) hd (k H locs ls hP hS hl)
theorem jgs_X1_9 (pc : Nat) (C : CX X G RX1 cc nL fr lo) (hd : decode cc pc = .ok (.getstatic 9, 3)) (k : J X G nL g (pc + 3) L (.ref (gs G 2) :: st)) : J X G nL g pc L st := by
  obtain ⟨p, e, R, s, m, args, below, meth, c, Q, cells, slots⟩ := X
  obtain ⟨hx, hb, hml, hown, hts, hE, hc1, hc2, hfr, hlo⟩ := C
  intro H locs ls hP hS hl
  exact va_gets hx hb hE.2.2.2.2.1.1 hS hown (hts _ fl_X1_9) (fun _ h => h) hd (k H locs ls hP hS hl)
theorem jgs_X3_73 (pc : Nat) (C : CX X G RX3 cc nL fr lo) (hd : decode cc pc = .ok (.getstatic 73, 3)) (k : J X G nL g (pc + 3) L (.ref (gs G 1) :: st)) : J X G nL g pc L st := by
  obtain ⟨p, e, R, s, m, args, below, meth, c, Q, cells, slots⟩ := X
  obtain ⟨hx, hb, hml, hown, hts, hE, hc1, hc2, hfr, hlo⟩ := C
  intro H locs ls hP hS hl
  exact va_getsN hx hb hE.2.2.2.1.1 hS hown (va_Nw.use rfl hE.2.2.2.2.2.2.2.2.2.1) (fun _ h => h) hd (k H locs ls hP hS hl)
theorem jgs_X3_85 (pc : Nat) (C : CX X G RX3 cc nL fr lo) (hd : decode cc pc = .ok (.getstatic 85, 3)) (k : J X G nL g (pc + 3) L (.ref (gs G 0) :: st)) : J X G nL g pc L st := by
  obtain ⟨p, e, R, s, m, args, below, meth, c, Q, cells, slots⟩ := X
  obtain ⟨hx, hb, hml, hown, hts, hE, hc1, hc2, hfr, hlo⟩ := C
  intro H locs ls hP hS hl
  exact va_getsN hx hb hE.2.2.1.1 hS hown (va_Nw.use rfl hE.2.2.2.2.2.2.2.2.2.2.1) (fun _ h => h) hd (k H locs ls hP hS hl)
theorem jl_st0 (pc : Nat) {i : Nat} (hi : i < 4) (C : CX X G own cc nL fr lo) (hd : decode cc pc = .ok (.iaload, 1)) (k : J X G nL g (pc + 1) L (.int (kLeast.getD i 0) :: st)) : J X G nL g pc L (.int (nI i) :: .ref (gs G 0) :: st) := by
  obtain ⟨p, e, R, s, m, args, below, meth, c, Q, cells, slots⟩ := X
  obtain ⟨hx, hb, hml, hown, hts, hE, hc1, hc2, hfr, hlo⟩ := C
  intro H locs ls hP hS hl
  exact va_ti hx hb hE.2.2.1.2 hS (nI_in hi (by decide)) (by rw [nI_clamp (Nat.lt_trans hi (by decide))]) hd (k H locs ls hP hS hl)
theorem jl_st1 (pc : Nat) {i : Nat} (hi : i < 4) (C : CX X G own cc nL fr lo) (hd : decode cc pc = .ok (.iaload, 1)) (k : J X G nL g (pc + 1) L (.int (kMost.getD i 0) :: st)) : J X G nL g pc L (.int (nI i) :: .ref (gs G 1) :: st) := by
  obtain ⟨p, e, R, s, m, args, below, meth, c, Q, cells, slots⟩ := X
  obtain ⟨hx, hb, hml, hown, hts, hE, hc1, hc2, hfr, hlo⟩ := C
  intro H locs ls hP hS hl
  exact va_ti hx hb hE.2.2.2.1.2 hS (nI_in hi (by decide)) (by rw [nI_clamp (Nat.lt_trans hi (by decide))]) hd (k H locs ls hP hS hl)
theorem jl_st2 (pc : Nat) {i : Nat} (hi : i < 7) (C : CX X G own cc nL fr lo) (hd : decode cc pc = .ok (.iaload, 1)) (k : J X G nL g (pc + 1) L (.int (kUpper.getD i 0) :: st)) : J X G nL g pc L (.int (nI i) :: .ref (gs G 2) :: st) := by
  obtain ⟨p, e, R, s, m, args, below, meth, c, Q, cells, slots⟩ := X
  obtain ⟨hx, hb, hml, hown, hts, hE, hc1, hc2, hfr, hlo⟩ := C
  intro H locs ls hP hS hl
  exact va_ti hx hb hE.2.2.2.2.1.2 hS (nI_in hi (by decide)) (by rw [nI_clamp (Nat.lt_trans hi (by decide))]) hd (k H locs ls hP hS hl)
theorem j_acpy (pc q0 q1 : Nat) {a0 a1 n0 n1 sp dp n : Nat} {f f1 : Nat → Int32} {g' : Mem} {idx : Nat} (C : CX X G own cc nL fr lo) (hd : decode cc pc = .ok (.invokestatic idx, 3)) (hlk : Cond.methodLink own idx arraycopyName ∈ TBL) (ha0 : (WW G g)[q0]? = some (a0, eI G n0 f)) (ha1 : (WW G g)[q1]? = some (a1, eI G n1 f1)) (h4 : sp + n ≤ n0) (h5 : dp + n ≤ n1) (hn0 : n0 < 2 ^ 31) (hn1 : n1 < 2 ^ 31) (hro : 1 ≤ fr ∧ (st.map fun v => v.category).sum + (nativeFrameWords "java/lang/System" "arraycopy" 5 + 11) ≤ lo) (hw : ∀ H, va_P (gD G) vwCl ((WW G g).set q1 (a1, eI G n1 (va_cpy f f1 sp dp n))) H → va_P (gD G) vwCl (WW G g') H) (k : J X G nL g' (pc + 3) L st) : J X G nL g pc L (.int (nI n) :: .int (nI dp) :: .ref a1 :: .int (nI sp) :: .ref a0 :: st) := by
  obtain ⟨p, e, R, s, m, args, below, meth, c, Q, cells, slots⟩ := X
  obtain ⟨hx, hb, hml, hown, hts, hE, hc1, hc2, hfr, hlo⟩ := C
  intro H locs ls hP hS hl
  have e1 := nI_clamp (n := sp) (by omega)
  have e2 := nI_clamp (n := dp) (by omega)
  have e3 := nI_clamp (n := n) (by omega)
  refine va_copyi hx hb (hml.trans hl.1.symm) hown (hts _ hlk) (hts _ tw_ac.1) (hts _ tw_ac.2.1) (hts _ tw_ac.2.2) hE.1 hP (WW_D hE.2.1) hS q0 q1 1 1 (ty := .int) ha0 ha1 rfl rfl rfl (nI_pos (by omega)) (nI_pos (by omega)) (nI_pos (by omega)) (by rw [e1, e3]; exact h4) (by rw [e2, e3]; exact h5) (fun _ _ => rfl) (Nat.le_trans hro.1 hfr) (Nat.le_trans hro.2 hlo) hd (fun H1 locs1 hP1 _ hS1 => ?_)
  rw [e1, e2, e3] at hP1
  exact k H1 locs1 ls (hw H1 hP1) hS1 hl
end FIELDS
end
section
/-! numbers -/
theorem nI_inc (n : Nat) : nI n + Int32.ofInt 1 = nI (n + 1) := (nI_succ n).symm
theorem nI_dec (n : Nat) : nI (n + 1) + Int32.ofInt (-1) = nI n := pk_m1 n
theorem lc_0 : Int64.ofNat ((0 : Fin 2) : Nat) = 0 := by decide
theorem lc_1 : Int64.ofNat ((1 : Fin 2) : Nat) = 1 := by decide
theorem ix_w (P K : Nat) : nI P * 8 + nI K = nI (8 * P + K) := by
  show nI P * nI 8 + nI K = _
  rw [pk_mul, nI_add, Nat.mul_comm]
theorem ix_b (P : Nat) : nI P * 8 = nI (8 * P) := by
  show nI P * nI 8 = _
  rw [pk_mul, Nat.mul_comm]
theorem ix_t (M W : Nat) : nI M * 4 + nI W = nI (4 * M + W) := by
  show nI M * nI 4 + nI W = _
  rw [pk_mul, nI_add, Nat.mul_comm]
/-- 51 + 4 * m + w, as the reference has it -/
theorem ix_at (M W : Nat) : 51 + 4 * nI M + nI W = nI (51 + (4 * M + W)) := by
  show nI 51 + nI 4 * nI M + nI W = _
  rw [pk_mul, nI_add, nI_add, Nat.add_assoc]
theorem ix_wa (P K : Nat) : 3 + 8 * nI P + nI K = nI (3 + (8 * P + K)) := by
  show nI 3 + nI 8 * nI P + nI K = _
  rw [pk_mul, nI_add, nI_add, Nat.add_assoc]
/-- what lies between -/
def inr (x lo hi : Int32) : Bool := decide (lo ≤ x ∧ x ≤ hi)
def bi (b : Bool) : Int32 := if b then 1 else 0
theorem bi_t : bi true = 1 := rfl
theorem bi_f : bi false = 0 := rfl
theorem bi_0 {b : Bool} (h : bi b = 0) : b = false := by
  cases b with
  | true => exact absurd h (by decide)
  | false => rfl
theorem bi_n {b : Bool} (h : ¬ bi b = 0) : b = true := by
  cases b with
  | false => exact absurd rfl h
  | true => rfl
theorem inr_nat {x : Int32} {n : Nat} (hn : n < 2 ^ 31) (h : inr x 0 (nI n) = true) : ∃ k, k ≤ n ∧ x = nI k := by
  obtain ⟨h1, h2⟩ := of_decide_eq_true h
  rcases pk_ix x (n := n + 1 - 1 + 0) (by omega) with q | q | ⟨j, q1, q2⟩
  · exact absurd h1 (by intro z; exact absurd q (Int32.not_lt.mpr z))
  · have : x = nI n := by
      have q : nI n ≤ x := by simpa using q
      exact Int32.le_antisymm h2 q
    exact ⟨n, Nat.le_refl _, this⟩
  · exact ⟨j, by omega, q2⟩
theorem inr_nI {k n : Nat} (h : k ≤ n) (hn : n < 2 ^ 31) : inr (nI k) 0 (nI n) = true := decide_eq_true ⟨nI_pos' (by omega), nI_le h hn⟩
/-! the row of an image: N, NIGHT, Z, words from 3 on, moths from 51 on, spots from 83 on -/
abbrev Row : Type := Nat → Int32
def wd (S : Row) (p k : Nat) : Int32 := S (3 + (8 * p + k))
def tr (S : Row) (m w : Nat) : Int32 := S (51 + (4 * m + w))
abbrev cl (x : Int32) : Nat := x.toNatClampNeg
/-- the first place, from k on, n of them -/
def ff (p : Nat → Bool) : Nat → Nat → Int32
  | _, 0 => -1
  | k, n + 1 => if p k then nI k else ff p (k + 1) n
/-- the last place below n -/
def lf (p : Nat → Bool) : Nat → Int32
  | 0 => -1
  | n + 1 => if p n then nI n else lf p n
theorem ff_or {p : Nat → Bool} {k n : Nat} : ff p k n = -1 ∨ ∃ j, k ≤ j ∧ j < k + n ∧ ff p k n = nI j ∧ p j = true := by
  induction n generalizing k with
  | zero => exact Or.inl rfl
  | succ n ih =>
    by_cases h : p k = true
    · exact Or.inr ⟨k, Nat.le_refl _, by omega, by simp [ff, h], h⟩
    · rcases ih (k := k + 1) with q | ⟨j, q1, q2, q3, q4⟩
      · exact Or.inl (by simp [ff, h, q])
      · exact Or.inr ⟨j, by omega, by omega, by simp [ff, h, q3], q4⟩
theorem lf_or {p : Nat → Bool} {n : Nat} : lf p n = -1 ∨ ∃ j, j < n ∧ lf p n = nI j ∧ p j = true := by
  induction n with
  | zero => exact Or.inl rfl
  | succ n ih =>
    by_cases h : p n = true
    · exact Or.inr ⟨n, by omega, by simp [lf, h], h⟩
    · rcases ih with q | ⟨j, q1, q2, q3⟩
      · exact Or.inl (by simp [lf, h, q])
      · exact Or.inr ⟨j, by omega, by simp [lf, h, q2], q3⟩
def rm2 (x : Int32) : Int32 := x - x / 2 * 2
def pL (S : Row) (p : Nat) (t : Int32) : Nat → Bool := fun k => decide (wd S p k = t)
def pW (S : Row) (p : Nat) : Nat → Bool := fun k => decide (¬ wd S p k = 0)
def pP (S : Row) (p : Nat) (t : Int32) : Nat → Bool := fun k => decide (¬ wd S p k = 0 ∧ rm2 (wd S p k) = rm2 t)
/-- what a page says, of its first n places -/
def ss (S : Row) (p : Nat) : Nat → Int32
  | 0 => 0
  | n + 1 => ss S p n + wd S p n * nI (n + 1)
/-- the set of places of which p holds, of the first n -/
def bs (p : Nat → Bool) : Nat → Int32
  | 0 => 0
  | n + 1 => if p n then bs p n ||| (1 <<< (nI n &&& 31)) else bs p n
/-- how many of the first n -/
def ct (p : Nat → Bool) : Nat → Nat
  | 0 => 0
  | n + 1 => if p n then ct p n + 1 else ct p n
theorem tw_min : Cond.static Lib.Math.min.name ∈ TBL ∧ Cond.initialized "java/lang/Math" ∈ TBL ∧ Cond.code Lib.Math.min.name Lib.Math.min.code 2 (some .int) ∈ TBL := ⟨ms_J9_min_7cf53.2.1, ti_J9, tc_J9_min_7cf53⟩
theorem tw_max : Cond.static Lib.Math.max.name ∈ TBL ∧ Cond.initialized "java/lang/Math" ∈ TBL ∧ Cond.code Lib.Math.max.name Lib.Math.max.code 2 (some .int) ∈ TBL := ⟨ms_J9_max_7cf53.2.1, ti_J9, tc_J9_max_7cf53⟩
end
section
theorem bp_8 : (Int8.ofInt (8)).toInt32 = 8 := by decide
theorem ic_0 : Int32.ofInt (0) = 0 := by decide
theorem ic_1 : Int32.ofInt (1) = 1 := by decide
theorem ic_4 : Int32.ofInt (4) = 4 := by decide
set_option maxRecDepth 20000 in
theorem c_X0_wordAt {G : GT} {g : Mem} {d P K : Nat} (h4 : d < 4) (hP : P < 6) (hK : K < 8) : Cti G yX0_wordAt cX0_wordAt 3 .int 0 0 [.ref (dr G d), .int (nI P), .int (nI K)] g (fun r g' => r = wd (g d) P K ∧ g = g') := by
  refine ent_i (by decide) (Nat.le_of_ble_eq_true rfl) [some (.ref (dr G d)), some (.int (nI P)), some (.int (nI K))] rfl ?_
  intro X C hR
  have C : CX X G RX0 cX0_wordAt 3 0 0 := C
  refine j_al0 0 C dX0_wordAt_0 ?_
  refine jg_X0_9 1 h4 C dX0_wordAt_1 ?_
  refine j_il1 4 C dX0_wordAt_4 ?_
  refine j_bipush 5 C dX0_wordAt_5 bp_8 ?_
  refine j_imul 7 C dX0_wordAt_7 ?_
  refine j_il2 8 C dX0_wordAt_8 ?_
  refine j_iadd 9 C dX0_wordAt_9 ?_
  refine j_top (nI (8 * P + K)) (ix_w P K) ?_
  refine jl_wd 10 h4 (by omega) C dX0_wordAt_10 ?_
  exact hR dX0_wordAt_11 ⟨rfl, rfl⟩
set_option maxRecDepth 20000 in
theorem c_X0_setWord {G : GT} {g : Mem} {d P K : Nat} (h4 : d < 4) (hP : P < 6) (hK : K < 8) {v : Int32} : Ctv G yX0_setWord cX0_setWord 4 0 0 [.ref (dr G d), .int (nI P), .int (nI K), .int v] g (fun g' => g' = ub g d (upd (g d) (3 + (8 * P + K)) v)) := by
  refine ent_v (by decide) (Nat.le_of_ble_eq_true rfl) [some (.ref (dr G d)), some (.int (nI P)), some (.int (nI K)), some (.int v)] rfl ?_
  intro X C hR
  have C : CX X G RX0 cX0_setWord 4 0 0 := C
  refine j_al0 0 C dX0_setWord_0 ?_
  refine jg_X0_9 1 h4 C dX0_setWord_1 ?_
  refine j_il1 4 C dX0_setWord_4 ?_
  refine j_bipush 5 C dX0_setWord_5 bp_8 ?_
  refine j_imul 7 C dX0_setWord_7 ?_
  refine j_il2 8 C dX0_setWord_8 ?_
  refine j_iadd 9 C dX0_setWord_9 ?_
  refine j_il3 10 C dX0_setWord_10 ?_
  refine j_top2 (nI (8 * P + K)) (ix_w P K) ?_
  refine js_wd 11 h4 (by omega) C dX0_setWord_11 ?_
  exact hR dX0_setWord_12 rfl
set_option maxRecDepth 20000 in
theorem c_X0_trait {G : GT} {g : Mem} {d M W : Nat} (h4 : d < 4) (hM : M < 8) (hW : W < 4) : Cti G yX0_trait cX0_trait 3 .int 0 0 [.ref (dr G d), .int (nI M), .int (nI W)] g (fun r g' => r = tr (g d) M W ∧ g = g') := by
  refine ent_i (by decide) (Nat.le_of_ble_eq_true rfl) [some (.ref (dr G d)), some (.int (nI M)), some (.int (nI W))] rfl ?_
  intro X C hR
  have C : CX X G RX0 cX0_trait 3 0 0 := C
  refine j_al0 0 C dX0_trait_0 ?_
  refine jg_X0_15 1 h4 C dX0_trait_1 ?_
  refine j_il1 4 C dX0_trait_4 ?_
  refine j_iconst 5 C dX0_trait_5 ic_4 ?_
  refine j_imul 6 C dX0_trait_6 ?_
  refine j_il2 7 C dX0_trait_7 ?_
  refine j_iadd 8 C dX0_trait_8 ?_
  refine j_top (nI (4 * M + W)) (ix_t M W) ?_
  refine jl_tr 9 h4 (by omega) C dX0_trait_9 ?_
  exact hR dX0_trait_10 ⟨rfl, rfl⟩
set_option maxRecDepth 20000 in
theorem c_X0_setTrait {G : GT} {g : Mem} {d M W : Nat} (h4 : d < 4) (hM : M < 8) (hW : W < 4) {v : Int32} : Ctv G yX0_setTrait cX0_setTrait 4 0 0 [.ref (dr G d), .int (nI M), .int (nI W), .int v] g (fun g' => g' = ub g d (upd (g d) (51 + (4 * M + W)) v)) := by
  refine ent_v (by decide) (Nat.le_of_ble_eq_true rfl) [some (.ref (dr G d)), some (.int (nI M)), some (.int (nI W)), some (.int v)] rfl ?_
  intro X C hR
  have C : CX X G RX0 cX0_setTrait 4 0 0 := C
  refine j_al0 0 C dX0_setTrait_0 ?_
  refine jg_X0_15 1 h4 C dX0_setTrait_1 ?_
  refine j_il1 4 C dX0_setTrait_4 ?_
  refine j_iconst 5 C dX0_setTrait_5 ic_4 ?_
  refine j_imul 6 C dX0_setTrait_6 ?_
  refine j_il2 7 C dX0_setTrait_7 ?_
  refine j_iadd 8 C dX0_setTrait_8 ?_
  refine j_il3 9 C dX0_setTrait_9 ?_
  refine j_top2 (nI (4 * M + W)) (ix_t M W) ?_
  refine js_tr 10 h4 (by omega) C dX0_setTrait_10 ?_
  exact hR dX0_setTrait_11 rfl
set_option maxRecDepth 20000 in
theorem c_X0_saidBy {G : GT} {g : Mem} {d P : Nat} (h4 : d < 4) (hP : P < 6) : Cti G yX0_saidBy cX0_saidBy 4 .int 1 22 [.ref (dr G d), .int (nI P)] g (fun r g' => r = ss (g d) P 8 ∧ g = g') := by
  refine ent_i (by decide) (Nat.le_of_ble_eq_true rfl) [some (.ref (dr G d)), some (.int (nI P)), none, none] rfl ?_
  intro X C hR
  have C : CX X G RX0 cX0_saidBy 4 1 22 := C
  refine j_iconst 0 C dX0_saidBy_0 ic_0 ?_
  refine j_is2 1 C dX0_saidBy_1 rfl (Nat.le_of_ble_eq_true rfl) ?_
  refine j_iconst 2 C dX0_saidBy_2 ic_0 ?_
  refine j_is3 3 C dX0_saidBy_3 rfl (Nat.le_of_ble_eq_true rfl) ?_
  have loop : ∀ n k, k + n = 8 → J X G 4 g 4 [some (.ref (dr G d)), some (.int (nI P)), some (.int (ss (g d) P k)), some (.int (nI k))] [] := by
    intro n
    induction n with
    | zero =>
      intro k hk
      obtain rfl : k = 8 := by omega
      refine j_il3 4 C dX0_saidBy_4 ?_
      refine j_bipush 5 C dX0_saidBy_5 bp_8 ?_
      refine j_icge 7 29 C dX0_saidBy_7 (by decide) (fun c7 => ?_) (fun c7 => ?_)
      · refine j_il2 29 C dX0_saidBy_29 ?_
        exact hR dX0_saidBy_30 ⟨rfl, rfl⟩
      · exact absurd (nI_le (Nat.le_refl _) (by decide)) c7
    | succ n ih =>
      intro k hk
      refine j_il3 4 C dX0_saidBy_4 ?_
      refine j_bipush 5 C dX0_saidBy_5 bp_8 ?_
      refine j_icge 7 29 C dX0_saidBy_7 (by decide) (fun c7 => ?_) (fun c7 => ?_)
      · exact absurd c7 (nI_ge (a := k) (b := 8) (by omega) (by decide))
      · refine j_il2 10 C dX0_saidBy_10 ?_
        refine j_al0 11 C dX0_saidBy_11 ?_
        refine j_il1 12 C dX0_saidBy_12 ?_
        refine j_il3 13 C dX0_saidBy_13 ?_
        refine j_vi 14 C dX0_saidBy_14 mv_X0_wordAt lk_X0_41 (c_X0_wordAt h4 (by omega) (by omega)) (rc_d h4) rfl rfl ⟨(Nat.le_of_ble_eq_true rfl), (Nat.le_of_ble_eq_true rfl)⟩ (Nat.le_of_ble_eq_true rfl) (fun r14 g14 hp14 => ?_)
        obtain ⟨rfl, rfl⟩ := hp14
        refine j_il3 17 C dX0_saidBy_17 ?_
        refine j_iconst 18 C dX0_saidBy_18 ic_1 ?_
        refine j_iadd 19 C dX0_saidBy_19 ?_
        refine j_top (nI (k + 1)) (nI_succ k).symm ?_
        refine j_imul 20 C dX0_saidBy_20 ?_
        refine j_iadd 21 C dX0_saidBy_21 ?_
        refine j_is2 22 C dX0_saidBy_22 rfl (Nat.le_of_ble_eq_true rfl) ?_
        refine j_inc3 23 C dX0_saidBy_23 rfl (nI_inc _) (Nat.le_of_ble_eq_true rfl) ?_
        refine j_goto 26 4 C dX0_saidBy_26 (by decide) ?_
        exact ih (k + 1) (by omega)
  exact loop 8 0 rfl
set_option maxRecDepth 20000 in
theorem c_X0_placesWithWords {G : GT} {g : Mem} {d P : Nat} (h4 : d < 4) (hP : P < 6) : Cti G yX0_placesWithWords cX0_placesWithWords 4 .int 1 22 [.ref (dr G d), .int (nI P)] g (fun r g' => r = bs (pW (g d) P) 8 ∧ g = g') := by
  refine ent_i (by decide) (Nat.le_of_ble_eq_true rfl) [some (.ref (dr G d)), some (.int (nI P)), none, none] rfl ?_
  intro X C hR
  have C : CX X G RX0 cX0_placesWithWords 4 1 22 := C
  refine j_iconst 0 C dX0_placesWithWords_0 ic_0 ?_
  refine j_is2 1 C dX0_placesWithWords_1 rfl (Nat.le_of_ble_eq_true rfl) ?_
  refine j_iconst 2 C dX0_placesWithWords_2 ic_0 ?_
  refine j_is3 3 C dX0_placesWithWords_3 rfl (Nat.le_of_ble_eq_true rfl) ?_
  have loop : ∀ n k, k + n = 8 → J X G 4 g 4 [some (.ref (dr G d)), some (.int (nI P)), some (.int (bs (pW (g d) P) k)), some (.int (nI k))] [] := by
    intro n
    induction n with
    | zero =>
      intro k hk
      obtain rfl : k = 8 := by omega
      refine j_il3 4 C dX0_placesWithWords_4 ?_
      refine j_bipush 5 C dX0_placesWithWords_5 bp_8 ?_
      refine j_icge 7 31 C dX0_placesWithWords_7 (by decide) (fun c7 => ?_) (fun c7 => ?_)
      · refine j_il2 31 C dX0_placesWithWords_31 ?_
        exact hR dX0_placesWithWords_32 ⟨rfl, rfl⟩
      · exact absurd (nI_le (Nat.le_refl _) (by decide)) c7
    | succ n ih =>
      intro k hk
      refine j_il3 4 C dX0_placesWithWords_4 ?_
      refine j_bipush 5 C dX0_placesWithWords_5 bp_8 ?_
      refine j_icge 7 31 C dX0_placesWithWords_7 (by decide) (fun c7 => ?_) (fun c7 => ?_)
      · exact absurd c7 (nI_ge (a := k) (b := 8) (by omega) (by decide))
      · refine j_al0 10 C dX0_placesWithWords_10 ?_
        refine j_il1 11 C dX0_placesWithWords_11 ?_
        refine j_il3 12 C dX0_placesWithWords_12 ?_
        refine j_vi 13 C dX0_placesWithWords_13 mv_X0_wordAt lk_X0_41 (c_X0_wordAt h4 (by omega) (by omega)) (rc_d h4) rfl rfl ⟨(Nat.le_of_ble_eq_true rfl), (Nat.le_of_ble_eq_true rfl)⟩ (Nat.le_of_ble_eq_true rfl) (fun r13 g13 hp13 => ?_)
        obtain ⟨rfl, rfl⟩ := hp13
        refine j_ifeq 16 25 C dX0_placesWithWords_16 (by decide) (fun c16 => ?_) (fun c16 => ?_)
        · have e : bs (pW (g d) P) (k + 1) = bs (pW (g d) P) k := if_neg (by simp [pW, c16])
          refine j_inc3 25 C dX0_placesWithWords_25 rfl (nI_inc _) (Nat.le_of_ble_eq_true rfl) ?_
          refine j_goto 28 4 C dX0_placesWithWords_28 (by decide) ?_
          rw [← e]
          exact ih (k + 1) (by omega)
        · have e : bs (pW (g d) P) (k + 1) = bs (pW (g d) P) k ||| (1 <<< (nI k &&& 31)) := if_pos (by simp [pW, c16])
          refine j_il2 19 C dX0_placesWithWords_19 ?_
          refine j_iconst 20 C dX0_placesWithWords_20 ic_1 ?_
          refine j_il3 21 C dX0_placesWithWords_21 ?_
          refine j_ishl 22 C dX0_placesWithWords_22 ?_
          refine j_ior 23 C dX0_placesWithWords_23 ?_
          refine j_is2 24 C dX0_placesWithWords_24 rfl (Nat.le_of_ble_eq_true rfl) ?_
          refine j_inc3 25 C dX0_placesWithWords_25 rfl (nI_inc _) (Nat.le_of_ble_eq_true rfl) ?_
          refine j_goto 28 4 C dX0_placesWithWords_28 (by decide) ?_
          rw [← e]
          exact ih (k + 1) (by omega)
  exact loop 8 0 rfl
end
