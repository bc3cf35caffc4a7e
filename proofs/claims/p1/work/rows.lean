section
-- ===== PART A: goes FIRST, ahead of the names: the tables' words, and 'selects' of the private methods out of them =====
/-- a private method of a class that the tables say can be made, by its rows of tables_1 -/
def lw_okq (q : MethodName × Nat) : Prop := (q.1.cls ≠ "java/lang/invoke/MethodHandle" ∧ q.1.cls ≠ "java/lang/invoke/VarHandle") ∧ Cond.instantiable q.1.cls q.2 ∈ tables_1 ∧ Cond.privateMethod q.1 ∈ tables_1 ∧ Cond.instanceMethod q.1 ∈ tables_1
theorem lw_p0 : lw_okq (⟨"RowTypes", "readText", "()I"⟩, 19) := ⟨⟨by decide +kernel, by decide +kernel⟩, List.mem_of_getElem? (i := 26) (by decide +kernel), List.mem_of_getElem? (i := 464) (by decide +kernel), List.mem_of_getElem? (i := 465) (by decide +kernel)⟩
theorem lw_p1 : lw_okq (⟨"RowTypes$Reader", "accepts", "(II)Z"⟩, 5) := ⟨⟨by decide +kernel, by decide +kernel⟩, List.mem_of_getElem? (i := 64) (by decide +kernel), List.mem_of_getElem? (i := 510) (by decide +kernel), List.mem_of_getElem? (i := 511) (by decide +kernel)⟩
theorem lw_p2 : lw_okq (⟨"RowTypes$Reader", "acceptsExpression", "()Z"⟩, 5) := ⟨⟨by decide +kernel, by decide +kernel⟩, List.mem_of_getElem? (i := 64) (by decide +kernel), List.mem_of_getElem? (i := 514) (by decide +kernel), List.mem_of_getElem? (i := 515) (by decide +kernel)⟩
theorem lw_p3 : lw_okq (⟨"RowTypes$Reader", "expect", "(Ljava/lang/String;I)V"⟩, 5) := ⟨⟨by decide +kernel, by decide +kernel⟩, List.mem_of_getElem? (i := 64) (by decide +kernel), List.mem_of_getElem? (i := 546) (by decide +kernel), List.mem_of_getElem? (i := 547) (by decide +kernel)⟩
theorem lw_p4 : lw_okq (⟨"RowTypes$Reader", "acceptsBranch", "(I)Z"⟩, 5) := ⟨⟨by decide +kernel, by decide +kernel⟩, List.mem_of_getElem? (i := 64) (by decide +kernel), List.mem_of_getElem? (i := 602) (by decide +kernel), List.mem_of_getElem? (i := 603) (by decide +kernel)⟩
theorem lw_p5 : lw_okq (⟨"RowTypes$Reader", "acceptsBehindBranch", "(I)Z"⟩, 5) := ⟨⟨by decide +kernel, by decide +kernel⟩, List.mem_of_getElem? (i := 64) (by decide +kernel), List.mem_of_getElem? (i := 611) (by decide +kernel), List.mem_of_getElem? (i := 612) (by decide +kernel)⟩
theorem lw_p6 : lw_okq (⟨"RowTypes$Reader", "acceptsSign", "(II)Z"⟩, 5) := ⟨⟨by decide +kernel, by decide +kernel⟩, List.mem_of_getElem? (i := 64) (by decide +kernel), List.mem_of_getElem? (i := 616) (by decide +kernel), List.mem_of_getElem? (i := 617) (by decide +kernel)⟩
theorem lw_p7 : lw_okq (⟨"RowTypes$Nodes", "make", "(IIII)I"⟩, 12) := ⟨⟨by decide +kernel, by decide +kernel⟩, List.mem_of_getElem? (i := 99) (by decide +kernel), List.mem_of_getElem? (i := 628) (by decide +kernel), List.mem_of_getElem? (i := 629) (by decide +kernel)⟩
theorem lw_p8 : lw_okq (⟨"RowTypes$Finder", "find", "(II)I"⟩, 16) := ⟨⟨by decide +kernel, by decide +kernel⟩, List.mem_of_getElem? (i := 203) (by decide +kernel), List.mem_of_getElem? (i := 632) (by decide +kernel), List.mem_of_getElem? (i := 633) (by decide +kernel)⟩
theorem lw_p9 : lw_okq (⟨"RowTypes$Finder", "fail", "(II)I"⟩, 16) := ⟨⟨by decide +kernel, by decide +kernel⟩, List.mem_of_getElem? (i := 203) (by decide +kernel), List.mem_of_getElem? (i := 636) (by decide +kernel), List.mem_of_getElem? (i := 637) (by decide +kernel)⟩
theorem lw_p10 : lw_okq (⟨"RowTypes$Finder", "findName", "(I)I"⟩, 16) := ⟨⟨by decide +kernel, by decide +kernel⟩, List.mem_of_getElem? (i := 203) (by decide +kernel), List.mem_of_getElem? (i := 648) (by decide +kernel), List.mem_of_getElem? (i := 649) (by decide +kernel)⟩
theorem lw_p11 : lw_okq (⟨"RowTypes$Nodes", "buildPart", "(LRowTypes$Kept;I)I"⟩, 12) := ⟨⟨by decide +kernel, by decide +kernel⟩, List.mem_of_getElem? (i := 99) (by decide +kernel), List.mem_of_getElem? (i := 672) (by decide +kernel), List.mem_of_getElem? (i := 673) (by decide +kernel)⟩
theorem lw_p12 : lw_okq (⟨"RowTypes$Nodes", "rowOfTypes", "(I)I"⟩, 12) := ⟨⟨by decide +kernel, by decide +kernel⟩, List.mem_of_getElem? (i := 99) (by decide +kernel), List.mem_of_getElem? (i := 701) (by decide +kernel), List.mem_of_getElem? (i := 702) (by decide +kernel)⟩
theorem lw_p13 : lw_okq (⟨"RowTypes$Finder", "findFunction", "(II)I"⟩, 16) := ⟨⟨by decide +kernel, by decide +kernel⟩, List.mem_of_getElem? (i := 203) (by decide +kernel), List.mem_of_getElem? (i := 716) (by decide +kernel), List.mem_of_getElem? (i := 717) (by decide +kernel)⟩
theorem lw_p14 : lw_okq (⟨"RowTypes$Finder", "bind", "(IILRowTypes$Kept;)V"⟩, 16) := ⟨⟨by decide +kernel, by decide +kernel⟩, List.mem_of_getElem? (i := 203) (by decide +kernel), List.mem_of_getElem? (i := 724) (by decide +kernel), List.mem_of_getElem? (i := 725) (by decide +kernel)⟩
theorem lw_p15 : lw_okq (⟨"RowTypes$Finder", "unbind", "()V"⟩, 16) := ⟨⟨by decide +kernel, by decide +kernel⟩, List.mem_of_getElem? (i := 203) (by decide +kernel), List.mem_of_getElem? (i := 735) (by decide +kernel), List.mem_of_getElem? (i := 736) (by decide +kernel)⟩
def lw_privs_1 : List (MethodName × Nat) := [(⟨"RowTypes", "readText", "()I"⟩, 19), (⟨"RowTypes$Reader", "accepts", "(II)Z"⟩, 5), (⟨"RowTypes$Reader", "acceptsExpression", "()Z"⟩, 5), (⟨"RowTypes$Reader", "expect", "(Ljava/lang/String;I)V"⟩, 5), (⟨"RowTypes$Reader", "acceptsBranch", "(I)Z"⟩, 5), (⟨"RowTypes$Reader", "acceptsBehindBranch", "(I)Z"⟩, 5), (⟨"RowTypes$Reader", "acceptsSign", "(II)Z"⟩, 5), (⟨"RowTypes$Nodes", "make", "(IIII)I"⟩, 12), (⟨"RowTypes$Finder", "find", "(II)I"⟩, 16), (⟨"RowTypes$Finder", "fail", "(II)I"⟩, 16), (⟨"RowTypes$Finder", "findName", "(I)I"⟩, 16), (⟨"RowTypes$Nodes", "buildPart", "(LRowTypes$Kept;I)I"⟩, 12), (⟨"RowTypes$Nodes", "rowOfTypes", "(I)I"⟩, 12), (⟨"RowTypes$Finder", "findFunction", "(II)I"⟩, 16), (⟨"RowTypes$Finder", "bind", "(IILRowTypes$Kept;)V"⟩, 16), (⟨"RowTypes$Finder", "unbind", "()V"⟩, 16)]
theorem lw_r1 : ∀ q ∈ lw_privs_1, lw_okq q := List.forall_mem_cons.mpr ⟨lw_p0, List.forall_mem_cons.mpr ⟨lw_p1, List.forall_mem_cons.mpr ⟨lw_p2, List.forall_mem_cons.mpr ⟨lw_p3, List.forall_mem_cons.mpr ⟨lw_p4, List.forall_mem_cons.mpr ⟨lw_p5, List.forall_mem_cons.mpr ⟨lw_p6, List.forall_mem_cons.mpr ⟨lw_p7, List.forall_mem_cons.mpr ⟨lw_p8, List.forall_mem_cons.mpr ⟨lw_p9, List.forall_mem_cons.mpr ⟨lw_p10, List.forall_mem_cons.mpr ⟨lw_p11, List.forall_mem_cons.mpr ⟨lw_p12, List.forall_mem_cons.mpr ⟨lw_p13, List.forall_mem_cons.mpr ⟨lw_p14, List.forall_mem_cons.mpr ⟨lw_p15, fun _ h => absurd h List.not_mem_nil⟩⟩⟩⟩⟩⟩⟩⟩⟩⟩⟩⟩⟩⟩⟩⟩
theorem lw_p16 : lw_okq (⟨"RowTypes$Finder", "findCall", "(II)I"⟩, 16) := ⟨⟨by decide +kernel, by decide +kernel⟩, List.mem_of_getElem? (i := 203) (by decide +kernel), List.mem_of_getElem? (i := 740) (by decide +kernel), List.mem_of_getElem? (i := 741) (by decide +kernel)⟩
theorem lw_p17 : lw_okq (⟨"RowTypes$Unifier", "pushPair", "(III)V"⟩, 5) := ⟨⟨by decide +kernel, by decide +kernel⟩, List.mem_of_getElem? (i := 175) (by decide +kernel), List.mem_of_getElem? (i := 757) (by decide +kernel), List.mem_of_getElem? (i := 758) (by decide +kernel)⟩
theorem lw_p18 : lw_okq (⟨"RowTypes$Unifier", "beginPair", "(II)V"⟩, 5) := ⟨⟨by decide +kernel, by decide +kernel⟩, List.mem_of_getElem? (i := 175) (by decide +kernel), List.mem_of_getElem? (i := 770) (by decide +kernel), List.mem_of_getElem? (i := 771) (by decide +kernel)⟩
theorem lw_p19 : lw_okq (⟨"RowTypes$Unifier", "bind", "(II)V"⟩, 5) := ⟨⟨by decide +kernel, by decide +kernel⟩, List.mem_of_getElem? (i := 175) (by decide +kernel), List.mem_of_getElem? (i := 778) (by decide +kernel), List.mem_of_getElem? (i := 779) (by decide +kernel)⟩
theorem lw_p20 : lw_okq (⟨"RowTypes$Unifier", "goOnFunctions", "(III)V"⟩, 5) := ⟨⟨by decide +kernel, by decide +kernel⟩, List.mem_of_getElem? (i := 175) (by decide +kernel), List.mem_of_getElem? (i := 801) (by decide +kernel), List.mem_of_getElem? (i := 802) (by decide +kernel)⟩
theorem lw_p21 : lw_okq (⟨"RowTypes$Unifier", "endPair", "(IIZ)V"⟩, 5) := ⟨⟨by decide +kernel, by decide +kernel⟩, List.mem_of_getElem? (i := 175) (by decide +kernel), List.mem_of_getElem? (i := 817) (by decide +kernel), List.mem_of_getElem? (i := 818) (by decide +kernel)⟩
theorem lw_p22 : lw_okq (⟨"RowTypes$Unifier", "goOnRows", "(III)V"⟩, 5) := ⟨⟨by decide +kernel, by decide +kernel⟩, List.mem_of_getElem? (i := 175) (by decide +kernel), List.mem_of_getElem? (i := 823) (by decide +kernel), List.mem_of_getElem? (i := 824) (by decide +kernel)⟩
theorem lw_p23 : lw_okq (⟨"RowTypes$Unifier", "takeField", "(IIII)V"⟩, 5) := ⟨⟨by decide +kernel, by decide +kernel⟩, List.mem_of_getElem? (i := 175) (by decide +kernel), List.mem_of_getElem? (i := 844) (by decide +kernel), List.mem_of_getElem? (i := 845) (by decide +kernel)⟩
theorem lw_p24 : lw_okq (⟨"RowTypes$Unifier", "joinEnds", "(II)V"⟩, 5) := ⟨⟨by decide +kernel, by decide +kernel⟩, List.mem_of_getElem? (i := 175) (by decide +kernel), List.mem_of_getElem? (i := 857) (by decide +kernel), List.mem_of_getElem? (i := 858) (by decide +kernel)⟩
theorem lw_p25 : lw_okq (⟨"RowTypes$Unifier", "closeEnd", "(II)V"⟩, 5) := ⟨⟨by decide +kernel, by decide +kernel⟩, List.mem_of_getElem? (i := 175) (by decide +kernel), List.mem_of_getElem? (i := 865) (by decide +kernel), List.mem_of_getElem? (i := 866) (by decide +kernel)⟩
theorem lw_p26 : lw_okq (⟨"RowTypes$Nodes", "gather", "(I)I"⟩, 12) := ⟨⟨by decide +kernel, by decide +kernel⟩, List.mem_of_getElem? (i := 99) (by decide +kernel), List.mem_of_getElem? (i := 873) (by decide +kernel), List.mem_of_getElem? (i := 874) (by decide +kernel)⟩
theorem lw_p27 : lw_okq (⟨"RowTypes$Finder", "failUnified", "(I)I"⟩, 16) := ⟨⟨by decide +kernel, by decide +kernel⟩, List.mem_of_getElem? (i := 203) (by decide +kernel), List.mem_of_getElem? (i := 881) (by decide +kernel), List.mem_of_getElem? (i := 882) (by decide +kernel)⟩
theorem lw_p28 : lw_okq (⟨"RowTypes$Finder", "findLet", "(II)I"⟩, 16) := ⟨⟨by decide +kernel, by decide +kernel⟩, List.mem_of_getElem? (i := 203) (by decide +kernel), List.mem_of_getElem? (i := 885) (by decide +kernel), List.mem_of_getElem? (i := 886) (by decide +kernel)⟩
theorem lw_p29 : lw_okq (⟨"RowTypes$Finder", "generalise", "(ILRowTypes$Kept;)V"⟩, 16) := ⟨⟨by decide +kernel, by decide +kernel⟩, List.mem_of_getElem? (i := 203) (by decide +kernel), List.mem_of_getElem? (i := 889) (by decide +kernel), List.mem_of_getElem? (i := 890) (by decide +kernel)⟩
theorem lw_p30 : lw_okq (⟨"RowTypes$Nodes", "flattenRow", "(ILRowTypes$Kept;)V"⟩, 12) := ⟨⟨by decide +kernel, by decide +kernel⟩, List.mem_of_getElem? (i := 99) (by decide +kernel), List.mem_of_getElem? (i := 909) (by decide +kernel), List.mem_of_getElem? (i := 910) (by decide +kernel)⟩
theorem lw_p31 : lw_okq (⟨"RowTypes$Nodes", "numberOf", "(ILRowTypes$Kept;)I"⟩, 12) := ⟨⟨by decide +kernel, by decide +kernel⟩, List.mem_of_getElem? (i := 99) (by decide +kernel), List.mem_of_getElem? (i := 913) (by decide +kernel), List.mem_of_getElem? (i := 914) (by decide +kernel)⟩
def lw_privs_2 : List (MethodName × Nat) := [(⟨"RowTypes$Finder", "findCall", "(II)I"⟩, 16), (⟨"RowTypes$Unifier", "pushPair", "(III)V"⟩, 5), (⟨"RowTypes$Unifier", "beginPair", "(II)V"⟩, 5), (⟨"RowTypes$Unifier", "bind", "(II)V"⟩, 5), (⟨"RowTypes$Unifier", "goOnFunctions", "(III)V"⟩, 5), (⟨"RowTypes$Unifier", "endPair", "(IIZ)V"⟩, 5), (⟨"RowTypes$Unifier", "goOnRows", "(III)V"⟩, 5), (⟨"RowTypes$Unifier", "takeField", "(IIII)V"⟩, 5), (⟨"RowTypes$Unifier", "joinEnds", "(II)V"⟩, 5), (⟨"RowTypes$Unifier", "closeEnd", "(II)V"⟩, 5), (⟨"RowTypes$Nodes", "gather", "(I)I"⟩, 12), (⟨"RowTypes$Finder", "failUnified", "(I)I"⟩, 16), (⟨"RowTypes$Finder", "findLet", "(II)I"⟩, 16), (⟨"RowTypes$Finder", "generalise", "(ILRowTypes$Kept;)V"⟩, 16), (⟨"RowTypes$Nodes", "flattenRow", "(ILRowTypes$Kept;)V"⟩, 12), (⟨"RowTypes$Nodes", "numberOf", "(ILRowTypes$Kept;)I"⟩, 12)]
theorem lw_r2 : ∀ q ∈ lw_privs_2, lw_okq q := List.forall_mem_cons.mpr ⟨lw_p16, List.forall_mem_cons.mpr ⟨lw_p17, List.forall_mem_cons.mpr ⟨lw_p18, List.forall_mem_cons.mpr ⟨lw_p19, List.forall_mem_cons.mpr ⟨lw_p20, List.forall_mem_cons.mpr ⟨lw_p21, List.forall_mem_cons.mpr ⟨lw_p22, List.forall_mem_cons.mpr ⟨lw_p23, List.forall_mem_cons.mpr ⟨lw_p24, List.forall_mem_cons.mpr ⟨lw_p25, List.forall_mem_cons.mpr ⟨lw_p26, List.forall_mem_cons.mpr ⟨lw_p27, List.forall_mem_cons.mpr ⟨lw_p28, List.forall_mem_cons.mpr ⟨lw_p29, List.forall_mem_cons.mpr ⟨lw_p30, List.forall_mem_cons.mpr ⟨lw_p31, fun _ h => absurd h List.not_mem_nil⟩⟩⟩⟩⟩⟩⟩⟩⟩⟩⟩⟩⟩⟩⟩⟩
theorem lw_p32 : lw_okq (⟨"RowTypes$Finder", "findExtend", "(II)I"⟩, 16) := ⟨⟨by decide +kernel, by decide +kernel⟩, List.mem_of_getElem? (i := 203) (by decide +kernel), List.mem_of_getElem? (i := 931) (by decide +kernel), List.mem_of_getElem? (i := 932) (by decide +kernel)⟩
theorem lw_p33 : lw_okq (⟨"RowTypes$Finder", "findChange", "(II)I"⟩, 16) := ⟨⟨by decide +kernel, by decide +kernel⟩, List.mem_of_getElem? (i := 203) (by decide +kernel), List.mem_of_getElem? (i := 941) (by decide +kernel), List.mem_of_getElem? (i := 942) (by decide +kernel)⟩
theorem lw_p34 : lw_okq (⟨"RowTypes$Finder", "findJoin", "(II)I"⟩, 16) := ⟨⟨by decide +kernel, by decide +kernel⟩, List.mem_of_getElem? (i := 203) (by decide +kernel), List.mem_of_getElem? (i := 945) (by decide +kernel), List.mem_of_getElem? (i := 946) (by decide +kernel)⟩
theorem lw_p35 : lw_okq (⟨"RowTypes$Finder", "isClosed", "(I)Z"⟩, 16) := ⟨⟨by decide +kernel, by decide +kernel⟩, List.mem_of_getElem? (i := 203) (by decide +kernel), List.mem_of_getElem? (i := 949) (by decide +kernel), List.mem_of_getElem? (i := 950) (by decide +kernel)⟩
theorem lw_p36 : lw_okq (⟨"RowTypes$Finder", "findVariant", "(II)I"⟩, 16) := ⟨⟨by decide +kernel, by decide +kernel⟩, List.mem_of_getElem? (i := 203) (by decide +kernel), List.mem_of_getElem? (i := 964) (by decide +kernel), List.mem_of_getElem? (i := 965) (by decide +kernel)⟩
theorem lw_p37 : lw_okq (⟨"RowTypes$Finder", "findChoice", "(II)I"⟩, 16) := ⟨⟨by decide +kernel, by decide +kernel⟩, List.mem_of_getElem? (i := 203) (by decide +kernel), List.mem_of_getElem? (i := 968) (by decide +kernel), List.mem_of_getElem? (i := 969) (by decide +kernel)⟩
theorem lw_p38 : lw_okq (⟨"RowTypes$Finder", "endOfChoice", "(I)I"⟩, 16) := ⟨⟨by decide +kernel, by decide +kernel⟩, List.mem_of_getElem? (i := 203) (by decide +kernel), List.mem_of_getElem? (i := 972) (by decide +kernel), List.mem_of_getElem? (i := 973) (by decide +kernel)⟩
theorem lw_p39 : lw_okq (⟨"RowTypes$Finder", "fieldsOfChoice", "(II)I"⟩, 16) := ⟨⟨by decide +kernel, by decide +kernel⟩, List.mem_of_getElem? (i := 203) (by decide +kernel), List.mem_of_getElem? (i := 978) (by decide +kernel), List.mem_of_getElem? (i := 979) (by decide +kernel)⟩
theorem lw_p40 : lw_okq (⟨"RowTypes", "tellFault", "(III)I"⟩, 19) := ⟨⟨by decide +kernel, by decide +kernel⟩, List.mem_of_getElem? (i := 26) (by decide +kernel), List.mem_of_getElem? (i := 984) (by decide +kernel), List.mem_of_getElem? (i := 985) (by decide +kernel)⟩
theorem lw_p41 : lw_okq (⟨"RowTypes", "clearRow", "()V"⟩, 19) := ⟨⟨by decide +kernel, by decide +kernel⟩, List.mem_of_getElem? (i := 26) (by decide +kernel), List.mem_of_getElem? (i := 988) (by decide +kernel), List.mem_of_getElem? (i := 989) (by decide +kernel)⟩
theorem lw_p42 : lw_okq (⟨"RowTypes", "tell", "(I)V"⟩, 19) := ⟨⟨by decide +kernel, by decide +kernel⟩, List.mem_of_getElem? (i := 26) (by decide +kernel), List.mem_of_getElem? (i := 992) (by decide +kernel), List.mem_of_getElem? (i := 993) (by decide +kernel)⟩
theorem lw_p43 : lw_okq (⟨"RowTypes", "exchange", "(II)V"⟩, 19) := ⟨⟨by decide +kernel, by decide +kernel⟩, List.mem_of_getElem? (i := 26) (by decide +kernel), List.mem_of_getElem? (i := 1001) (by decide +kernel), List.mem_of_getElem? (i := 1002) (by decide +kernel)⟩
theorem lw_p44 : lw_okq (⟨"RowTypes$Survey", "pushDue", "(III)V"⟩, 3) := ⟨⟨by decide +kernel, by decide +kernel⟩, List.mem_of_getElem? (i := 328) (by decide +kernel), List.mem_of_getElem? (i := 1019) (by decide +kernel), List.mem_of_getElem? (i := 1020) (by decide +kernel)⟩
theorem lw_p45 : lw_okq (⟨"RowTypes$Survey", "lookAt", "(LRowTypes$Expression;III)V"⟩, 3) := ⟨⟨by decide +kernel, by decide +kernel⟩, List.mem_of_getElem? (i := 328) (by decide +kernel), List.mem_of_getElem? (i := 1027) (by decide +kernel), List.mem_of_getElem? (i := 1028) (by decide +kernel)⟩
theorem lw_p46 : lw_okq (⟨"RowTypes", "keptOf", "(I)LRowTypes$Kept;"⟩, 19) := ⟨⟨by decide +kernel, by decide +kernel⟩, List.mem_of_getElem? (i := 26) (by decide +kernel), List.mem_of_getElem? (i := 1045) (by decide +kernel), List.mem_of_getElem? (i := 1046) (by decide +kernel)⟩
theorem lw_p47 : lw_okq (⟨"RowTypes", "textOf", "(I)I"⟩, 19) := ⟨⟨by decide +kernel, by decide +kernel⟩, List.mem_of_getElem? (i := 26) (by decide +kernel), List.mem_of_getElem? (i := 1049) (by decide +kernel), List.mem_of_getElem? (i := 1050) (by decide +kernel)⟩
def lw_privs_3 : List (MethodName × Nat) := [(⟨"RowTypes$Finder", "findExtend", "(II)I"⟩, 16), (⟨"RowTypes$Finder", "findChange", "(II)I"⟩, 16), (⟨"RowTypes$Finder", "findJoin", "(II)I"⟩, 16), (⟨"RowTypes$Finder", "isClosed", "(I)Z"⟩, 16), (⟨"RowTypes$Finder", "findVariant", "(II)I"⟩, 16), (⟨"RowTypes$Finder", "findChoice", "(II)I"⟩, 16), (⟨"RowTypes$Finder", "endOfChoice", "(I)I"⟩, 16), (⟨"RowTypes$Finder", "fieldsOfChoice", "(II)I"⟩, 16), (⟨"RowTypes", "tellFault", "(III)I"⟩, 19), (⟨"RowTypes", "clearRow", "()V"⟩, 19), (⟨"RowTypes", "tell", "(I)V"⟩, 19), (⟨"RowTypes", "exchange", "(II)V"⟩, 19), (⟨"RowTypes$Survey", "pushDue", "(III)V"⟩, 3), (⟨"RowTypes$Survey", "lookAt", "(LRowTypes$Expression;III)V"⟩, 3), (⟨"RowTypes", "keptOf", "(I)LRowTypes$Kept;"⟩, 19), (⟨"RowTypes", "textOf", "(I)I"⟩, 19)]
theorem lw_r3 : ∀ q ∈ lw_privs_3, lw_okq q := List.forall_mem_cons.mpr ⟨lw_p32, List.forall_mem_cons.mpr ⟨lw_p33, List.forall_mem_cons.mpr ⟨lw_p34, List.forall_mem_cons.mpr ⟨lw_p35, List.forall_mem_cons.mpr ⟨lw_p36, List.forall_mem_cons.mpr ⟨lw_p37, List.forall_mem_cons.mpr ⟨lw_p38, List.forall_mem_cons.mpr ⟨lw_p39, List.forall_mem_cons.mpr ⟨lw_p40, List.forall_mem_cons.mpr ⟨lw_p41, List.forall_mem_cons.mpr ⟨lw_p42, List.forall_mem_cons.mpr ⟨lw_p43, List.forall_mem_cons.mpr ⟨lw_p44, List.forall_mem_cons.mpr ⟨lw_p45, List.forall_mem_cons.mpr ⟨lw_p46, List.forall_mem_cons.mpr ⟨lw_p47, fun _ h => absurd h List.not_mem_nil⟩⟩⟩⟩⟩⟩⟩⟩⟩⟩⟩⟩⟩⟩⟩⟩
theorem lw_p48 : lw_okq (⟨"RowTypes$Scribe", "writePart", "(LRowTypes$Kept;I)V"⟩, 4) := ⟨⟨by decide +kernel, by decide +kernel⟩, List.mem_of_getElem? (i := 348) (by decide +kernel), List.mem_of_getElem? (i := 1071) (by decide +kernel), List.mem_of_getElem? (i := 1072) (by decide +kernel)⟩
theorem lw_p49 : lw_okq (⟨"RowTypes$Scribe", "writeRow", "(LRowTypes$Kept;I)V"⟩, 4) := ⟨⟨by decide +kernel, by decide +kernel⟩, List.mem_of_getElem? (i := 348) (by decide +kernel), List.mem_of_getElem? (i := 1076) (by decide +kernel), List.mem_of_getElem? (i := 1077) (by decide +kernel)⟩
theorem lw_p50 : lw_okq (⟨"RowTypes$Scribe", "pushLabel", "(II)V"⟩, 4) := ⟨⟨by decide +kernel, by decide +kernel⟩, List.mem_of_getElem? (i := 348) (by decide +kernel), List.mem_of_getElem? (i := 1082) (by decide +kernel), List.mem_of_getElem? (i := 1083) (by decide +kernel)⟩
theorem lw_p51 : lw_okq (⟨"RowTypes$Scribe", "writeVariable", "(I)V"⟩, 4) := ⟨⟨by decide +kernel, by decide +kernel⟩, List.mem_of_getElem? (i := 348) (by decide +kernel), List.mem_of_getElem? (i := 1087) (by decide +kernel), List.mem_of_getElem? (i := 1088) (by decide +kernel)⟩
theorem lw_p52 : lw_okq (⟨"RowTypes", "loadAnew", "(LRowTypes$Kept;)I"⟩, 19) := ⟨⟨by decide +kernel, by decide +kernel⟩, List.mem_of_getElem? (i := 26) (by decide +kernel), List.mem_of_getElem? (i := 1111) (by decide +kernel), List.mem_of_getElem? (i := 1112) (by decide +kernel)⟩
theorem lw_p53 : lw_okq (⟨"RowTypes", "tellRow", "(I)V"⟩, 19) := ⟨⟨by decide +kernel, by decide +kernel⟩, List.mem_of_getElem? (i := 26) (by decide +kernel), List.mem_of_getElem? (i := 1117) (by decide +kernel), List.mem_of_getElem? (i := 1118) (by decide +kernel)⟩
theorem lw_p54 : lw_okq (⟨"RowTypes", "answerFound", "(I)I"⟩, 19) := ⟨⟨by decide +kernel, by decide +kernel⟩, List.mem_of_getElem? (i := 26) (by decide +kernel), List.mem_of_getElem? (i := 1137) (by decide +kernel), List.mem_of_getElem? (i := 1138) (by decide +kernel)⟩
theorem lw_p55 : lw_okq (⟨"RowTypes$TypeReader", "accepts", "(II)Z"⟩, 7) := ⟨⟨by decide +kernel, by decide +kernel⟩, List.mem_of_getElem? (i := 144) (by decide +kernel), List.mem_of_getElem? (i := 1166) (by decide +kernel), List.mem_of_getElem? (i := 1167) (by decide +kernel)⟩
theorem lw_p56 : lw_okq (⟨"RowTypes$TypeReader", "acceptsType", "()Z"⟩, 7) := ⟨⟨by decide +kernel, by decide +kernel⟩, List.mem_of_getElem? (i := 144) (by decide +kernel), List.mem_of_getElem? (i := 1170) (by decide +kernel), List.mem_of_getElem? (i := 1171) (by decide +kernel)⟩
theorem lw_p57 : lw_okq (⟨"RowTypes$TypeReader", "signNow", "()I"⟩, 7) := ⟨⟨by decide +kernel, by decide +kernel⟩, List.mem_of_getElem? (i := 144) (by decide +kernel), List.mem_of_getElem? (i := 1174) (by decide +kernel), List.mem_of_getElem? (i := 1175) (by decide +kernel)⟩
theorem lw_p58 : lw_okq (⟨"RowTypes$TypeReader", "closesRow", "(I)Z"⟩, 7) := ⟨⟨by decide +kernel, by decide +kernel⟩, List.mem_of_getElem? (i := 144) (by decide +kernel), List.mem_of_getElem? (i := 1183) (by decide +kernel), List.mem_of_getElem? (i := 1184) (by decide +kernel)⟩
theorem lw_p59 : lw_okq (⟨"RowTypes$TypeReader", "acceptsField", "(I)Z"⟩, 7) := ⟨⟨by decide +kernel, by decide +kernel⟩, List.mem_of_getElem? (i := 144) (by decide +kernel), List.mem_of_getElem? (i := 1188) (by decide +kernel), List.mem_of_getElem? (i := 1189) (by decide +kernel)⟩
theorem lw_p60 : lw_okq (⟨"RowTypes$TypeReader", "acceptsComma", "(I)Z"⟩, 7) := ⟨⟨by decide +kernel, by decide +kernel⟩, List.mem_of_getElem? (i := 144) (by decide +kernel), List.mem_of_getElem? (i := 1195) (by decide +kernel), List.mem_of_getElem? (i := 1196) (by decide +kernel)⟩
theorem lw_p61 : lw_okq (⟨"RowTypes$TypeReader", "makeFunction", "()V"⟩, 7) := ⟨⟨by decide +kernel, by decide +kernel⟩, List.mem_of_getElem? (i := 144) (by decide +kernel), List.mem_of_getElem? (i := 1199) (by decide +kernel), List.mem_of_getElem? (i := 1200) (by decide +kernel)⟩
theorem lw_p62 : lw_okq (⟨"RowTypes$TypeReader", "putField", "(I)V"⟩, 7) := ⟨⟨by decide +kernel, by decide +kernel⟩, List.mem_of_getElem? (i := 144) (by decide +kernel), List.mem_of_getElem? (i := 1204) (by decide +kernel), List.mem_of_getElem? (i := 1205) (by decide +kernel)⟩
theorem lw_p63 : lw_okq (⟨"RowTypes", "isAsGeneral", "(LRowTypes$Kept;LRowTypes$Kept;)I"⟩, 19) := ⟨⟨by decide +kernel, by decide +kernel⟩, List.mem_of_getElem? (i := 26) (by decide +kernel), List.mem_of_getElem? (i := 1214) (by decide +kernel), List.mem_of_getElem? (i := 1215) (by decide +kernel)⟩
def lw_privs_4 : List (MethodName × Nat) := [(⟨"RowTypes$Scribe", "writePart", "(LRowTypes$Kept;I)V"⟩, 4), (⟨"RowTypes$Scribe", "writeRow", "(LRowTypes$Kept;I)V"⟩, 4), (⟨"RowTypes$Scribe", "pushLabel", "(II)V"⟩, 4), (⟨"RowTypes$Scribe", "writeVariable", "(I)V"⟩, 4), (⟨"RowTypes", "loadAnew", "(LRowTypes$Kept;)I"⟩, 19), (⟨"RowTypes", "tellRow", "(I)V"⟩, 19), (⟨"RowTypes", "answerFound", "(I)I"⟩, 19), (⟨"RowTypes$TypeReader", "accepts", "(II)Z"⟩, 7), (⟨"RowTypes$TypeReader", "acceptsType", "()Z"⟩, 7), (⟨"RowTypes$TypeReader", "signNow", "()I"⟩, 7), (⟨"RowTypes$TypeReader", "closesRow", "(I)Z"⟩, 7), (⟨"RowTypes$TypeReader", "acceptsField", "(I)Z"⟩, 7), (⟨"RowTypes$TypeReader", "acceptsComma", "(I)Z"⟩, 7), (⟨"RowTypes$TypeReader", "makeFunction", "()V"⟩, 7), (⟨"RowTypes$TypeReader", "putField", "(I)V"⟩, 7), (⟨"RowTypes", "isAsGeneral", "(LRowTypes$Kept;LRowTypes$Kept;)I"⟩, 19)]
theorem lw_r4 : ∀ q ∈ lw_privs_4, lw_okq q := List.forall_mem_cons.mpr ⟨lw_p48, List.forall_mem_cons.mpr ⟨lw_p49, List.forall_mem_cons.mpr ⟨lw_p50, List.forall_mem_cons.mpr ⟨lw_p51, List.forall_mem_cons.mpr ⟨lw_p52, List.forall_mem_cons.mpr ⟨lw_p53, List.forall_mem_cons.mpr ⟨lw_p54, List.forall_mem_cons.mpr ⟨lw_p55, List.forall_mem_cons.mpr ⟨lw_p56, List.forall_mem_cons.mpr ⟨lw_p57, List.forall_mem_cons.mpr ⟨lw_p58, List.forall_mem_cons.mpr ⟨lw_p59, List.forall_mem_cons.mpr ⟨lw_p60, List.forall_mem_cons.mpr ⟨lw_p61, List.forall_mem_cons.mpr ⟨lw_p62, List.forall_mem_cons.mpr ⟨lw_p63, fun _ h => absurd h List.not_mem_nil⟩⟩⟩⟩⟩⟩⟩⟩⟩⟩⟩⟩⟩⟩⟩⟩
theorem lw_p64 : lw_okq (⟨"RowTypes", "answerUnified", "(III)I"⟩, 19) := ⟨⟨by decide +kernel, by decide +kernel⟩, List.mem_of_getElem? (i := 26) (by decide +kernel), List.mem_of_getElem? (i := 1222) (by decide +kernel), List.mem_of_getElem? (i := 1223) (by decide +kernel)⟩
theorem lw_p65 : lw_okq (⟨"RowTypes", "worksOut", "(I)Z"⟩, 19) := ⟨⟨by decide +kernel, by decide +kernel⟩, List.mem_of_getElem? (i := 26) (by decide +kernel), List.mem_of_getElem? (i := 1241) (by decide +kernel), List.mem_of_getElem? (i := 1242) (by decide +kernel)⟩
theorem lw_p66 : lw_okq (⟨"RowTypes$Machine", "newValue", "(IIII)I"⟩, 17) := ⟨⟨by decide +kernel, by decide +kernel⟩, List.mem_of_getElem? (i := 264) (by decide +kernel), List.mem_of_getElem? (i := 1250) (by decide +kernel), List.mem_of_getElem? (i := 1251) (by decide +kernel)⟩
theorem lw_p67 : lw_okq (⟨"RowTypes$Machine", "pushDue", "(IIIZ)V"⟩, 17) := ⟨⟨by decide +kernel, by decide +kernel⟩, List.mem_of_getElem? (i := 264) (by decide +kernel), List.mem_of_getElem? (i := 1254) (by decide +kernel), List.mem_of_getElem? (i := 1255) (by decide +kernel)⟩
theorem lw_p68 : lw_okq (⟨"RowTypes$Machine", "finish", "(III)V"⟩, 17) := ⟨⟨by decide +kernel, by decide +kernel⟩, List.mem_of_getElem? (i := 264) (by decide +kernel), List.mem_of_getElem? (i := 1262) (by decide +kernel), List.mem_of_getElem? (i := 1263) (by decide +kernel)⟩
theorem lw_p69 : lw_okq (⟨"RowTypes$Machine", "finishCall", "(II)V"⟩, 17) := ⟨⟨by decide +kernel, by decide +kernel⟩, List.mem_of_getElem? (i := 264) (by decide +kernel), List.mem_of_getElem? (i := 1267) (by decide +kernel), List.mem_of_getElem? (i := 1268) (by decide +kernel)⟩
theorem lw_p70 : lw_okq (⟨"RowTypes$Machine", "bind", "(III)I"⟩, 17) := ⟨⟨by decide +kernel, by decide +kernel⟩, List.mem_of_getElem? (i := 264) (by decide +kernel), List.mem_of_getElem? (i := 1276) (by decide +kernel), List.mem_of_getElem? (i := 1277) (by decide +kernel)⟩
theorem lw_p71 : lw_okq (⟨"RowTypes$Machine", "extended", "(III)I"⟩, 17) := ⟨⟨by decide +kernel, by decide +kernel⟩, List.mem_of_getElem? (i := 264) (by decide +kernel), List.mem_of_getElem? (i := 1283) (by decide +kernel), List.mem_of_getElem? (i := 1284) (by decide +kernel)⟩
theorem lw_p72 : lw_okq (⟨"RowTypes$Machine", "newRecord", "()I"⟩, 17) := ⟨⟨by decide +kernel, by decide +kernel⟩, List.mem_of_getElem? (i := 264) (by decide +kernel), List.mem_of_getElem? (i := 1287) (by decide +kernel), List.mem_of_getElem? (i := 1288) (by decide +kernel)⟩
theorem lw_p73 : lw_okq (⟨"RowTypes$Machine", "copyFields", "(III)V"⟩, 17) := ⟨⟨by decide +kernel, by decide +kernel⟩, List.mem_of_getElem? (i := 264) (by decide +kernel), List.mem_of_getElem? (i := 1291) (by decide +kernel), List.mem_of_getElem? (i := 1292) (by decide +kernel)⟩
theorem lw_p74 : lw_okq (⟨"RowTypes$Machine", "setField", "(III)V"⟩, 17) := ⟨⟨by decide +kernel, by decide +kernel⟩, List.mem_of_getElem? (i := 264) (by decide +kernel), List.mem_of_getElem? (i := 1300) (by decide +kernel), List.mem_of_getElem? (i := 1301) (by decide +kernel)⟩
theorem lw_p75 : lw_okq (⟨"RowTypes$Machine", "changed", "(ILRowTypes$Expression;I)I"⟩, 17) := ⟨⟨by decide +kernel, by decide +kernel⟩, List.mem_of_getElem? (i := 264) (by decide +kernel), List.mem_of_getElem? (i := 1304) (by decide +kernel), List.mem_of_getElem? (i := 1305) (by decide +kernel)⟩
theorem lw_p76 : lw_okq (⟨"RowTypes$Machine", "joined", "(II)I"⟩, 17) := ⟨⟨by decide +kernel, by decide +kernel⟩, List.mem_of_getElem? (i := 264) (by decide +kernel), List.mem_of_getElem? (i := 1308) (by decide +kernel), List.mem_of_getElem? (i := 1309) (by decide +kernel)⟩
theorem lw_p77 : lw_okq (⟨"RowTypes$Machine", "finishChoice", "(IIII)V"⟩, 17) := ⟨⟨by decide +kernel, by decide +kernel⟩, List.mem_of_getElem? (i := 264) (by decide +kernel), List.mem_of_getElem? (i := 1312) (by decide +kernel), List.mem_of_getElem? (i := 1313) (by decide +kernel)⟩
theorem lw_p78 : lw_okq (⟨"RowTypes$Machine", "begin", "(III)V"⟩, 17) := ⟨⟨by decide +kernel, by decide +kernel⟩, List.mem_of_getElem? (i := 264) (by decide +kernel), List.mem_of_getElem? (i := 1317) (by decide +kernel), List.mem_of_getElem? (i := 1318) (by decide +kernel)⟩
theorem lw_p79 : lw_okq (⟨"RowTypes$Machine", "beginName", "(II)V"⟩, 17) := ⟨⟨by decide +kernel, by decide +kernel⟩, List.mem_of_getElem? (i := 264) (by decide +kernel), List.mem_of_getElem? (i := 1321) (by decide +kernel), List.mem_of_getElem? (i := 1322) (by decide +kernel)⟩
def lw_privs_5 : List (MethodName × Nat) := [(⟨"RowTypes", "answerUnified", "(III)I"⟩, 19), (⟨"RowTypes", "worksOut", "(I)Z"⟩, 19), (⟨"RowTypes$Machine", "newValue", "(IIII)I"⟩, 17), (⟨"RowTypes$Machine", "pushDue", "(IIIZ)V"⟩, 17), (⟨"RowTypes$Machine", "finish", "(III)V"⟩, 17), (⟨"RowTypes$Machine", "finishCall", "(II)V"⟩, 17), (⟨"RowTypes$Machine", "bind", "(III)I"⟩, 17), (⟨"RowTypes$Machine", "extended", "(III)I"⟩, 17), (⟨"RowTypes$Machine", "newRecord", "()I"⟩, 17), (⟨"RowTypes$Machine", "copyFields", "(III)V"⟩, 17), (⟨"RowTypes$Machine", "setField", "(III)V"⟩, 17), (⟨"RowTypes$Machine", "changed", "(ILRowTypes$Expression;I)I"⟩, 17), (⟨"RowTypes$Machine", "joined", "(II)I"⟩, 17), (⟨"RowTypes$Machine", "finishChoice", "(IIII)V"⟩, 17), (⟨"RowTypes$Machine", "begin", "(III)V"⟩, 17), (⟨"RowTypes$Machine", "beginName", "(II)V"⟩, 17)]
theorem lw_r5 : ∀ q ∈ lw_privs_5, lw_okq q := List.forall_mem_cons.mpr ⟨lw_p64, List.forall_mem_cons.mpr ⟨lw_p65, List.forall_mem_cons.mpr ⟨lw_p66, List.forall_mem_cons.mpr ⟨lw_p67, List.forall_mem_cons.mpr ⟨lw_p68, List.forall_mem_cons.mpr ⟨lw_p69, List.forall_mem_cons.mpr ⟨lw_p70, List.forall_mem_cons.mpr ⟨lw_p71, List.forall_mem_cons.mpr ⟨lw_p72, List.forall_mem_cons.mpr ⟨lw_p73, List.forall_mem_cons.mpr ⟨lw_p74, List.forall_mem_cons.mpr ⟨lw_p75, List.forall_mem_cons.mpr ⟨lw_p76, List.forall_mem_cons.mpr ⟨lw_p77, List.forall_mem_cons.mpr ⟨lw_p78, List.forall_mem_cons.mpr ⟨lw_p79, fun _ h => absurd h List.not_mem_nil⟩⟩⟩⟩⟩⟩⟩⟩⟩⟩⟩⟩⟩⟩⟩⟩
theorem lw_p80 : lw_okq (⟨"RowTypes$Machine", "measure", "()V"⟩, 17) := ⟨⟨by decide +kernel, by decide +kernel⟩, List.mem_of_getElem? (i := 264) (by decide +kernel), List.mem_of_getElem? (i := 1325) (by decide +kernel), List.mem_of_getElem? (i := 1326) (by decide +kernel)⟩
theorem lw_p81 : lw_okq (⟨"RowTypes$Machine", "measured", "(I)J"⟩, 17) := ⟨⟨by decide +kernel, by decide +kernel⟩, List.mem_of_getElem? (i := 264) (by decide +kernel), List.mem_of_getElem? (i := 1329) (by decide +kernel), List.mem_of_getElem? (i := 1330) (by decide +kernel)⟩
theorem lw_p82 : lw_okq (⟨"RowTypes$Machine", "measuredRecord", "(I)J"⟩, 17) := ⟨⟨by decide +kernel, by decide +kernel⟩, List.mem_of_getElem? (i := 264) (by decide +kernel), List.mem_of_getElem? (i := 1333) (by decide +kernel), List.mem_of_getElem? (i := 1334) (by decide +kernel)⟩
theorem lw_p83 : lw_okq (⟨"RowTypes$Scribe", "signOrPart", "(LRowTypes$Machine;IJ)I"⟩, 4) := ⟨⟨by decide +kernel, by decide +kernel⟩, List.mem_of_getElem? (i := 348) (by decide +kernel), List.mem_of_getElem? (i := 1366) (by decide +kernel), List.mem_of_getElem? (i := 1367) (by decide +kernel)⟩
theorem lw_p84 : lw_okq (⟨"RowTypes$Scribe", "signOfRecord", "(LRowTypes$Machine;IJ)I"⟩, 4) := ⟨⟨by decide +kernel, by decide +kernel⟩, List.mem_of_getElem? (i := 348) (by decide +kernel), List.mem_of_getElem? (i := 1373) (by decide +kernel), List.mem_of_getElem? (i := 1374) (by decide +kernel)⟩
theorem lw_p85 : lw_okq (⟨"RowTypes$Scribe", "goInto", "(IJ)I"⟩, 4) := ⟨⟨by decide +kernel, by decide +kernel⟩, List.mem_of_getElem? (i := 348) (by decide +kernel), List.mem_of_getElem? (i := 1379) (by decide +kernel), List.mem_of_getElem? (i := 1380) (by decide +kernel)⟩
theorem lw_p86 : lw_okq (⟨"RowTypes$Scribe", "signOfVariant", "(LRowTypes$Machine;IJ)I"⟩, 4) := ⟨⟨by decide +kernel, by decide +kernel⟩, List.mem_of_getElem? (i := 348) (by decide +kernel), List.mem_of_getElem? (i := 1383) (by decide +kernel), List.mem_of_getElem? (i := 1384) (by decide +kernel)⟩
theorem lw_p87 : lw_okq (⟨"RowTypes$Expression", "ownerOfLabel", "(I)I"⟩, 5) := ⟨⟨by decide +kernel, by decide +kernel⟩, List.mem_of_getElem? (i := 368) (by decide +kernel), List.mem_of_getElem? (i := 1410) (by decide +kernel), List.mem_of_getElem? (i := 1411) (by decide +kernel)⟩
theorem lw_p88 : lw_okq (⟨"java/lang/Throwable", "fillInStackTrace", "(I)Ljava/lang/Throwable;"⟩, 6) := ⟨⟨by decide +kernel, by decide +kernel⟩, List.mem_of_getElem? (i := 1466) (by decide +kernel), List.mem_of_getElem? (i := 1464) (by decide +kernel), List.mem_of_getElem? (i := 1465) (by decide +kernel)⟩
theorem lw_p89 : lw_okq (⟨"RowTypesModel", "readAside", "()I"⟩, 66) := ⟨⟨by decide +kernel, by decide +kernel⟩, List.mem_of_getElem? (i := 1491) (by decide +kernel), List.mem_of_getElem? (i := 1716) (by decide +kernel), List.mem_of_getElem? (i := 1717) (by decide +kernel)⟩
theorem lw_p90 : lw_okq (⟨"RowTypesModel", "begin", "()V"⟩, 66) := ⟨⟨by decide +kernel, by decide +kernel⟩, List.mem_of_getElem? (i := 1491) (by decide +kernel), List.mem_of_getElem? (i := 1720) (by decide +kernel), List.mem_of_getElem? (i := 1721) (by decide +kernel)⟩
theorem lw_p91 : lw_okq (⟨"RowTypesModel", "readOne", "()I"⟩, 66) := ⟨⟨by decide +kernel, by decide +kernel⟩, List.mem_of_getElem? (i := 1491) (by decide +kernel), List.mem_of_getElem? (i := 1724) (by decide +kernel), List.mem_of_getElem? (i := 1725) (by decide +kernel)⟩
theorem lw_p92 : lw_okq (⟨"RowTypesModel", "here", "()I"⟩, 66) := ⟨⟨by decide +kernel, by decide +kernel⟩, List.mem_of_getElem? (i := 1491) (by decide +kernel), List.mem_of_getElem? (i := 1728) (by decide +kernel), List.mem_of_getElem? (i := 1729) (by decide +kernel)⟩
theorem lw_p93 : lw_okq (⟨"RowTypesModel", "made", "(I)I"⟩, 66) := ⟨⟨by decide +kernel, by decide +kernel⟩, List.mem_of_getElem? (i := 1491) (by decide +kernel), List.mem_of_getElem? (i := 1736) (by decide +kernel), List.mem_of_getElem? (i := 1737) (by decide +kernel)⟩
theorem lw_p94 : lw_okq (⟨"RowTypesModel", "readFunction", "()I"⟩, 66) := ⟨⟨by decide +kernel, by decide +kernel⟩, List.mem_of_getElem? (i := 1491) (by decide +kernel), List.mem_of_getElem? (i := 1740) (by decide +kernel), List.mem_of_getElem? (i := 1741) (by decide +kernel)⟩
theorem lw_p95 : lw_okq (⟨"RowTypesModel", "readName", "()I"⟩, 66) := ⟨⟨by decide +kernel, by decide +kernel⟩, List.mem_of_getElem? (i := 1491) (by decide +kernel), List.mem_of_getElem? (i := 1744) (by decide +kernel), List.mem_of_getElem? (i := 1745) (by decide +kernel)⟩
def lw_privs_6 : List (MethodName × Nat) := [(⟨"RowTypes$Machine", "measure", "()V"⟩, 17), (⟨"RowTypes$Machine", "measured", "(I)J"⟩, 17), (⟨"RowTypes$Machine", "measuredRecord", "(I)J"⟩, 17), (⟨"RowTypes$Scribe", "signOrPart", "(LRowTypes$Machine;IJ)I"⟩, 4), (⟨"RowTypes$Scribe", "signOfRecord", "(LRowTypes$Machine;IJ)I"⟩, 4), (⟨"RowTypes$Scribe", "goInto", "(IJ)I"⟩, 4), (⟨"RowTypes$Scribe", "signOfVariant", "(LRowTypes$Machine;IJ)I"⟩, 4), (⟨"RowTypes$Expression", "ownerOfLabel", "(I)I"⟩, 5), (⟨"java/lang/Throwable", "fillInStackTrace", "(I)Ljava/lang/Throwable;"⟩, 6), (⟨"RowTypesModel", "readAside", "()I"⟩, 66), (⟨"RowTypesModel", "begin", "()V"⟩, 66), (⟨"RowTypesModel", "readOne", "()I"⟩, 66), (⟨"RowTypesModel", "here", "()I"⟩, 66), (⟨"RowTypesModel", "made", "(I)I"⟩, 66), (⟨"RowTypesModel", "readFunction", "()I"⟩, 66), (⟨"RowTypesModel", "readName", "()I"⟩, 66)]
theorem lw_r6 : ∀ q ∈ lw_privs_6, lw_okq q := List.forall_mem_cons.mpr ⟨lw_p80, List.forall_mem_cons.mpr ⟨lw_p81, List.forall_mem_cons.mpr ⟨lw_p82, List.forall_mem_cons.mpr ⟨lw_p83, List.forall_mem_cons.mpr ⟨lw_p84, List.forall_mem_cons.mpr ⟨lw_p85, List.forall_mem_cons.mpr ⟨lw_p86, List.forall_mem_cons.mpr ⟨lw_p87, List.forall_mem_cons.mpr ⟨lw_p88, List.forall_mem_cons.mpr ⟨lw_p89, List.forall_mem_cons.mpr ⟨lw_p90, List.forall_mem_cons.mpr ⟨lw_p91, List.forall_mem_cons.mpr ⟨lw_p92, List.forall_mem_cons.mpr ⟨lw_p93, List.forall_mem_cons.mpr ⟨lw_p94, List.forall_mem_cons.mpr ⟨lw_p95, fun _ h => absurd h List.not_mem_nil⟩⟩⟩⟩⟩⟩⟩⟩⟩⟩⟩⟩⟩⟩⟩⟩
theorem lw_p96 : lw_okq (⟨"RowTypesModel", "fault", "()V"⟩, 66) := ⟨⟨by decide +kernel, by decide +kernel⟩, List.mem_of_getElem? (i := 1491) (by decide +kernel), List.mem_of_getElem? (i := 1749) (by decide +kernel), List.mem_of_getElem? (i := 1750) (by decide +kernel)⟩
theorem lw_p97 : lw_okq (⟨"RowTypesModel", "expect", "(C)V"⟩, 66) := ⟨⟨by decide +kernel, by decide +kernel⟩, List.mem_of_getElem? (i := 1491) (by decide +kernel), List.mem_of_getElem? (i := 1753) (by decide +kernel), List.mem_of_getElem? (i := 1754) (by decide +kernel)⟩
theorem lw_p98 : lw_okq (⟨"RowTypesModel", "readApplied", "()I"⟩, 66) := ⟨⟨by decide +kernel, by decide +kernel⟩, List.mem_of_getElem? (i := 1491) (by decide +kernel), List.mem_of_getElem? (i := 1757) (by decide +kernel), List.mem_of_getElem? (i := 1758) (by decide +kernel)⟩
theorem lw_p99 : lw_okq (⟨"RowTypesModel", "readLet", "()I"⟩, 66) := ⟨⟨by decide +kernel, by decide +kernel⟩, List.mem_of_getElem? (i := 1491) (by decide +kernel), List.mem_of_getElem? (i := 1761) (by decide +kernel), List.mem_of_getElem? (i := 1762) (by decide +kernel)⟩
theorem lw_p100 : lw_okq (⟨"RowTypesModel", "readRecord", "()I"⟩, 66) := ⟨⟨by decide +kernel, by decide +kernel⟩, List.mem_of_getElem? (i := 1491) (by decide +kernel), List.mem_of_getElem? (i := 1765) (by decide +kernel), List.mem_of_getElem? (i := 1766) (by decide +kernel)⟩
theorem lw_p101 : lw_okq (⟨"RowTypesModel", "readLabel", "(I)I"⟩, 66) := ⟨⟨by decide +kernel, by decide +kernel⟩, List.mem_of_getElem? (i := 1491) (by decide +kernel), List.mem_of_getElem? (i := 1769) (by decide +kernel), List.mem_of_getElem? (i := 1770) (by decide +kernel)⟩
theorem lw_p102 : lw_okq (⟨"RowTypesModel", "readField", "(I)I"⟩, 66) := ⟨⟨by decide +kernel, by decide +kernel⟩, List.mem_of_getElem? (i := 1491) (by decide +kernel), List.mem_of_getElem? (i := 1774) (by decide +kernel), List.mem_of_getElem? (i := 1775) (by decide +kernel)⟩
theorem lw_p103 : lw_okq (⟨"RowTypesModel", "readRename", "()I"⟩, 66) := ⟨⟨by decide +kernel, by decide +kernel⟩, List.mem_of_getElem? (i := 1491) (by decide +kernel), List.mem_of_getElem? (i := 1778) (by decide +kernel), List.mem_of_getElem? (i := 1779) (by decide +kernel)⟩
theorem lw_p104 : lw_okq (⟨"RowTypesModel", "readBoth", "()I"⟩, 66) := ⟨⟨by decide +kernel, by decide +kernel⟩, List.mem_of_getElem? (i := 1491) (by decide +kernel), List.mem_of_getElem? (i := 1782) (by decide +kernel), List.mem_of_getElem? (i := 1783) (by decide +kernel)⟩
theorem lw_p105 : lw_okq (⟨"RowTypesModel", "readTag", "()I"⟩, 66) := ⟨⟨by decide +kernel, by decide +kernel⟩, List.mem_of_getElem? (i := 1491) (by decide +kernel), List.mem_of_getElem? (i := 1786) (by decide +kernel), List.mem_of_getElem? (i := 1787) (by decide +kernel)⟩
theorem lw_p106 : lw_okq (⟨"RowTypesModel", "readCase", "()I"⟩, 66) := ⟨⟨by decide +kernel, by decide +kernel⟩, List.mem_of_getElem? (i := 1491) (by decide +kernel), List.mem_of_getElem? (i := 1790) (by decide +kernel), List.mem_of_getElem? (i := 1791) (by decide +kernel)⟩
theorem lw_p107 : lw_okq (⟨"RowTypesModel", "inferSlot", "(I)I"⟩, 66) := ⟨⟨by decide +kernel, by decide +kernel⟩, List.mem_of_getElem? (i := 1491) (by decide +kernel), List.mem_of_getElem? (i := 1794) (by decide +kernel), List.mem_of_getElem? (i := 1795) (by decide +kernel)⟩
theorem lw_p108 : lw_okq (⟨"RowTypesModel", "clear", "()V"⟩, 66) := ⟨⟨by decide +kernel, by decide +kernel⟩, List.mem_of_getElem? (i := 1491) (by decide +kernel), List.mem_of_getElem? (i := 1798) (by decide +kernel), List.mem_of_getElem? (i := 1799) (by decide +kernel)⟩
theorem lw_p109 : lw_okq (⟨"RowTypesModel", "infer", "(I)I"⟩, 66) := ⟨⟨by decide +kernel, by decide +kernel⟩, List.mem_of_getElem? (i := 1491) (by decide +kernel), List.mem_of_getElem? (i := 1802) (by decide +kernel), List.mem_of_getElem? (i := 1803) (by decide +kernel)⟩
theorem lw_p110 : lw_okq (⟨"RowTypesModel", "inferred", "(I)I"⟩, 66) := ⟨⟨by decide +kernel, by decide +kernel⟩, List.mem_of_getElem? (i := 1491) (by decide +kernel), List.mem_of_getElem? (i := 1806) (by decide +kernel), List.mem_of_getElem? (i := 1807) (by decide +kernel)⟩
theorem lw_p111 : lw_okq (⟨"RowTypesModel", "newType", "(III)I"⟩, 66) := ⟨⟨by decide +kernel, by decide +kernel⟩, List.mem_of_getElem? (i := 1491) (by decide +kernel), List.mem_of_getElem? (i := 1810) (by decide +kernel), List.mem_of_getElem? (i := 1811) (by decide +kernel)⟩
def lw_privs_7 : List (MethodName × Nat) := [(⟨"RowTypesModel", "fault", "()V"⟩, 66), (⟨"RowTypesModel", "expect", "(C)V"⟩, 66), (⟨"RowTypesModel", "readApplied", "()I"⟩, 66), (⟨"RowTypesModel", "readLet", "()I"⟩, 66), (⟨"RowTypesModel", "readRecord", "()I"⟩, 66), (⟨"RowTypesModel", "readLabel", "(I)I"⟩, 66), (⟨"RowTypesModel", "readField", "(I)I"⟩, 66), (⟨"RowTypesModel", "readRename", "()I"⟩, 66), (⟨"RowTypesModel", "readBoth", "()I"⟩, 66), (⟨"RowTypesModel", "readTag", "()I"⟩, 66), (⟨"RowTypesModel", "readCase", "()I"⟩, 66), (⟨"RowTypesModel", "inferSlot", "(I)I"⟩, 66), (⟨"RowTypesModel", "clear", "()V"⟩, 66), (⟨"RowTypesModel", "infer", "(I)I"⟩, 66), (⟨"RowTypesModel", "inferred", "(I)I"⟩, 66), (⟨"RowTypesModel", "newType", "(III)I"⟩, 66)]
theorem lw_r7 : ∀ q ∈ lw_privs_7, lw_okq q := List.forall_mem_cons.mpr ⟨lw_p96, List.forall_mem_cons.mpr ⟨lw_p97, List.forall_mem_cons.mpr ⟨lw_p98, List.forall_mem_cons.mpr ⟨lw_p99, List.forall_mem_cons.mpr ⟨lw_p100, List.forall_mem_cons.mpr ⟨lw_p101, List.forall_mem_cons.mpr ⟨lw_p102, List.forall_mem_cons.mpr ⟨lw_p103, List.forall_mem_cons.mpr ⟨lw_p104, List.forall_mem_cons.mpr ⟨lw_p105, List.forall_mem_cons.mpr ⟨lw_p106, List.forall_mem_cons.mpr ⟨lw_p107, List.forall_mem_cons.mpr ⟨lw_p108, List.forall_mem_cons.mpr ⟨lw_p109, List.forall_mem_cons.mpr ⟨lw_p110, List.forall_mem_cons.mpr ⟨lw_p111, fun _ h => absurd h List.not_mem_nil⟩⟩⟩⟩⟩⟩⟩⟩⟩⟩⟩⟩⟩⟩⟩⟩
theorem lw_p112 : lw_okq (⟨"RowTypesModel", "nameType", "(I)I"⟩, 66) := ⟨⟨by decide +kernel, by decide +kernel⟩, List.mem_of_getElem? (i := 1491) (by decide +kernel), List.mem_of_getElem? (i := 1814) (by decide +kernel), List.mem_of_getElem? (i := 1815) (by decide +kernel)⟩
theorem lw_p113 : lw_okq (⟨"RowTypesModel", "isGreat", "(I)Z"⟩, 66) := ⟨⟨by decide +kernel, by decide +kernel⟩, List.mem_of_getElem? (i := 1491) (by decide +kernel), List.mem_of_getElem? (i := 1818) (by decide +kernel), List.mem_of_getElem? (i := 1819) (by decide +kernel)⟩
theorem lw_p114 : lw_okq (⟨"RowTypesModel", "greatness", "(II)I"⟩, 66) := ⟨⟨by decide +kernel, by decide +kernel⟩, List.mem_of_getElem? (i := 1491) (by decide +kernel), List.mem_of_getElem? (i := 1822) (by decide +kernel), List.mem_of_getElem? (i := 1823) (by decide +kernel)⟩
theorem lw_p115 : lw_okq (⟨"RowTypesModel", "seen", "(I)I"⟩, 66) := ⟨⟨by decide +kernel, by decide +kernel⟩, List.mem_of_getElem? (i := 1491) (by decide +kernel), List.mem_of_getElem? (i := 1826) (by decide +kernel), List.mem_of_getElem? (i := 1827) (by decide +kernel)⟩
theorem lw_p116 : lw_okq (⟨"RowTypesModel", "fieldAt", "(II)I"⟩, 66) := ⟨⟨by decide +kernel, by decide +kernel⟩, List.mem_of_getElem? (i := 1491) (by decide +kernel), List.mem_of_getElem? (i := 1830) (by decide +kernel), List.mem_of_getElem? (i := 1831) (by decide +kernel)⟩
theorem lw_p117 : lw_okq (⟨"RowTypesModel", "lastEnd", "(I)I"⟩, 66) := ⟨⟨by decide +kernel, by decide +kernel⟩, List.mem_of_getElem? (i := 1491) (by decide +kernel), List.mem_of_getElem? (i := 1834) (by decide +kernel), List.mem_of_getElem? (i := 1835) (by decide +kernel)⟩
theorem lw_p118 : lw_okq (⟨"RowTypesModel", "no", "(II)I"⟩, 66) := ⟨⟨by decide +kernel, by decide +kernel⟩, List.mem_of_getElem? (i := 1491) (by decide +kernel), List.mem_of_getElem? (i := 1838) (by decide +kernel), List.mem_of_getElem? (i := 1839) (by decide +kernel)⟩
theorem lw_p119 : lw_okq (⟨"RowTypesModel", "renewedNow", "(I)I"⟩, 66) := ⟨⟨by decide +kernel, by decide +kernel⟩, List.mem_of_getElem? (i := 1491) (by decide +kernel), List.mem_of_getElem? (i := 1842) (by decide +kernel), List.mem_of_getElem? (i := 1843) (by decide +kernel)⟩
theorem lw_p120 : lw_okq (⟨"RowTypesModel", "mark", "(I)V"⟩, 66) := ⟨⟨by decide +kernel, by decide +kernel⟩, List.mem_of_getElem? (i := 1491) (by decide +kernel), List.mem_of_getElem? (i := 1846) (by decide +kernel), List.mem_of_getElem? (i := 1847) (by decide +kernel)⟩
theorem lw_p121 : lw_okq (⟨"RowTypesModel", "renewed", "(I)I"⟩, 66) := ⟨⟨by decide +kernel, by decide +kernel⟩, List.mem_of_getElem? (i := 1491) (by decide +kernel), List.mem_of_getElem? (i := 1850) (by decide +kernel), List.mem_of_getElem? (i := 1851) (by decide +kernel)⟩
theorem lw_p122 : lw_okq (⟨"RowTypesModel", "newVariable", "()I"⟩, 66) := ⟨⟨by decide +kernel, by decide +kernel⟩, List.mem_of_getElem? (i := 1491) (by decide +kernel), List.mem_of_getElem? (i := 1854) (by decide +kernel), List.mem_of_getElem? (i := 1855) (by decide +kernel)⟩
theorem lw_p123 : lw_okq (⟨"RowTypesModel", "renewedRow", "(I)I"⟩, 66) := ⟨⟨by decide +kernel, by decide +kernel⟩, List.mem_of_getElem? (i := 1491) (by decide +kernel), List.mem_of_getElem? (i := 1858) (by decide +kernel), List.mem_of_getElem? (i := 1859) (by decide +kernel)⟩
theorem lw_p124 : lw_okq (⟨"RowTypesModel", "newRow", "(I)I"⟩, 66) := ⟨⟨by decide +kernel, by decide +kernel⟩, List.mem_of_getElem? (i := 1491) (by decide +kernel), List.mem_of_getElem? (i := 1862) (by decide +kernel), List.mem_of_getElem? (i := 1863) (by decide +kernel)⟩
theorem lw_p125 : lw_okq (⟨"RowTypesModel", "newEnd", "(I)I"⟩, 66) := ⟨⟨by decide +kernel, by decide +kernel⟩, List.mem_of_getElem? (i := 1491) (by decide +kernel), List.mem_of_getElem? (i := 1866) (by decide +kernel), List.mem_of_getElem? (i := 1867) (by decide +kernel)⟩
theorem lw_p126 : lw_okq (⟨"RowTypesModel", "load", "(I)I"⟩, 66) := ⟨⟨by decide +kernel, by decide +kernel⟩, List.mem_of_getElem? (i := 1491) (by decide +kernel), List.mem_of_getElem? (i := 1870) (by decide +kernel), List.mem_of_getElem? (i := 1871) (by decide +kernel)⟩
theorem lw_p127 : lw_okq (⟨"RowTypesModel", "loadOne", "()I"⟩, 66) := ⟨⟨by decide +kernel, by decide +kernel⟩, List.mem_of_getElem? (i := 1491) (by decide +kernel), List.mem_of_getElem? (i := 1874) (by decide +kernel), List.mem_of_getElem? (i := 1875) (by decide +kernel)⟩
def lw_privs_8 : List (MethodName × Nat) := [(⟨"RowTypesModel", "nameType", "(I)I"⟩, 66), (⟨"RowTypesModel", "isGreat", "(I)Z"⟩, 66), (⟨"RowTypesModel", "greatness", "(II)I"⟩, 66), (⟨"RowTypesModel", "seen", "(I)I"⟩, 66), (⟨"RowTypesModel", "fieldAt", "(II)I"⟩, 66), (⟨"RowTypesModel", "lastEnd", "(I)I"⟩, 66), (⟨"RowTypesModel", "no", "(II)I"⟩, 66), (⟨"RowTypesModel", "renewedNow", "(I)I"⟩, 66), (⟨"RowTypesModel", "mark", "(I)V"⟩, 66), (⟨"RowTypesModel", "renewed", "(I)I"⟩, 66), (⟨"RowTypesModel", "newVariable", "()I"⟩, 66), (⟨"RowTypesModel", "renewedRow", "(I)I"⟩, 66), (⟨"RowTypesModel", "newRow", "(I)I"⟩, 66), (⟨"RowTypesModel", "newEnd", "(I)I"⟩, 66), (⟨"RowTypesModel", "load", "(I)I"⟩, 66), (⟨"RowTypesModel", "loadOne", "()I"⟩, 66)]
theorem lw_r8 : ∀ q ∈ lw_privs_8, lw_okq q := List.forall_mem_cons.mpr ⟨lw_p112, List.forall_mem_cons.mpr ⟨lw_p113, List.forall_mem_cons.mpr ⟨lw_p114, List.forall_mem_cons.mpr ⟨lw_p115, List.forall_mem_cons.mpr ⟨lw_p116, List.forall_mem_cons.mpr ⟨lw_p117, List.forall_mem_cons.mpr ⟨lw_p118, List.forall_mem_cons.mpr ⟨lw_p119, List.forall_mem_cons.mpr ⟨lw_p120, List.forall_mem_cons.mpr ⟨lw_p121, List.forall_mem_cons.mpr ⟨lw_p122, List.forall_mem_cons.mpr ⟨lw_p123, List.forall_mem_cons.mpr ⟨lw_p124, List.forall_mem_cons.mpr ⟨lw_p125, List.forall_mem_cons.mpr ⟨lw_p126, List.forall_mem_cons.mpr ⟨lw_p127, fun _ h => absurd h List.not_mem_nil⟩⟩⟩⟩⟩⟩⟩⟩⟩⟩⟩⟩⟩⟩⟩⟩
theorem lw_p128 : lw_okq (⟨"RowTypesModel", "functionType", "(I)I"⟩, 66) := ⟨⟨by decide +kernel, by decide +kernel⟩, List.mem_of_getElem? (i := 1491) (by decide +kernel), List.mem_of_getElem? (i := 1878) (by decide +kernel), List.mem_of_getElem? (i := 1879) (by decide +kernel)⟩
theorem lw_p129 : lw_okq (⟨"RowTypesModel", "binds", "(III)V"⟩, 66) := ⟨⟨by decide +kernel, by decide +kernel⟩, List.mem_of_getElem? (i := 1491) (by decide +kernel), List.mem_of_getElem? (i := 1882) (by decide +kernel), List.mem_of_getElem? (i := 1883) (by decide +kernel)⟩
theorem lw_p130 : lw_okq (⟨"RowTypesModel", "appliedType", "(I)I"⟩, 66) := ⟨⟨by decide +kernel, by decide +kernel⟩, List.mem_of_getElem? (i := 1491) (by decide +kernel), List.mem_of_getElem? (i := 1886) (by decide +kernel), List.mem_of_getElem? (i := 1887) (by decide +kernel)⟩
theorem lw_p131 : lw_okq (⟨"RowTypesModel", "unifies", "(III)Z"⟩, 66) := ⟨⟨by decide +kernel, by decide +kernel⟩, List.mem_of_getElem? (i := 1491) (by decide +kernel), List.mem_of_getElem? (i := 1890) (by decide +kernel), List.mem_of_getElem? (i := 1891) (by decide +kernel)⟩
theorem lw_p132 : lw_okq (⟨"RowTypesModel", "unify", "(II)Z"⟩, 66) := ⟨⟨by decide +kernel, by decide +kernel⟩, List.mem_of_getElem? (i := 1491) (by decide +kernel), List.mem_of_getElem? (i := 1894) (by decide +kernel), List.mem_of_getElem? (i := 1895) (by decide +kernel)⟩
theorem lw_p133 : lw_okq (⟨"RowTypesModel", "becomes", "(II)Z"⟩, 66) := ⟨⟨by decide +kernel, by decide +kernel⟩, List.mem_of_getElem? (i := 1491) (by decide +kernel), List.mem_of_getElem? (i := 1898) (by decide +kernel), List.mem_of_getElem? (i := 1899) (by decide +kernel)⟩
theorem lw_p134 : lw_okq (⟨"RowTypesModel", "isWithin", "(III)Z"⟩, 66) := ⟨⟨by decide +kernel, by decide +kernel⟩, List.mem_of_getElem? (i := 1491) (by decide +kernel), List.mem_of_getElem? (i := 1902) (by decide +kernel), List.mem_of_getElem? (i := 1903) (by decide +kernel)⟩
theorem lw_p135 : lw_okq (⟨"RowTypesModel", "fails", "(II)Z"⟩, 66) := ⟨⟨by decide +kernel, by decide +kernel⟩, List.mem_of_getElem? (i := 1491) (by decide +kernel), List.mem_of_getElem? (i := 1906) (by decide +kernel), List.mem_of_getElem? (i := 1907) (by decide +kernel)⟩
theorem lw_p136 : lw_okq (⟨"RowTypesModel", "unifyRows", "(II)Z"⟩, 66) := ⟨⟨by decide +kernel, by decide +kernel⟩, List.mem_of_getElem? (i := 1491) (by decide +kernel), List.mem_of_getElem? (i := 1910) (by decide +kernel), List.mem_of_getElem? (i := 1911) (by decide +kernel)⟩
theorem lw_p137 : lw_okq (⟨"RowTypesModel", "takes", "(IIII)Z"⟩, 66) := ⟨⟨by decide +kernel, by decide +kernel⟩, List.mem_of_getElem? (i := 1491) (by decide +kernel), List.mem_of_getElem? (i := 1914) (by decide +kernel), List.mem_of_getElem? (i := 1915) (by decide +kernel)⟩
theorem lw_p138 : lw_okq (⟨"RowTypesModel", "fieldRow", "(III)I"⟩, 66) := ⟨⟨by decide +kernel, by decide +kernel⟩, List.mem_of_getElem? (i := 1491) (by decide +kernel), List.mem_of_getElem? (i := 1918) (by decide +kernel), List.mem_of_getElem? (i := 1919) (by decide +kernel)⟩
theorem lw_p139 : lw_okq (⟨"RowTypesModel", "letType", "(I)I"⟩, 66) := ⟨⟨by decide +kernel, by decide +kernel⟩, List.mem_of_getElem? (i := 1491) (by decide +kernel), List.mem_of_getElem? (i := 1922) (by decide +kernel), List.mem_of_getElem? (i := 1923) (by decide +kernel)⟩
theorem lw_p140 : lw_okq (⟨"RowTypesModel", "addedType", "(I)I"⟩, 66) := ⟨⟨by decide +kernel, by decide +kernel⟩, List.mem_of_getElem? (i := 1491) (by decide +kernel), List.mem_of_getElem? (i := 1926) (by decide +kernel), List.mem_of_getElem? (i := 1927) (by decide +kernel)⟩
theorem lw_p141 : lw_okq (⟨"RowTypesModel", "bothType", "(I)I"⟩, 66) := ⟨⟨by decide +kernel, by decide +kernel⟩, List.mem_of_getElem? (i := 1491) (by decide +kernel), List.mem_of_getElem? (i := 1930) (by decide +kernel), List.mem_of_getElem? (i := 1931) (by decide +kernel)⟩
theorem lw_p142 : lw_okq (⟨"RowTypesModel", "added", "(III)I"⟩, 66) := ⟨⟨by decide +kernel, by decide +kernel⟩, List.mem_of_getElem? (i := 1491) (by decide +kernel), List.mem_of_getElem? (i := 1934) (by decide +kernel), List.mem_of_getElem? (i := 1935) (by decide +kernel)⟩
theorem lw_p143 : lw_okq (⟨"RowTypesModel", "labelsOf", "(I)I"⟩, 66) := ⟨⟨by decide +kernel, by decide +kernel⟩, List.mem_of_getElem? (i := 1491) (by decide +kernel), List.mem_of_getElem? (i := 1938) (by decide +kernel), List.mem_of_getElem? (i := 1939) (by decide +kernel)⟩
def lw_privs_9 : List (MethodName × Nat) := [(⟨"RowTypesModel", "functionType", "(I)I"⟩, 66), (⟨"RowTypesModel", "binds", "(III)V"⟩, 66), (⟨"RowTypesModel", "appliedType", "(I)I"⟩, 66), (⟨"RowTypesModel", "unifies", "(III)Z"⟩, 66), (⟨"RowTypesModel", "unify", "(II)Z"⟩, 66), (⟨"RowTypesModel", "becomes", "(II)Z"⟩, 66), (⟨"RowTypesModel", "isWithin", "(III)Z"⟩, 66), (⟨"RowTypesModel", "fails", "(II)Z"⟩, 66), (⟨"RowTypesModel", "unifyRows", "(II)Z"⟩, 66), (⟨"RowTypesModel", "takes", "(IIII)Z"⟩, 66), (⟨"RowTypesModel", "fieldRow", "(III)I"⟩, 66), (⟨"RowTypesModel", "letType", "(I)I"⟩, 66), (⟨"RowTypesModel", "addedType", "(I)I"⟩, 66), (⟨"RowTypesModel", "bothType", "(I)I"⟩, 66), (⟨"RowTypesModel", "added", "(III)I"⟩, 66), (⟨"RowTypesModel", "labelsOf", "(I)I"⟩, 66)]
theorem lw_r9 : ∀ q ∈ lw_privs_9, lw_okq q := List.forall_mem_cons.mpr ⟨lw_p128, List.forall_mem_cons.mpr ⟨lw_p129, List.forall_mem_cons.mpr ⟨lw_p130, List.forall_mem_cons.mpr ⟨lw_p131, List.forall_mem_cons.mpr ⟨lw_p132, List.forall_mem_cons.mpr ⟨lw_p133, List.forall_mem_cons.mpr ⟨lw_p134, List.forall_mem_cons.mpr ⟨lw_p135, List.forall_mem_cons.mpr ⟨lw_p136, List.forall_mem_cons.mpr ⟨lw_p137, List.forall_mem_cons.mpr ⟨lw_p138, List.forall_mem_cons.mpr ⟨lw_p139, List.forall_mem_cons.mpr ⟨lw_p140, List.forall_mem_cons.mpr ⟨lw_p141, List.forall_mem_cons.mpr ⟨lw_p142, List.forall_mem_cons.mpr ⟨lw_p143, fun _ h => absurd h List.not_mem_nil⟩⟩⟩⟩⟩⟩⟩⟩⟩⟩⟩⟩⟩⟩⟩⟩
theorem lw_p144 : lw_okq (⟨"RowTypesModel", "tagType", "(I)I"⟩, 66) := ⟨⟨by decide +kernel, by decide +kernel⟩, List.mem_of_getElem? (i := 1491) (by decide +kernel), List.mem_of_getElem? (i := 1942) (by decide +kernel), List.mem_of_getElem? (i := 1943) (by decide +kernel)⟩
theorem lw_p145 : lw_okq (⟨"RowTypesModel", "caseType", "(I)I"⟩, 66) := ⟨⟨by decide +kernel, by decide +kernel⟩, List.mem_of_getElem? (i := 1491) (by decide +kernel), List.mem_of_getElem? (i := 1946) (by decide +kernel), List.mem_of_getElem? (i := 1947) (by decide +kernel)⟩
theorem lw_p146 : lw_okq (⟨"RowTypesModel", "fieldType", "(I)I"⟩, 66) := ⟨⟨by decide +kernel, by decide +kernel⟩, List.mem_of_getElem? (i := 1491) (by decide +kernel), List.mem_of_getElem? (i := 1950) (by decide +kernel), List.mem_of_getElem? (i := 1951) (by decide +kernel)⟩
theorem lw_p147 : lw_okq (⟨"RowTypesModel", "told", "()I"⟩, 66) := ⟨⟨by decide +kernel, by decide +kernel⟩, List.mem_of_getElem? (i := 1491) (by decide +kernel), List.mem_of_getElem? (i := 1954) (by decide +kernel), List.mem_of_getElem? (i := 1955) (by decide +kernel)⟩
theorem lw_p148 : lw_okq (⟨"RowTypesModel", "tell", "(J)V"⟩, 66) := ⟨⟨by decide +kernel, by decide +kernel⟩, List.mem_of_getElem? (i := 1491) (by decide +kernel), List.mem_of_getElem? (i := 1959) (by decide +kernel), List.mem_of_getElem? (i := 1960) (by decide +kernel)⟩
theorem lw_p149 : lw_okq (⟨"RowTypesModel", "keep", "(I)V"⟩, 66) := ⟨⟨by decide +kernel, by decide +kernel⟩, List.mem_of_getElem? (i := 1491) (by decide +kernel), List.mem_of_getElem? (i := 1963) (by decide +kernel), List.mem_of_getElem? (i := 1964) (by decide +kernel)⟩
theorem lw_p150 : lw_okq (⟨"RowTypesModel", "keepType", "(II)I"⟩, 66) := ⟨⟨by decide +kernel, by decide +kernel⟩, List.mem_of_getElem? (i := 1491) (by decide +kernel), List.mem_of_getElem? (i := 1970) (by decide +kernel), List.mem_of_getElem? (i := 1971) (by decide +kernel)⟩
theorem lw_p151 : lw_okq (⟨"RowTypesModel", "walks", "(II)V"⟩, 66) := ⟨⟨by decide +kernel, by decide +kernel⟩, List.mem_of_getElem? (i := 1491) (by decide +kernel), List.mem_of_getElem? (i := 1974) (by decide +kernel), List.mem_of_getElem? (i := 1975) (by decide +kernel)⟩
theorem lw_p152 : lw_okq (⟨"RowTypesModel", "puts", "(II)V"⟩, 66) := ⟨⟨by decide +kernel, by decide +kernel⟩, List.mem_of_getElem? (i := 1491) (by decide +kernel), List.mem_of_getElem? (i := 1978) (by decide +kernel), List.mem_of_getElem? (i := 1979) (by decide +kernel)⟩
theorem lw_p153 : lw_okq (⟨"RowTypesModel", "numbered", "(II)I"⟩, 66) := ⟨⟨by decide +kernel, by decide +kernel⟩, List.mem_of_getElem? (i := 1491) (by decide +kernel), List.mem_of_getElem? (i := 1982) (by decide +kernel), List.mem_of_getElem? (i := 1983) (by decide +kernel)⟩
theorem lw_p154 : lw_okq (⟨"RowTypesModel", "walksRow", "(II)V"⟩, 66) := ⟨⟨by decide +kernel, by decide +kernel⟩, List.mem_of_getElem? (i := 1491) (by decide +kernel), List.mem_of_getElem? (i := 1986) (by decide +kernel), List.mem_of_getElem? (i := 1987) (by decide +kernel)⟩
theorem lw_p155 : lw_okq (⟨"RowTypesModel", "freeBits", "(II)I"⟩, 66) := ⟨⟨by decide +kernel, by decide +kernel⟩, List.mem_of_getElem? (i := 1491) (by decide +kernel), List.mem_of_getElem? (i := 1998) (by decide +kernel), List.mem_of_getElem? (i := 1999) (by decide +kernel)⟩
theorem lw_p156 : lw_okq (⟨"RowTypesModel", "slotOf", "(I)I"⟩, 66) := ⟨⟨by decide +kernel, by decide +kernel⟩, List.mem_of_getElem? (i := 1491) (by decide +kernel), List.mem_of_getElem? (i := 2006) (by decide +kernel), List.mem_of_getElem? (i := 2007) (by decide +kernel)⟩
theorem lw_p157 : lw_okq (⟨"RowTypesModel", "writeType", "()V"⟩, 66) := ⟨⟨by decide +kernel, by decide +kernel⟩, List.mem_of_getElem? (i := 1491) (by decide +kernel), List.mem_of_getElem? (i := 2014) (by decide +kernel), List.mem_of_getElem? (i := 2015) (by decide +kernel)⟩
theorem lw_p158 : lw_okq (⟨"RowTypesModel", "says", "(I)V"⟩, 66) := ⟨⟨by decide +kernel, by decide +kernel⟩, List.mem_of_getElem? (i := 1491) (by decide +kernel), List.mem_of_getElem? (i := 2018) (by decide +kernel), List.mem_of_getElem? (i := 2019) (by decide +kernel)⟩
theorem lw_p159 : lw_okq (⟨"RowTypesModel", "saysVariable", "(I)V"⟩, 66) := ⟨⟨by decide +kernel, by decide +kernel⟩, List.mem_of_getElem? (i := 1491) (by decide +kernel), List.mem_of_getElem? (i := 2022) (by decide +kernel), List.mem_of_getElem? (i := 2023) (by decide +kernel)⟩
def lw_privs_10 : List (MethodName × Nat) := [(⟨"RowTypesModel", "tagType", "(I)I"⟩, 66), (⟨"RowTypesModel", "caseType", "(I)I"⟩, 66), (⟨"RowTypesModel", "fieldType", "(I)I"⟩, 66), (⟨"RowTypesModel", "told", "()I"⟩, 66), (⟨"RowTypesModel", "tell", "(J)V"⟩, 66), (⟨"RowTypesModel", "keep", "(I)V"⟩, 66), (⟨"RowTypesModel", "keepType", "(II)I"⟩, 66), (⟨"RowTypesModel", "walks", "(II)V"⟩, 66), (⟨"RowTypesModel", "puts", "(II)V"⟩, 66), (⟨"RowTypesModel", "numbered", "(II)I"⟩, 66), (⟨"RowTypesModel", "walksRow", "(II)V"⟩, 66), (⟨"RowTypesModel", "freeBits", "(II)I"⟩, 66), (⟨"RowTypesModel", "slotOf", "(I)I"⟩, 66), (⟨"RowTypesModel", "writeType", "()V"⟩, 66), (⟨"RowTypesModel", "says", "(I)V"⟩, 66), (⟨"RowTypesModel", "saysVariable", "(I)V"⟩, 66)]
theorem lw_r10 : ∀ q ∈ lw_privs_10, lw_okq q := List.forall_mem_cons.mpr ⟨lw_p144, List.forall_mem_cons.mpr ⟨lw_p145, List.forall_mem_cons.mpr ⟨lw_p146, List.forall_mem_cons.mpr ⟨lw_p147, List.forall_mem_cons.mpr ⟨lw_p148, List.forall_mem_cons.mpr ⟨lw_p149, List.forall_mem_cons.mpr ⟨lw_p150, List.forall_mem_cons.mpr ⟨lw_p151, List.forall_mem_cons.mpr ⟨lw_p152, List.forall_mem_cons.mpr ⟨lw_p153, List.forall_mem_cons.mpr ⟨lw_p154, List.forall_mem_cons.mpr ⟨lw_p155, List.forall_mem_cons.mpr ⟨lw_p156, List.forall_mem_cons.mpr ⟨lw_p157, List.forall_mem_cons.mpr ⟨lw_p158, List.forall_mem_cons.mpr ⟨lw_p159, fun _ h => absurd h List.not_mem_nil⟩⟩⟩⟩⟩⟩⟩⟩⟩⟩⟩⟩⟩⟩⟩⟩
theorem lw_p160 : lw_okq (⟨"RowTypesModel", "saysNumber", "(J)V"⟩, 66) := ⟨⟨by decide +kernel, by decide +kernel⟩, List.mem_of_getElem? (i := 1491) (by decide +kernel), List.mem_of_getElem? (i := 2026) (by decide +kernel), List.mem_of_getElem? (i := 2027) (by decide +kernel)⟩
theorem lw_p161 : lw_okq (⟨"RowTypesModel", "writeRow", "(Z)V"⟩, 66) := ⟨⟨by decide +kernel, by decide +kernel⟩, List.mem_of_getElem? (i := 1491) (by decide +kernel), List.mem_of_getElem? (i := 2032) (by decide +kernel), List.mem_of_getElem? (i := 2033) (by decide +kernel)⟩
theorem lw_p162 : lw_okq (⟨"RowTypesModel", "signAt", "(I)I"⟩, 66) := ⟨⟨by decide +kernel, by decide +kernel⟩, List.mem_of_getElem? (i := 1491) (by decide +kernel), List.mem_of_getElem? (i := 2036) (by decide +kernel), List.mem_of_getElem? (i := 2037) (by decide +kernel)⟩
theorem lw_p163 : lw_okq (⟨"RowTypesModel", "loadAnew", "(I)I"⟩, 66) := ⟨⟨by decide +kernel, by decide +kernel⟩, List.mem_of_getElem? (i := 1491) (by decide +kernel), List.mem_of_getElem? (i := 2048) (by decide +kernel), List.mem_of_getElem? (i := 2049) (by decide +kernel)⟩
theorem lw_p164 : lw_okq (⟨"RowTypesModel", "tellRow", "(I)V"⟩, 66) := ⟨⟨by decide +kernel, by decide +kernel⟩, List.mem_of_getElem? (i := 1491) (by decide +kernel), List.mem_of_getElem? (i := 2052) (by decide +kernel), List.mem_of_getElem? (i := 2053) (by decide +kernel)⟩
theorem lw_p165 : lw_okq (⟨"RowTypesModel", "hasRow", "(I)Z"⟩, 66) := ⟨⟨by decide +kernel, by decide +kernel⟩, List.mem_of_getElem? (i := 1491) (by decide +kernel), List.mem_of_getElem? (i := 2056) (by decide +kernel), List.mem_of_getElem? (i := 2057) (by decide +kernel)⟩
theorem lw_p166 : lw_okq (⟨"RowTypesModel", "answer", "(I)I"⟩, 66) := ⟨⟨by decide +kernel, by decide +kernel⟩, List.mem_of_getElem? (i := 1491) (by decide +kernel), List.mem_of_getElem? (i := 2068) (by decide +kernel), List.mem_of_getElem? (i := 2069) (by decide +kernel)⟩
theorem lw_p167 : lw_okq (⟨"RowTypesModel", "readType", "()I"⟩, 66) := ⟨⟨by decide +kernel, by decide +kernel⟩, List.mem_of_getElem? (i := 1491) (by decide +kernel), List.mem_of_getElem? (i := 2084) (by decide +kernel), List.mem_of_getElem? (i := 2085) (by decide +kernel)⟩
theorem lw_p168 : lw_okq (⟨"RowTypesModel", "readRowOf", "(C)I"⟩, 66) := ⟨⟨by decide +kernel, by decide +kernel⟩, List.mem_of_getElem? (i := 1491) (by decide +kernel), List.mem_of_getElem? (i := 2088) (by decide +kernel), List.mem_of_getElem? (i := 2089) (by decide +kernel)⟩
theorem lw_p169 : lw_okq (⟨"RowTypesModel", "isAbove", "(II)Z"⟩, 66) := ⟨⟨by decide +kernel, by decide +kernel⟩, List.mem_of_getElem? (i := 1491) (by decide +kernel), List.mem_of_getElem? (i := 2096) (by decide +kernel), List.mem_of_getElem? (i := 2097) (by decide +kernel)⟩
theorem lw_p170 : lw_okq (⟨"RowTypesModel", "covers", "(II)Z"⟩, 66) := ⟨⟨by decide +kernel, by decide +kernel⟩, List.mem_of_getElem? (i := 1491) (by decide +kernel), List.mem_of_getElem? (i := 2100) (by decide +kernel), List.mem_of_getElem? (i := 2101) (by decide +kernel)⟩
theorem lw_p171 : lw_okq (⟨"RowTypesModel", "isSame", "(II)Z"⟩, 66) := ⟨⟨by decide +kernel, by decide +kernel⟩, List.mem_of_getElem? (i := 1491) (by decide +kernel), List.mem_of_getElem? (i := 2104) (by decide +kernel), List.mem_of_getElem? (i := 2105) (by decide +kernel)⟩
theorem lw_p172 : lw_okq (⟨"RowTypesModel", "isSameRow", "(II)Z"⟩, 66) := ⟨⟨by decide +kernel, by decide +kernel⟩, List.mem_of_getElem? (i := 1491) (by decide +kernel), List.mem_of_getElem? (i := 2108) (by decide +kernel), List.mem_of_getElem? (i := 2109) (by decide +kernel)⟩
theorem lw_p173 : lw_okq (⟨"RowTypesModel", "coversRow", "(II)Z"⟩, 66) := ⟨⟨by decide +kernel, by decide +kernel⟩, List.mem_of_getElem? (i := 1491) (by decide +kernel), List.mem_of_getElem? (i := 2112) (by decide +kernel), List.mem_of_getElem? (i := 2113) (by decide +kernel)⟩
theorem lw_p174 : lw_okq (⟨"RowTypesModel", "answers", "(ZI)I"⟩, 66) := ⟨⟨by decide +kernel, by decide +kernel⟩, List.mem_of_getElem? (i := 1491) (by decide +kernel), List.mem_of_getElem? (i := 2120) (by decide +kernel), List.mem_of_getElem? (i := 2121) (by decide +kernel)⟩
theorem lw_p175 : lw_okq (⟨"RowTypesModel", "textSlot", "(I)I"⟩, 66) := ⟨⟨by decide +kernel, by decide +kernel⟩, List.mem_of_getElem? (i := 1491) (by decide +kernel), List.mem_of_getElem? (i := 2132) (by decide +kernel), List.mem_of_getElem? (i := 2133) (by decide +kernel)⟩
def lw_privs_11 : List (MethodName × Nat) := [(⟨"RowTypesModel", "saysNumber", "(J)V"⟩, 66), (⟨"RowTypesModel", "writeRow", "(Z)V"⟩, 66), (⟨"RowTypesModel", "signAt", "(I)I"⟩, 66), (⟨"RowTypesModel", "loadAnew", "(I)I"⟩, 66), (⟨"RowTypesModel", "tellRow", "(I)V"⟩, 66), (⟨"RowTypesModel", "hasRow", "(I)Z"⟩, 66), (⟨"RowTypesModel", "answer", "(I)I"⟩, 66), (⟨"RowTypesModel", "readType", "()I"⟩, 66), (⟨"RowTypesModel", "readRowOf", "(C)I"⟩, 66), (⟨"RowTypesModel", "isAbove", "(II)Z"⟩, 66), (⟨"RowTypesModel", "covers", "(II)Z"⟩, 66), (⟨"RowTypesModel", "isSame", "(II)Z"⟩, 66), (⟨"RowTypesModel", "isSameRow", "(II)Z"⟩, 66), (⟨"RowTypesModel", "coversRow", "(II)Z"⟩, 66), (⟨"RowTypesModel", "answers", "(ZI)I"⟩, 66), (⟨"RowTypesModel", "textSlot", "(I)I"⟩, 66)]
theorem lw_r11 : ∀ q ∈ lw_privs_11, lw_okq q := List.forall_mem_cons.mpr ⟨lw_p160, List.forall_mem_cons.mpr ⟨lw_p161, List.forall_mem_cons.mpr ⟨lw_p162, List.forall_mem_cons.mpr ⟨lw_p163, List.forall_mem_cons.mpr ⟨lw_p164, List.forall_mem_cons.mpr ⟨lw_p165, List.forall_mem_cons.mpr ⟨lw_p166, List.forall_mem_cons.mpr ⟨lw_p167, List.forall_mem_cons.mpr ⟨lw_p168, List.forall_mem_cons.mpr ⟨lw_p169, List.forall_mem_cons.mpr ⟨lw_p170, List.forall_mem_cons.mpr ⟨lw_p171, List.forall_mem_cons.mpr ⟨lw_p172, List.forall_mem_cons.mpr ⟨lw_p173, List.forall_mem_cons.mpr ⟨lw_p174, List.forall_mem_cons.mpr ⟨lw_p175, fun _ h => absurd h List.not_mem_nil⟩⟩⟩⟩⟩⟩⟩⟩⟩⟩⟩⟩⟩⟩⟩⟩
theorem lw_p176 : lw_okq (⟨"RowTypesModel", "worked", "(I)I"⟩, 66) := ⟨⟨by decide +kernel, by decide +kernel⟩, List.mem_of_getElem? (i := 1491) (by decide +kernel), List.mem_of_getElem? (i := 2140) (by decide +kernel), List.mem_of_getElem? (i := 2141) (by decide +kernel)⟩
theorem lw_p177 : lw_okq (⟨"RowTypesModel", "work", "(II)I"⟩, 66) := ⟨⟨by decide +kernel, by decide +kernel⟩, List.mem_of_getElem? (i := 1491) (by decide +kernel), List.mem_of_getElem? (i := 2144) (by decide +kernel), List.mem_of_getElem? (i := 2145) (by decide +kernel)⟩
theorem lw_p178 : lw_okq (⟨"RowTypesModel", "newValue", "(III)I"⟩, 66) := ⟨⟨by decide +kernel, by decide +kernel⟩, List.mem_of_getElem? (i := 1491) (by decide +kernel), List.mem_of_getElem? (i := 2148) (by decide +kernel), List.mem_of_getElem? (i := 2149) (by decide +kernel)⟩
theorem lw_p179 : lw_okq (⟨"RowTypesModel", "nameValue", "(II)I"⟩, 66) := ⟨⟨by decide +kernel, by decide +kernel⟩, List.mem_of_getElem? (i := 1491) (by decide +kernel), List.mem_of_getElem? (i := 2152) (by decide +kernel), List.mem_of_getElem? (i := 2153) (by decide +kernel)⟩
theorem lw_p180 : lw_okq (⟨"RowTypesModel", "appliedValue", "(II)I"⟩, 66) := ⟨⟨by decide +kernel, by decide +kernel⟩, List.mem_of_getElem? (i := 1491) (by decide +kernel), List.mem_of_getElem? (i := 2156) (by decide +kernel), List.mem_of_getElem? (i := 2157) (by decide +kernel)⟩
theorem lw_p181 : lw_okq (⟨"RowTypesModel", "bound", "(III)I"⟩, 66) := ⟨⟨by decide +kernel, by decide +kernel⟩, List.mem_of_getElem? (i := 1491) (by decide +kernel), List.mem_of_getElem? (i := 2160) (by decide +kernel), List.mem_of_getElem? (i := 2161) (by decide +kernel)⟩
theorem lw_p182 : lw_okq (⟨"RowTypesModel", "letValue", "(II)I"⟩, 66) := ⟨⟨by decide +kernel, by decide +kernel⟩, List.mem_of_getElem? (i := 1491) (by decide +kernel), List.mem_of_getElem? (i := 2164) (by decide +kernel), List.mem_of_getElem? (i := 2165) (by decide +kernel)⟩
theorem lw_p183 : lw_okq (⟨"RowTypesModel", "addedValue", "(II)I"⟩, 66) := ⟨⟨by decide +kernel, by decide +kernel⟩, List.mem_of_getElem? (i := 1491) (by decide +kernel), List.mem_of_getElem? (i := 2168) (by decide +kernel), List.mem_of_getElem? (i := 2169) (by decide +kernel)⟩
theorem lw_p184 : lw_okq (⟨"RowTypesModel", "copyOf", "(I)I"⟩, 66) := ⟨⟨by decide +kernel, by decide +kernel⟩, List.mem_of_getElem? (i := 1491) (by decide +kernel), List.mem_of_getElem? (i := 2172) (by decide +kernel), List.mem_of_getElem? (i := 2173) (by decide +kernel)⟩
theorem lw_p185 : lw_okq (⟨"RowTypesModel", "bothValue", "(II)I"⟩, 66) := ⟨⟨by decide +kernel, by decide +kernel⟩, List.mem_of_getElem? (i := 1491) (by decide +kernel), List.mem_of_getElem? (i := 2176) (by decide +kernel), List.mem_of_getElem? (i := 2177) (by decide +kernel)⟩
theorem lw_p186 : lw_okq (⟨"RowTypesModel", "tagValue", "(II)I"⟩, 66) := ⟨⟨by decide +kernel, by decide +kernel⟩, List.mem_of_getElem? (i := 1491) (by decide +kernel), List.mem_of_getElem? (i := 2180) (by decide +kernel), List.mem_of_getElem? (i := 2181) (by decide +kernel)⟩
theorem lw_p187 : lw_okq (⟨"RowTypesModel", "caseValue", "(II)I"⟩, 66) := ⟨⟨by decide +kernel, by decide +kernel⟩, List.mem_of_getElem? (i := 1491) (by decide +kernel), List.mem_of_getElem? (i := 2184) (by decide +kernel), List.mem_of_getElem? (i := 2185) (by decide +kernel)⟩
theorem lw_p188 : lw_okq (⟨"RowTypesModel", "fieldValue", "(II)I"⟩, 66) := ⟨⟨by decide +kernel, by decide +kernel⟩, List.mem_of_getElem? (i := 1491) (by decide +kernel), List.mem_of_getElem? (i := 2188) (by decide +kernel), List.mem_of_getElem? (i := 2189) (by decide +kernel)⟩
theorem lw_p189 : lw_okq (⟨"RowTypesModel", "numberOf", "(I)I"⟩, 66) := ⟨⟨by decide +kernel, by decide +kernel⟩, List.mem_of_getElem? (i := 1491) (by decide +kernel), List.mem_of_getElem? (i := 2192) (by decide +kernel), List.mem_of_getElem? (i := 2193) (by decide +kernel)⟩
theorem lw_p190 : lw_okq (⟨"RowTypesModel", "writeValue", "(I)V"⟩, 66) := ⟨⟨by decide +kernel, by decide +kernel⟩, List.mem_of_getElem? (i := 1491) (by decide +kernel), List.mem_of_getElem? (i := 2200) (by decide +kernel), List.mem_of_getElem? (i := 2201) (by decide +kernel)⟩
theorem lw_p191 : lw_okq (⟨"RowTypesModel", "writeFields", "(I)V"⟩, 66) := ⟨⟨by decide +kernel, by decide +kernel⟩, List.mem_of_getElem? (i := 1491) (by decide +kernel), List.mem_of_getElem? (i := 2204) (by decide +kernel), List.mem_of_getElem? (i := 2205) (by decide +kernel)⟩
def lw_privs_12 : List (MethodName × Nat) := [(⟨"RowTypesModel", "worked", "(I)I"⟩, 66), (⟨"RowTypesModel", "work", "(II)I"⟩, 66), (⟨"RowTypesModel", "newValue", "(III)I"⟩, 66), (⟨"RowTypesModel", "nameValue", "(II)I"⟩, 66), (⟨"RowTypesModel", "appliedValue", "(II)I"⟩, 66), (⟨"RowTypesModel", "bound", "(III)I"⟩, 66), (⟨"RowTypesModel", "letValue", "(II)I"⟩, 66), (⟨"RowTypesModel", "addedValue", "(II)I"⟩, 66), (⟨"RowTypesModel", "copyOf", "(I)I"⟩, 66), (⟨"RowTypesModel", "bothValue", "(II)I"⟩, 66), (⟨"RowTypesModel", "tagValue", "(II)I"⟩, 66), (⟨"RowTypesModel", "caseValue", "(II)I"⟩, 66), (⟨"RowTypesModel", "fieldValue", "(II)I"⟩, 66), (⟨"RowTypesModel", "numberOf", "(I)I"⟩, 66), (⟨"RowTypesModel", "writeValue", "(I)V"⟩, 66), (⟨"RowTypesModel", "writeFields", "(I)V"⟩, 66)]
theorem lw_r12 : ∀ q ∈ lw_privs_12, lw_okq q := List.forall_mem_cons.mpr ⟨lw_p176, List.forall_mem_cons.mpr ⟨lw_p177, List.forall_mem_cons.mpr ⟨lw_p178, List.forall_mem_cons.mpr ⟨lw_p179, List.forall_mem_cons.mpr ⟨lw_p180, List.forall_mem_cons.mpr ⟨lw_p181, List.forall_mem_cons.mpr ⟨lw_p182, List.forall_mem_cons.mpr ⟨lw_p183, List.forall_mem_cons.mpr ⟨lw_p184, List.forall_mem_cons.mpr ⟨lw_p185, List.forall_mem_cons.mpr ⟨lw_p186, List.forall_mem_cons.mpr ⟨lw_p187, List.forall_mem_cons.mpr ⟨lw_p188, List.forall_mem_cons.mpr ⟨lw_p189, List.forall_mem_cons.mpr ⟨lw_p190, List.forall_mem_cons.mpr ⟨lw_p191, fun _ h => absurd h List.not_mem_nil⟩⟩⟩⟩⟩⟩⟩⟩⟩⟩⟩⟩⟩⟩⟩⟩
theorem lw_p192 : lw_okq (⟨"RowTypesModel", "kindsIn", "(III)I"⟩, 66) := ⟨⟨by decide +kernel, by decide +kernel⟩, List.mem_of_getElem? (i := 1491) (by decide +kernel), List.mem_of_getElem? (i := 2216) (by decide +kernel), List.mem_of_getElem? (i := 2217) (by decide +kernel)⟩
theorem lw_p193 : lw_okq (⟨"RowTypesModel", "labelled", "(IIII)I"⟩, 66) := ⟨⟨by decide +kernel, by decide +kernel⟩, List.mem_of_getElem? (i := 1491) (by decide +kernel), List.mem_of_getElem? (i := 2224) (by decide +kernel), List.mem_of_getElem? (i := 2225) (by decide +kernel)⟩
theorem lw_p194 : lw_okq (⟨"RowTypesModel", "deep", "(I)I"⟩, 66) := ⟨⟨by decide +kernel, by decide +kernel⟩, List.mem_of_getElem? (i := 1491) (by decide +kernel), List.mem_of_getElem? (i := 2232) (by decide +kernel), List.mem_of_getElem? (i := 2233) (by decide +kernel)⟩
theorem lw_p195 : lw_okq (⟨"RowTypesModel", "lost", "()I"⟩, 66) := ⟨⟨by decide +kernel, by decide +kernel⟩, List.mem_of_getElem? (i := 1491) (by decide +kernel), List.mem_of_getElem? (i := 2245) (by decide +kernel), List.mem_of_getElem? (i := 2246) (by decide +kernel)⟩
def lw_privs_13 : List (MethodName × Nat) := [(⟨"RowTypesModel", "kindsIn", "(III)I"⟩, 66), (⟨"RowTypesModel", "labelled", "(IIII)I"⟩, 66), (⟨"RowTypesModel", "deep", "(I)I"⟩, 66), (⟨"RowTypesModel", "lost", "()I"⟩, 66)]
theorem lw_r13 : ∀ q ∈ lw_privs_13, lw_okq q := List.forall_mem_cons.mpr ⟨lw_p192, List.forall_mem_cons.mpr ⟨lw_p193, List.forall_mem_cons.mpr ⟨lw_p194, List.forall_mem_cons.mpr ⟨lw_p195, fun _ h => absurd h List.not_mem_nil⟩⟩⟩⟩
def lw_privs : List (MethodName × Nat) := lw_privs_1 ++ (lw_privs_2 ++ (lw_privs_3 ++ (lw_privs_4 ++ (lw_privs_5 ++ (lw_privs_6 ++ (lw_privs_7 ++ (lw_privs_8 ++ (lw_privs_9 ++ (lw_privs_10 ++ (lw_privs_11 ++ (lw_privs_12 ++ (lw_privs_13))))))))))))
def lw_tbl : List Cond := k2_sels lw_privs ++ tables_1
theorem lw_privs_ok : ∀ q ∈ lw_privs, lw_okq q := by
  show ∀ q ∈ lw_privs_1 ++ (lw_privs_2 ++ (lw_privs_3 ++ (lw_privs_4 ++ (lw_privs_5 ++ (lw_privs_6 ++ (lw_privs_7 ++ (lw_privs_8 ++ (lw_privs_9 ++ (lw_privs_10 ++ (lw_privs_11 ++ (lw_privs_12 ++ (lw_privs_13)))))))))))), lw_okq q
  exact List.forall_mem_append.mpr ⟨lw_r1, List.forall_mem_append.mpr ⟨lw_r2, List.forall_mem_append.mpr ⟨lw_r3, List.forall_mem_append.mpr ⟨lw_r4, List.forall_mem_append.mpr ⟨lw_r5, List.forall_mem_append.mpr ⟨lw_r6, List.forall_mem_append.mpr ⟨lw_r7, List.forall_mem_append.mpr ⟨lw_r8, List.forall_mem_append.mpr ⟨lw_r9, List.forall_mem_append.mpr ⟨lw_r10, List.forall_mem_append.mpr ⟨lw_r11, List.forall_mem_append.mpr ⟨lw_r12, lw_r13⟩⟩⟩⟩⟩⟩⟩⟩⟩⟩⟩⟩
end
section
/-! ===== BEGIN printed: names, fields, word lists, decode rows ===== -/
def RX0 : String := "RowTypes$Expression"
def TX0 : u_T := fun k => match k with
  | 0 => ("RowTypes$Expression", "signs", "[I", true)
  | 1 => ("RowTypes$Expression", "kinds", "[I", true)
  | 2 => ("RowTypes$Expression", "links", "[I", true)
  | 3 => ("RowTypes$Expression", "length", "I", false)
  | _ => ("RowTypes$Expression", "kept", "LRowTypes$Kept;", true)
def tyX0 : Nat → FieldType := fun k => match k with
  | 0 => .array .int
  | 1 => .array .int
  | 2 => .array .int
  | 3 => .int
  | _ => .object "RowTypes$Kept"
abbrev wsX00 : List Cond := u_ws RX0 TX0 5
theorem nmX0 : ∀ a, a < 5 → ∀ b, b < 5 → a ≠ b → (TX0 a).2.1 ≠ (TX0 b).2.1 := by decide +kernel
theorem tyX0_ok : ∀ k, k < 5 → parseFieldDescriptor (TX0 k).2.2.1 = some (tyX0 k) := by decide +kernel
abbrev cX0_init : ByteArray := prog_2_method_1_code
def yX0_init : MethodName := ⟨RX0, "<init>", "()V"⟩
abbrev cX0_take : ByteArray := prog_2_method_2_code
def yX0_take : MethodName := ⟨RX0, "take", "([II)V"⟩
abbrev cX0_signAt : ByteArray := prog_2_method_3_code
def yX0_signAt : MethodName := ⟨RX0, "signAt", "(I)I"⟩
def RX1 : String := "RowTypes$Finder"
def TX1 : u_T := fun k => match k with
  | 0 => ("RowTypes$Finder", "nodes", "LRowTypes$Nodes;", true)
  | 1 => ("RowTypes$Finder", "unifier", "LRowTypes$Unifier;", true)
  | 2 => ("RowTypes$Finder", "texts", "[LRowTypes$Expression;", true)
  | 3 => ("RowTypes$Finder", "definitions", "I", false)
  | 4 => ("RowTypes$Finder", "expression", "LRowTypes$Expression;", false)
  | 5 => ("RowTypes$Finder", "found", "[I", true)
  | 6 => ("RowTypes$Finder", "boundNames", "[I", true)
  | 7 => ("RowTypes$Finder", "boundTypes", "[I", true)
  | 8 => ("RowTypes$Finder", "boundSchemes", "[LRowTypes$Kept;", true)
  | 9 => ("RowTypes$Finder", "bound", "I", false)
  | 10 => ("RowTypes$Finder", "schemes", "[LRowTypes$Kept;", true)
  | 11 => ("RowTypes$Finder", "schemesUsed", "I", false)
  | 12 => ("RowTypes$Finder", "flat", "LRowTypes$Kept;", true)
  | 13 => ("RowTypes$Finder", "fault", "I", false)
  | 14 => ("RowTypes$Finder", "faultPlace", "I", false)
  | _ => ("RowTypes$Finder", "faultLabel", "I", false)
def tyX1 : Nat → FieldType := fun k => match k with
  | 0 => .object "RowTypes$Nodes"
  | 1 => .object "RowTypes$Unifier"
  | 2 => .array (.object "RowTypes$Expression")
  | 3 => .int
  | 4 => .object "RowTypes$Expression"
  | 5 => .array .int
  | 6 => .array .int
  | 7 => .array .int
  | 8 => .array (.object "RowTypes$Kept")
  | 9 => .int
  | 10 => .array (.object "RowTypes$Kept")
  | 11 => .int
  | 12 => .object "RowTypes$Kept"
  | 13 => .int
  | 14 => .int
  | _ => .int
abbrev wsX10 : List Cond := u_ws RX1 TX1 16
theorem nmX1 : ∀ a, a < 16 → ∀ b, b < 16 → a ≠ b → (TX1 a).2.1 ≠ (TX1 b).2.1 := by decide +kernel
theorem tyX1_ok : ∀ k, k < 16 → parseFieldDescriptor (TX1 k).2.2.1 = some (tyX1 k) := by decide +kernel
abbrev cX1_init : ByteArray := prog_3_method_1_code
def yX1_init : MethodName := ⟨RX1, "<init>", "(LRowTypes$Nodes;LRowTypes$Unifier;[LRowTypes$Expression;)V"⟩
def RX2 : String := "RowTypes$Ints"
def TX2 : u_T := fun k => match k with
  | 0 => ("RowTypes$Ints", "items", "[I", false)
  | _ => ("RowTypes$Ints", "used", "I", false)
def tyX2 : Nat → FieldType := fun k => match k with
  | 0 => .array .int
  | _ => .int
abbrev wsX20 : List Cond := u_ws RX2 TX2 2
theorem nmX2 : ∀ a, a < 2 → ∀ b, b < 2 → a ≠ b → (TX2 a).2.1 ≠ (TX2 b).2.1 := by decide +kernel
theorem tyX2_ok : ∀ k, k < 2 → parseFieldDescriptor (TX2 k).2.2.1 = some (tyX2 k) := by decide +kernel
abbrev cX2_init : ByteArray := prog_4_method_1_code
def yX2_init : MethodName := ⟨RX2, "<init>", "()V"⟩
abbrev cX2_clear : ByteArray := prog_4_method_2_code
def yX2_clear : MethodName := ⟨RX2, "clear", "()V"⟩
abbrev cX2_length : ByteArray := prog_4_method_3_code
def yX2_length : MethodName := ⟨RX2, "length", "()I"⟩
abbrev cX2_push : ByteArray := prog_4_method_4_code
def yX2_push : MethodName := ⟨RX2, "push", "(I)V"⟩
abbrev cX2_pop : ByteArray := prog_4_method_5_code
def yX2_pop : MethodName := ⟨RX2, "pop", "()I"⟩
def RX3 : String := "RowTypes$Kept"
def TX3 : u_T := fun k => match k with
  | 0 => ("RowTypes$Kept", "parts", "[I", true)
  | 1 => ("RowTypes$Kept", "length", "I", false)
  | 2 => ("RowTypes$Kept", "lacks", "[I", true)
  | 3 => ("RowTypes$Kept", "given", "[I", true)
  | _ => ("RowTypes$Kept", "variables", "I", false)
def tyX3 : Nat → FieldType := fun k => match k with
  | 0 => .array .int
  | 1 => .int
  | 2 => .array .int
  | 3 => .array .int
  | _ => .int
abbrev wsX30 : List Cond := u_ws RX3 TX3 5
theorem nmX3 : ∀ a, a < 5 → ∀ b, b < 5 → a ≠ b → (TX3 a).2.1 ≠ (TX3 b).2.1 := by decide +kernel
theorem tyX3_ok : ∀ k, k < 5 → parseFieldDescriptor (TX3 k).2.2.1 = some (tyX3 k) := by decide +kernel
abbrev cX3_init : ByteArray := prog_5_method_1_code
def yX3_init : MethodName := ⟨RX3, "<init>", "()V"⟩
def RX4 : String := "RowTypes$Machine"
def TX4 : u_T := fun k => match k with
  | 0 => ("RowTypes$Machine", "texts", "[LRowTypes$Expression;", true)
  | 1 => ("RowTypes$Machine", "definitions", "I", false)
  | 2 => ("RowTypes$Machine", "sorts", "[I", true)
  | 3 => ("RowTypes$Machine", "numbers", "[I", true)
  | 4 => ("RowTypes$Machine", "owners", "[I", true)
  | 5 => ("RowTypes$Machine", "inners", "[I", true)
  | 6 => ("RowTypes$Machine", "fields", "[I", true)
  | 7 => ("RowTypes$Machine", "lengths", "[J", true)
  | 8 => ("RowTypes$Machine", "values", "I", false)
  | 9 => ("RowTypes$Machine", "names", "[I", true)
  | 10 => ("RowTypes$Machine", "namedValues", "[I", true)
  | 11 => ("RowTypes$Machine", "namesBehind", "[I", true)
  | 12 => ("RowTypes$Machine", "bindings", "I", false)
  | 13 => ("RowTypes$Machine", "due", "LRowTypes$Ints;", true)
  | 14 => ("RowTypes$Machine", "done", "LRowTypes$Ints;", true)
  | 15 => ("RowTypes$Machine", "steps", "I", false)
  | _ => ("RowTypes$Machine", "result", "I", false)
def tyX4 : Nat → FieldType := fun k => match k with
  | 0 => .array (.object "RowTypes$Expression")
  | 1 => .int
  | 2 => .array .int
  | 3 => .array .int
  | 4 => .array .int
  | 5 => .array .int
  | 6 => .array .int
  | 7 => .array .long
  | 8 => .int
  | 9 => .array .int
  | 10 => .array .int
  | 11 => .array .int
  | 12 => .int
  | 13 => .object "RowTypes$Ints"
  | 14 => .object "RowTypes$Ints"
  | 15 => .int
  | _ => .int
abbrev wsX40 : List Cond := u_ws RX4 TX4 17
theorem nmX4 : ∀ a, a < 17 → ∀ b, b < 17 → a ≠ b → (TX4 a).2.1 ≠ (TX4 b).2.1 := by decide +kernel
theorem tyX4_ok : ∀ k, k < 17 → parseFieldDescriptor (TX4 k).2.2.1 = some (tyX4 k) := by decide +kernel
abbrev cX4_init : ByteArray := prog_6_method_1_code
def yX4_init : MethodName := ⟨RX4, "<init>", "([LRowTypes$Expression;)V"⟩
def RX5 : String := "RowTypes$Nodes"
def TX5 : u_T := fun k => match k with
  | 0 => ("RowTypes$Nodes", "kinds", "[I", false)
  | 1 => ("RowTypes$Nodes", "firsts", "[I", false)
  | 2 => ("RowTypes$Nodes", "seconds", "[I", false)
  | 3 => ("RowTypes$Nodes", "bits", "[I", false)
  | 4 => ("RowTypes$Nodes", "links", "[I", false)
  | 5 => ("RowTypes$Nodes", "marks", "[I", false)
  | 6 => ("RowTypes$Nodes", "used", "I", false)
  | 7 => ("RowTypes$Nodes", "mark", "I", false)
  | 8 => ("RowTypes$Nodes", "work", "LRowTypes$Ints;", true)
  | 9 => ("RowTypes$Nodes", "types", "[I", true)
  | 10 => ("RowTypes$Nodes", "otherTypes", "[I", true)
  | _ => ("RowTypes$Nodes", "variables", "[I", true)
def tyX5 : Nat → FieldType := fun k => match k with
  | 0 => .array .int
  | 1 => .array .int
  | 2 => .array .int
  | 3 => .array .int
  | 4 => .array .int
  | 5 => .array .int
  | 6 => .int
  | 7 => .int
  | 8 => .object "RowTypes$Ints"
  | 9 => .array .int
  | 10 => .array .int
  | _ => .array .int
abbrev wsX50 : List Cond := u_ws RX5 TX5 12
theorem nmX5 : ∀ a, a < 12 → ∀ b, b < 12 → a ≠ b → (TX5 a).2.1 ≠ (TX5 b).2.1 := by decide +kernel
theorem tyX5_ok : ∀ k, k < 12 → parseFieldDescriptor (TX5 k).2.2.1 = some (tyX5 k) := by decide +kernel
abbrev cX5_init : ByteArray := prog_7_method_1_code
def yX5_init : MethodName := ⟨RX5, "<init>", "()V"⟩
def RX6 : String := "RowTypes$Reader"
def TX6 : u_T := fun k => match k with
  | 0 => ("RowTypes$Reader", "due", "LRowTypes$Ints;", true)
  | 1 => ("RowTypes$Reader", "lastBranch", "[I", true)
  | 2 => ("RowTypes$Reader", "branchLabels", "[I", true)
  | 3 => ("RowTypes$Reader", "into", "LRowTypes$Expression;", false)
  | _ => ("RowTypes$Reader", "at", "I", false)
def tyX6 : Nat → FieldType := fun k => match k with
  | 0 => .object "RowTypes$Ints"
  | 1 => .array .int
  | 2 => .array .int
  | 3 => .object "RowTypes$Expression"
  | _ => .int
abbrev wsX60 : List Cond := u_ws RX6 TX6 5
theorem nmX6 : ∀ a, a < 5 → ∀ b, b < 5 → a ≠ b → (TX6 a).2.1 ≠ (TX6 b).2.1 := by decide +kernel
theorem tyX6_ok : ∀ k, k < 5 → parseFieldDescriptor (TX6 k).2.2.1 = some (tyX6 k) := by decide +kernel
abbrev cX6_init : ByteArray := prog_8_method_1_code
def yX6_init : MethodName := ⟨RX6, "<init>", "()V"⟩
abbrev cX6_read : ByteArray := prog_8_method_2_code
def yX6_read : MethodName := ⟨RX6, "read", "([IILRowTypes$Expression;)I"⟩
abbrev cX6_accepts : ByteArray := prog_8_method_3_code
def yX6_accepts : MethodName := ⟨RX6, "accepts", "(II)Z"⟩
abbrev cX6_acceptsExpression : ByteArray := prog_8_method_5_code
def yX6_acceptsExpression : MethodName := ⟨RX6, "acceptsExpression", "()Z"⟩
abbrev cX6_kindOf : ByteArray := prog_8_method_9_code
def yX6_kindOf : MethodName := ⟨RX6, "kindOf", "(II)I"⟩
def RX7 : String := "RowTypes$Scribe"
def TX7 : u_T := fun k => match k with
  | 0 => ("RowTypes$Scribe", "due", "LRowTypes$Ints;", true)
  | 1 => ("RowTypes$Scribe", "signs", "LRowTypes$Ints;", true)
  | 2 => ("RowTypes$Scribe", "part", "I", false)
  | _ => ("RowTypes$Scribe", "signOfPart", "J", false)
def tyX7 : Nat → FieldType := fun k => match k with
  | 0 => .object "RowTypes$Ints"
  | 1 => .object "RowTypes$Ints"
  | 2 => .int
  | _ => .long
abbrev wsX70 : List Cond := u_ws RX7 TX7 4
theorem nmX7 : ∀ a, a < 4 → ∀ b, b < 4 → a ≠ b → (TX7 a).2.1 ≠ (TX7 b).2.1 := by decide +kernel
theorem tyX7_ok : ∀ k, k < 4 → parseFieldDescriptor (TX7 k).2.2.1 = some (tyX7 k) := by decide +kernel
abbrev cX7_init : ByteArray := prog_9_method_1_code
def yX7_init : MethodName := ⟨RX7, "<init>", "()V"⟩
def RX8 : String := "RowTypes$Survey"
def TX8 : u_T := fun k => match k with
  | 0 => ("RowTypes$Survey", "due", "LRowTypes$Ints;", true)
  | 1 => ("RowTypes$Survey", "freeNames", "I", false)
  | _ => ("RowTypes$Survey", "deepest", "I", false)
def tyX8 : Nat → FieldType := fun k => match k with
  | 0 => .object "RowTypes$Ints"
  | 1 => .int
  | _ => .int
abbrev wsX80 : List Cond := u_ws RX8 TX8 3
theorem nmX8 : ∀ a, a < 3 → ∀ b, b < 3 → a ≠ b → (TX8 a).2.1 ≠ (TX8 b).2.1 := by decide +kernel
theorem tyX8_ok : ∀ k, k < 3 → parseFieldDescriptor (TX8 k).2.2.1 = some (tyX8 k) := by decide +kernel
abbrev cX8_init : ByteArray := prog_10_method_1_code
def yX8_init : MethodName := ⟨RX8, "<init>", "()V"⟩
def RX9 : String := "RowTypes$TypeReader"
def TX9 : u_T := fun k => match k with
  | 0 => ("RowTypes$TypeReader", "nodes", "LRowTypes$Nodes;", true)
  | 1 => ("RowTypes$TypeReader", "due", "LRowTypes$Ints;", true)
  | 2 => ("RowTypes$TypeReader", "built", "LRowTypes$Ints;", true)
  | 3 => ("RowTypes$TypeReader", "signs", "[I", false)
  | 4 => ("RowTypes$TypeReader", "length", "I", false)
  | 5 => ("RowTypes$TypeReader", "at", "I", false)
  | _ => ("RowTypes$TypeReader", "result", "I", false)
def tyX9 : Nat → FieldType := fun k => match k with
  | 0 => .object "RowTypes$Nodes"
  | 1 => .object "RowTypes$Ints"
  | 2 => .object "RowTypes$Ints"
  | 3 => .array .int
  | 4 => .int
  | 5 => .int
  | _ => .int
abbrev wsX90 : List Cond := u_ws RX9 TX9 7
theorem nmX9 : ∀ a, a < 7 → ∀ b, b < 7 → a ≠ b → (TX9 a).2.1 ≠ (TX9 b).2.1 := by decide +kernel
theorem tyX9_ok : ∀ k, k < 7 → parseFieldDescriptor (TX9 k).2.2.1 = some (tyX9 k) := by decide +kernel
abbrev cX9_init : ByteArray := prog_11_method_1_code
def yX9_init : MethodName := ⟨RX9, "<init>", "(LRowTypes$Nodes;)V"⟩
def RX10 : String := "RowTypes$Unifier"
def TX10 : u_T := fun k => match k with
  | 0 => ("RowTypes$Unifier", "nodes", "LRowTypes$Nodes;", true)
  | 1 => ("RowTypes$Unifier", "due", "LRowTypes$Ints;", true)
  | 2 => ("RowTypes$Unifier", "fault", "I", false)
  | 3 => ("RowTypes$Unifier", "label", "I", false)
  | _ => ("RowTypes$Unifier", "becameSame", "Z", false)
def tyX10 : Nat → FieldType := fun k => match k with
  | 0 => .object "RowTypes$Nodes"
  | 1 => .object "RowTypes$Ints"
  | 2 => .int
  | 3 => .int
  | _ => .boolean
abbrev wsX100 : List Cond := u_ws RX10 TX10 5
theorem nmX10 : ∀ a, a < 5 → ∀ b, b < 5 → a ≠ b → (TX10 a).2.1 ≠ (TX10 b).2.1 := by decide +kernel
theorem tyX10_ok : ∀ k, k < 5 → parseFieldDescriptor (TX10 k).2.2.1 = some (tyX10 k) := by decide +kernel
abbrev cX10_init : ByteArray := prog_12_method_1_code
def yX10_init : MethodName := ⟨RX10, "<init>", "(LRowTypes$Nodes;)V"⟩
def RX11 : String := "RowTypes"
def TX11 : u_T := fun k => match k with
  | 0 => ("RowTypes", "text", "[I", true)
  | 1 => ("RowTypes", "textLength", "I", false)
  | 2 => ("RowTypes", "texts", "[LRowTypes$Expression;", true)
  | 3 => ("RowTypes", "definitions", "I", false)
  | 4 => ("RowTypes", "hasIt", "Z", false)
  | 5 => ("RowTypes", "answer", "LRowTypes$Kept;", false)
  | 6 => ("RowTypes", "made", "LRowTypes$Kept;", false)
  | 7 => ("RowTypes", "hasAnswer", "Z", false)
  | 8 => ("RowTypes", "told", "[I", true)
  | 9 => ("RowTypes", "toldLength", "I", false)
  | 10 => ("RowTypes", "workedOut", "I", false)
  | 11 => ("RowTypes", "reader", "LRowTypes$Reader;", true)
  | 12 => ("RowTypes", "nodes", "LRowTypes$Nodes;", true)
  | 13 => ("RowTypes", "typeReader", "LRowTypes$TypeReader;", true)
  | 14 => ("RowTypes", "unifier", "LRowTypes$Unifier;", true)
  | 15 => ("RowTypes", "finder", "LRowTypes$Finder;", true)
  | 16 => ("RowTypes", "machine", "LRowTypes$Machine;", true)
  | 17 => ("RowTypes", "survey", "LRowTypes$Survey;", true)
  | _ => ("RowTypes", "scribe", "LRowTypes$Scribe;", true)
def tyX11 : Nat → FieldType := fun k => match k with
  | 0 => .array .int
  | 1 => .int
  | 2 => .array (.object "RowTypes$Expression")
  | 3 => .int
  | 4 => .boolean
  | 5 => .object "RowTypes$Kept"
  | 6 => .object "RowTypes$Kept"
  | 7 => .boolean
  | 8 => .array .int
  | 9 => .int
  | 10 => .int
  | 11 => .object "RowTypes$Reader"
  | 12 => .object "RowTypes$Nodes"
  | 13 => .object "RowTypes$TypeReader"
  | 14 => .object "RowTypes$Unifier"
  | 15 => .object "RowTypes$Finder"
  | 16 => .object "RowTypes$Machine"
  | 17 => .object "RowTypes$Survey"
  | _ => .object "RowTypes$Scribe"
abbrev wsX110 : List Cond := u_ws RX11 TX11 19
theorem nmX11 : ∀ a, a < 19 → ∀ b, b < 19 → a ≠ b → (TX11 a).2.1 ≠ (TX11 b).2.1 := by decide +kernel
theorem tyX11_ok : ∀ k, k < 19 → parseFieldDescriptor (TX11 k).2.2.1 = some (tyX11 k) := by decide +kernel
abbrev cX11_init : ByteArray := prog_1_method_1_code
def yX11_init : MethodName := ⟨RX11, "<init>", "()V"⟩
abbrev cX11_sign : ByteArray := prog_1_method_2_code
def yX11_sign : MethodName := ⟨RX11, "sign", "(I)I"⟩
abbrev cX11_end : ByteArray := prog_1_method_3_code
def yX11_end : MethodName := ⟨RX11, "end", "(I)Z"⟩
abbrev cX11_infers : ByteArray := prog_1_method_4_code
def yX11_infers : MethodName := ⟨RX11, "infers", "()I"⟩
abbrev cX11_defines : ByteArray := prog_1_method_5_code
def yX11_defines : MethodName := ⟨RX11, "defines", "()I"⟩
abbrev cX11_forgets : ByteArray := prog_1_method_6_code
def yX11_forgets : MethodName := ⟨RX11, "forgets", "(I)I"⟩
abbrev cX11_size : ByteArray := prog_1_method_7_code
def yX11_size : MethodName := ⟨RX11, "size", "(I)I"⟩
abbrev cX11_type : ByteArray := prog_1_method_8_code
def yX11_type : MethodName := ⟨RX11, "type", "(II)I"⟩
abbrev cX11_lacks : ByteArray := prog_1_method_9_code
def yX11_lacks : MethodName := ⟨RX11, "lacks", "(II)I"⟩
abbrev cX11_sort : ByteArray := prog_1_method_10_code
def yX11_sort : MethodName := ⟨RX11, "sort", "(I)I"⟩
abbrev cX11_needs : ByteArray := prog_1_method_11_code
def yX11_needs : MethodName := ⟨RX11, "needs", "(I)I"⟩
abbrev cX11_field : ByteArray := prog_1_method_12_code
def yX11_field : MethodName := ⟨RX11, "field", "(II)I"⟩
abbrev cX11_side : ByteArray := prog_1_method_13_code
def yX11_side : MethodName := ⟨RX11, "side", "(II)I"⟩
abbrev cX11_closes : ByteArray := prog_1_method_14_code
def yX11_closes : MethodName := ⟨RX11, "closes", "(I)I"⟩
abbrev cX11_fits : ByteArray := prog_1_method_15_code
def yX11_fits : MethodName := ⟨RX11, "fits", "(I)I"⟩
abbrev cX11_above : ByteArray := prog_1_method_16_code
def yX11_above : MethodName := ⟨RX11, "above", "(II)I"⟩
abbrev cX11_meets : ByteArray := prog_1_method_17_code
def yX11_meets : MethodName := ⟨RX11, "meets", "(II)I"⟩
abbrev cX11_applies : ByteArray := prog_1_method_18_code
def yX11_applies : MethodName := ⟨RX11, "applies", "(II)I"⟩
abbrev cX11_part : ByteArray := prog_1_method_19_code
def yX11_part : MethodName := ⟨RX11, "part", "(II)I"⟩
abbrev cX11_steps : ByteArray := prog_1_method_20_code
def yX11_steps : MethodName := ⟨RX11, "steps", "(I)I"⟩
abbrev cX11_value : ByteArray := prog_1_method_21_code
def yX11_value : MethodName := ⟨RX11, "value", "(II)I"⟩
abbrev cX11_taken : ByteArray := prog_1_method_22_code
def yX11_taken : MethodName := ⟨RX11, "taken", "(II)I"⟩
abbrev cX11_parts : ByteArray := prog_1_method_23_code
def yX11_parts : MethodName := ⟨RX11, "parts", "(I)I"⟩
abbrev cX11_often : ByteArray := prog_1_method_24_code
def yX11_often : MethodName := ⟨RX11, "often", "(II)I"⟩
abbrev cX11_free : ByteArray := prog_1_method_25_code
def yX11_free : MethodName := ⟨RX11, "free", "(I)I"⟩
abbrev cX11_count : ByteArray := prog_1_method_26_code
def yX11_count : MethodName := ⟨RX11, "count", "(I)I"⟩
abbrev cX11_row : ByteArray := prog_1_method_27_code
def yX11_row : MethodName := ⟨RX11, "row", "(I)J"⟩
abbrev cX11_textOf : ByteArray := prog_1_method_28_code
def yX11_textOf : MethodName := ⟨RX11, "textOf", "(I)I"⟩
abbrev cX11_keptOf : ByteArray := prog_1_method_29_code
def yX11_keptOf : MethodName := ⟨RX11, "keptOf", "(I)LRowTypes$Kept;"⟩
abbrev cX11_readText : ByteArray := prog_1_method_30_code
def yX11_readText : MethodName := ⟨RX11, "readText", "()I"⟩
abbrev cX11_nameBit : ByteArray := prog_1_method_43_code
def yX11_nameBit : MethodName := ⟨RX11, "nameBit", "(I)I"⟩
def RX12 : String := "RowTypesModel"
def TX12 : u_T := fun k => match k with
  | 0 => ("RowTypesModel", "text", "[B", true)
  | 1 => ("RowTypesModel", "typed", "I", false)
  | 2 => ("RowTypesModel", "row", "[J", true)
  | 3 => ("RowTypesModel", "rowMany", "I", false)
  | 4 => ("RowTypesModel", "thrown", "I", false)
  | 5 => ("RowTypesModel", "kind", "[I", true)
  | 6 => ("RowTypesModel", "place", "[I", true)
  | 7 => ("RowTypesModel", "label", "[I", true)
  | 8 => ("RowTypesModel", "label2", "[I", true)
  | 9 => ("RowTypesModel", "name", "[I", true)
  | 10 => ("RowTypesModel", "one", "[I", true)
  | 11 => ("RowTypesModel", "two", "[I", true)
  | 12 => ("RowTypesModel", "next", "[I", true)
  | 13 => ("RowTypesModel", "nodeMany", "[I", true)
  | 14 => ("RowTypesModel", "rootOf", "[I", true)
  | 15 => ("RowTypesModel", "definedMany", "I", false)
  | 16 => ("RowTypesModel", "hasIt", "Z", false)
  | 17 => ("RowTypesModel", "length", "I", false)
  | 18 => ("RowTypesModel", "at", "I", false)
  | 19 => ("RowTypesModel", "wrong", "I", false)
  | 20 => ("RowTypesModel", "sortOf", "[I", true)
  | 21 => ("RowTypesModel", "left", "[I", true)
  | 22 => ("RowTypesModel", "right", "[I", true)
  | 23 => ("RowTypesModel", "typeMany", "I", false)
  | 24 => ("RowTypesModel", "fields", "[I", true)
  | 25 => ("RowTypesModel", "endOf", "[I", true)
  | 26 => ("RowTypesModel", "rows", "I", false)
  | 27 => ("RowTypesModel", "lacking", "[I", true)
  | 28 => ("RowTypesModel", "leads", "[I", true)
  | 29 => ("RowTypesModel", "ends", "I", false)
  | 30 => ("RowTypesModel", "bad", "I", false)
  | 31 => ("RowTypesModel", "badPlace", "I", false)
  | 32 => ("RowTypesModel", "badLabel", "I", false)
  | 33 => ("RowTypesModel", "heldType", "[I", true)
  | 34 => ("RowTypesModel", "heldEnd", "[I", true)
  | 35 => ("RowTypesModel", "freshType", "[I", true)
  | 36 => ("RowTypesModel", "freshEnd", "[I", true)
  | 37 => ("RowTypesModel", "aroundName", "[I", true)
  | 38 => ("RowTypesModel", "aroundType", "[I", true)
  | 39 => ("RowTypesModel", "aroundHeld", "[I", true)
  | 40 => ("RowTypesModel", "around", "I", false)
  | 41 => ("RowTypesModel", "typeOf", "[I", true)
  | 42 => ("RowTypesModel", "walk", "[I", true)
  | 43 => ("RowTypesModel", "lackOf", "[I", true)
  | 44 => ("RowTypesModel", "variables", "[I", true)
  | 45 => ("RowTypesModel", "great", "[I", true)
  | 46 => ("RowTypesModel", "hasAnswer", "Z", false)
  | 47 => ("RowTypesModel", "numberType", "[I", true)
  | 48 => ("RowTypesModel", "numberEnd", "[I", true)
  | 49 => ("RowTypesModel", "written", "I", false)
  | 50 => ("RowTypesModel", "loaded", "[I", true)
  | 51 => ("RowTypesModel", "cursor", "I", false)
  | 52 => ("RowTypesModel", "out", "[I", true)
  | 53 => ("RowTypesModel", "outMany", "I", false)
  | 54 => ("RowTypesModel", "standsType", "[I", true)
  | 55 => ("RowTypesModel", "standsRow", "[I", true)
  | 56 => ("RowTypesModel", "valueSort", "[I", true)
  | 57 => ("RowTypesModel", "valueNumber", "[I", true)
  | 58 => ("RowTypesModel", "valueHas", "[I", true)
  | 59 => ("RowTypesModel", "valueFields", "[I", true)
  | 60 => ("RowTypesModel", "valueMany", "I", false)
  | 61 => ("RowTypesModel", "boundName", "[I", true)
  | 62 => ("RowTypesModel", "boundValue", "[I", true)
  | 63 => ("RowTypesModel", "boundNext", "[I", true)
  | 64 => ("RowTypesModel", "boundMany", "I", false)
  | _ => ("RowTypesModel", "done", "I", false)
def tyX12 : Nat → FieldType := fun k => match k with
  | 0 => .array .byte
  | 1 => .int
  | 2 => .array .long
  | 3 => .int
  | 4 => .int
  | 5 => .array .int
  | 6 => .array .int
  | 7 => .array .int
  | 8 => .array .int
  | 9 => .array .int
  | 10 => .array .int
  | 11 => .array .int
  | 12 => .array .int
  | 13 => .array .int
  | 14 => .array .int
  | 15 => .int
  | 16 => .boolean
  | 17 => .int
  | 18 => .int
  | 19 => .int
  | 20 => .array .int
  | 21 => .array .int
  | 22 => .array .int
  | 23 => .int
  | 24 => .array .int
  | 25 => .array .int
  | 26 => .int
  | 27 => .array .int
  | 28 => .array .int
  | 29 => .int
  | 30 => .int
  | 31 => .int
  | 32 => .int
  | 33 => .array .int
  | 34 => .array .int
  | 35 => .array .int
  | 36 => .array .int
  | 37 => .array .int
  | 38 => .array .int
  | 39 => .array .int
  | 40 => .int
  | 41 => .array .int
  | 42 => .array .int
  | 43 => .array .int
  | 44 => .array .int
  | 45 => .array .int
  | 46 => .boolean
  | 47 => .array .int
  | 48 => .array .int
  | 49 => .int
  | 50 => .array .int
  | 51 => .int
  | 52 => .array .int
  | 53 => .int
  | 54 => .array .int
  | 55 => .array .int
  | 56 => .array .int
  | 57 => .array .int
  | 58 => .array .int
  | 59 => .array .int
  | 60 => .int
  | 61 => .array .int
  | 62 => .array .int
  | 63 => .array .int
  | 64 => .int
  | _ => .int
abbrev wsX120 : List Cond := u_ws RX12 TX12 66
theorem nmX12 : ∀ a, a < 66 → ∀ b, b < 66 → a ≠ b → (TX12 a).2.1 ≠ (TX12 b).2.1 := by decide +kernel
theorem tyX12_ok : ∀ k, k < 66 → parseFieldDescriptor (TX12 k).2.2.1 = some (tyX12 k) := by decide +kernel
abbrev cX12_init : ByteArray := prog_14_method_1_code
def yX12_init : MethodName := ⟨RX12, "<init>", "()V"⟩
abbrev cX12_thrown : ByteArray := prog_14_method_2_code
def yX12_thrown : MethodName := ⟨RX12, "thrown", "()I"⟩
abbrev cX12_in : ByteArray := prog_14_method_3_code
def yX12_in : MethodName := ⟨RX12, "in", "(JJJ)Z"⟩
abbrev cX12_lost : ByteArray := prog_14_method_4_code
def yX12_lost : MethodName := ⟨RX12, "lost", "()I"⟩
abbrev cX12_sign : ByteArray := prog_14_method_6_code
def yX12_sign : MethodName := ⟨RX12, "sign", "(I)I"⟩
abbrev cX12_end : ByteArray := prog_14_method_7_code
def yX12_end : MethodName := ⟨RX12, "end", "(I)Z"⟩
abbrev cX12_here : ByteArray := prog_14_method_8_code
def yX12_here : MethodName := ⟨RX12, "here", "()I"⟩
abbrev cX12_fault : ByteArray := prog_14_method_9_code
def yX12_fault : MethodName := ⟨RX12, "fault", "()V"⟩
abbrev cX12_begin : ByteArray := prog_14_method_10_code
def yX12_begin : MethodName := ⟨RX12, "begin", "()V"⟩
abbrev cX12_readOne : ByteArray := prog_14_method_15_code
def yX12_readOne : MethodName := ⟨RX12, "readOne", "()I"⟩
abbrev cX12_readAside : ByteArray := prog_14_method_25_code
def yX12_readAside : MethodName := ⟨RX12, "readAside", "()I"⟩
abbrev cX12_infers : ByteArray := prog_14_method_75_code
def yX12_infers : MethodName := ⟨RX12, "infers", "()I"⟩
abbrev cX12_defines : ByteArray := prog_14_method_76_code
def yX12_defines : MethodName := ⟨RX12, "defines", "()I"⟩
abbrev cX12_forgets : ByteArray := prog_14_method_78_code
def yX12_forgets : MethodName := ⟨RX12, "forgets", "(I)I"⟩
abbrev cX12_slotOf : ByteArray := prog_14_method_79_code
def yX12_slotOf : MethodName := ⟨RX12, "slotOf", "(I)I"⟩
abbrev cX12_size : ByteArray := prog_14_method_81_code
def yX12_size : MethodName := ⟨RX12, "size", "(I)I"⟩
abbrev cX12_type : ByteArray := prog_14_method_88_code
def yX12_type : MethodName := ⟨RX12, "type", "(II)I"⟩
abbrev cX12_lacks : ByteArray := prog_14_method_89_code
def yX12_lacks : MethodName := ⟨RX12, "lacks", "(II)I"⟩
abbrev cX12_sort : ByteArray := prog_14_method_92_code
def yX12_sort : MethodName := ⟨RX12, "sort", "(I)I"⟩
abbrev cX12_needs : ByteArray := prog_14_method_93_code
def yX12_needs : MethodName := ⟨RX12, "needs", "(I)I"⟩
abbrev cX12_field : ByteArray := prog_14_method_94_code
def yX12_field : MethodName := ⟨RX12, "field", "(II)I"⟩
abbrev cX12_side : ByteArray := prog_14_method_95_code
def yX12_side : MethodName := ⟨RX12, "side", "(II)I"⟩
abbrev cX12_closes : ByteArray := prog_14_method_96_code
def yX12_closes : MethodName := ⟨RX12, "closes", "(I)I"⟩
abbrev cX12_fits : ByteArray := prog_14_method_99_code
def yX12_fits : MethodName := ⟨RX12, "fits", "(I)I"⟩
abbrev cX12_above : ByteArray := prog_14_method_105_code
def yX12_above : MethodName := ⟨RX12, "above", "(II)I"⟩
abbrev cX12_meets : ByteArray := prog_14_method_107_code
def yX12_meets : MethodName := ⟨RX12, "meets", "(II)I"⟩
abbrev cX12_applies : ByteArray := prog_14_method_108_code
def yX12_applies : MethodName := ⟨RX12, "applies", "(II)I"⟩
abbrev cX12_textSlot : ByteArray := prog_14_method_109_code
def yX12_textSlot : MethodName := ⟨RX12, "textSlot", "(I)I"⟩
abbrev cX12_part : ByteArray := prog_14_method_110_code
def yX12_part : MethodName := ⟨RX12, "part", "(II)I"⟩
abbrev cX12_steps : ByteArray := prog_14_method_125_code
def yX12_steps : MethodName := ⟨RX12, "steps", "(I)I"⟩
abbrev cX12_value : ByteArray := prog_14_method_128_code
def yX12_value : MethodName := ⟨RX12, "value", "(II)I"⟩
abbrev cX12_taken : ByteArray := prog_14_method_129_code
def yX12_taken : MethodName := ⟨RX12, "taken", "(II)I"⟩
abbrev cX12_parts : ByteArray := prog_14_method_131_code
def yX12_parts : MethodName := ⟨RX12, "parts", "(I)I"⟩
abbrev cX12_often : ByteArray := prog_14_method_133_code
def yX12_often : MethodName := ⟨RX12, "often", "(II)I"⟩
abbrev cX12_free : ByteArray := prog_14_method_135_code
def yX12_free : MethodName := ⟨RX12, "free", "(I)I"⟩
abbrev cX12_count : ByteArray := prog_14_method_136_code
def yX12_count : MethodName := ⟨RX12, "count", "(I)I"⟩
abbrev cX12_row : ByteArray := prog_14_method_137_code
def yX12_row : MethodName := ⟨RX12, "row", "(I)J"⟩
def RL : String := "RowTypesLaw"
abbrev cL_row : ByteArray := method_3_code
def yL_row : MethodName := ⟨RL, "row", "(LRowTypes;I[J)I"⟩
abbrev cL_law : ByteArray := code
def yL_law : MethodName := ⟨RL, "law", "([I)Z"⟩
abbrev vwCl : List vw_C := [(RX0, TX0, 5), (RX1, TX1, 16), (RX2, TX2, 2), (RX3, TX3, 5), (RX4, TX4, 17), (RX5, TX5, 12), (RX6, TX6, 5), (RX7, TX7, 4), (RX8, TX8, 3), (RX9, TX9, 7), (RX10, TX10, 5), (RX11, TX11, 19), (RX12, TX12, 66)]
theorem dX3_init_0 : decode cX3_init 0 = .ok (.aload_n 0, 1) := by decide +kernel
theorem dX3_init_1 : decode cX3_init 1 = .ok (.invokespecial 3, 3) := by decide +kernel
theorem dX3_init_4 : decode cX3_init 4 = .ok (.aload_n 0, 1) := by decide +kernel
theorem dX3_init_5 : decode cX3_init 5 = .ok (.bipush 61, 2) := by decide +kernel
theorem dX3_init_7 : decode cX3_init 7 = .ok (.newarray .int, 2) := by decide +kernel
theorem dX3_init_9 : decode cX3_init 9 = .ok (.putfield 9, 3) := by decide +kernel
theorem dX3_init_12 : decode cX3_init 12 = .ok (.aload_n 0, 1) := by decide +kernel
theorem dX3_init_13 : decode cX3_init 13 = .ok (.bipush 61, 2) := by decide +kernel
theorem dX3_init_15 : decode cX3_init 15 = .ok (.newarray .int, 2) := by decide +kernel
theorem dX3_init_17 : decode cX3_init 17 = .ok (.putfield 15, 3) := by decide +kernel
theorem dX3_init_20 : decode cX3_init 20 = .ok (.aload_n 0, 1) := by decide +kernel
theorem dX3_init_21 : decode cX3_init 21 = .ok (.bipush 61, 2) := by decide +kernel
theorem dX3_init_23 : decode cX3_init 23 = .ok (.newarray .int, 2) := by decide +kernel
theorem dX3_init_25 : decode cX3_init 25 = .ok (.putfield 18, 3) := by decide +kernel
theorem dX3_init_28 : decode cX3_init 28 = .ok (.return_, 1) := by decide +kernel
theorem dX2_init_0 : decode cX2_init 0 = .ok (.aload_n 0, 1) := by decide +kernel
theorem dX2_init_1 : decode cX2_init 1 = .ok (.invokespecial 3, 3) := by decide +kernel
theorem dX2_init_4 : decode cX2_init 4 = .ok (.aload_n 0, 1) := by decide +kernel
theorem dX2_init_5 : decode cX2_init 5 = .ok (.sipush 256, 3) := by decide +kernel
theorem dX2_init_8 : decode cX2_init 8 = .ok (.newarray .int, 2) := by decide +kernel
theorem dX2_init_10 : decode cX2_init 10 = .ok (.putfield 9, 3) := by decide +kernel
theorem dX2_init_13 : decode cX2_init 13 = .ok (.return_, 1) := by decide +kernel
theorem dX0_init_0 : decode cX0_init 0 = .ok (.aload_n 0, 1) := by decide +kernel
theorem dX0_init_1 : decode cX0_init 1 = .ok (.invokespecial 3, 3) := by decide +kernel
theorem dX0_init_4 : decode cX0_init 4 = .ok (.aload_n 0, 1) := by decide +kernel
theorem dX0_init_5 : decode cX0_init 5 = .ok (.bipush 100, 2) := by decide +kernel
theorem dX0_init_7 : decode cX0_init 7 = .ok (.newarray .int, 2) := by decide +kernel
theorem dX0_init_9 : decode cX0_init 9 = .ok (.putfield 9, 3) := by decide +kernel
theorem dX0_init_12 : decode cX0_init 12 = .ok (.aload_n 0, 1) := by decide +kernel
theorem dX0_init_13 : decode cX0_init 13 = .ok (.bipush 100, 2) := by decide +kernel
theorem dX0_init_15 : decode cX0_init 15 = .ok (.newarray .int, 2) := by decide +kernel
theorem dX0_init_17 : decode cX0_init 17 = .ok (.putfield 15, 3) := by decide +kernel
theorem dX0_init_20 : decode cX0_init 20 = .ok (.aload_n 0, 1) := by decide +kernel
theorem dX0_init_21 : decode cX0_init 21 = .ok (.bipush 100, 2) := by decide +kernel
theorem dX0_init_23 : decode cX0_init 23 = .ok (.newarray .int, 2) := by decide +kernel
theorem dX0_init_25 : decode cX0_init 25 = .ok (.putfield 18, 3) := by decide +kernel
theorem dX0_init_28 : decode cX0_init 28 = .ok (.aload_n 0, 1) := by decide +kernel
theorem dX0_init_29 : decode cX0_init 29 = .ok (.new 21, 3) := by decide +kernel
theorem dX0_init_32 : decode cX0_init 32 = .ok (.dup, 1) := by decide +kernel
theorem dX0_init_33 : decode cX0_init 33 = .ok (.invokespecial 23, 3) := by decide +kernel
theorem dX0_init_36 : decode cX0_init 36 = .ok (.putfield 24, 3) := by decide +kernel
theorem dX0_init_39 : decode cX0_init 39 = .ok (.return_, 1) := by decide +kernel
theorem dX6_init_0 : decode cX6_init 0 = .ok (.aload_n 0, 1) := by decide +kernel
theorem dX6_init_1 : decode cX6_init 1 = .ok (.invokespecial 3, 3) := by decide +kernel
theorem dX6_init_4 : decode cX6_init 4 = .ok (.aload_n 0, 1) := by decide +kernel
theorem dX6_init_5 : decode cX6_init 5 = .ok (.new 9, 3) := by decide +kernel
theorem dX6_init_8 : decode cX6_init 8 = .ok (.dup, 1) := by decide +kernel
theorem dX6_init_9 : decode cX6_init 9 = .ok (.invokespecial 11, 3) := by decide +kernel
theorem dX6_init_12 : decode cX6_init 12 = .ok (.putfield 12, 3) := by decide +kernel
theorem dX6_init_15 : decode cX6_init 15 = .ok (.aload_n 0, 1) := by decide +kernel
theorem dX6_init_16 : decode cX6_init 16 = .ok (.bipush 100, 2) := by decide +kernel
theorem dX6_init_18 : decode cX6_init 18 = .ok (.newarray .int, 2) := by decide +kernel
theorem dX6_init_20 : decode cX6_init 20 = .ok (.putfield 18, 3) := by decide +kernel
theorem dX6_init_23 : decode cX6_init 23 = .ok (.aload_n 0, 1) := by decide +kernel
theorem dX6_init_24 : decode cX6_init 24 = .ok (.bipush 100, 2) := by decide +kernel
theorem dX6_init_26 : decode cX6_init 26 = .ok (.newarray .int, 2) := by decide +kernel
theorem dX6_init_28 : decode cX6_init 28 = .ok (.putfield 22, 3) := by decide +kernel
theorem dX6_init_31 : decode cX6_init 31 = .ok (.return_, 1) := by decide +kernel
theorem dX5_init_0 : decode cX5_init 0 = .ok (.aload_n 0, 1) := by decide +kernel
theorem dX5_init_1 : decode cX5_init 1 = .ok (.invokespecial 3, 3) := by decide +kernel
theorem dX5_init_4 : decode cX5_init 4 = .ok (.aload_n 0, 1) := by decide +kernel
theorem dX5_init_5 : decode cX5_init 5 = .ok (.sipush 1024, 3) := by decide +kernel
theorem dX5_init_8 : decode cX5_init 8 = .ok (.newarray .int, 2) := by decide +kernel
theorem dX5_init_10 : decode cX5_init 10 = .ok (.putfield 11, 3) := by decide +kernel
theorem dX5_init_13 : decode cX5_init 13 = .ok (.aload_n 0, 1) := by decide +kernel
theorem dX5_init_14 : decode cX5_init 14 = .ok (.sipush 1024, 3) := by decide +kernel
theorem dX5_init_17 : decode cX5_init 17 = .ok (.newarray .int, 2) := by decide +kernel
theorem dX5_init_19 : decode cX5_init 19 = .ok (.putfield 15, 3) := by decide +kernel
theorem dX5_init_22 : decode cX5_init 22 = .ok (.aload_n 0, 1) := by decide +kernel
theorem dX5_init_23 : decode cX5_init 23 = .ok (.sipush 1024, 3) := by decide +kernel
theorem dX5_init_26 : decode cX5_init 26 = .ok (.newarray .int, 2) := by decide +kernel
theorem dX5_init_28 : decode cX5_init 28 = .ok (.putfield 18, 3) := by decide +kernel
theorem dX5_init_31 : decode cX5_init 31 = .ok (.aload_n 0, 1) := by decide +kernel
theorem dX5_init_32 : decode cX5_init 32 = .ok (.sipush 1024, 3) := by decide +kernel
theorem dX5_init_35 : decode cX5_init 35 = .ok (.newarray .int, 2) := by decide +kernel
theorem dX5_init_37 : decode cX5_init 37 = .ok (.putfield 21, 3) := by decide +kernel
theorem dX5_init_40 : decode cX5_init 40 = .ok (.aload_n 0, 1) := by decide +kernel
theorem dX5_init_41 : decode cX5_init 41 = .ok (.sipush 1024, 3) := by decide +kernel
theorem dX5_init_44 : decode cX5_init 44 = .ok (.newarray .int, 2) := by decide +kernel
theorem dX5_init_46 : decode cX5_init 46 = .ok (.putfield 24, 3) := by decide +kernel
theorem dX5_init_49 : decode cX5_init 49 = .ok (.aload_n 0, 1) := by decide +kernel
theorem dX5_init_50 : decode cX5_init 50 = .ok (.sipush 1024, 3) := by decide +kernel
theorem dX5_init_53 : decode cX5_init 53 = .ok (.newarray .int, 2) := by decide +kernel
theorem dX5_init_55 : decode cX5_init 55 = .ok (.putfield 27, 3) := by decide +kernel
theorem dX5_init_58 : decode cX5_init 58 = .ok (.aload_n 0, 1) := by decide +kernel
theorem dX5_init_59 : decode cX5_init 59 = .ok (.new 30, 3) := by decide +kernel
theorem dX5_init_62 : decode cX5_init 62 = .ok (.dup, 1) := by decide +kernel
theorem dX5_init_63 : decode cX5_init 63 = .ok (.invokespecial 32, 3) := by decide +kernel
theorem dX5_init_66 : decode cX5_init 66 = .ok (.putfield 33, 3) := by decide +kernel
theorem dX5_init_69 : decode cX5_init 69 = .ok (.aload_n 0, 1) := by decide +kernel
theorem dX5_init_70 : decode cX5_init 70 = .ok (.bipush 8, 2) := by decide +kernel
theorem dX5_init_72 : decode cX5_init 72 = .ok (.newarray .int, 2) := by decide +kernel
theorem dX5_init_74 : decode cX5_init 74 = .ok (.putfield 37, 3) := by decide +kernel
theorem dX5_init_77 : decode cX5_init 77 = .ok (.aload_n 0, 1) := by decide +kernel
theorem dX5_init_78 : decode cX5_init 78 = .ok (.bipush 8, 2) := by decide +kernel
theorem dX5_init_80 : decode cX5_init 80 = .ok (.newarray .int, 2) := by decide +kernel
theorem dX5_init_82 : decode cX5_init 82 = .ok (.putfield 40, 3) := by decide +kernel
theorem dX5_init_85 : decode cX5_init 85 = .ok (.aload_n 0, 1) := by decide +kernel
theorem dX5_init_86 : decode cX5_init 86 = .ok (.bipush 61, 2) := by decide +kernel
theorem dX5_init_88 : decode cX5_init 88 = .ok (.newarray .int, 2) := by decide +kernel
theorem dX5_init_90 : decode cX5_init 90 = .ok (.putfield 43, 3) := by decide +kernel
theorem dX5_init_93 : decode cX5_init 93 = .ok (.return_, 1) := by decide +kernel
theorem dX9_init_0 : decode cX9_init 0 = .ok (.aload_n 0, 1) := by decide +kernel
theorem dX9_init_1 : decode cX9_init 1 = .ok (.invokespecial 3, 3) := by decide +kernel
theorem dX9_init_4 : decode cX9_init 4 = .ok (.aload_n 0, 1) := by decide +kernel
theorem dX9_init_5 : decode cX9_init 5 = .ok (.new 9, 3) := by decide +kernel
theorem dX9_init_8 : decode cX9_init 8 = .ok (.dup, 1) := by decide +kernel
theorem dX9_init_9 : decode cX9_init 9 = .ok (.invokespecial 11, 3) := by decide +kernel
theorem dX9_init_12 : decode cX9_init 12 = .ok (.putfield 12, 3) := by decide +kernel
theorem dX9_init_15 : decode cX9_init 15 = .ok (.aload_n 0, 1) := by decide +kernel
theorem dX9_init_16 : decode cX9_init 16 = .ok (.new 9, 3) := by decide +kernel
theorem dX9_init_19 : decode cX9_init 19 = .ok (.dup, 1) := by decide +kernel
theorem dX9_init_20 : decode cX9_init 20 = .ok (.invokespecial 11, 3) := by decide +kernel
theorem dX9_init_23 : decode cX9_init 23 = .ok (.putfield 18, 3) := by decide +kernel
theorem dX9_init_26 : decode cX9_init 26 = .ok (.aload_n 0, 1) := by decide +kernel
theorem dX9_init_27 : decode cX9_init 27 = .ok (.aload_n 1, 1) := by decide +kernel
theorem dX9_init_28 : decode cX9_init 28 = .ok (.putfield 21, 3) := by decide +kernel
theorem dX9_init_31 : decode cX9_init 31 = .ok (.return_, 1) := by decide +kernel
theorem dX10_init_0 : decode cX10_init 0 = .ok (.aload_n 0, 1) := by decide +kernel
theorem dX10_init_1 : decode cX10_init 1 = .ok (.invokespecial 3, 3) := by decide +kernel
theorem dX10_init_4 : decode cX10_init 4 = .ok (.aload_n 0, 1) := by decide +kernel
theorem dX10_init_5 : decode cX10_init 5 = .ok (.new 9, 3) := by decide +kernel
theorem dX10_init_8 : decode cX10_init 8 = .ok (.dup, 1) := by decide +kernel
theorem dX10_init_9 : decode cX10_init 9 = .ok (.invokespecial 11, 3) := by decide +kernel
theorem dX10_init_12 : decode cX10_init 12 = .ok (.putfield 12, 3) := by decide +kernel
theorem dX10_init_15 : decode cX10_init 15 = .ok (.aload_n 0, 1) := by decide +kernel
theorem dX10_init_16 : decode cX10_init 16 = .ok (.aload_n 1, 1) := by decide +kernel
theorem dX10_init_17 : decode cX10_init 17 = .ok (.putfield 18, 3) := by decide +kernel
theorem dX10_init_20 : decode cX10_init 20 = .ok (.return_, 1) := by decide +kernel
theorem dX1_init_0 : decode cX1_init 0 = .ok (.aload_n 0, 1) := by decide +kernel
theorem dX1_init_1 : decode cX1_init 1 = .ok (.invokespecial 3, 3) := by decide +kernel
theorem dX1_init_4 : decode cX1_init 4 = .ok (.aload_n 0, 1) := by decide +kernel
theorem dX1_init_5 : decode cX1_init 5 = .ok (.bipush 100, 2) := by decide +kernel
theorem dX1_init_7 : decode cX1_init 7 = .ok (.newarray .int, 2) := by decide +kernel
theorem dX1_init_9 : decode cX1_init 9 = .ok (.putfield 9, 3) := by decide +kernel
theorem dX1_init_12 : decode cX1_init 12 = .ok (.aload_n 0, 1) := by decide +kernel
theorem dX1_init_13 : decode cX1_init 13 = .ok (.bipush 100, 2) := by decide +kernel
theorem dX1_init_15 : decode cX1_init 15 = .ok (.newarray .int, 2) := by decide +kernel
theorem dX1_init_17 : decode cX1_init 17 = .ok (.putfield 15, 3) := by decide +kernel
theorem dX1_init_20 : decode cX1_init 20 = .ok (.aload_n 0, 1) := by decide +kernel
theorem dX1_init_21 : decode cX1_init 21 = .ok (.bipush 100, 2) := by decide +kernel
theorem dX1_init_23 : decode cX1_init 23 = .ok (.newarray .int, 2) := by decide +kernel
theorem dX1_init_25 : decode cX1_init 25 = .ok (.putfield 18, 3) := by decide +kernel
theorem dX1_init_28 : decode cX1_init 28 = .ok (.aload_n 0, 1) := by decide +kernel
theorem dX1_init_29 : decode cX1_init 29 = .ok (.bipush 100, 2) := by decide +kernel
theorem dX1_init_31 : decode cX1_init 31 = .ok (.anewarray 21, 3) := by decide +kernel
theorem dX1_init_34 : decode cX1_init 34 = .ok (.putfield 23, 3) := by decide +kernel
theorem dX1_init_37 : decode cX1_init 37 = .ok (.aload_n 0, 1) := by decide +kernel
theorem dX1_init_38 : decode cX1_init 38 = .ok (.bipush 20, 2) := by decide +kernel
theorem dX1_init_40 : decode cX1_init 40 = .ok (.anewarray 21, 3) := by decide +kernel
theorem dX1_init_43 : decode cX1_init 43 = .ok (.putfield 27, 3) := by decide +kernel
theorem dX1_init_46 : decode cX1_init 46 = .ok (.aload_n 0, 1) := by decide +kernel
theorem dX1_init_47 : decode cX1_init 47 = .ok (.new 21, 3) := by decide +kernel
theorem dX1_init_50 : decode cX1_init 50 = .ok (.dup, 1) := by decide +kernel
theorem dX1_init_51 : decode cX1_init 51 = .ok (.invokespecial 30, 3) := by decide +kernel
theorem dX1_init_54 : decode cX1_init 54 = .ok (.putfield 31, 3) := by decide +kernel
theorem dX1_init_57 : decode cX1_init 57 = .ok (.aload_n 0, 1) := by decide +kernel
theorem dX1_init_58 : decode cX1_init 58 = .ok (.aload_n 1, 1) := by decide +kernel
theorem dX1_init_59 : decode cX1_init 59 = .ok (.putfield 35, 3) := by decide +kernel
theorem dX1_init_62 : decode cX1_init 62 = .ok (.aload_n 0, 1) := by decide +kernel
theorem dX1_init_63 : decode cX1_init 63 = .ok (.aload_n 2, 1) := by decide +kernel
theorem dX1_init_64 : decode cX1_init 64 = .ok (.putfield 39, 3) := by decide +kernel
theorem dX1_init_67 : decode cX1_init 67 = .ok (.aload_n 0, 1) := by decide +kernel
theorem dX1_init_68 : decode cX1_init 68 = .ok (.aload_n 3, 1) := by decide +kernel
theorem dX1_init_69 : decode cX1_init 69 = .ok (.putfield 43, 3) := by decide +kernel
theorem dX1_init_72 : decode cX1_init 72 = .ok (.iconst 0, 1) := by decide +kernel
theorem dX1_init_73 : decode cX1_init 73 = .ok (.istore 4, 2) := by decide +kernel
theorem dX1_init_75 : decode cX1_init 75 = .ok (.iload 4, 2) := by decide +kernel
theorem dX1_init_77 : decode cX1_init 77 = .ok (.aload_n 0, 1) := by decide +kernel
theorem dX1_init_78 : decode cX1_init 78 = .ok (.getfield 27, 3) := by decide +kernel
theorem dX1_init_81 : decode cX1_init 81 = .ok (.arraylength, 1) := by decide +kernel
theorem dX1_init_82 : decode cX1_init 82 = .ok (.if_icmp .ge 23, 3) := by decide +kernel
theorem dX1_init_85 : decode cX1_init 85 = .ok (.aload_n 0, 1) := by decide +kernel
theorem dX1_init_86 : decode cX1_init 86 = .ok (.getfield 27, 3) := by decide +kernel
theorem dX1_init_89 : decode cX1_init 89 = .ok (.iload 4, 2) := by decide +kernel
theorem dX1_init_91 : decode cX1_init 91 = .ok (.new 21, 3) := by decide +kernel
theorem dX1_init_94 : decode cX1_init 94 = .ok (.dup, 1) := by decide +kernel
theorem dX1_init_95 : decode cX1_init 95 = .ok (.invokespecial 30, 3) := by decide +kernel
theorem dX1_init_98 : decode cX1_init 98 = .ok (.aastore, 1) := by decide +kernel
theorem dX1_init_99 : decode cX1_init 99 = .ok (.iinc 4 1, 3) := by decide +kernel
theorem dX1_init_102 : decode cX1_init 102 = .ok (.goto (-27), 3) := by decide +kernel
theorem dX1_init_105 : decode cX1_init 105 = .ok (.return_, 1) := by decide +kernel
theorem dX4_init_0 : decode cX4_init 0 = .ok (.aload_n 0, 1) := by decide +kernel
theorem dX4_init_1 : decode cX4_init 1 = .ok (.invokespecial 3, 3) := by decide +kernel
theorem dX4_init_4 : decode cX4_init 4 = .ok (.aload_n 0, 1) := by decide +kernel
theorem dX4_init_5 : decode cX4_init 5 = .ok (.sipush 502, 3) := by decide +kernel
theorem dX4_init_8 : decode cX4_init 8 = .ok (.newarray .int, 2) := by decide +kernel
theorem dX4_init_10 : decode cX4_init 10 = .ok (.putfield 11, 3) := by decide +kernel
theorem dX4_init_13 : decode cX4_init 13 = .ok (.aload_n 0, 1) := by decide +kernel
theorem dX4_init_14 : decode cX4_init 14 = .ok (.sipush 502, 3) := by decide +kernel
theorem dX4_init_17 : decode cX4_init 17 = .ok (.newarray .int, 2) := by decide +kernel
theorem dX4_init_19 : decode cX4_init 19 = .ok (.putfield 15, 3) := by decide +kernel
theorem dX4_init_22 : decode cX4_init 22 = .ok (.aload_n 0, 1) := by decide +kernel
theorem dX4_init_23 : decode cX4_init 23 = .ok (.sipush 502, 3) := by decide +kernel
theorem dX4_init_26 : decode cX4_init 26 = .ok (.newarray .int, 2) := by decide +kernel
theorem dX4_init_28 : decode cX4_init 28 = .ok (.putfield 18, 3) := by decide +kernel
theorem dX4_init_31 : decode cX4_init 31 = .ok (.aload_n 0, 1) := by decide +kernel
theorem dX4_init_32 : decode cX4_init 32 = .ok (.sipush 502, 3) := by decide +kernel
theorem dX4_init_35 : decode cX4_init 35 = .ok (.newarray .int, 2) := by decide +kernel
theorem dX4_init_37 : decode cX4_init 37 = .ok (.putfield 21, 3) := by decide +kernel
theorem dX4_init_40 : decode cX4_init 40 = .ok (.aload_n 0, 1) := by decide +kernel
theorem dX4_init_41 : decode cX4_init 41 = .ok (.sipush 4016, 3) := by decide +kernel
theorem dX4_init_44 : decode cX4_init 44 = .ok (.newarray .int, 2) := by decide +kernel
theorem dX4_init_46 : decode cX4_init 46 = .ok (.putfield 24, 3) := by decide +kernel
theorem dX4_init_49 : decode cX4_init 49 = .ok (.aload_n 0, 1) := by decide +kernel
theorem dX4_init_50 : decode cX4_init 50 = .ok (.sipush 502, 3) := by decide +kernel
theorem dX4_init_53 : decode cX4_init 53 = .ok (.newarray .long, 2) := by decide +kernel
theorem dX4_init_55 : decode cX4_init 55 = .ok (.putfield 27, 3) := by decide +kernel
theorem dX4_init_58 : decode cX4_init 58 = .ok (.aload_n 0, 1) := by decide +kernel
theorem dX4_init_59 : decode cX4_init 59 = .ok (.sipush 502, 3) := by decide +kernel
theorem dX4_init_62 : decode cX4_init 62 = .ok (.newarray .int, 2) := by decide +kernel
theorem dX4_init_64 : decode cX4_init 64 = .ok (.putfield 31, 3) := by decide +kernel
theorem dX4_init_67 : decode cX4_init 67 = .ok (.aload_n 0, 1) := by decide +kernel
theorem dX4_init_68 : decode cX4_init 68 = .ok (.sipush 502, 3) := by decide +kernel
theorem dX4_init_71 : decode cX4_init 71 = .ok (.newarray .int, 2) := by decide +kernel
theorem dX4_init_73 : decode cX4_init 73 = .ok (.putfield 34, 3) := by decide +kernel
theorem dX4_init_76 : decode cX4_init 76 = .ok (.aload_n 0, 1) := by decide +kernel
theorem dX4_init_77 : decode cX4_init 77 = .ok (.sipush 502, 3) := by decide +kernel
theorem dX4_init_80 : decode cX4_init 80 = .ok (.newarray .int, 2) := by decide +kernel
theorem dX4_init_82 : decode cX4_init 82 = .ok (.putfield 37, 3) := by decide +kernel
theorem dX4_init_85 : decode cX4_init 85 = .ok (.aload_n 0, 1) := by decide +kernel
theorem dX4_init_86 : decode cX4_init 86 = .ok (.new 40, 3) := by decide +kernel
theorem dX4_init_89 : decode cX4_init 89 = .ok (.dup, 1) := by decide +kernel
theorem dX4_init_90 : decode cX4_init 90 = .ok (.invokespecial 42, 3) := by decide +kernel
theorem dX4_init_93 : decode cX4_init 93 = .ok (.putfield 43, 3) := by decide +kernel
theorem dX4_init_96 : decode cX4_init 96 = .ok (.aload_n 0, 1) := by decide +kernel
theorem dX4_init_97 : decode cX4_init 97 = .ok (.new 40, 3) := by decide +kernel
theorem dX4_init_100 : decode cX4_init 100 = .ok (.dup, 1) := by decide +kernel
theorem dX4_init_101 : decode cX4_init 101 = .ok (.invokespecial 42, 3) := by decide +kernel
theorem dX4_init_104 : decode cX4_init 104 = .ok (.putfield 47, 3) := by decide +kernel
theorem dX4_init_107 : decode cX4_init 107 = .ok (.aload_n 0, 1) := by decide +kernel
theorem dX4_init_108 : decode cX4_init 108 = .ok (.aload_n 1, 1) := by decide +kernel
theorem dX4_init_109 : decode cX4_init 109 = .ok (.putfield 50, 3) := by decide +kernel
theorem dX4_init_112 : decode cX4_init 112 = .ok (.return_, 1) := by decide +kernel
theorem dX8_init_0 : decode cX8_init 0 = .ok (.aload_n 0, 1) := by decide +kernel
theorem dX8_init_1 : decode cX8_init 1 = .ok (.invokespecial 3, 3) := by decide +kernel
theorem dX8_init_4 : decode cX8_init 4 = .ok (.aload_n 0, 1) := by decide +kernel
theorem dX8_init_5 : decode cX8_init 5 = .ok (.new 9, 3) := by decide +kernel
theorem dX8_init_8 : decode cX8_init 8 = .ok (.dup, 1) := by decide +kernel
theorem dX8_init_9 : decode cX8_init 9 = .ok (.invokespecial 11, 3) := by decide +kernel
theorem dX8_init_12 : decode cX8_init 12 = .ok (.putfield 12, 3) := by decide +kernel
theorem dX8_init_15 : decode cX8_init 15 = .ok (.return_, 1) := by decide +kernel
theorem dX7_init_0 : decode cX7_init 0 = .ok (.aload_n 0, 1) := by decide +kernel
theorem dX7_init_1 : decode cX7_init 1 = .ok (.invokespecial 3, 3) := by decide +kernel
theorem dX7_init_4 : decode cX7_init 4 = .ok (.aload_n 0, 1) := by decide +kernel
theorem dX7_init_5 : decode cX7_init 5 = .ok (.new 9, 3) := by decide +kernel
theorem dX7_init_8 : decode cX7_init 8 = .ok (.dup, 1) := by decide +kernel
theorem dX7_init_9 : decode cX7_init 9 = .ok (.invokespecial 11, 3) := by decide +kernel
theorem dX7_init_12 : decode cX7_init 12 = .ok (.putfield 12, 3) := by decide +kernel
theorem dX7_init_15 : decode cX7_init 15 = .ok (.aload_n 0, 1) := by decide +kernel
theorem dX7_init_16 : decode cX7_init 16 = .ok (.new 9, 3) := by decide +kernel
theorem dX7_init_19 : decode cX7_init 19 = .ok (.dup, 1) := by decide +kernel
theorem dX7_init_20 : decode cX7_init 20 = .ok (.invokespecial 11, 3) := by decide +kernel
theorem dX7_init_23 : decode cX7_init 23 = .ok (.putfield 18, 3) := by decide +kernel
theorem dX7_init_26 : decode cX7_init 26 = .ok (.return_, 1) := by decide +kernel
theorem dX11_init_0 : decode cX11_init 0 = .ok (.aload_n 0, 1) := by decide +kernel
theorem dX11_init_1 : decode cX11_init 1 = .ok (.invokespecial 3, 3) := by decide +kernel
theorem dX11_init_4 : decode cX11_init 4 = .ok (.aload_n 0, 1) := by decide +kernel
theorem dX11_init_5 : decode cX11_init 5 = .ok (.bipush 100, 2) := by decide +kernel
theorem dX11_init_7 : decode cX11_init 7 = .ok (.newarray .int, 2) := by decide +kernel
theorem dX11_init_9 : decode cX11_init 9 = .ok (.putfield 9, 3) := by decide +kernel
theorem dX11_init_12 : decode cX11_init 12 = .ok (.aload_n 0, 1) := by decide +kernel
theorem dX11_init_13 : decode cX11_init 13 = .ok (.bipush 10, 2) := by decide +kernel
theorem dX11_init_15 : decode cX11_init 15 = .ok (.anewarray 13, 3) := by decide +kernel
theorem dX11_init_18 : decode cX11_init 18 = .ok (.putfield 15, 3) := by decide +kernel
theorem dX11_init_21 : decode cX11_init 21 = .ok (.aload_n 0, 1) := by decide +kernel
theorem dX11_init_22 : decode cX11_init 22 = .ok (.new 19, 3) := by decide +kernel
theorem dX11_init_25 : decode cX11_init 25 = .ok (.dup, 1) := by decide +kernel
theorem dX11_init_26 : decode cX11_init 26 = .ok (.invokespecial 21, 3) := by decide +kernel
theorem dX11_init_29 : decode cX11_init 29 = .ok (.putfield 22, 3) := by decide +kernel
theorem dX11_init_32 : decode cX11_init 32 = .ok (.aload_n 0, 1) := by decide +kernel
theorem dX11_init_33 : decode cX11_init 33 = .ok (.new 19, 3) := by decide +kernel
theorem dX11_init_36 : decode cX11_init 36 = .ok (.dup, 1) := by decide +kernel
theorem dX11_init_37 : decode cX11_init 37 = .ok (.invokespecial 21, 3) := by decide +kernel
theorem dX11_init_40 : decode cX11_init 40 = .ok (.putfield 26, 3) := by decide +kernel
theorem dX11_init_43 : decode cX11_init 43 = .ok (.aload_n 0, 1) := by decide +kernel
theorem dX11_init_44 : decode cX11_init 44 = .ok (.bipush 11, 2) := by decide +kernel
theorem dX11_init_46 : decode cX11_init 46 = .ok (.newarray .int, 2) := by decide +kernel
theorem dX11_init_48 : decode cX11_init 48 = .ok (.putfield 29, 3) := by decide +kernel
theorem dX11_init_51 : decode cX11_init 51 = .ok (.aload_n 0, 1) := by decide +kernel
theorem dX11_init_52 : decode cX11_init 52 = .ok (.bipush 9, 2) := by decide +kernel
theorem dX11_init_54 : decode cX11_init 54 = .ok (.putfield 32, 3) := by decide +kernel
theorem dX11_init_57 : decode cX11_init 57 = .ok (.aload_n 0, 1) := by decide +kernel
theorem dX11_init_58 : decode cX11_init 58 = .ok (.new 36, 3) := by decide +kernel
theorem dX11_init_61 : decode cX11_init 61 = .ok (.dup, 1) := by decide +kernel
theorem dX11_init_62 : decode cX11_init 62 = .ok (.invokespecial 38, 3) := by decide +kernel
theorem dX11_init_65 : decode cX11_init 65 = .ok (.putfield 39, 3) := by decide +kernel
theorem dX11_init_68 : decode cX11_init 68 = .ok (.aload_n 0, 1) := by decide +kernel
theorem dX11_init_69 : decode cX11_init 69 = .ok (.new 43, 3) := by decide +kernel
theorem dX11_init_72 : decode cX11_init 72 = .ok (.dup, 1) := by decide +kernel
theorem dX11_init_73 : decode cX11_init 73 = .ok (.invokespecial 45, 3) := by decide +kernel
theorem dX11_init_76 : decode cX11_init 76 = .ok (.putfield 46, 3) := by decide +kernel
theorem dX11_init_79 : decode cX11_init 79 = .ok (.aload_n 0, 1) := by decide +kernel
theorem dX11_init_80 : decode cX11_init 80 = .ok (.new 50, 3) := by decide +kernel
theorem dX11_init_83 : decode cX11_init 83 = .ok (.dup, 1) := by decide +kernel
theorem dX11_init_84 : decode cX11_init 84 = .ok (.aload_n 0, 1) := by decide +kernel
theorem dX11_init_85 : decode cX11_init 85 = .ok (.getfield 46, 3) := by decide +kernel
theorem dX11_init_88 : decode cX11_init 88 = .ok (.invokespecial 52, 3) := by decide +kernel
theorem dX11_init_91 : decode cX11_init 91 = .ok (.putfield 55, 3) := by decide +kernel
theorem dX11_init_94 : decode cX11_init 94 = .ok (.aload_n 0, 1) := by decide +kernel
theorem dX11_init_95 : decode cX11_init 95 = .ok (.new 59, 3) := by decide +kernel
theorem dX11_init_98 : decode cX11_init 98 = .ok (.dup, 1) := by decide +kernel
theorem dX11_init_99 : decode cX11_init 99 = .ok (.aload_n 0, 1) := by decide +kernel
theorem dX11_init_100 : decode cX11_init 100 = .ok (.getfield 46, 3) := by decide +kernel
theorem dX11_init_103 : decode cX11_init 103 = .ok (.invokespecial 61, 3) := by decide +kernel
theorem dX11_init_106 : decode cX11_init 106 = .ok (.putfield 62, 3) := by decide +kernel
theorem dX11_init_109 : decode cX11_init 109 = .ok (.aload_n 0, 1) := by decide +kernel
theorem dX11_init_110 : decode cX11_init 110 = .ok (.new 66, 3) := by decide +kernel
theorem dX11_init_113 : decode cX11_init 113 = .ok (.dup, 1) := by decide +kernel
theorem dX11_init_114 : decode cX11_init 114 = .ok (.aload_n 0, 1) := by decide +kernel
theorem dX11_init_115 : decode cX11_init 115 = .ok (.getfield 46, 3) := by decide +kernel
theorem dX11_init_118 : decode cX11_init 118 = .ok (.aload_n 0, 1) := by decide +kernel
theorem dX11_init_119 : decode cX11_init 119 = .ok (.getfield 62, 3) := by decide +kernel
theorem dX11_init_122 : decode cX11_init 122 = .ok (.aload_n 0, 1) := by decide +kernel
theorem dX11_init_123 : decode cX11_init 123 = .ok (.getfield 15, 3) := by decide +kernel
theorem dX11_init_126 : decode cX11_init 126 = .ok (.invokespecial 68, 3) := by decide +kernel
theorem dX11_init_129 : decode cX11_init 129 = .ok (.putfield 71, 3) := by decide +kernel
theorem dX11_init_132 : decode cX11_init 132 = .ok (.aload_n 0, 1) := by decide +kernel
theorem dX11_init_133 : decode cX11_init 133 = .ok (.new 75, 3) := by decide +kernel
theorem dX11_init_136 : decode cX11_init 136 = .ok (.dup, 1) := by decide +kernel
theorem dX11_init_137 : decode cX11_init 137 = .ok (.aload_n 0, 1) := by decide +kernel
theorem dX11_init_138 : decode cX11_init 138 = .ok (.getfield 15, 3) := by decide +kernel
theorem dX11_init_141 : decode cX11_init 141 = .ok (.invokespecial 77, 3) := by decide +kernel
theorem dX11_init_144 : decode cX11_init 144 = .ok (.putfield 80, 3) := by decide +kernel
theorem dX11_init_147 : decode cX11_init 147 = .ok (.aload_n 0, 1) := by decide +kernel
theorem dX11_init_148 : decode cX11_init 148 = .ok (.new 84, 3) := by decide +kernel
theorem dX11_init_151 : decode cX11_init 151 = .ok (.dup, 1) := by decide +kernel
theorem dX11_init_152 : decode cX11_init 152 = .ok (.invokespecial 86, 3) := by decide +kernel
theorem dX11_init_155 : decode cX11_init 155 = .ok (.putfield 87, 3) := by decide +kernel
theorem dX11_init_158 : decode cX11_init 158 = .ok (.aload_n 0, 1) := by decide +kernel
theorem dX11_init_159 : decode cX11_init 159 = .ok (.new 91, 3) := by decide +kernel
theorem dX11_init_162 : decode cX11_init 162 = .ok (.dup, 1) := by decide +kernel
theorem dX11_init_163 : decode cX11_init 163 = .ok (.invokespecial 93, 3) := by decide +kernel
theorem dX11_init_166 : decode cX11_init 166 = .ok (.putfield 94, 3) := by decide +kernel
theorem dX11_init_169 : decode cX11_init 169 = .ok (.iconst 0, 1) := by decide +kernel
theorem dX11_init_170 : decode cX11_init 170 = .ok (.istore_n 1, 1) := by decide +kernel
theorem dX11_init_171 : decode cX11_init 171 = .ok (.iload_n 1, 1) := by decide +kernel
theorem dX11_init_172 : decode cX11_init 172 = .ok (.aload_n 0, 1) := by decide +kernel
theorem dX11_init_173 : decode cX11_init 173 = .ok (.getfield 15, 3) := by decide +kernel
theorem dX11_init_176 : decode cX11_init 176 = .ok (.arraylength, 1) := by decide +kernel
theorem dX11_init_177 : decode cX11_init 177 = .ok (.if_icmp .ge 22, 3) := by decide +kernel
theorem dX11_init_180 : decode cX11_init 180 = .ok (.aload_n 0, 1) := by decide +kernel
theorem dX11_init_181 : decode cX11_init 181 = .ok (.getfield 15, 3) := by decide +kernel
theorem dX11_init_184 : decode cX11_init 184 = .ok (.iload_n 1, 1) := by decide +kernel
theorem dX11_init_185 : decode cX11_init 185 = .ok (.new 13, 3) := by decide +kernel
theorem dX11_init_188 : decode cX11_init 188 = .ok (.dup, 1) := by decide +kernel
theorem dX11_init_189 : decode cX11_init 189 = .ok (.invokespecial 98, 3) := by decide +kernel
theorem dX11_init_192 : decode cX11_init 192 = .ok (.aastore, 1) := by decide +kernel
theorem dX11_init_193 : decode cX11_init 193 = .ok (.iinc 1 1, 3) := by decide +kernel
theorem dX11_init_196 : decode cX11_init 196 = .ok (.goto (-25), 3) := by decide +kernel
theorem dX11_init_199 : decode cX11_init 199 = .ok (.return_, 1) := by decide +kernel
theorem dX11_textOf_0 : decode cX11_textOf 0 = .ok (.iload_n 1, 1) := by decide +kernel
theorem dX11_textOf_1 : decode cX11_textOf 1 = .ok (.iconst (-1), 1) := by decide +kernel
theorem dX11_textOf_2 : decode cX11_textOf 2 = .ok (.if_icmp .ne 17, 3) := by decide +kernel
theorem dX11_textOf_5 : decode cX11_textOf 5 = .ok (.aload_n 0, 1) := by decide +kernel
theorem dX11_textOf_6 : decode cX11_textOf 6 = .ok (.getfield 144, 3) := by decide +kernel
theorem dX11_textOf_9 : decode cX11_textOf 9 = .ok (.ifCond .eq 8, 3) := by decide +kernel
theorem dX11_textOf_17 : decode cX11_textOf 17 = .ok (.iconst (-1), 1) := by decide +kernel
theorem dX11_textOf_18 : decode cX11_textOf 18 = .ok (.ireturn, 1) := by decide +kernel
theorem dX11_textOf_19 : decode cX11_textOf 19 = .ok (.iload_n 1, 1) := by decide +kernel
theorem dX11_textOf_20 : decode cX11_textOf 20 = .ok (.ifCond .lt 21, 3) := by decide +kernel
theorem dX11_textOf_23 : decode cX11_textOf 23 = .ok (.iload_n 1, 1) := by decide +kernel
theorem dX11_textOf_24 : decode cX11_textOf 24 = .ok (.aload_n 0, 1) := by decide +kernel
theorem dX11_textOf_25 : decode cX11_textOf 25 = .ok (.getfield 106, 3) := by decide +kernel
theorem dX11_textOf_28 : decode cX11_textOf 28 = .ok (.if_icmp .ge 13, 3) := by decide +kernel
theorem dX11_textOf_41 : decode cX11_textOf 41 = .ok (.iconst (-1), 1) := by decide +kernel
theorem dX11_textOf_42 : decode cX11_textOf 42 = .ok (.ireturn, 1) := by decide +kernel
theorem dX11_keptOf_0 : decode cX11_keptOf 0 = .ok (.iload_n 1, 1) := by decide +kernel
theorem dX11_keptOf_1 : decode cX11_keptOf 1 = .ok (.bipush (-2), 2) := by decide +kernel
theorem dX11_keptOf_3 : decode cX11_keptOf 3 = .ok (.if_icmp .ne 19, 3) := by decide +kernel
theorem dX11_keptOf_6 : decode cX11_keptOf 6 = .ok (.aload_n 0, 1) := by decide +kernel
theorem dX11_keptOf_7 : decode cX11_keptOf 7 = .ok (.getfield 295, 3) := by decide +kernel
theorem dX11_keptOf_10 : decode cX11_keptOf 10 = .ok (.ifCond .eq 10, 3) := by decide +kernel
theorem dX11_keptOf_20 : decode cX11_keptOf 20 = .ok (.aconst_null, 1) := by decide +kernel
theorem dX11_keptOf_21 : decode cX11_keptOf 21 = .ok (.areturn, 1) := by decide +kernel
theorem dX11_keptOf_22 : decode cX11_keptOf 22 = .ok (.aload_n 0, 1) := by decide +kernel
theorem dX11_keptOf_23 : decode cX11_keptOf 23 = .ok (.iload_n 1, 1) := by decide +kernel
theorem dX11_keptOf_24 : decode cX11_keptOf 24 = .ok (.invokevirtual 257, 3) := by decide +kernel
theorem dX11_keptOf_27 : decode cX11_keptOf 27 = .ok (.istore_n 2, 1) := by decide +kernel
theorem dX11_keptOf_28 : decode cX11_keptOf 28 = .ok (.iload_n 2, 1) := by decide +kernel
theorem dX11_keptOf_29 : decode cX11_keptOf 29 = .ok (.iconst (-1), 1) := by decide +kernel
theorem dX11_keptOf_30 : decode cX11_keptOf 30 = .ok (.if_icmp .ne 7, 3) := by decide +kernel
theorem dX11_keptOf_33 : decode cX11_keptOf 33 = .ok (.aconst_null, 1) := by decide +kernel
theorem dX11_keptOf_34 : decode cX11_keptOf 34 = .ok (.goto 12, 3) := by decide +kernel
theorem dX11_keptOf_46 : decode cX11_keptOf 46 = .ok (.areturn, 1) := by decide +kernel
theorem dX11_size_0 : decode cX11_size 0 = .ok (.aload_n 0, 1) := by decide +kernel
theorem dX11_size_1 : decode cX11_size 1 = .ok (.iload_n 1, 1) := by decide +kernel
theorem dX11_size_2 : decode cX11_size 2 = .ok (.invokevirtual 161, 3) := by decide +kernel
theorem dX11_size_5 : decode cX11_size 5 = .ok (.astore_n 2, 1) := by decide +kernel
theorem dX11_size_6 : decode cX11_size 6 = .ok (.aload_n 2, 1) := by decide +kernel
theorem dX11_size_7 : decode cX11_size 7 = .ok (.ifnonnull 5, 3) := by decide +kernel
theorem dX11_size_10 : decode cX11_size 10 = .ok (.iconst (-1), 1) := by decide +kernel
theorem dX11_size_11 : decode cX11_size 11 = .ok (.ireturn, 1) := by decide +kernel
theorem dX11_sort_0 : decode cX11_sort 0 = .ok (.aload_n 0, 1) := by decide +kernel
theorem dX11_sort_1 : decode cX11_sort 1 = .ok (.iload_n 1, 1) := by decide +kernel
theorem dX11_sort_2 : decode cX11_sort 2 = .ok (.invokevirtual 161, 3) := by decide +kernel
theorem dX11_sort_5 : decode cX11_sort 5 = .ok (.astore_n 2, 1) := by decide +kernel
theorem dX11_sort_6 : decode cX11_sort 6 = .ok (.aload_n 2, 1) := by decide +kernel
theorem dX11_sort_7 : decode cX11_sort 7 = .ok (.ifnonnull 5, 3) := by decide +kernel
theorem dX11_sort_10 : decode cX11_sort 10 = .ok (.iconst (-1), 1) := by decide +kernel
theorem dX11_sort_11 : decode cX11_sort 11 = .ok (.ireturn, 1) := by decide +kernel
theorem dX11_needs_0 : decode cX11_needs 0 = .ok (.aload_n 0, 1) := by decide +kernel
theorem dX11_needs_1 : decode cX11_needs 1 = .ok (.iload_n 1, 1) := by decide +kernel
theorem dX11_needs_2 : decode cX11_needs 2 = .ok (.invokevirtual 161, 3) := by decide +kernel
theorem dX11_needs_5 : decode cX11_needs 5 = .ok (.astore_n 2, 1) := by decide +kernel
theorem dX11_needs_6 : decode cX11_needs 6 = .ok (.aload_n 2, 1) := by decide +kernel
theorem dX11_needs_7 : decode cX11_needs 7 = .ok (.ifnonnull 5, 3) := by decide +kernel
theorem dX11_needs_10 : decode cX11_needs 10 = .ok (.iconst (-1), 1) := by decide +kernel
theorem dX11_needs_11 : decode cX11_needs 11 = .ok (.ireturn, 1) := by decide +kernel
theorem dX11_closes_0 : decode cX11_closes 0 = .ok (.aload_n 0, 1) := by decide +kernel
theorem dX11_closes_1 : decode cX11_closes 1 = .ok (.iload_n 1, 1) := by decide +kernel
theorem dX11_closes_2 : decode cX11_closes 2 = .ok (.invokevirtual 161, 3) := by decide +kernel
theorem dX11_closes_5 : decode cX11_closes 5 = .ok (.astore_n 2, 1) := by decide +kernel
theorem dX11_closes_6 : decode cX11_closes 6 = .ok (.aload_n 2, 1) := by decide +kernel
theorem dX11_closes_7 : decode cX11_closes 7 = .ok (.ifnonnull 5, 3) := by decide +kernel
theorem dX11_closes_10 : decode cX11_closes 10 = .ok (.iconst (-1), 1) := by decide +kernel
theorem dX11_closes_11 : decode cX11_closes 11 = .ok (.ireturn, 1) := by decide +kernel
theorem dX11_fits_0 : decode cX11_fits 0 = .ok (.aload_n 0, 1) := by decide +kernel
theorem dX11_fits_1 : decode cX11_fits 1 = .ok (.getfield 99, 3) := by decide +kernel
theorem dX11_fits_4 : decode cX11_fits 4 = .ok (.istore_n 2, 1) := by decide +kernel
theorem dX11_fits_5 : decode cX11_fits 5 = .ok (.aload_n 0, 1) := by decide +kernel
theorem dX11_fits_6 : decode cX11_fits 6 = .ok (.iconst 0, 1) := by decide +kernel
theorem dX11_fits_7 : decode cX11_fits 7 = .ok (.putfield 99, 3) := by decide +kernel
theorem dX11_fits_10 : decode cX11_fits 10 = .ok (.aload_n 0, 1) := by decide +kernel
theorem dX11_fits_11 : decode cX11_fits 11 = .ok (.iload_n 1, 1) := by decide +kernel
theorem dX11_fits_12 : decode cX11_fits 12 = .ok (.invokevirtual 161, 3) := by decide +kernel
theorem dX11_fits_15 : decode cX11_fits 15 = .ok (.astore_n 3, 1) := by decide +kernel
theorem dX11_fits_16 : decode cX11_fits 16 = .ok (.aload_n 3, 1) := by decide +kernel
theorem dX11_fits_17 : decode cX11_fits 17 = .ok (.ifnonnull 5, 3) := by decide +kernel
theorem dX11_fits_20 : decode cX11_fits 20 = .ok (.iconst (-1), 1) := by decide +kernel
theorem dX11_fits_21 : decode cX11_fits 21 = .ok (.ireturn, 1) := by decide +kernel
theorem dX11_type_0 : decode cX11_type 0 = .ok (.aload_n 0, 1) := by decide +kernel
theorem dX11_type_1 : decode cX11_type 1 = .ok (.iload_n 1, 1) := by decide +kernel
theorem dX11_type_2 : decode cX11_type 2 = .ok (.invokevirtual 161, 3) := by decide +kernel
theorem dX11_type_5 : decode cX11_type 5 = .ok (.astore_n 3, 1) := by decide +kernel
theorem dX11_type_6 : decode cX11_type 6 = .ok (.aload_n 3, 1) := by decide +kernel
theorem dX11_type_7 : decode cX11_type 7 = .ok (.ifnonnull 5, 3) := by decide +kernel
theorem dX11_type_10 : decode cX11_type 10 = .ok (.iconst (-1), 1) := by decide +kernel
theorem dX11_type_11 : decode cX11_type 11 = .ok (.ireturn, 1) := by decide +kernel
theorem dX11_lacks_0 : decode cX11_lacks 0 = .ok (.aload_n 0, 1) := by decide +kernel
theorem dX11_lacks_1 : decode cX11_lacks 1 = .ok (.iload_n 1, 1) := by decide +kernel
theorem dX11_lacks_2 : decode cX11_lacks 2 = .ok (.invokevirtual 161, 3) := by decide +kernel
theorem dX11_lacks_5 : decode cX11_lacks 5 = .ok (.astore_n 3, 1) := by decide +kernel
theorem dX11_lacks_6 : decode cX11_lacks 6 = .ok (.aload_n 3, 1) := by decide +kernel
theorem dX11_lacks_7 : decode cX11_lacks 7 = .ok (.ifnull 15, 3) := by decide +kernel
theorem dX11_lacks_22 : decode cX11_lacks 22 = .ok (.iconst (-1), 1) := by decide +kernel
theorem dX11_lacks_23 : decode cX11_lacks 23 = .ok (.ireturn, 1) := by decide +kernel
theorem dX11_field_0 : decode cX11_field 0 = .ok (.aload_n 0, 1) := by decide +kernel
theorem dX11_field_1 : decode cX11_field 1 = .ok (.iload_n 1, 1) := by decide +kernel
theorem dX11_field_2 : decode cX11_field 2 = .ok (.invokevirtual 161, 3) := by decide +kernel
theorem dX11_field_5 : decode cX11_field 5 = .ok (.astore_n 3, 1) := by decide +kernel
theorem dX11_field_6 : decode cX11_field 6 = .ok (.aload_n 3, 1) := by decide +kernel
theorem dX11_field_7 : decode cX11_field 7 = .ok (.ifnull 10, 3) := by decide +kernel
theorem dX11_field_17 : decode cX11_field 17 = .ok (.iconst (-1), 1) := by decide +kernel
theorem dX11_field_18 : decode cX11_field 18 = .ok (.ireturn, 1) := by decide +kernel
theorem dX11_side_0 : decode cX11_side 0 = .ok (.aload_n 0, 1) := by decide +kernel
theorem dX11_side_1 : decode cX11_side 1 = .ok (.iload_n 1, 1) := by decide +kernel
theorem dX11_side_2 : decode cX11_side 2 = .ok (.invokevirtual 161, 3) := by decide +kernel
theorem dX11_side_5 : decode cX11_side 5 = .ok (.astore_n 3, 1) := by decide +kernel
theorem dX11_side_6 : decode cX11_side 6 = .ok (.aload_n 3, 1) := by decide +kernel
theorem dX11_side_7 : decode cX11_side 7 = .ok (.ifnull 12, 3) := by decide +kernel
theorem dX11_side_19 : decode cX11_side 19 = .ok (.iconst (-1), 1) := by decide +kernel
theorem dX11_side_20 : decode cX11_side 20 = .ok (.ireturn, 1) := by decide +kernel
theorem dX11_above_0 : decode cX11_above 0 = .ok (.aload_n 0, 1) := by decide +kernel
theorem dX11_above_1 : decode cX11_above 1 = .ok (.iload_n 1, 1) := by decide +kernel
theorem dX11_above_2 : decode cX11_above 2 = .ok (.invokevirtual 161, 3) := by decide +kernel
theorem dX11_above_5 : decode cX11_above 5 = .ok (.astore_n 3, 1) := by decide +kernel
theorem dX11_above_6 : decode cX11_above 6 = .ok (.aload_n 0, 1) := by decide +kernel
theorem dX11_above_7 : decode cX11_above 7 = .ok (.iload_n 2, 1) := by decide +kernel
theorem dX11_above_8 : decode cX11_above 8 = .ok (.invokevirtual 161, 3) := by decide +kernel
theorem dX11_above_11 : decode cX11_above 11 = .ok (.astore 4, 2) := by decide +kernel
theorem dX11_above_13 : decode cX11_above 13 = .ok (.aload_n 3, 1) := by decide +kernel
theorem dX11_above_14 : decode cX11_above 14 = .ok (.ifnull 8, 3) := by decide +kernel
theorem dX11_above_22 : decode cX11_above 22 = .ok (.iconst (-1), 1) := by decide +kernel
theorem dX11_above_23 : decode cX11_above 23 = .ok (.ireturn, 1) := by decide +kernel
theorem dX11_meets_0 : decode cX11_meets 0 = .ok (.aload_n 0, 1) := by decide +kernel
theorem dX11_meets_1 : decode cX11_meets 1 = .ok (.iload_n 1, 1) := by decide +kernel
theorem dX11_meets_2 : decode cX11_meets 2 = .ok (.invokevirtual 161, 3) := by decide +kernel
theorem dX11_meets_5 : decode cX11_meets 5 = .ok (.astore_n 3, 1) := by decide +kernel
theorem dX11_meets_6 : decode cX11_meets 6 = .ok (.aload_n 0, 1) := by decide +kernel
theorem dX11_meets_7 : decode cX11_meets 7 = .ok (.iload_n 2, 1) := by decide +kernel
theorem dX11_meets_8 : decode cX11_meets 8 = .ok (.invokevirtual 161, 3) := by decide +kernel
theorem dX11_meets_11 : decode cX11_meets 11 = .ok (.astore 4, 2) := by decide +kernel
theorem dX11_meets_13 : decode cX11_meets 13 = .ok (.aload_n 3, 1) := by decide +kernel
theorem dX11_meets_14 : decode cX11_meets 14 = .ok (.ifnull 8, 3) := by decide +kernel
theorem dX11_meets_22 : decode cX11_meets 22 = .ok (.iconst (-1), 1) := by decide +kernel
theorem dX11_meets_23 : decode cX11_meets 23 = .ok (.ireturn, 1) := by decide +kernel
theorem dX11_applies_0 : decode cX11_applies 0 = .ok (.aload_n 0, 1) := by decide +kernel
theorem dX11_applies_1 : decode cX11_applies 1 = .ok (.iload_n 1, 1) := by decide +kernel
theorem dX11_applies_2 : decode cX11_applies 2 = .ok (.invokevirtual 161, 3) := by decide +kernel
theorem dX11_applies_5 : decode cX11_applies 5 = .ok (.astore_n 3, 1) := by decide +kernel
theorem dX11_applies_6 : decode cX11_applies 6 = .ok (.aload_n 0, 1) := by decide +kernel
theorem dX11_applies_7 : decode cX11_applies 7 = .ok (.iload_n 2, 1) := by decide +kernel
theorem dX11_applies_8 : decode cX11_applies 8 = .ok (.invokevirtual 161, 3) := by decide +kernel
theorem dX11_applies_11 : decode cX11_applies 11 = .ok (.astore 4, 2) := by decide +kernel
theorem dX11_applies_13 : decode cX11_applies 13 = .ok (.aload_n 3, 1) := by decide +kernel
theorem dX11_applies_14 : decode cX11_applies 14 = .ok (.ifnull 8, 3) := by decide +kernel
theorem dX11_applies_22 : decode cX11_applies 22 = .ok (.iconst (-1), 1) := by decide +kernel
theorem dX11_applies_23 : decode cX11_applies 23 = .ok (.ireturn, 1) := by decide +kernel
theorem dX11_steps_0 : decode cX11_steps 0 = .ok (.aload_n 0, 1) := by decide +kernel
theorem dX11_steps_1 : decode cX11_steps 1 = .ok (.iload_n 1, 1) := by decide +kernel
theorem dX11_steps_2 : decode cX11_steps 2 = .ok (.invokevirtual 257, 3) := by decide +kernel
theorem dX11_steps_5 : decode cX11_steps 5 = .ok (.istore_n 2, 1) := by decide +kernel
theorem dX11_steps_6 : decode cX11_steps 6 = .ok (.iload_n 2, 1) := by decide +kernel
theorem dX11_steps_7 : decode cX11_steps 7 = .ok (.iconst (-1), 1) := by decide +kernel
theorem dX11_steps_8 : decode cX11_steps 8 = .ok (.if_icmp .ne 5, 3) := by decide +kernel
theorem dX11_steps_11 : decode cX11_steps 11 = .ok (.iconst (-1), 1) := by decide +kernel
theorem dX11_steps_12 : decode cX11_steps 12 = .ok (.ireturn, 1) := by decide +kernel
theorem dX11_parts_0 : decode cX11_parts 0 = .ok (.aload_n 0, 1) := by decide +kernel
theorem dX11_parts_1 : decode cX11_parts 1 = .ok (.iload_n 1, 1) := by decide +kernel
theorem dX11_parts_2 : decode cX11_parts 2 = .ok (.invokevirtual 257, 3) := by decide +kernel
theorem dX11_parts_5 : decode cX11_parts 5 = .ok (.istore_n 2, 1) := by decide +kernel
theorem dX11_parts_6 : decode cX11_parts 6 = .ok (.iload_n 2, 1) := by decide +kernel
theorem dX11_parts_7 : decode cX11_parts 7 = .ok (.iconst (-1), 1) := by decide +kernel
theorem dX11_parts_8 : decode cX11_parts 8 = .ok (.if_icmp .ne 5, 3) := by decide +kernel
theorem dX11_parts_11 : decode cX11_parts 11 = .ok (.iconst (-1), 1) := by decide +kernel
theorem dX11_parts_12 : decode cX11_parts 12 = .ok (.ireturn, 1) := by decide +kernel
theorem dX11_free_0 : decode cX11_free 0 = .ok (.aload_n 0, 1) := by decide +kernel
theorem dX11_free_1 : decode cX11_free 1 = .ok (.iload_n 1, 1) := by decide +kernel
theorem dX11_free_2 : decode cX11_free 2 = .ok (.invokevirtual 257, 3) := by decide +kernel
theorem dX11_free_5 : decode cX11_free 5 = .ok (.istore_n 2, 1) := by decide +kernel
theorem dX11_free_6 : decode cX11_free 6 = .ok (.iload_n 2, 1) := by decide +kernel
theorem dX11_free_7 : decode cX11_free 7 = .ok (.iconst (-1), 1) := by decide +kernel
theorem dX11_free_8 : decode cX11_free 8 = .ok (.if_icmp .ne 5, 3) := by decide +kernel
theorem dX11_free_11 : decode cX11_free 11 = .ok (.iconst (-1), 1) := by decide +kernel
theorem dX11_free_12 : decode cX11_free 12 = .ok (.ireturn, 1) := by decide +kernel
theorem dX11_part_0 : decode cX11_part 0 = .ok (.aload_n 0, 1) := by decide +kernel
theorem dX11_part_1 : decode cX11_part 1 = .ok (.iload_n 1, 1) := by decide +kernel
theorem dX11_part_2 : decode cX11_part 2 = .ok (.invokevirtual 257, 3) := by decide +kernel
theorem dX11_part_5 : decode cX11_part 5 = .ok (.istore_n 3, 1) := by decide +kernel
theorem dX11_part_6 : decode cX11_part 6 = .ok (.iload_n 3, 1) := by decide +kernel
theorem dX11_part_7 : decode cX11_part 7 = .ok (.iconst (-1), 1) := by decide +kernel
theorem dX11_part_8 : decode cX11_part 8 = .ok (.if_icmp .ne 5, 3) := by decide +kernel
theorem dX11_part_11 : decode cX11_part 11 = .ok (.iconst (-1), 1) := by decide +kernel
theorem dX11_part_12 : decode cX11_part 12 = .ok (.ireturn, 1) := by decide +kernel
theorem dX11_value_0 : decode cX11_value 0 = .ok (.aload_n 0, 1) := by decide +kernel
theorem dX11_value_1 : decode cX11_value 1 = .ok (.iload_n 1, 1) := by decide +kernel
theorem dX11_value_2 : decode cX11_value 2 = .ok (.invokevirtual 257, 3) := by decide +kernel
theorem dX11_value_5 : decode cX11_value 5 = .ok (.istore_n 3, 1) := by decide +kernel
theorem dX11_value_6 : decode cX11_value 6 = .ok (.iload_n 3, 1) := by decide +kernel
theorem dX11_value_7 : decode cX11_value 7 = .ok (.iconst (-1), 1) := by decide +kernel
theorem dX11_value_8 : decode cX11_value 8 = .ok (.if_icmp .eq 8, 3) := by decide +kernel
theorem dX11_value_16 : decode cX11_value 16 = .ok (.iconst (-1), 1) := by decide +kernel
theorem dX11_value_17 : decode cX11_value 17 = .ok (.ireturn, 1) := by decide +kernel
theorem dX11_taken_0 : decode cX11_taken 0 = .ok (.aload_n 0, 1) := by decide +kernel
theorem dX11_taken_1 : decode cX11_taken 1 = .ok (.iload_n 1, 1) := by decide +kernel
theorem dX11_taken_2 : decode cX11_taken 2 = .ok (.invokevirtual 257, 3) := by decide +kernel
theorem dX11_taken_5 : decode cX11_taken 5 = .ok (.istore_n 3, 1) := by decide +kernel
theorem dX11_taken_6 : decode cX11_taken 6 = .ok (.iload_n 3, 1) := by decide +kernel
theorem dX11_taken_7 : decode cX11_taken 7 = .ok (.iconst (-1), 1) := by decide +kernel
theorem dX11_taken_8 : decode cX11_taken 8 = .ok (.if_icmp .eq 10, 3) := by decide +kernel
theorem dX11_taken_18 : decode cX11_taken 18 = .ok (.iconst (-1), 1) := by decide +kernel
theorem dX11_taken_19 : decode cX11_taken 19 = .ok (.ireturn, 1) := by decide +kernel
theorem dX11_often_0 : decode cX11_often 0 = .ok (.aload_n 0, 1) := by decide +kernel
theorem dX11_often_1 : decode cX11_often 1 = .ok (.iload_n 1, 1) := by decide +kernel
theorem dX11_often_2 : decode cX11_often 2 = .ok (.invokevirtual 257, 3) := by decide +kernel
theorem dX11_often_5 : decode cX11_often 5 = .ok (.istore_n 3, 1) := by decide +kernel
theorem dX11_often_6 : decode cX11_often 6 = .ok (.iload_n 3, 1) := by decide +kernel
theorem dX11_often_7 : decode cX11_often 7 = .ok (.iconst (-1), 1) := by decide +kernel
theorem dX11_often_8 : decode cX11_often 8 = .ok (.if_icmp .eq 10, 3) := by decide +kernel
theorem dX11_often_18 : decode cX11_often 18 = .ok (.iconst (-1), 1) := by decide +kernel
theorem dX11_often_19 : decode cX11_often 19 = .ok (.ireturn, 1) := by decide +kernel
theorem dX11_end_0 : decode cX11_end 0 = .ok (.iload_n 1, 1) := by decide +kernel
theorem dX11_end_1 : decode cX11_end 1 = .ok (.ifCond .lt 11, 3) := by decide +kernel
theorem dX11_end_4 : decode cX11_end 4 = .ok (.iload_n 1, 1) := by decide +kernel
theorem dX11_end_5 : decode cX11_end 5 = .ok (.aload_n 0, 1) := by decide +kernel
theorem dX11_end_6 : decode cX11_end 6 = .ok (.getfield 99, 3) := by decide +kernel
theorem dX11_end_9 : decode cX11_end 9 = .ok (.if_icmp .le 5, 3) := by decide +kernel
theorem dX11_end_12 : decode cX11_end 12 = .ok (.iconst 0, 1) := by decide +kernel
theorem dX11_end_13 : decode cX11_end 13 = .ok (.ireturn, 1) := by decide +kernel
theorem dX11_end_14 : decode cX11_end 14 = .ok (.aload_n 0, 1) := by decide +kernel
theorem dX11_end_15 : decode cX11_end 15 = .ok (.iload_n 1, 1) := by decide +kernel
theorem dX11_end_16 : decode cX11_end 16 = .ok (.putfield 99, 3) := by decide +kernel
theorem dX11_end_19 : decode cX11_end 19 = .ok (.iconst 1, 1) := by decide +kernel
theorem dX11_end_20 : decode cX11_end 20 = .ok (.ireturn, 1) := by decide +kernel
theorem dX11_forgets_0 : decode cX11_forgets 0 = .ok (.iload_n 1, 1) := by decide +kernel
theorem dX11_forgets_1 : decode cX11_forgets 1 = .ok (.ifCond .lt 11, 3) := by decide +kernel
theorem dX11_forgets_4 : decode cX11_forgets 4 = .ok (.iload_n 1, 1) := by decide +kernel
theorem dX11_forgets_5 : decode cX11_forgets 5 = .ok (.aload_n 0, 1) := by decide +kernel
theorem dX11_forgets_6 : decode cX11_forgets 6 = .ok (.getfield 106, 3) := by decide +kernel
theorem dX11_forgets_9 : decode cX11_forgets 9 = .ok (.if_icmp .le 5, 3) := by decide +kernel
theorem dX11_forgets_12 : decode cX11_forgets 12 = .ok (.iconst (-1), 1) := by decide +kernel
theorem dX11_forgets_13 : decode cX11_forgets 13 = .ok (.ireturn, 1) := by decide +kernel
theorem dX11_forgets_14 : decode cX11_forgets 14 = .ok (.aload_n 0, 1) := by decide +kernel
theorem dX11_forgets_15 : decode cX11_forgets 15 = .ok (.getfield 144, 3) := by decide +kernel
theorem dX11_forgets_18 : decode cX11_forgets 18 = .ok (.ifCond .eq 56, 3) := by decide +kernel
theorem dX11_forgets_74 : decode cX11_forgets 74 = .ok (.aload_n 0, 1) := by decide +kernel
theorem dX11_forgets_75 : decode cX11_forgets 75 = .ok (.getfield 106, 3) := by decide +kernel
theorem dX11_forgets_78 : decode cX11_forgets 78 = .ok (.iload_n 1, 1) := by decide +kernel
theorem dX11_forgets_79 : decode cX11_forgets 79 = .ok (.isub, 1) := by decide +kernel
theorem dX11_forgets_80 : decode cX11_forgets 80 = .ok (.istore_n 2, 1) := by decide +kernel
theorem dX11_forgets_81 : decode cX11_forgets 81 = .ok (.aload_n 0, 1) := by decide +kernel
theorem dX11_forgets_82 : decode cX11_forgets 82 = .ok (.iload_n 1, 1) := by decide +kernel
theorem dX11_forgets_83 : decode cX11_forgets 83 = .ok (.putfield 106, 3) := by decide +kernel
theorem dX11_forgets_86 : decode cX11_forgets 86 = .ok (.aload_n 0, 1) := by decide +kernel
theorem dX11_forgets_87 : decode cX11_forgets 87 = .ok (.bipush 9, 2) := by decide +kernel
theorem dX11_forgets_89 : decode cX11_forgets 89 = .ok (.putfield 32, 3) := by decide +kernel
theorem dX11_forgets_92 : decode cX11_forgets 92 = .ok (.iload_n 2, 1) := by decide +kernel
theorem dX11_forgets_93 : decode cX11_forgets 93 = .ok (.ireturn, 1) := by decide +kernel
theorem dX11_count_0 : decode cX11_count 0 = .ok (.iload_n 1, 1) := by decide +kernel
theorem dX11_count_1 : decode cX11_count 1 = .ok (.tableswitch 76 0 4 #[35, 40, 53, 66, 71], 35) := by decide +kernel
theorem dX11_count_36 : decode cX11_count 36 = .ok (.aload_n 0, 1) := by decide +kernel
theorem dX11_count_37 : decode cX11_count 37 = .ok (.getfield 106, 3) := by decide +kernel
theorem dX11_count_40 : decode cX11_count 40 = .ok (.ireturn, 1) := by decide +kernel
theorem dX11_count_41 : decode cX11_count 41 = .ok (.aload_n 0, 1) := by decide +kernel
theorem dX11_count_42 : decode cX11_count 42 = .ok (.getfield 144, 3) := by decide +kernel
theorem dX11_count_45 : decode cX11_count 45 = .ok (.ifCond .eq 7, 3) := by decide +kernel
theorem dX11_count_52 : decode cX11_count 52 = .ok (.iconst 0, 1) := by decide +kernel
theorem dX11_count_53 : decode cX11_count 53 = .ok (.ireturn, 1) := by decide +kernel
theorem dX11_count_54 : decode cX11_count 54 = .ok (.aload_n 0, 1) := by decide +kernel
theorem dX11_count_55 : decode cX11_count 55 = .ok (.getfield 295, 3) := by decide +kernel
theorem dX11_count_58 : decode cX11_count 58 = .ok (.ifCond .eq 7, 3) := by decide +kernel
theorem dX11_count_65 : decode cX11_count 65 = .ok (.iconst 0, 1) := by decide +kernel
theorem dX11_count_66 : decode cX11_count 66 = .ok (.ireturn, 1) := by decide +kernel
theorem dX11_count_67 : decode cX11_count 67 = .ok (.aload_n 0, 1) := by decide +kernel
theorem dX11_count_68 : decode cX11_count 68 = .ok (.getfield 298, 3) := by decide +kernel
theorem dX11_count_71 : decode cX11_count 71 = .ok (.ireturn, 1) := by decide +kernel
theorem dX11_count_72 : decode cX11_count 72 = .ok (.aload_n 0, 1) := by decide +kernel
theorem dX11_count_73 : decode cX11_count 73 = .ok (.getfield 99, 3) := by decide +kernel
theorem dX11_count_76 : decode cX11_count 76 = .ok (.ireturn, 1) := by decide +kernel
theorem dX11_count_77 : decode cX11_count 77 = .ok (.iconst (-1), 1) := by decide +kernel
theorem dX11_count_78 : decode cX11_count 78 = .ok (.ireturn, 1) := by decide +kernel
theorem dX11_sign_0 : decode cX11_sign 0 = .ok (.aload_n 0, 1) := by decide +kernel
theorem dX11_sign_1 : decode cX11_sign 1 = .ok (.getfield 99, 3) := by decide +kernel
theorem dX11_sign_4 : decode cX11_sign 4 = .ok (.iconst 4, 1) := by decide +kernel
theorem dX11_sign_5 : decode cX11_sign 5 = .ok (.iadd, 1) := by decide +kernel
theorem dX11_sign_6 : decode cX11_sign 6 = .ok (.bipush 100, 2) := by decide +kernel
theorem dX11_sign_8 : decode cX11_sign 8 = .ok (.if_icmp .le 5, 3) := by decide +kernel
theorem dX11_sign_13 : decode cX11_sign 13 = .ok (.bipush 24, 2) := by decide +kernel
theorem dX11_sign_15 : decode cX11_sign 15 = .ok (.istore_n 2, 1) := by decide +kernel
theorem dX11_sign_16 : decode cX11_sign 16 = .ok (.iload_n 2, 1) := by decide +kernel
theorem dX11_sign_17 : decode cX11_sign 17 = .ok (.ifCond .lt 35, 3) := by decide +kernel
theorem dX11_sign_20 : decode cX11_sign 20 = .ok (.aload_n 0, 1) := by decide +kernel
theorem dX11_sign_21 : decode cX11_sign 21 = .ok (.getfield 9, 3) := by decide +kernel
theorem dX11_sign_24 : decode cX11_sign 24 = .ok (.aload_n 0, 1) := by decide +kernel
theorem dX11_sign_25 : decode cX11_sign 25 = .ok (.getfield 99, 3) := by decide +kernel
theorem dX11_sign_28 : decode cX11_sign 28 = .ok (.iload_n 1, 1) := by decide +kernel
theorem dX11_sign_29 : decode cX11_sign 29 = .ok (.iload_n 2, 1) := by decide +kernel
theorem dX11_sign_30 : decode cX11_sign 30 = .ok (.iushr, 1) := by decide +kernel
theorem dX11_sign_31 : decode cX11_sign 31 = .ok (.sipush 255, 3) := by decide +kernel
theorem dX11_sign_34 : decode cX11_sign 34 = .ok (.iand, 1) := by decide +kernel
theorem dX11_sign_35 : decode cX11_sign 35 = .ok (.iastore, 1) := by decide +kernel
theorem dX11_sign_36 : decode cX11_sign 36 = .ok (.aload_n 0, 1) := by decide +kernel
theorem dX11_sign_37 : decode cX11_sign 37 = .ok (.dup, 1) := by decide +kernel
theorem dX11_sign_38 : decode cX11_sign 38 = .ok (.getfield 99, 3) := by decide +kernel
theorem dX11_sign_41 : decode cX11_sign 41 = .ok (.iconst 1, 1) := by decide +kernel
theorem dX11_sign_42 : decode cX11_sign 42 = .ok (.iadd, 1) := by decide +kernel
theorem dX11_sign_43 : decode cX11_sign 43 = .ok (.putfield 99, 3) := by decide +kernel
theorem dX11_sign_46 : decode cX11_sign 46 = .ok (.iinc 2 (-8), 3) := by decide +kernel
theorem dX11_sign_49 : decode cX11_sign 49 = .ok (.goto (-33), 3) := by decide +kernel
theorem dX11_sign_52 : decode cX11_sign 52 = .ok (.aload_n 0, 1) := by decide +kernel
theorem dX11_sign_53 : decode cX11_sign 53 = .ok (.getfield 99, 3) := by decide +kernel
theorem dX11_sign_56 : decode cX11_sign 56 = .ok (.ireturn, 1) := by decide +kernel
theorem dX0_take_0 : decode cX0_take 0 = .ok (.aload_n 0, 1) := by decide +kernel
theorem dX0_take_1 : decode cX0_take 1 = .ok (.iconst 0, 1) := by decide +kernel
theorem dX0_take_2 : decode cX0_take 2 = .ok (.putfield 28, 3) := by decide +kernel
theorem dX0_take_5 : decode cX0_take 5 = .ok (.iconst 0, 1) := by decide +kernel
theorem dX0_take_6 : decode cX0_take 6 = .ok (.istore_n 3, 1) := by decide +kernel
theorem dX0_take_7 : decode cX0_take 7 = .ok (.iload_n 3, 1) := by decide +kernel
theorem dX0_take_8 : decode cX0_take 8 = .ok (.iload_n 2, 1) := by decide +kernel
theorem dX0_take_9 : decode cX0_take 9 = .ok (.if_icmp .ge 54, 3) := by decide +kernel
theorem dX0_take_63 : decode cX0_take 63 = .ok (.return_, 1) := by decide +kernel
theorem dX2_clear_0 : decode cX2_clear 0 = .ok (.aload_n 0, 1) := by decide +kernel
theorem dX2_clear_1 : decode cX2_clear 1 = .ok (.iconst 0, 1) := by decide +kernel
theorem dX2_clear_2 : decode cX2_clear 2 = .ok (.putfield 15, 3) := by decide +kernel
theorem dX2_clear_5 : decode cX2_clear 5 = .ok (.return_, 1) := by decide +kernel
theorem dX2_push_0 : decode cX2_push 0 = .ok (.aload_n 0, 1) := by decide +kernel
theorem dX2_push_1 : decode cX2_push 1 = .ok (.getfield 15, 3) := by decide +kernel
theorem dX2_push_4 : decode cX2_push 4 = .ok (.ldc 19, 2) := by decide +kernel
theorem dX2_push_6 : decode cX2_push 6 = .ok (.if_icmp .lt 4, 3) := by decide +kernel
theorem dX2_push_10 : decode cX2_push 10 = .ok (.aload_n 0, 1) := by decide +kernel
theorem dX2_push_11 : decode cX2_push 11 = .ok (.getfield 15, 3) := by decide +kernel
theorem dX2_push_14 : decode cX2_push 14 = .ok (.aload_n 0, 1) := by decide +kernel
theorem dX2_push_15 : decode cX2_push 15 = .ok (.getfield 9, 3) := by decide +kernel
theorem dX2_push_18 : decode cX2_push 18 = .ok (.arraylength, 1) := by decide +kernel
theorem dX2_push_19 : decode cX2_push 19 = .ok (.if_icmp .lt 20, 3) := by decide +kernel
theorem dX2_push_39 : decode cX2_push 39 = .ok (.aload_n 0, 1) := by decide +kernel
theorem dX2_push_40 : decode cX2_push 40 = .ok (.getfield 9, 3) := by decide +kernel
theorem dX2_push_43 : decode cX2_push 43 = .ok (.aload_n 0, 1) := by decide +kernel
theorem dX2_push_44 : decode cX2_push 44 = .ok (.getfield 15, 3) := by decide +kernel
theorem dX2_push_47 : decode cX2_push 47 = .ok (.iload_n 1, 1) := by decide +kernel
theorem dX2_push_48 : decode cX2_push 48 = .ok (.iastore, 1) := by decide +kernel
theorem dX2_push_49 : decode cX2_push 49 = .ok (.aload_n 0, 1) := by decide +kernel
theorem dX2_push_50 : decode cX2_push 50 = .ok (.dup, 1) := by decide +kernel
theorem dX2_push_51 : decode cX2_push 51 = .ok (.getfield 15, 3) := by decide +kernel
theorem dX2_push_54 : decode cX2_push 54 = .ok (.iconst 1, 1) := by decide +kernel
theorem dX2_push_55 : decode cX2_push 55 = .ok (.iadd, 1) := by decide +kernel
theorem dX2_push_56 : decode cX2_push 56 = .ok (.putfield 15, 3) := by decide +kernel
theorem dX2_push_59 : decode cX2_push 59 = .ok (.return_, 1) := by decide +kernel
theorem dX2_length_0 : decode cX2_length 0 = .ok (.aload_n 0, 1) := by decide +kernel
theorem dX2_length_1 : decode cX2_length 1 = .ok (.getfield 15, 3) := by decide +kernel
theorem dX2_length_4 : decode cX2_length 4 = .ok (.ireturn, 1) := by decide +kernel
theorem dX2_pop_0 : decode cX2_pop 0 = .ok (.aload_n 0, 1) := by decide +kernel
theorem dX2_pop_1 : decode cX2_pop 1 = .ok (.getfield 15, 3) := by decide +kernel
theorem dX2_pop_4 : decode cX2_pop 4 = .ok (.ifCond .ne 5, 3) := by decide +kernel
theorem dX2_pop_9 : decode cX2_pop 9 = .ok (.aload_n 0, 1) := by decide +kernel
theorem dX2_pop_10 : decode cX2_pop 10 = .ok (.dup, 1) := by decide +kernel
theorem dX2_pop_11 : decode cX2_pop 11 = .ok (.getfield 15, 3) := by decide +kernel
theorem dX2_pop_14 : decode cX2_pop 14 = .ok (.iconst 1, 1) := by decide +kernel
theorem dX2_pop_15 : decode cX2_pop 15 = .ok (.isub, 1) := by decide +kernel
theorem dX2_pop_16 : decode cX2_pop 16 = .ok (.putfield 15, 3) := by decide +kernel
theorem dX2_pop_19 : decode cX2_pop 19 = .ok (.aload_n 0, 1) := by decide +kernel
theorem dX2_pop_20 : decode cX2_pop 20 = .ok (.getfield 9, 3) := by decide +kernel
theorem dX2_pop_23 : decode cX2_pop 23 = .ok (.aload_n 0, 1) := by decide +kernel
theorem dX2_pop_24 : decode cX2_pop 24 = .ok (.getfield 15, 3) := by decide +kernel
theorem dX2_pop_27 : decode cX2_pop 27 = .ok (.iaload, 1) := by decide +kernel
theorem dX2_pop_28 : decode cX2_pop 28 = .ok (.ireturn, 1) := by decide +kernel
theorem dX0_signAt_0 : decode cX0_signAt 0 = .ok (.iload_n 1, 1) := by decide +kernel
theorem dX0_signAt_1 : decode cX0_signAt 1 = .ok (.ifCond .lt 20, 3) := by decide +kernel
theorem dX0_signAt_4 : decode cX0_signAt 4 = .ok (.iload_n 1, 1) := by decide +kernel
theorem dX0_signAt_5 : decode cX0_signAt 5 = .ok (.aload_n 0, 1) := by decide +kernel
theorem dX0_signAt_6 : decode cX0_signAt 6 = .ok (.getfield 28, 3) := by decide +kernel
theorem dX0_signAt_9 : decode cX0_signAt 9 = .ok (.if_icmp .ge 12, 3) := by decide +kernel
theorem dX0_signAt_21 : decode cX0_signAt 21 = .ok (.iconst (-1), 1) := by decide +kernel
theorem dX0_signAt_22 : decode cX0_signAt 22 = .ok (.ireturn, 1) := by decide +kernel
theorem dX11_nameBit_0 : decode cX11_nameBit 0 = .ok (.iload_n 0, 1) := by decide +kernel
theorem dX11_nameBit_1 : decode cX11_nameBit 1 = .ok (.bipush 97, 2) := by decide +kernel
theorem dX11_nameBit_3 : decode cX11_nameBit 3 = .ok (.if_icmp .lt 18, 3) := by decide +kernel
theorem dX11_nameBit_21 : decode cX11_nameBit 21 = .ok (.iconst 0, 1) := by decide +kernel
theorem dX11_nameBit_22 : decode cX11_nameBit 22 = .ok (.ireturn, 1) := by decide +kernel
theorem dX6_kindOf_0 : decode cX6_kindOf 0 = .ok (.iload_n 0, 1) := by decide +kernel
theorem dX6_kindOf_1 : decode cX6_kindOf 1 = .ok (.bipush 48, 2) := by decide +kernel
theorem dX6_kindOf_3 : decode cX6_kindOf 3 = .ok (.if_icmp .lt 11, 3) := by decide +kernel
theorem dX6_kindOf_14 : decode cX6_kindOf 14 = .ok (.iload_n 0, 1) := by decide +kernel
theorem dX6_kindOf_15 : decode cX6_kindOf 15 = .ok (.invokestatic 83, 3) := by decide +kernel
theorem dX6_kindOf_18 : decode cX6_kindOf 18 = .ok (.ifCond .eq 5, 3) := by decide +kernel
theorem dX6_kindOf_23 : decode cX6_kindOf 23 = .ok (.iload_n 0, 1) := by decide +kernel
theorem dX6_kindOf_24 : decode cX6_kindOf 24 = .ok (.lookupswitch 123 #[(35, 111), (36, 96), (38, 114), (40, 94), (45, 111), (60, 117), (63, 120), (92, 92), (123, 98), (126, 111)], 92) := by decide +kernel
theorem dX6_kindOf_147 : decode cX6_kindOf 147 = .ok (.iconst (-1), 1) := by decide +kernel
theorem dX6_kindOf_148 : decode cX6_kindOf 148 = .ok (.ireturn, 1) := by decide +kernel
theorem dX6_acceptsExpression_0 : decode cX6_acceptsExpression 0 = .ok (.aload_n 0, 1) := by decide +kernel
theorem dX6_acceptsExpression_1 : decode cX6_acceptsExpression 1 = .ok (.getfield 25, 3) := by decide +kernel
theorem dX6_acceptsExpression_4 : decode cX6_acceptsExpression 4 = .ok (.aload_n 0, 1) := by decide +kernel
theorem dX6_acceptsExpression_5 : decode cX6_acceptsExpression 5 = .ok (.getfield 35, 3) := by decide +kernel
theorem dX6_acceptsExpression_8 : decode cX6_acceptsExpression 8 = .ok (.invokevirtual 73, 3) := by decide +kernel
theorem dX6_acceptsExpression_11 : decode cX6_acceptsExpression 11 = .ok (.aload_n 0, 1) := by decide +kernel
theorem dX6_acceptsExpression_12 : decode cX6_acceptsExpression 12 = .ok (.getfield 25, 3) := by decide +kernel
theorem dX6_acceptsExpression_15 : decode cX6_acceptsExpression 15 = .ok (.aload_n 0, 1) := by decide +kernel
theorem dX6_acceptsExpression_16 : decode cX6_acceptsExpression 16 = .ok (.getfield 35, 3) := by decide +kernel
theorem dX6_acceptsExpression_19 : decode cX6_acceptsExpression 19 = .ok (.iconst 1, 1) := by decide +kernel
theorem dX6_acceptsExpression_20 : decode cX6_acceptsExpression 20 = .ok (.iadd, 1) := by decide +kernel
theorem dX6_acceptsExpression_21 : decode cX6_acceptsExpression 21 = .ok (.invokevirtual 73, 3) := by decide +kernel
theorem dX6_acceptsExpression_24 : decode cX6_acceptsExpression 24 = .ok (.invokestatic 86, 3) := by decide +kernel
theorem dX6_acceptsExpression_27 : decode cX6_acceptsExpression 27 = .ok (.istore_n 1, 1) := by decide +kernel
theorem dX6_acceptsExpression_28 : decode cX6_acceptsExpression 28 = .ok (.iload_n 1, 1) := by decide +kernel
theorem dX6_acceptsExpression_29 : decode cX6_acceptsExpression 29 = .ok (.iconst (-1), 1) := by decide +kernel
theorem dX6_acceptsExpression_30 : decode cX6_acceptsExpression 30 = .ok (.if_icmp .ne 5, 3) := by decide +kernel
theorem dX6_acceptsExpression_33 : decode cX6_acceptsExpression 33 = .ok (.iconst 0, 1) := by decide +kernel
theorem dX6_acceptsExpression_34 : decode cX6_acceptsExpression 34 = .ok (.ireturn, 1) := by decide +kernel
theorem dX6_accepts_0 : decode cX6_accepts 0 = .ok (.iload_n 1, 1) := by decide +kernel
theorem dX6_accepts_1 : decode cX6_accepts 1 = .ok (.lookupswitch 77 #[(66, 65), (67, 71), (69, 43), (83, 48)], 43) := by decide +kernel
theorem dX6_accepts_44 : decode cX6_accepts 44 = .ok (.aload_n 0, 1) := by decide +kernel
theorem dX6_accepts_45 : decode cX6_accepts 45 = .ok (.invokevirtual 58, 3) := by decide +kernel
theorem dX6_accepts_48 : decode cX6_accepts 48 = .ok (.ireturn, 1) := by decide +kernel
theorem dX6_read_0 : decode cX6_read 0 = .ok (.aload_n 0, 1) := by decide +kernel
theorem dX6_read_1 : decode cX6_read 1 = .ok (.aload_n 3, 1) := by decide +kernel
theorem dX6_read_2 : decode cX6_read 2 = .ok (.putfield 25, 3) := by decide +kernel
theorem dX6_read_5 : decode cX6_read 5 = .ok (.aload_n 0, 1) := by decide +kernel
theorem dX6_read_6 : decode cX6_read 6 = .ok (.getfield 25, 3) := by decide +kernel
theorem dX6_read_9 : decode cX6_read 9 = .ok (.aload_n 1, 1) := by decide +kernel
theorem dX6_read_10 : decode cX6_read 10 = .ok (.iload_n 2, 1) := by decide +kernel
theorem dX6_read_11 : decode cX6_read 11 = .ok (.invokevirtual 29, 3) := by decide +kernel
theorem dX6_read_14 : decode cX6_read 14 = .ok (.aload_n 0, 1) := by decide +kernel
theorem dX6_read_15 : decode cX6_read 15 = .ok (.iconst 0, 1) := by decide +kernel
theorem dX6_read_16 : decode cX6_read 16 = .ok (.putfield 35, 3) := by decide +kernel
theorem dX6_read_19 : decode cX6_read 19 = .ok (.aload_n 0, 1) := by decide +kernel
theorem dX6_read_20 : decode cX6_read 20 = .ok (.getfield 12, 3) := by decide +kernel
theorem dX6_read_23 : decode cX6_read 23 = .ok (.invokevirtual 39, 3) := by decide +kernel
theorem dX6_read_26 : decode cX6_read 26 = .ok (.aload_n 0, 1) := by decide +kernel
theorem dX6_read_27 : decode cX6_read 27 = .ok (.getfield 12, 3) := by decide +kernel
theorem dX6_read_30 : decode cX6_read 30 = .ok (.bipush 69, 2) := by decide +kernel
theorem dX6_read_32 : decode cX6_read 32 = .ok (.invokevirtual 42, 3) := by decide +kernel
theorem dX6_read_35 : decode cX6_read 35 = .ok (.iconst 0, 1) := by decide +kernel
theorem dX6_read_36 : decode cX6_read 36 = .ok (.istore 4, 2) := by decide +kernel
theorem dX6_read_38 : decode cX6_read 38 = .ok (.iload 4, 2) := by decide +kernel
theorem dX6_read_40 : decode cX6_read 40 = .ok (.ldc 46, 2) := by decide +kernel
theorem dX6_read_42 : decode cX6_read 42 = .ok (.if_icmp .ge 51, 3) := by decide +kernel
theorem dX6_read_45 : decode cX6_read 45 = .ok (.aload_n 0, 1) := by decide +kernel
theorem dX6_read_46 : decode cX6_read 46 = .ok (.getfield 12, 3) := by decide +kernel
theorem dX6_read_49 : decode cX6_read 49 = .ok (.invokevirtual 47, 3) := by decide +kernel
theorem dX6_read_52 : decode cX6_read 52 = .ok (.ifCond .le 41, 3) := by decide +kernel
theorem dX6_read_55 : decode cX6_read 55 = .ok (.aload_n 0, 1) := by decide +kernel
theorem dX6_read_56 : decode cX6_read 56 = .ok (.getfield 12, 3) := by decide +kernel
theorem dX6_read_59 : decode cX6_read 59 = .ok (.invokevirtual 51, 3) := by decide +kernel
theorem dX6_read_62 : decode cX6_read 62 = .ok (.istore 5, 2) := by decide +kernel
theorem dX6_read_64 : decode cX6_read 64 = .ok (.aload_n 0, 1) := by decide +kernel
theorem dX6_read_65 : decode cX6_read 65 = .ok (.iload 5, 2) := by decide +kernel
theorem dX6_read_67 : decode cX6_read 67 = .ok (.sipush 255, 3) := by decide +kernel
theorem dX6_read_70 : decode cX6_read 70 = .ok (.iand, 1) := by decide +kernel
theorem dX6_read_71 : decode cX6_read 71 = .ok (.iload 5, 2) := by decide +kernel
theorem dX6_read_73 : decode cX6_read 73 = .ok (.bipush 8, 2) := by decide +kernel
theorem dX6_read_75 : decode cX6_read 75 = .ok (.ishr, 1) := by decide +kernel
theorem dX6_read_76 : decode cX6_read 76 = .ok (.invokevirtual 54, 3) := by decide +kernel
theorem dX6_read_79 : decode cX6_read 79 = .ok (.ifCond .ne 8, 3) := by decide +kernel
theorem dX6_read_82 : decode cX6_read 82 = .ok (.aload_n 0, 1) := by decide +kernel
theorem dX6_read_83 : decode cX6_read 83 = .ok (.getfield 35, 3) := by decide +kernel
theorem dX6_read_86 : decode cX6_read 86 = .ok (.ireturn, 1) := by decide +kernel
theorem dX11_readText_0 : decode cX11_readText 0 = .ok (.aload_n 0, 1) := by decide +kernel
theorem dX11_readText_1 : decode cX11_readText 1 = .ok (.getfield 99, 3) := by decide +kernel
theorem dX11_readText_4 : decode cX11_readText 4 = .ok (.istore_n 1, 1) := by decide +kernel
theorem dX11_readText_5 : decode cX11_readText 5 = .ok (.aload_n 0, 1) := by decide +kernel
theorem dX11_readText_6 : decode cX11_readText 6 = .ok (.iconst 0, 1) := by decide +kernel
theorem dX11_readText_7 : decode cX11_readText 7 = .ok (.putfield 99, 3) := by decide +kernel
theorem dX11_readText_10 : decode cX11_readText 10 = .ok (.aload_n 0, 1) := by decide +kernel
theorem dX11_readText_11 : decode cX11_readText 11 = .ok (.getfield 39, 3) := by decide +kernel
theorem dX11_readText_14 : decode cX11_readText 14 = .ok (.aload_n 0, 1) := by decide +kernel
theorem dX11_readText_15 : decode cX11_readText 15 = .ok (.getfield 9, 3) := by decide +kernel
theorem dX11_readText_18 : decode cX11_readText 18 = .ok (.iload_n 1, 1) := by decide +kernel
theorem dX11_readText_19 : decode cX11_readText 19 = .ok (.aload_n 0, 1) := by decide +kernel
theorem dX11_readText_20 : decode cX11_readText 20 = .ok (.getfield 15, 3) := by decide +kernel
theorem dX11_readText_23 : decode cX11_readText 23 = .ok (.bipush 9, 2) := by decide +kernel
theorem dX11_readText_25 : decode cX11_readText 25 = .ok (.aaload, 1) := by decide +kernel
theorem dX11_readText_26 : decode cX11_readText 26 = .ok (.invokevirtual 304, 3) := by decide +kernel
theorem dX11_readText_29 : decode cX11_readText 29 = .ok (.ireturn, 1) := by decide +kernel
theorem dX11_infers_0 : decode cX11_infers 0 = .ok (.aload_n 0, 1) := by decide +kernel
theorem dX11_infers_1 : decode cX11_infers 1 = .ok (.invokevirtual 102, 3) := by decide +kernel
theorem dX11_infers_4 : decode cX11_infers 4 = .ok (.istore_n 1, 1) := by decide +kernel
theorem dX11_infers_5 : decode cX11_infers 5 = .ok (.iload_n 1, 1) := by decide +kernel
theorem dX11_infers_6 : decode cX11_infers 6 = .ok (.iconst (-1), 1) := by decide +kernel
theorem dX11_infers_7 : decode cX11_infers 7 = .ok (.if_icmp .eq 7, 3) := by decide +kernel
theorem dX11_infers_10 : decode cX11_infers 10 = .ok (.iconst (-1), 1) := by decide +kernel
theorem dX11_infers_11 : decode cX11_infers 11 = .ok (.iload_n 1, 1) := by decide +kernel
theorem dX11_infers_12 : decode cX11_infers 12 = .ok (.isub, 1) := by decide +kernel
theorem dX11_infers_13 : decode cX11_infers 13 = .ok (.ireturn, 1) := by decide +kernel
theorem dX11_defines_0 : decode cX11_defines 0 = .ok (.aload_n 0, 1) := by decide +kernel
theorem dX11_defines_1 : decode cX11_defines 1 = .ok (.invokevirtual 102, 3) := by decide +kernel
theorem dX11_defines_4 : decode cX11_defines 4 = .ok (.istore_n 1, 1) := by decide +kernel
theorem dX11_defines_5 : decode cX11_defines 5 = .ok (.iload_n 1, 1) := by decide +kernel
theorem dX11_defines_6 : decode cX11_defines 6 = .ok (.iconst (-1), 1) := by decide +kernel
theorem dX11_defines_7 : decode cX11_defines 7 = .ok (.if_icmp .eq 7, 3) := by decide +kernel
theorem dX11_defines_10 : decode cX11_defines 10 = .ok (.iconst (-1), 1) := by decide +kernel
theorem dX11_defines_11 : decode cX11_defines 11 = .ok (.iload_n 1, 1) := by decide +kernel
theorem dX11_defines_12 : decode cX11_defines 12 = .ok (.isub, 1) := by decide +kernel
theorem dX11_defines_13 : decode cX11_defines 13 = .ok (.ireturn, 1) := by decide +kernel
theorem dX12_init_0 : decode cX12_init 0 = .ok (.aload_n 0, 1) := by decide +kernel
theorem dX12_init_1 : decode cX12_init 1 = .ok (.invokespecial 1, 3) := by decide +kernel
theorem dX12_init_4 : decode cX12_init 4 = .ok (.aload_n 0, 1) := by decide +kernel
theorem dX12_init_5 : decode cX12_init 5 = .ok (.bipush 100, 2) := by decide +kernel
theorem dX12_init_7 : decode cX12_init 7 = .ok (.newarray .byte, 2) := by decide +kernel
theorem dX12_init_9 : decode cX12_init 9 = .ok (.putfield 9, 3) := by decide +kernel
theorem dX12_init_12 : decode cX12_init 12 = .ok (.aload_n 0, 1) := by decide +kernel
theorem dX12_init_13 : decode cX12_init 13 = .ok (.bipush 32, 2) := by decide +kernel
theorem dX12_init_15 : decode cX12_init 15 = .ok (.newarray .long, 2) := by decide +kernel
theorem dX12_init_17 : decode cX12_init 17 = .ok (.putfield 13, 3) := by decide +kernel
theorem dX12_init_20 : decode cX12_init 20 = .ok (.aload_n 0, 1) := by decide +kernel
theorem dX12_init_21 : decode cX12_init 21 = .ok (.sipush 1000, 3) := by decide +kernel
theorem dX12_init_24 : decode cX12_init 24 = .ok (.newarray .int, 2) := by decide +kernel
theorem dX12_init_26 : decode cX12_init 26 = .ok (.putfield 17, 3) := by decide +kernel
theorem dX12_init_29 : decode cX12_init 29 = .ok (.aload_n 0, 1) := by decide +kernel
theorem dX12_init_30 : decode cX12_init 30 = .ok (.sipush 1000, 3) := by decide +kernel
theorem dX12_init_33 : decode cX12_init 33 = .ok (.newarray .int, 2) := by decide +kernel
theorem dX12_init_35 : decode cX12_init 35 = .ok (.putfield 21, 3) := by decide +kernel
theorem dX12_init_38 : decode cX12_init 38 = .ok (.aload_n 0, 1) := by decide +kernel
theorem dX12_init_39 : decode cX12_init 39 = .ok (.sipush 1000, 3) := by decide +kernel
theorem dX12_init_42 : decode cX12_init 42 = .ok (.newarray .int, 2) := by decide +kernel
theorem dX12_init_44 : decode cX12_init 44 = .ok (.putfield 24, 3) := by decide +kernel
theorem dX12_init_47 : decode cX12_init 47 = .ok (.aload_n 0, 1) := by decide +kernel
theorem dX12_init_48 : decode cX12_init 48 = .ok (.sipush 1000, 3) := by decide +kernel
theorem dX12_init_51 : decode cX12_init 51 = .ok (.newarray .int, 2) := by decide +kernel
theorem dX12_init_53 : decode cX12_init 53 = .ok (.putfield 27, 3) := by decide +kernel
theorem dX12_init_56 : decode cX12_init 56 = .ok (.aload_n 0, 1) := by decide +kernel
theorem dX12_init_57 : decode cX12_init 57 = .ok (.sipush 1000, 3) := by decide +kernel
theorem dX12_init_60 : decode cX12_init 60 = .ok (.newarray .int, 2) := by decide +kernel
theorem dX12_init_62 : decode cX12_init 62 = .ok (.putfield 30, 3) := by decide +kernel
theorem dX12_init_65 : decode cX12_init 65 = .ok (.aload_n 0, 1) := by decide +kernel
theorem dX12_init_66 : decode cX12_init 66 = .ok (.sipush 1000, 3) := by decide +kernel
theorem dX12_init_69 : decode cX12_init 69 = .ok (.newarray .int, 2) := by decide +kernel
theorem dX12_init_71 : decode cX12_init 71 = .ok (.putfield 33, 3) := by decide +kernel
theorem dX12_init_74 : decode cX12_init 74 = .ok (.aload_n 0, 1) := by decide +kernel
theorem dX12_init_75 : decode cX12_init 75 = .ok (.sipush 1000, 3) := by decide +kernel
theorem dX12_init_78 : decode cX12_init 78 = .ok (.newarray .int, 2) := by decide +kernel
theorem dX12_init_80 : decode cX12_init 80 = .ok (.putfield 36, 3) := by decide +kernel
theorem dX12_init_83 : decode cX12_init 83 = .ok (.aload_n 0, 1) := by decide +kernel
theorem dX12_init_84 : decode cX12_init 84 = .ok (.sipush 1000, 3) := by decide +kernel
theorem dX12_init_87 : decode cX12_init 87 = .ok (.newarray .int, 2) := by decide +kernel
theorem dX12_init_89 : decode cX12_init 89 = .ok (.putfield 39, 3) := by decide +kernel
theorem dX12_init_92 : decode cX12_init 92 = .ok (.aload_n 0, 1) := by decide +kernel
theorem dX12_init_93 : decode cX12_init 93 = .ok (.bipush 10, 2) := by decide +kernel
theorem dX12_init_95 : decode cX12_init 95 = .ok (.newarray .int, 2) := by decide +kernel
theorem dX12_init_97 : decode cX12_init 97 = .ok (.putfield 42, 3) := by decide +kernel
theorem dX12_init_100 : decode cX12_init 100 = .ok (.aload_n 0, 1) := by decide +kernel
theorem dX12_init_101 : decode cX12_init 101 = .ok (.bipush 10, 2) := by decide +kernel
theorem dX12_init_103 : decode cX12_init 103 = .ok (.newarray .int, 2) := by decide +kernel
theorem dX12_init_105 : decode cX12_init 105 = .ok (.putfield 45, 3) := by decide +kernel
theorem dX12_init_108 : decode cX12_init 108 = .ok (.aload_n 0, 1) := by decide +kernel
theorem dX12_init_109 : decode cX12_init 109 = .ok (.sipush 20000, 3) := by decide +kernel
theorem dX12_init_112 : decode cX12_init 112 = .ok (.newarray .int, 2) := by decide +kernel
theorem dX12_init_114 : decode cX12_init 114 = .ok (.putfield 48, 3) := by decide +kernel
theorem dX12_init_117 : decode cX12_init 117 = .ok (.aload_n 0, 1) := by decide +kernel
theorem dX12_init_118 : decode cX12_init 118 = .ok (.sipush 20000, 3) := by decide +kernel
theorem dX12_init_121 : decode cX12_init 121 = .ok (.newarray .int, 2) := by decide +kernel
theorem dX12_init_123 : decode cX12_init 123 = .ok (.putfield 51, 3) := by decide +kernel
theorem dX12_init_126 : decode cX12_init 126 = .ok (.aload_n 0, 1) := by decide +kernel
theorem dX12_init_127 : decode cX12_init 127 = .ok (.sipush 20000, 3) := by decide +kernel
theorem dX12_init_130 : decode cX12_init 130 = .ok (.newarray .int, 2) := by decide +kernel
theorem dX12_init_132 : decode cX12_init 132 = .ok (.putfield 54, 3) := by decide +kernel
theorem dX12_init_135 : decode cX12_init 135 = .ok (.aload_n 0, 1) := by decide +kernel
theorem dX12_init_136 : decode cX12_init 136 = .ok (.ldc 57, 2) := by decide +kernel
theorem dX12_init_138 : decode cX12_init 138 = .ok (.newarray .int, 2) := by decide +kernel
theorem dX12_init_140 : decode cX12_init 140 = .ok (.putfield 58, 3) := by decide +kernel
theorem dX12_init_143 : decode cX12_init 143 = .ok (.aload_n 0, 1) := by decide +kernel
theorem dX12_init_144 : decode cX12_init 144 = .ok (.sipush 20000, 3) := by decide +kernel
theorem dX12_init_147 : decode cX12_init 147 = .ok (.newarray .int, 2) := by decide +kernel
theorem dX12_init_149 : decode cX12_init 149 = .ok (.putfield 61, 3) := by decide +kernel
theorem dX12_init_152 : decode cX12_init 152 = .ok (.aload_n 0, 1) := by decide +kernel
theorem dX12_init_153 : decode cX12_init 153 = .ok (.sipush 20000, 3) := by decide +kernel
theorem dX12_init_156 : decode cX12_init 156 = .ok (.newarray .int, 2) := by decide +kernel
theorem dX12_init_158 : decode cX12_init 158 = .ok (.putfield 64, 3) := by decide +kernel
theorem dX12_init_161 : decode cX12_init 161 = .ok (.aload_n 0, 1) := by decide +kernel
theorem dX12_init_162 : decode cX12_init 162 = .ok (.sipush 20000, 3) := by decide +kernel
theorem dX12_init_165 : decode cX12_init 165 = .ok (.newarray .int, 2) := by decide +kernel
theorem dX12_init_167 : decode cX12_init 167 = .ok (.putfield 67, 3) := by decide +kernel
theorem dX12_init_170 : decode cX12_init 170 = .ok (.aload_n 0, 1) := by decide +kernel
theorem dX12_init_171 : decode cX12_init 171 = .ok (.sipush 20000, 3) := by decide +kernel
theorem dX12_init_174 : decode cX12_init 174 = .ok (.newarray .int, 2) := by decide +kernel
theorem dX12_init_176 : decode cX12_init 176 = .ok (.putfield 70, 3) := by decide +kernel
theorem dX12_init_179 : decode cX12_init 179 = .ok (.aload_n 0, 1) := by decide +kernel
theorem dX12_init_180 : decode cX12_init 180 = .ok (.sipush 20000, 3) := by decide +kernel
theorem dX12_init_183 : decode cX12_init 183 = .ok (.newarray .int, 2) := by decide +kernel
theorem dX12_init_185 : decode cX12_init 185 = .ok (.putfield 73, 3) := by decide +kernel
theorem dX12_init_188 : decode cX12_init 188 = .ok (.aload_n 0, 1) := by decide +kernel
theorem dX12_init_189 : decode cX12_init 189 = .ok (.sipush 20000, 3) := by decide +kernel
theorem dX12_init_192 : decode cX12_init 192 = .ok (.newarray .int, 2) := by decide +kernel
theorem dX12_init_194 : decode cX12_init 194 = .ok (.putfield 76, 3) := by decide +kernel
theorem dX12_init_197 : decode cX12_init 197 = .ok (.aload_n 0, 1) := by decide +kernel
theorem dX12_init_198 : decode cX12_init 198 = .ok (.sipush 20000, 3) := by decide +kernel
theorem dX12_init_201 : decode cX12_init 201 = .ok (.newarray .int, 2) := by decide +kernel
theorem dX12_init_203 : decode cX12_init 203 = .ok (.putfield 79, 3) := by decide +kernel
theorem dX12_init_206 : decode cX12_init 206 = .ok (.aload_n 0, 1) := by decide +kernel
theorem dX12_init_207 : decode cX12_init 207 = .ok (.bipush 101, 2) := by decide +kernel
theorem dX12_init_209 : decode cX12_init 209 = .ok (.newarray .int, 2) := by decide +kernel
theorem dX12_init_211 : decode cX12_init 211 = .ok (.putfield 82, 3) := by decide +kernel
theorem dX12_init_214 : decode cX12_init 214 = .ok (.aload_n 0, 1) := by decide +kernel
theorem dX12_init_215 : decode cX12_init 215 = .ok (.bipush 101, 2) := by decide +kernel
theorem dX12_init_217 : decode cX12_init 217 = .ok (.newarray .int, 2) := by decide +kernel
theorem dX12_init_219 : decode cX12_init 219 = .ok (.putfield 85, 3) := by decide +kernel
theorem dX12_init_222 : decode cX12_init 222 = .ok (.aload_n 0, 1) := by decide +kernel
theorem dX12_init_223 : decode cX12_init 223 = .ok (.bipush 101, 2) := by decide +kernel
theorem dX12_init_225 : decode cX12_init 225 = .ok (.newarray .int, 2) := by decide +kernel
theorem dX12_init_227 : decode cX12_init 227 = .ok (.putfield 88, 3) := by decide +kernel
theorem dX12_init_230 : decode cX12_init 230 = .ok (.aload_n 0, 1) := by decide +kernel
theorem dX12_init_231 : decode cX12_init 231 = .ok (.sipush 1000, 3) := by decide +kernel
theorem dX12_init_234 : decode cX12_init 234 = .ok (.newarray .int, 2) := by decide +kernel
theorem dX12_init_236 : decode cX12_init 236 = .ok (.putfield 91, 3) := by decide +kernel
theorem dX12_init_239 : decode cX12_init 239 = .ok (.aload_n 0, 1) := by decide +kernel
theorem dX12_init_240 : decode cX12_init 240 = .ok (.sipush 2560, 3) := by decide +kernel
theorem dX12_init_243 : decode cX12_init 243 = .ok (.newarray .int, 2) := by decide +kernel
theorem dX12_init_245 : decode cX12_init 245 = .ok (.putfield 94, 3) := by decide +kernel
theorem dX12_init_248 : decode cX12_init 248 = .ok (.aload_n 0, 1) := by decide +kernel
theorem dX12_init_249 : decode cX12_init 249 = .ok (.sipush 640, 3) := by decide +kernel
theorem dX12_init_252 : decode cX12_init 252 = .ok (.newarray .int, 2) := by decide +kernel
theorem dX12_init_254 : decode cX12_init 254 = .ok (.putfield 97, 3) := by decide +kernel
theorem dX12_init_257 : decode cX12_init 257 = .ok (.aload_n 0, 1) := by decide +kernel
theorem dX12_init_258 : decode cX12_init 258 = .ok (.bipush 10, 2) := by decide +kernel
theorem dX12_init_260 : decode cX12_init 260 = .ok (.newarray .int, 2) := by decide +kernel
theorem dX12_init_262 : decode cX12_init 262 = .ok (.putfield 100, 3) := by decide +kernel
theorem dX12_init_265 : decode cX12_init 265 = .ok (.aload_n 0, 1) := by decide +kernel
theorem dX12_init_266 : decode cX12_init 266 = .ok (.bipush 10, 2) := by decide +kernel
theorem dX12_init_268 : decode cX12_init 268 = .ok (.newarray .int, 2) := by decide +kernel
theorem dX12_init_270 : decode cX12_init 270 = .ok (.putfield 103, 3) := by decide +kernel
theorem dX12_init_273 : decode cX12_init 273 = .ok (.aload_n 0, 1) := by decide +kernel
theorem dX12_init_274 : decode cX12_init 274 = .ok (.sipush 20000, 3) := by decide +kernel
theorem dX12_init_277 : decode cX12_init 277 = .ok (.newarray .int, 2) := by decide +kernel
theorem dX12_init_279 : decode cX12_init 279 = .ok (.putfield 106, 3) := by decide +kernel
theorem dX12_init_282 : decode cX12_init 282 = .ok (.aload_n 0, 1) := by decide +kernel
theorem dX12_init_283 : decode cX12_init 283 = .ok (.sipush 20000, 3) := by decide +kernel
theorem dX12_init_286 : decode cX12_init 286 = .ok (.newarray .int, 2) := by decide +kernel
theorem dX12_init_288 : decode cX12_init 288 = .ok (.putfield 109, 3) := by decide +kernel
theorem dX12_init_291 : decode cX12_init 291 = .ok (.aload_n 0, 1) := by decide +kernel
theorem dX12_init_292 : decode cX12_init 292 = .ok (.bipush 64, 2) := by decide +kernel
theorem dX12_init_294 : decode cX12_init 294 = .ok (.newarray .int, 2) := by decide +kernel
theorem dX12_init_296 : decode cX12_init 296 = .ok (.putfield 112, 3) := by decide +kernel
theorem dX12_init_299 : decode cX12_init 299 = .ok (.aload_n 0, 1) := by decide +kernel
theorem dX12_init_300 : decode cX12_init 300 = .ok (.sipush 1200, 3) := by decide +kernel
theorem dX12_init_303 : decode cX12_init 303 = .ok (.newarray .int, 2) := by decide +kernel
theorem dX12_init_305 : decode cX12_init 305 = .ok (.putfield 115, 3) := by decide +kernel
theorem dX12_init_308 : decode cX12_init 308 = .ok (.aload_n 0, 1) := by decide +kernel
theorem dX12_init_309 : decode cX12_init 309 = .ok (.sipush 20000, 3) := by decide +kernel
theorem dX12_init_312 : decode cX12_init 312 = .ok (.newarray .int, 2) := by decide +kernel
theorem dX12_init_314 : decode cX12_init 314 = .ok (.putfield 118, 3) := by decide +kernel
theorem dX12_init_317 : decode cX12_init 317 = .ok (.aload_n 0, 1) := by decide +kernel
theorem dX12_init_318 : decode cX12_init 318 = .ok (.sipush 20000, 3) := by decide +kernel
theorem dX12_init_321 : decode cX12_init 321 = .ok (.newarray .int, 2) := by decide +kernel
theorem dX12_init_323 : decode cX12_init 323 = .ok (.putfield 121, 3) := by decide +kernel
theorem dX12_init_326 : decode cX12_init 326 = .ok (.aload_n 0, 1) := by decide +kernel
theorem dX12_init_327 : decode cX12_init 327 = .ok (.sipush 1200, 3) := by decide +kernel
theorem dX12_init_330 : decode cX12_init 330 = .ok (.newarray .int, 2) := by decide +kernel
theorem dX12_init_332 : decode cX12_init 332 = .ok (.putfield 124, 3) := by decide +kernel
theorem dX12_init_335 : decode cX12_init 335 = .ok (.aload_n 0, 1) := by decide +kernel
theorem dX12_init_336 : decode cX12_init 336 = .ok (.sipush 1200, 3) := by decide +kernel
theorem dX12_init_339 : decode cX12_init 339 = .ok (.newarray .int, 2) := by decide +kernel
theorem dX12_init_341 : decode cX12_init 341 = .ok (.putfield 127, 3) := by decide +kernel
theorem dX12_init_344 : decode cX12_init 344 = .ok (.aload_n 0, 1) := by decide +kernel
theorem dX12_init_345 : decode cX12_init 345 = .ok (.sipush 1200, 3) := by decide +kernel
theorem dX12_init_348 : decode cX12_init 348 = .ok (.newarray .int, 2) := by decide +kernel
theorem dX12_init_350 : decode cX12_init 350 = .ok (.putfield 130, 3) := by decide +kernel
theorem dX12_init_353 : decode cX12_init 353 = .ok (.aload_n 0, 1) := by decide +kernel
theorem dX12_init_354 : decode cX12_init 354 = .ok (.sipush 9600, 3) := by decide +kernel
theorem dX12_init_357 : decode cX12_init 357 = .ok (.newarray .int, 2) := by decide +kernel
theorem dX12_init_359 : decode cX12_init 359 = .ok (.putfield 133, 3) := by decide +kernel
theorem dX12_init_362 : decode cX12_init 362 = .ok (.aload_n 0, 1) := by decide +kernel
theorem dX12_init_363 : decode cX12_init 363 = .ok (.sipush 1200, 3) := by decide +kernel
theorem dX12_init_366 : decode cX12_init 366 = .ok (.newarray .int, 2) := by decide +kernel
theorem dX12_init_368 : decode cX12_init 368 = .ok (.putfield 136, 3) := by decide +kernel
theorem dX12_init_371 : decode cX12_init 371 = .ok (.aload_n 0, 1) := by decide +kernel
theorem dX12_init_372 : decode cX12_init 372 = .ok (.sipush 1200, 3) := by decide +kernel
theorem dX12_init_375 : decode cX12_init 375 = .ok (.newarray .int, 2) := by decide +kernel
theorem dX12_init_377 : decode cX12_init 377 = .ok (.putfield 139, 3) := by decide +kernel
theorem dX12_init_380 : decode cX12_init 380 = .ok (.aload_n 0, 1) := by decide +kernel
theorem dX12_init_381 : decode cX12_init 381 = .ok (.sipush 1200, 3) := by decide +kernel
theorem dX12_init_384 : decode cX12_init 384 = .ok (.newarray .int, 2) := by decide +kernel
theorem dX12_init_386 : decode cX12_init 386 = .ok (.putfield 142, 3) := by decide +kernel
theorem dX12_init_389 : decode cX12_init 389 = .ok (.return_, 1) := by decide +kernel
theorem dX12_in_0 : decode cX12_in 0 = .ok (.lload_n 0, 1) := by decide +kernel
theorem dX12_in_1 : decode cX12_in 1 = .ok (.lload_n 2, 1) := by decide +kernel
theorem dX12_in_2 : decode cX12_in 2 = .ok (.lcmp, 1) := by decide +kernel
theorem dX12_in_3 : decode cX12_in 3 = .ok (.ifCond .lt 14, 3) := by decide +kernel
theorem dX12_in_6 : decode cX12_in 6 = .ok (.lload_n 0, 1) := by decide +kernel
theorem dX12_in_7 : decode cX12_in 7 = .ok (.lload 4, 2) := by decide +kernel
theorem dX12_in_9 : decode cX12_in 9 = .ok (.lcmp, 1) := by decide +kernel
theorem dX12_in_10 : decode cX12_in 10 = .ok (.ifCond .gt 7, 3) := by decide +kernel
theorem dX12_in_13 : decode cX12_in 13 = .ok (.iconst 1, 1) := by decide +kernel
theorem dX12_in_14 : decode cX12_in 14 = .ok (.goto 4, 3) := by decide +kernel
theorem dX12_in_17 : decode cX12_in 17 = .ok (.iconst 0, 1) := by decide +kernel
theorem dX12_in_18 : decode cX12_in 18 = .ok (.ireturn, 1) := by decide +kernel
theorem dX12_slotOf_0 : decode cX12_slotOf 0 = .ok (.iload_n 1, 1) := by decide +kernel
theorem dX12_slotOf_1 : decode cX12_slotOf 1 = .ok (.iconst (-1), 1) := by decide +kernel
theorem dX12_slotOf_2 : decode cX12_slotOf 2 = .ok (.if_icmp .ne 17, 3) := by decide +kernel
theorem dX12_slotOf_5 : decode cX12_slotOf 5 = .ok (.aload_n 0, 1) := by decide +kernel
theorem dX12_slotOf_6 : decode cX12_slotOf 6 = .ok (.getfield 430, 3) := by decide +kernel
theorem dX12_slotOf_9 : decode cX12_slotOf 9 = .ok (.ifCond .eq 8, 3) := by decide +kernel
theorem dX12_slotOf_17 : decode cX12_slotOf 17 = .ok (.iconst (-1), 1) := by decide +kernel
theorem dX12_slotOf_18 : decode cX12_slotOf 18 = .ok (.ireturn, 1) := by decide +kernel
theorem dX12_slotOf_19 : decode cX12_slotOf 19 = .ok (.iload_n 1, 1) := by decide +kernel
theorem dX12_slotOf_20 : decode cX12_slotOf 20 = .ok (.bipush (-2), 2) := by decide +kernel
theorem dX12_slotOf_22 : decode cX12_slotOf 22 = .ok (.if_icmp .ne 17, 3) := by decide +kernel
theorem dX12_slotOf_25 : decode cX12_slotOf 25 = .ok (.aload_n 0, 1) := by decide +kernel
theorem dX12_slotOf_26 : decode cX12_slotOf 26 = .ok (.getfield 405, 3) := by decide +kernel
theorem dX12_slotOf_29 : decode cX12_slotOf 29 = .ok (.ifCond .eq 8, 3) := by decide +kernel
theorem dX12_slotOf_37 : decode cX12_slotOf 37 = .ok (.iconst (-1), 1) := by decide +kernel
theorem dX12_slotOf_38 : decode cX12_slotOf 38 = .ok (.ireturn, 1) := by decide +kernel
theorem dX12_slotOf_39 : decode cX12_slotOf 39 = .ok (.iload_n 1, 1) := by decide +kernel
theorem dX12_slotOf_40 : decode cX12_slotOf 40 = .ok (.i2l, 1) := by decide +kernel
theorem dX12_slotOf_41 : decode cX12_slotOf 41 = .ok (.lconst 0, 1) := by decide +kernel
theorem dX12_slotOf_42 : decode cX12_slotOf 42 = .ok (.aload_n 0, 1) := by decide +kernel
theorem dX12_slotOf_43 : decode cX12_slotOf 43 = .ok (.getfield 328, 3) := by decide +kernel
theorem dX12_slotOf_46 : decode cX12_slotOf 46 = .ok (.iconst 1, 1) := by decide +kernel
theorem dX12_slotOf_47 : decode cX12_slotOf 47 = .ok (.isub, 1) := by decide +kernel
theorem dX12_slotOf_48 : decode cX12_slotOf 48 = .ok (.i2l, 1) := by decide +kernel
theorem dX12_slotOf_49 : decode cX12_slotOf 49 = .ok (.invokestatic 155, 3) := by decide +kernel
theorem dX12_slotOf_52 : decode cX12_slotOf 52 = .ok (.ifCond .eq 7, 3) := by decide +kernel
theorem dX12_slotOf_59 : decode cX12_slotOf 59 = .ok (.iconst (-1), 1) := by decide +kernel
theorem dX12_slotOf_60 : decode cX12_slotOf 60 = .ok (.ireturn, 1) := by decide +kernel
theorem dX12_textSlot_0 : decode cX12_textSlot 0 = .ok (.iload_n 1, 1) := by decide +kernel
theorem dX12_textSlot_1 : decode cX12_textSlot 1 = .ok (.bipush (-2), 2) := by decide +kernel
theorem dX12_textSlot_3 : decode cX12_textSlot 3 = .ok (.if_icmp .ne 7, 3) := by decide +kernel
theorem dX12_textSlot_6 : decode cX12_textSlot 6 = .ok (.iconst (-1), 1) := by decide +kernel
theorem dX12_textSlot_7 : decode cX12_textSlot 7 = .ok (.goto 8, 3) := by decide +kernel
theorem dX12_textSlot_10 : decode cX12_textSlot 10 = .ok (.aload_n 0, 1) := by decide +kernel
theorem dX12_textSlot_11 : decode cX12_textSlot 11 = .ok (.iload_n 1, 1) := by decide +kernel
theorem dX12_textSlot_12 : decode cX12_textSlot 12 = .ok (.invokevirtual 436, 3) := by decide +kernel
theorem dX12_textSlot_15 : decode cX12_textSlot 15 = .ok (.ireturn, 1) := by decide +kernel
theorem dX12_begin_0 : decode cX12_begin 0 = .ok (.aload_n 0, 1) := by decide +kernel
theorem dX12_begin_1 : decode cX12_begin 1 = .ok (.aload_n 0, 1) := by decide +kernel
theorem dX12_begin_2 : decode cX12_begin 2 = .ok (.getfield 152, 3) := by decide +kernel
theorem dX12_begin_5 : decode cX12_begin 5 = .ok (.putfield 162, 3) := by decide +kernel
theorem dX12_begin_8 : decode cX12_begin 8 = .ok (.aload_n 0, 1) := by decide +kernel
theorem dX12_begin_9 : decode cX12_begin 9 = .ok (.iconst 0, 1) := by decide +kernel
theorem dX12_begin_10 : decode cX12_begin 10 = .ok (.putfield 152, 3) := by decide +kernel
theorem dX12_begin_13 : decode cX12_begin 13 = .ok (.aload_n 0, 1) := by decide +kernel
theorem dX12_begin_14 : decode cX12_begin 14 = .ok (.iconst 0, 1) := by decide +kernel
theorem dX12_begin_15 : decode cX12_begin 15 = .ok (.putfield 159, 3) := by decide +kernel
theorem dX12_begin_18 : decode cX12_begin 18 = .ok (.aload_n 0, 1) := by decide +kernel
theorem dX12_begin_19 : decode cX12_begin 19 = .ok (.iconst (-1), 1) := by decide +kernel
theorem dX12_begin_20 : decode cX12_begin 20 = .ok (.putfield 165, 3) := by decide +kernel
theorem dX12_begin_23 : decode cX12_begin 23 = .ok (.return_, 1) := by decide +kernel
theorem dX12_size_0 : decode cX12_size 0 = .ok (.aload_n 0, 1) := by decide +kernel
theorem dX12_size_1 : decode cX12_size 1 = .ok (.iconst 0, 1) := by decide +kernel
theorem dX12_size_2 : decode cX12_size 2 = .ok (.putfield 145, 3) := by decide +kernel
theorem dX12_size_5 : decode cX12_size 5 = .ok (.aload_n 0, 1) := by decide +kernel
theorem dX12_size_6 : decode cX12_size 6 = .ok (.iload_n 1, 1) := by decide +kernel
theorem dX12_size_7 : decode cX12_size 7 = .ok (.invokevirtual 436, 3) := by decide +kernel
theorem dX12_size_10 : decode cX12_size 10 = .ok (.istore_n 2, 1) := by decide +kernel
theorem dX12_size_11 : decode cX12_size 11 = .ok (.iload_n 2, 1) := by decide +kernel
theorem dX12_size_12 : decode cX12_size 12 = .ok (.iconst (-1), 1) := by decide +kernel
theorem dX12_size_13 : decode cX12_size 13 = .ok (.if_icmp .ne 5, 3) := by decide +kernel
theorem dX12_size_16 : decode cX12_size 16 = .ok (.iconst (-1), 1) := by decide +kernel
theorem dX12_size_17 : decode cX12_size 17 = .ok (.ireturn, 1) := by decide +kernel
theorem dX12_sort_0 : decode cX12_sort 0 = .ok (.aload_n 0, 1) := by decide +kernel
theorem dX12_sort_1 : decode cX12_sort 1 = .ok (.iconst 0, 1) := by decide +kernel
theorem dX12_sort_2 : decode cX12_sort 2 = .ok (.putfield 145, 3) := by decide +kernel
theorem dX12_sort_5 : decode cX12_sort 5 = .ok (.aload_n 0, 1) := by decide +kernel
theorem dX12_sort_6 : decode cX12_sort 6 = .ok (.iload_n 1, 1) := by decide +kernel
theorem dX12_sort_7 : decode cX12_sort 7 = .ok (.invokevirtual 436, 3) := by decide +kernel
theorem dX12_sort_10 : decode cX12_sort 10 = .ok (.istore_n 2, 1) := by decide +kernel
theorem dX12_sort_11 : decode cX12_sort 11 = .ok (.iload_n 2, 1) := by decide +kernel
theorem dX12_sort_12 : decode cX12_sort 12 = .ok (.iconst (-1), 1) := by decide +kernel
theorem dX12_sort_13 : decode cX12_sort 13 = .ok (.if_icmp .ne 5, 3) := by decide +kernel
theorem dX12_sort_16 : decode cX12_sort 16 = .ok (.iconst (-1), 1) := by decide +kernel
theorem dX12_sort_17 : decode cX12_sort 17 = .ok (.ireturn, 1) := by decide +kernel
theorem dX12_needs_0 : decode cX12_needs 0 = .ok (.aload_n 0, 1) := by decide +kernel
theorem dX12_needs_1 : decode cX12_needs 1 = .ok (.iconst 0, 1) := by decide +kernel
theorem dX12_needs_2 : decode cX12_needs 2 = .ok (.putfield 145, 3) := by decide +kernel
theorem dX12_needs_5 : decode cX12_needs 5 = .ok (.aload_n 0, 1) := by decide +kernel
theorem dX12_needs_6 : decode cX12_needs 6 = .ok (.iload_n 1, 1) := by decide +kernel
theorem dX12_needs_7 : decode cX12_needs 7 = .ok (.invokevirtual 436, 3) := by decide +kernel
theorem dX12_needs_10 : decode cX12_needs 10 = .ok (.istore_n 2, 1) := by decide +kernel
theorem dX12_needs_11 : decode cX12_needs 11 = .ok (.iload_n 2, 1) := by decide +kernel
theorem dX12_needs_12 : decode cX12_needs 12 = .ok (.iconst (-1), 1) := by decide +kernel
theorem dX12_needs_13 : decode cX12_needs 13 = .ok (.if_icmp .ne 5, 3) := by decide +kernel
theorem dX12_needs_16 : decode cX12_needs 16 = .ok (.iconst (-1), 1) := by decide +kernel
theorem dX12_needs_17 : decode cX12_needs 17 = .ok (.ireturn, 1) := by decide +kernel
theorem dX12_closes_0 : decode cX12_closes 0 = .ok (.aload_n 0, 1) := by decide +kernel
theorem dX12_closes_1 : decode cX12_closes 1 = .ok (.iconst 0, 1) := by decide +kernel
theorem dX12_closes_2 : decode cX12_closes 2 = .ok (.putfield 145, 3) := by decide +kernel
theorem dX12_closes_5 : decode cX12_closes 5 = .ok (.aload_n 0, 1) := by decide +kernel
theorem dX12_closes_6 : decode cX12_closes 6 = .ok (.iload_n 1, 1) := by decide +kernel
theorem dX12_closes_7 : decode cX12_closes 7 = .ok (.invokevirtual 436, 3) := by decide +kernel
theorem dX12_closes_10 : decode cX12_closes 10 = .ok (.istore_n 2, 1) := by decide +kernel
theorem dX12_closes_11 : decode cX12_closes 11 = .ok (.iload_n 2, 1) := by decide +kernel
theorem dX12_closes_12 : decode cX12_closes 12 = .ok (.iconst (-1), 1) := by decide +kernel
theorem dX12_closes_13 : decode cX12_closes 13 = .ok (.if_icmp .ne 5, 3) := by decide +kernel
theorem dX12_closes_16 : decode cX12_closes 16 = .ok (.iconst (-1), 1) := by decide +kernel
theorem dX12_closes_17 : decode cX12_closes 17 = .ok (.ireturn, 1) := by decide +kernel
theorem dX12_type_0 : decode cX12_type 0 = .ok (.aload_n 0, 1) := by decide +kernel
theorem dX12_type_1 : decode cX12_type 1 = .ok (.iconst 0, 1) := by decide +kernel
theorem dX12_type_2 : decode cX12_type 2 = .ok (.putfield 145, 3) := by decide +kernel
theorem dX12_type_5 : decode cX12_type 5 = .ok (.aload_n 0, 1) := by decide +kernel
theorem dX12_type_6 : decode cX12_type 6 = .ok (.iload_n 1, 1) := by decide +kernel
theorem dX12_type_7 : decode cX12_type 7 = .ok (.invokevirtual 436, 3) := by decide +kernel
theorem dX12_type_10 : decode cX12_type 10 = .ok (.istore_n 3, 1) := by decide +kernel
theorem dX12_type_11 : decode cX12_type 11 = .ok (.iload_n 3, 1) := by decide +kernel
theorem dX12_type_12 : decode cX12_type 12 = .ok (.iconst (-1), 1) := by decide +kernel
theorem dX12_type_13 : decode cX12_type 13 = .ok (.if_icmp .ne 5, 3) := by decide +kernel
theorem dX12_type_16 : decode cX12_type 16 = .ok (.iconst (-1), 1) := by decide +kernel
theorem dX12_type_17 : decode cX12_type 17 = .ok (.ireturn, 1) := by decide +kernel
theorem dX12_lacks_0 : decode cX12_lacks 0 = .ok (.aload_n 0, 1) := by decide +kernel
theorem dX12_lacks_1 : decode cX12_lacks 1 = .ok (.iconst 0, 1) := by decide +kernel
theorem dX12_lacks_2 : decode cX12_lacks 2 = .ok (.putfield 145, 3) := by decide +kernel
theorem dX12_lacks_5 : decode cX12_lacks 5 = .ok (.aload_n 0, 1) := by decide +kernel
theorem dX12_lacks_6 : decode cX12_lacks 6 = .ok (.iload_n 1, 1) := by decide +kernel
theorem dX12_lacks_7 : decode cX12_lacks 7 = .ok (.invokevirtual 436, 3) := by decide +kernel
theorem dX12_lacks_10 : decode cX12_lacks 10 = .ok (.istore_n 3, 1) := by decide +kernel
theorem dX12_lacks_11 : decode cX12_lacks 11 = .ok (.iload_n 3, 1) := by decide +kernel
theorem dX12_lacks_12 : decode cX12_lacks 12 = .ok (.iconst (-1), 1) := by decide +kernel
theorem dX12_lacks_13 : decode cX12_lacks 13 = .ok (.if_icmp .eq 21, 3) := by decide +kernel
theorem dX12_lacks_34 : decode cX12_lacks 34 = .ok (.iconst (-1), 1) := by decide +kernel
theorem dX12_lacks_35 : decode cX12_lacks 35 = .ok (.ireturn, 1) := by decide +kernel
theorem dX12_field_0 : decode cX12_field 0 = .ok (.aload_n 0, 1) := by decide +kernel
theorem dX12_field_1 : decode cX12_field 1 = .ok (.iconst 0, 1) := by decide +kernel
theorem dX12_field_2 : decode cX12_field 2 = .ok (.putfield 145, 3) := by decide +kernel
theorem dX12_field_5 : decode cX12_field 5 = .ok (.aload_n 0, 1) := by decide +kernel
theorem dX12_field_6 : decode cX12_field 6 = .ok (.iload_n 1, 1) := by decide +kernel
theorem dX12_field_7 : decode cX12_field 7 = .ok (.invokevirtual 436, 3) := by decide +kernel
theorem dX12_field_10 : decode cX12_field 10 = .ok (.istore_n 3, 1) := by decide +kernel
theorem dX12_field_11 : decode cX12_field 11 = .ok (.iload_n 3, 1) := by decide +kernel
theorem dX12_field_12 : decode cX12_field 12 = .ok (.iconst (-1), 1) := by decide +kernel
theorem dX12_field_13 : decode cX12_field 13 = .ok (.if_icmp .eq 15, 3) := by decide +kernel
theorem dX12_field_28 : decode cX12_field 28 = .ok (.iconst (-1), 1) := by decide +kernel
theorem dX12_field_29 : decode cX12_field 29 = .ok (.ireturn, 1) := by decide +kernel
theorem dX12_side_0 : decode cX12_side 0 = .ok (.aload_n 0, 1) := by decide +kernel
theorem dX12_side_1 : decode cX12_side 1 = .ok (.iconst 0, 1) := by decide +kernel
theorem dX12_side_2 : decode cX12_side 2 = .ok (.putfield 145, 3) := by decide +kernel
theorem dX12_side_5 : decode cX12_side 5 = .ok (.aload_n 0, 1) := by decide +kernel
theorem dX12_side_6 : decode cX12_side 6 = .ok (.iload_n 1, 1) := by decide +kernel
theorem dX12_side_7 : decode cX12_side 7 = .ok (.invokevirtual 436, 3) := by decide +kernel
theorem dX12_side_10 : decode cX12_side 10 = .ok (.istore_n 3, 1) := by decide +kernel
theorem dX12_side_11 : decode cX12_side 11 = .ok (.iload_n 3, 1) := by decide +kernel
theorem dX12_side_12 : decode cX12_side 12 = .ok (.iconst (-1), 1) := by decide +kernel
theorem dX12_side_13 : decode cX12_side 13 = .ok (.if_icmp .eq 13, 3) := by decide +kernel
theorem dX12_side_26 : decode cX12_side 26 = .ok (.iconst (-1), 1) := by decide +kernel
theorem dX12_side_27 : decode cX12_side 27 = .ok (.ireturn, 1) := by decide +kernel
theorem dX12_above_0 : decode cX12_above 0 = .ok (.aload_n 0, 1) := by decide +kernel
theorem dX12_above_1 : decode cX12_above 1 = .ok (.iconst 0, 1) := by decide +kernel
theorem dX12_above_2 : decode cX12_above 2 = .ok (.putfield 145, 3) := by decide +kernel
theorem dX12_above_5 : decode cX12_above 5 = .ok (.aload_n 0, 1) := by decide +kernel
theorem dX12_above_6 : decode cX12_above 6 = .ok (.iload_n 1, 1) := by decide +kernel
theorem dX12_above_7 : decode cX12_above 7 = .ok (.invokevirtual 436, 3) := by decide +kernel
theorem dX12_above_10 : decode cX12_above 10 = .ok (.istore_n 3, 1) := by decide +kernel
theorem dX12_above_11 : decode cX12_above 11 = .ok (.aload_n 0, 1) := by decide +kernel
theorem dX12_above_12 : decode cX12_above 12 = .ok (.iload_n 2, 1) := by decide +kernel
theorem dX12_above_13 : decode cX12_above 13 = .ok (.invokevirtual 436, 3) := by decide +kernel
theorem dX12_above_16 : decode cX12_above 16 = .ok (.istore 4, 2) := by decide +kernel
theorem dX12_above_18 : decode cX12_above 18 = .ok (.iload_n 3, 1) := by decide +kernel
theorem dX12_above_19 : decode cX12_above 19 = .ok (.iconst (-1), 1) := by decide +kernel
theorem dX12_above_20 : decode cX12_above 20 = .ok (.if_icmp .eq 9, 3) := by decide +kernel
theorem dX12_above_29 : decode cX12_above 29 = .ok (.iconst (-1), 1) := by decide +kernel
theorem dX12_above_30 : decode cX12_above 30 = .ok (.ireturn, 1) := by decide +kernel
theorem dX12_meets_0 : decode cX12_meets 0 = .ok (.aload_n 0, 1) := by decide +kernel
theorem dX12_meets_1 : decode cX12_meets 1 = .ok (.iconst 0, 1) := by decide +kernel
theorem dX12_meets_2 : decode cX12_meets 2 = .ok (.putfield 145, 3) := by decide +kernel
theorem dX12_meets_5 : decode cX12_meets 5 = .ok (.aload_n 0, 1) := by decide +kernel
theorem dX12_meets_6 : decode cX12_meets 6 = .ok (.iload_n 1, 1) := by decide +kernel
theorem dX12_meets_7 : decode cX12_meets 7 = .ok (.invokevirtual 436, 3) := by decide +kernel
theorem dX12_meets_10 : decode cX12_meets 10 = .ok (.istore_n 3, 1) := by decide +kernel
theorem dX12_meets_11 : decode cX12_meets 11 = .ok (.aload_n 0, 1) := by decide +kernel
theorem dX12_meets_12 : decode cX12_meets 12 = .ok (.iload_n 2, 1) := by decide +kernel
theorem dX12_meets_13 : decode cX12_meets 13 = .ok (.invokevirtual 436, 3) := by decide +kernel
theorem dX12_meets_16 : decode cX12_meets 16 = .ok (.istore 4, 2) := by decide +kernel
theorem dX12_meets_18 : decode cX12_meets 18 = .ok (.iload_n 3, 1) := by decide +kernel
theorem dX12_meets_19 : decode cX12_meets 19 = .ok (.iconst (-1), 1) := by decide +kernel
theorem dX12_meets_20 : decode cX12_meets 20 = .ok (.if_icmp .eq 9, 3) := by decide +kernel
theorem dX12_meets_29 : decode cX12_meets 29 = .ok (.iconst (-1), 1) := by decide +kernel
theorem dX12_meets_30 : decode cX12_meets 30 = .ok (.ireturn, 1) := by decide +kernel
theorem dX12_applies_0 : decode cX12_applies 0 = .ok (.aload_n 0, 1) := by decide +kernel
theorem dX12_applies_1 : decode cX12_applies 1 = .ok (.iconst 0, 1) := by decide +kernel
theorem dX12_applies_2 : decode cX12_applies 2 = .ok (.putfield 145, 3) := by decide +kernel
theorem dX12_applies_5 : decode cX12_applies 5 = .ok (.aload_n 0, 1) := by decide +kernel
theorem dX12_applies_6 : decode cX12_applies 6 = .ok (.iload_n 1, 1) := by decide +kernel
theorem dX12_applies_7 : decode cX12_applies 7 = .ok (.invokevirtual 436, 3) := by decide +kernel
theorem dX12_applies_10 : decode cX12_applies 10 = .ok (.istore_n 3, 1) := by decide +kernel
theorem dX12_applies_11 : decode cX12_applies 11 = .ok (.aload_n 0, 1) := by decide +kernel
theorem dX12_applies_12 : decode cX12_applies 12 = .ok (.iload_n 2, 1) := by decide +kernel
theorem dX12_applies_13 : decode cX12_applies 13 = .ok (.invokevirtual 436, 3) := by decide +kernel
theorem dX12_applies_16 : decode cX12_applies 16 = .ok (.istore 4, 2) := by decide +kernel
theorem dX12_applies_18 : decode cX12_applies 18 = .ok (.iload_n 3, 1) := by decide +kernel
theorem dX12_applies_19 : decode cX12_applies 19 = .ok (.iconst (-1), 1) := by decide +kernel
theorem dX12_applies_20 : decode cX12_applies 20 = .ok (.if_icmp .eq 9, 3) := by decide +kernel
theorem dX12_applies_29 : decode cX12_applies 29 = .ok (.iconst (-1), 1) := by decide +kernel
theorem dX12_applies_30 : decode cX12_applies 30 = .ok (.ireturn, 1) := by decide +kernel
theorem dX12_steps_0 : decode cX12_steps 0 = .ok (.aload_n 0, 1) := by decide +kernel
theorem dX12_steps_1 : decode cX12_steps 1 = .ok (.iconst 0, 1) := by decide +kernel
theorem dX12_steps_2 : decode cX12_steps 2 = .ok (.putfield 145, 3) := by decide +kernel
theorem dX12_steps_5 : decode cX12_steps 5 = .ok (.aload_n 0, 1) := by decide +kernel
theorem dX12_steps_6 : decode cX12_steps 6 = .ok (.iload_n 1, 1) := by decide +kernel
theorem dX12_steps_7 : decode cX12_steps 7 = .ok (.invokevirtual 503, 3) := by decide +kernel
theorem dX12_steps_10 : decode cX12_steps 10 = .ok (.istore_n 2, 1) := by decide +kernel
theorem dX12_steps_11 : decode cX12_steps 11 = .ok (.iload_n 2, 1) := by decide +kernel
theorem dX12_steps_12 : decode cX12_steps 12 = .ok (.iconst (-1), 1) := by decide +kernel
theorem dX12_steps_13 : decode cX12_steps 13 = .ok (.if_icmp .ne 5, 3) := by decide +kernel
theorem dX12_steps_16 : decode cX12_steps 16 = .ok (.iconst (-1), 1) := by decide +kernel
theorem dX12_steps_17 : decode cX12_steps 17 = .ok (.ireturn, 1) := by decide +kernel
theorem dX12_parts_0 : decode cX12_parts 0 = .ok (.aload_n 0, 1) := by decide +kernel
theorem dX12_parts_1 : decode cX12_parts 1 = .ok (.iconst 0, 1) := by decide +kernel
theorem dX12_parts_2 : decode cX12_parts 2 = .ok (.putfield 145, 3) := by decide +kernel
theorem dX12_parts_5 : decode cX12_parts 5 = .ok (.aload_n 0, 1) := by decide +kernel
theorem dX12_parts_6 : decode cX12_parts 6 = .ok (.iload_n 1, 1) := by decide +kernel
theorem dX12_parts_7 : decode cX12_parts 7 = .ok (.invokevirtual 503, 3) := by decide +kernel
theorem dX12_parts_10 : decode cX12_parts 10 = .ok (.istore_n 2, 1) := by decide +kernel
theorem dX12_parts_11 : decode cX12_parts 11 = .ok (.iload_n 2, 1) := by decide +kernel
theorem dX12_parts_12 : decode cX12_parts 12 = .ok (.iconst (-1), 1) := by decide +kernel
theorem dX12_parts_13 : decode cX12_parts 13 = .ok (.if_icmp .ne 5, 3) := by decide +kernel
theorem dX12_parts_16 : decode cX12_parts 16 = .ok (.iconst (-1), 1) := by decide +kernel
theorem dX12_parts_17 : decode cX12_parts 17 = .ok (.ireturn, 1) := by decide +kernel
theorem dX12_free_0 : decode cX12_free 0 = .ok (.aload_n 0, 1) := by decide +kernel
theorem dX12_free_1 : decode cX12_free 1 = .ok (.iconst 0, 1) := by decide +kernel
theorem dX12_free_2 : decode cX12_free 2 = .ok (.putfield 145, 3) := by decide +kernel
theorem dX12_free_5 : decode cX12_free 5 = .ok (.aload_n 0, 1) := by decide +kernel
theorem dX12_free_6 : decode cX12_free 6 = .ok (.iload_n 1, 1) := by decide +kernel
theorem dX12_free_7 : decode cX12_free 7 = .ok (.invokevirtual 503, 3) := by decide +kernel
theorem dX12_free_10 : decode cX12_free 10 = .ok (.istore_n 2, 1) := by decide +kernel
theorem dX12_free_11 : decode cX12_free 11 = .ok (.iload_n 2, 1) := by decide +kernel
theorem dX12_free_12 : decode cX12_free 12 = .ok (.iconst (-1), 1) := by decide +kernel
theorem dX12_free_13 : decode cX12_free 13 = .ok (.if_icmp .ne 5, 3) := by decide +kernel
theorem dX12_free_16 : decode cX12_free 16 = .ok (.iconst (-1), 1) := by decide +kernel
theorem dX12_free_17 : decode cX12_free 17 = .ok (.ireturn, 1) := by decide +kernel
theorem dX12_part_0 : decode cX12_part 0 = .ok (.aload_n 0, 1) := by decide +kernel
theorem dX12_part_1 : decode cX12_part 1 = .ok (.iconst 0, 1) := by decide +kernel
theorem dX12_part_2 : decode cX12_part 2 = .ok (.putfield 145, 3) := by decide +kernel
theorem dX12_part_5 : decode cX12_part 5 = .ok (.aload_n 0, 1) := by decide +kernel
theorem dX12_part_6 : decode cX12_part 6 = .ok (.iload_n 1, 1) := by decide +kernel
theorem dX12_part_7 : decode cX12_part 7 = .ok (.invokevirtual 503, 3) := by decide +kernel
theorem dX12_part_10 : decode cX12_part 10 = .ok (.istore_n 3, 1) := by decide +kernel
theorem dX12_part_11 : decode cX12_part 11 = .ok (.iload_n 3, 1) := by decide +kernel
theorem dX12_part_12 : decode cX12_part 12 = .ok (.iconst (-1), 1) := by decide +kernel
theorem dX12_part_13 : decode cX12_part 13 = .ok (.if_icmp .ne 5, 3) := by decide +kernel
theorem dX12_part_16 : decode cX12_part 16 = .ok (.iconst (-1), 1) := by decide +kernel
theorem dX12_part_17 : decode cX12_part 17 = .ok (.ireturn, 1) := by decide +kernel
theorem dX12_value_0 : decode cX12_value 0 = .ok (.aload_n 0, 1) := by decide +kernel
theorem dX12_value_1 : decode cX12_value 1 = .ok (.iconst 0, 1) := by decide +kernel
theorem dX12_value_2 : decode cX12_value 2 = .ok (.putfield 145, 3) := by decide +kernel
theorem dX12_value_5 : decode cX12_value 5 = .ok (.aload_n 0, 1) := by decide +kernel
theorem dX12_value_6 : decode cX12_value 6 = .ok (.iload_n 1, 1) := by decide +kernel
theorem dX12_value_7 : decode cX12_value 7 = .ok (.invokevirtual 503, 3) := by decide +kernel
theorem dX12_value_10 : decode cX12_value 10 = .ok (.istore_n 3, 1) := by decide +kernel
theorem dX12_value_11 : decode cX12_value 11 = .ok (.iload_n 3, 1) := by decide +kernel
theorem dX12_value_12 : decode cX12_value 12 = .ok (.iconst (-1), 1) := by decide +kernel
theorem dX12_value_13 : decode cX12_value 13 = .ok (.if_icmp .ne 5, 3) := by decide +kernel
theorem dX12_value_16 : decode cX12_value 16 = .ok (.iconst (-1), 1) := by decide +kernel
theorem dX12_value_17 : decode cX12_value 17 = .ok (.ireturn, 1) := by decide +kernel
theorem dX12_taken_0 : decode cX12_taken 0 = .ok (.aload_n 0, 1) := by decide +kernel
theorem dX12_taken_1 : decode cX12_taken 1 = .ok (.iconst 0, 1) := by decide +kernel
theorem dX12_taken_2 : decode cX12_taken 2 = .ok (.putfield 145, 3) := by decide +kernel
theorem dX12_taken_5 : decode cX12_taken 5 = .ok (.aload_n 0, 1) := by decide +kernel
theorem dX12_taken_6 : decode cX12_taken 6 = .ok (.iload_n 1, 1) := by decide +kernel
theorem dX12_taken_7 : decode cX12_taken 7 = .ok (.invokevirtual 503, 3) := by decide +kernel
theorem dX12_taken_10 : decode cX12_taken 10 = .ok (.istore_n 3, 1) := by decide +kernel
theorem dX12_taken_11 : decode cX12_taken 11 = .ok (.iload_n 3, 1) := by decide +kernel
theorem dX12_taken_12 : decode cX12_taken 12 = .ok (.iconst (-1), 1) := by decide +kernel
theorem dX12_taken_13 : decode cX12_taken 13 = .ok (.if_icmp .eq 15, 3) := by decide +kernel
theorem dX12_taken_28 : decode cX12_taken 28 = .ok (.iconst (-1), 1) := by decide +kernel
theorem dX12_taken_29 : decode cX12_taken 29 = .ok (.ireturn, 1) := by decide +kernel
theorem dX12_often_0 : decode cX12_often 0 = .ok (.aload_n 0, 1) := by decide +kernel
theorem dX12_often_1 : decode cX12_often 1 = .ok (.iconst 0, 1) := by decide +kernel
theorem dX12_often_2 : decode cX12_often 2 = .ok (.putfield 145, 3) := by decide +kernel
theorem dX12_often_5 : decode cX12_often 5 = .ok (.aload_n 0, 1) := by decide +kernel
theorem dX12_often_6 : decode cX12_often 6 = .ok (.iload_n 1, 1) := by decide +kernel
theorem dX12_often_7 : decode cX12_often 7 = .ok (.invokevirtual 503, 3) := by decide +kernel
theorem dX12_often_10 : decode cX12_often 10 = .ok (.istore_n 3, 1) := by decide +kernel
theorem dX12_often_11 : decode cX12_often 11 = .ok (.iload_n 3, 1) := by decide +kernel
theorem dX12_often_12 : decode cX12_often 12 = .ok (.iconst (-1), 1) := by decide +kernel
theorem dX12_often_13 : decode cX12_often 13 = .ok (.if_icmp .eq 15, 3) := by decide +kernel
theorem dX12_often_28 : decode cX12_often 28 = .ok (.iconst (-1), 1) := by decide +kernel
theorem dX12_often_29 : decode cX12_often 29 = .ok (.ireturn, 1) := by decide +kernel
theorem dX12_end_0 : decode cX12_end 0 = .ok (.aload_n 0, 1) := by decide +kernel
theorem dX12_end_1 : decode cX12_end 1 = .ok (.iconst 0, 1) := by decide +kernel
theorem dX12_end_2 : decode cX12_end 2 = .ok (.putfield 145, 3) := by decide +kernel
theorem dX12_end_5 : decode cX12_end 5 = .ok (.iload_n 1, 1) := by decide +kernel
theorem dX12_end_6 : decode cX12_end 6 = .ok (.i2l, 1) := by decide +kernel
theorem dX12_end_7 : decode cX12_end 7 = .ok (.lconst 0, 1) := by decide +kernel
theorem dX12_end_8 : decode cX12_end 8 = .ok (.aload_n 0, 1) := by decide +kernel
theorem dX12_end_9 : decode cX12_end 9 = .ok (.getfield 152, 3) := by decide +kernel
theorem dX12_end_12 : decode cX12_end 12 = .ok (.i2l, 1) := by decide +kernel
theorem dX12_end_13 : decode cX12_end 13 = .ok (.invokestatic 155, 3) := by decide +kernel
theorem dX12_end_16 : decode cX12_end 16 = .ok (.ifCond .ne 5, 3) := by decide +kernel
theorem dX12_end_19 : decode cX12_end 19 = .ok (.iconst 0, 1) := by decide +kernel
theorem dX12_end_20 : decode cX12_end 20 = .ok (.ireturn, 1) := by decide +kernel
theorem dX12_end_21 : decode cX12_end 21 = .ok (.aload_n 0, 1) := by decide +kernel
theorem dX12_end_22 : decode cX12_end 22 = .ok (.iload_n 1, 1) := by decide +kernel
theorem dX12_end_23 : decode cX12_end 23 = .ok (.putfield 152, 3) := by decide +kernel
theorem dX12_end_26 : decode cX12_end 26 = .ok (.iconst 1, 1) := by decide +kernel
theorem dX12_end_27 : decode cX12_end 27 = .ok (.ireturn, 1) := by decide +kernel
theorem dX12_forgets_0 : decode cX12_forgets 0 = .ok (.aload_n 0, 1) := by decide +kernel
theorem dX12_forgets_1 : decode cX12_forgets 1 = .ok (.iconst 0, 1) := by decide +kernel
theorem dX12_forgets_2 : decode cX12_forgets 2 = .ok (.putfield 145, 3) := by decide +kernel
theorem dX12_forgets_5 : decode cX12_forgets 5 = .ok (.iload_n 1, 1) := by decide +kernel
theorem dX12_forgets_6 : decode cX12_forgets 6 = .ok (.i2l, 1) := by decide +kernel
theorem dX12_forgets_7 : decode cX12_forgets 7 = .ok (.lconst 0, 1) := by decide +kernel
theorem dX12_forgets_8 : decode cX12_forgets 8 = .ok (.aload_n 0, 1) := by decide +kernel
theorem dX12_forgets_9 : decode cX12_forgets 9 = .ok (.getfield 328, 3) := by decide +kernel
theorem dX12_forgets_12 : decode cX12_forgets 12 = .ok (.i2l, 1) := by decide +kernel
theorem dX12_forgets_13 : decode cX12_forgets 13 = .ok (.invokestatic 155, 3) := by decide +kernel
theorem dX12_forgets_16 : decode cX12_forgets 16 = .ok (.ifCond .ne 5, 3) := by decide +kernel
theorem dX12_forgets_19 : decode cX12_forgets 19 = .ok (.iconst (-1), 1) := by decide +kernel
theorem dX12_forgets_20 : decode cX12_forgets 20 = .ok (.ireturn, 1) := by decide +kernel
theorem dX12_forgets_21 : decode cX12_forgets 21 = .ok (.aload_n 0, 1) := by decide +kernel
theorem dX12_forgets_22 : decode cX12_forgets 22 = .ok (.getfield 328, 3) := by decide +kernel
theorem dX12_forgets_25 : decode cX12_forgets 25 = .ok (.iload_n 1, 1) := by decide +kernel
theorem dX12_forgets_26 : decode cX12_forgets 26 = .ok (.isub, 1) := by decide +kernel
theorem dX12_forgets_27 : decode cX12_forgets 27 = .ok (.istore_n 2, 1) := by decide +kernel
theorem dX12_forgets_28 : decode cX12_forgets 28 = .ok (.iconst 0, 1) := by decide +kernel
theorem dX12_forgets_29 : decode cX12_forgets 29 = .ok (.istore_n 3, 1) := by decide +kernel
theorem dX12_forgets_30 : decode cX12_forgets 30 = .ok (.iload_n 1, 1) := by decide +kernel
theorem dX12_forgets_31 : decode cX12_forgets 31 = .ok (.istore 4, 2) := by decide +kernel
theorem dX12_forgets_33 : decode cX12_forgets 33 = .ok (.iload 4, 2) := by decide +kernel
theorem dX12_forgets_35 : decode cX12_forgets 35 = .ok (.aload_n 0, 1) := by decide +kernel
theorem dX12_forgets_36 : decode cX12_forgets 36 = .ok (.getfield 328, 3) := by decide +kernel
theorem dX12_forgets_39 : decode cX12_forgets 39 = .ok (.if_icmp .ge 19, 3) := by decide +kernel
theorem dX12_forgets_58 : decode cX12_forgets 58 = .ok (.aload_n 0, 1) := by decide +kernel
theorem dX12_forgets_59 : decode cX12_forgets 59 = .ok (.getfield 430, 3) := by decide +kernel
theorem dX12_forgets_62 : decode cX12_forgets 62 = .ok (.ifCond .eq 25, 3) := by decide +kernel
theorem dX12_forgets_87 : decode cX12_forgets 87 = .ok (.aload_n 0, 1) := by decide +kernel
theorem dX12_forgets_88 : decode cX12_forgets 88 = .ok (.iload_n 1, 1) := by decide +kernel
theorem dX12_forgets_89 : decode cX12_forgets 89 = .ok (.putfield 328, 3) := by decide +kernel
theorem dX12_forgets_92 : decode cX12_forgets 92 = .ok (.iload_n 2, 1) := by decide +kernel
theorem dX12_forgets_93 : decode cX12_forgets 93 = .ok (.ireturn, 1) := by decide +kernel
theorem dX12_count_0 : decode cX12_count 0 = .ok (.aload_n 0, 1) := by decide +kernel
theorem dX12_count_1 : decode cX12_count 1 = .ok (.iconst 0, 1) := by decide +kernel
theorem dX12_count_2 : decode cX12_count 2 = .ok (.putfield 145, 3) := by decide +kernel
theorem dX12_count_5 : decode cX12_count 5 = .ok (.iload_n 1, 1) := by decide +kernel
theorem dX12_count_6 : decode cX12_count 6 = .ok (.tableswitch 75 0 4 #[34, 39, 52, 65, 70], 34) := by decide +kernel
theorem dX12_count_40 : decode cX12_count 40 = .ok (.aload_n 0, 1) := by decide +kernel
theorem dX12_count_41 : decode cX12_count 41 = .ok (.getfield 328, 3) := by decide +kernel
theorem dX12_count_44 : decode cX12_count 44 = .ok (.ireturn, 1) := by decide +kernel
theorem dX12_count_45 : decode cX12_count 45 = .ok (.aload_n 0, 1) := by decide +kernel
theorem dX12_count_46 : decode cX12_count 46 = .ok (.getfield 430, 3) := by decide +kernel
theorem dX12_count_49 : decode cX12_count 49 = .ok (.ifCond .eq 7, 3) := by decide +kernel
theorem dX12_count_56 : decode cX12_count 56 = .ok (.iconst 0, 1) := by decide +kernel
theorem dX12_count_57 : decode cX12_count 57 = .ok (.ireturn, 1) := by decide +kernel
theorem dX12_count_58 : decode cX12_count 58 = .ok (.aload_n 0, 1) := by decide +kernel
theorem dX12_count_59 : decode cX12_count 59 = .ok (.getfield 405, 3) := by decide +kernel
theorem dX12_count_62 : decode cX12_count 62 = .ok (.ifCond .eq 7, 3) := by decide +kernel
theorem dX12_count_69 : decode cX12_count 69 = .ok (.iconst 0, 1) := by decide +kernel
theorem dX12_count_70 : decode cX12_count 70 = .ok (.ireturn, 1) := by decide +kernel
theorem dX12_count_71 : decode cX12_count 71 = .ok (.aload_n 0, 1) := by decide +kernel
theorem dX12_count_72 : decode cX12_count 72 = .ok (.getfield 149, 3) := by decide +kernel
theorem dX12_count_75 : decode cX12_count 75 = .ok (.ireturn, 1) := by decide +kernel
theorem dX12_count_76 : decode cX12_count 76 = .ok (.aload_n 0, 1) := by decide +kernel
theorem dX12_count_77 : decode cX12_count 77 = .ok (.getfield 152, 3) := by decide +kernel
theorem dX12_count_80 : decode cX12_count 80 = .ok (.ireturn, 1) := by decide +kernel
theorem dX12_count_81 : decode cX12_count 81 = .ok (.iconst (-1), 1) := by decide +kernel
theorem dX12_count_82 : decode cX12_count 82 = .ok (.ireturn, 1) := by decide +kernel
theorem dX12_sign_0 : decode cX12_sign 0 = .ok (.aload_n 0, 1) := by decide +kernel
theorem dX12_sign_1 : decode cX12_sign 1 = .ok (.iconst 0, 1) := by decide +kernel
theorem dX12_sign_2 : decode cX12_sign 2 = .ok (.putfield 145, 3) := by decide +kernel
theorem dX12_sign_5 : decode cX12_sign 5 = .ok (.aload_n 0, 1) := by decide +kernel
theorem dX12_sign_6 : decode cX12_sign 6 = .ok (.getfield 152, 3) := by decide +kernel
theorem dX12_sign_9 : decode cX12_sign 9 = .ok (.iconst 4, 1) := by decide +kernel
theorem dX12_sign_10 : decode cX12_sign 10 = .ok (.iadd, 1) := by decide +kernel
theorem dX12_sign_11 : decode cX12_sign 11 = .ok (.bipush 100, 2) := by decide +kernel
theorem dX12_sign_13 : decode cX12_sign 13 = .ok (.if_icmp .le 5, 3) := by decide +kernel
theorem dX12_sign_18 : decode cX12_sign 18 = .ok (.iconst 3, 1) := by decide +kernel
theorem dX12_sign_19 : decode cX12_sign 19 = .ok (.istore_n 2, 1) := by decide +kernel
theorem dX12_sign_20 : decode cX12_sign 20 = .ok (.iload_n 2, 1) := by decide +kernel
theorem dX12_sign_21 : decode cX12_sign 21 = .ok (.ifCond .lt 32, 3) := by decide +kernel
theorem dX12_sign_24 : decode cX12_sign 24 = .ok (.aload_n 0, 1) := by decide +kernel
theorem dX12_sign_25 : decode cX12_sign 25 = .ok (.getfield 9, 3) := by decide +kernel
theorem dX12_sign_28 : decode cX12_sign 28 = .ok (.aload_n 0, 1) := by decide +kernel
theorem dX12_sign_29 : decode cX12_sign 29 = .ok (.dup, 1) := by decide +kernel
theorem dX12_sign_30 : decode cX12_sign 30 = .ok (.getfield 152, 3) := by decide +kernel
theorem dX12_sign_33 : decode cX12_sign 33 = .ok (.dup_x1, 1) := by decide +kernel
theorem dX12_sign_34 : decode cX12_sign 34 = .ok (.iconst 1, 1) := by decide +kernel
theorem dX12_sign_35 : decode cX12_sign 35 = .ok (.iadd, 1) := by decide +kernel
theorem dX12_sign_36 : decode cX12_sign 36 = .ok (.putfield 152, 3) := by decide +kernel
theorem dX12_sign_39 : decode cX12_sign 39 = .ok (.iload_n 1, 1) := by decide +kernel
theorem dX12_sign_40 : decode cX12_sign 40 = .ok (.bipush 8, 2) := by decide +kernel
theorem dX12_sign_42 : decode cX12_sign 42 = .ok (.iload_n 2, 1) := by decide +kernel
theorem dX12_sign_43 : decode cX12_sign 43 = .ok (.imul, 1) := by decide +kernel
theorem dX12_sign_44 : decode cX12_sign 44 = .ok (.ishr, 1) := by decide +kernel
theorem dX12_sign_45 : decode cX12_sign 45 = .ok (.i2b, 1) := by decide +kernel
theorem dX12_sign_46 : decode cX12_sign 46 = .ok (.bastore, 1) := by decide +kernel
theorem dX12_sign_47 : decode cX12_sign 47 = .ok (.iinc 2 (-1), 3) := by decide +kernel
theorem dX12_sign_50 : decode cX12_sign 50 = .ok (.goto (-30), 3) := by decide +kernel
theorem dX12_sign_53 : decode cX12_sign 53 = .ok (.aload_n 0, 1) := by decide +kernel
theorem dX12_sign_54 : decode cX12_sign 54 = .ok (.getfield 152, 3) := by decide +kernel
theorem dX12_sign_57 : decode cX12_sign 57 = .ok (.ireturn, 1) := by decide +kernel
theorem dX12_here_0 : decode cX12_here 0 = .ok (.aload_n 0, 1) := by decide +kernel
theorem dX12_here_1 : decode cX12_here 1 = .ok (.getfield 159, 3) := by decide +kernel
theorem dX12_here_4 : decode cX12_here 4 = .ok (.aload_n 0, 1) := by decide +kernel
theorem dX12_here_5 : decode cX12_here 5 = .ok (.getfield 162, 3) := by decide +kernel
theorem dX12_here_8 : decode cX12_here 8 = .ok (.if_icmp .ge 19, 3) := by decide +kernel
theorem dX12_here_27 : decode cX12_here 27 = .ok (.iconst (-1), 1) := by decide +kernel
theorem dX12_here_28 : decode cX12_here 28 = .ok (.ireturn, 1) := by decide +kernel
theorem dX12_fault_0 : decode cX12_fault 0 = .ok (.aload_n 0, 1) := by decide +kernel
theorem dX12_fault_1 : decode cX12_fault 1 = .ok (.getfield 165, 3) := by decide +kernel
theorem dX12_fault_4 : decode cX12_fault 4 = .ok (.iconst (-1), 1) := by decide +kernel
theorem dX12_fault_5 : decode cX12_fault 5 = .ok (.if_icmp .ne 11, 3) := by decide +kernel
theorem dX12_fault_8 : decode cX12_fault 8 = .ok (.aload_n 0, 1) := by decide +kernel
theorem dX12_fault_9 : decode cX12_fault 9 = .ok (.aload_n 0, 1) := by decide +kernel
theorem dX12_fault_10 : decode cX12_fault 10 = .ok (.getfield 159, 3) := by decide +kernel
theorem dX12_fault_13 : decode cX12_fault 13 = .ok (.putfield 165, 3) := by decide +kernel
theorem dX12_fault_16 : decode cX12_fault 16 = .ok (.return_, 1) := by decide +kernel
theorem dX12_readOne_0 : decode cX12_readOne 0 = .ok (.aload_n 0, 1) := by decide +kernel
theorem dX12_readOne_1 : decode cX12_readOne 1 = .ok (.getfield 165, 3) := by decide +kernel
theorem dX12_readOne_4 : decode cX12_readOne 4 = .ok (.iconst (-1), 1) := by decide +kernel
theorem dX12_readOne_5 : decode cX12_readOne 5 = .ok (.if_icmp .eq 7, 3) := by decide +kernel
theorem dX12_readOne_12 : decode cX12_readOne 12 = .ok (.aload_n 0, 1) := by decide +kernel
theorem dX12_readOne_13 : decode cX12_readOne 13 = .ok (.invokevirtual 168, 3) := by decide +kernel
theorem dX12_readOne_16 : decode cX12_readOne 16 = .ok (.istore_n 1, 1) := by decide +kernel
theorem dX12_readOne_17 : decode cX12_readOne 17 = .ok (.iload_n 1, 1) := by decide +kernel
theorem dX12_readOne_18 : decode cX12_readOne 18 = .ok (.i2l, 1) := by decide +kernel
theorem dX12_readOne_19 : decode cX12_readOne 19 = .ok (.ldc2_w 179, 3) := by decide +kernel
theorem dX12_readOne_22 : decode cX12_readOne 22 = .ok (.ldc2_w 181, 3) := by decide +kernel
theorem dX12_readOne_25 : decode cX12_readOne 25 = .ok (.invokestatic 155, 3) := by decide +kernel
theorem dX12_readOne_28 : decode cX12_readOne 28 = .ok (.ifCond .ne 17, 3) := by decide +kernel
theorem dX12_readOne_31 : decode cX12_readOne 31 = .ok (.iload_n 1, 1) := by decide +kernel
theorem dX12_readOne_32 : decode cX12_readOne 32 = .ok (.i2l, 1) := by decide +kernel
theorem dX12_readOne_33 : decode cX12_readOne 33 = .ok (.ldc2_w 183, 3) := by decide +kernel
theorem dX12_readOne_36 : decode cX12_readOne 36 = .ok (.ldc2_w 185, 3) := by decide +kernel
theorem dX12_readOne_39 : decode cX12_readOne 39 = .ok (.invokestatic 155, 3) := by decide +kernel
theorem dX12_readOne_42 : decode cX12_readOne 42 = .ok (.ifCond .eq 51, 3) := by decide +kernel
theorem dX12_readOne_93 : decode cX12_readOne 93 = .ok (.iload_n 1, 1) := by decide +kernel
theorem dX12_readOne_94 : decode cX12_readOne 94 = .ok (.lookupswitch 144 #[(35, 110), (36, 100), (38, 129), (40, 95), (45, 117), (60, 134), (63, 139), (92, 90), (123, 105), (126, 124)], 90) := by decide +kernel
theorem dX12_readOne_238 : decode cX12_readOne 238 = .ok (.aload_n 0, 1) := by decide +kernel
theorem dX12_readOne_239 : decode cX12_readOne 239 = .ok (.invokevirtual 172, 3) := by decide +kernel
theorem dX12_readOne_242 : decode cX12_readOne 242 = .ok (.sipush 900, 3) := by decide +kernel
theorem dX12_readOne_245 : decode cX12_readOne 245 = .ok (.ireturn, 1) := by decide +kernel
theorem dX12_readAside_0 : decode cX12_readAside 0 = .ok (.aload_n 0, 1) := by decide +kernel
theorem dX12_readAside_1 : decode cX12_readAside 1 = .ok (.invokevirtual 231, 3) := by decide +kernel
theorem dX12_readAside_4 : decode cX12_readAside 4 = .ok (.aload_n 0, 1) := by decide +kernel
theorem dX12_readAside_5 : decode cX12_readAside 5 = .ok (.getfield 42, 3) := by decide +kernel
theorem dX12_readAside_8 : decode cX12_readAside 8 = .ok (.bipush 9, 2) := by decide +kernel
theorem dX12_readAside_10 : decode cX12_readAside 10 = .ok (.iconst 0, 1) := by decide +kernel
theorem dX12_readAside_11 : decode cX12_readAside 11 = .ok (.iastore, 1) := by decide +kernel
theorem dX12_readAside_12 : decode cX12_readAside 12 = .ok (.aload_n 0, 1) := by decide +kernel
theorem dX12_readAside_13 : decode cX12_readAside 13 = .ok (.getfield 45, 3) := by decide +kernel
theorem dX12_readAside_16 : decode cX12_readAside 16 = .ok (.bipush 9, 2) := by decide +kernel
theorem dX12_readAside_18 : decode cX12_readAside 18 = .ok (.aload_n 0, 1) := by decide +kernel
theorem dX12_readAside_19 : decode cX12_readAside 19 = .ok (.invokevirtual 225, 3) := by decide +kernel
theorem dX12_readAside_22 : decode cX12_readAside 22 = .ok (.iastore, 1) := by decide +kernel
theorem dX12_readAside_23 : decode cX12_readAside 23 = .ok (.aload_n 0, 1) := by decide +kernel
theorem dX12_readAside_24 : decode cX12_readAside 24 = .ok (.getfield 165, 3) := by decide +kernel
theorem dX12_readAside_27 : decode cX12_readAside 27 = .ok (.iconst (-1), 1) := by decide +kernel
theorem dX12_readAside_28 : decode cX12_readAside 28 = .ok (.if_icmp .ne 18, 3) := by decide +kernel
theorem dX12_readAside_46 : decode cX12_readAside 46 = .ok (.aload_n 0, 1) := by decide +kernel
theorem dX12_readAside_47 : decode cX12_readAside 47 = .ok (.getfield 165, 3) := by decide +kernel
theorem dX12_readAside_50 : decode cX12_readAside 50 = .ok (.ireturn, 1) := by decide +kernel
theorem dX12_infers_0 : decode cX12_infers 0 = .ok (.aload_n 0, 1) := by decide +kernel
theorem dX12_infers_1 : decode cX12_infers 1 = .ok (.iconst 0, 1) := by decide +kernel
theorem dX12_infers_2 : decode cX12_infers 2 = .ok (.putfield 145, 3) := by decide +kernel
theorem dX12_infers_5 : decode cX12_infers 5 = .ok (.aload_n 0, 1) := by decide +kernel
theorem dX12_infers_6 : decode cX12_infers 6 = .ok (.invokevirtual 418, 3) := by decide +kernel
theorem dX12_infers_9 : decode cX12_infers 9 = .ok (.iconst (-1), 1) := by decide +kernel
theorem dX12_infers_10 : decode cX12_infers 10 = .ok (.if_icmp .eq 10, 3) := by decide +kernel
theorem dX12_infers_13 : decode cX12_infers 13 = .ok (.iconst (-1), 1) := by decide +kernel
theorem dX12_infers_14 : decode cX12_infers 14 = .ok (.aload_n 0, 1) := by decide +kernel
theorem dX12_infers_15 : decode cX12_infers 15 = .ok (.getfield 165, 3) := by decide +kernel
theorem dX12_infers_18 : decode cX12_infers 18 = .ok (.isub, 1) := by decide +kernel
theorem dX12_infers_19 : decode cX12_infers 19 = .ok (.ireturn, 1) := by decide +kernel
theorem dX12_defines_0 : decode cX12_defines 0 = .ok (.aload_n 0, 1) := by decide +kernel
theorem dX12_defines_1 : decode cX12_defines 1 = .ok (.iconst 0, 1) := by decide +kernel
theorem dX12_defines_2 : decode cX12_defines 2 = .ok (.putfield 145, 3) := by decide +kernel
theorem dX12_defines_5 : decode cX12_defines 5 = .ok (.aload_n 0, 1) := by decide +kernel
theorem dX12_defines_6 : decode cX12_defines 6 = .ok (.invokevirtual 418, 3) := by decide +kernel
theorem dX12_defines_9 : decode cX12_defines 9 = .ok (.iconst (-1), 1) := by decide +kernel
theorem dX12_defines_10 : decode cX12_defines 10 = .ok (.if_icmp .eq 10, 3) := by decide +kernel
theorem dX12_defines_13 : decode cX12_defines 13 = .ok (.iconst (-1), 1) := by decide +kernel
theorem dX12_defines_14 : decode cX12_defines 14 = .ok (.aload_n 0, 1) := by decide +kernel
theorem dX12_defines_15 : decode cX12_defines 15 = .ok (.getfield 165, 3) := by decide +kernel
theorem dX12_defines_18 : decode cX12_defines 18 = .ok (.isub, 1) := by decide +kernel
theorem dX12_defines_19 : decode cX12_defines 19 = .ok (.ireturn, 1) := by decide +kernel
theorem dX12_fits_0 : decode cX12_fits 0 = .ok (.aload_n 0, 1) := by decide +kernel
theorem dX12_fits_1 : decode cX12_fits 1 = .ok (.iconst 0, 1) := by decide +kernel
theorem dX12_fits_2 : decode cX12_fits 2 = .ok (.putfield 145, 3) := by decide +kernel
theorem dX12_fits_5 : decode cX12_fits 5 = .ok (.aload_n 0, 1) := by decide +kernel
theorem dX12_fits_6 : decode cX12_fits 6 = .ok (.invokevirtual 231, 3) := by decide +kernel
theorem dX12_fits_9 : decode cX12_fits 9 = .ok (.aload_n 0, 1) := by decide +kernel
theorem dX12_fits_10 : decode cX12_fits 10 = .ok (.iload_n 1, 1) := by decide +kernel
theorem dX12_fits_11 : decode cX12_fits 11 = .ok (.invokevirtual 436, 3) := by decide +kernel
theorem dX12_fits_14 : decode cX12_fits 14 = .ok (.istore_n 2, 1) := by decide +kernel
theorem dX12_fits_15 : decode cX12_fits 15 = .ok (.iload_n 2, 1) := by decide +kernel
theorem dX12_fits_16 : decode cX12_fits 16 = .ok (.iconst (-1), 1) := by decide +kernel
theorem dX12_fits_17 : decode cX12_fits 17 = .ok (.if_icmp .ne 5, 3) := by decide +kernel
theorem dX12_fits_20 : decode cX12_fits 20 = .ok (.iconst (-1), 1) := by decide +kernel
theorem dX12_fits_21 : decode cX12_fits 21 = .ok (.ireturn, 1) := by decide +kernel
theorem dX12_lost_0 : decode cX12_lost 0 = .ok (.aload_n 0, 1) := by decide +kernel
theorem dX12_lost_1 : decode cX12_lost 1 = .ok (.iconst 1, 1) := by decide +kernel
theorem dX12_lost_2 : decode cX12_lost 2 = .ok (.putfield 145, 3) := by decide +kernel
theorem dX12_lost_5 : decode cX12_lost 5 = .ok (.iconst 0, 1) := by decide +kernel
theorem dX12_lost_6 : decode cX12_lost 6 = .ok (.ireturn, 1) := by decide +kernel
theorem dX12_thrown_0 : decode cX12_thrown 0 = .ok (.aload_n 0, 1) := by decide +kernel
theorem dX12_thrown_1 : decode cX12_thrown 1 = .ok (.getfield 145, 3) := by decide +kernel
theorem dX12_thrown_4 : decode cX12_thrown 4 = .ok (.ireturn, 1) := by decide +kernel
end
section
def wp0 : List Cond := [Cond.methodLink RX3 3 objectInit, Cond.instanceMethod objectInit, Cond.code objectInit ⟨#[0xb1]⟩ 1 none, Cond.arrayClass .int, Cond.fieldLink RX3 9 "RowTypes$Kept" "parts" "[I", Cond.fieldLink RX3 15 "RowTypes$Kept" "lacks" "[I", Cond.fieldLink RX3 18 "RowTypes$Kept" "given" "[I", Cond.methodLink RX2 3 objectInit, Cond.fieldLink RX2 9 "RowTypes$Ints" "items" "[I", Cond.methodLink RX0 3 objectInit, Cond.fieldLink RX0 9 "RowTypes$Expression" "signs" "[I", Cond.fieldLink RX0 15 "RowTypes$Expression" "kinds" "[I", Cond.fieldLink RX0 18 "RowTypes$Expression" "links" "[I", Cond.classLink RX0 21 RX3, Cond.instantiable RX3 5, Cond.initialized RX3, Cond.code yX3_init cX3_init 1 none, Cond.instanceMethod yX3_init, Cond.fieldLink RX0 24 "RowTypes$Expression" "kept" "LRowTypes$Kept;", Cond.methodLink RX6 3 objectInit]
def wp1 : List Cond := [Cond.classLink RX6 9 RX2, Cond.instantiable RX2 2, Cond.initialized RX2, Cond.code yX2_init cX2_init 1 none, Cond.instanceMethod yX2_init, Cond.fieldLink RX6 12 "RowTypes$Reader" "due" "LRowTypes$Ints;", Cond.fieldLink RX6 18 "RowTypes$Reader" "lastBranch" "[I", Cond.fieldLink RX6 22 "RowTypes$Reader" "branchLabels" "[I", Cond.methodLink RX5 3 objectInit, Cond.fieldLink RX5 11 "RowTypes$Nodes" "kinds" "[I", Cond.fieldLink RX5 15 "RowTypes$Nodes" "firsts" "[I", Cond.fieldLink RX5 18 "RowTypes$Nodes" "seconds" "[I", Cond.fieldLink RX5 21 "RowTypes$Nodes" "bits" "[I", Cond.fieldLink RX5 24 "RowTypes$Nodes" "links" "[I", Cond.fieldLink RX5 27 "RowTypes$Nodes" "marks" "[I", Cond.classLink RX5 30 RX2, Cond.fieldLink RX5 33 "RowTypes$Nodes" "work" "LRowTypes$Ints;", Cond.fieldLink RX5 37 "RowTypes$Nodes" "types" "[I", Cond.fieldLink RX5 40 "RowTypes$Nodes" "otherTypes" "[I", Cond.fieldLink RX5 43 "RowTypes$Nodes" "variables" "[I"]
def wp2 : List Cond := [Cond.methodLink RX9 3 objectInit, Cond.classLink RX9 9 RX2, Cond.fieldLink RX9 12 "RowTypes$TypeReader" "due" "LRowTypes$Ints;", Cond.fieldLink RX9 18 "RowTypes$TypeReader" "built" "LRowTypes$Ints;", Cond.fieldLink RX9 21 "RowTypes$TypeReader" "nodes" "LRowTypes$Nodes;", Cond.methodLink RX10 3 objectInit, Cond.classLink RX10 9 RX2, Cond.fieldLink RX10 12 "RowTypes$Unifier" "due" "LRowTypes$Ints;", Cond.fieldLink RX10 18 "RowTypes$Unifier" "nodes" "LRowTypes$Nodes;", Cond.methodLink RX1 3 objectInit, Cond.fieldLink RX1 9 "RowTypes$Finder" "found" "[I", Cond.fieldLink RX1 15 "RowTypes$Finder" "boundNames" "[I", Cond.fieldLink RX1 18 "RowTypes$Finder" "boundTypes" "[I", Cond.classLink RX1 21 RX3, Cond.fieldLink RX1 23 "RowTypes$Finder" "boundSchemes" "[LRowTypes$Kept;", Cond.fieldLink RX1 27 "RowTypes$Finder" "schemes" "[LRowTypes$Kept;", Cond.fieldLink RX1 31 "RowTypes$Finder" "flat" "LRowTypes$Kept;", Cond.fieldLink RX1 35 "RowTypes$Finder" "nodes" "LRowTypes$Nodes;", Cond.fieldLink RX1 39 "RowTypes$Finder" "unifier" "LRowTypes$Unifier;", Cond.fieldLink RX1 43 "RowTypes$Finder" "texts" "[LRowTypes$Expression;"]
def wp3 : List Cond := [Cond.methodLink RX4 3 objectInit, Cond.fieldLink RX4 11 "RowTypes$Machine" "sorts" "[I", Cond.fieldLink RX4 15 "RowTypes$Machine" "numbers" "[I", Cond.fieldLink RX4 18 "RowTypes$Machine" "owners" "[I", Cond.fieldLink RX4 21 "RowTypes$Machine" "inners" "[I", Cond.fieldLink RX4 24 "RowTypes$Machine" "fields" "[I", Cond.arrayClass .long, Cond.fieldLink RX4 27 "RowTypes$Machine" "lengths" "[J", Cond.fieldLink RX4 31 "RowTypes$Machine" "names" "[I", Cond.fieldLink RX4 34 "RowTypes$Machine" "namedValues" "[I", Cond.fieldLink RX4 37 "RowTypes$Machine" "namesBehind" "[I", Cond.classLink RX4 40 RX2, Cond.fieldLink RX4 43 "RowTypes$Machine" "due" "LRowTypes$Ints;", Cond.fieldLink RX4 47 "RowTypes$Machine" "done" "LRowTypes$Ints;", Cond.fieldLink RX4 50 "RowTypes$Machine" "texts" "[LRowTypes$Expression;", Cond.methodLink RX8 3 objectInit, Cond.classLink RX8 9 RX2, Cond.fieldLink RX8 12 "RowTypes$Survey" "due" "LRowTypes$Ints;", Cond.methodLink RX7 3 objectInit, Cond.classLink RX7 9 RX2]
def wp4 : List Cond := [Cond.fieldLink RX7 12 "RowTypes$Scribe" "due" "LRowTypes$Ints;", Cond.fieldLink RX7 18 "RowTypes$Scribe" "signs" "LRowTypes$Ints;", Cond.methodLink RX11 3 objectInit, Cond.fieldLink RX11 9 "RowTypes" "text" "[I", Cond.classLink RX11 13 RX0, Cond.fieldLink RX11 15 "RowTypes" "texts" "[LRowTypes$Expression;", Cond.classLink RX11 19 RX3, Cond.fieldLink RX11 22 "RowTypes" "answer" "LRowTypes$Kept;", Cond.fieldLink RX11 26 "RowTypes" "made" "LRowTypes$Kept;", Cond.fieldLink RX11 29 "RowTypes" "told" "[I", Cond.fieldLink RX11 32 "RowTypes" "workedOut" "I", Cond.classLink RX11 36 RX6, Cond.instantiable RX6 5, Cond.initialized RX6, Cond.code yX6_init cX6_init 1 none, Cond.instanceMethod yX6_init, Cond.fieldLink RX11 39 "RowTypes" "reader" "LRowTypes$Reader;", Cond.classLink RX11 43 RX5, Cond.instantiable RX5 12, Cond.initialized RX5]
def wp5 : List Cond := [Cond.code yX5_init cX5_init 1 none, Cond.instanceMethod yX5_init, Cond.fieldLink RX11 46 "RowTypes" "nodes" "LRowTypes$Nodes;", Cond.classLink RX11 50 RX9, Cond.instantiable RX9 7, Cond.initialized RX9, Cond.code yX9_init cX9_init 2 none, Cond.methodLink RX11 52 yX9_init, Cond.instanceMethod yX9_init, Cond.fieldLink RX11 55 "RowTypes" "typeReader" "LRowTypes$TypeReader;", Cond.classLink RX11 59 RX10, Cond.instantiable RX10 5, Cond.initialized RX10, Cond.code yX10_init cX10_init 2 none, Cond.methodLink RX11 61 yX10_init, Cond.instanceMethod yX10_init, Cond.fieldLink RX11 62 "RowTypes" "unifier" "LRowTypes$Unifier;", Cond.classLink RX11 66 RX1, Cond.instantiable RX1 16, Cond.initialized RX1]
def wp6 : List Cond := [Cond.code yX1_init cX1_init 5 none, Cond.methodLink RX11 68 yX1_init, Cond.instanceMethod yX1_init, Cond.fieldLink RX11 71 "RowTypes" "finder" "LRowTypes$Finder;", Cond.classLink RX11 75 RX4, Cond.instantiable RX4 17, Cond.initialized RX4, Cond.code yX4_init cX4_init 2 none, Cond.methodLink RX11 77 yX4_init, Cond.instanceMethod yX4_init, Cond.fieldLink RX11 80 "RowTypes" "machine" "LRowTypes$Machine;", Cond.classLink RX11 84 RX8, Cond.instantiable RX8 3, Cond.initialized RX8, Cond.code yX8_init cX8_init 1 none, Cond.instanceMethod yX8_init, Cond.fieldLink RX11 87 "RowTypes" "survey" "LRowTypes$Survey;", Cond.classLink RX11 91 RX7, Cond.instantiable RX7 4, Cond.initialized RX7]
def wp7 : List Cond := [Cond.code yX7_init cX7_init 1 none, Cond.instanceMethod yX7_init, Cond.fieldLink RX11 94 "RowTypes" "scribe" "LRowTypes$Scribe;", Cond.instantiable RX0 5, Cond.initialized RX0, Cond.code yX0_init cX0_init 1 none, Cond.instanceMethod yX0_init, Cond.fieldLink RX11 106 "RowTypes" "definitions" "I", Cond.fieldLink RX11 144 "RowTypes" "hasIt" "Z", Cond.code yX11_textOf cX11_textOf 2 (some .int), Cond.methodLink RX11 257 yX11_textOf, Cond.instanceMethod yX11_textOf, Cond.selects RX11 yX11_textOf yX11_textOf, Cond.initialized RX11, Cond.fieldLink RX11 295 "RowTypes" "hasAnswer" "Z", Cond.code yX11_keptOf cX11_keptOf 3 (some (.object "RowTypes$Kept")), Cond.methodLink RX11 161 yX11_keptOf, Cond.instanceMethod yX11_keptOf, Cond.selects RX11 yX11_keptOf yX11_keptOf, Cond.fieldLink RX11 99 "RowTypes" "textLength" "I"]
def wp8 : List Cond := [Cond.fieldLink RX11 298 "RowTypes" "toldLength" "I", Cond.fieldLink RX0 28 "RowTypes$Expression" "length" "I", Cond.fieldLink RX2 15 "RowTypes$Ints" "used" "I", Cond.constant RX2 19 (1048576), Cond.code yX11_nameBit cX11_nameBit 1 (some .int), Cond.static yX11_nameBit, Cond.fieldLink RX6 25 "RowTypes$Reader" "into" "LRowTypes$Expression;", Cond.fieldLink RX6 35 "RowTypes$Reader" "at" "I", Cond.code yX0_signAt cX0_signAt 2 (some .int), Cond.methodLink RX6 73 yX0_signAt, Cond.instanceMethod yX0_signAt, Cond.selects RX0 yX0_signAt yX0_signAt, Cond.code yX6_kindOf cX6_kindOf 2 (some .int), Cond.methodLink RX6 86 yX6_kindOf, Cond.static yX6_kindOf, Cond.code yX6_acceptsExpression cX6_acceptsExpression 3 (some .boolean), Cond.methodLink RX6 58 yX6_acceptsExpression, Cond.instanceMethod yX6_acceptsExpression, Cond.selects RX6 yX6_acceptsExpression yX6_acceptsExpression, Cond.code yX0_take cX0_take 4 none]
def wp9 : List Cond := [Cond.methodLink RX6 29 yX0_take, Cond.instanceMethod yX0_take, Cond.selects RX0 yX0_take yX0_take, Cond.code yX2_clear cX2_clear 1 none, Cond.methodLink RX6 39 yX2_clear, Cond.instanceMethod yX2_clear, Cond.selects RX2 yX2_clear yX2_clear, Cond.code yX2_push cX2_push 2 none, Cond.methodLink RX6 42 yX2_push, Cond.instanceMethod yX2_push, Cond.selects RX2 yX2_push yX2_push, Cond.constant RX6 46 (1000000), Cond.code yX2_length cX2_length 1 (some .int), Cond.methodLink RX6 47 yX2_length, Cond.instanceMethod yX2_length, Cond.selects RX2 yX2_length yX2_length, Cond.code yX2_pop cX2_pop 1 (some .int), Cond.methodLink RX6 51 yX2_pop, Cond.instanceMethod yX2_pop, Cond.selects RX2 yX2_pop yX2_pop]
def wp10 : List Cond := [Cond.code yX6_accepts cX6_accepts 3 (some .boolean), Cond.methodLink RX6 54 yX6_accepts, Cond.instanceMethod yX6_accepts, Cond.selects RX6 yX6_accepts yX6_accepts, Cond.code yX6_read cX6_read 6 (some .int), Cond.methodLink RX11 304 yX6_read, Cond.instanceMethod yX6_read, Cond.selects RX6 yX6_read yX6_read, Cond.code yX11_readText cX11_readText 2 (some .int), Cond.methodLink RX11 102 yX11_readText, Cond.instanceMethod yX11_readText, Cond.selects RX11 yX11_readText yX11_readText, Cond.methodLink RX12 1 objectInit, Cond.arrayClass .byte, Cond.fieldLink RX12 9 "RowTypesModel" "text" "[B", Cond.fieldLink RX12 13 "RowTypesModel" "row" "[J", Cond.fieldLink RX12 17 "RowTypesModel" "kind" "[I", Cond.fieldLink RX12 21 "RowTypesModel" "place" "[I", Cond.fieldLink RX12 24 "RowTypesModel" "label" "[I", Cond.fieldLink RX12 27 "RowTypesModel" "label2" "[I"]
def wp11 : List Cond := [Cond.fieldLink RX12 30 "RowTypesModel" "name" "[I", Cond.fieldLink RX12 33 "RowTypesModel" "one" "[I", Cond.fieldLink RX12 36 "RowTypesModel" "two" "[I", Cond.fieldLink RX12 39 "RowTypesModel" "next" "[I", Cond.fieldLink RX12 42 "RowTypesModel" "nodeMany" "[I", Cond.fieldLink RX12 45 "RowTypesModel" "rootOf" "[I", Cond.fieldLink RX12 48 "RowTypesModel" "sortOf" "[I", Cond.fieldLink RX12 51 "RowTypesModel" "left" "[I", Cond.fieldLink RX12 54 "RowTypesModel" "right" "[I", Cond.constant RX12 57 (160000), Cond.fieldLink RX12 58 "RowTypesModel" "fields" "[I", Cond.fieldLink RX12 61 "RowTypesModel" "endOf" "[I", Cond.fieldLink RX12 64 "RowTypesModel" "lacking" "[I", Cond.fieldLink RX12 67 "RowTypesModel" "leads" "[I", Cond.fieldLink RX12 70 "RowTypesModel" "heldType" "[I", Cond.fieldLink RX12 73 "RowTypesModel" "heldEnd" "[I", Cond.fieldLink RX12 76 "RowTypesModel" "freshType" "[I", Cond.fieldLink RX12 79 "RowTypesModel" "freshEnd" "[I", Cond.fieldLink RX12 82 "RowTypesModel" "aroundName" "[I", Cond.fieldLink RX12 85 "RowTypesModel" "aroundType" "[I"]
def wp12 : List Cond := [Cond.fieldLink RX12 88 "RowTypesModel" "aroundHeld" "[I", Cond.fieldLink RX12 91 "RowTypesModel" "typeOf" "[I", Cond.fieldLink RX12 94 "RowTypesModel" "walk" "[I", Cond.fieldLink RX12 97 "RowTypesModel" "lackOf" "[I", Cond.fieldLink RX12 100 "RowTypesModel" "variables" "[I", Cond.fieldLink RX12 103 "RowTypesModel" "great" "[I", Cond.fieldLink RX12 106 "RowTypesModel" "numberType" "[I", Cond.fieldLink RX12 109 "RowTypesModel" "numberEnd" "[I", Cond.fieldLink RX12 112 "RowTypesModel" "loaded" "[I", Cond.fieldLink RX12 115 "RowTypesModel" "out" "[I", Cond.fieldLink RX12 118 "RowTypesModel" "standsType" "[I", Cond.fieldLink RX12 121 "RowTypesModel" "standsRow" "[I", Cond.fieldLink RX12 124 "RowTypesModel" "valueSort" "[I", Cond.fieldLink RX12 127 "RowTypesModel" "valueNumber" "[I", Cond.fieldLink RX12 130 "RowTypesModel" "valueHas" "[I", Cond.fieldLink RX12 133 "RowTypesModel" "valueFields" "[I", Cond.fieldLink RX12 136 "RowTypesModel" "boundName" "[I", Cond.fieldLink RX12 139 "RowTypesModel" "boundValue" "[I", Cond.fieldLink RX12 142 "RowTypesModel" "boundNext" "[I", Cond.fieldLink RX12 328 "RowTypesModel" "definedMany" "I"]
def wp13 : List Cond := [Cond.code yX12_in cX12_in 6 (some .boolean), Cond.methodLink RX12 155 yX12_in, Cond.static yX12_in, Cond.initialized RX12, Cond.fieldLink RX12 405 "RowTypesModel" "hasAnswer" "Z", Cond.fieldLink RX12 430 "RowTypesModel" "hasIt" "Z", Cond.code yX12_slotOf cX12_slotOf 2 (some .int), Cond.methodLink RX12 436 yX12_slotOf, Cond.instanceMethod yX12_slotOf, Cond.selects RX12 yX12_slotOf yX12_slotOf, Cond.fieldLink RX12 152 "RowTypesModel" "typed" "I", Cond.fieldLink RX12 162 "RowTypesModel" "length" "I", Cond.fieldLink RX12 159 "RowTypesModel" "at" "I", Cond.fieldLink RX12 165 "RowTypesModel" "wrong" "I", Cond.fieldLink RX12 145 "RowTypesModel" "thrown" "I", Cond.code yX12_textSlot cX12_textSlot 2 (some .int), Cond.methodLink RX12 503 yX12_textSlot, Cond.instanceMethod yX12_textSlot, Cond.selects RX12 yX12_textSlot yX12_textSlot, Cond.fieldLink RX12 149 "RowTypesModel" "rowMany" "I"]
def wp14 : List Cond := [Cond.code yX12_here cX12_here 1 (some .int), Cond.methodLink RX12 168 yX12_here, Cond.instanceMethod yX12_here, Cond.selects RX12 yX12_here yX12_here, Cond.constantLong RX12 179 (48), Cond.constantLong RX12 181 (57), Cond.constantLong RX12 183 (97), Cond.constantLong RX12 185 (122), Cond.code yX12_fault cX12_fault 1 none, Cond.methodLink RX12 172 yX12_fault, Cond.instanceMethod yX12_fault, Cond.selects RX12 yX12_fault yX12_fault, Cond.code yX12_begin cX12_begin 1 none, Cond.methodLink RX12 231 yX12_begin, Cond.instanceMethod yX12_begin, Cond.selects RX12 yX12_begin yX12_begin, Cond.code yX12_readOne cX12_readOne 3 (some .int), Cond.methodLink RX12 225 yX12_readOne, Cond.instanceMethod yX12_readOne, Cond.selects RX12 yX12_readOne yX12_readOne]
def wp15 : List Cond := [Cond.code yX12_readAside cX12_readAside 1 (some .int), Cond.methodLink RX12 418 yX12_readAside, Cond.instanceMethod yX12_readAside, Cond.selects RX12 yX12_readAside yX12_readAside]
def wpU : List Cond := wsX00 ++ (wsX10 ++ (wsX20 ++ (wsX30 ++ (wsX40 ++ (wsX50 ++ (wsX60 ++ (wsX70 ++ (wsX80 ++ (wsX90 ++ (wsX100 ++ (wsX110 ++ (wsX120))))))))))))
def wp : List Cond := wp0 ++ (wp1 ++ (wp2 ++ (wp3 ++ (wp4 ++ (wp5 ++ (wp6 ++ (wp7 ++ (wp8 ++ (wp9 ++ (wp10 ++ (wp11 ++ (wp12 ++ (wp13 ++ (wp14 ++ (wp15 ++ wpU)))))))))))))))
theorem wi0 {w : Cond} (h : w ∈ wp0) : w ∈ wp := List.mem_append_left _ h
theorem wi1 {w : Cond} (h : w ∈ wp1) : w ∈ wp := List.mem_append_right _ (List.mem_append_left _ h)
theorem wi2 {w : Cond} (h : w ∈ wp2) : w ∈ wp := List.mem_append_right _ (List.mem_append_right _ (List.mem_append_left _ h))
theorem wi3 {w : Cond} (h : w ∈ wp3) : w ∈ wp := List.mem_append_right _ (List.mem_append_right _ (List.mem_append_right _ (List.mem_append_left _ h)))
theorem wi4 {w : Cond} (h : w ∈ wp4) : w ∈ wp := List.mem_append_right _ (List.mem_append_right _ (List.mem_append_right _ (List.mem_append_right _ (List.mem_append_left _ h))))
theorem wi5 {w : Cond} (h : w ∈ wp5) : w ∈ wp := List.mem_append_right _ (List.mem_append_right _ (List.mem_append_right _ (List.mem_append_right _ (List.mem_append_right _ (List.mem_append_left _ h)))))
theorem wi6 {w : Cond} (h : w ∈ wp6) : w ∈ wp := List.mem_append_right _ (List.mem_append_right _ (List.mem_append_right _ (List.mem_append_right _ (List.mem_append_right _ (List.mem_append_right _ (List.mem_append_left _ h))))))
theorem wi7 {w : Cond} (h : w ∈ wp7) : w ∈ wp := List.mem_append_right _ (List.mem_append_right _ (List.mem_append_right _ (List.mem_append_right _ (List.mem_append_right _ (List.mem_append_right _ (List.mem_append_right _ (List.mem_append_left _ h)))))))
theorem wi8 {w : Cond} (h : w ∈ wp8) : w ∈ wp := List.mem_append_right _ (List.mem_append_right _ (List.mem_append_right _ (List.mem_append_right _ (List.mem_append_right _ (List.mem_append_right _ (List.mem_append_right _ (List.mem_append_right _ (List.mem_append_left _ h))))))))
theorem wi9 {w : Cond} (h : w ∈ wp9) : w ∈ wp := List.mem_append_right _ (List.mem_append_right _ (List.mem_append_right _ (List.mem_append_right _ (List.mem_append_right _ (List.mem_append_right _ (List.mem_append_right _ (List.mem_append_right _ (List.mem_append_right _ (List.mem_append_left _ h)))))))))
theorem wi10 {w : Cond} (h : w ∈ wp10) : w ∈ wp := List.mem_append_right _ (List.mem_append_right _ (List.mem_append_right _ (List.mem_append_right _ (List.mem_append_right _ (List.mem_append_right _ (List.mem_append_right _ (List.mem_append_right _ (List.mem_append_right _ (List.mem_append_right _ (List.mem_append_left _ h))))))))))
theorem wi11 {w : Cond} (h : w ∈ wp11) : w ∈ wp := List.mem_append_right _ (List.mem_append_right _ (List.mem_append_right _ (List.mem_append_right _ (List.mem_append_right _ (List.mem_append_right _ (List.mem_append_right _ (List.mem_append_right _ (List.mem_append_right _ (List.mem_append_right _ (List.mem_append_right _ (List.mem_append_left _ h)))))))))))
theorem wi12 {w : Cond} (h : w ∈ wp12) : w ∈ wp := List.mem_append_right _ (List.mem_append_right _ (List.mem_append_right _ (List.mem_append_right _ (List.mem_append_right _ (List.mem_append_right _ (List.mem_append_right _ (List.mem_append_right _ (List.mem_append_right _ (List.mem_append_right _ (List.mem_append_right _ (List.mem_append_right _ (List.mem_append_left _ h))))))))))))
theorem wi13 {w : Cond} (h : w ∈ wp13) : w ∈ wp := List.mem_append_right _ (List.mem_append_right _ (List.mem_append_right _ (List.mem_append_right _ (List.mem_append_right _ (List.mem_append_right _ (List.mem_append_right _ (List.mem_append_right _ (List.mem_append_right _ (List.mem_append_right _ (List.mem_append_right _ (List.mem_append_right _ (List.mem_append_right _ (List.mem_append_left _ h)))))))))))))
theorem wi14 {w : Cond} (h : w ∈ wp14) : w ∈ wp := List.mem_append_right _ (List.mem_append_right _ (List.mem_append_right _ (List.mem_append_right _ (List.mem_append_right _ (List.mem_append_right _ (List.mem_append_right _ (List.mem_append_right _ (List.mem_append_right _ (List.mem_append_right _ (List.mem_append_right _ (List.mem_append_right _ (List.mem_append_right _ (List.mem_append_right _ (List.mem_append_left _ h))))))))))))))
theorem wi15 {w : Cond} (h : w ∈ wp15) : w ∈ wp := List.mem_append_right _ (List.mem_append_right _ (List.mem_append_right _ (List.mem_append_right _ (List.mem_append_right _ (List.mem_append_right _ (List.mem_append_right _ (List.mem_append_right _ (List.mem_append_right _ (List.mem_append_right _ (List.mem_append_right _ (List.mem_append_right _ (List.mem_append_right _ (List.mem_append_right _ (List.mem_append_right _ (List.mem_append_left _ h)))))))))))))))
theorem uX0 : ∀ w ∈ wsX00, w ∈ wp := fun w h => (fun {w : Cond} (h : w ∈ wpU) => (List.mem_append_right _ (List.mem_append_right _ (List.mem_append_right _ (List.mem_append_right _ (List.mem_append_right _ (List.mem_append_right _ (List.mem_append_right _ (List.mem_append_right _ (List.mem_append_right _ (List.mem_append_right _ (List.mem_append_right _ (List.mem_append_right _ (List.mem_append_right _ (List.mem_append_right _ (List.mem_append_right _ (List.mem_append_right _ (h)))))))))))))))) : w ∈ wp)) (List.mem_append_left _ h)
theorem uX1 : ∀ w ∈ wsX10, w ∈ wp := fun w h => (fun {w : Cond} (h : w ∈ wpU) => (List.mem_append_right _ (List.mem_append_right _ (List.mem_append_right _ (List.mem_append_right _ (List.mem_append_right _ (List.mem_append_right _ (List.mem_append_right _ (List.mem_append_right _ (List.mem_append_right _ (List.mem_append_right _ (List.mem_append_right _ (List.mem_append_right _ (List.mem_append_right _ (List.mem_append_right _ (List.mem_append_right _ (List.mem_append_right _ (h)))))))))))))))) : w ∈ wp)) (List.mem_append_right _ (List.mem_append_left _ h))
theorem uX2 : ∀ w ∈ wsX20, w ∈ wp := fun w h => (fun {w : Cond} (h : w ∈ wpU) => (List.mem_append_right _ (List.mem_append_right _ (List.mem_append_right _ (List.mem_append_right _ (List.mem_append_right _ (List.mem_append_right _ (List.mem_append_right _ (List.mem_append_right _ (List.mem_append_right _ (List.mem_append_right _ (List.mem_append_right _ (List.mem_append_right _ (List.mem_append_right _ (List.mem_append_right _ (List.mem_append_right _ (List.mem_append_right _ (h)))))))))))))))) : w ∈ wp)) (List.mem_append_right _ (List.mem_append_right _ (List.mem_append_left _ h)))
theorem uX3 : ∀ w ∈ wsX30, w ∈ wp := fun w h => (fun {w : Cond} (h : w ∈ wpU) => (List.mem_append_right _ (List.mem_append_right _ (List.mem_append_right _ (List.mem_append_right _ (List.mem_append_right _ (List.mem_append_right _ (List.mem_append_right _ (List.mem_append_right _ (List.mem_append_right _ (List.mem_append_right _ (List.mem_append_right _ (List.mem_append_right _ (List.mem_append_right _ (List.mem_append_right _ (List.mem_append_right _ (List.mem_append_right _ (h)))))))))))))))) : w ∈ wp)) (List.mem_append_right _ (List.mem_append_right _ (List.mem_append_right _ (List.mem_append_left _ h))))
theorem uX4 : ∀ w ∈ wsX40, w ∈ wp := fun w h => (fun {w : Cond} (h : w ∈ wpU) => (List.mem_append_right _ (List.mem_append_right _ (List.mem_append_right _ (List.mem_append_right _ (List.mem_append_right _ (List.mem_append_right _ (List.mem_append_right _ (List.mem_append_right _ (List.mem_append_right _ (List.mem_append_right _ (List.mem_append_right _ (List.mem_append_right _ (List.mem_append_right _ (List.mem_append_right _ (List.mem_append_right _ (List.mem_append_right _ (h)))))))))))))))) : w ∈ wp)) (List.mem_append_right _ (List.mem_append_right _ (List.mem_append_right _ (List.mem_append_right _ (List.mem_append_left _ h)))))
theorem uX5 : ∀ w ∈ wsX50, w ∈ wp := fun w h => (fun {w : Cond} (h : w ∈ wpU) => (List.mem_append_right _ (List.mem_append_right _ (List.mem_append_right _ (List.mem_append_right _ (List.mem_append_right _ (List.mem_append_right _ (List.mem_append_right _ (List.mem_append_right _ (List.mem_append_right _ (List.mem_append_right _ (List.mem_append_right _ (List.mem_append_right _ (List.mem_append_right _ (List.mem_append_right _ (List.mem_append_right _ (List.mem_append_right _ (h)))))))))))))))) : w ∈ wp)) (List.mem_append_right _ (List.mem_append_right _ (List.mem_append_right _ (List.mem_append_right _ (List.mem_append_right _ (List.mem_append_left _ h))))))
theorem uX6 : ∀ w ∈ wsX60, w ∈ wp := fun w h => (fun {w : Cond} (h : w ∈ wpU) => (List.mem_append_right _ (List.mem_append_right _ (List.mem_append_right _ (List.mem_append_right _ (List.mem_append_right _ (List.mem_append_right _ (List.mem_append_right _ (List.mem_append_right _ (List.mem_append_right _ (List.mem_append_right _ (List.mem_append_right _ (List.mem_append_right _ (List.mem_append_right _ (List.mem_append_right _ (List.mem_append_right _ (List.mem_append_right _ (h)))))))))))))))) : w ∈ wp)) (List.mem_append_right _ (List.mem_append_right _ (List.mem_append_right _ (List.mem_append_right _ (List.mem_append_right _ (List.mem_append_right _ (List.mem_append_left _ h)))))))
theorem uX7 : ∀ w ∈ wsX70, w ∈ wp := fun w h => (fun {w : Cond} (h : w ∈ wpU) => (List.mem_append_right _ (List.mem_append_right _ (List.mem_append_right _ (List.mem_append_right _ (List.mem_append_right _ (List.mem_append_right _ (List.mem_append_right _ (List.mem_append_right _ (List.mem_append_right _ (List.mem_append_right _ (List.mem_append_right _ (List.mem_append_right _ (List.mem_append_right _ (List.mem_append_right _ (List.mem_append_right _ (List.mem_append_right _ (h)))))))))))))))) : w ∈ wp)) (List.mem_append_right _ (List.mem_append_right _ (List.mem_append_right _ (List.mem_append_right _ (List.mem_append_right _ (List.mem_append_right _ (List.mem_append_right _ (List.mem_append_left _ h))))))))
theorem uX8 : ∀ w ∈ wsX80, w ∈ wp := fun w h => (fun {w : Cond} (h : w ∈ wpU) => (List.mem_append_right _ (List.mem_append_right _ (List.mem_append_right _ (List.mem_append_right _ (List.mem_append_right _ (List.mem_append_right _ (List.mem_append_right _ (List.mem_append_right _ (List.mem_append_right _ (List.mem_append_right _ (List.mem_append_right _ (List.mem_append_right _ (List.mem_append_right _ (List.mem_append_right _ (List.mem_append_right _ (List.mem_append_right _ (h)))))))))))))))) : w ∈ wp)) (List.mem_append_right _ (List.mem_append_right _ (List.mem_append_right _ (List.mem_append_right _ (List.mem_append_right _ (List.mem_append_right _ (List.mem_append_right _ (List.mem_append_right _ (List.mem_append_left _ h)))))))))
theorem uX9 : ∀ w ∈ wsX90, w ∈ wp := fun w h => (fun {w : Cond} (h : w ∈ wpU) => (List.mem_append_right _ (List.mem_append_right _ (List.mem_append_right _ (List.mem_append_right _ (List.mem_append_right _ (List.mem_append_right _ (List.mem_append_right _ (List.mem_append_right _ (List.mem_append_right _ (List.mem_append_right _ (List.mem_append_right _ (List.mem_append_right _ (List.mem_append_right _ (List.mem_append_right _ (List.mem_append_right _ (List.mem_append_right _ (h)))))))))))))))) : w ∈ wp)) (List.mem_append_right _ (List.mem_append_right _ (List.mem_append_right _ (List.mem_append_right _ (List.mem_append_right _ (List.mem_append_right _ (List.mem_append_right _ (List.mem_append_right _ (List.mem_append_right _ (List.mem_append_left _ h))))))))))
theorem uX10 : ∀ w ∈ wsX100, w ∈ wp := fun w h => (fun {w : Cond} (h : w ∈ wpU) => (List.mem_append_right _ (List.mem_append_right _ (List.mem_append_right _ (List.mem_append_right _ (List.mem_append_right _ (List.mem_append_right _ (List.mem_append_right _ (List.mem_append_right _ (List.mem_append_right _ (List.mem_append_right _ (List.mem_append_right _ (List.mem_append_right _ (List.mem_append_right _ (List.mem_append_right _ (List.mem_append_right _ (List.mem_append_right _ (h)))))))))))))))) : w ∈ wp)) (List.mem_append_right _ (List.mem_append_right _ (List.mem_append_right _ (List.mem_append_right _ (List.mem_append_right _ (List.mem_append_right _ (List.mem_append_right _ (List.mem_append_right _ (List.mem_append_right _ (List.mem_append_right _ (List.mem_append_left _ h)))))))))))
theorem uX11 : ∀ w ∈ wsX110, w ∈ wp := fun w h => (fun {w : Cond} (h : w ∈ wpU) => (List.mem_append_right _ (List.mem_append_right _ (List.mem_append_right _ (List.mem_append_right _ (List.mem_append_right _ (List.mem_append_right _ (List.mem_append_right _ (List.mem_append_right _ (List.mem_append_right _ (List.mem_append_right _ (List.mem_append_right _ (List.mem_append_right _ (List.mem_append_right _ (List.mem_append_right _ (List.mem_append_right _ (List.mem_append_right _ (h)))))))))))))))) : w ∈ wp)) (List.mem_append_right _ (List.mem_append_right _ (List.mem_append_right _ (List.mem_append_right _ (List.mem_append_right _ (List.mem_append_right _ (List.mem_append_right _ (List.mem_append_right _ (List.mem_append_right _ (List.mem_append_right _ (List.mem_append_right _ (List.mem_append_left _ h))))))))))))
theorem uX12 : ∀ w ∈ wsX120, w ∈ wp := fun w h => (fun {w : Cond} (h : w ∈ wpU) => (List.mem_append_right _ (List.mem_append_right _ (List.mem_append_right _ (List.mem_append_right _ (List.mem_append_right _ (List.mem_append_right _ (List.mem_append_right _ (List.mem_append_right _ (List.mem_append_right _ (List.mem_append_right _ (List.mem_append_right _ (List.mem_append_right _ (List.mem_append_right _ (List.mem_append_right _ (List.mem_append_right _ (List.mem_append_right _ (h)))))))))))))))) : w ∈ wp)) (List.mem_append_right _ (List.mem_append_right _ (List.mem_append_right _ (List.mem_append_right _ (List.mem_append_right _ (List.mem_append_right _ (List.mem_append_right _ (List.mem_append_right _ (List.mem_append_right _ (List.mem_append_right _ (List.mem_append_right _ (List.mem_append_right _ (h)))))))))))))
theorem q0 : Cond.methodLink RX3 3 objectInit ∈ wp := wi0 (List.mem_of_getElem? (i := 0) rfl)
theorem q1 : Cond.instanceMethod objectInit ∈ wp := wi0 (List.mem_of_getElem? (i := 1) rfl)
theorem q2 : Cond.code objectInit ⟨#[0xb1]⟩ 1 none ∈ wp := wi0 (List.mem_of_getElem? (i := 2) rfl)
theorem q3 : Cond.arrayClass .int ∈ wp := wi0 (List.mem_of_getElem? (i := 3) rfl)
theorem q4 : Cond.fieldLink RX3 9 "RowTypes$Kept" "parts" "[I" ∈ wp := wi0 (List.mem_of_getElem? (i := 4) rfl)
theorem q5 : Cond.fieldLink RX3 15 "RowTypes$Kept" "lacks" "[I" ∈ wp := wi0 (List.mem_of_getElem? (i := 5) rfl)
theorem q6 : Cond.fieldLink RX3 18 "RowTypes$Kept" "given" "[I" ∈ wp := wi0 (List.mem_of_getElem? (i := 6) rfl)
theorem q7 : Cond.methodLink RX2 3 objectInit ∈ wp := wi0 (List.mem_of_getElem? (i := 7) rfl)
theorem q8 : Cond.fieldLink RX2 9 "RowTypes$Ints" "items" "[I" ∈ wp := wi0 (List.mem_of_getElem? (i := 8) rfl)
theorem q9 : Cond.methodLink RX0 3 objectInit ∈ wp := wi0 (List.mem_of_getElem? (i := 9) rfl)
theorem q10 : Cond.fieldLink RX0 9 "RowTypes$Expression" "signs" "[I" ∈ wp := wi0 (List.mem_of_getElem? (i := 10) rfl)
theorem q11 : Cond.fieldLink RX0 15 "RowTypes$Expression" "kinds" "[I" ∈ wp := wi0 (List.mem_of_getElem? (i := 11) rfl)
theorem q12 : Cond.fieldLink RX0 18 "RowTypes$Expression" "links" "[I" ∈ wp := wi0 (List.mem_of_getElem? (i := 12) rfl)
theorem q13 : Cond.classLink RX0 21 RX3 ∈ wp := wi0 (List.mem_of_getElem? (i := 13) rfl)
theorem q14 : Cond.instantiable RX3 5 ∈ wp := wi0 (List.mem_of_getElem? (i := 14) rfl)
theorem q15 : Cond.initialized RX3 ∈ wp := wi0 (List.mem_of_getElem? (i := 15) rfl)
theorem q16 : Cond.code yX3_init cX3_init 1 none ∈ wp := wi0 (List.mem_of_getElem? (i := 16) rfl)
theorem q17 : Cond.instanceMethod yX3_init ∈ wp := wi0 (List.mem_of_getElem? (i := 17) rfl)
theorem q18 : Cond.fieldLink RX0 24 "RowTypes$Expression" "kept" "LRowTypes$Kept;" ∈ wp := wi0 (List.mem_of_getElem? (i := 18) rfl)
theorem q19 : Cond.methodLink RX6 3 objectInit ∈ wp := wi0 (List.mem_of_getElem? (i := 19) rfl)
theorem q20 : Cond.classLink RX6 9 RX2 ∈ wp := wi1 (List.mem_of_getElem? (i := 0) rfl)
theorem q21 : Cond.instantiable RX2 2 ∈ wp := wi1 (List.mem_of_getElem? (i := 1) rfl)
theorem q22 : Cond.initialized RX2 ∈ wp := wi1 (List.mem_of_getElem? (i := 2) rfl)
theorem q23 : Cond.code yX2_init cX2_init 1 none ∈ wp := wi1 (List.mem_of_getElem? (i := 3) rfl)
theorem q24 : Cond.instanceMethod yX2_init ∈ wp := wi1 (List.mem_of_getElem? (i := 4) rfl)
theorem q25 : Cond.fieldLink RX6 12 "RowTypes$Reader" "due" "LRowTypes$Ints;" ∈ wp := wi1 (List.mem_of_getElem? (i := 5) rfl)
theorem q26 : Cond.fieldLink RX6 18 "RowTypes$Reader" "lastBranch" "[I" ∈ wp := wi1 (List.mem_of_getElem? (i := 6) rfl)
theorem q27 : Cond.fieldLink RX6 22 "RowTypes$Reader" "branchLabels" "[I" ∈ wp := wi1 (List.mem_of_getElem? (i := 7) rfl)
theorem q28 : Cond.methodLink RX5 3 objectInit ∈ wp := wi1 (List.mem_of_getElem? (i := 8) rfl)
theorem q29 : Cond.fieldLink RX5 11 "RowTypes$Nodes" "kinds" "[I" ∈ wp := wi1 (List.mem_of_getElem? (i := 9) rfl)
theorem q30 : Cond.fieldLink RX5 15 "RowTypes$Nodes" "firsts" "[I" ∈ wp := wi1 (List.mem_of_getElem? (i := 10) rfl)
theorem q31 : Cond.fieldLink RX5 18 "RowTypes$Nodes" "seconds" "[I" ∈ wp := wi1 (List.mem_of_getElem? (i := 11) rfl)
theorem q32 : Cond.fieldLink RX5 21 "RowTypes$Nodes" "bits" "[I" ∈ wp := wi1 (List.mem_of_getElem? (i := 12) rfl)
theorem q33 : Cond.fieldLink RX5 24 "RowTypes$Nodes" "links" "[I" ∈ wp := wi1 (List.mem_of_getElem? (i := 13) rfl)
theorem q34 : Cond.fieldLink RX5 27 "RowTypes$Nodes" "marks" "[I" ∈ wp := wi1 (List.mem_of_getElem? (i := 14) rfl)
theorem q35 : Cond.classLink RX5 30 RX2 ∈ wp := wi1 (List.mem_of_getElem? (i := 15) rfl)
theorem q36 : Cond.fieldLink RX5 33 "RowTypes$Nodes" "work" "LRowTypes$Ints;" ∈ wp := wi1 (List.mem_of_getElem? (i := 16) rfl)
theorem q37 : Cond.fieldLink RX5 37 "RowTypes$Nodes" "types" "[I" ∈ wp := wi1 (List.mem_of_getElem? (i := 17) rfl)
theorem q38 : Cond.fieldLink RX5 40 "RowTypes$Nodes" "otherTypes" "[I" ∈ wp := wi1 (List.mem_of_getElem? (i := 18) rfl)
theorem q39 : Cond.fieldLink RX5 43 "RowTypes$Nodes" "variables" "[I" ∈ wp := wi1 (List.mem_of_getElem? (i := 19) rfl)
theorem q40 : Cond.methodLink RX9 3 objectInit ∈ wp := wi2 (List.mem_of_getElem? (i := 0) rfl)
theorem q41 : Cond.classLink RX9 9 RX2 ∈ wp := wi2 (List.mem_of_getElem? (i := 1) rfl)
theorem q42 : Cond.fieldLink RX9 12 "RowTypes$TypeReader" "due" "LRowTypes$Ints;" ∈ wp := wi2 (List.mem_of_getElem? (i := 2) rfl)
theorem q43 : Cond.fieldLink RX9 18 "RowTypes$TypeReader" "built" "LRowTypes$Ints;" ∈ wp := wi2 (List.mem_of_getElem? (i := 3) rfl)
theorem q44 : Cond.fieldLink RX9 21 "RowTypes$TypeReader" "nodes" "LRowTypes$Nodes;" ∈ wp := wi2 (List.mem_of_getElem? (i := 4) rfl)
theorem q45 : Cond.methodLink RX10 3 objectInit ∈ wp := wi2 (List.mem_of_getElem? (i := 5) rfl)
theorem q46 : Cond.classLink RX10 9 RX2 ∈ wp := wi2 (List.mem_of_getElem? (i := 6) rfl)
theorem q47 : Cond.fieldLink RX10 12 "RowTypes$Unifier" "due" "LRowTypes$Ints;" ∈ wp := wi2 (List.mem_of_getElem? (i := 7) rfl)
theorem q48 : Cond.fieldLink RX10 18 "RowTypes$Unifier" "nodes" "LRowTypes$Nodes;" ∈ wp := wi2 (List.mem_of_getElem? (i := 8) rfl)
theorem q49 : Cond.methodLink RX1 3 objectInit ∈ wp := wi2 (List.mem_of_getElem? (i := 9) rfl)
theorem q50 : Cond.fieldLink RX1 9 "RowTypes$Finder" "found" "[I" ∈ wp := wi2 (List.mem_of_getElem? (i := 10) rfl)
theorem q51 : Cond.fieldLink RX1 15 "RowTypes$Finder" "boundNames" "[I" ∈ wp := wi2 (List.mem_of_getElem? (i := 11) rfl)
theorem q52 : Cond.fieldLink RX1 18 "RowTypes$Finder" "boundTypes" "[I" ∈ wp := wi2 (List.mem_of_getElem? (i := 12) rfl)
theorem q53 : Cond.classLink RX1 21 RX3 ∈ wp := wi2 (List.mem_of_getElem? (i := 13) rfl)
theorem q54 : Cond.fieldLink RX1 23 "RowTypes$Finder" "boundSchemes" "[LRowTypes$Kept;" ∈ wp := wi2 (List.mem_of_getElem? (i := 14) rfl)
theorem q55 : Cond.fieldLink RX1 27 "RowTypes$Finder" "schemes" "[LRowTypes$Kept;" ∈ wp := wi2 (List.mem_of_getElem? (i := 15) rfl)
theorem q56 : Cond.fieldLink RX1 31 "RowTypes$Finder" "flat" "LRowTypes$Kept;" ∈ wp := wi2 (List.mem_of_getElem? (i := 16) rfl)
theorem q57 : Cond.fieldLink RX1 35 "RowTypes$Finder" "nodes" "LRowTypes$Nodes;" ∈ wp := wi2 (List.mem_of_getElem? (i := 17) rfl)
theorem q58 : Cond.fieldLink RX1 39 "RowTypes$Finder" "unifier" "LRowTypes$Unifier;" ∈ wp := wi2 (List.mem_of_getElem? (i := 18) rfl)
theorem q59 : Cond.fieldLink RX1 43 "RowTypes$Finder" "texts" "[LRowTypes$Expression;" ∈ wp := wi2 (List.mem_of_getElem? (i := 19) rfl)
theorem q60 : Cond.methodLink RX4 3 objectInit ∈ wp := wi3 (List.mem_of_getElem? (i := 0) rfl)
theorem q61 : Cond.fieldLink RX4 11 "RowTypes$Machine" "sorts" "[I" ∈ wp := wi3 (List.mem_of_getElem? (i := 1) rfl)
theorem q62 : Cond.fieldLink RX4 15 "RowTypes$Machine" "numbers" "[I" ∈ wp := wi3 (List.mem_of_getElem? (i := 2) rfl)
theorem q63 : Cond.fieldLink RX4 18 "RowTypes$Machine" "owners" "[I" ∈ wp := wi3 (List.mem_of_getElem? (i := 3) rfl)
theorem q64 : Cond.fieldLink RX4 21 "RowTypes$Machine" "inners" "[I" ∈ wp := wi3 (List.mem_of_getElem? (i := 4) rfl)
theorem q65 : Cond.fieldLink RX4 24 "RowTypes$Machine" "fields" "[I" ∈ wp := wi3 (List.mem_of_getElem? (i := 5) rfl)
theorem q66 : Cond.arrayClass .long ∈ wp := wi3 (List.mem_of_getElem? (i := 6) rfl)
theorem q67 : Cond.fieldLink RX4 27 "RowTypes$Machine" "lengths" "[J" ∈ wp := wi3 (List.mem_of_getElem? (i := 7) rfl)
theorem q68 : Cond.fieldLink RX4 31 "RowTypes$Machine" "names" "[I" ∈ wp := wi3 (List.mem_of_getElem? (i := 8) rfl)
theorem q69 : Cond.fieldLink RX4 34 "RowTypes$Machine" "namedValues" "[I" ∈ wp := wi3 (List.mem_of_getElem? (i := 9) rfl)
theorem q70 : Cond.fieldLink RX4 37 "RowTypes$Machine" "namesBehind" "[I" ∈ wp := wi3 (List.mem_of_getElem? (i := 10) rfl)
theorem q71 : Cond.classLink RX4 40 RX2 ∈ wp := wi3 (List.mem_of_getElem? (i := 11) rfl)
theorem q72 : Cond.fieldLink RX4 43 "RowTypes$Machine" "due" "LRowTypes$Ints;" ∈ wp := wi3 (List.mem_of_getElem? (i := 12) rfl)
theorem q73 : Cond.fieldLink RX4 47 "RowTypes$Machine" "done" "LRowTypes$Ints;" ∈ wp := wi3 (List.mem_of_getElem? (i := 13) rfl)
theorem q74 : Cond.fieldLink RX4 50 "RowTypes$Machine" "texts" "[LRowTypes$Expression;" ∈ wp := wi3 (List.mem_of_getElem? (i := 14) rfl)
theorem q75 : Cond.methodLink RX8 3 objectInit ∈ wp := wi3 (List.mem_of_getElem? (i := 15) rfl)
theorem q76 : Cond.classLink RX8 9 RX2 ∈ wp := wi3 (List.mem_of_getElem? (i := 16) rfl)
theorem q77 : Cond.fieldLink RX8 12 "RowTypes$Survey" "due" "LRowTypes$Ints;" ∈ wp := wi3 (List.mem_of_getElem? (i := 17) rfl)
theorem q78 : Cond.methodLink RX7 3 objectInit ∈ wp := wi3 (List.mem_of_getElem? (i := 18) rfl)
theorem q79 : Cond.classLink RX7 9 RX2 ∈ wp := wi3 (List.mem_of_getElem? (i := 19) rfl)
theorem q80 : Cond.fieldLink RX7 12 "RowTypes$Scribe" "due" "LRowTypes$Ints;" ∈ wp := wi4 (List.mem_of_getElem? (i := 0) rfl)
theorem q81 : Cond.fieldLink RX7 18 "RowTypes$Scribe" "signs" "LRowTypes$Ints;" ∈ wp := wi4 (List.mem_of_getElem? (i := 1) rfl)
theorem q82 : Cond.methodLink RX11 3 objectInit ∈ wp := wi4 (List.mem_of_getElem? (i := 2) rfl)
theorem q83 : Cond.fieldLink RX11 9 "RowTypes" "text" "[I" ∈ wp := wi4 (List.mem_of_getElem? (i := 3) rfl)
theorem q84 : Cond.classLink RX11 13 RX0 ∈ wp := wi4 (List.mem_of_getElem? (i := 4) rfl)
theorem q85 : Cond.fieldLink RX11 15 "RowTypes" "texts" "[LRowTypes$Expression;" ∈ wp := wi4 (List.mem_of_getElem? (i := 5) rfl)
theorem q86 : Cond.classLink RX11 19 RX3 ∈ wp := wi4 (List.mem_of_getElem? (i := 6) rfl)
theorem q87 : Cond.fieldLink RX11 22 "RowTypes" "answer" "LRowTypes$Kept;" ∈ wp := wi4 (List.mem_of_getElem? (i := 7) rfl)
theorem q88 : Cond.fieldLink RX11 26 "RowTypes" "made" "LRowTypes$Kept;" ∈ wp := wi4 (List.mem_of_getElem? (i := 8) rfl)
theorem q89 : Cond.fieldLink RX11 29 "RowTypes" "told" "[I" ∈ wp := wi4 (List.mem_of_getElem? (i := 9) rfl)
theorem q90 : Cond.fieldLink RX11 32 "RowTypes" "workedOut" "I" ∈ wp := wi4 (List.mem_of_getElem? (i := 10) rfl)
theorem q91 : Cond.classLink RX11 36 RX6 ∈ wp := wi4 (List.mem_of_getElem? (i := 11) rfl)
theorem q92 : Cond.instantiable RX6 5 ∈ wp := wi4 (List.mem_of_getElem? (i := 12) rfl)
theorem q93 : Cond.initialized RX6 ∈ wp := wi4 (List.mem_of_getElem? (i := 13) rfl)
theorem q94 : Cond.code yX6_init cX6_init 1 none ∈ wp := wi4 (List.mem_of_getElem? (i := 14) rfl)
theorem q95 : Cond.instanceMethod yX6_init ∈ wp := wi4 (List.mem_of_getElem? (i := 15) rfl)
theorem q96 : Cond.fieldLink RX11 39 "RowTypes" "reader" "LRowTypes$Reader;" ∈ wp := wi4 (List.mem_of_getElem? (i := 16) rfl)
theorem q97 : Cond.classLink RX11 43 RX5 ∈ wp := wi4 (List.mem_of_getElem? (i := 17) rfl)
theorem q98 : Cond.instantiable RX5 12 ∈ wp := wi4 (List.mem_of_getElem? (i := 18) rfl)
theorem q99 : Cond.initialized RX5 ∈ wp := wi4 (List.mem_of_getElem? (i := 19) rfl)
theorem q100 : Cond.code yX5_init cX5_init 1 none ∈ wp := wi5 (List.mem_of_getElem? (i := 0) rfl)
theorem q101 : Cond.instanceMethod yX5_init ∈ wp := wi5 (List.mem_of_getElem? (i := 1) rfl)
theorem q102 : Cond.fieldLink RX11 46 "RowTypes" "nodes" "LRowTypes$Nodes;" ∈ wp := wi5 (List.mem_of_getElem? (i := 2) rfl)
theorem q103 : Cond.classLink RX11 50 RX9 ∈ wp := wi5 (List.mem_of_getElem? (i := 3) rfl)
theorem q104 : Cond.instantiable RX9 7 ∈ wp := wi5 (List.mem_of_getElem? (i := 4) rfl)
theorem q105 : Cond.initialized RX9 ∈ wp := wi5 (List.mem_of_getElem? (i := 5) rfl)
theorem q106 : Cond.code yX9_init cX9_init 2 none ∈ wp := wi5 (List.mem_of_getElem? (i := 6) rfl)
theorem q107 : Cond.methodLink RX11 52 yX9_init ∈ wp := wi5 (List.mem_of_getElem? (i := 7) rfl)
theorem q108 : Cond.instanceMethod yX9_init ∈ wp := wi5 (List.mem_of_getElem? (i := 8) rfl)
theorem q109 : Cond.fieldLink RX11 55 "RowTypes" "typeReader" "LRowTypes$TypeReader;" ∈ wp := wi5 (List.mem_of_getElem? (i := 9) rfl)
theorem q110 : Cond.classLink RX11 59 RX10 ∈ wp := wi5 (List.mem_of_getElem? (i := 10) rfl)
theorem q111 : Cond.instantiable RX10 5 ∈ wp := wi5 (List.mem_of_getElem? (i := 11) rfl)
theorem q112 : Cond.initialized RX10 ∈ wp := wi5 (List.mem_of_getElem? (i := 12) rfl)
theorem q113 : Cond.code yX10_init cX10_init 2 none ∈ wp := wi5 (List.mem_of_getElem? (i := 13) rfl)
theorem q114 : Cond.methodLink RX11 61 yX10_init ∈ wp := wi5 (List.mem_of_getElem? (i := 14) rfl)
theorem q115 : Cond.instanceMethod yX10_init ∈ wp := wi5 (List.mem_of_getElem? (i := 15) rfl)
theorem q116 : Cond.fieldLink RX11 62 "RowTypes" "unifier" "LRowTypes$Unifier;" ∈ wp := wi5 (List.mem_of_getElem? (i := 16) rfl)
theorem q117 : Cond.classLink RX11 66 RX1 ∈ wp := wi5 (List.mem_of_getElem? (i := 17) rfl)
theorem q118 : Cond.instantiable RX1 16 ∈ wp := wi5 (List.mem_of_getElem? (i := 18) rfl)
theorem q119 : Cond.initialized RX1 ∈ wp := wi5 (List.mem_of_getElem? (i := 19) rfl)
theorem q120 : Cond.code yX1_init cX1_init 5 none ∈ wp := wi6 (List.mem_of_getElem? (i := 0) rfl)
theorem q121 : Cond.methodLink RX11 68 yX1_init ∈ wp := wi6 (List.mem_of_getElem? (i := 1) rfl)
theorem q122 : Cond.instanceMethod yX1_init ∈ wp := wi6 (List.mem_of_getElem? (i := 2) rfl)
theorem q123 : Cond.fieldLink RX11 71 "RowTypes" "finder" "LRowTypes$Finder;" ∈ wp := wi6 (List.mem_of_getElem? (i := 3) rfl)
theorem q124 : Cond.classLink RX11 75 RX4 ∈ wp := wi6 (List.mem_of_getElem? (i := 4) rfl)
theorem q125 : Cond.instantiable RX4 17 ∈ wp := wi6 (List.mem_of_getElem? (i := 5) rfl)
theorem q126 : Cond.initialized RX4 ∈ wp := wi6 (List.mem_of_getElem? (i := 6) rfl)
theorem q127 : Cond.code yX4_init cX4_init 2 none ∈ wp := wi6 (List.mem_of_getElem? (i := 7) rfl)
theorem q128 : Cond.methodLink RX11 77 yX4_init ∈ wp := wi6 (List.mem_of_getElem? (i := 8) rfl)
theorem q129 : Cond.instanceMethod yX4_init ∈ wp := wi6 (List.mem_of_getElem? (i := 9) rfl)
theorem q130 : Cond.fieldLink RX11 80 "RowTypes" "machine" "LRowTypes$Machine;" ∈ wp := wi6 (List.mem_of_getElem? (i := 10) rfl)
theorem q131 : Cond.classLink RX11 84 RX8 ∈ wp := wi6 (List.mem_of_getElem? (i := 11) rfl)
theorem q132 : Cond.instantiable RX8 3 ∈ wp := wi6 (List.mem_of_getElem? (i := 12) rfl)
theorem q133 : Cond.initialized RX8 ∈ wp := wi6 (List.mem_of_getElem? (i := 13) rfl)
theorem q134 : Cond.code yX8_init cX8_init 1 none ∈ wp := wi6 (List.mem_of_getElem? (i := 14) rfl)
theorem q135 : Cond.instanceMethod yX8_init ∈ wp := wi6 (List.mem_of_getElem? (i := 15) rfl)
theorem q136 : Cond.fieldLink RX11 87 "RowTypes" "survey" "LRowTypes$Survey;" ∈ wp := wi6 (List.mem_of_getElem? (i := 16) rfl)
theorem q137 : Cond.classLink RX11 91 RX7 ∈ wp := wi6 (List.mem_of_getElem? (i := 17) rfl)
theorem q138 : Cond.instantiable RX7 4 ∈ wp := wi6 (List.mem_of_getElem? (i := 18) rfl)
theorem q139 : Cond.initialized RX7 ∈ wp := wi6 (List.mem_of_getElem? (i := 19) rfl)
theorem q140 : Cond.code yX7_init cX7_init 1 none ∈ wp := wi7 (List.mem_of_getElem? (i := 0) rfl)
theorem q141 : Cond.instanceMethod yX7_init ∈ wp := wi7 (List.mem_of_getElem? (i := 1) rfl)
theorem q142 : Cond.fieldLink RX11 94 "RowTypes" "scribe" "LRowTypes$Scribe;" ∈ wp := wi7 (List.mem_of_getElem? (i := 2) rfl)
theorem q143 : Cond.instantiable RX0 5 ∈ wp := wi7 (List.mem_of_getElem? (i := 3) rfl)
theorem q144 : Cond.initialized RX0 ∈ wp := wi7 (List.mem_of_getElem? (i := 4) rfl)
theorem q145 : Cond.code yX0_init cX0_init 1 none ∈ wp := wi7 (List.mem_of_getElem? (i := 5) rfl)
theorem q146 : Cond.instanceMethod yX0_init ∈ wp := wi7 (List.mem_of_getElem? (i := 6) rfl)
theorem q147 : Cond.fieldLink RX11 106 "RowTypes" "definitions" "I" ∈ wp := wi7 (List.mem_of_getElem? (i := 7) rfl)
theorem q148 : Cond.fieldLink RX11 144 "RowTypes" "hasIt" "Z" ∈ wp := wi7 (List.mem_of_getElem? (i := 8) rfl)
theorem q149 : Cond.code yX11_textOf cX11_textOf 2 (some .int) ∈ wp := wi7 (List.mem_of_getElem? (i := 9) rfl)
theorem q150 : Cond.methodLink RX11 257 yX11_textOf ∈ wp := wi7 (List.mem_of_getElem? (i := 10) rfl)
theorem q151 : Cond.instanceMethod yX11_textOf ∈ wp := wi7 (List.mem_of_getElem? (i := 11) rfl)
theorem q152 : Cond.selects RX11 yX11_textOf yX11_textOf ∈ wp := wi7 (List.mem_of_getElem? (i := 12) rfl)
theorem q153 : Cond.initialized RX11 ∈ wp := wi7 (List.mem_of_getElem? (i := 13) rfl)
theorem q154 : Cond.fieldLink RX11 295 "RowTypes" "hasAnswer" "Z" ∈ wp := wi7 (List.mem_of_getElem? (i := 14) rfl)
theorem q155 : Cond.code yX11_keptOf cX11_keptOf 3 (some (.object "RowTypes$Kept")) ∈ wp := wi7 (List.mem_of_getElem? (i := 15) rfl)
theorem q156 : Cond.methodLink RX11 161 yX11_keptOf ∈ wp := wi7 (List.mem_of_getElem? (i := 16) rfl)
theorem q157 : Cond.instanceMethod yX11_keptOf ∈ wp := wi7 (List.mem_of_getElem? (i := 17) rfl)
theorem q158 : Cond.selects RX11 yX11_keptOf yX11_keptOf ∈ wp := wi7 (List.mem_of_getElem? (i := 18) rfl)
theorem q159 : Cond.fieldLink RX11 99 "RowTypes" "textLength" "I" ∈ wp := wi7 (List.mem_of_getElem? (i := 19) rfl)
theorem q160 : Cond.fieldLink RX11 298 "RowTypes" "toldLength" "I" ∈ wp := wi8 (List.mem_of_getElem? (i := 0) rfl)
theorem q161 : Cond.fieldLink RX0 28 "RowTypes$Expression" "length" "I" ∈ wp := wi8 (List.mem_of_getElem? (i := 1) rfl)
theorem q162 : Cond.fieldLink RX2 15 "RowTypes$Ints" "used" "I" ∈ wp := wi8 (List.mem_of_getElem? (i := 2) rfl)
theorem q163 : Cond.constant RX2 19 (1048576) ∈ wp := wi8 (List.mem_of_getElem? (i := 3) rfl)
theorem q164 : Cond.code yX11_nameBit cX11_nameBit 1 (some .int) ∈ wp := wi8 (List.mem_of_getElem? (i := 4) rfl)
theorem q165 : Cond.static yX11_nameBit ∈ wp := wi8 (List.mem_of_getElem? (i := 5) rfl)
theorem q166 : Cond.fieldLink RX6 25 "RowTypes$Reader" "into" "LRowTypes$Expression;" ∈ wp := wi8 (List.mem_of_getElem? (i := 6) rfl)
theorem q167 : Cond.fieldLink RX6 35 "RowTypes$Reader" "at" "I" ∈ wp := wi8 (List.mem_of_getElem? (i := 7) rfl)
theorem q168 : Cond.code yX0_signAt cX0_signAt 2 (some .int) ∈ wp := wi8 (List.mem_of_getElem? (i := 8) rfl)
theorem q169 : Cond.methodLink RX6 73 yX0_signAt ∈ wp := wi8 (List.mem_of_getElem? (i := 9) rfl)
theorem q170 : Cond.instanceMethod yX0_signAt ∈ wp := wi8 (List.mem_of_getElem? (i := 10) rfl)
theorem q171 : Cond.selects RX0 yX0_signAt yX0_signAt ∈ wp := wi8 (List.mem_of_getElem? (i := 11) rfl)
theorem q172 : Cond.code yX6_kindOf cX6_kindOf 2 (some .int) ∈ wp := wi8 (List.mem_of_getElem? (i := 12) rfl)
theorem q173 : Cond.methodLink RX6 86 yX6_kindOf ∈ wp := wi8 (List.mem_of_getElem? (i := 13) rfl)
theorem q174 : Cond.static yX6_kindOf ∈ wp := wi8 (List.mem_of_getElem? (i := 14) rfl)
theorem q175 : Cond.code yX6_acceptsExpression cX6_acceptsExpression 3 (some .boolean) ∈ wp := wi8 (List.mem_of_getElem? (i := 15) rfl)
theorem q176 : Cond.methodLink RX6 58 yX6_acceptsExpression ∈ wp := wi8 (List.mem_of_getElem? (i := 16) rfl)
theorem q177 : Cond.instanceMethod yX6_acceptsExpression ∈ wp := wi8 (List.mem_of_getElem? (i := 17) rfl)
theorem q178 : Cond.selects RX6 yX6_acceptsExpression yX6_acceptsExpression ∈ wp := wi8 (List.mem_of_getElem? (i := 18) rfl)
theorem q179 : Cond.code yX0_take cX0_take 4 none ∈ wp := wi8 (List.mem_of_getElem? (i := 19) rfl)
theorem q180 : Cond.methodLink RX6 29 yX0_take ∈ wp := wi9 (List.mem_of_getElem? (i := 0) rfl)
theorem q181 : Cond.instanceMethod yX0_take ∈ wp := wi9 (List.mem_of_getElem? (i := 1) rfl)
theorem q182 : Cond.selects RX0 yX0_take yX0_take ∈ wp := wi9 (List.mem_of_getElem? (i := 2) rfl)
theorem q183 : Cond.code yX2_clear cX2_clear 1 none ∈ wp := wi9 (List.mem_of_getElem? (i := 3) rfl)
theorem q184 : Cond.methodLink RX6 39 yX2_clear ∈ wp := wi9 (List.mem_of_getElem? (i := 4) rfl)
theorem q185 : Cond.instanceMethod yX2_clear ∈ wp := wi9 (List.mem_of_getElem? (i := 5) rfl)
theorem q186 : Cond.selects RX2 yX2_clear yX2_clear ∈ wp := wi9 (List.mem_of_getElem? (i := 6) rfl)
theorem q187 : Cond.code yX2_push cX2_push 2 none ∈ wp := wi9 (List.mem_of_getElem? (i := 7) rfl)
theorem q188 : Cond.methodLink RX6 42 yX2_push ∈ wp := wi9 (List.mem_of_getElem? (i := 8) rfl)
theorem q189 : Cond.instanceMethod yX2_push ∈ wp := wi9 (List.mem_of_getElem? (i := 9) rfl)
theorem q190 : Cond.selects RX2 yX2_push yX2_push ∈ wp := wi9 (List.mem_of_getElem? (i := 10) rfl)
theorem q191 : Cond.constant RX6 46 (1000000) ∈ wp := wi9 (List.mem_of_getElem? (i := 11) rfl)
theorem q192 : Cond.code yX2_length cX2_length 1 (some .int) ∈ wp := wi9 (List.mem_of_getElem? (i := 12) rfl)
theorem q193 : Cond.methodLink RX6 47 yX2_length ∈ wp := wi9 (List.mem_of_getElem? (i := 13) rfl)
theorem q194 : Cond.instanceMethod yX2_length ∈ wp := wi9 (List.mem_of_getElem? (i := 14) rfl)
theorem q195 : Cond.selects RX2 yX2_length yX2_length ∈ wp := wi9 (List.mem_of_getElem? (i := 15) rfl)
theorem q196 : Cond.code yX2_pop cX2_pop 1 (some .int) ∈ wp := wi9 (List.mem_of_getElem? (i := 16) rfl)
theorem q197 : Cond.methodLink RX6 51 yX2_pop ∈ wp := wi9 (List.mem_of_getElem? (i := 17) rfl)
theorem q198 : Cond.instanceMethod yX2_pop ∈ wp := wi9 (List.mem_of_getElem? (i := 18) rfl)
theorem q199 : Cond.selects RX2 yX2_pop yX2_pop ∈ wp := wi9 (List.mem_of_getElem? (i := 19) rfl)
theorem q200 : Cond.code yX6_accepts cX6_accepts 3 (some .boolean) ∈ wp := wi10 (List.mem_of_getElem? (i := 0) rfl)
theorem q201 : Cond.methodLink RX6 54 yX6_accepts ∈ wp := wi10 (List.mem_of_getElem? (i := 1) rfl)
theorem q202 : Cond.instanceMethod yX6_accepts ∈ wp := wi10 (List.mem_of_getElem? (i := 2) rfl)
theorem q203 : Cond.selects RX6 yX6_accepts yX6_accepts ∈ wp := wi10 (List.mem_of_getElem? (i := 3) rfl)
theorem q204 : Cond.code yX6_read cX6_read 6 (some .int) ∈ wp := wi10 (List.mem_of_getElem? (i := 4) rfl)
theorem q205 : Cond.methodLink RX11 304 yX6_read ∈ wp := wi10 (List.mem_of_getElem? (i := 5) rfl)
theorem q206 : Cond.instanceMethod yX6_read ∈ wp := wi10 (List.mem_of_getElem? (i := 6) rfl)
theorem q207 : Cond.selects RX6 yX6_read yX6_read ∈ wp := wi10 (List.mem_of_getElem? (i := 7) rfl)
theorem q208 : Cond.code yX11_readText cX11_readText 2 (some .int) ∈ wp := wi10 (List.mem_of_getElem? (i := 8) rfl)
theorem q209 : Cond.methodLink RX11 102 yX11_readText ∈ wp := wi10 (List.mem_of_getElem? (i := 9) rfl)
theorem q210 : Cond.instanceMethod yX11_readText ∈ wp := wi10 (List.mem_of_getElem? (i := 10) rfl)
theorem q211 : Cond.selects RX11 yX11_readText yX11_readText ∈ wp := wi10 (List.mem_of_getElem? (i := 11) rfl)
theorem q212 : Cond.methodLink RX12 1 objectInit ∈ wp := wi10 (List.mem_of_getElem? (i := 12) rfl)
theorem q213 : Cond.arrayClass .byte ∈ wp := wi10 (List.mem_of_getElem? (i := 13) rfl)
theorem q214 : Cond.fieldLink RX12 9 "RowTypesModel" "text" "[B" ∈ wp := wi10 (List.mem_of_getElem? (i := 14) rfl)
theorem q215 : Cond.fieldLink RX12 13 "RowTypesModel" "row" "[J" ∈ wp := wi10 (List.mem_of_getElem? (i := 15) rfl)
theorem q216 : Cond.fieldLink RX12 17 "RowTypesModel" "kind" "[I" ∈ wp := wi10 (List.mem_of_getElem? (i := 16) rfl)
theorem q217 : Cond.fieldLink RX12 21 "RowTypesModel" "place" "[I" ∈ wp := wi10 (List.mem_of_getElem? (i := 17) rfl)
theorem q218 : Cond.fieldLink RX12 24 "RowTypesModel" "label" "[I" ∈ wp := wi10 (List.mem_of_getElem? (i := 18) rfl)
theorem q219 : Cond.fieldLink RX12 27 "RowTypesModel" "label2" "[I" ∈ wp := wi10 (List.mem_of_getElem? (i := 19) rfl)
theorem q220 : Cond.fieldLink RX12 30 "RowTypesModel" "name" "[I" ∈ wp := wi11 (List.mem_of_getElem? (i := 0) rfl)
theorem q221 : Cond.fieldLink RX12 33 "RowTypesModel" "one" "[I" ∈ wp := wi11 (List.mem_of_getElem? (i := 1) rfl)
theorem q222 : Cond.fieldLink RX12 36 "RowTypesModel" "two" "[I" ∈ wp := wi11 (List.mem_of_getElem? (i := 2) rfl)
theorem q223 : Cond.fieldLink RX12 39 "RowTypesModel" "next" "[I" ∈ wp := wi11 (List.mem_of_getElem? (i := 3) rfl)
theorem q224 : Cond.fieldLink RX12 42 "RowTypesModel" "nodeMany" "[I" ∈ wp := wi11 (List.mem_of_getElem? (i := 4) rfl)
theorem q225 : Cond.fieldLink RX12 45 "RowTypesModel" "rootOf" "[I" ∈ wp := wi11 (List.mem_of_getElem? (i := 5) rfl)
theorem q226 : Cond.fieldLink RX12 48 "RowTypesModel" "sortOf" "[I" ∈ wp := wi11 (List.mem_of_getElem? (i := 6) rfl)
theorem q227 : Cond.fieldLink RX12 51 "RowTypesModel" "left" "[I" ∈ wp := wi11 (List.mem_of_getElem? (i := 7) rfl)
theorem q228 : Cond.fieldLink RX12 54 "RowTypesModel" "right" "[I" ∈ wp := wi11 (List.mem_of_getElem? (i := 8) rfl)
theorem q229 : Cond.constant RX12 57 (160000) ∈ wp := wi11 (List.mem_of_getElem? (i := 9) rfl)
theorem q230 : Cond.fieldLink RX12 58 "RowTypesModel" "fields" "[I" ∈ wp := wi11 (List.mem_of_getElem? (i := 10) rfl)
theorem q231 : Cond.fieldLink RX12 61 "RowTypesModel" "endOf" "[I" ∈ wp := wi11 (List.mem_of_getElem? (i := 11) rfl)
theorem q232 : Cond.fieldLink RX12 64 "RowTypesModel" "lacking" "[I" ∈ wp := wi11 (List.mem_of_getElem? (i := 12) rfl)
theorem q233 : Cond.fieldLink RX12 67 "RowTypesModel" "leads" "[I" ∈ wp := wi11 (List.mem_of_getElem? (i := 13) rfl)
theorem q234 : Cond.fieldLink RX12 70 "RowTypesModel" "heldType" "[I" ∈ wp := wi11 (List.mem_of_getElem? (i := 14) rfl)
theorem q235 : Cond.fieldLink RX12 73 "RowTypesModel" "heldEnd" "[I" ∈ wp := wi11 (List.mem_of_getElem? (i := 15) rfl)
theorem q236 : Cond.fieldLink RX12 76 "RowTypesModel" "freshType" "[I" ∈ wp := wi11 (List.mem_of_getElem? (i := 16) rfl)
theorem q237 : Cond.fieldLink RX12 79 "RowTypesModel" "freshEnd" "[I" ∈ wp := wi11 (List.mem_of_getElem? (i := 17) rfl)
theorem q238 : Cond.fieldLink RX12 82 "RowTypesModel" "aroundName" "[I" ∈ wp := wi11 (List.mem_of_getElem? (i := 18) rfl)
theorem q239 : Cond.fieldLink RX12 85 "RowTypesModel" "aroundType" "[I" ∈ wp := wi11 (List.mem_of_getElem? (i := 19) rfl)
theorem q240 : Cond.fieldLink RX12 88 "RowTypesModel" "aroundHeld" "[I" ∈ wp := wi12 (List.mem_of_getElem? (i := 0) rfl)
theorem q241 : Cond.fieldLink RX12 91 "RowTypesModel" "typeOf" "[I" ∈ wp := wi12 (List.mem_of_getElem? (i := 1) rfl)
theorem q242 : Cond.fieldLink RX12 94 "RowTypesModel" "walk" "[I" ∈ wp := wi12 (List.mem_of_getElem? (i := 2) rfl)
theorem q243 : Cond.fieldLink RX12 97 "RowTypesModel" "lackOf" "[I" ∈ wp := wi12 (List.mem_of_getElem? (i := 3) rfl)
theorem q244 : Cond.fieldLink RX12 100 "RowTypesModel" "variables" "[I" ∈ wp := wi12 (List.mem_of_getElem? (i := 4) rfl)
theorem q245 : Cond.fieldLink RX12 103 "RowTypesModel" "great" "[I" ∈ wp := wi12 (List.mem_of_getElem? (i := 5) rfl)
theorem q246 : Cond.fieldLink RX12 106 "RowTypesModel" "numberType" "[I" ∈ wp := wi12 (List.mem_of_getElem? (i := 6) rfl)
theorem q247 : Cond.fieldLink RX12 109 "RowTypesModel" "numberEnd" "[I" ∈ wp := wi12 (List.mem_of_getElem? (i := 7) rfl)
theorem q248 : Cond.fieldLink RX12 112 "RowTypesModel" "loaded" "[I" ∈ wp := wi12 (List.mem_of_getElem? (i := 8) rfl)
theorem q249 : Cond.fieldLink RX12 115 "RowTypesModel" "out" "[I" ∈ wp := wi12 (List.mem_of_getElem? (i := 9) rfl)
theorem q250 : Cond.fieldLink RX12 118 "RowTypesModel" "standsType" "[I" ∈ wp := wi12 (List.mem_of_getElem? (i := 10) rfl)
theorem q251 : Cond.fieldLink RX12 121 "RowTypesModel" "standsRow" "[I" ∈ wp := wi12 (List.mem_of_getElem? (i := 11) rfl)
theorem q252 : Cond.fieldLink RX12 124 "RowTypesModel" "valueSort" "[I" ∈ wp := wi12 (List.mem_of_getElem? (i := 12) rfl)
theorem q253 : Cond.fieldLink RX12 127 "RowTypesModel" "valueNumber" "[I" ∈ wp := wi12 (List.mem_of_getElem? (i := 13) rfl)
theorem q254 : Cond.fieldLink RX12 130 "RowTypesModel" "valueHas" "[I" ∈ wp := wi12 (List.mem_of_getElem? (i := 14) rfl)
theorem q255 : Cond.fieldLink RX12 133 "RowTypesModel" "valueFields" "[I" ∈ wp := wi12 (List.mem_of_getElem? (i := 15) rfl)
theorem q256 : Cond.fieldLink RX12 136 "RowTypesModel" "boundName" "[I" ∈ wp := wi12 (List.mem_of_getElem? (i := 16) rfl)
theorem q257 : Cond.fieldLink RX12 139 "RowTypesModel" "boundValue" "[I" ∈ wp := wi12 (List.mem_of_getElem? (i := 17) rfl)
theorem q258 : Cond.fieldLink RX12 142 "RowTypesModel" "boundNext" "[I" ∈ wp := wi12 (List.mem_of_getElem? (i := 18) rfl)
theorem q259 : Cond.fieldLink RX12 328 "RowTypesModel" "definedMany" "I" ∈ wp := wi12 (List.mem_of_getElem? (i := 19) rfl)
theorem q260 : Cond.code yX12_in cX12_in 6 (some .boolean) ∈ wp := wi13 (List.mem_of_getElem? (i := 0) rfl)
theorem q261 : Cond.methodLink RX12 155 yX12_in ∈ wp := wi13 (List.mem_of_getElem? (i := 1) rfl)
theorem q262 : Cond.static yX12_in ∈ wp := wi13 (List.mem_of_getElem? (i := 2) rfl)
theorem q263 : Cond.initialized RX12 ∈ wp := wi13 (List.mem_of_getElem? (i := 3) rfl)
theorem q264 : Cond.fieldLink RX12 405 "RowTypesModel" "hasAnswer" "Z" ∈ wp := wi13 (List.mem_of_getElem? (i := 4) rfl)
theorem q265 : Cond.fieldLink RX12 430 "RowTypesModel" "hasIt" "Z" ∈ wp := wi13 (List.mem_of_getElem? (i := 5) rfl)
theorem q266 : Cond.code yX12_slotOf cX12_slotOf 2 (some .int) ∈ wp := wi13 (List.mem_of_getElem? (i := 6) rfl)
theorem q267 : Cond.methodLink RX12 436 yX12_slotOf ∈ wp := wi13 (List.mem_of_getElem? (i := 7) rfl)
theorem q268 : Cond.instanceMethod yX12_slotOf ∈ wp := wi13 (List.mem_of_getElem? (i := 8) rfl)
theorem q269 : Cond.selects RX12 yX12_slotOf yX12_slotOf ∈ wp := wi13 (List.mem_of_getElem? (i := 9) rfl)
theorem q270 : Cond.fieldLink RX12 152 "RowTypesModel" "typed" "I" ∈ wp := wi13 (List.mem_of_getElem? (i := 10) rfl)
theorem q271 : Cond.fieldLink RX12 162 "RowTypesModel" "length" "I" ∈ wp := wi13 (List.mem_of_getElem? (i := 11) rfl)
theorem q272 : Cond.fieldLink RX12 159 "RowTypesModel" "at" "I" ∈ wp := wi13 (List.mem_of_getElem? (i := 12) rfl)
theorem q273 : Cond.fieldLink RX12 165 "RowTypesModel" "wrong" "I" ∈ wp := wi13 (List.mem_of_getElem? (i := 13) rfl)
theorem q274 : Cond.fieldLink RX12 145 "RowTypesModel" "thrown" "I" ∈ wp := wi13 (List.mem_of_getElem? (i := 14) rfl)
theorem q275 : Cond.code yX12_textSlot cX12_textSlot 2 (some .int) ∈ wp := wi13 (List.mem_of_getElem? (i := 15) rfl)
theorem q276 : Cond.methodLink RX12 503 yX12_textSlot ∈ wp := wi13 (List.mem_of_getElem? (i := 16) rfl)
theorem q277 : Cond.instanceMethod yX12_textSlot ∈ wp := wi13 (List.mem_of_getElem? (i := 17) rfl)
theorem q278 : Cond.selects RX12 yX12_textSlot yX12_textSlot ∈ wp := wi13 (List.mem_of_getElem? (i := 18) rfl)
theorem q279 : Cond.fieldLink RX12 149 "RowTypesModel" "rowMany" "I" ∈ wp := wi13 (List.mem_of_getElem? (i := 19) rfl)
theorem q280 : Cond.code yX12_here cX12_here 1 (some .int) ∈ wp := wi14 (List.mem_of_getElem? (i := 0) rfl)
theorem q281 : Cond.methodLink RX12 168 yX12_here ∈ wp := wi14 (List.mem_of_getElem? (i := 1) rfl)
theorem q282 : Cond.instanceMethod yX12_here ∈ wp := wi14 (List.mem_of_getElem? (i := 2) rfl)
theorem q283 : Cond.selects RX12 yX12_here yX12_here ∈ wp := wi14 (List.mem_of_getElem? (i := 3) rfl)
theorem q284 : Cond.constantLong RX12 179 (48) ∈ wp := wi14 (List.mem_of_getElem? (i := 4) rfl)
theorem q285 : Cond.constantLong RX12 181 (57) ∈ wp := wi14 (List.mem_of_getElem? (i := 5) rfl)
theorem q286 : Cond.constantLong RX12 183 (97) ∈ wp := wi14 (List.mem_of_getElem? (i := 6) rfl)
theorem q287 : Cond.constantLong RX12 185 (122) ∈ wp := wi14 (List.mem_of_getElem? (i := 7) rfl)
theorem q288 : Cond.code yX12_fault cX12_fault 1 none ∈ wp := wi14 (List.mem_of_getElem? (i := 8) rfl)
theorem q289 : Cond.methodLink RX12 172 yX12_fault ∈ wp := wi14 (List.mem_of_getElem? (i := 9) rfl)
theorem q290 : Cond.instanceMethod yX12_fault ∈ wp := wi14 (List.mem_of_getElem? (i := 10) rfl)
theorem q291 : Cond.selects RX12 yX12_fault yX12_fault ∈ wp := wi14 (List.mem_of_getElem? (i := 11) rfl)
theorem q292 : Cond.code yX12_begin cX12_begin 1 none ∈ wp := wi14 (List.mem_of_getElem? (i := 12) rfl)
theorem q293 : Cond.methodLink RX12 231 yX12_begin ∈ wp := wi14 (List.mem_of_getElem? (i := 13) rfl)
theorem q294 : Cond.instanceMethod yX12_begin ∈ wp := wi14 (List.mem_of_getElem? (i := 14) rfl)
theorem q295 : Cond.selects RX12 yX12_begin yX12_begin ∈ wp := wi14 (List.mem_of_getElem? (i := 15) rfl)
theorem q296 : Cond.code yX12_readOne cX12_readOne 3 (some .int) ∈ wp := wi14 (List.mem_of_getElem? (i := 16) rfl)
theorem q297 : Cond.methodLink RX12 225 yX12_readOne ∈ wp := wi14 (List.mem_of_getElem? (i := 17) rfl)
theorem q298 : Cond.instanceMethod yX12_readOne ∈ wp := wi14 (List.mem_of_getElem? (i := 18) rfl)
theorem q299 : Cond.selects RX12 yX12_readOne yX12_readOne ∈ wp := wi14 (List.mem_of_getElem? (i := 19) rfl)
theorem q300 : Cond.code yX12_readAside cX12_readAside 1 (some .int) ∈ wp := wi15 (List.mem_of_getElem? (i := 0) rfl)
theorem q301 : Cond.methodLink RX12 418 yX12_readAside ∈ wp := wi15 (List.mem_of_getElem? (i := 1) rfl)
theorem q302 : Cond.instanceMethod yX12_readAside ∈ wp := wi15 (List.mem_of_getElem? (i := 2) rfl)
theorem q303 : Cond.selects RX12 yX12_readAside yX12_readAside ∈ wp := wi15 (List.mem_of_getElem? (i := 3) rfl)
theorem wp_good : wp.all goodWord = true := by decide +kernel
theorem gwp : GoodIn wp wp := fun w hw => ⟨hw, good_of_word (List.all_eq_true.mp wp_good w hw)⟩
theorem gB {y : MethodName} {c : ByteArray} {n : Nat} {r : Option FieldType} (h : Cond.code y c n r ∈ wp) : GoodIn wp (Cond.code y c n r :: wp) := fun w hw => (List.mem_cons.mp hw).elim (fun e => by subst e; exact gwp _ h) (fun h => gwp w h)
theorem gV {own C : String} {idx : Nat} {y : MethodName} {c : ByteArray} {n : Nat} {r : Option FieldType} (h1 : Cond.methodLink own idx y ∈ wp) (h2 : Cond.instanceMethod y ∈ wp) (h3 : Cond.selects C y y ∈ wp) (h4 : Cond.initialized C ∈ wp) (h : Cond.code y c n r ∈ wp) : GoodIn wp (wsV own idx C y (Cond.code y c n r :: wp)) := by
  intro w hw
  rcases List.mem_append.mp hw with hw | hw
  · simp only [List.mem_cons, List.not_mem_nil, or_false] at hw
    rcases hw with rfl | rfl | rfl | rfl
    · exact gwp _ h1
    · exact gwp _ h2
    · exact gwp _ h3
    · exact gwp _ h4
  · exact gB h w hw
theorem gS {own : String} {idx : Nat} {y : MethodName} {c : ByteArray} {n : Nat} {r : Option FieldType} (h1 : Cond.methodLink own idx y ∈ wp) (h2 : Cond.static y ∈ wp) (h3 : Cond.initialized y.cls ∈ wp) (h : Cond.code y c n r ∈ wp) : GoodIn wp (va_wsS own idx y (Cond.code y c n r :: wp)) := by
  intro w hw
  rcases List.mem_append.mp hw with hw | hw
  · simp only [List.mem_cons, List.not_mem_nil, or_false] at hw
    rcases hw with rfl | rfl | rfl
    · exact gwp _ h1
    · exact gwp _ h2
    · exact gwp _ h3
  · exact gB h w hw
def nwM : List (String × Nat × MethodName × String) := [(RX0, 23, yX3_init, "RowTypes"), (RX6, 11, yX2_init, "RowTypes"), (RX5, 32, yX2_init, "RowTypes"), (RX9, 11, yX2_init, "RowTypes"), (RX10, 11, yX2_init, "RowTypes"), (RX1, 30, yX3_init, "RowTypes"), (RX4, 42, yX2_init, "RowTypes"), (RX8, 11, yX2_init, "RowTypes"), (RX7, 11, yX2_init, "RowTypes"), (RX11, 21, yX3_init, "RowTypes"), (RX11, 38, yX6_init, "RowTypes"), (RX11, 45, yX5_init, "RowTypes"), (RX11, 86, yX8_init, "RowTypes"), (RX11, 93, yX7_init, "RowTypes"), (RX11, 98, yX0_init, "RowTypes"), (RX6, 83, yX11_nameBit, "RowTypes")]
def nwO : List String := [RX3, RX0]
/-- what isn't among the words that a contract may carry: links to private members of nest mates, rows of objects -/
def nw (U : State) : Prop := (∀ q ∈ nwM, va_Nw (.methodLinkNest q.1 q.2.1 q.2.2.1 q.2.2.2) U) ∧ ∀ C ∈ nwO, va_AO C U
theorem nw.warm {s U : State} (hW : s.WarmedH U.vm) (h : nw s) : nw U := ⟨fun q hq => va_Nw.warmM hW (h.1 q hq), fun C hC => va_AO.moved hW.alike (h.2 C hC)⟩
theorem nw.same {u U : State} (e : u.vm = U.vm) (h : nw u) : nw U := ⟨fun q hq => va_Nw.same rfl e (h.1 q hq), fun C hC => va_AO.moved (by rw [← e]; exact Vm.Alike.refl u.vm) (h.2 C hC)⟩
theorem nn0 {U : State} (h : nw U) : va_Nw (.methodLinkNest RX0 23 yX3_init "RowTypes") U := h.1 _ (List.mem_of_getElem? (i := 0) rfl)
theorem nn1 {U : State} (h : nw U) : va_Nw (.methodLinkNest RX6 11 yX2_init "RowTypes") U := h.1 _ (List.mem_of_getElem? (i := 1) rfl)
theorem nn2 {U : State} (h : nw U) : va_Nw (.methodLinkNest RX5 32 yX2_init "RowTypes") U := h.1 _ (List.mem_of_getElem? (i := 2) rfl)
theorem nn3 {U : State} (h : nw U) : va_Nw (.methodLinkNest RX9 11 yX2_init "RowTypes") U := h.1 _ (List.mem_of_getElem? (i := 3) rfl)
theorem nn4 {U : State} (h : nw U) : va_Nw (.methodLinkNest RX10 11 yX2_init "RowTypes") U := h.1 _ (List.mem_of_getElem? (i := 4) rfl)
theorem nn5 {U : State} (h : nw U) : va_Nw (.methodLinkNest RX1 30 yX3_init "RowTypes") U := h.1 _ (List.mem_of_getElem? (i := 5) rfl)
theorem nn6 {U : State} (h : nw U) : va_Nw (.methodLinkNest RX4 42 yX2_init "RowTypes") U := h.1 _ (List.mem_of_getElem? (i := 6) rfl)
theorem nn7 {U : State} (h : nw U) : va_Nw (.methodLinkNest RX8 11 yX2_init "RowTypes") U := h.1 _ (List.mem_of_getElem? (i := 7) rfl)
theorem nn8 {U : State} (h : nw U) : va_Nw (.methodLinkNest RX7 11 yX2_init "RowTypes") U := h.1 _ (List.mem_of_getElem? (i := 8) rfl)
theorem nn9 {U : State} (h : nw U) : va_Nw (.methodLinkNest RX11 21 yX3_init "RowTypes") U := h.1 _ (List.mem_of_getElem? (i := 9) rfl)
theorem nn10 {U : State} (h : nw U) : va_Nw (.methodLinkNest RX11 38 yX6_init "RowTypes") U := h.1 _ (List.mem_of_getElem? (i := 10) rfl)
theorem nn11 {U : State} (h : nw U) : va_Nw (.methodLinkNest RX11 45 yX5_init "RowTypes") U := h.1 _ (List.mem_of_getElem? (i := 11) rfl)
theorem nn12 {U : State} (h : nw U) : va_Nw (.methodLinkNest RX11 86 yX8_init "RowTypes") U := h.1 _ (List.mem_of_getElem? (i := 12) rfl)
theorem nn13 {U : State} (h : nw U) : va_Nw (.methodLinkNest RX11 93 yX7_init "RowTypes") U := h.1 _ (List.mem_of_getElem? (i := 13) rfl)
theorem nn14 {U : State} (h : nw U) : va_Nw (.methodLinkNest RX11 98 yX0_init "RowTypes") U := h.1 _ (List.mem_of_getElem? (i := 14) rfl)
theorem nn15 {U : State} (h : nw U) : va_Nw (.methodLinkNest RX6 83 yX11_nameBit "RowTypes") U := h.1 _ (List.mem_of_getElem? (i := 15) rfl)
theorem ao0 {U : State} (h : nw U) : va_AO RX3 U := h.2 _ (List.mem_of_getElem? (i := 0) rfl)
theorem ao1 {U : State} (h : nw U) : va_AO RX0 U := h.2 _ (List.mem_of_getElem? (i := 1) rfl)
/-- a contract's start: the cells, their classes, apart -/
def cP (dC : Nat → ClassId) (dI : Nat → Nat → Nat) (av : List Value) (sz : Nat) (ws : va_W) (tys : List (ClassId × FieldType)) : Array Value → State → Prop := va_Pc av (fun U => U.heap.size = sz ∧ va_P (dC, dI) vwCl ws U.heap ∧ va_K (dC, dI) vwCl tys U ∧ va_D (fun _ => True) ws ∧ nw U)
theorem cP_blind {dC : Nat → ClassId} {dI : Nat → Nat → Nat} {av : List Value} {sz : Nat} {ws : va_W} {tys : List (ClassId × FieldType)} : FrameBlind (cP dC dI av sz ws tys) := fun a U g mk q => by
  obtain ⟨q0, q1, qP, qK, qD, qN⟩ := q
  exact ⟨q0, q1, qP, va_K.moved (u := U) (U := U.calling g mk a) (Vm.Alike.refl U.vm) qK, qD, qN.same rfl⟩
theorem cP_pre {dC : Nat → ClassId} {dI : Nat → Nat → Nat} {av : List Value} {ws : va_W} {tys : List (ClassId × FieldType)} {A : Nat → Prop} {s : State} {H : Heap} (hP : va_P (dC, dI) vwCl ws H) (hK : va_K (dC, dI) vwCl tys s) (hD : va_D A ws) (hN : nw s) : ∀ U : State, U.heap = H → s.WarmedH U.vm → cP dC dI av H.size ws tys av.toArray U := fun U hU hW => ⟨rfl, by rw [hU], by rw [hU]; exact hP, va_K.moved hW.alike hK, hD.weaken (fun _ _ _ _ => trivial), hN.warm hW⟩
/-- the cells behind a contract -/
def cB (dC : Nat → ClassId) (dI : Nat → Nat → Nat) (A : Nat → Prop) (ws : va_W) (tys : List (ClassId × FieldType)) (t : State) : Prop := va_P (dC, dI) vwCl ws t.heap ∧ va_K (dC, dI) vwCl tys t ∧ va_D A ws
theorem zz1 {x : Int32} (h1 : ¬ x < 0) (h2 : ¬ (0 : Int32) ≤ x) : False := h1 (Int32.not_le.mp h2)
theorem zz2 {x : Int32} (h0 : ¬ x = 0) (h1 : ¬ x < 0) (h2 : x ≤ 0) : False := h0 (Int32.le_antisymm h2 (Int32.not_lt.mp h1))
def cnt5 (x : Int32) : Int32 := if x = 0 then 0 else if x = 1 then 0 else if x = 2 then 0 else if x = 3 then 0 else if x = 4 then 0 else -1
theorem out5 {x : Int32} (h0 : ¬ x = 0) (h1 : ¬ x = 1) (h2 : ¬ x = 2) (h3 : ¬ x = 3) (h4 : ¬ x = 4) : x.toInt < 0 ∨ 4 < x.toInt := by
  have e0 : x.toInt ≠ 0 := fun e => h0 (Int32.toInt_inj.mp (e.trans (by decide)))
  have e1 : x.toInt ≠ 1 := fun e => h1 (Int32.toInt_inj.mp (e.trans (by decide)))
  have e2 : x.toInt ≠ 2 := fun e => h2 (Int32.toInt_inj.mp (e.trans (by decide)))
  have e3 : x.toInt ≠ 3 := fun e => h3 (Int32.toInt_inj.mp (e.trans (by decide)))
  have e4 : x.toInt ≠ 4 := fun e => h4 (Int32.toInt_inj.mp (e.trans (by decide)))
  omega
theorem lc_lt {x y : Int64} : lg_cmp x y < 0 ↔ x < y := by
  unfold lg_cmp
  by_cases h1 : y < x
  · simp [h1, Int64.lt_asymm h1]
  · by_cases h2 : x = y
    · simp [h1, h2]
    · have h3 : x < y := Int64.lt_of_le_of_ne (Int64.not_lt.mp h1) h2
      simp [h1, h2, h3]
theorem lc_gt {x y : Int64} : 0 < lg_cmp x y ↔ y < x := by
  unfold lg_cmp
  by_cases h1 : y < x
  · simp [h1]
  · by_cases h2 : x = y
    · simp [h1, h2]
    · simp [h1, h2]
theorem in_a {x lo hi : Int64} (c : lg_cmp x lo < 0) : (0 : Int32) = (if lo ≤ x ∧ x ≤ hi then 1 else 0) := (if_neg (fun h => absurd (lc_lt.mp c) (Int64.not_lt.mpr h.1))).symm
theorem in_b {x lo hi : Int64} (c : 0 < lg_cmp x hi) : (0 : Int32) = (if lo ≤ x ∧ x ≤ hi then 1 else 0) := (if_neg (fun h => absurd (lc_gt.mp c) (Int64.not_lt.mpr h.2))).symm
theorem in_c {x lo hi : Int64} (c1 : ¬ lg_cmp x lo < 0) (c2 : ¬ 0 < lg_cmp x hi) : (1 : Int32) = (if lo ≤ x ∧ x ≤ hi then 1 else 0) := (if_pos ⟨Int64.not_lt.mp (fun h => c1 (lc_lt.mpr h)), Int64.not_lt.mp (fun h => c2 (lc_gt.mpr h))⟩).symm
theorem in_neg (x : Int64) : ¬ ((0 : Int64) ≤ x ∧ x ≤ -1) := fun h => by
  have := Int64.le_trans h.1 h.2
  exact absurd this (by decide)
theorem in_ne {x : Int32} (h : ¬ x = 0) : ¬ ((0 : Int64) ≤ x.toInt64 ∧ x.toInt64 ≤ 0) := fun q => by
  have e : x.toInt64 = 0 := Int64.le_antisymm q.2 q.1
  have e2 : x.toInt64.toInt = (0 : Int64).toInt := congrArg Int64.toInt e
  rw [Int32.toInt_toInt64] at e2
  exact h (Int32.toInt_inj.mp (e2.trans (by decide)))
end
section
set_option maxHeartbeats 4000000 in
set_option maxRecDepth 100000 in
theorem c_X3_init (l : Launch) (dC : Nat → ClassId) (dI : Nat → Nat → Nat) (sz : Nat) (h0 : Nat) : Met l yX3_init (Cond.code yX3_init cX3_init 1 none :: wp) ({ frames := 1, cells := 3, slots := 183, locals := 12 }) (cP dC dI [.ref h0] sz [(h0, .inr (3, [.null, .int 0, .null, .null, .int 0]))] []) (va_Qv (fun _ : Unit => True) (fun (_ : Unit) t => ∃ b1 : Nat, ∃ b2 : Nat, ∃ b3 : Nat, cB dC dI (va_A [(h0, .inr (3, [.null, .int 0, .null, .null, .int 0]))] sz) [(h0, .inr (3, [.ref b1, .int 0, .ref b2, .ref b3, .int 0]))] [] t) (va_A [(h0, .inr (3, [.null, .int 0, .null, .null, .int 0]))] sz)) 3 183 (va_A [(h0, .inr (3, [.null, .int 0, .null, .null, .int 0]))] sz) := by
  refine Met.ofW (cc := cX3_init) (maxL := 1) (ret := none) (by decide) rfl ?_
  intro p e s m args below meth c s₁ B hml hv
  obtain ⟨rfl, hsz, hP, hK, hD0, hN⟩ := hv
  have hx := B.exec
  have hb := B.bytes
  have hr := B.returns
  have hts := atoms_spec (ws := Cond.code yX3_init cX3_init 1 none :: wp) B.pre
  have hw : ∀ w ∈ wp, w.before _ s = true := fun w h => hts w (List.mem_cons_of_mem _ h)
  have hown : s.vm.findClass RX3 = some m.cls := findClass_of_methodNamed B.named
  have hlocks := B.notSynchronized
  have hin : meth.name = "<init>" := (name_of_methodNamed B.named B.method).1
  subst hsz
  have hD := hD0.self (sz := s.heap.size)
  generalize hAe : va_A [(h0, .inr (3, [.null, .int 0, .null, .null, .int 0]))] s.heap.size = A at hD ⊢
  have hA : ∀ q : Nat, s.heap.size ≤ q → A q := fun q h => by rw [← hAe]; exact Or.inr h
  have hS : va_S A s.heap s.heap [] := va_S.rf
  have hP : va_P (dC, dI) vwCl [(h0, .inr (3, [.null, .int 0, .null, .null, .int 0]))] s.heap := hP
  have hl := lv_entry ([.ref h0]) (n := 1) (Nat.le_of_ble_eq_true rfl)
  rw [lg_entry_eq]
  generalize (lg_sl ([.ref h0]) ++ List.replicate (1 - (lg_sl ([.ref h0])).length) Slot.unset).toArray = ls at hl ⊢
  have hl : lv_has ls 1 [(0, .ref h0)] := hl
  refine lv_aload_n hx hb dX3_init_0 rfl (lv_at hl 0 rfl) ?_
  refine W.objInit hx hb hown (hw _ q0) (hw _ q1) (hw _ q2) rfl (by rw [hml]; exact hl.1) rfl dX3_init_1 (Nat.le_of_ble_eq_true rfl) (Nat.le_of_ble_eq_true rfl) ?_
  refine W.eq (g2 := F0 m 4 ls []) rfl ?_
  refine lv_aload_n hx hb dX3_init_4 rfl (lv_at hl 0 rfl) ?_
  refine lv_bipush (v := 61) hx hb dX3_init_5 (by decide) ?_
  refine va_newa (D := (dC, dI)) (atype := .int) (ty := .int) (a0 := (61, .inl (fun _ => 0))) (N' := 61) hx hb (hw _ q3) rfl hK hP hD hS hA (fun _ => rfl) (by decide) (by decide +kernel) (Nat.le_of_ble_eq_true rfl) (Nat.le_of_ble_eq_true rfl) (Nat.le_of_ble_eq_true rfl) dX3_init_7 (fun q1 cA2 H hK hP hD hS => ?_)
  have hP : va_P (dC, dI) vwCl [(h0, .inr (3, [.null, .int 0, .null, .null, .int 0])), (q1, .inl (cA2, 61, .inl (fun _ => 0)))] H := hP
  have hD : va_D A [(h0, .inr (3, [.null, .int 0, .null, .null, .int 0])), (q1, .inl (cA2, 61, .inl (fun _ => 0)))] := hD
  have hK : va_K (dC, dI) vwCl [(cA2, .int)] s := hK
  refine W.widen (k := 1) (n := 61) (Nat.le_of_ble_eq_true rfl) (Nat.le_of_ble_eq_true rfl) ?_
  refine va_putF (D := (dC, dI)) (ci := 3) (v := .ref q1) (ty := .array .int) (C := RX3) (T := TX3) (N := 5) hx hb hw uX3 tyX3 tyX3_ok nmX3 hown hK hP hD hS 0 rfl rfl 0 (by decide) (hw _ q4) (fun _ h9 => h9) rfl hin rfl (by decide +kernel) rfl rfl (Nat.le_of_ble_eq_true rfl) dX3_init_9 (fun H locs hP hD hS => ?_)
  have hP : va_P (dC, dI) vwCl [(h0, .inr (3, [.ref q1, .int 0, .null, .null, .int 0])), (q1, .inl (cA2, 61, .inl (fun _ => 0)))] H := hP
  have hD : va_D A [(h0, .inr (3, [.ref q1, .int 0, .null, .null, .int 0])), (q1, .inl (cA2, 61, .inl (fun _ => 0)))] := hD
  have hP := hP.sub (ws' := [(h0, .inr (3, [.ref q1, .int 0, .null, .null, .int 0]))]) [0] rfl
  have hD := hD.sub (ws' := [(h0, .inr (3, [.ref q1, .int 0, .null, .null, .int 0]))]) [0] (by decide) rfl
  have hK := hK.sub (tys' := []) [] rfl
  refine lv_aload_n hx hb dX3_init_12 rfl (lv_at hl 0 rfl) ?_
  refine lv_bipush (v := 61) hx hb dX3_init_13 (by decide) ?_
  refine va_newa (D := (dC, dI)) (atype := .int) (ty := .int) (a0 := (61, .inl (fun _ => 0))) (N' := 61) hx hb (hw _ q3) rfl hK hP hD hS hA (fun _ => rfl) (by decide) (by decide +kernel) (Nat.le_of_ble_eq_true rfl) (Nat.le_of_ble_eq_true rfl) (Nat.le_of_ble_eq_true rfl) dX3_init_15 (fun q3 cA4 H hK hP hD hS => ?_)
  have hP : va_P (dC, dI) vwCl [(h0, .inr (3, [.ref q1, .int 0, .null, .null, .int 0])), (q3, .inl (cA4, 61, .inl (fun _ => 0)))] H := hP
  have hD : va_D A [(h0, .inr (3, [.ref q1, .int 0, .null, .null, .int 0])), (q3, .inl (cA4, 61, .inl (fun _ => 0)))] := hD
  have hK : va_K (dC, dI) vwCl [(cA4, .int)] s := hK
  refine W.widen (k := 2) (n := 122) (Nat.le_of_ble_eq_true rfl) (Nat.le_of_ble_eq_true rfl) ?_
  refine va_putF (D := (dC, dI)) (ci := 3) (v := .ref q3) (ty := .array .int) (C := RX3) (T := TX3) (N := 5) hx hb hw uX3 tyX3 tyX3_ok nmX3 hown hK hP hD hS 0 rfl rfl 2 (by decide) (hw _ q5) (fun _ h9 => h9) rfl hin rfl (by decide +kernel) rfl rfl (Nat.le_of_ble_eq_true rfl) dX3_init_17 (fun H locs hP hD hS => ?_)
  have hP : va_P (dC, dI) vwCl [(h0, .inr (3, [.ref q1, .int 0, .ref q3, .null, .int 0])), (q3, .inl (cA4, 61, .inl (fun _ => 0)))] H := hP
  have hD : va_D A [(h0, .inr (3, [.ref q1, .int 0, .ref q3, .null, .int 0])), (q3, .inl (cA4, 61, .inl (fun _ => 0)))] := hD
  have hP := hP.sub (ws' := [(h0, .inr (3, [.ref q1, .int 0, .ref q3, .null, .int 0]))]) [0] rfl
  have hD := hD.sub (ws' := [(h0, .inr (3, [.ref q1, .int 0, .ref q3, .null, .int 0]))]) [0] (by decide) rfl
  have hK := hK.sub (tys' := []) [] rfl
  refine lv_aload_n hx hb dX3_init_20 rfl (lv_at hl 0 rfl) ?_
  refine lv_bipush (v := 61) hx hb dX3_init_21 (by decide) ?_
  refine va_newa (D := (dC, dI)) (atype := .int) (ty := .int) (a0 := (61, .inl (fun _ => 0))) (N' := 61) hx hb (hw _ q3) rfl hK hP hD hS hA (fun _ => rfl) (by decide) (by decide +kernel) (Nat.le_of_ble_eq_true rfl) (Nat.le_of_ble_eq_true rfl) (Nat.le_of_ble_eq_true rfl) dX3_init_23 (fun q5 cA6 H hK hP hD hS => ?_)
  have hP : va_P (dC, dI) vwCl [(h0, .inr (3, [.ref q1, .int 0, .ref q3, .null, .int 0])), (q5, .inl (cA6, 61, .inl (fun _ => 0)))] H := hP
  have hD : va_D A [(h0, .inr (3, [.ref q1, .int 0, .ref q3, .null, .int 0])), (q5, .inl (cA6, 61, .inl (fun _ => 0)))] := hD
  have hK : va_K (dC, dI) vwCl [(cA6, .int)] s := hK
  refine W.widen (k := 3) (n := 183) (Nat.le_of_ble_eq_true rfl) (Nat.le_of_ble_eq_true rfl) ?_
  refine va_putF (D := (dC, dI)) (ci := 3) (v := .ref q5) (ty := .array .int) (C := RX3) (T := TX3) (N := 5) hx hb hw uX3 tyX3 tyX3_ok nmX3 hown hK hP hD hS 0 rfl rfl 3 (by decide) (hw _ q6) (fun _ h9 => h9) rfl hin rfl (by decide +kernel) rfl rfl (Nat.le_of_ble_eq_true rfl) dX3_init_25 (fun H locs hP hD hS => ?_)
  have hP : va_P (dC, dI) vwCl [(h0, .inr (3, [.ref q1, .int 0, .ref q3, .ref q5, .int 0])), (q5, .inl (cA6, 61, .inl (fun _ => 0)))] H := hP
  have hD : va_D A [(h0, .inr (3, [.ref q1, .int 0, .ref q3, .ref q5, .int 0])), (q5, .inl (cA6, 61, .inl (fun _ => 0)))] := hD
  have hP := hP.sub (ws' := [(h0, .inr (3, [.ref q1, .int 0, .ref q3, .ref q5, .int 0]))]) [0] rfl
  have hD := hD.sub (ws' := [(h0, .inr (3, [.ref q1, .int 0, .ref q3, .ref q5, .int 0]))]) [0] (by decide) rfl
  have hK := hK.sub (tys' := []) [] rfl
  have hP9 := hP.sub (ws' := [(h0, .inr (3, [.ref q1, .int 0, .ref q3, .ref q5, .int 0]))]) [0] rfl
  have hD9 := hD.sub (ws' := [(h0, .inr (3, [.ref q1, .int 0, .ref q3, .ref q5, .int 0]))]) [0] (by decide) rfl
  have hK9 := hK.sub (tys' := []) [] rfl
  exact W.vret hx hb hr (fun t ht hW => ⟨⟨(), rfl, trivial, q1, q3, q5, by rw [ht]; exact hP9, va_K.moved hW.alike hK9, hD9⟩, hS.F ht⟩) hS.2.2 dX3_init_28
set_option maxHeartbeats 4000000 in
set_option maxRecDepth 100000 in
theorem c_X2_init (l : Launch) (dC : Nat → ClassId) (dI : Nat → Nat → Nat) (sz : Nat) (h0 : Nat) : Met l yX2_init (Cond.code yX2_init cX2_init 1 none :: wp) ({ frames := 1, cells := 1, slots := 256, locals := 12 }) (cP dC dI [.ref h0] sz [(h0, .inr (2, [.null, .int 0]))] []) (va_Qv (fun _ : Unit => True) (fun (_ : Unit) t => ∃ b1 : Nat, ∃ cA1 : ClassId, cB dC dI (va_A [(h0, .inr (2, [.null, .int 0]))] sz) [(h0, .inr (2, [.ref b1, .int 0])), (b1, .inl (cA1, 256, .inl (fun _ => 0)))] [(cA1, .int)] t) (va_A [(h0, .inr (2, [.null, .int 0]))] sz)) 1 256 (va_A [(h0, .inr (2, [.null, .int 0]))] sz) := by
  refine Met.ofW (cc := cX2_init) (maxL := 1) (ret := none) (by decide) rfl ?_
  intro p e s m args below meth c s₁ B hml hv
  obtain ⟨rfl, hsz, hP, hK, hD0, hN⟩ := hv
  have hx := B.exec
  have hb := B.bytes
  have hr := B.returns
  have hts := atoms_spec (ws := Cond.code yX2_init cX2_init 1 none :: wp) B.pre
  have hw : ∀ w ∈ wp, w.before _ s = true := fun w h => hts w (List.mem_cons_of_mem _ h)
  have hown : s.vm.findClass RX2 = some m.cls := findClass_of_methodNamed B.named
  have hlocks := B.notSynchronized
  have hin : meth.name = "<init>" := (name_of_methodNamed B.named B.method).1
  subst hsz
  have hD := hD0.self (sz := s.heap.size)
  generalize hAe : va_A [(h0, .inr (2, [.null, .int 0]))] s.heap.size = A at hD ⊢
  have hA : ∀ q : Nat, s.heap.size ≤ q → A q := fun q h => by rw [← hAe]; exact Or.inr h
  have hS : va_S A s.heap s.heap [] := va_S.rf
  have hP : va_P (dC, dI) vwCl [(h0, .inr (2, [.null, .int 0]))] s.heap := hP
  have hl := lv_entry ([.ref h0]) (n := 1) (Nat.le_of_ble_eq_true rfl)
  rw [lg_entry_eq]
  generalize (lg_sl ([.ref h0]) ++ List.replicate (1 - (lg_sl ([.ref h0])).length) Slot.unset).toArray = ls at hl ⊢
  have hl : lv_has ls 1 [(0, .ref h0)] := hl
  refine lv_aload_n hx hb dX2_init_0 rfl (lv_at hl 0 rfl) ?_
  refine W.objInit hx hb hown (hw _ q7) (hw _ q1) (hw _ q2) rfl (by rw [hml]; exact hl.1) rfl dX2_init_1 (Nat.le_of_ble_eq_true rfl) (Nat.le_of_ble_eq_true rfl) ?_
  refine W.eq (g2 := F0 m 4 ls []) rfl ?_
  refine lv_aload_n hx hb dX2_init_4 rfl (lv_at hl 0 rfl) ?_
  refine lv_sipush (v := 256) hx hb dX2_init_5 (by decide) ?_
  refine va_newa (D := (dC, dI)) (atype := .int) (ty := .int) (a0 := (256, .inl (fun _ => 0))) (N' := 256) hx hb (hw _ q3) rfl hK hP hD hS hA (fun _ => rfl) (by decide) (by decide +kernel) (Nat.le_of_ble_eq_true rfl) (Nat.le_of_ble_eq_true rfl) (Nat.le_of_ble_eq_true rfl) dX2_init_8 (fun q1 cA2 H hK hP hD hS => ?_)
  have hP : va_P (dC, dI) vwCl [(h0, .inr (2, [.null, .int 0])), (q1, .inl (cA2, 256, .inl (fun _ => 0)))] H := hP
  have hD : va_D A [(h0, .inr (2, [.null, .int 0])), (q1, .inl (cA2, 256, .inl (fun _ => 0)))] := hD
  have hK : va_K (dC, dI) vwCl [(cA2, .int)] s := hK
  refine W.widen (k := 1) (n := 256) (Nat.le_of_ble_eq_true rfl) (Nat.le_of_ble_eq_true rfl) ?_
  refine va_put (D := (dC, dI)) (ci := 2) (v := .ref q1) (ty := .array .int) (C := RX2) (T := TX2) (N := 2) hx hb hw uX2 tyX2 tyX2_ok nmX2 hown hK hP hD hS 0 rfl rfl 0 (by decide) (hw _ q8) (fun _ h9 => h9) rfl (by decide +kernel) rfl rfl (Nat.le_of_ble_eq_true rfl) dX2_init_10 (fun H locs hP hD hS => ?_)
  have hP : va_P (dC, dI) vwCl [(h0, .inr (2, [.ref q1, .int 0])), (q1, .inl (cA2, 256, .inl (fun _ => 0)))] H := hP
  have hD : va_D A [(h0, .inr (2, [.ref q1, .int 0])), (q1, .inl (cA2, 256, .inl (fun _ => 0)))] := hD
  have hP9 := hP.sub (ws' := [(h0, .inr (2, [.ref q1, .int 0])), (q1, .inl (cA2, 256, .inl (fun _ => 0)))]) [0, 1] rfl
  have hD9 := hD.sub (ws' := [(h0, .inr (2, [.ref q1, .int 0])), (q1, .inl (cA2, 256, .inl (fun _ => 0)))]) [0, 1] (by decide) rfl
  have hK9 := hK.sub (tys' := [(cA2, .int)]) [0] rfl
  exact W.vret hx hb hr (fun t ht hW => ⟨⟨(), rfl, trivial, q1, cA2, by rw [ht]; exact hP9, va_K.moved hW.alike hK9, hD9⟩, hS.F ht⟩) hS.2.2 dX2_init_13
set_option maxHeartbeats 4000000 in
set_option maxRecDepth 100000 in
theorem c_X0_init (l : Launch) (dC : Nat → ClassId) (dI : Nat → Nat → Nat) (sz : Nat) (h0 : Nat) : Met l yX0_init (Cond.code yX0_init cX0_init 1 none :: wp) ({ frames := 2, cells := 7, slots := 488, locals := 32 }) (cP dC dI [.ref h0] sz [(h0, .inr (0, [.null, .null, .null, .int 0, .null]))] []) (va_Qv (fun _ : Unit => True) (fun (_ : Unit) t => ∃ b1 : Nat, ∃ b2 : Nat, ∃ b3 : Nat, ∃ b4 : Nat, cB dC dI (va_A [(h0, .inr (0, [.null, .null, .null, .int 0, .null]))] sz) [(h0, .inr (0, [.ref b1, .ref b2, .ref b3, .int 0, .ref b4]))] [] t) (va_A [(h0, .inr (0, [.null, .null, .null, .int 0, .null]))] sz)) 7 488 (va_A [(h0, .inr (0, [.null, .null, .null, .int 0, .null]))] sz) := by
  refine Met.ofW (cc := cX0_init) (maxL := 1) (ret := none) (by decide) rfl ?_
  intro p e s m args below meth c s₁ B hml hv
  obtain ⟨rfl, hsz, hP, hK, hD0, hN⟩ := hv
  have hx := B.exec
  have hb := B.bytes
  have hr := B.returns
  have hts := atoms_spec (ws := Cond.code yX0_init cX0_init 1 none :: wp) B.pre
  have hw : ∀ w ∈ wp, w.before _ s = true := fun w h => hts w (List.mem_cons_of_mem _ h)
  have hown : s.vm.findClass RX0 = some m.cls := findClass_of_methodNamed B.named
  have hlocks := B.notSynchronized
  have hin : meth.name = "<init>" := (name_of_methodNamed B.named B.method).1
  subst hsz
  have hD := hD0.self (sz := s.heap.size)
  generalize hAe : va_A [(h0, .inr (0, [.null, .null, .null, .int 0, .null]))] s.heap.size = A at hD ⊢
  have hA : ∀ q : Nat, s.heap.size ≤ q → A q := fun q h => by rw [← hAe]; exact Or.inr h
  have hS : va_S A s.heap s.heap [] := va_S.rf
  have hP : va_P (dC, dI) vwCl [(h0, .inr (0, [.null, .null, .null, .int 0, .null]))] s.heap := hP
  have hl := lv_entry ([.ref h0]) (n := 1) (Nat.le_of_ble_eq_true rfl)
  rw [lg_entry_eq]
  generalize (lg_sl ([.ref h0]) ++ List.replicate (1 - (lg_sl ([.ref h0])).length) Slot.unset).toArray = ls at hl ⊢
  have hl : lv_has ls 1 [(0, .ref h0)] := hl
  refine lv_aload_n hx hb dX0_init_0 rfl (lv_at hl 0 rfl) ?_
  refine W.objInit hx hb hown (hw _ q9) (hw _ q1) (hw _ q2) rfl (by rw [hml]; exact hl.1) rfl dX0_init_1 (Nat.le_of_ble_eq_true rfl) (Nat.le_of_ble_eq_true rfl) ?_
  refine W.eq (g2 := F0 m 4 ls []) rfl ?_
  refine lv_aload_n hx hb dX0_init_4 rfl (lv_at hl 0 rfl) ?_
  refine lv_bipush (v := 100) hx hb dX0_init_5 (by decide) ?_
  refine va_newa (D := (dC, dI)) (atype := .int) (ty := .int) (a0 := (100, .inl (fun _ => 0))) (N' := 100) hx hb (hw _ q3) rfl hK hP hD hS hA (fun _ => rfl) (by decide) (by decide +kernel) (Nat.le_of_ble_eq_true rfl) (Nat.le_of_ble_eq_true rfl) (Nat.le_of_ble_eq_true rfl) dX0_init_7 (fun q1 cA2 H hK hP hD hS => ?_)
  have hP : va_P (dC, dI) vwCl [(h0, .inr (0, [.null, .null, .null, .int 0, .null])), (q1, .inl (cA2, 100, .inl (fun _ => 0)))] H := hP
  have hD : va_D A [(h0, .inr (0, [.null, .null, .null, .int 0, .null])), (q1, .inl (cA2, 100, .inl (fun _ => 0)))] := hD
  have hK : va_K (dC, dI) vwCl [(cA2, .int)] s := hK
  refine W.widen (k := 1) (n := 100) (Nat.le_of_ble_eq_true rfl) (Nat.le_of_ble_eq_true rfl) ?_
  refine va_putF (D := (dC, dI)) (ci := 0) (v := .ref q1) (ty := .array .int) (C := RX0) (T := TX0) (N := 5) hx hb hw uX0 tyX0 tyX0_ok nmX0 hown hK hP hD hS 0 rfl rfl 0 (by decide) (hw _ q10) (fun _ h9 => h9) rfl hin rfl (by decide +kernel) rfl rfl (Nat.le_of_ble_eq_true rfl) dX0_init_9 (fun H locs hP hD hS => ?_)
  have hP : va_P (dC, dI) vwCl [(h0, .inr (0, [.ref q1, .null, .null, .int 0, .null])), (q1, .inl (cA2, 100, .inl (fun _ => 0)))] H := hP
  have hD : va_D A [(h0, .inr (0, [.ref q1, .null, .null, .int 0, .null])), (q1, .inl (cA2, 100, .inl (fun _ => 0)))] := hD
  have hP := hP.sub (ws' := [(h0, .inr (0, [.ref q1, .null, .null, .int 0, .null]))]) [0] rfl
  have hD := hD.sub (ws' := [(h0, .inr (0, [.ref q1, .null, .null, .int 0, .null]))]) [0] (by decide) rfl
  have hK := hK.sub (tys' := []) [] rfl
  refine lv_aload_n hx hb dX0_init_12 rfl (lv_at hl 0 rfl) ?_
  refine lv_bipush (v := 100) hx hb dX0_init_13 (by decide) ?_
  refine va_newa (D := (dC, dI)) (atype := .int) (ty := .int) (a0 := (100, .inl (fun _ => 0))) (N' := 100) hx hb (hw _ q3) rfl hK hP hD hS hA (fun _ => rfl) (by decide) (by decide +kernel) (Nat.le_of_ble_eq_true rfl) (Nat.le_of_ble_eq_true rfl) (Nat.le_of_ble_eq_true rfl) dX0_init_15 (fun q3 cA4 H hK hP hD hS => ?_)
  have hP : va_P (dC, dI) vwCl [(h0, .inr (0, [.ref q1, .null, .null, .int 0, .null])), (q3, .inl (cA4, 100, .inl (fun _ => 0)))] H := hP
  have hD : va_D A [(h0, .inr (0, [.ref q1, .null, .null, .int 0, .null])), (q3, .inl (cA4, 100, .inl (fun _ => 0)))] := hD
  have hK : va_K (dC, dI) vwCl [(cA4, .int)] s := hK
  refine W.widen (k := 2) (n := 200) (Nat.le_of_ble_eq_true rfl) (Nat.le_of_ble_eq_true rfl) ?_
  refine va_putF (D := (dC, dI)) (ci := 0) (v := .ref q3) (ty := .array .int) (C := RX0) (T := TX0) (N := 5) hx hb hw uX0 tyX0 tyX0_ok nmX0 hown hK hP hD hS 0 rfl rfl 1 (by decide) (hw _ q11) (fun _ h9 => h9) rfl hin rfl (by decide +kernel) rfl rfl (Nat.le_of_ble_eq_true rfl) dX0_init_17 (fun H locs hP hD hS => ?_)
  have hP : va_P (dC, dI) vwCl [(h0, .inr (0, [.ref q1, .ref q3, .null, .int 0, .null])), (q3, .inl (cA4, 100, .inl (fun _ => 0)))] H := hP
  have hD : va_D A [(h0, .inr (0, [.ref q1, .ref q3, .null, .int 0, .null])), (q3, .inl (cA4, 100, .inl (fun _ => 0)))] := hD
  have hP := hP.sub (ws' := [(h0, .inr (0, [.ref q1, .ref q3, .null, .int 0, .null]))]) [0] rfl
  have hD := hD.sub (ws' := [(h0, .inr (0, [.ref q1, .ref q3, .null, .int 0, .null]))]) [0] (by decide) rfl
  have hK := hK.sub (tys' := []) [] rfl
  refine lv_aload_n hx hb dX0_init_20 rfl (lv_at hl 0 rfl) ?_
  refine lv_bipush (v := 100) hx hb dX0_init_21 (by decide) ?_
  refine va_newa (D := (dC, dI)) (atype := .int) (ty := .int) (a0 := (100, .inl (fun _ => 0))) (N' := 100) hx hb (hw _ q3) rfl hK hP hD hS hA (fun _ => rfl) (by decide) (by decide +kernel) (Nat.le_of_ble_eq_true rfl) (Nat.le_of_ble_eq_true rfl) (Nat.le_of_ble_eq_true rfl) dX0_init_23 (fun q5 cA6 H hK hP hD hS => ?_)
  have hP : va_P (dC, dI) vwCl [(h0, .inr (0, [.ref q1, .ref q3, .null, .int 0, .null])), (q5, .inl (cA6, 100, .inl (fun _ => 0)))] H := hP
  have hD : va_D A [(h0, .inr (0, [.ref q1, .ref q3, .null, .int 0, .null])), (q5, .inl (cA6, 100, .inl (fun _ => 0)))] := hD
  have hK : va_K (dC, dI) vwCl [(cA6, .int)] s := hK
  refine W.widen (k := 3) (n := 300) (Nat.le_of_ble_eq_true rfl) (Nat.le_of_ble_eq_true rfl) ?_
  refine va_putF (D := (dC, dI)) (ci := 0) (v := .ref q5) (ty := .array .int) (C := RX0) (T := TX0) (N := 5) hx hb hw uX0 tyX0 tyX0_ok nmX0 hown hK hP hD hS 0 rfl rfl 2 (by decide) (hw _ q12) (fun _ h9 => h9) rfl hin rfl (by decide +kernel) rfl rfl (Nat.le_of_ble_eq_true rfl) dX0_init_25 (fun H locs hP hD hS => ?_)
  have hP : va_P (dC, dI) vwCl [(h0, .inr (0, [.ref q1, .ref q3, .ref q5, .int 0, .null])), (q5, .inl (cA6, 100, .inl (fun _ => 0)))] H := hP
  have hD : va_D A [(h0, .inr (0, [.ref q1, .ref q3, .ref q5, .int 0, .null])), (q5, .inl (cA6, 100, .inl (fun _ => 0)))] := hD
  have hP := hP.sub (ws' := [(h0, .inr (0, [.ref q1, .ref q3, .ref q5, .int 0, .null]))]) [0] rfl
  have hD := hD.sub (ws' := [(h0, .inr (0, [.ref q1, .ref q3, .ref q5, .int 0, .null]))]) [0] (by decide) rfl
  have hK := hK.sub (tys' := []) [] rfl
  refine lv_aload_n hx hb dX0_init_28 rfl (lv_at hl 0 rfl) ?_
  refine va_new (D := (dC, dI)) (ci := 3) (fs := [.null, .int 0, .null, .null, .int 0]) (C := RX3) (T := TX3) (N := 5) hx hb hw uX3 tyX3 tyX3_ok hown (hw _ q13) (hw _ q14) (hw _ q15) hK hP hD hS hA rfl (by decide +kernel) (Nat.le_of_ble_eq_true rfl) (Nat.le_of_ble_eq_true rfl) dX0_init_29 (fun q7 H hP hD hS => ?_)
  have hP : va_P (dC, dI) vwCl [(h0, .inr (0, [.ref q1, .ref q3, .ref q5, .int 0, .null])), (q7, .inr (3, [.null, .int 0, .null, .null, .int 0]))] H := hP
  have hD : va_D A [(h0, .inr (0, [.ref q1, .ref q3, .ref q5, .int 0, .null])), (q7, .inr (3, [.null, .int 0, .null, .null, .int 0]))] := hD
  refine W.widen (k := 4) (n := 305) (Nat.le_of_ble_eq_true rfl) (Nat.le_of_ble_eq_true rfl) ?_
  refine lv_dup hx hb dX0_init_32 rfl ?_
  have hPc := hP.sub (ws' := [(q7, .inr (3, [.null, .int 0, .null, .null, .int 0]))]) [1] rfl
  have hDc := hD.sub (ws' := [(q7, .inr (3, [.null, .int 0, .null, .null, .int 0]))]) [1] (by decide) rfl
  have hKc := hK.sub (tys' := []) [] rfl
  have hFc := va_free (wc := [(q7, .inr (3, [.null, .int 0, .null, .null, .int 0]))]) hD hS hA [1] rfl
  refine va_callv (va_runIN (As := []) (rest := [.ref q7, .ref h0]) ⟨hx, hb, hml, hown, hw⟩ (c_X3_init l dC dI _ (q7)) ⟨va_cnB 0 hw (gB q16) rfl rfl rfl (nn0 hN) (hw _ q15) (by decide +kernel) ⟨Nat.le_of_ble_eq_true rfl, Nat.le_of_ble_eq_true rfl⟩, rfl, hw _ q17⟩ ⟨cP_blind, cP_pre hPc hKc hDc hN⟩ rfl rfl hl.1 rfl (lv_room (Nat.le_of_ble_eq_true rfl)) dX0_init_33 ⟨Nat.le_of_ble_eq_true rfl, Nat.le_of_ble_eq_true rfl⟩) hS (fun q _ h => hFc q h) hFc (fun u9 t H1 locs ht hvm hw1 hB hz1 hk1 hS => ?_)
  obtain ⟨b19, b210, b311, hP1, hK1, hD1⟩ := hB
  rw [ht] at hP1
  have hK1 := va_K.moved hvm.symm hK1
  obtain ⟨hP, hD⟩ := va_join (wr := [(h0, .inr (0, [.ref q1, .ref q3, .ref q5, .int 0, .null]))]) (w1 := [(q7, .inr (3, [.ref b19, .int 0, .ref b210, .ref b311, .int 0]))]) hP hD [1] [0] rfl rfl (by decide) (by decide) hk1 hFc hP1 hD1
  have hK := (hK.sub (tys' := []) [] rfl).app hK1
  generalize H1 = H at hP hS ⊢
  have hP : va_P (dC, dI) vwCl [(h0, .inr (0, [.ref q1, .ref q3, .ref q5, .int 0, .null])), (q7, .inr (3, [.ref b19, .int 0, .ref b210, .ref b311, .int 0]))] H := hP
  have hD : va_D A [(h0, .inr (0, [.ref q1, .ref q3, .ref q5, .int 0, .null])), (q7, .inr (3, [.ref b19, .int 0, .ref b210, .ref b311, .int 0]))] := hD
  have hK : va_K (dC, dI) vwCl [] s := hK
  refine W.widen (k := 7) (n := 488) (Nat.le_of_ble_eq_true rfl) (Nat.le_of_ble_eq_true rfl) ?_
  refine va_putF (D := (dC, dI)) (ci := 0) (v := .ref q7) (ty := .object "RowTypes$Kept") (C := RX0) (T := TX0) (N := 5) hx hb hw uX0 tyX0 tyX0_ok nmX0 hown hK hP hD hS 0 rfl rfl 4 (by decide) (hw _ q18) (fun _ h9 => h9) rfl hin rfl (by decide +kernel) rfl rfl (Nat.le_of_ble_eq_true rfl) dX0_init_36 (fun H locs hP hD hS => ?_)
  have hP : va_P (dC, dI) vwCl [(h0, .inr (0, [.ref q1, .ref q3, .ref q5, .int 0, .ref q7])), (q7, .inr (3, [.ref b19, .int 0, .ref b210, .ref b311, .int 0]))] H := hP
  have hD : va_D A [(h0, .inr (0, [.ref q1, .ref q3, .ref q5, .int 0, .ref q7])), (q7, .inr (3, [.ref b19, .int 0, .ref b210, .ref b311, .int 0]))] := hD
  have hP := hP.sub (ws' := [(h0, .inr (0, [.ref q1, .ref q3, .ref q5, .int 0, .ref q7]))]) [0] rfl
  have hD := hD.sub (ws' := [(h0, .inr (0, [.ref q1, .ref q3, .ref q5, .int 0, .ref q7]))]) [0] (by decide) rfl
  have hK := hK.sub (tys' := []) [] rfl
  have hP9 := hP.sub (ws' := [(h0, .inr (0, [.ref q1, .ref q3, .ref q5, .int 0, .ref q7]))]) [0] rfl
  have hD9 := hD.sub (ws' := [(h0, .inr (0, [.ref q1, .ref q3, .ref q5, .int 0, .ref q7]))]) [0] (by decide) rfl
  have hK9 := hK.sub (tys' := []) [] rfl
  exact W.vret hx hb hr (fun t ht hW => ⟨⟨(), rfl, trivial, q1, q3, q5, q7, by rw [ht]; exact hP9, va_K.moved hW.alike hK9, hD9⟩, hS.F ht⟩) hS.2.2 dX0_init_39
set_option maxHeartbeats 4000000 in
set_option maxRecDepth 100000 in
theorem c_X6_init (l : Launch) (dC : Nat → ClassId) (dI : Nat → Nat → Nat) (sz : Nat) (h0 : Nat) : Met l yX6_init (Cond.code yX6_init cX6_init 1 none :: wp) ({ frames := 2, cells := 4, slots := 458, locals := 32 }) (cP dC dI [.ref h0] sz [(h0, .inr (6, [.null, .null, .null, .null, .int 0]))] []) (va_Qv (fun _ : Unit => True) (fun (_ : Unit) t => ∃ b1 : Nat, ∃ b2 : Nat, ∃ b3 : Nat, ∃ b4 : Nat, ∃ cA1 : ClassId, cB dC dI (va_A [(h0, .inr (6, [.null, .null, .null, .null, .int 0]))] sz) [(h0, .inr (6, [.ref b1, .ref b2, .ref b3, .null, .int 0])), (b1, .inr (2, [.ref b4, .int 0])), (b4, .inl (cA1, 256, .inl (fun _ => 0)))] [(cA1, .int)] t) (va_A [(h0, .inr (6, [.null, .null, .null, .null, .int 0]))] sz)) 4 458 (va_A [(h0, .inr (6, [.null, .null, .null, .null, .int 0]))] sz) := by
  refine Met.ofW (cc := cX6_init) (maxL := 1) (ret := none) (by decide) rfl ?_
  intro p e s m args below meth c s₁ B hml hv
  obtain ⟨rfl, hsz, hP, hK, hD0, hN⟩ := hv
  have hx := B.exec
  have hb := B.bytes
  have hr := B.returns
  have hts := atoms_spec (ws := Cond.code yX6_init cX6_init 1 none :: wp) B.pre
  have hw : ∀ w ∈ wp, w.before _ s = true := fun w h => hts w (List.mem_cons_of_mem _ h)
  have hown : s.vm.findClass RX6 = some m.cls := findClass_of_methodNamed B.named
  have hlocks := B.notSynchronized
  have hin : meth.name = "<init>" := (name_of_methodNamed B.named B.method).1
  subst hsz
  have hD := hD0.self (sz := s.heap.size)
  generalize hAe : va_A [(h0, .inr (6, [.null, .null, .null, .null, .int 0]))] s.heap.size = A at hD ⊢
  have hA : ∀ q : Nat, s.heap.size ≤ q → A q := fun q h => by rw [← hAe]; exact Or.inr h
  have hS : va_S A s.heap s.heap [] := va_S.rf
  have hP : va_P (dC, dI) vwCl [(h0, .inr (6, [.null, .null, .null, .null, .int 0]))] s.heap := hP
  have hl := lv_entry ([.ref h0]) (n := 1) (Nat.le_of_ble_eq_true rfl)
  rw [lg_entry_eq]
  generalize (lg_sl ([.ref h0]) ++ List.replicate (1 - (lg_sl ([.ref h0])).length) Slot.unset).toArray = ls at hl ⊢
  have hl : lv_has ls 1 [(0, .ref h0)] := hl
  refine lv_aload_n hx hb dX6_init_0 rfl (lv_at hl 0 rfl) ?_
  refine W.objInit hx hb hown (hw _ q19) (hw _ q1) (hw _ q2) rfl (by rw [hml]; exact hl.1) rfl dX6_init_1 (Nat.le_of_ble_eq_true rfl) (Nat.le_of_ble_eq_true rfl) ?_
  refine W.eq (g2 := F0 m 4 ls []) rfl ?_
  refine lv_aload_n hx hb dX6_init_4 rfl (lv_at hl 0 rfl) ?_
  refine va_new (D := (dC, dI)) (ci := 2) (fs := [.null, .int 0]) (C := RX2) (T := TX2) (N := 2) hx hb hw uX2 tyX2 tyX2_ok hown (hw _ q20) (hw _ q21) (hw _ q22) hK hP hD hS hA rfl (by decide +kernel) (Nat.le_of_ble_eq_true rfl) (Nat.le_of_ble_eq_true rfl) dX6_init_5 (fun q1 H hP hD hS => ?_)
  have hP : va_P (dC, dI) vwCl [(h0, .inr (6, [.null, .null, .null, .null, .int 0])), (q1, .inr (2, [.null, .int 0]))] H := hP
  have hD : va_D A [(h0, .inr (6, [.null, .null, .null, .null, .int 0])), (q1, .inr (2, [.null, .int 0]))] := hD
  refine W.widen (k := 1) (n := 2) (Nat.le_of_ble_eq_true rfl) (Nat.le_of_ble_eq_true rfl) ?_
  refine lv_dup hx hb dX6_init_8 rfl ?_
  have hPc := hP.sub (ws' := [(q1, .inr (2, [.null, .int 0]))]) [1] rfl
  have hDc := hD.sub (ws' := [(q1, .inr (2, [.null, .int 0]))]) [1] (by decide) rfl
  have hKc := hK.sub (tys' := []) [] rfl
  have hFc := va_free (wc := [(q1, .inr (2, [.null, .int 0]))]) hD hS hA [1] rfl
  refine va_callv (va_runIN (As := []) (rest := [.ref q1, .ref h0]) ⟨hx, hb, hml, hown, hw⟩ (c_X2_init l dC dI _ (q1)) ⟨va_cnB 0 hw (gB q23) rfl rfl rfl (nn1 hN) (hw _ q22) (by decide +kernel) ⟨Nat.le_of_ble_eq_true rfl, Nat.le_of_ble_eq_true rfl⟩, rfl, hw _ q24⟩ ⟨cP_blind, cP_pre hPc hKc hDc hN⟩ rfl rfl hl.1 rfl (lv_room (Nat.le_of_ble_eq_true rfl)) dX6_init_9 ⟨Nat.le_of_ble_eq_true rfl, Nat.le_of_ble_eq_true rfl⟩) hS (fun q _ h => hFc q h) hFc (fun u9 t H1 locs ht hvm hw1 hB hz1 hk1 hS => ?_)
  obtain ⟨b13, cA14, hP1, hK1, hD1⟩ := hB
  rw [ht] at hP1
  have hK1 := va_K.moved hvm.symm hK1
  obtain ⟨hP, hD⟩ := va_join (wr := [(h0, .inr (6, [.null, .null, .null, .null, .int 0]))]) (w1 := [(q1, .inr (2, [.ref b13, .int 0])), (b13, .inl (cA14, 256, .inl (fun _ => 0)))]) hP hD [1] [0] rfl rfl (by decide) (by decide) hk1 hFc hP1 hD1
  have hK := (hK.sub (tys' := []) [] rfl).app hK1
  generalize H1 = H at hP hS ⊢
  have hP : va_P (dC, dI) vwCl [(h0, .inr (6, [.null, .null, .null, .null, .int 0])), (q1, .inr (2, [.ref b13, .int 0])), (b13, .inl (cA14, 256, .inl (fun _ => 0)))] H := hP
  have hD : va_D A [(h0, .inr (6, [.null, .null, .null, .null, .int 0])), (q1, .inr (2, [.ref b13, .int 0])), (b13, .inl (cA14, 256, .inl (fun _ => 0)))] := hD
  have hK : va_K (dC, dI) vwCl [(cA14, .int)] s := hK
  refine W.widen (k := 2) (n := 258) (Nat.le_of_ble_eq_true rfl) (Nat.le_of_ble_eq_true rfl) ?_
  refine va_putF (D := (dC, dI)) (ci := 6) (v := .ref q1) (ty := .object "RowTypes$Ints") (C := RX6) (T := TX6) (N := 5) hx hb hw uX6 tyX6 tyX6_ok nmX6 hown hK hP hD hS 0 rfl rfl 0 (by decide) (hw _ q25) (fun _ h9 => h9) rfl hin rfl (by decide +kernel) rfl rfl (Nat.le_of_ble_eq_true rfl) dX6_init_12 (fun H locs hP hD hS => ?_)
  have hP : va_P (dC, dI) vwCl [(h0, .inr (6, [.ref q1, .null, .null, .null, .int 0])), (q1, .inr (2, [.ref b13, .int 0])), (b13, .inl (cA14, 256, .inl (fun _ => 0)))] H := hP
  have hD : va_D A [(h0, .inr (6, [.ref q1, .null, .null, .null, .int 0])), (q1, .inr (2, [.ref b13, .int 0])), (b13, .inl (cA14, 256, .inl (fun _ => 0)))] := hD
  refine lv_aload_n hx hb dX6_init_15 rfl (lv_at hl 0 rfl) ?_
  refine lv_bipush (v := 100) hx hb dX6_init_16 (by decide) ?_
  refine va_newa (D := (dC, dI)) (atype := .int) (ty := .int) (a0 := (100, .inl (fun _ => 0))) (N' := 100) hx hb (hw _ q3) rfl hK hP hD hS hA (fun _ => rfl) (by decide) (by decide +kernel) (Nat.le_of_ble_eq_true rfl) (Nat.le_of_ble_eq_true rfl) (Nat.le_of_ble_eq_true rfl) dX6_init_18 (fun q5 cA6 H hK hP hD hS => ?_)
  have hP : va_P (dC, dI) vwCl [(h0, .inr (6, [.ref q1, .null, .null, .null, .int 0])), (q1, .inr (2, [.ref b13, .int 0])), (b13, .inl (cA14, 256, .inl (fun _ => 0))), (q5, .inl (cA6, 100, .inl (fun _ => 0)))] H := hP
  have hD : va_D A [(h0, .inr (6, [.ref q1, .null, .null, .null, .int 0])), (q1, .inr (2, [.ref b13, .int 0])), (b13, .inl (cA14, 256, .inl (fun _ => 0))), (q5, .inl (cA6, 100, .inl (fun _ => 0)))] := hD
  have hK : va_K (dC, dI) vwCl [(cA14, .int), (cA6, .int)] s := hK
  refine W.widen (k := 3) (n := 358) (Nat.le_of_ble_eq_true rfl) (Nat.le_of_ble_eq_true rfl) ?_
  refine va_putF (D := (dC, dI)) (ci := 6) (v := .ref q5) (ty := .array .int) (C := RX6) (T := TX6) (N := 5) hx hb hw uX6 tyX6 tyX6_ok nmX6 hown hK hP hD hS 0 rfl rfl 1 (by decide) (hw _ q26) (fun _ h9 => h9) rfl hin rfl (by decide +kernel) rfl rfl (Nat.le_of_ble_eq_true rfl) dX6_init_20 (fun H locs hP hD hS => ?_)
  have hP : va_P (dC, dI) vwCl [(h0, .inr (6, [.ref q1, .ref q5, .null, .null, .int 0])), (q1, .inr (2, [.ref b13, .int 0])), (b13, .inl (cA14, 256, .inl (fun _ => 0))), (q5, .inl (cA6, 100, .inl (fun _ => 0)))] H := hP
  have hD : va_D A [(h0, .inr (6, [.ref q1, .ref q5, .null, .null, .int 0])), (q1, .inr (2, [.ref b13, .int 0])), (b13, .inl (cA14, 256, .inl (fun _ => 0))), (q5, .inl (cA6, 100, .inl (fun _ => 0)))] := hD
  have hP := hP.sub (ws' := [(h0, .inr (6, [.ref q1, .ref q5, .null, .null, .int 0])), (q1, .inr (2, [.ref b13, .int 0])), (b13, .inl (cA14, 256, .inl (fun _ => 0)))]) [0, 1, 2] rfl
  have hD := hD.sub (ws' := [(h0, .inr (6, [.ref q1, .ref q5, .null, .null, .int 0])), (q1, .inr (2, [.ref b13, .int 0])), (b13, .inl (cA14, 256, .inl (fun _ => 0)))]) [0, 1, 2] (by decide) rfl
  have hK := hK.sub (tys' := [(cA14, .int)]) [0] rfl
  refine lv_aload_n hx hb dX6_init_23 rfl (lv_at hl 0 rfl) ?_
  refine lv_bipush (v := 100) hx hb dX6_init_24 (by decide) ?_
  refine va_newa (D := (dC, dI)) (atype := .int) (ty := .int) (a0 := (100, .inl (fun _ => 0))) (N' := 100) hx hb (hw _ q3) rfl hK hP hD hS hA (fun _ => rfl) (by decide) (by decide +kernel) (Nat.le_of_ble_eq_true rfl) (Nat.le_of_ble_eq_true rfl) (Nat.le_of_ble_eq_true rfl) dX6_init_26 (fun q7 cA8 H hK hP hD hS => ?_)
  have hP : va_P (dC, dI) vwCl [(h0, .inr (6, [.ref q1, .ref q5, .null, .null, .int 0])), (q1, .inr (2, [.ref b13, .int 0])), (b13, .inl (cA14, 256, .inl (fun _ => 0))), (q7, .inl (cA8, 100, .inl (fun _ => 0)))] H := hP
  have hD : va_D A [(h0, .inr (6, [.ref q1, .ref q5, .null, .null, .int 0])), (q1, .inr (2, [.ref b13, .int 0])), (b13, .inl (cA14, 256, .inl (fun _ => 0))), (q7, .inl (cA8, 100, .inl (fun _ => 0)))] := hD
  have hK : va_K (dC, dI) vwCl [(cA14, .int), (cA8, .int)] s := hK
  refine W.widen (k := 4) (n := 458) (Nat.le_of_ble_eq_true rfl) (Nat.le_of_ble_eq_true rfl) ?_
  refine va_putF (D := (dC, dI)) (ci := 6) (v := .ref q7) (ty := .array .int) (C := RX6) (T := TX6) (N := 5) hx hb hw uX6 tyX6 tyX6_ok nmX6 hown hK hP hD hS 0 rfl rfl 2 (by decide) (hw _ q27) (fun _ h9 => h9) rfl hin rfl (by decide +kernel) rfl rfl (Nat.le_of_ble_eq_true rfl) dX6_init_28 (fun H locs hP hD hS => ?_)
  have hP : va_P (dC, dI) vwCl [(h0, .inr (6, [.ref q1, .ref q5, .ref q7, .null, .int 0])), (q1, .inr (2, [.ref b13, .int 0])), (b13, .inl (cA14, 256, .inl (fun _ => 0))), (q7, .inl (cA8, 100, .inl (fun _ => 0)))] H := hP
  have hD : va_D A [(h0, .inr (6, [.ref q1, .ref q5, .ref q7, .null, .int 0])), (q1, .inr (2, [.ref b13, .int 0])), (b13, .inl (cA14, 256, .inl (fun _ => 0))), (q7, .inl (cA8, 100, .inl (fun _ => 0)))] := hD
  have hP := hP.sub (ws' := [(h0, .inr (6, [.ref q1, .ref q5, .ref q7, .null, .int 0])), (q1, .inr (2, [.ref b13, .int 0])), (b13, .inl (cA14, 256, .inl (fun _ => 0)))]) [0, 1, 2] rfl
  have hD := hD.sub (ws' := [(h0, .inr (6, [.ref q1, .ref q5, .ref q7, .null, .int 0])), (q1, .inr (2, [.ref b13, .int 0])), (b13, .inl (cA14, 256, .inl (fun _ => 0)))]) [0, 1, 2] (by decide) rfl
  have hK := hK.sub (tys' := [(cA14, .int)]) [0] rfl
  have hP9 := hP.sub (ws' := [(h0, .inr (6, [.ref q1, .ref q5, .ref q7, .null, .int 0])), (q1, .inr (2, [.ref b13, .int 0])), (b13, .inl (cA14, 256, .inl (fun _ => 0)))]) [0, 1, 2] rfl
  have hD9 := hD.sub (ws' := [(h0, .inr (6, [.ref q1, .ref q5, .ref q7, .null, .int 0])), (q1, .inr (2, [.ref b13, .int 0])), (b13, .inl (cA14, 256, .inl (fun _ => 0)))]) [0, 1, 2] (by decide) rfl
  have hK9 := hK.sub (tys' := [(cA14, .int)]) [0] rfl
  exact W.vret hx hb hr (fun t ht hW => ⟨⟨(), rfl, trivial, q1, q5, q7, b13, cA14, by rw [ht]; exact hP9, va_K.moved hW.alike hK9, hD9⟩, hS.F ht⟩) hS.2.2 dX6_init_31
set_option maxHeartbeats 4000000 in
set_option maxRecDepth 100000 in
theorem c_X5_init (l : Launch) (dC : Nat → ClassId) (dI : Nat → Nat → Nat) (sz : Nat) (h0 : Nat) : Met l yX5_init (Cond.code yX5_init cX5_init 1 none :: wp) ({ frames := 2, cells := 11, slots := 6479, locals := 32 }) (cP dC dI [.ref h0] sz [(h0, .inr (5, [.null, .null, .null, .null, .null, .null, .int 0, .int 0, .null, .null, .null, .null]))] []) (va_Qv (fun _ : Unit => True) (fun (_ : Unit) t => cB dC dI (va_A [(h0, .inr (5, [.null, .null, .null, .null, .null, .null, .int 0, .int 0, .null, .null, .null, .null]))] sz) [] [] t) (va_A [(h0, .inr (5, [.null, .null, .null, .null, .null, .null, .int 0, .int 0, .null, .null, .null, .null]))] sz)) 11 6479 (va_A [(h0, .inr (5, [.null, .null, .null, .null, .null, .null, .int 0, .int 0, .null, .null, .null, .null]))] sz) := by
  refine Met.ofW (cc := cX5_init) (maxL := 1) (ret := none) (by decide) rfl ?_
  intro p e s m args below meth c s₁ B hml hv
  obtain ⟨rfl, hsz, hP, hK, hD0, hN⟩ := hv
  have hx := B.exec
  have hb := B.bytes
  have hr := B.returns
  have hts := atoms_spec (ws := Cond.code yX5_init cX5_init 1 none :: wp) B.pre
  have hw : ∀ w ∈ wp, w.before _ s = true := fun w h => hts w (List.mem_cons_of_mem _ h)
  have hown : s.vm.findClass RX5 = some m.cls := findClass_of_methodNamed B.named
  have hlocks := B.notSynchronized
  have hin : meth.name = "<init>" := (name_of_methodNamed B.named B.method).1
  subst hsz
  have hD := hD0.self (sz := s.heap.size)
  generalize hAe : va_A [(h0, .inr (5, [.null, .null, .null, .null, .null, .null, .int 0, .int 0, .null, .null, .null, .null]))] s.heap.size = A at hD ⊢
  have hA : ∀ q : Nat, s.heap.size ≤ q → A q := fun q h => by rw [← hAe]; exact Or.inr h
  have hS : va_S A s.heap s.heap [] := va_S.rf
  have hP : va_P (dC, dI) vwCl [(h0, .inr (5, [.null, .null, .null, .null, .null, .null, .int 0, .int 0, .null, .null, .null, .null]))] s.heap := hP
  have hl := lv_entry ([.ref h0]) (n := 1) (Nat.le_of_ble_eq_true rfl)
  rw [lg_entry_eq]
  generalize (lg_sl ([.ref h0]) ++ List.replicate (1 - (lg_sl ([.ref h0])).length) Slot.unset).toArray = ls at hl ⊢
  have hl : lv_has ls 1 [(0, .ref h0)] := hl
  refine lv_aload_n hx hb dX5_init_0 rfl (lv_at hl 0 rfl) ?_
  refine W.objInit hx hb hown (hw _ q28) (hw _ q1) (hw _ q2) rfl (by rw [hml]; exact hl.1) rfl dX5_init_1 (Nat.le_of_ble_eq_true rfl) (Nat.le_of_ble_eq_true rfl) ?_
  refine W.eq (g2 := F0 m 4 ls []) rfl ?_
  refine lv_aload_n hx hb dX5_init_4 rfl (lv_at hl 0 rfl) ?_
  refine lv_sipush (v := 1024) hx hb dX5_init_5 (by decide) ?_
  refine va_newa (D := (dC, dI)) (atype := .int) (ty := .int) (a0 := (1024, .inl (fun _ => 0))) (N' := 1024) hx hb (hw _ q3) rfl hK hP hD hS hA (fun _ => rfl) (by decide) (by decide +kernel) (Nat.le_of_ble_eq_true rfl) (Nat.le_of_ble_eq_true rfl) (Nat.le_of_ble_eq_true rfl) dX5_init_8 (fun q1 cA2 H hK hP hD hS => ?_)
  have hP : va_P (dC, dI) vwCl [(h0, .inr (5, [.null, .null, .null, .null, .null, .null, .int 0, .int 0, .null, .null, .null, .null])), (q1, .inl (cA2, 1024, .inl (fun _ => 0)))] H := hP
  have hD : va_D A [(h0, .inr (5, [.null, .null, .null, .null, .null, .null, .int 0, .int 0, .null, .null, .null, .null])), (q1, .inl (cA2, 1024, .inl (fun _ => 0)))] := hD
  have hK : va_K (dC, dI) vwCl [(cA2, .int)] s := hK
  refine W.widen (k := 1) (n := 1024) (Nat.le_of_ble_eq_true rfl) (Nat.le_of_ble_eq_true rfl) ?_
  refine va_put (D := (dC, dI)) (ci := 5) (v := .ref q1) (ty := .array .int) (C := RX5) (T := TX5) (N := 12) hx hb hw uX5 tyX5 tyX5_ok nmX5 hown hK hP hD hS 0 rfl rfl 0 (by decide) (hw _ q29) (fun _ h9 => h9) rfl (by decide +kernel) rfl rfl (Nat.le_of_ble_eq_true rfl) dX5_init_10 (fun H locs hP hD hS => ?_)
  have hP : va_P (dC, dI) vwCl [(h0, .inr (5, [.ref q1, .null, .null, .null, .null, .null, .int 0, .int 0, .null, .null, .null, .null])), (q1, .inl (cA2, 1024, .inl (fun _ => 0)))] H := hP
  have hD : va_D A [(h0, .inr (5, [.ref q1, .null, .null, .null, .null, .null, .int 0, .int 0, .null, .null, .null, .null])), (q1, .inl (cA2, 1024, .inl (fun _ => 0)))] := hD
  have hP := hP.sub (ws' := [(h0, .inr (5, [.ref q1, .null, .null, .null, .null, .null, .int 0, .int 0, .null, .null, .null, .null]))]) [0] rfl
  have hD := hD.sub (ws' := [(h0, .inr (5, [.ref q1, .null, .null, .null, .null, .null, .int 0, .int 0, .null, .null, .null, .null]))]) [0] (by decide) rfl
  have hK := hK.sub (tys' := []) [] rfl
  refine lv_aload_n hx hb dX5_init_13 rfl (lv_at hl 0 rfl) ?_
  refine lv_sipush (v := 1024) hx hb dX5_init_14 (by decide) ?_
  refine va_newa (D := (dC, dI)) (atype := .int) (ty := .int) (a0 := (1024, .inl (fun _ => 0))) (N' := 1024) hx hb (hw _ q3) rfl hK hP hD hS hA (fun _ => rfl) (by decide) (by decide +kernel) (Nat.le_of_ble_eq_true rfl) (Nat.le_of_ble_eq_true rfl) (Nat.le_of_ble_eq_true rfl) dX5_init_17 (fun q3 cA4 H hK hP hD hS => ?_)
  have hP : va_P (dC, dI) vwCl [(h0, .inr (5, [.ref q1, .null, .null, .null, .null, .null, .int 0, .int 0, .null, .null, .null, .null])), (q3, .inl (cA4, 1024, .inl (fun _ => 0)))] H := hP
  have hD : va_D A [(h0, .inr (5, [.ref q1, .null, .null, .null, .null, .null, .int 0, .int 0, .null, .null, .null, .null])), (q3, .inl (cA4, 1024, .inl (fun _ => 0)))] := hD
  have hK : va_K (dC, dI) vwCl [(cA4, .int)] s := hK
  refine W.widen (k := 2) (n := 2048) (Nat.le_of_ble_eq_true rfl) (Nat.le_of_ble_eq_true rfl) ?_
  refine va_put (D := (dC, dI)) (ci := 5) (v := .ref q3) (ty := .array .int) (C := RX5) (T := TX5) (N := 12) hx hb hw uX5 tyX5 tyX5_ok nmX5 hown hK hP hD hS 0 rfl rfl 1 (by decide) (hw _ q30) (fun _ h9 => h9) rfl (by decide +kernel) rfl rfl (Nat.le_of_ble_eq_true rfl) dX5_init_19 (fun H locs hP hD hS => ?_)
  have hP : va_P (dC, dI) vwCl [(h0, .inr (5, [.ref q1, .ref q3, .null, .null, .null, .null, .int 0, .int 0, .null, .null, .null, .null])), (q3, .inl (cA4, 1024, .inl (fun _ => 0)))] H := hP
  have hD : va_D A [(h0, .inr (5, [.ref q1, .ref q3, .null, .null, .null, .null, .int 0, .int 0, .null, .null, .null, .null])), (q3, .inl (cA4, 1024, .inl (fun _ => 0)))] := hD
  have hP := hP.sub (ws' := [(h0, .inr (5, [.ref q1, .ref q3, .null, .null, .null, .null, .int 0, .int 0, .null, .null, .null, .null]))]) [0] rfl
  have hD := hD.sub (ws' := [(h0, .inr (5, [.ref q1, .ref q3, .null, .null, .null, .null, .int 0, .int 0, .null, .null, .null, .null]))]) [0] (by decide) rfl
  have hK := hK.sub (tys' := []) [] rfl
  refine lv_aload_n hx hb dX5_init_22 rfl (lv_at hl 0 rfl) ?_
  refine lv_sipush (v := 1024) hx hb dX5_init_23 (by decide) ?_
  refine va_newa (D := (dC, dI)) (atype := .int) (ty := .int) (a0 := (1024, .inl (fun _ => 0))) (N' := 1024) hx hb (hw _ q3) rfl hK hP hD hS hA (fun _ => rfl) (by decide) (by decide +kernel) (Nat.le_of_ble_eq_true rfl) (Nat.le_of_ble_eq_true rfl) (Nat.le_of_ble_eq_true rfl) dX5_init_26 (fun q5 cA6 H hK hP hD hS => ?_)
  have hP : va_P (dC, dI) vwCl [(h0, .inr (5, [.ref q1, .ref q3, .null, .null, .null, .null, .int 0, .int 0, .null, .null, .null, .null])), (q5, .inl (cA6, 1024, .inl (fun _ => 0)))] H := hP
  have hD : va_D A [(h0, .inr (5, [.ref q1, .ref q3, .null, .null, .null, .null, .int 0, .int 0, .null, .null, .null, .null])), (q5, .inl (cA6, 1024, .inl (fun _ => 0)))] := hD
  have hK : va_K (dC, dI) vwCl [(cA6, .int)] s := hK
  refine W.widen (k := 3) (n := 3072) (Nat.le_of_ble_eq_true rfl) (Nat.le_of_ble_eq_true rfl) ?_
  refine va_put (D := (dC, dI)) (ci := 5) (v := .ref q5) (ty := .array .int) (C := RX5) (T := TX5) (N := 12) hx hb hw uX5 tyX5 tyX5_ok nmX5 hown hK hP hD hS 0 rfl rfl 2 (by decide) (hw _ q31) (fun _ h9 => h9) rfl (by decide +kernel) rfl rfl (Nat.le_of_ble_eq_true rfl) dX5_init_28 (fun H locs hP hD hS => ?_)
  have hP : va_P (dC, dI) vwCl [(h0, .inr (5, [.ref q1, .ref q3, .ref q5, .null, .null, .null, .int 0, .int 0, .null, .null, .null, .null])), (q5, .inl (cA6, 1024, .inl (fun _ => 0)))] H := hP
  have hD : va_D A [(h0, .inr (5, [.ref q1, .ref q3, .ref q5, .null, .null, .null, .int 0, .int 0, .null, .null, .null, .null])), (q5, .inl (cA6, 1024, .inl (fun _ => 0)))] := hD
  have hP := hP.sub (ws' := [(h0, .inr (5, [.ref q1, .ref q3, .ref q5, .null, .null, .null, .int 0, .int 0, .null, .null, .null, .null]))]) [0] rfl
  have hD := hD.sub (ws' := [(h0, .inr (5, [.ref q1, .ref q3, .ref q5, .null, .null, .null, .int 0, .int 0, .null, .null, .null, .null]))]) [0] (by decide) rfl
  have hK := hK.sub (tys' := []) [] rfl
  refine lv_aload_n hx hb dX5_init_31 rfl (lv_at hl 0 rfl) ?_
  refine lv_sipush (v := 1024) hx hb dX5_init_32 (by decide) ?_
  refine va_newa (D := (dC, dI)) (atype := .int) (ty := .int) (a0 := (1024, .inl (fun _ => 0))) (N' := 1024) hx hb (hw _ q3) rfl hK hP hD hS hA (fun _ => rfl) (by decide) (by decide +kernel) (Nat.le_of_ble_eq_true rfl) (Nat.le_of_ble_eq_true rfl) (Nat.le_of_ble_eq_true rfl) dX5_init_35 (fun q7 cA8 H hK hP hD hS => ?_)
  have hP : va_P (dC, dI) vwCl [(h0, .inr (5, [.ref q1, .ref q3, .ref q5, .null, .null, .null, .int 0, .int 0, .null, .null, .null, .null])), (q7, .inl (cA8, 1024, .inl (fun _ => 0)))] H := hP
  have hD : va_D A [(h0, .inr (5, [.ref q1, .ref q3, .ref q5, .null, .null, .null, .int 0, .int 0, .null, .null, .null, .null])), (q7, .inl (cA8, 1024, .inl (fun _ => 0)))] := hD
  have hK : va_K (dC, dI) vwCl [(cA8, .int)] s := hK
  refine W.widen (k := 4) (n := 4096) (Nat.le_of_ble_eq_true rfl) (Nat.le_of_ble_eq_true rfl) ?_
  refine va_put (D := (dC, dI)) (ci := 5) (v := .ref q7) (ty := .array .int) (C := RX5) (T := TX5) (N := 12) hx hb hw uX5 tyX5 tyX5_ok nmX5 hown hK hP hD hS 0 rfl rfl 3 (by decide) (hw _ q32) (fun _ h9 => h9) rfl (by decide +kernel) rfl rfl (Nat.le_of_ble_eq_true rfl) dX5_init_37 (fun H locs hP hD hS => ?_)
  have hP : va_P (dC, dI) vwCl [(h0, .inr (5, [.ref q1, .ref q3, .ref q5, .ref q7, .null, .null, .int 0, .int 0, .null, .null, .null, .null])), (q7, .inl (cA8, 1024, .inl (fun _ => 0)))] H := hP
  have hD : va_D A [(h0, .inr (5, [.ref q1, .ref q3, .ref q5, .ref q7, .null, .null, .int 0, .int 0, .null, .null, .null, .null])), (q7, .inl (cA8, 1024, .inl (fun _ => 0)))] := hD
  have hP := hP.sub (ws' := [(h0, .inr (5, [.ref q1, .ref q3, .ref q5, .ref q7, .null, .null, .int 0, .int 0, .null, .null, .null, .null]))]) [0] rfl
  have hD := hD.sub (ws' := [(h0, .inr (5, [.ref q1, .ref q3, .ref q5, .ref q7, .null, .null, .int 0, .int 0, .null, .null, .null, .null]))]) [0] (by decide) rfl
  have hK := hK.sub (tys' := []) [] rfl
  refine lv_aload_n hx hb dX5_init_40 rfl (lv_at hl 0 rfl) ?_
  refine lv_sipush (v := 1024) hx hb dX5_init_41 (by decide) ?_
  refine va_newa (D := (dC, dI)) (atype := .int) (ty := .int) (a0 := (1024, .inl (fun _ => 0))) (N' := 1024) hx hb (hw _ q3) rfl hK hP hD hS hA (fun _ => rfl) (by decide) (by decide +kernel) (Nat.le_of_ble_eq_true rfl) (Nat.le_of_ble_eq_true rfl) (Nat.le_of_ble_eq_true rfl) dX5_init_44 (fun q9 cA10 H hK hP hD hS => ?_)
  have hP : va_P (dC, dI) vwCl [(h0, .inr (5, [.ref q1, .ref q3, .ref q5, .ref q7, .null, .null, .int 0, .int 0, .null, .null, .null, .null])), (q9, .inl (cA10, 1024, .inl (fun _ => 0)))] H := hP
  have hD : va_D A [(h0, .inr (5, [.ref q1, .ref q3, .ref q5, .ref q7, .null, .null, .int 0, .int 0, .null, .null, .null, .null])), (q9, .inl (cA10, 1024, .inl (fun _ => 0)))] := hD
  have hK : va_K (dC, dI) vwCl [(cA10, .int)] s := hK
  refine W.widen (k := 5) (n := 5120) (Nat.le_of_ble_eq_true rfl) (Nat.le_of_ble_eq_true rfl) ?_
  refine va_put (D := (dC, dI)) (ci := 5) (v := .ref q9) (ty := .array .int) (C := RX5) (T := TX5) (N := 12) hx hb hw uX5 tyX5 tyX5_ok nmX5 hown hK hP hD hS 0 rfl rfl 4 (by decide) (hw _ q33) (fun _ h9 => h9) rfl (by decide +kernel) rfl rfl (Nat.le_of_ble_eq_true rfl) dX5_init_46 (fun H locs hP hD hS => ?_)
  have hP : va_P (dC, dI) vwCl [(h0, .inr (5, [.ref q1, .ref q3, .ref q5, .ref q7, .ref q9, .null, .int 0, .int 0, .null, .null, .null, .null])), (q9, .inl (cA10, 1024, .inl (fun _ => 0)))] H := hP
  have hD : va_D A [(h0, .inr (5, [.ref q1, .ref q3, .ref q5, .ref q7, .ref q9, .null, .int 0, .int 0, .null, .null, .null, .null])), (q9, .inl (cA10, 1024, .inl (fun _ => 0)))] := hD
  have hP := hP.sub (ws' := [(h0, .inr (5, [.ref q1, .ref q3, .ref q5, .ref q7, .ref q9, .null, .int 0, .int 0, .null, .null, .null, .null]))]) [0] rfl
  have hD := hD.sub (ws' := [(h0, .inr (5, [.ref q1, .ref q3, .ref q5, .ref q7, .ref q9, .null, .int 0, .int 0, .null, .null, .null, .null]))]) [0] (by decide) rfl
  have hK := hK.sub (tys' := []) [] rfl
  refine lv_aload_n hx hb dX5_init_49 rfl (lv_at hl 0 rfl) ?_
  refine lv_sipush (v := 1024) hx hb dX5_init_50 (by decide) ?_
  refine va_newa (D := (dC, dI)) (atype := .int) (ty := .int) (a0 := (1024, .inl (fun _ => 0))) (N' := 1024) hx hb (hw _ q3) rfl hK hP hD hS hA (fun _ => rfl) (by decide) (by decide +kernel) (Nat.le_of_ble_eq_true rfl) (Nat.le_of_ble_eq_true rfl) (Nat.le_of_ble_eq_true rfl) dX5_init_53 (fun q11 cA12 H hK hP hD hS => ?_)
  have hP : va_P (dC, dI) vwCl [(h0, .inr (5, [.ref q1, .ref q3, .ref q5, .ref q7, .ref q9, .null, .int 0, .int 0, .null, .null, .null, .null])), (q11, .inl (cA12, 1024, .inl (fun _ => 0)))] H := hP
  have hD : va_D A [(h0, .inr (5, [.ref q1, .ref q3, .ref q5, .ref q7, .ref q9, .null, .int 0, .int 0, .null, .null, .null, .null])), (q11, .inl (cA12, 1024, .inl (fun _ => 0)))] := hD
  have hK : va_K (dC, dI) vwCl [(cA12, .int)] s := hK
  refine W.widen (k := 6) (n := 6144) (Nat.le_of_ble_eq_true rfl) (Nat.le_of_ble_eq_true rfl) ?_
  refine va_put (D := (dC, dI)) (ci := 5) (v := .ref q11) (ty := .array .int) (C := RX5) (T := TX5) (N := 12) hx hb hw uX5 tyX5 tyX5_ok nmX5 hown hK hP hD hS 0 rfl rfl 5 (by decide) (hw _ q34) (fun _ h9 => h9) rfl (by decide +kernel) rfl rfl (Nat.le_of_ble_eq_true rfl) dX5_init_55 (fun H locs hP hD hS => ?_)
  have hP : va_P (dC, dI) vwCl [(h0, .inr (5, [.ref q1, .ref q3, .ref q5, .ref q7, .ref q9, .ref q11, .int 0, .int 0, .null, .null, .null, .null])), (q11, .inl (cA12, 1024, .inl (fun _ => 0)))] H := hP
  have hD : va_D A [(h0, .inr (5, [.ref q1, .ref q3, .ref q5, .ref q7, .ref q9, .ref q11, .int 0, .int 0, .null, .null, .null, .null])), (q11, .inl (cA12, 1024, .inl (fun _ => 0)))] := hD
  have hP := hP.sub (ws' := [(h0, .inr (5, [.ref q1, .ref q3, .ref q5, .ref q7, .ref q9, .ref q11, .int 0, .int 0, .null, .null, .null, .null]))]) [0] rfl
  have hD := hD.sub (ws' := [(h0, .inr (5, [.ref q1, .ref q3, .ref q5, .ref q7, .ref q9, .ref q11, .int 0, .int 0, .null, .null, .null, .null]))]) [0] (by decide) rfl
  have hK := hK.sub (tys' := []) [] rfl
  refine lv_aload_n hx hb dX5_init_58 rfl (lv_at hl 0 rfl) ?_
  refine va_new (D := (dC, dI)) (ci := 2) (fs := [.null, .int 0]) (C := RX2) (T := TX2) (N := 2) hx hb hw uX2 tyX2 tyX2_ok hown (hw _ q35) (hw _ q21) (hw _ q22) hK hP hD hS hA rfl (by decide +kernel) (Nat.le_of_ble_eq_true rfl) (Nat.le_of_ble_eq_true rfl) dX5_init_59 (fun q13 H hP hD hS => ?_)
  have hP : va_P (dC, dI) vwCl [(h0, .inr (5, [.ref q1, .ref q3, .ref q5, .ref q7, .ref q9, .ref q11, .int 0, .int 0, .null, .null, .null, .null])), (q13, .inr (2, [.null, .int 0]))] H := hP
  have hD : va_D A [(h0, .inr (5, [.ref q1, .ref q3, .ref q5, .ref q7, .ref q9, .ref q11, .int 0, .int 0, .null, .null, .null, .null])), (q13, .inr (2, [.null, .int 0]))] := hD
  refine W.widen (k := 7) (n := 6146) (Nat.le_of_ble_eq_true rfl) (Nat.le_of_ble_eq_true rfl) ?_
  refine lv_dup hx hb dX5_init_62 rfl ?_
  have hPc := hP.sub (ws' := [(q13, .inr (2, [.null, .int 0]))]) [1] rfl
  have hDc := hD.sub (ws' := [(q13, .inr (2, [.null, .int 0]))]) [1] (by decide) rfl
  have hKc := hK.sub (tys' := []) [] rfl
  have hFc := va_free (wc := [(q13, .inr (2, [.null, .int 0]))]) hD hS hA [1] rfl
  refine va_callv (va_runIN (As := []) (rest := [.ref q13, .ref h0]) ⟨hx, hb, hml, hown, hw⟩ (c_X2_init l dC dI _ (q13)) ⟨va_cnB 0 hw (gB q23) rfl rfl rfl (nn2 hN) (hw _ q22) (by decide +kernel) ⟨Nat.le_of_ble_eq_true rfl, Nat.le_of_ble_eq_true rfl⟩, rfl, hw _ q24⟩ ⟨cP_blind, cP_pre hPc hKc hDc hN⟩ rfl rfl hl.1 rfl (lv_room (Nat.le_of_ble_eq_true rfl)) dX5_init_63 ⟨Nat.le_of_ble_eq_true rfl, Nat.le_of_ble_eq_true rfl⟩) hS (fun q _ h => hFc q h) hFc (fun u9 t H1 locs ht hvm hw1 hB hz1 hk1 hS => ?_)
  obtain ⟨b115, cA116, hP1, hK1, hD1⟩ := hB
  rw [ht] at hP1
  have hK1 := va_K.moved hvm.symm hK1
  obtain ⟨hP, hD⟩ := va_join (wr := [(h0, .inr (5, [.ref q1, .ref q3, .ref q5, .ref q7, .ref q9, .ref q11, .int 0, .int 0, .null, .null, .null, .null]))]) (w1 := [(q13, .inr (2, [.ref b115, .int 0])), (b115, .inl (cA116, 256, .inl (fun _ => 0)))]) hP hD [1] [0] rfl rfl (by decide) (by decide) hk1 hFc hP1 hD1
  have hK := (hK.sub (tys' := []) [] rfl).app hK1
  generalize H1 = H at hP hS ⊢
  have hP : va_P (dC, dI) vwCl [(h0, .inr (5, [.ref q1, .ref q3, .ref q5, .ref q7, .ref q9, .ref q11, .int 0, .int 0, .null, .null, .null, .null])), (q13, .inr (2, [.ref b115, .int 0])), (b115, .inl (cA116, 256, .inl (fun _ => 0)))] H := hP
  have hD : va_D A [(h0, .inr (5, [.ref q1, .ref q3, .ref q5, .ref q7, .ref q9, .ref q11, .int 0, .int 0, .null, .null, .null, .null])), (q13, .inr (2, [.ref b115, .int 0])), (b115, .inl (cA116, 256, .inl (fun _ => 0)))] := hD
  have hK : va_K (dC, dI) vwCl [(cA116, .int)] s := hK
  refine W.widen (k := 8) (n := 6402) (Nat.le_of_ble_eq_true rfl) (Nat.le_of_ble_eq_true rfl) ?_
  refine va_putF (D := (dC, dI)) (ci := 5) (v := .ref q13) (ty := .object "RowTypes$Ints") (C := RX5) (T := TX5) (N := 12) hx hb hw uX5 tyX5 tyX5_ok nmX5 hown hK hP hD hS 0 rfl rfl 8 (by decide) (hw _ q36) (fun _ h9 => h9) rfl hin rfl (by decide +kernel) rfl rfl (Nat.le_of_ble_eq_true rfl) dX5_init_66 (fun H locs hP hD hS => ?_)
  have hP : va_P (dC, dI) vwCl [(h0, .inr (5, [.ref q1, .ref q3, .ref q5, .ref q7, .ref q9, .ref q11, .int 0, .int 0, .ref q13, .null, .null, .null])), (q13, .inr (2, [.ref b115, .int 0])), (b115, .inl (cA116, 256, .inl (fun _ => 0)))] H := hP
  have hD : va_D A [(h0, .inr (5, [.ref q1, .ref q3, .ref q5, .ref q7, .ref q9, .ref q11, .int 0, .int 0, .ref q13, .null, .null, .null])), (q13, .inr (2, [.ref b115, .int 0])), (b115, .inl (cA116, 256, .inl (fun _ => 0)))] := hD
  have hP := hP.sub (ws' := [(h0, .inr (5, [.ref q1, .ref q3, .ref q5, .ref q7, .ref q9, .ref q11, .int 0, .int 0, .ref q13, .null, .null, .null])), (b115, .inl (cA116, 256, .inl (fun _ => 0)))]) [0, 2] rfl
  have hD := hD.sub (ws' := [(h0, .inr (5, [.ref q1, .ref q3, .ref q5, .ref q7, .ref q9, .ref q11, .int 0, .int 0, .ref q13, .null, .null, .null])), (b115, .inl (cA116, 256, .inl (fun _ => 0)))]) [0, 2] (by decide) rfl
  have hK := hK.sub (tys' := [(cA116, .int)]) [0] rfl
  refine lv_aload_n hx hb dX5_init_69 rfl (lv_at hl 0 rfl) ?_
  refine lv_bipush (v := 8) hx hb dX5_init_70 (by decide) ?_
  refine va_newa (D := (dC, dI)) (atype := .int) (ty := .int) (a0 := (8, .inl (fun _ => 0))) (N' := 8) hx hb (hw _ q3) rfl hK hP hD hS hA (fun _ => rfl) (by decide) (by decide +kernel) (Nat.le_of_ble_eq_true rfl) (Nat.le_of_ble_eq_true rfl) (Nat.le_of_ble_eq_true rfl) dX5_init_72 (fun q17 cA18 H hK hP hD hS => ?_)
  have hP : va_P (dC, dI) vwCl [(h0, .inr (5, [.ref q1, .ref q3, .ref q5, .ref q7, .ref q9, .ref q11, .int 0, .int 0, .ref q13, .null, .null, .null])), (b115, .inl (cA116, 256, .inl (fun _ => 0))), (q17, .inl (cA18, 8, .inl (fun _ => 0)))] H := hP
  have hD : va_D A [(h0, .inr (5, [.ref q1, .ref q3, .ref q5, .ref q7, .ref q9, .ref q11, .int 0, .int 0, .ref q13, .null, .null, .null])), (b115, .inl (cA116, 256, .inl (fun _ => 0))), (q17, .inl (cA18, 8, .inl (fun _ => 0)))] := hD
  have hK : va_K (dC, dI) vwCl [(cA116, .int), (cA18, .int)] s := hK
  refine W.widen (k := 9) (n := 6410) (Nat.le_of_ble_eq_true rfl) (Nat.le_of_ble_eq_true rfl) ?_
  refine va_putF (D := (dC, dI)) (ci := 5) (v := .ref q17) (ty := .array .int) (C := RX5) (T := TX5) (N := 12) hx hb hw uX5 tyX5 tyX5_ok nmX5 hown hK hP hD hS 0 rfl rfl 9 (by decide) (hw _ q37) (fun _ h9 => h9) rfl hin rfl (by decide +kernel) rfl rfl (Nat.le_of_ble_eq_true rfl) dX5_init_74 (fun H locs hP hD hS => ?_)
  have hP : va_P (dC, dI) vwCl [(h0, .inr (5, [.ref q1, .ref q3, .ref q5, .ref q7, .ref q9, .ref q11, .int 0, .int 0, .ref q13, .ref q17, .null, .null])), (b115, .inl (cA116, 256, .inl (fun _ => 0))), (q17, .inl (cA18, 8, .inl (fun _ => 0)))] H := hP
  have hD : va_D A [(h0, .inr (5, [.ref q1, .ref q3, .ref q5, .ref q7, .ref q9, .ref q11, .int 0, .int 0, .ref q13, .ref q17, .null, .null])), (b115, .inl (cA116, 256, .inl (fun _ => 0))), (q17, .inl (cA18, 8, .inl (fun _ => 0)))] := hD
  have hP := hP.sub (ws' := [(h0, .inr (5, [.ref q1, .ref q3, .ref q5, .ref q7, .ref q9, .ref q11, .int 0, .int 0, .ref q13, .ref q17, .null, .null])), (b115, .inl (cA116, 256, .inl (fun _ => 0)))]) [0, 1] rfl
  have hD := hD.sub (ws' := [(h0, .inr (5, [.ref q1, .ref q3, .ref q5, .ref q7, .ref q9, .ref q11, .int 0, .int 0, .ref q13, .ref q17, .null, .null])), (b115, .inl (cA116, 256, .inl (fun _ => 0)))]) [0, 1] (by decide) rfl
  have hK := hK.sub (tys' := [(cA116, .int)]) [0] rfl
  refine lv_aload_n hx hb dX5_init_77 rfl (lv_at hl 0 rfl) ?_
  refine lv_bipush (v := 8) hx hb dX5_init_78 (by decide) ?_
  refine va_newa (D := (dC, dI)) (atype := .int) (ty := .int) (a0 := (8, .inl (fun _ => 0))) (N' := 8) hx hb (hw _ q3) rfl hK hP hD hS hA (fun _ => rfl) (by decide) (by decide +kernel) (Nat.le_of_ble_eq_true rfl) (Nat.le_of_ble_eq_true rfl) (Nat.le_of_ble_eq_true rfl) dX5_init_80 (fun q19 cA20 H hK hP hD hS => ?_)
  have hP : va_P (dC, dI) vwCl [(h0, .inr (5, [.ref q1, .ref q3, .ref q5, .ref q7, .ref q9, .ref q11, .int 0, .int 0, .ref q13, .ref q17, .null, .null])), (b115, .inl (cA116, 256, .inl (fun _ => 0))), (q19, .inl (cA20, 8, .inl (fun _ => 0)))] H := hP
  have hD : va_D A [(h0, .inr (5, [.ref q1, .ref q3, .ref q5, .ref q7, .ref q9, .ref q11, .int 0, .int 0, .ref q13, .ref q17, .null, .null])), (b115, .inl (cA116, 256, .inl (fun _ => 0))), (q19, .inl (cA20, 8, .inl (fun _ => 0)))] := hD
  have hK : va_K (dC, dI) vwCl [(cA116, .int), (cA20, .int)] s := hK
  refine W.widen (k := 10) (n := 6418) (Nat.le_of_ble_eq_true rfl) (Nat.le_of_ble_eq_true rfl) ?_
  refine va_putF (D := (dC, dI)) (ci := 5) (v := .ref q19) (ty := .array .int) (C := RX5) (T := TX5) (N := 12) hx hb hw uX5 tyX5 tyX5_ok nmX5 hown hK hP hD hS 0 rfl rfl 10 (by decide) (hw _ q38) (fun _ h9 => h9) rfl hin rfl (by decide +kernel) rfl rfl (Nat.le_of_ble_eq_true rfl) dX5_init_82 (fun H locs hP hD hS => ?_)
  have hP : va_P (dC, dI) vwCl [(h0, .inr (5, [.ref q1, .ref q3, .ref q5, .ref q7, .ref q9, .ref q11, .int 0, .int 0, .ref q13, .ref q17, .ref q19, .null])), (b115, .inl (cA116, 256, .inl (fun _ => 0))), (q19, .inl (cA20, 8, .inl (fun _ => 0)))] H := hP
  have hD : va_D A [(h0, .inr (5, [.ref q1, .ref q3, .ref q5, .ref q7, .ref q9, .ref q11, .int 0, .int 0, .ref q13, .ref q17, .ref q19, .null])), (b115, .inl (cA116, 256, .inl (fun _ => 0))), (q19, .inl (cA20, 8, .inl (fun _ => 0)))] := hD
  have hP := hP.sub (ws' := [(h0, .inr (5, [.ref q1, .ref q3, .ref q5, .ref q7, .ref q9, .ref q11, .int 0, .int 0, .ref q13, .ref q17, .ref q19, .null])), (b115, .inl (cA116, 256, .inl (fun _ => 0)))]) [0, 1] rfl
  have hD := hD.sub (ws' := [(h0, .inr (5, [.ref q1, .ref q3, .ref q5, .ref q7, .ref q9, .ref q11, .int 0, .int 0, .ref q13, .ref q17, .ref q19, .null])), (b115, .inl (cA116, 256, .inl (fun _ => 0)))]) [0, 1] (by decide) rfl
  have hK := hK.sub (tys' := [(cA116, .int)]) [0] rfl
  refine lv_aload_n hx hb dX5_init_85 rfl (lv_at hl 0 rfl) ?_
  refine lv_bipush (v := 61) hx hb dX5_init_86 (by decide) ?_
  refine va_newa (D := (dC, dI)) (atype := .int) (ty := .int) (a0 := (61, .inl (fun _ => 0))) (N' := 61) hx hb (hw _ q3) rfl hK hP hD hS hA (fun _ => rfl) (by decide) (by decide +kernel) (Nat.le_of_ble_eq_true rfl) (Nat.le_of_ble_eq_true rfl) (Nat.le_of_ble_eq_true rfl) dX5_init_88 (fun q21 cA22 H hK hP hD hS => ?_)
  have hP : va_P (dC, dI) vwCl [(h0, .inr (5, [.ref q1, .ref q3, .ref q5, .ref q7, .ref q9, .ref q11, .int 0, .int 0, .ref q13, .ref q17, .ref q19, .null])), (b115, .inl (cA116, 256, .inl (fun _ => 0))), (q21, .inl (cA22, 61, .inl (fun _ => 0)))] H := hP
  have hD : va_D A [(h0, .inr (5, [.ref q1, .ref q3, .ref q5, .ref q7, .ref q9, .ref q11, .int 0, .int 0, .ref q13, .ref q17, .ref q19, .null])), (b115, .inl (cA116, 256, .inl (fun _ => 0))), (q21, .inl (cA22, 61, .inl (fun _ => 0)))] := hD
  have hK : va_K (dC, dI) vwCl [(cA116, .int), (cA22, .int)] s := hK
  refine W.widen (k := 11) (n := 6479) (Nat.le_of_ble_eq_true rfl) (Nat.le_of_ble_eq_true rfl) ?_
  refine va_putF (D := (dC, dI)) (ci := 5) (v := .ref q21) (ty := .array .int) (C := RX5) (T := TX5) (N := 12) hx hb hw uX5 tyX5 tyX5_ok nmX5 hown hK hP hD hS 0 rfl rfl 11 (by decide) (hw _ q39) (fun _ h9 => h9) rfl hin rfl (by decide +kernel) rfl rfl (Nat.le_of_ble_eq_true rfl) dX5_init_90 (fun H locs hP hD hS => ?_)
  have hP : va_P (dC, dI) vwCl [(h0, .inr (5, [.ref q1, .ref q3, .ref q5, .ref q7, .ref q9, .ref q11, .int 0, .int 0, .ref q13, .ref q17, .ref q19, .ref q21])), (b115, .inl (cA116, 256, .inl (fun _ => 0))), (q21, .inl (cA22, 61, .inl (fun _ => 0)))] H := hP
  have hD : va_D A [(h0, .inr (5, [.ref q1, .ref q3, .ref q5, .ref q7, .ref q9, .ref q11, .int 0, .int 0, .ref q13, .ref q17, .ref q19, .ref q21])), (b115, .inl (cA116, 256, .inl (fun _ => 0))), (q21, .inl (cA22, 61, .inl (fun _ => 0)))] := hD
  have hP := hP.sub (ws' := [(h0, .inr (5, [.ref q1, .ref q3, .ref q5, .ref q7, .ref q9, .ref q11, .int 0, .int 0, .ref q13, .ref q17, .ref q19, .ref q21])), (b115, .inl (cA116, 256, .inl (fun _ => 0)))]) [0, 1] rfl
  have hD := hD.sub (ws' := [(h0, .inr (5, [.ref q1, .ref q3, .ref q5, .ref q7, .ref q9, .ref q11, .int 0, .int 0, .ref q13, .ref q17, .ref q19, .ref q21])), (b115, .inl (cA116, 256, .inl (fun _ => 0)))]) [0, 1] (by decide) rfl
  have hK := hK.sub (tys' := [(cA116, .int)]) [0] rfl
  have hP9 := hP.sub (ws' := []) [] rfl
  have hD9 := hD.sub (ws' := []) [] (by decide) rfl
  have hK9 := hK.sub (tys' := []) [] rfl
  exact W.vret hx hb hr (fun t ht hW => ⟨⟨(), rfl, trivial, by rw [ht]; exact hP9, va_K.moved hW.alike hK9, hD9⟩, hS.F ht⟩) hS.2.2 dX5_init_93
set_option maxHeartbeats 4000000 in
set_option maxRecDepth 100000 in
theorem c_X9_init (l : Launch) (dC : Nat → ClassId) (dI : Nat → Nat → Nat) (sz : Nat) (h0 : Nat) (a1 : Nat) : Met l yX9_init (Cond.code yX9_init cX9_init 2 none :: wp) ({ frames := 2, cells := 4, slots := 516, locals := 32 }) (cP dC dI [.ref h0, .ref a1] sz [(h0, .inr (9, [.null, .null, .null, .null, .int 0, .int 0, .int 0]))] []) (va_Qv (fun _ : Unit => True) (fun (_ : Unit) t => cB dC dI (va_A [(h0, .inr (9, [.null, .null, .null, .null, .int 0, .int 0, .int 0]))] sz) [] [] t) (va_A [(h0, .inr (9, [.null, .null, .null, .null, .int 0, .int 0, .int 0]))] sz)) 4 516 (va_A [(h0, .inr (9, [.null, .null, .null, .null, .int 0, .int 0, .int 0]))] sz) := by
  refine Met.ofW (cc := cX9_init) (maxL := 2) (ret := none) (by decide) rfl ?_
  intro p e s m args below meth c s₁ B hml hv
  obtain ⟨rfl, hsz, hP, hK, hD0, hN⟩ := hv
  have hx := B.exec
  have hb := B.bytes
  have hr := B.returns
  have hts := atoms_spec (ws := Cond.code yX9_init cX9_init 2 none :: wp) B.pre
  have hw : ∀ w ∈ wp, w.before _ s = true := fun w h => hts w (List.mem_cons_of_mem _ h)
  have hown : s.vm.findClass RX9 = some m.cls := findClass_of_methodNamed B.named
  have hlocks := B.notSynchronized
  have hin : meth.name = "<init>" := (name_of_methodNamed B.named B.method).1
  subst hsz
  have hD := hD0.self (sz := s.heap.size)
  generalize hAe : va_A [(h0, .inr (9, [.null, .null, .null, .null, .int 0, .int 0, .int 0]))] s.heap.size = A at hD ⊢
  have hA : ∀ q : Nat, s.heap.size ≤ q → A q := fun q h => by rw [← hAe]; exact Or.inr h
  have hS : va_S A s.heap s.heap [] := va_S.rf
  have hP : va_P (dC, dI) vwCl [(h0, .inr (9, [.null, .null, .null, .null, .int 0, .int 0, .int 0]))] s.heap := hP
  have hl := lv_entry ([.ref h0, .ref a1]) (n := 2) (Nat.le_of_ble_eq_true rfl)
  rw [lg_entry_eq]
  generalize (lg_sl ([.ref h0, .ref a1]) ++ List.replicate (2 - (lg_sl ([.ref h0, .ref a1])).length) Slot.unset).toArray = ls at hl ⊢
  have hl : lv_has ls 2 [(0, .ref h0), (1, .ref a1)] := hl
  refine lv_aload_n hx hb dX9_init_0 rfl (lv_at hl 0 rfl) ?_
  refine W.objInit hx hb hown (hw _ q40) (hw _ q1) (hw _ q2) rfl (by rw [hml]; exact hl.1) rfl dX9_init_1 (Nat.le_of_ble_eq_true rfl) (Nat.le_of_ble_eq_true rfl) ?_
  refine W.eq (g2 := F0 m 4 ls []) rfl ?_
  refine lv_aload_n hx hb dX9_init_4 rfl (lv_at hl 0 rfl) ?_
  refine va_new (D := (dC, dI)) (ci := 2) (fs := [.null, .int 0]) (C := RX2) (T := TX2) (N := 2) hx hb hw uX2 tyX2 tyX2_ok hown (hw _ q41) (hw _ q21) (hw _ q22) hK hP hD hS hA rfl (by decide +kernel) (Nat.le_of_ble_eq_true rfl) (Nat.le_of_ble_eq_true rfl) dX9_init_5 (fun q1 H hP hD hS => ?_)
  have hP : va_P (dC, dI) vwCl [(h0, .inr (9, [.null, .null, .null, .null, .int 0, .int 0, .int 0])), (q1, .inr (2, [.null, .int 0]))] H := hP
  have hD : va_D A [(h0, .inr (9, [.null, .null, .null, .null, .int 0, .int 0, .int 0])), (q1, .inr (2, [.null, .int 0]))] := hD
  refine W.widen (k := 1) (n := 2) (Nat.le_of_ble_eq_true rfl) (Nat.le_of_ble_eq_true rfl) ?_
  refine lv_dup hx hb dX9_init_8 rfl ?_
  have hPc := hP.sub (ws' := [(q1, .inr (2, [.null, .int 0]))]) [1] rfl
  have hDc := hD.sub (ws' := [(q1, .inr (2, [.null, .int 0]))]) [1] (by decide) rfl
  have hKc := hK.sub (tys' := []) [] rfl
  have hFc := va_free (wc := [(q1, .inr (2, [.null, .int 0]))]) hD hS hA [1] rfl
  refine va_callv (va_runIN (As := []) (rest := [.ref q1, .ref h0]) ⟨hx, hb, hml, hown, hw⟩ (c_X2_init l dC dI _ (q1)) ⟨va_cnB 0 hw (gB q23) rfl rfl rfl (nn3 hN) (hw _ q22) (by decide +kernel) ⟨Nat.le_of_ble_eq_true rfl, Nat.le_of_ble_eq_true rfl⟩, rfl, hw _ q24⟩ ⟨cP_blind, cP_pre hPc hKc hDc hN⟩ rfl rfl hl.1 rfl (lv_room (Nat.le_of_ble_eq_true rfl)) dX9_init_9 ⟨Nat.le_of_ble_eq_true rfl, Nat.le_of_ble_eq_true rfl⟩) hS (fun q _ h => hFc q h) hFc (fun u9 t H1 locs ht hvm hw1 hB hz1 hk1 hS => ?_)
  obtain ⟨b13, cA14, hP1, hK1, hD1⟩ := hB
  rw [ht] at hP1
  have hK1 := va_K.moved hvm.symm hK1
  obtain ⟨hP, hD⟩ := va_join (wr := [(h0, .inr (9, [.null, .null, .null, .null, .int 0, .int 0, .int 0]))]) (w1 := [(q1, .inr (2, [.ref b13, .int 0])), (b13, .inl (cA14, 256, .inl (fun _ => 0)))]) hP hD [1] [0] rfl rfl (by decide) (by decide) hk1 hFc hP1 hD1
  have hK := (hK.sub (tys' := []) [] rfl).app hK1
  generalize H1 = H at hP hS ⊢
  have hP : va_P (dC, dI) vwCl [(h0, .inr (9, [.null, .null, .null, .null, .int 0, .int 0, .int 0])), (q1, .inr (2, [.ref b13, .int 0])), (b13, .inl (cA14, 256, .inl (fun _ => 0)))] H := hP
  have hD : va_D A [(h0, .inr (9, [.null, .null, .null, .null, .int 0, .int 0, .int 0])), (q1, .inr (2, [.ref b13, .int 0])), (b13, .inl (cA14, 256, .inl (fun _ => 0)))] := hD
  have hK : va_K (dC, dI) vwCl [(cA14, .int)] s := hK
  refine W.widen (k := 2) (n := 258) (Nat.le_of_ble_eq_true rfl) (Nat.le_of_ble_eq_true rfl) ?_
  refine va_putF (D := (dC, dI)) (ci := 9) (v := .ref q1) (ty := .object "RowTypes$Ints") (C := RX9) (T := TX9) (N := 7) hx hb hw uX9 tyX9 tyX9_ok nmX9 hown hK hP hD hS 0 rfl rfl 1 (by decide) (hw _ q42) (fun _ h9 => h9) rfl hin rfl (by decide +kernel) rfl rfl (Nat.le_of_ble_eq_true rfl) dX9_init_12 (fun H locs hP hD hS => ?_)
  have hP : va_P (dC, dI) vwCl [(h0, .inr (9, [.null, .ref q1, .null, .null, .int 0, .int 0, .int 0])), (q1, .inr (2, [.ref b13, .int 0])), (b13, .inl (cA14, 256, .inl (fun _ => 0)))] H := hP
  have hD : va_D A [(h0, .inr (9, [.null, .ref q1, .null, .null, .int 0, .int 0, .int 0])), (q1, .inr (2, [.ref b13, .int 0])), (b13, .inl (cA14, 256, .inl (fun _ => 0)))] := hD
  have hP := hP.sub (ws' := [(h0, .inr (9, [.null, .ref q1, .null, .null, .int 0, .int 0, .int 0])), (b13, .inl (cA14, 256, .inl (fun _ => 0)))]) [0, 2] rfl
  have hD := hD.sub (ws' := [(h0, .inr (9, [.null, .ref q1, .null, .null, .int 0, .int 0, .int 0])), (b13, .inl (cA14, 256, .inl (fun _ => 0)))]) [0, 2] (by decide) rfl
  have hK := hK.sub (tys' := [(cA14, .int)]) [0] rfl
  refine lv_aload_n hx hb dX9_init_15 rfl (lv_at hl 0 rfl) ?_
  refine va_new (D := (dC, dI)) (ci := 2) (fs := [.null, .int 0]) (C := RX2) (T := TX2) (N := 2) hx hb hw uX2 tyX2 tyX2_ok hown (hw _ q41) (hw _ q21) (hw _ q22) hK hP hD hS hA rfl (by decide +kernel) (Nat.le_of_ble_eq_true rfl) (Nat.le_of_ble_eq_true rfl) dX9_init_16 (fun q5 H hP hD hS => ?_)
  have hP : va_P (dC, dI) vwCl [(h0, .inr (9, [.null, .ref q1, .null, .null, .int 0, .int 0, .int 0])), (b13, .inl (cA14, 256, .inl (fun _ => 0))), (q5, .inr (2, [.null, .int 0]))] H := hP
  have hD : va_D A [(h0, .inr (9, [.null, .ref q1, .null, .null, .int 0, .int 0, .int 0])), (b13, .inl (cA14, 256, .inl (fun _ => 0))), (q5, .inr (2, [.null, .int 0]))] := hD
  refine W.widen (k := 3) (n := 260) (Nat.le_of_ble_eq_true rfl) (Nat.le_of_ble_eq_true rfl) ?_
  refine lv_dup hx hb dX9_init_19 rfl ?_
  have hPc := hP.sub (ws' := [(q5, .inr (2, [.null, .int 0]))]) [2] rfl
  have hDc := hD.sub (ws' := [(q5, .inr (2, [.null, .int 0]))]) [2] (by decide) rfl
  have hKc := hK.sub (tys' := []) [] rfl
  have hFc := va_free (wc := [(q5, .inr (2, [.null, .int 0]))]) hD hS hA [2] rfl
  refine va_callv (va_runIN (As := []) (rest := [.ref q5, .ref h0]) ⟨hx, hb, hml, hown, hw⟩ (c_X2_init l dC dI _ (q5)) ⟨va_cnB 0 hw (gB q23) rfl rfl rfl (nn3 hN) (hw _ q22) (by decide +kernel) ⟨Nat.le_of_ble_eq_true rfl, Nat.le_of_ble_eq_true rfl⟩, rfl, hw _ q24⟩ ⟨cP_blind, cP_pre hPc hKc hDc hN⟩ rfl rfl hl.1 rfl (lv_room (Nat.le_of_ble_eq_true rfl)) dX9_init_20 ⟨Nat.le_of_ble_eq_true rfl, Nat.le_of_ble_eq_true rfl⟩) hS (fun q _ h => hFc q h) hFc (fun u9 t H1 locs ht hvm hw1 hB hz1 hk1 hS => ?_)
  obtain ⟨b17, cA18, hP1, hK1, hD1⟩ := hB
  rw [ht] at hP1
  have hK1 := va_K.moved hvm.symm hK1
  obtain ⟨hP, hD⟩ := va_join (wr := [(h0, .inr (9, [.null, .ref q1, .null, .null, .int 0, .int 0, .int 0])), (b13, .inl (cA14, 256, .inl (fun _ => 0)))]) (w1 := [(q5, .inr (2, [.ref b17, .int 0])), (b17, .inl (cA18, 256, .inl (fun _ => 0)))]) hP hD [2] [0, 1] rfl rfl (by decide) (by decide) hk1 hFc hP1 hD1
  have hK := (hK.sub (tys' := [(cA14, .int)]) [0] rfl).app hK1
  generalize H1 = H at hP hS ⊢
  have hP : va_P (dC, dI) vwCl [(h0, .inr (9, [.null, .ref q1, .null, .null, .int 0, .int 0, .int 0])), (b13, .inl (cA14, 256, .inl (fun _ => 0))), (q5, .inr (2, [.ref b17, .int 0])), (b17, .inl (cA18, 256, .inl (fun _ => 0)))] H := hP
  have hD : va_D A [(h0, .inr (9, [.null, .ref q1, .null, .null, .int 0, .int 0, .int 0])), (b13, .inl (cA14, 256, .inl (fun _ => 0))), (q5, .inr (2, [.ref b17, .int 0])), (b17, .inl (cA18, 256, .inl (fun _ => 0)))] := hD
  have hK : va_K (dC, dI) vwCl [(cA14, .int), (cA18, .int)] s := hK
  refine W.widen (k := 4) (n := 516) (Nat.le_of_ble_eq_true rfl) (Nat.le_of_ble_eq_true rfl) ?_
  refine va_putF (D := (dC, dI)) (ci := 9) (v := .ref q5) (ty := .object "RowTypes$Ints") (C := RX9) (T := TX9) (N := 7) hx hb hw uX9 tyX9 tyX9_ok nmX9 hown hK hP hD hS 0 rfl rfl 2 (by decide) (hw _ q43) (fun _ h9 => h9) rfl hin rfl (by decide +kernel) rfl rfl (Nat.le_of_ble_eq_true rfl) dX9_init_23 (fun H locs hP hD hS => ?_)
  have hP : va_P (dC, dI) vwCl [(h0, .inr (9, [.null, .ref q1, .ref q5, .null, .int 0, .int 0, .int 0])), (b13, .inl (cA14, 256, .inl (fun _ => 0))), (q5, .inr (2, [.ref b17, .int 0])), (b17, .inl (cA18, 256, .inl (fun _ => 0)))] H := hP
  have hD : va_D A [(h0, .inr (9, [.null, .ref q1, .ref q5, .null, .int 0, .int 0, .int 0])), (b13, .inl (cA14, 256, .inl (fun _ => 0))), (q5, .inr (2, [.ref b17, .int 0])), (b17, .inl (cA18, 256, .inl (fun _ => 0)))] := hD
  have hP := hP.sub (ws' := [(h0, .inr (9, [.null, .ref q1, .ref q5, .null, .int 0, .int 0, .int 0])), (b13, .inl (cA14, 256, .inl (fun _ => 0))), (b17, .inl (cA18, 256, .inl (fun _ => 0)))]) [0, 1, 3] rfl
  have hD := hD.sub (ws' := [(h0, .inr (9, [.null, .ref q1, .ref q5, .null, .int 0, .int 0, .int 0])), (b13, .inl (cA14, 256, .inl (fun _ => 0))), (b17, .inl (cA18, 256, .inl (fun _ => 0)))]) [0, 1, 3] (by decide) rfl
  have hK := hK.sub (tys' := [(cA14, .int), (cA18, .int)]) [0, 1] rfl
  refine lv_aload_n hx hb dX9_init_26 rfl (lv_at hl 0 rfl) ?_
  refine lv_aload_n hx hb dX9_init_27 rfl (lv_at hl 1 rfl) ?_
  refine va_putF (D := (dC, dI)) (ci := 9) (v := .ref a1) (ty := .object "RowTypes$Nodes") (C := RX9) (T := TX9) (N := 7) hx hb hw uX9 tyX9 tyX9_ok nmX9 hown hK hP hD hS 0 rfl rfl 0 (by decide) (hw _ q44) (fun _ h9 => h9) rfl hin rfl (by decide +kernel) rfl rfl (Nat.le_of_ble_eq_true rfl) dX9_init_28 (fun H locs hP hD hS => ?_)
  have hP : va_P (dC, dI) vwCl [(h0, .inr (9, [.ref a1, .ref q1, .ref q5, .null, .int 0, .int 0, .int 0])), (b13, .inl (cA14, 256, .inl (fun _ => 0))), (b17, .inl (cA18, 256, .inl (fun _ => 0)))] H := hP
  have hD : va_D A [(h0, .inr (9, [.ref a1, .ref q1, .ref q5, .null, .int 0, .int 0, .int 0])), (b13, .inl (cA14, 256, .inl (fun _ => 0))), (b17, .inl (cA18, 256, .inl (fun _ => 0)))] := hD
  have hP9 := hP.sub (ws' := []) [] rfl
  have hD9 := hD.sub (ws' := []) [] (by decide) rfl
  have hK9 := hK.sub (tys' := []) [] rfl
  exact W.vret hx hb hr (fun t ht hW => ⟨⟨(), rfl, trivial, by rw [ht]; exact hP9, va_K.moved hW.alike hK9, hD9⟩, hS.F ht⟩) hS.2.2 dX9_init_31
set_option maxHeartbeats 4000000 in
set_option maxRecDepth 100000 in
theorem c_X10_init (l : Launch) (dC : Nat → ClassId) (dI : Nat → Nat → Nat) (sz : Nat) (h0 : Nat) (a1 : Nat) : Met l yX10_init (Cond.code yX10_init cX10_init 2 none :: wp) ({ frames := 2, cells := 2, slots := 258, locals := 32 }) (cP dC dI [.ref h0, .ref a1] sz [(h0, .inr (10, [.null, .null, .int 0, .int 0, .int 0]))] []) (va_Qv (fun _ : Unit => True) (fun (_ : Unit) t => cB dC dI (va_A [(h0, .inr (10, [.null, .null, .int 0, .int 0, .int 0]))] sz) [] [] t) (va_A [(h0, .inr (10, [.null, .null, .int 0, .int 0, .int 0]))] sz)) 2 258 (va_A [(h0, .inr (10, [.null, .null, .int 0, .int 0, .int 0]))] sz) := by
  refine Met.ofW (cc := cX10_init) (maxL := 2) (ret := none) (by decide) rfl ?_
  intro p e s m args below meth c s₁ B hml hv
  obtain ⟨rfl, hsz, hP, hK, hD0, hN⟩ := hv
  have hx := B.exec
  have hb := B.bytes
  have hr := B.returns
  have hts := atoms_spec (ws := Cond.code yX10_init cX10_init 2 none :: wp) B.pre
  have hw : ∀ w ∈ wp, w.before _ s = true := fun w h => hts w (List.mem_cons_of_mem _ h)
  have hown : s.vm.findClass RX10 = some m.cls := findClass_of_methodNamed B.named
  have hlocks := B.notSynchronized
  have hin : meth.name = "<init>" := (name_of_methodNamed B.named B.method).1
  subst hsz
  have hD := hD0.self (sz := s.heap.size)
  generalize hAe : va_A [(h0, .inr (10, [.null, .null, .int 0, .int 0, .int 0]))] s.heap.size = A at hD ⊢
  have hA : ∀ q : Nat, s.heap.size ≤ q → A q := fun q h => by rw [← hAe]; exact Or.inr h
  have hS : va_S A s.heap s.heap [] := va_S.rf
  have hP : va_P (dC, dI) vwCl [(h0, .inr (10, [.null, .null, .int 0, .int 0, .int 0]))] s.heap := hP
  have hl := lv_entry ([.ref h0, .ref a1]) (n := 2) (Nat.le_of_ble_eq_true rfl)
  rw [lg_entry_eq]
  generalize (lg_sl ([.ref h0, .ref a1]) ++ List.replicate (2 - (lg_sl ([.ref h0, .ref a1])).length) Slot.unset).toArray = ls at hl ⊢
  have hl : lv_has ls 2 [(0, .ref h0), (1, .ref a1)] := hl
  refine lv_aload_n hx hb dX10_init_0 rfl (lv_at hl 0 rfl) ?_
  refine W.objInit hx hb hown (hw _ q45) (hw _ q1) (hw _ q2) rfl (by rw [hml]; exact hl.1) rfl dX10_init_1 (Nat.le_of_ble_eq_true rfl) (Nat.le_of_ble_eq_true rfl) ?_
  refine W.eq (g2 := F0 m 4 ls []) rfl ?_
  refine lv_aload_n hx hb dX10_init_4 rfl (lv_at hl 0 rfl) ?_
  refine va_new (D := (dC, dI)) (ci := 2) (fs := [.null, .int 0]) (C := RX2) (T := TX2) (N := 2) hx hb hw uX2 tyX2 tyX2_ok hown (hw _ q46) (hw _ q21) (hw _ q22) hK hP hD hS hA rfl (by decide +kernel) (Nat.le_of_ble_eq_true rfl) (Nat.le_of_ble_eq_true rfl) dX10_init_5 (fun q1 H hP hD hS => ?_)
  have hP : va_P (dC, dI) vwCl [(h0, .inr (10, [.null, .null, .int 0, .int 0, .int 0])), (q1, .inr (2, [.null, .int 0]))] H := hP
  have hD : va_D A [(h0, .inr (10, [.null, .null, .int 0, .int 0, .int 0])), (q1, .inr (2, [.null, .int 0]))] := hD
  refine W.widen (k := 1) (n := 2) (Nat.le_of_ble_eq_true rfl) (Nat.le_of_ble_eq_true rfl) ?_
  refine lv_dup hx hb dX10_init_8 rfl ?_
  have hPc := hP.sub (ws' := [(q1, .inr (2, [.null, .int 0]))]) [1] rfl
  have hDc := hD.sub (ws' := [(q1, .inr (2, [.null, .int 0]))]) [1] (by decide) rfl
  have hKc := hK.sub (tys' := []) [] rfl
  have hFc := va_free (wc := [(q1, .inr (2, [.null, .int 0]))]) hD hS hA [1] rfl
  refine va_callv (va_runIN (As := []) (rest := [.ref q1, .ref h0]) ⟨hx, hb, hml, hown, hw⟩ (c_X2_init l dC dI _ (q1)) ⟨va_cnB 0 hw (gB q23) rfl rfl rfl (nn4 hN) (hw _ q22) (by decide +kernel) ⟨Nat.le_of_ble_eq_true rfl, Nat.le_of_ble_eq_true rfl⟩, rfl, hw _ q24⟩ ⟨cP_blind, cP_pre hPc hKc hDc hN⟩ rfl rfl hl.1 rfl (lv_room (Nat.le_of_ble_eq_true rfl)) dX10_init_9 ⟨Nat.le_of_ble_eq_true rfl, Nat.le_of_ble_eq_true rfl⟩) hS (fun q _ h => hFc q h) hFc (fun u9 t H1 locs ht hvm hw1 hB hz1 hk1 hS => ?_)
  obtain ⟨b13, cA14, hP1, hK1, hD1⟩ := hB
  rw [ht] at hP1
  have hK1 := va_K.moved hvm.symm hK1
  obtain ⟨hP, hD⟩ := va_join (wr := [(h0, .inr (10, [.null, .null, .int 0, .int 0, .int 0]))]) (w1 := [(q1, .inr (2, [.ref b13, .int 0])), (b13, .inl (cA14, 256, .inl (fun _ => 0)))]) hP hD [1] [0] rfl rfl (by decide) (by decide) hk1 hFc hP1 hD1
  have hK := (hK.sub (tys' := []) [] rfl).app hK1
  generalize H1 = H at hP hS ⊢
  have hP : va_P (dC, dI) vwCl [(h0, .inr (10, [.null, .null, .int 0, .int 0, .int 0])), (q1, .inr (2, [.ref b13, .int 0])), (b13, .inl (cA14, 256, .inl (fun _ => 0)))] H := hP
  have hD : va_D A [(h0, .inr (10, [.null, .null, .int 0, .int 0, .int 0])), (q1, .inr (2, [.ref b13, .int 0])), (b13, .inl (cA14, 256, .inl (fun _ => 0)))] := hD
  have hK : va_K (dC, dI) vwCl [(cA14, .int)] s := hK
  refine W.widen (k := 2) (n := 258) (Nat.le_of_ble_eq_true rfl) (Nat.le_of_ble_eq_true rfl) ?_
  refine va_putF (D := (dC, dI)) (ci := 10) (v := .ref q1) (ty := .object "RowTypes$Ints") (C := RX10) (T := TX10) (N := 5) hx hb hw uX10 tyX10 tyX10_ok nmX10 hown hK hP hD hS 0 rfl rfl 1 (by decide) (hw _ q47) (fun _ h9 => h9) rfl hin rfl (by decide +kernel) rfl rfl (Nat.le_of_ble_eq_true rfl) dX10_init_12 (fun H locs hP hD hS => ?_)
  have hP : va_P (dC, dI) vwCl [(h0, .inr (10, [.null, .ref q1, .int 0, .int 0, .int 0])), (q1, .inr (2, [.ref b13, .int 0])), (b13, .inl (cA14, 256, .inl (fun _ => 0)))] H := hP
  have hD : va_D A [(h0, .inr (10, [.null, .ref q1, .int 0, .int 0, .int 0])), (q1, .inr (2, [.ref b13, .int 0])), (b13, .inl (cA14, 256, .inl (fun _ => 0)))] := hD
  have hP := hP.sub (ws' := [(h0, .inr (10, [.null, .ref q1, .int 0, .int 0, .int 0])), (b13, .inl (cA14, 256, .inl (fun _ => 0)))]) [0, 2] rfl
  have hD := hD.sub (ws' := [(h0, .inr (10, [.null, .ref q1, .int 0, .int 0, .int 0])), (b13, .inl (cA14, 256, .inl (fun _ => 0)))]) [0, 2] (by decide) rfl
  have hK := hK.sub (tys' := [(cA14, .int)]) [0] rfl
  refine lv_aload_n hx hb dX10_init_15 rfl (lv_at hl 0 rfl) ?_
  refine lv_aload_n hx hb dX10_init_16 rfl (lv_at hl 1 rfl) ?_
  refine va_putF (D := (dC, dI)) (ci := 10) (v := .ref a1) (ty := .object "RowTypes$Nodes") (C := RX10) (T := TX10) (N := 5) hx hb hw uX10 tyX10 tyX10_ok nmX10 hown hK hP hD hS 0 rfl rfl 0 (by decide) (hw _ q48) (fun _ h9 => h9) rfl hin rfl (by decide +kernel) rfl rfl (Nat.le_of_ble_eq_true rfl) dX10_init_17 (fun H locs hP hD hS => ?_)
  have hP : va_P (dC, dI) vwCl [(h0, .inr (10, [.ref a1, .ref q1, .int 0, .int 0, .int 0])), (b13, .inl (cA14, 256, .inl (fun _ => 0)))] H := hP
  have hD : va_D A [(h0, .inr (10, [.ref a1, .ref q1, .int 0, .int 0, .int 0])), (b13, .inl (cA14, 256, .inl (fun _ => 0)))] := hD
  have hP9 := hP.sub (ws' := []) [] rfl
  have hD9 := hD.sub (ws' := []) [] (by decide) rfl
  have hK9 := hK.sub (tys' := []) [] rfl
  exact W.vret hx hb hr (fun t ht hW => ⟨⟨(), rfl, trivial, by rw [ht]; exact hP9, va_K.moved hW.alike hK9, hD9⟩, hS.F ht⟩) hS.2.2 dX10_init_20
end
