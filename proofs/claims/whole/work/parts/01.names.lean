-- ===== PART A: goes FIRST, ahead of the names: the tables' words, and 'selects' of the private methods out of them =====
/-- a private method of a class that the tables say can be made, by its rows of tables_1 -/
def lw_okq (q : MethodName × Nat) : Prop := (q.1.cls ≠ "java/lang/invoke/MethodHandle" ∧ q.1.cls ≠ "java/lang/invoke/VarHandle") ∧ Cond.instantiable q.1.cls q.2 ∈ tables_1 ∧ Cond.privateMethod q.1 ∈ tables_1 ∧ Cond.instanceMethod q.1 ∈ tables_1
theorem lw_p0 : lw_okq (⟨"BoneWords", "finding", "(I)I"⟩, 8) := ⟨⟨by decide +kernel, by decide +kernel⟩, List.mem_of_getElem? (i := 15) (by decide +kernel), List.mem_of_getElem? (i := 163) (by decide +kernel), List.mem_of_getElem? (i := 164) (by decide +kernel)⟩
theorem lw_p1 : lw_okq (⟨"BoneWords", "isWriter", "(I)Z"⟩, 8) := ⟨⟨by decide +kernel, by decide +kernel⟩, List.mem_of_getElem? (i := 15) (by decide +kernel), List.mem_of_getElem? (i := 217) (by decide +kernel), List.mem_of_getElem? (i := 218) (by decide +kernel)⟩
theorem lw_p2 : lw_okq (⟨"BoneWords$Reef", "eatCatch", "(III)V"⟩, 12) := ⟨⟨by decide +kernel, by decide +kernel⟩, List.mem_of_getElem? (i := 23) (by decide +kernel), List.mem_of_getElem? (i := 290) (by decide +kernel), List.mem_of_getElem? (i := 291) (by decide +kernel)⟩
theorem lw_p3 : lw_okq (⟨"BoneWords$Reef", "keepBones", "(III)V"⟩, 12) := ⟨⟨by decide +kernel, by decide +kernel⟩, List.mem_of_getElem? (i := 23) (by decide +kernel), List.mem_of_getElem? (i := 296) (by decide +kernel), List.mem_of_getElem? (i := 297) (by decide +kernel)⟩
theorem lw_p4 : lw_okq (⟨"BoneWords$Reef", "writeLetters", "(I)V"⟩, 12) := ⟨⟨by decide +kernel, by decide +kernel⟩, List.mem_of_getElem? (i := 23) (by decide +kernel), List.mem_of_getElem? (i := 302) (by decide +kernel), List.mem_of_getElem? (i := 303) (by decide +kernel)⟩
theorem lw_p5 : lw_okq (⟨"BoneWords$Reef", "cookSoup", "()V"⟩, 12) := ⟨⟨by decide +kernel, by decide +kernel⟩, List.mem_of_getElem? (i := 23) (by decide +kernel), List.mem_of_getElem? (i := 310) (by decide +kernel), List.mem_of_getElem? (i := 311) (by decide +kernel)⟩
theorem lw_p6 : lw_okq (⟨"BoneWords", "daysUntilNone", "([II)I"⟩, 8) := ⟨⟨by decide +kernel, by decide +kernel⟩, List.mem_of_getElem? (i := 15) (by decide +kernel), List.mem_of_getElem? (i := 363) (by decide +kernel), List.mem_of_getElem? (i := 364) (by decide +kernel)⟩
theorem lw_p7 : lw_okq (⟨"BoneWords", "findingOf", "(II)I"⟩, 8) := ⟨⟨by decide +kernel, by decide +kernel⟩, List.mem_of_getElem? (i := 15) (by decide +kernel), List.mem_of_getElem? (i := 404) (by decide +kernel), List.mem_of_getElem? (i := 405) (by decide +kernel)⟩
theorem lw_p8 : lw_okq (⟨"BoneWords", "goesAsTold", "(LBoneWords$Sheet;I)Z"⟩, 8) := ⟨⟨by decide +kernel, by decide +kernel⟩, List.mem_of_getElem? (i := 15) (by decide +kernel), List.mem_of_getElem? (i := 415) (by decide +kernel), List.mem_of_getElem? (i := 416) (by decide +kernel)⟩
theorem lw_p9 : lw_okq (⟨"BoneWords$Tape", "toNextToken", "()V"⟩, 6) := ⟨⟨by decide +kernel, by decide +kernel⟩, List.mem_of_getElem? (i := 83) (by decide +kernel), List.mem_of_getElem? (i := 473) (by decide +kernel), List.mem_of_getElem? (i := 474) (by decide +kernel)⟩
theorem lw_p10 : lw_okq (⟨"BoneWords$Tape", "readItem", "(LBoneWords$Reef;)Z"⟩, 6) := ⟨⟨by decide +kernel, by decide +kernel⟩, List.mem_of_getElem? (i := 83) (by decide +kernel), List.mem_of_getElem? (i := 484) (by decide +kernel), List.mem_of_getElem? (i := 485) (by decide +kernel)⟩
theorem lw_p11 : lw_okq (⟨"BoneWords$Tape", "isName", "(Ljava/lang/String;)Z"⟩, 6) := ⟨⟨by decide +kernel, by decide +kernel⟩, List.mem_of_getElem? (i := 83) (by decide +kernel), List.mem_of_getElem? (i := 489) (by decide +kernel), List.mem_of_getElem? (i := 490) (by decide +kernel)⟩
theorem lw_p12 : lw_okq (⟨"BoneWords$Tape", "readFish", "(LBoneWords$Reef;)Z"⟩, 6) := ⟨⟨by decide +kernel, by decide +kernel⟩, List.mem_of_getElem? (i := 83) (by decide +kernel), List.mem_of_getElem? (i := 541) (by decide +kernel), List.mem_of_getElem? (i := 542) (by decide +kernel)⟩
theorem lw_p13 : lw_okq (⟨"BoneWords$Tape", "isNumber", "(I)Z"⟩, 6) := ⟨⟨by decide +kernel, by decide +kernel⟩, List.mem_of_getElem? (i := 83) (by decide +kernel), List.mem_of_getElem? (i := 545) (by decide +kernel), List.mem_of_getElem? (i := 546) (by decide +kernel)⟩
theorem lw_p14 : lw_okq (⟨"BoneWords$Tape", "takeNumber", "()I"⟩, 6) := ⟨⟨by decide +kernel, by decide +kernel⟩, List.mem_of_getElem? (i := 83) (by decide +kernel), List.mem_of_getElem? (i := 549) (by decide +kernel), List.mem_of_getElem? (i := 550) (by decide +kernel)⟩
theorem lw_p15 : lw_okq (⟨"BoneWords$Tape", "readJar", "(LBoneWords$Reef;)Z"⟩, 6) := ⟨⟨by decide +kernel, by decide +kernel⟩, List.mem_of_getElem? (i := 83) (by decide +kernel), List.mem_of_getElem? (i := 555) (by decide +kernel), List.mem_of_getElem? (i := 556) (by decide +kernel)⟩
def lw_privs_1 : List (MethodName × Nat) := [(⟨"BoneWords", "finding", "(I)I"⟩, 8), (⟨"BoneWords", "isWriter", "(I)Z"⟩, 8), (⟨"BoneWords$Reef", "eatCatch", "(III)V"⟩, 12), (⟨"BoneWords$Reef", "keepBones", "(III)V"⟩, 12), (⟨"BoneWords$Reef", "writeLetters", "(I)V"⟩, 12), (⟨"BoneWords$Reef", "cookSoup", "()V"⟩, 12), (⟨"BoneWords", "daysUntilNone", "([II)I"⟩, 8), (⟨"BoneWords", "findingOf", "(II)I"⟩, 8), (⟨"BoneWords", "goesAsTold", "(LBoneWords$Sheet;I)Z"⟩, 8), (⟨"BoneWords$Tape", "toNextToken", "()V"⟩, 6), (⟨"BoneWords$Tape", "readItem", "(LBoneWords$Reef;)Z"⟩, 6), (⟨"BoneWords$Tape", "isName", "(Ljava/lang/String;)Z"⟩, 6), (⟨"BoneWords$Tape", "readFish", "(LBoneWords$Reef;)Z"⟩, 6), (⟨"BoneWords$Tape", "isNumber", "(I)Z"⟩, 6), (⟨"BoneWords$Tape", "takeNumber", "()I"⟩, 6), (⟨"BoneWords$Tape", "readJar", "(LBoneWords$Reef;)Z"⟩, 6)]
theorem lw_r1 : ∀ q ∈ lw_privs_1, lw_okq q := List.forall_mem_cons.mpr ⟨lw_p0, List.forall_mem_cons.mpr ⟨lw_p1, List.forall_mem_cons.mpr ⟨lw_p2, List.forall_mem_cons.mpr ⟨lw_p3, List.forall_mem_cons.mpr ⟨lw_p4, List.forall_mem_cons.mpr ⟨lw_p5, List.forall_mem_cons.mpr ⟨lw_p6, List.forall_mem_cons.mpr ⟨lw_p7, List.forall_mem_cons.mpr ⟨lw_p8, List.forall_mem_cons.mpr ⟨lw_p9, List.forall_mem_cons.mpr ⟨lw_p10, List.forall_mem_cons.mpr ⟨lw_p11, List.forall_mem_cons.mpr ⟨lw_p12, List.forall_mem_cons.mpr ⟨lw_p13, List.forall_mem_cons.mpr ⟨lw_p14, List.forall_mem_cons.mpr ⟨lw_p15, fun _ h => absurd h List.not_mem_nil⟩⟩⟩⟩⟩⟩⟩⟩⟩⟩⟩⟩⟩⟩⟩⟩
theorem lw_p16 : lw_okq (⟨"BoneWords$Tape", "readWriter", "(LBoneWords$Reef;I)Z"⟩, 6) := ⟨⟨by decide +kernel, by decide +kernel⟩, List.mem_of_getElem? (i := 83) (by decide +kernel), List.mem_of_getElem? (i := 569) (by decide +kernel), List.mem_of_getElem? (i := 570) (by decide +kernel)⟩
theorem lw_p17 : lw_okq (⟨"BoneWordsModel", "becomes", "(II)I"⟩, 16) := ⟨⟨by decide +kernel, by decide +kernel⟩, List.mem_of_getElem? (i := 649) (by decide +kernel), List.mem_of_getElem? (i := 715) (by decide +kernel), List.mem_of_getElem? (i := 716) (by decide +kernel)⟩
theorem lw_p18 : lw_okq (⟨"BoneWordsModel", "finds", "(I)I"⟩, 16) := ⟨⟨by decide +kernel, by decide +kernel⟩, List.mem_of_getElem? (i := 649) (by decide +kernel), List.mem_of_getElem? (i := 720) (by decide +kernel), List.mem_of_getElem? (i := 721) (by decide +kernel)⟩
theorem lw_p19 : lw_okq (⟨"BoneWordsModel", "comes", "(II)V"⟩, 16) := ⟨⟨by decide +kernel, by decide +kernel⟩, List.mem_of_getElem? (i := 649) (by decide +kernel), List.mem_of_getElem? (i := 754) (by decide +kernel), List.mem_of_getElem? (i := 755) (by decide +kernel)⟩
theorem lw_p20 : lw_okq (⟨"BoneWordsModel", "isWriter", "(I)Z"⟩, 16) := ⟨⟨by decide +kernel, by decide +kernel⟩, List.mem_of_getElem? (i := 649) (by decide +kernel), List.mem_of_getElem? (i := 765) (by decide +kernel), List.mem_of_getElem? (i := 766) (by decide +kernel)⟩
theorem lw_p21 : lw_okq (⟨"BoneWordsModel", "eats", "(I)I"⟩, 16) := ⟨⟨by decide +kernel, by decide +kernel⟩, List.mem_of_getElem? (i := 649) (by decide +kernel), List.mem_of_getElem? (i := 770) (by decide +kernel), List.mem_of_getElem? (i := 771) (by decide +kernel)⟩
theorem lw_p22 : lw_okq (⟨"BoneWordsModel", "its", "(II)I"⟩, 16) := ⟨⟨by decide +kernel, by decide +kernel⟩, List.mem_of_getElem? (i := 649) (by decide +kernel), List.mem_of_getElem? (i := 774) (by decide +kernel), List.mem_of_getElem? (i := 775) (by decide +kernel)⟩
theorem lw_p23 : lw_okq (⟨"BoneWordsModel", "writesMost", "(I)I"⟩, 16) := ⟨⟨by decide +kernel, by decide +kernel⟩, List.mem_of_getElem? (i := 649) (by decide +kernel), List.mem_of_getElem? (i := 781) (by decide +kernel), List.mem_of_getElem? (i := 782) (by decide +kernel)⟩
theorem lw_p24 : lw_okq (⟨"BoneWordsModel", "next", "(I)I"⟩, 16) := ⟨⟨by decide +kernel, by decide +kernel⟩, List.mem_of_getElem? (i := 649) (by decide +kernel), List.mem_of_getElem? (i := 785) (by decide +kernel), List.mem_of_getElem? (i := 786) (by decide +kernel)⟩
theorem lw_p25 : lw_okq (⟨"BoneWordsModel", "spellsOf", "(I)I"⟩, 16) := ⟨⟨by decide +kernel, by decide +kernel⟩, List.mem_of_getElem? (i := 649) (by decide +kernel), List.mem_of_getElem? (i := 811) (by decide +kernel), List.mem_of_getElem? (i := 812) (by decide +kernel)⟩
theorem lw_p26 : lw_okq (⟨"BoneWordsModel", "goes", "(I)V"⟩, 16) := ⟨⟨by decide +kernel, by decide +kernel⟩, List.mem_of_getElem? (i := 649) (by decide +kernel), List.mem_of_getElem? (i := 825) (by decide +kernel), List.mem_of_getElem? (i := 826) (by decide +kernel)⟩
theorem lw_p27 : lw_okq (⟨"BoneWordsModel", "dayBut", "(I)V"⟩, 16) := ⟨⟨by decide +kernel, by decide +kernel⟩, List.mem_of_getElem? (i := 649) (by decide +kernel), List.mem_of_getElem? (i := 829) (by decide +kernel), List.mem_of_getElem? (i := 830) (by decide +kernel)⟩
theorem lw_p28 : lw_okq (⟨"BoneWordsModel", "eatsOne", "(II)V"⟩, 16) := ⟨⟨by decide +kernel, by decide +kernel⟩, List.mem_of_getElem? (i := 649) (by decide +kernel), List.mem_of_getElem? (i := 833) (by decide +kernel), List.mem_of_getElem? (i := 834) (by decide +kernel)⟩
theorem lw_p29 : lw_okq (⟨"BoneWordsModel", "writesOne", "(I)V"⟩, 16) := ⟨⟨by decide +kernel, by decide +kernel⟩, List.mem_of_getElem? (i := 649) (by decide +kernel), List.mem_of_getElem? (i := 837) (by decide +kernel), List.mem_of_getElem? (i := 838) (by decide +kernel)⟩
theorem lw_p30 : lw_okq (⟨"BoneWordsModel", "sumOf", "(I)I"⟩, 16) := ⟨⟨by decide +kernel, by decide +kernel⟩, List.mem_of_getElem? (i := 649) (by decide +kernel), List.mem_of_getElem? (i := 841) (by decide +kernel), List.mem_of_getElem? (i := 842) (by decide +kernel)⟩
theorem lw_p31 : lw_okq (⟨"BoneWordsModel", "jarAll", "()I"⟩, 16) := ⟨⟨by decide +kernel, by decide +kernel⟩, List.mem_of_getElem? (i := 649) (by decide +kernel), List.mem_of_getElem? (i := 849) (by decide +kernel), List.mem_of_getElem? (i := 850) (by decide +kernel)⟩
def lw_privs_2 : List (MethodName × Nat) := [(⟨"BoneWords$Tape", "readWriter", "(LBoneWords$Reef;I)Z"⟩, 6), (⟨"BoneWordsModel", "becomes", "(II)I"⟩, 16), (⟨"BoneWordsModel", "finds", "(I)I"⟩, 16), (⟨"BoneWordsModel", "comes", "(II)V"⟩, 16), (⟨"BoneWordsModel", "isWriter", "(I)Z"⟩, 16), (⟨"BoneWordsModel", "eats", "(I)I"⟩, 16), (⟨"BoneWordsModel", "its", "(II)I"⟩, 16), (⟨"BoneWordsModel", "writesMost", "(I)I"⟩, 16), (⟨"BoneWordsModel", "next", "(I)I"⟩, 16), (⟨"BoneWordsModel", "spellsOf", "(I)I"⟩, 16), (⟨"BoneWordsModel", "goes", "(I)V"⟩, 16), (⟨"BoneWordsModel", "dayBut", "(I)V"⟩, 16), (⟨"BoneWordsModel", "eatsOne", "(II)V"⟩, 16), (⟨"BoneWordsModel", "writesOne", "(I)V"⟩, 16), (⟨"BoneWordsModel", "sumOf", "(I)I"⟩, 16), (⟨"BoneWordsModel", "jarAll", "()I"⟩, 16)]
theorem lw_r2 : ∀ q ∈ lw_privs_2, lw_okq q := List.forall_mem_cons.mpr ⟨lw_p16, List.forall_mem_cons.mpr ⟨lw_p17, List.forall_mem_cons.mpr ⟨lw_p18, List.forall_mem_cons.mpr ⟨lw_p19, List.forall_mem_cons.mpr ⟨lw_p20, List.forall_mem_cons.mpr ⟨lw_p21, List.forall_mem_cons.mpr ⟨lw_p22, List.forall_mem_cons.mpr ⟨lw_p23, List.forall_mem_cons.mpr ⟨lw_p24, List.forall_mem_cons.mpr ⟨lw_p25, List.forall_mem_cons.mpr ⟨lw_p26, List.forall_mem_cons.mpr ⟨lw_p27, List.forall_mem_cons.mpr ⟨lw_p28, List.forall_mem_cons.mpr ⟨lw_p29, List.forall_mem_cons.mpr ⟨lw_p30, List.forall_mem_cons.mpr ⟨lw_p31, fun _ h => absurd h List.not_mem_nil⟩⟩⟩⟩⟩⟩⟩⟩⟩⟩⟩⟩⟩⟩⟩⟩
theorem lw_p32 : lw_okq (⟨"BoneWordsModel", "waiting", "()I"⟩, 16) := ⟨⟨by decide +kernel, by decide +kernel⟩, List.mem_of_getElem? (i := 649) (by decide +kernel), List.mem_of_getElem? (i := 853) (by decide +kernel), List.mem_of_getElem? (i := 854) (by decide +kernel)⟩
theorem lw_p33 : lw_okq (⟨"BoneWordsModel", "lacking", "()I"⟩, 16) := ⟨⟨by decide +kernel, by decide +kernel⟩, List.mem_of_getElem? (i := 649) (by decide +kernel), List.mem_of_getElem? (i := 857) (by decide +kernel), List.mem_of_getElem? (i := 858) (by decide +kernel)⟩
theorem lw_p34 : lw_okq (⟨"BoneWordsModel", "thin", "()I"⟩, 16) := ⟨⟨by decide +kernel, by decide +kernel⟩, List.mem_of_getElem? (i := 649) (by decide +kernel), List.mem_of_getElem? (i := 861) (by decide +kernel), List.mem_of_getElem? (i := 862) (by decide +kernel)⟩
theorem lw_p35 : lw_okq (⟨"BoneWordsModel", "thenAt", "(II)I"⟩, 16) := ⟨⟨by decide +kernel, by decide +kernel⟩, List.mem_of_getElem? (i := 649) (by decide +kernel), List.mem_of_getElem? (i := 870) (by decide +kernel), List.mem_of_getElem? (i := 871) (by decide +kernel)⟩
theorem lw_p36 : lw_okq (⟨"BoneWordsModel", "whenNone", "(I)I"⟩, 16) := ⟨⟨by decide +kernel, by decide +kernel⟩, List.mem_of_getElem? (i := 649) (by decide +kernel), List.mem_of_getElem? (i := 890) (by decide +kernel), List.mem_of_getElem? (i := 891) (by decide +kernel)⟩
theorem lw_p37 : lw_okq (⟨"BoneWordsModel", "orNone", "(I)I"⟩, 16) := ⟨⟨by decide +kernel, by decide +kernel⟩, List.mem_of_getElem? (i := 649) (by decide +kernel), List.mem_of_getElem? (i := 907) (by decide +kernel), List.mem_of_getElem? (i := 908) (by decide +kernel)⟩
theorem lw_p38 : lw_okq (⟨"BoneWordsModel", "isAsked", "(II)Z"⟩, 16) := ⟨⟨by decide +kernel, by decide +kernel⟩, List.mem_of_getElem? (i := 649) (by decide +kernel), List.mem_of_getElem? (i := 915) (by decide +kernel), List.mem_of_getElem? (i := 916) (by decide +kernel)⟩
theorem lw_p39 : lw_okq (⟨"BoneWordsModel", "wordWith", "(II)I"⟩, 16) := ⟨⟨by decide +kernel, by decide +kernel⟩, List.mem_of_getElem? (i := 649) (by decide +kernel), List.mem_of_getElem? (i := 919) (by decide +kernel), List.mem_of_getElem? (i := 920) (by decide +kernel)⟩
theorem lw_p40 : lw_okq (⟨"BoneWordsModel", "wantsFor", "(II)I"⟩, 16) := ⟨⟨by decide +kernel, by decide +kernel⟩, List.mem_of_getElem? (i := 649) (by decide +kernel), List.mem_of_getElem? (i := 939) (by decide +kernel), List.mem_of_getElem? (i := 940) (by decide +kernel)⟩
theorem lw_p41 : lw_okq (⟨"BoneWordsModel", "wants", "(I)I"⟩, 16) := ⟨⟨by decide +kernel, by decide +kernel⟩, List.mem_of_getElem? (i := 649) (by decide +kernel), List.mem_of_getElem? (i := 943) (by decide +kernel), List.mem_of_getElem? (i := 944) (by decide +kernel)⟩
theorem lw_p42 : lw_okq (⟨"BoneWordsModel", "isTold", "(II)Z"⟩, 16) := ⟨⟨by decide +kernel, by decide +kernel⟩, List.mem_of_getElem? (i := 649) (by decide +kernel), List.mem_of_getElem? (i := 951) (by decide +kernel), List.mem_of_getElem? (i := 952) (by decide +kernel)⟩
theorem lw_p43 : lw_okq (⟨"BoneWordsModel", "draw", "()I"⟩, 16) := ⟨⟨by decide +kernel, by decide +kernel⟩, List.mem_of_getElem? (i := 649) (by decide +kernel), List.mem_of_getElem? (i := 968) (by decide +kernel), List.mem_of_getElem? (i := 969) (by decide +kernel)⟩
theorem lw_p44 : lw_okq (⟨"BoneWordsModel", "nextToken", "()V"⟩, 16) := ⟨⟨by decide +kernel, by decide +kernel⟩, List.mem_of_getElem? (i := 649) (by decide +kernel), List.mem_of_getElem? (i := 993) (by decide +kernel), List.mem_of_getElem? (i := 994) (by decide +kernel)⟩
theorem lw_p45 : lw_okq (⟨"BoneWordsModel", "byteAt", "(I)I"⟩, 16) := ⟨⟨by decide +kernel, by decide +kernel⟩, List.mem_of_getElem? (i := 649) (by decide +kernel), List.mem_of_getElem? (i := 997) (by decide +kernel), List.mem_of_getElem? (i := 998) (by decide +kernel)⟩
theorem lw_p46 : lw_okq (⟨"BoneWordsModel", "itemHere", "()Z"⟩, 16) := ⟨⟨by decide +kernel, by decide +kernel⟩, List.mem_of_getElem? (i := 649) (by decide +kernel), List.mem_of_getElem? (i := 1007) (by decide +kernel), List.mem_of_getElem? (i := 1008) (by decide +kernel)⟩
theorem lw_p47 : lw_okq (⟨"BoneWordsModel", "kindHere", "()I"⟩, 16) := ⟨⟨by decide +kernel, by decide +kernel⟩, List.mem_of_getElem? (i := 649) (by decide +kernel), List.mem_of_getElem? (i := 1011) (by decide +kernel), List.mem_of_getElem? (i := 1012) (by decide +kernel)⟩
def lw_privs_3 : List (MethodName × Nat) := [(⟨"BoneWordsModel", "waiting", "()I"⟩, 16), (⟨"BoneWordsModel", "lacking", "()I"⟩, 16), (⟨"BoneWordsModel", "thin", "()I"⟩, 16), (⟨"BoneWordsModel", "thenAt", "(II)I"⟩, 16), (⟨"BoneWordsModel", "whenNone", "(I)I"⟩, 16), (⟨"BoneWordsModel", "orNone", "(I)I"⟩, 16), (⟨"BoneWordsModel", "isAsked", "(II)Z"⟩, 16), (⟨"BoneWordsModel", "wordWith", "(II)I"⟩, 16), (⟨"BoneWordsModel", "wantsFor", "(II)I"⟩, 16), (⟨"BoneWordsModel", "wants", "(I)I"⟩, 16), (⟨"BoneWordsModel", "isTold", "(II)Z"⟩, 16), (⟨"BoneWordsModel", "draw", "()I"⟩, 16), (⟨"BoneWordsModel", "nextToken", "()V"⟩, 16), (⟨"BoneWordsModel", "byteAt", "(I)I"⟩, 16), (⟨"BoneWordsModel", "itemHere", "()Z"⟩, 16), (⟨"BoneWordsModel", "kindHere", "()I"⟩, 16)]
theorem lw_r3 : ∀ q ∈ lw_privs_3, lw_okq q := List.forall_mem_cons.mpr ⟨lw_p32, List.forall_mem_cons.mpr ⟨lw_p33, List.forall_mem_cons.mpr ⟨lw_p34, List.forall_mem_cons.mpr ⟨lw_p35, List.forall_mem_cons.mpr ⟨lw_p36, List.forall_mem_cons.mpr ⟨lw_p37, List.forall_mem_cons.mpr ⟨lw_p38, List.forall_mem_cons.mpr ⟨lw_p39, List.forall_mem_cons.mpr ⟨lw_p40, List.forall_mem_cons.mpr ⟨lw_p41, List.forall_mem_cons.mpr ⟨lw_p42, List.forall_mem_cons.mpr ⟨lw_p43, List.forall_mem_cons.mpr ⟨lw_p44, List.forall_mem_cons.mpr ⟨lw_p45, List.forall_mem_cons.mpr ⟨lw_p46, List.forall_mem_cons.mpr ⟨lw_p47, fun _ h => absurd h List.not_mem_nil⟩⟩⟩⟩⟩⟩⟩⟩⟩⟩⟩⟩⟩⟩⟩⟩
theorem lw_p48 : lw_okq (⟨"BoneWordsModel", "isSix", "(IIIIII)Z"⟩, 16) := ⟨⟨by decide +kernel, by decide +kernel⟩, List.mem_of_getElem? (i := 649) (by decide +kernel), List.mem_of_getElem? (i := 1015) (by decide +kernel), List.mem_of_getElem? (i := 1016) (by decide +kernel)⟩
theorem lw_p49 : lw_okq (⟨"BoneWordsModel", "isWord", "(I)Z"⟩, 16) := ⟨⟨by decide +kernel, by decide +kernel⟩, List.mem_of_getElem? (i := 649) (by decide +kernel), List.mem_of_getElem? (i := 1019) (by decide +kernel), List.mem_of_getElem? (i := 1020) (by decide +kernel)⟩
theorem lw_p50 : lw_okq (⟨"BoneWordsModel", "has3", "(IIII)Z"⟩, 16) := ⟨⟨by decide +kernel, by decide +kernel⟩, List.mem_of_getElem? (i := 649) (by decide +kernel), List.mem_of_getElem? (i := 1023) (by decide +kernel), List.mem_of_getElem? (i := 1024) (by decide +kernel)⟩
theorem lw_p51 : lw_okq (⟨"BoneWordsModel", "isFour", "(IIII)Z"⟩, 16) := ⟨⟨by decide +kernel, by decide +kernel⟩, List.mem_of_getElem? (i := 649) (by decide +kernel), List.mem_of_getElem? (i := 1027) (by decide +kernel), List.mem_of_getElem? (i := 1028) (by decide +kernel)⟩
theorem lw_p52 : lw_okq (⟨"BoneWordsModel", "isFive", "(IIIII)Z"⟩, 16) := ⟨⟨by decide +kernel, by decide +kernel⟩, List.mem_of_getElem? (i := 649) (by decide +kernel), List.mem_of_getElem? (i := 1031) (by decide +kernel), List.mem_of_getElem? (i := 1032) (by decide +kernel)⟩
theorem lw_p53 : lw_okq (⟨"BoneWordsModel", "writerHere", "(I)Z"⟩, 16) := ⟨⟨by decide +kernel, by decide +kernel⟩, List.mem_of_getElem? (i := 649) (by decide +kernel), List.mem_of_getElem? (i := 1035) (by decide +kernel), List.mem_of_getElem? (i := 1036) (by decide +kernel)⟩
theorem lw_p54 : lw_okq (⟨"BoneWordsModel", "fails", "()Z"⟩, 16) := ⟨⟨by decide +kernel, by decide +kernel⟩, List.mem_of_getElem? (i := 649) (by decide +kernel), List.mem_of_getElem? (i := 1039) (by decide +kernel), List.mem_of_getElem? (i := 1040) (by decide +kernel)⟩
theorem lw_p55 : lw_okq (⟨"BoneWordsModel", "perhaps", "(ZII)Z"⟩, 16) := ⟨⟨by decide +kernel, by decide +kernel⟩, List.mem_of_getElem? (i := 649) (by decide +kernel), List.mem_of_getElem? (i := 1043) (by decide +kernel), List.mem_of_getElem? (i := 1044) (by decide +kernel)⟩
theorem lw_p56 : lw_okq (⟨"BoneWordsModel", "isNumber", "(II)Z"⟩, 16) := ⟨⟨by decide +kernel, by decide +kernel⟩, List.mem_of_getElem? (i := 649) (by decide +kernel), List.mem_of_getElem? (i := 1047) (by decide +kernel), List.mem_of_getElem? (i := 1048) (by decide +kernel)⟩
theorem lw_p57 : lw_okq (⟨"BoneWordsModel", "fishHere", "()Z"⟩, 16) := ⟨⟨by decide +kernel, by decide +kernel⟩, List.mem_of_getElem? (i := 649) (by decide +kernel), List.mem_of_getElem? (i := 1051) (by decide +kernel), List.mem_of_getElem? (i := 1052) (by decide +kernel)⟩
theorem lw_p58 : lw_okq (⟨"BoneWordsModel", "jarHere", "()Z"⟩, 16) := ⟨⟨by decide +kernel, by decide +kernel⟩, List.mem_of_getElem? (i := 649) (by decide +kernel), List.mem_of_getElem? (i := 1055) (by decide +kernel), List.mem_of_getElem? (i := 1056) (by decide +kernel)⟩
def lw_privs_4 : List (MethodName × Nat) := [(⟨"BoneWordsModel", "isSix", "(IIIIII)Z"⟩, 16), (⟨"BoneWordsModel", "isWord", "(I)Z"⟩, 16), (⟨"BoneWordsModel", "has3", "(IIII)Z"⟩, 16), (⟨"BoneWordsModel", "isFour", "(IIII)Z"⟩, 16), (⟨"BoneWordsModel", "isFive", "(IIIII)Z"⟩, 16), (⟨"BoneWordsModel", "writerHere", "(I)Z"⟩, 16), (⟨"BoneWordsModel", "fails", "()Z"⟩, 16), (⟨"BoneWordsModel", "perhaps", "(ZII)Z"⟩, 16), (⟨"BoneWordsModel", "isNumber", "(II)Z"⟩, 16), (⟨"BoneWordsModel", "fishHere", "()Z"⟩, 16), (⟨"BoneWordsModel", "jarHere", "()Z"⟩, 16)]
theorem lw_r4 : ∀ q ∈ lw_privs_4, lw_okq q := List.forall_mem_cons.mpr ⟨lw_p48, List.forall_mem_cons.mpr ⟨lw_p49, List.forall_mem_cons.mpr ⟨lw_p50, List.forall_mem_cons.mpr ⟨lw_p51, List.forall_mem_cons.mpr ⟨lw_p52, List.forall_mem_cons.mpr ⟨lw_p53, List.forall_mem_cons.mpr ⟨lw_p54, List.forall_mem_cons.mpr ⟨lw_p55, List.forall_mem_cons.mpr ⟨lw_p56, List.forall_mem_cons.mpr ⟨lw_p57, List.forall_mem_cons.mpr ⟨lw_p58, fun _ h => absurd h List.not_mem_nil⟩⟩⟩⟩⟩⟩⟩⟩⟩⟩⟩
def lw_privs : List (MethodName × Nat) := lw_privs_1 ++ (lw_privs_2 ++ (lw_privs_3 ++ (lw_privs_4)))
def lw_tbl : List Cond := k2_sels lw_privs ++ tables_1
theorem lw_privs_ok : ∀ q ∈ lw_privs, lw_okq q := by
  show ∀ q ∈ lw_privs_1 ++ (lw_privs_2 ++ (lw_privs_3 ++ (lw_privs_4))), lw_okq q
  exact List.forall_mem_append.mpr ⟨lw_r1, List.forall_mem_append.mpr ⟨lw_r2, List.forall_mem_append.mpr ⟨lw_r3, lw_r4⟩⟩⟩

def RX0 : String := "BoneWords$Kinds"
def TX0 : u_T := fun k => match k with
  | _ => ("", "", "", false)
def tyX0 : Nat → FieldType := fun k => match k with
  | _ => .int
abbrev wsX00 : List Cond := u_ws RX0 TX0 0
theorem nmX0 : ∀ a, a < 0 → ∀ b, b < 0 → a ≠ b → (TX0 a).2.1 ≠ (TX0 b).2.1 := by decide +kernel
theorem tyX0_ok : ∀ k, k < 0 → parseFieldDescriptor (TX0 k).2.2.1 = some (tyX0 k) := by decide +kernel
abbrev cX0_isKind : ByteArray := prog_2_method_2_code
def yX0_isKind : MethodName := ⟨RX0, "isKind", "(I)Z"⟩
abbrev cX0_isUnder : ByteArray := prog_2_method_3_code
def yX0_isUnder : MethodName := ⟨RX0, "isUnder", "(II)Z"⟩
abbrev cX0_eats : ByteArray := prog_2_method_4_code
def yX0_eats : MethodName := ⟨RX0, "eats", "(III)I"⟩
abbrev cX0_poetEats : ByteArray := prog_2_method_5_code
def yX0_poetEats : MethodName := ⟨RX0, "poetEats", "(I)I"⟩
abbrev cX0_writes : ByteArray := prog_2_method_6_code
def yX0_writes : MethodName := ⟨RX0, "writes", "(II)I"⟩
abbrev cX0_isKept : ByteArray := prog_2_method_7_code
def yX0_isKept : MethodName := ⟨RX0, "isKept", "(III)Z"⟩
abbrev cX0_nameOf : ByteArray := prog_2_method_8_code
def yX0_nameOf : MethodName := ⟨RX0, "nameOf", "(I)Ljava/lang/String;"⟩
def RX1 : String := "BoneWords$Reef"
def TX1 : u_T := fun k => match k with
  | 0 => ("BoneWords$Reef", "jar", "[I", true)
  | 1 => ("BoneWords$Reef", "bonesOf", "[I", true)
  | 2 => ("BoneWords$Reef", "catchOf", "[I", true)
  | 3 => ("BoneWords$Reef", "kind", "[I", true)
  | 4 => ("BoneWords$Reef", "word", "[I", true)
  | 5 => ("BoneWords$Reef", "at", "[I", true)
  | 6 => ("BoneWords$Reef", "fat", "[I", true)
  | 7 => ("BoneWords$Reef", "written", "[I", true)
  | 8 => ("BoneWords$Reef", "spots", "[I", true)
  | 9 => ("BoneWords$Reef", "writers", "I", false)
  | 10 => ("BoneWords$Reef", "day", "I", false)
  | _ => ("BoneWords$Reef", "z", "I", false)
def tyX1 : Nat → FieldType := fun k => match k with
  | 0 => .array .int
  | 1 => .array .int
  | 2 => .array .int
  | 3 => .array .int
  | 4 => .array .int
  | 5 => .array .int
  | 6 => .array .int
  | 7 => .array .int
  | 8 => .array .int
  | 9 => .int
  | 10 => .int
  | _ => .int
abbrev wsX10 : List Cond := u_ws RX1 TX1 12
theorem nmX1 : ∀ a, a < 12 → ∀ b, b < 12 → a ≠ b → (TX1 a).2.1 ≠ (TX1 b).2.1 := by decide +kernel
theorem tyX1_ok : ∀ k, k < 12 → parseFieldDescriptor (TX1 k).2.2.1 = some (tyX1 k) := by decide +kernel
abbrev cX1_init : ByteArray := prog_3_method_1_code
def yX1_init : MethodName := ⟨RX1, "<init>", "()V"⟩
abbrev cX1_become : ByteArray := prog_3_method_2_code
def yX1_become : MethodName := ⟨RX1, "become", "(LBoneWords$Reef;)V"⟩
abbrev cX1_isFull : ByteArray := prog_3_method_3_code
def yX1_isFull : MethodName := ⟨RX1, "isFull", "()Z"⟩
abbrev cX1_addWriter : ByteArray := prog_3_method_4_code
def yX1_addWriter : MethodName := ⟨RX1, "addWriter", "(III)I"⟩
abbrev cX1_row : ByteArray := prog_3_method_5_code
def yX1_row : MethodName := ⟨RX1, "row", "(I)[I"⟩
abbrev cX1_eats : ByteArray := prog_3_method_6_code
def yX1_eats : MethodName := ⟨RX1, "eats", "(I)I"⟩
abbrev cX1_writes : ByteArray := prog_3_method_7_code
def yX1_writes : MethodName := ⟨RX1, "writes", "(I)I"⟩
abbrev cX1_nextLetter : ByteArray := prog_3_method_8_code
def yX1_nextLetter : MethodName := ⟨RX1, "nextLetter", "(I)I"⟩
abbrev cX1_putNextLetter : ByteArray := prog_3_method_9_code
def yX1_putNextLetter : MethodName := ⟨RX1, "putNextLetter", "(II)V"⟩
abbrev cX1_draw : ByteArray := prog_3_method_10_code
def yX1_draw : MethodName := ⟨RX1, "draw", "()I"⟩
abbrev cX1_passDays : ByteArray := prog_3_method_11_code
def yX1_passDays : MethodName := ⟨RX1, "passDays", "(II)V"⟩
abbrev cX1_dayGoesBy : ByteArray := prog_3_method_12_code
def yX1_dayGoesBy : MethodName := ⟨RX1, "dayGoesBy", "(I)V"⟩
abbrev cX1_eatCatch : ByteArray := prog_3_method_13_code
def yX1_eatCatch : MethodName := ⟨RX1, "eatCatch", "(III)V"⟩
abbrev cX1_keepBones : ByteArray := prog_3_method_14_code
def yX1_keepBones : MethodName := ⟨RX1, "keepBones", "(III)V"⟩
abbrev cX1_writeLetters : ByteArray := prog_3_method_15_code
def yX1_writeLetters : MethodName := ⟨RX1, "writeLetters", "(I)V"⟩
abbrev cX1_cookSoup : ByteArray := prog_3_method_16_code
def yX1_cookSoup : MethodName := ⟨RX1, "cookSoup", "()V"⟩
abbrev cX1_sumOf : ByteArray := prog_3_method_17_code
def yX1_sumOf : MethodName := ⟨RX1, "sumOf", "(I)I"⟩
abbrev cX1_lettersInJar : ByteArray := prog_3_method_18_code
def yX1_lettersInJar : MethodName := ⟨RX1, "lettersInJar", "()I"⟩
abbrev cX1_writersWhoWait : ByteArray := prog_3_method_19_code
def yX1_writersWhoWait : MethodName := ⟨RX1, "writersWhoWait", "()I"⟩
abbrev cX1_lettersLacking : ByteArray := prog_3_method_20_code
def yX1_lettersLacking : MethodName := ⟨RX1, "lettersLacking", "()I"⟩
abbrev cX1_writersWhoStarve : ByteArray := prog_3_method_21_code
def yX1_writersWhoStarve : MethodName := ⟨RX1, "writersWhoStarve", "()I"⟩
abbrev cX1_spotsHeld : ByteArray := prog_3_method_22_code
def yX1_spotsHeld : MethodName := ⟨RX1, "spotsHeld", "()I"⟩
def RX2 : String := "BoneWords$Sheet"
def TX2 : u_T := fun k => match k with
  | 0 => ("BoneWords$Sheet", "row", "[I", true)
  | 1 => ("BoneWords$Sheet", "size", "I", false)
  | _ => ("BoneWords$Sheet", "bits", "I", false)
def tyX2 : Nat → FieldType := fun k => match k with
  | 0 => .array .int
  | 1 => .int
  | _ => .int
abbrev wsX20 : List Cond := u_ws RX2 TX2 3
theorem nmX2 : ∀ a, a < 3 → ∀ b, b < 3 → a ≠ b → (TX2 a).2.1 ≠ (TX2 b).2.1 := by decide +kernel
theorem tyX2_ok : ∀ k, k < 3 → parseFieldDescriptor (TX2 k).2.2.1 = some (tyX2 k) := by decide +kernel
abbrev cX2_init : ByteArray := prog_4_method_1_code
def yX2_init : MethodName := ⟨RX2, "<init>", "()V"⟩
abbrev cX2_isMissing : ByteArray := prog_4_method_2_code
def yX2_isMissing : MethodName := ⟨RX2, "isMissing", "()Z"⟩
abbrev cX2_begin : ByteArray := prog_4_method_3_code
def yX2_begin : MethodName := ⟨RX2, "begin", "(II)V"⟩
abbrev cX2_lowestBits : ByteArray := prog_4_method_4_code
def yX2_lowestBits : MethodName := ⟨RX2, "lowestBits", "(I)I"⟩
abbrev cX2_has : ByteArray := prog_4_method_5_code
def yX2_has : MethodName := ⟨RX2, "has", "(II)Z"⟩
def RX3 : String := "BoneWords$Tape"
def TX3 : u_T := fun k => match k with
  | 0 => ("BoneWords$Tape", "bytes", "[I", true)
  | 1 => ("BoneWords$Tape", "size", "I", false)
  | 2 => ("BoneWords$Tape", "token", "I", false)
  | 3 => ("BoneWords$Tape", "place", "I", false)
  | 4 => ("BoneWords$Tape", "next", "I", false)
  | _ => ("BoneWords$Tape", "value", "I", false)
def tyX3 : Nat → FieldType := fun k => match k with
  | 0 => .array .int
  | 1 => .int
  | 2 => .int
  | 3 => .int
  | 4 => .int
  | _ => .int
abbrev wsX30 : List Cond := u_ws RX3 TX3 6
theorem nmX3 : ∀ a, a < 6 → ∀ b, b < 6 → a ≠ b → (TX3 a).2.1 ≠ (TX3 b).2.1 := by decide +kernel
theorem tyX3_ok : ∀ k, k < 6 → parseFieldDescriptor (TX3 k).2.2.1 = some (tyX3 k) := by decide +kernel
abbrev cX3_init : ByteArray := prog_5_method_1_code
def yX3_init : MethodName := ⟨RX3, "<init>", "()V"⟩
abbrev cX3_add : ByteArray := prog_5_method_2_code
def yX3_add : MethodName := ⟨RX3, "add", "(I)V"⟩
abbrev cX3_readInto : ByteArray := prog_5_method_3_code
def yX3_readInto : MethodName := ⟨RX3, "readInto", "(LBoneWords$Reef;)I"⟩
abbrev cX3_readItem : ByteArray := prog_5_method_4_code
def yX3_readItem : MethodName := ⟨RX3, "readItem", "(LBoneWords$Reef;)Z"⟩
abbrev cX3_readWriter : ByteArray := prog_5_method_5_code
def yX3_readWriter : MethodName := ⟨RX3, "readWriter", "(LBoneWords$Reef;I)Z"⟩
abbrev cX3_readFish : ByteArray := prog_5_method_6_code
def yX3_readFish : MethodName := ⟨RX3, "readFish", "(LBoneWords$Reef;)Z"⟩
abbrev cX3_readJar : ByteArray := prog_5_method_7_code
def yX3_readJar : MethodName := ⟨RX3, "readJar", "(LBoneWords$Reef;)Z"⟩
abbrev cX3_isName : ByteArray := prog_5_method_8_code
def yX3_isName : MethodName := ⟨RX3, "isName", "(Ljava/lang/String;)Z"⟩
abbrev cX3_isNumber : ByteArray := prog_5_method_9_code
def yX3_isNumber : MethodName := ⟨RX3, "isNumber", "(I)Z"⟩
abbrev cX3_takeNumber : ByteArray := prog_5_method_10_code
def yX3_takeNumber : MethodName := ⟨RX3, "takeNumber", "()I"⟩
abbrev cX3_toNextToken : ByteArray := prog_5_method_11_code
def yX3_toNextToken : MethodName := ⟨RX3, "toNextToken", "()V"⟩
abbrev cX3_isSmallLetter : ByteArray := prog_5_method_12_code
def yX3_isSmallLetter : MethodName := ⟨RX3, "isSmallLetter", "(I)Z"⟩
abbrev cX3_isDigit : ByteArray := prog_5_method_13_code
def yX3_isDigit : MethodName := ⟨RX3, "isDigit", "(I)Z"⟩
def RX4 : String := "BoneWords"
def TX4 : u_T := fun k => match k with
  | 0 => ("BoneWords", "reef", "LBoneWords$Reef;", true)
  | 1 => ("BoneWords", "trial", "LBoneWords$Reef;", true)
  | 2 => ("BoneWords", "kept", "LBoneWords$Reef;", true)
  | 3 => ("BoneWords", "isKept", "Z", false)
  | 4 => ("BoneWords", "sheets", "[LBoneWords$Sheet;", true)
  | 5 => ("BoneWords", "tape", "LBoneWords$Tape;", true)
  | 6 => ("BoneWords", "found", "[I", true)
  | _ => ("BoneWords", "rows", "[J", true)
def tyX4 : Nat → FieldType := fun k => match k with
  | 0 => .object "BoneWords$Reef"
  | 1 => .object "BoneWords$Reef"
  | 2 => .object "BoneWords$Reef"
  | 3 => .boolean
  | 4 => .array (.object "BoneWords$Sheet")
  | 5 => .object "BoneWords$Tape"
  | 6 => .array .int
  | _ => .array .long
abbrev wsX40 : List Cond := u_ws RX4 TX4 8
theorem nmX4 : ∀ a, a < 8 → ∀ b, b < 8 → a ≠ b → (TX4 a).2.1 ≠ (TX4 b).2.1 := by decide +kernel
theorem tyX4_ok : ∀ k, k < 8 → parseFieldDescriptor (TX4 k).2.2.1 = some (tyX4 k) := by decide +kernel
abbrev cX4_init : ByteArray := prog_1_method_1_code
def yX4_init : MethodName := ⟨RX4, "<init>", "()V"⟩
abbrev cX4_jar : ByteArray := prog_1_method_2_code
def yX4_jar : MethodName := ⟨RX4, "jar", "(II)I"⟩
abbrev cX4_bones : ByteArray := prog_1_method_3_code
def yX4_bones : MethodName := ⟨RX4, "bones", "(I)I"⟩
abbrev cX4_fish : ByteArray := prog_1_method_4_code
def yX4_fish : MethodName := ⟨RX4, "fish", "(III)I"⟩
abbrev cX4_fishOf : ByteArray := prog_1_method_5_code
def yX4_fishOf : MethodName := ⟨RX4, "fishOf", "(II)I"⟩
abbrev cX4_writer : ByteArray := prog_1_method_6_code
def yX4_writer : MethodName := ⟨RX4, "writer", "(II)I"⟩
abbrev cX4_of : ByteArray := prog_1_method_7_code
def yX4_of : MethodName := ⟨RX4, "of", "(II)I"⟩
abbrev cX4_change : ByteArray := prog_1_method_8_code
def yX4_change : MethodName := ⟨RX4, "change", "(III)I"⟩
abbrev cX4_keeps : ByteArray := prog_1_method_9_code
def yX4_keeps : MethodName := ⟨RX4, "keeps", "(II)I"⟩
abbrev cX4_spells : ByteArray := prog_1_method_10_code
def yX4_spells : MethodName := ⟨RX4, "spells", "(I)I"⟩
abbrev cX4_go : ByteArray := prog_1_method_11_code
def yX4_go : MethodName := ⟨RX4, "go", "(I)I"⟩
abbrev cX4_now : ByteArray := prog_1_method_12_code
def yX4_now : MethodName := ⟨RX4, "now", "(I)I"⟩
abbrev cX4_ahead : ByteArray := prog_1_method_13_code
def yX4_ahead : MethodName := ⟨RX4, "ahead", "(III)I"⟩
abbrev cX4_later : ByteArray := prog_1_method_14_code
def yX4_later : MethodName := ⟨RX4, "later", "(II)I"⟩
abbrev cX4_when : ByteArray := prog_1_method_15_code
def yX4_when : MethodName := ⟨RX4, "when", "(II)I"⟩
abbrev cX4_starves : ByteArray := prog_1_method_16_code
def yX4_starves : MethodName := ⟨RX4, "starves", "(I)I"⟩
abbrev cX4_out : ByteArray := prog_1_method_17_code
def yX4_out : MethodName := ⟨RX4, "out", "(I)I"⟩
abbrev cX4_daysUntilNone : ByteArray := prog_1_method_18_code
def yX4_daysUntilNone : MethodName := ⟨RX4, "daysUntilNone", "([II)I"⟩
abbrev cX4_catchFor : ByteArray := prog_1_method_19_code
def yX4_catchFor : MethodName := ⟨RX4, "catchFor", "(I)I"⟩
abbrev cX4_fewest : ByteArray := prog_1_method_20_code
def yX4_fewest : MethodName := ⟨RX4, "fewest", "(IIII)I"⟩
abbrev cX4_letterFor : ByteArray := prog_1_method_21_code
def yX4_letterFor : MethodName := ⟨RX4, "letterFor", "(II)I"⟩
abbrev cX4_kindFor : ByteArray := prog_1_method_22_code
def yX4_kindFor : MethodName := ⟨RX4, "kindFor", "(II)I"⟩
abbrev cX4_away : ByteArray := prog_1_method_23_code
def yX4_away : MethodName := ⟨RX4, "away", "(III)I"⟩
abbrev cX4_bonesFor : ByteArray := prog_1_method_24_code
def yX4_bonesFor : MethodName := ⟨RX4, "bonesFor", "(II)I"⟩
abbrev cX4_fits : ByteArray := prog_1_method_25_code
def yX4_fits : MethodName := ⟨RX4, "fits", "(II)I"⟩
abbrev cX4_kinds : ByteArray := prog_1_method_26_code
def yX4_kinds : MethodName := ⟨RX4, "kinds", "(II)I"⟩
abbrev cX4_findingOf : ByteArray := prog_1_method_27_code
def yX4_findingOf : MethodName := ⟨RX4, "findingOf", "(II)I"⟩
abbrev cX4_goesAsTold : ByteArray := prog_1_method_28_code
def yX4_goesAsTold : MethodName := ⟨RX4, "goesAsTold", "(LBoneWords$Sheet;I)Z"⟩
abbrev cX4_texts : ByteArray := prog_1_method_29_code
def yX4_texts : MethodName := ⟨RX4, "texts", "(I)I"⟩
abbrev cX4_choices : ByteArray := prog_1_method_30_code
def yX4_choices : MethodName := ⟨RX4, "choices", "(II)J"⟩
abbrev cX4_catches : ByteArray := prog_1_method_31_code
def yX4_catches : MethodName := ⟨RX4, "catches", "(I)I"⟩
abbrev cX4_odds : ByteArray := prog_1_method_32_code
def yX4_odds : MethodName := ⟨RX4, "odds", "(II)J"⟩
abbrev cX4_commonDivisor : ByteArray := prog_1_method_33_code
def yX4_commonDivisor : MethodName := ⟨RX4, "commonDivisor", "(JJ)J"⟩
abbrev cX4_seed : ByteArray := prog_1_method_34_code
def yX4_seed : MethodName := ⟨RX4, "seed", "(I)I"⟩
abbrev cX4_feed : ByteArray := prog_1_method_35_code
def yX4_feed : MethodName := ⟨RX4, "feed", "(II)I"⟩
abbrev cX4_wipe : ByteArray := prog_1_method_36_code
def yX4_wipe : MethodName := ⟨RX4, "wipe", "()I"⟩
abbrev cX4_text : ByteArray := prog_1_method_37_code
def yX4_text : MethodName := ⟨RX4, "text", "()I"⟩
abbrev cX4_hold : ByteArray := prog_1_method_38_code
def yX4_hold : MethodName := ⟨RX4, "hold", "(II)I"⟩
abbrev cX4_as : ByteArray := prog_1_method_39_code
def yX4_as : MethodName := ⟨RX4, "as", "(II)I"⟩
abbrev cX4_sheet : ByteArray := prog_1_method_40_code
def yX4_sheet : MethodName := ⟨RX4, "sheet", "(III)I"⟩
abbrev cX4_write : ByteArray := prog_1_method_41_code
def yX4_write : MethodName := ⟨RX4, "write", "(III)I"⟩
abbrev cX4_copy : ByteArray := prog_1_method_42_code
def yX4_copy : MethodName := ⟨RX4, "copy", "(IIIII)I"⟩
abbrev cX4_load : ByteArray := prog_1_method_43_code
def yX4_load : MethodName := ⟨RX4, "load", "(I)I"⟩
abbrev cX4_judge : ByteArray := prog_1_method_44_code
def yX4_judge : MethodName := ⟨RX4, "judge", "(I)I"⟩
abbrev cX4_image : ByteArray := prog_1_method_45_code
def yX4_image : MethodName := ⟨RX4, "image", "()I"⟩
abbrev cX4_undo : ByteArray := prog_1_method_46_code
def yX4_undo : MethodName := ⟨RX4, "undo", "()I"⟩
abbrev cX4_tear : ByteArray := prog_1_method_47_code
def yX4_tear : MethodName := ⟨RX4, "tear", "()I"⟩
abbrev cX4_count : ByteArray := prog_1_method_48_code
def yX4_count : MethodName := ⟨RX4, "count", "(I)I"⟩
abbrev cX4_status : ByteArray := prog_1_method_49_code
def yX4_status : MethodName := ⟨RX4, "status", "(I)I"⟩
abbrev cX4_finding : ByteArray := prog_1_method_50_code
def yX4_finding : MethodName := ⟨RX4, "finding", "(I)I"⟩
abbrev cX4_isWriter : ByteArray := prog_1_method_51_code
def yX4_isWriter : MethodName := ⟨RX4, "isWriter", "(I)Z"⟩
abbrev cX4_isLetter : ByteArray := prog_1_method_52_code
def yX4_isLetter : MethodName := ⟨RX4, "isLetter", "(I)Z"⟩
abbrev cX4_isFish : ByteArray := prog_1_method_53_code
def yX4_isFish : MethodName := ⟨RX4, "isFish", "(I)Z"⟩
abbrev cX4_isSheet : ByteArray := prog_1_method_54_code
def yX4_isSheet : MethodName := ⟨RX4, "isSheet", "(I)Z"⟩
abbrev cX4_within : ByteArray := prog_1_method_55_code
def yX4_within : MethodName := ⟨RX4, "within", "(II)Z"⟩
abbrev cX4_digit : ByteArray := prog_1_method_56_code
def yX4_digit : MethodName := ⟨RX4, "digit", "(II)I"⟩
abbrev cX4_bone : ByteArray := prog_1_method_57_code
def yX4_bone : MethodName := ⟨RX4, "bone", "(II)I"⟩
abbrev cX4_lettersOf : ByteArray := prog_1_method_58_code
def yX4_lettersOf : MethodName := ⟨RX4, "lettersOf", "(I)I"⟩
abbrev cX4_howOften : ByteArray := prog_1_method_59_code
def yX4_howOften : MethodName := ⟨RX4, "howOften", "(II)I"⟩
def RX5 : String := "BoneWordsModel"
def TX5 : u_T := fun k => match k with
  | 0 => ("BoneWordsModel", "s", "[I", true)
  | 1 => ("BoneWordsModel", "kept", "[I", true)
  | 2 => ("BoneWordsModel", "before", "[I", true)
  | 3 => ("BoneWordsModel", "aside", "[I", true)
  | 4 => ("BoneWordsModel", "isKept", "Z", false)
  | 5 => ("BoneWordsModel", "findings", "[I", true)
  | 6 => ("BoneWordsModel", "tape", "[I", true)
  | 7 => ("BoneWordsModel", "taped", "I", false)
  | 8 => ("BoneWordsModel", "bitsOf", "[I", true)
  | 9 => ("BoneWordsModel", "sizes", "[I", true)
  | 10 => ("BoneWordsModel", "numbers", "[I", true)
  | 11 => ("BoneWordsModel", "token", "I", false)
  | 12 => ("BoneWordsModel", "from", "I", false)
  | 13 => ("BoneWordsModel", "to", "I", false)
  | 14 => ("BoneWordsModel", "value", "I", false)
  | _ => ("BoneWordsModel", "faultAt", "I", false)
def tyX5 : Nat → FieldType := fun k => match k with
  | 0 => .array .int
  | 1 => .array .int
  | 2 => .array .int
  | 3 => .array .int
  | 4 => .boolean
  | 5 => .array .int
  | 6 => .array .int
  | 7 => .int
  | 8 => .array .int
  | 9 => .array .int
  | 10 => .array .int
  | 11 => .int
  | 12 => .int
  | 13 => .int
  | 14 => .int
  | _ => .int
abbrev wsX50 : List Cond := u_ws RX5 TX5 16
theorem nmX5 : ∀ a, a < 16 → ∀ b, b < 16 → a ≠ b → (TX5 a).2.1 ≠ (TX5 b).2.1 := by decide +kernel
theorem tyX5_ok : ∀ k, k < 16 → parseFieldDescriptor (TX5 k).2.2.1 = some (tyX5 k) := by decide +kernel
abbrev cX5_init : ByteArray := prog_7_method_1_code
def yX5_init : MethodName := ⟨RX5, "<init>", "()V"⟩
abbrev cX5_isIn : ByteArray := prog_7_method_2_code
def yX5_isIn : MethodName := ⟨RX5, "isIn", "(JJJ)Z"⟩
abbrev cX5_finds : ByteArray := prog_7_method_3_code
def yX5_finds : MethodName := ⟨RX5, "finds", "(I)I"⟩
abbrev cX5_becomes : ByteArray := prog_7_method_4_code
def yX5_becomes : MethodName := ⟨RX5, "becomes", "(II)I"⟩
abbrev cX5_copyRow : ByteArray := prog_7_method_5_code
def yX5_copyRow : MethodName := ⟨RX5, "copyRow", "([I[I)V"⟩
abbrev cX5_isLetter10 : ByteArray := prog_7_method_6_code
def yX5_isLetter10 : MethodName := ⟨RX5, "isLetter10", "(I)Z"⟩
abbrev cX5_isFish : ByteArray := prog_7_method_7_code
def yX5_isFish : MethodName := ⟨RX5, "isFish", "(I)Z"⟩
abbrev cX5_isWriter : ByteArray := prog_7_method_8_code
def yX5_isWriter : MethodName := ⟨RX5, "isWriter", "(I)Z"⟩
abbrev cX5_at : ByteArray := prog_7_method_9_code
def yX5_at : MethodName := ⟨RX5, "at", "(II)I"⟩
abbrev cX5_its : ByteArray := prog_7_method_10_code
def yX5_its : MethodName := ⟨RX5, "its", "(II)I"⟩
abbrev cX5_least : ByteArray := prog_7_method_11_code
def yX5_least : MethodName := ⟨RX5, "least", "(II)I"⟩
abbrev cX5_greatest : ByteArray := prog_7_method_12_code
def yX5_greatest : MethodName := ⟨RX5, "greatest", "(II)I"⟩
abbrev cX5_orNone : ByteArray := prog_7_method_13_code
def yX5_orNone : MethodName := ⟨RX5, "orNone", "(I)I"⟩
abbrev cX5_many : ByteArray := prog_7_method_14_code
def yX5_many : MethodName := ⟨RX5, "many", "(I)I"⟩
abbrev cX5_digit : ByteArray := prog_7_method_15_code
def yX5_digit : MethodName := ⟨RX5, "digit", "(II)I"⟩
abbrev cX5_jar : ByteArray := prog_7_method_16_code
def yX5_jar : MethodName := ⟨RX5, "jar", "(II)I"⟩
abbrev cX5_bones : ByteArray := prog_7_method_17_code
def yX5_bones : MethodName := ⟨RX5, "bones", "(I)I"⟩
abbrev cX5_fish : ByteArray := prog_7_method_18_code
def yX5_fish : MethodName := ⟨RX5, "fish", "(III)I"⟩
abbrev cX5_lettersOf : ByteArray := prog_7_method_19_code
def yX5_lettersOf : MethodName := ⟨RX5, "lettersOf", "(I)I"⟩
abbrev cX5_fishOf : ByteArray := prog_7_method_20_code
def yX5_fishOf : MethodName := ⟨RX5, "fishOf", "(II)I"⟩
abbrev cX5_comes : ByteArray := prog_7_method_21_code
def yX5_comes : MethodName := ⟨RX5, "comes", "(II)V"⟩
abbrev cX5_writer : ByteArray := prog_7_method_22_code
def yX5_writer : MethodName := ⟨RX5, "writer", "(II)I"⟩
abbrev cX5_eats : ByteArray := prog_7_method_23_code
def yX5_eats : MethodName := ⟨RX5, "eats", "(I)I"⟩
abbrev cX5_writesMost : ByteArray := prog_7_method_24_code
def yX5_writesMost : MethodName := ⟨RX5, "writesMost", "(I)I"⟩
abbrev cX5_next : ByteArray := prog_7_method_25_code
def yX5_next : MethodName := ⟨RX5, "next", "(I)I"⟩
abbrev cX5_isKeptBy : ByteArray := prog_7_method_26_code
def yX5_isKeptBy : MethodName := ⟨RX5, "isKeptBy", "(III)Z"⟩
abbrev cX5_of : ByteArray := prog_7_method_27_code
def yX5_of : MethodName := ⟨RX5, "of", "(II)I"⟩
abbrev cX5_greatestOf : ByteArray := prog_7_method_28_code
def yX5_greatestOf : MethodName := ⟨RX5, "greatestOf", "(I)I"⟩
abbrev cX5_change : ByteArray := prog_7_method_29_code
def yX5_change : MethodName := ⟨RX5, "change", "(III)I"⟩
abbrev cX5_keeps : ByteArray := prog_7_method_30_code
def yX5_keeps : MethodName := ⟨RX5, "keeps", "(II)I"⟩
abbrev cX5_spellsOf : ByteArray := prog_7_method_31_code
def yX5_spellsOf : MethodName := ⟨RX5, "spellsOf", "(I)I"⟩
abbrev cX5_spells : ByteArray := prog_7_method_32_code
def yX5_spells : MethodName := ⟨RX5, "spells", "(I)I"⟩
abbrev cX5_eatsOne : ByteArray := prog_7_method_33_code
def yX5_eatsOne : MethodName := ⟨RX5, "eatsOne", "(II)V"⟩
abbrev cX5_writesOne : ByteArray := prog_7_method_34_code
def yX5_writesOne : MethodName := ⟨RX5, "writesOne", "(I)V"⟩
abbrev cX5_dayBut : ByteArray := prog_7_method_35_code
def yX5_dayBut : MethodName := ⟨RX5, "dayBut", "(I)V"⟩
abbrev cX5_goes : ByteArray := prog_7_method_36_code
def yX5_goes : MethodName := ⟨RX5, "goes", "(I)V"⟩
abbrev cX5_sumOf : ByteArray := prog_7_method_37_code
def yX5_sumOf : MethodName := ⟨RX5, "sumOf", "(I)I"⟩
abbrev cX5_jarAll : ByteArray := prog_7_method_38_code
def yX5_jarAll : MethodName := ⟨RX5, "jarAll", "()I"⟩
abbrev cX5_go : ByteArray := prog_7_method_39_code
def yX5_go : MethodName := ⟨RX5, "go", "(I)I"⟩
abbrev cX5_waiting : ByteArray := prog_7_method_40_code
def yX5_waiting : MethodName := ⟨RX5, "waiting", "()I"⟩
abbrev cX5_lacking : ByteArray := prog_7_method_41_code
def yX5_lacking : MethodName := ⟨RX5, "lacking", "()I"⟩
abbrev cX5_thin : ByteArray := prog_7_method_42_code
def yX5_thin : MethodName := ⟨RX5, "thin", "()I"⟩
abbrev cX5_now : ByteArray := prog_7_method_43_code
def yX5_now : MethodName := ⟨RX5, "now", "(I)I"⟩
abbrev cX5_thenAt : ByteArray := prog_7_method_44_code
def yX5_thenAt : MethodName := ⟨RX5, "thenAt", "(II)I"⟩
abbrev cX5_ahead : ByteArray := prog_7_method_45_code
def yX5_ahead : MethodName := ⟨RX5, "ahead", "(III)I"⟩
abbrev cX5_later : ByteArray := prog_7_method_46_code
def yX5_later : MethodName := ⟨RX5, "later", "(II)I"⟩
abbrev cX5_when : ByteArray := prog_7_method_47_code
def yX5_when : MethodName := ⟨RX5, "when", "(II)I"⟩
abbrev cX5_whenNone : ByteArray := prog_7_method_48_code
def yX5_whenNone : MethodName := ⟨RX5, "whenNone", "(I)I"⟩
abbrev cX5_starves : ByteArray := prog_7_method_49_code
def yX5_starves : MethodName := ⟨RX5, "starves", "(I)I"⟩
abbrev cX5_out : ByteArray := prog_7_method_50_code
def yX5_out : MethodName := ⟨RX5, "out", "(I)I"⟩
abbrev cX5_catchFor : ByteArray := prog_7_method_51_code
def yX5_catchFor : MethodName := ⟨RX5, "catchFor", "(I)I"⟩
abbrev cX5_fewest : ByteArray := prog_7_method_52_code
def yX5_fewest : MethodName := ⟨RX5, "fewest", "(IIII)I"⟩
abbrev cX5_wordWith : ByteArray := prog_7_method_53_code
def yX5_wordWith : MethodName := ⟨RX5, "wordWith", "(II)I"⟩
abbrev cX5_isAsked : ByteArray := prog_7_method_54_code
def yX5_isAsked : MethodName := ⟨RX5, "isAsked", "(II)Z"⟩
abbrev cX5_letterFor : ByteArray := prog_7_method_55_code
def yX5_letterFor : MethodName := ⟨RX5, "letterFor", "(II)I"⟩
abbrev cX5_kindFor : ByteArray := prog_7_method_56_code
def yX5_kindFor : MethodName := ⟨RX5, "kindFor", "(II)I"⟩
abbrev cX5_away : ByteArray := prog_7_method_57_code
def yX5_away : MethodName := ⟨RX5, "away", "(III)I"⟩
abbrev cX5_bonesFor : ByteArray := prog_7_method_58_code
def yX5_bonesFor : MethodName := ⟨RX5, "bonesFor", "(II)I"⟩
abbrev cX5_isTold : ByteArray := prog_7_method_59_code
def yX5_isTold : MethodName := ⟨RX5, "isTold", "(II)Z"⟩
abbrev cX5_wantsFor : ByteArray := prog_7_method_60_code
def yX5_wantsFor : MethodName := ⟨RX5, "wantsFor", "(II)I"⟩
abbrev cX5_fits : ByteArray := prog_7_method_61_code
def yX5_fits : MethodName := ⟨RX5, "fits", "(II)I"⟩
abbrev cX5_kinds : ByteArray := prog_7_method_62_code
def yX5_kinds : MethodName := ⟨RX5, "kinds", "(II)I"⟩
abbrev cX5_texts : ByteArray := prog_7_method_63_code
def yX5_texts : MethodName := ⟨RX5, "texts", "(I)I"⟩
abbrev cX5_draw : ByteArray := prog_7_method_64_code
def yX5_draw : MethodName := ⟨RX5, "draw", "()I"⟩
abbrev cX5_catches : ByteArray := prog_7_method_65_code
def yX5_catches : MethodName := ⟨RX5, "catches", "(I)I"⟩
abbrev cX5_odds : ByteArray := prog_7_method_66_code
def yX5_odds : MethodName := ⟨RX5, "odds", "(II)J"⟩
abbrev cX5_seed : ByteArray := prog_7_method_67_code
def yX5_seed : MethodName := ⟨RX5, "seed", "(I)I"⟩
abbrev cX5_feed : ByteArray := prog_7_method_68_code
def yX5_feed : MethodName := ⟨RX5, "feed", "(II)I"⟩
abbrev cX5_wipe : ByteArray := prog_7_method_69_code
def yX5_wipe : MethodName := ⟨RX5, "wipe", "()I"⟩
abbrev cX5_isLetter : ByteArray := prog_7_method_70_code
def yX5_isLetter : MethodName := ⟨RX5, "isLetter", "(I)Z"⟩
abbrev cX5_isDigit : ByteArray := prog_7_method_71_code
def yX5_isDigit : MethodName := ⟨RX5, "isDigit", "(I)Z"⟩
abbrev cX5_byteAt : ByteArray := prog_7_method_72_code
def yX5_byteAt : MethodName := ⟨RX5, "byteAt", "(I)I"⟩
abbrev cX5_nextToken : ByteArray := prog_7_method_73_code
def yX5_nextToken : MethodName := ⟨RX5, "nextToken", "()V"⟩
abbrev cX5_has3 : ByteArray := prog_7_method_74_code
def yX5_has3 : MethodName := ⟨RX5, "has3", "(IIII)Z"⟩
abbrev cX5_isWord : ByteArray := prog_7_method_75_code
def yX5_isWord : MethodName := ⟨RX5, "isWord", "(I)Z"⟩
abbrev cX5_fails : ByteArray := prog_7_method_76_code
def yX5_fails : MethodName := ⟨RX5, "fails", "()Z"⟩
abbrev cX5_isFour : ByteArray := prog_7_method_77_code
def yX5_isFour : MethodName := ⟨RX5, "isFour", "(IIII)Z"⟩
abbrev cX5_isFive : ByteArray := prog_7_method_78_code
def yX5_isFive : MethodName := ⟨RX5, "isFive", "(IIIII)Z"⟩
abbrev cX5_isSix : ByteArray := prog_7_method_79_code
def yX5_isSix : MethodName := ⟨RX5, "isSix", "(IIIIII)Z"⟩
abbrev cX5_isNumber : ByteArray := prog_7_method_80_code
def yX5_isNumber : MethodName := ⟨RX5, "isNumber", "(II)Z"⟩
abbrev cX5_kindHere : ByteArray := prog_7_method_81_code
def yX5_kindHere : MethodName := ⟨RX5, "kindHere", "()I"⟩
abbrev cX5_perhaps : ByteArray := prog_7_method_82_code
def yX5_perhaps : MethodName := ⟨RX5, "perhaps", "(ZII)Z"⟩
abbrev cX5_writerHere : ByteArray := prog_7_method_83_code
def yX5_writerHere : MethodName := ⟨RX5, "writerHere", "(I)Z"⟩
abbrev cX5_fishHere : ByteArray := prog_7_method_84_code
def yX5_fishHere : MethodName := ⟨RX5, "fishHere", "()Z"⟩
abbrev cX5_jarHere : ByteArray := prog_7_method_85_code
def yX5_jarHere : MethodName := ⟨RX5, "jarHere", "()Z"⟩
abbrev cX5_itemHere : ByteArray := prog_7_method_86_code
def yX5_itemHere : MethodName := ⟨RX5, "itemHere", "()Z"⟩
abbrev cX5_text : ByteArray := prog_7_method_87_code
def yX5_text : MethodName := ⟨RX5, "text", "()I"⟩
abbrev cX5_hold : ByteArray := prog_7_method_88_code
def yX5_hold : MethodName := ⟨RX5, "hold", "(II)I"⟩
abbrev cX5_isUnder : ByteArray := prog_7_method_89_code
def yX5_isUnder : MethodName := ⟨RX5, "isUnder", "(II)Z"⟩
abbrev cX5_as : ByteArray := prog_7_method_90_code
def yX5_as : MethodName := ⟨RX5, "as", "(II)I"⟩
abbrev cX5_isSheet : ByteArray := prog_7_method_91_code
def yX5_isSheet : MethodName := ⟨RX5, "isSheet", "(I)Z"⟩
abbrev cX5_sheet : ByteArray := prog_7_method_92_code
def yX5_sheet : MethodName := ⟨RX5, "sheet", "(III)I"⟩
abbrev cX5_write : ByteArray := prog_7_method_93_code
def yX5_write : MethodName := ⟨RX5, "write", "(III)I"⟩
abbrev cX5_copy : ByteArray := prog_7_method_94_code
def yX5_copy : MethodName := ⟨RX5, "copy", "(IIIII)I"⟩
abbrev cX5_wants : ByteArray := prog_7_method_95_code
def yX5_wants : MethodName := ⟨RX5, "wants", "(I)I"⟩
abbrev cX5_load : ByteArray := prog_7_method_96_code
def yX5_load : MethodName := ⟨RX5, "load", "(I)I"⟩
abbrev cX5_judge : ByteArray := prog_7_method_97_code
def yX5_judge : MethodName := ⟨RX5, "judge", "(I)I"⟩
abbrev cX5_image : ByteArray := prog_7_method_98_code
def yX5_image : MethodName := ⟨RX5, "image", "()I"⟩
abbrev cX5_undo : ByteArray := prog_7_method_99_code
def yX5_undo : MethodName := ⟨RX5, "undo", "()I"⟩
abbrev cX5_tear : ByteArray := prog_7_method_100_code
def yX5_tear : MethodName := ⟨RX5, "tear", "()I"⟩
abbrev cX5_count : ByteArray := prog_7_method_101_code
def yX5_count : MethodName := ⟨RX5, "count", "(I)I"⟩
abbrev cX5_status : ByteArray := prog_7_method_102_code
def yX5_status : MethodName := ⟨RX5, "status", "(I)I"⟩
def RJ6 : String := "java/lang/Integer"
def TJ6 : u_T := fun k => match k with
  | _ => ("", "", "", false)
def tyJ6 : Nat → FieldType := fun k => match k with
  | _ => .int
abbrev wsJ60 : List Cond := u_ws RJ6 TJ6 0
theorem nmJ6 : ∀ a, a < 0 → ∀ b, b < 0 → a ≠ b → (TJ6 a).2.1 ≠ (TJ6 b).2.1 := by decide +kernel
theorem tyJ6_ok : ∀ k, k < 0 → parseFieldDescriptor (TJ6 k).2.2.1 = some (tyJ6 k) := by decide +kernel
abbrev cJ6_bitCount_0f7a4 : ByteArray := prog_8_method_49_code
def yJ6_bitCount_0f7a4 : MethodName := ⟨RJ6, "bitCount", "(I)I"⟩
def RJ9 : String := "java/lang/Math"
def TJ9 : u_T := fun k => match k with
  | _ => ("", "", "", false)
def tyJ9 : Nat → FieldType := fun k => match k with
  | _ => .int
abbrev wsJ90 : List Cond := u_ws RJ9 TJ9 0
theorem nmJ9 : ∀ a, a < 0 → ∀ b, b < 0 → a ≠ b → (TJ9 a).2.1 ≠ (TJ9 b).2.1 := by decide +kernel
theorem tyJ9_ok : ∀ k, k < 0 → parseFieldDescriptor (TJ9 k).2.2.1 = some (tyJ9 k) := by decide +kernel
abbrev cJ9_max_7cf53 : ByteArray := prog_9_method_65_code
def yJ9_max_7cf53 : MethodName := ⟨RJ9, "max", "(II)I"⟩
abbrev cJ9_max_f86c9 : ByteArray := prog_9_method_66_code
def yJ9_max_f86c9 : MethodName := ⟨RJ9, "max", "(JJ)J"⟩
abbrev cJ9_min_7cf53 : ByteArray := prog_9_method_69_code
def yJ9_min_7cf53 : MethodName := ⟨RJ9, "min", "(II)I"⟩
def RJ0 : String := "java/lang/String"
def TJ0 : u_T := fun k => match k with
  | _ => ("", "", "", false)
def tyJ0 : Nat → FieldType := fun k => match k with
  | _ => .int
abbrev wsJ00 : List Cond := u_ws RJ0 TJ0 0
theorem nmJ0 : ∀ a, a < 0 → ∀ b, b < 0 → a ≠ b → (TJ0 a).2.1 ≠ (TJ0 b).2.1 := by decide +kernel
theorem tyJ0_ok : ∀ k, k < 0 → parseFieldDescriptor (TJ0 k).2.2.1 = some (tyJ0 k) := by decide +kernel
abbrev cJ0_length_8abf5 : ByteArray := prog_10_method_54_code
def yJ0_length_8abf5 : MethodName := ⟨RJ0, "length", "()I"⟩
abbrev cJ0_charAt_5068e : ByteArray := prog_10_method_56_code
def yJ0_charAt_5068e : MethodName := ⟨RJ0, "charAt", "(I)C"⟩
abbrev cJ0_coder_7d493 : ByteArray := prog_10_method_152_code
def yJ0_coder_7d493 : MethodName := ⟨RJ0, "coder", "()B"⟩
abbrev cJ0_isLatin1_aae02 : ByteArray := prog_10_method_154_code
def yJ0_isLatin1_aae02 : MethodName := ⟨RJ0, "isLatin1", "()Z"⟩
abbrev cJ0_checkIndex_df160 : ByteArray := prog_10_method_155_code
def yJ0_checkIndex_df160 : MethodName := ⟨RJ0, "checkIndex", "(II)V"⟩
def RJ1 : String := "java/lang/StringLatin1"
def TJ1 : u_T := fun k => match k with
  | _ => ("", "", "", false)
def tyJ1 : Nat → FieldType := fun k => match k with
  | _ => .int
abbrev wsJ10 : List Cond := u_ws RJ1 TJ1 0
theorem nmJ1 : ∀ a, a < 0 → ∀ b, b < 0 → a ≠ b → (TJ1 a).2.1 ≠ (TJ1 b).2.1 := by decide +kernel
theorem tyJ1_ok : ∀ k, k < 0 → parseFieldDescriptor (TJ1 k).2.2.1 = some (tyJ1 k) := by decide +kernel
abbrev cJ1_charAt_3b067 : ByteArray := prog_11_method_2_code
def yJ1_charAt_3b067 : MethodName := ⟨RJ1, "charAt", "([BI)C"⟩
def RJ2 : String := "java/lang/StringUTF16"
def TJ2 : u_T := fun k => match k with
  | _ => ("", "", "", false)
def tyJ2 : Nat → FieldType := fun k => match k with
  | _ => .int
abbrev wsJ20 : List Cond := u_ws RJ2 TJ2 0
theorem nmJ2 : ∀ a, a < 0 → ∀ b, b < 0 → a ≠ b → (TJ2 a).2.1 ≠ (TJ2 b).2.1 := by decide +kernel
theorem tyJ2_ok : ∀ k, k < 0 → parseFieldDescriptor (TJ2 k).2.2.1 = some (tyJ2 k) := by decide +kernel
abbrev cJ2_getChar_3b067 : ByteArray := prog_12_method_5_code
def yJ2_getChar_3b067 : MethodName := ⟨RJ2, "getChar", "([BI)C"⟩
abbrev cJ2_length_9d52b : ByteArray := prog_12_method_6_code
def yJ2_length_9d52b : MethodName := ⟨RJ2, "length", "([B)I"⟩
abbrev cJ2_charAt_3b067 : ByteArray := prog_12_method_83_code
def yJ2_charAt_3b067 : MethodName := ⟨RJ2, "charAt", "([BI)C"⟩
abbrev cJ2_checkIndex_2214a : ByteArray := prog_12_method_91_code
def yJ2_checkIndex_2214a : MethodName := ⟨RJ2, "checkIndex", "(I[B)V"⟩
def RJ10 : String := "java/lang/System"
def TJ10 : u_T := fun k => match k with
  | _ => ("", "", "", false)
def tyJ10 : Nat → FieldType := fun k => match k with
  | _ => .int
abbrev wsJ100 : List Cond := u_ws RJ10 TJ10 0
theorem nmJ10 : ∀ a, a < 0 → ∀ b, b < 0 → a ≠ b → (TJ10 a).2.1 ≠ (TJ10 b).2.1 := by decide +kernel
theorem tyJ10_ok : ∀ k, k < 0 → parseFieldDescriptor (TJ10 k).2.2.1 = some (tyJ10 k) := by decide +kernel
def RJ3 : String := "jdk/internal/util/Preconditions"
def TJ3 : u_T := fun k => match k with
  | _ => ("", "", "", false)
def tyJ3 : Nat → FieldType := fun k => match k with
  | _ => .int
abbrev wsJ30 : List Cond := u_ws RJ3 TJ3 0
theorem nmJ3 : ∀ a, a < 0 → ∀ b, b < 0 → a ≠ b → (TJ3 a).2.1 ≠ (TJ3 b).2.1 := by decide +kernel
theorem tyJ3_ok : ∀ k, k < 0 → parseFieldDescriptor (TJ3 k).2.2.1 = some (tyJ3 k) := by decide +kernel
abbrev cJ3_checkIndex_8e157 : ByteArray := prog_14_method_11_code
def yJ3_checkIndex_8e157 : MethodName := ⟨RJ3, "checkIndex", "(IILjava/util/function/BiFunction;)I"⟩
def RL : String := "BoneWordsLaw"
abbrev cL_law : ByteArray := code
def yL_law : MethodName := ⟨RL, "law", "([I)Z"⟩

