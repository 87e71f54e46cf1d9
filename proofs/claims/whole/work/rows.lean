section
-- ===== PART A: goes FIRST, ahead of the names: the tables' words, and 'selects' of the private methods out of them =====
/-- a private method of a class that the tables say can be made, by its rows of tables_1 -/
def lw_okq (q : MethodName × Nat) : Prop := (q.1.cls ≠ "java/lang/invoke/MethodHandle" ∧ q.1.cls ≠ "java/lang/invoke/VarHandle") ∧ Cond.instantiable q.1.cls q.2 ∈ tables_1 ∧ Cond.privateMethod q.1 ∈ tables_1 ∧ Cond.instanceMethod q.1 ∈ tables_1
theorem lw_p0 : lw_okq (⟨"FeltedWash", "refuse", "(I)I"⟩, 8) := ⟨⟨by decide +kernel, by decide +kernel⟩, List.mem_of_getElem? (i := 22) (by decide +kernel), List.mem_of_getElem? (i := 281) (by decide +kernel), List.mem_of_getElem? (i := 282) (by decide +kernel)⟩
theorem lw_p1 : lw_okq (⟨"FeltedWash$Garment", "dryOneDay", "()V"⟩, 7) := ⟨⟨by decide +kernel, by decide +kernel⟩, List.mem_of_getElem? (i := 100) (by decide +kernel), List.mem_of_getElem? (i := 514) (by decide +kernel), List.mem_of_getElem? (i := 515) (by decide +kernel)⟩
theorem lw_p2 : lw_okq (⟨"FeltedWash", "tryWashes", "(LFeltedWash$Garment;I)V"⟩, 8) := ⟨⟨by decide +kernel, by decide +kernel⟩, List.mem_of_getElem? (i := 22) (by decide +kernel), List.mem_of_getElem? (i := 532) (by decide +kernel), List.mem_of_getElem? (i := 533) (by decide +kernel)⟩
theorem lw_p3 : lw_okq (⟨"FeltedWash", "wouldSuit", "(LFeltedWash$Garment;LFeltedWash$Person;III)Z"⟩, 8) := ⟨⟨by decide +kernel, by decide +kernel⟩, List.mem_of_getElem? (i := 22) (by decide +kernel), List.mem_of_getElem? (i := 545) (by decide +kernel), List.mem_of_getElem? (i := 546) (by decide +kernel)⟩
theorem lw_p4 : lw_okq (⟨"FeltedWash", "tryAs", "(LFeltedWash$Garment;I)Z"⟩, 8) := ⟨⟨by decide +kernel, by decide +kernel⟩, List.mem_of_getElem? (i := 22) (by decide +kernel), List.mem_of_getElem? (i := 563) (by decide +kernel), List.mem_of_getElem? (i := 564) (by decide +kernel)⟩
theorem lw_p5 : lw_okq (⟨"FeltedWash$Tape", "nextToken", "()V"⟩, 8) := ⟨⟨by decide +kernel, by decide +kernel⟩, List.mem_of_getElem? (i := 193) (by decide +kernel), List.mem_of_getElem? (i := 614) (by decide +kernel), List.mem_of_getElem? (i := 615) (by decide +kernel)⟩
theorem lw_p6 : lw_okq (⟨"FeltedWash$Tape", "byteAt", "(I)I"⟩, 8) := ⟨⟨by decide +kernel, by decide +kernel⟩, List.mem_of_getElem? (i := 193) (by decide +kernel), List.mem_of_getElem? (i := 618) (by decide +kernel), List.mem_of_getElem? (i := 619) (by decide +kernel)⟩
theorem lw_p7 : lw_okq (⟨"FeltedWash$Tape", "takeItem", "(LFeltedWash$Basket;)Z"⟩, 8) := ⟨⟨by decide +kernel, by decide +kernel⟩, List.mem_of_getElem? (i := 193) (by decide +kernel), List.mem_of_getElem? (i := 629) (by decide +kernel), List.mem_of_getElem? (i := 630) (by decide +kernel)⟩
theorem lw_p8 : lw_okq (⟨"FeltedWash$Tape", "kindNamed", "()I"⟩, 8) := ⟨⟨by decide +kernel, by decide +kernel⟩, List.mem_of_getElem? (i := 193) (by decide +kernel), List.mem_of_getElem? (i := 633) (by decide +kernel), List.mem_of_getElem? (i := 634) (by decide +kernel)⟩
theorem lw_p9 : lw_okq (⟨"FeltedWash$Tape", "isWord", "(Ljava/lang/String;)Z"⟩, 8) := ⟨⟨by decide +kernel, by decide +kernel⟩, List.mem_of_getElem? (i := 193) (by decide +kernel), List.mem_of_getElem? (i := 638) (by decide +kernel), List.mem_of_getElem? (i := 639) (by decide +kernel)⟩
theorem lw_p10 : lw_okq (⟨"FeltedWash$Tape", "takeSpans", "(LFeltedWash$Garment;)Z"⟩, 8) := ⟨⟨by decide +kernel, by decide +kernel⟩, List.mem_of_getElem? (i := 193) (by decide +kernel), List.mem_of_getElem? (i := 696) (by decide +kernel), List.mem_of_getElem? (i := 697) (by decide +kernel)⟩
theorem lw_p11 : lw_okq (⟨"FeltedWash$Tape", "takeTwoSpans", "()Z"⟩, 8) := ⟨⟨by decide +kernel, by decide +kernel⟩, List.mem_of_getElem? (i := 193) (by decide +kernel), List.mem_of_getElem? (i := 701) (by decide +kernel), List.mem_of_getElem? (i := 702) (by decide +kernel)⟩
theorem lw_p12 : lw_okq (⟨"FeltedWash$Tape", "isNumber", "(II)Z"⟩, 8) := ⟨⟨by decide +kernel, by decide +kernel⟩, List.mem_of_getElem? (i := 193) (by decide +kernel), List.mem_of_getElem? (i := 705) (by decide +kernel), List.mem_of_getElem? (i := 706) (by decide +kernel)⟩
theorem lw_p13 : lw_okq (⟨"FeltedWash$Tape", "takeThickness", "(LFeltedWash$Garment;)Z"⟩, 8) := ⟨⟨by decide +kernel, by decide +kernel⟩, List.mem_of_getElem? (i := 193) (by decide +kernel), List.mem_of_getElem? (i := 710) (by decide +kernel), List.mem_of_getElem? (i := 711) (by decide +kernel)⟩
theorem lw_p14 : lw_okq (⟨"FeltedWash$Tape", "takePerson", "(LFeltedWash$Basket;)Z"⟩, 8) := ⟨⟨by decide +kernel, by decide +kernel⟩, List.mem_of_getElem? (i := 193) (by decide +kernel), List.mem_of_getElem? (i := 716) (by decide +kernel), List.mem_of_getElem? (i := 717) (by decide +kernel)⟩
theorem lw_p15 : lw_okq (⟨"FeltedWash$Tape", "takeDegrees", "(LFeltedWash$Basket;)Z"⟩, 8) := ⟨⟨by decide +kernel, by decide +kernel⟩, List.mem_of_getElem? (i := 193) (by decide +kernel), List.mem_of_getElem? (i := 722) (by decide +kernel), List.mem_of_getElem? (i := 723) (by decide +kernel)⟩
def lw_privs_1 : List (MethodName × Nat) := [(⟨"FeltedWash", "refuse", "(I)I"⟩, 8), (⟨"FeltedWash$Garment", "dryOneDay", "()V"⟩, 7), (⟨"FeltedWash", "tryWashes", "(LFeltedWash$Garment;I)V"⟩, 8), (⟨"FeltedWash", "wouldSuit", "(LFeltedWash$Garment;LFeltedWash$Person;III)Z"⟩, 8), (⟨"FeltedWash", "tryAs", "(LFeltedWash$Garment;I)Z"⟩, 8), (⟨"FeltedWash$Tape", "nextToken", "()V"⟩, 8), (⟨"FeltedWash$Tape", "byteAt", "(I)I"⟩, 8), (⟨"FeltedWash$Tape", "takeItem", "(LFeltedWash$Basket;)Z"⟩, 8), (⟨"FeltedWash$Tape", "kindNamed", "()I"⟩, 8), (⟨"FeltedWash$Tape", "isWord", "(Ljava/lang/String;)Z"⟩, 8), (⟨"FeltedWash$Tape", "takeSpans", "(LFeltedWash$Garment;)Z"⟩, 8), (⟨"FeltedWash$Tape", "takeTwoSpans", "()Z"⟩, 8), (⟨"FeltedWash$Tape", "isNumber", "(II)Z"⟩, 8), (⟨"FeltedWash$Tape", "takeThickness", "(LFeltedWash$Garment;)Z"⟩, 8), (⟨"FeltedWash$Tape", "takePerson", "(LFeltedWash$Basket;)Z"⟩, 8), (⟨"FeltedWash$Tape", "takeDegrees", "(LFeltedWash$Basket;)Z"⟩, 8)]
theorem lw_r1 : ∀ q ∈ lw_privs_1, lw_okq q := List.forall_mem_cons.mpr ⟨lw_p0, List.forall_mem_cons.mpr ⟨lw_p1, List.forall_mem_cons.mpr ⟨lw_p2, List.forall_mem_cons.mpr ⟨lw_p3, List.forall_mem_cons.mpr ⟨lw_p4, List.forall_mem_cons.mpr ⟨lw_p5, List.forall_mem_cons.mpr ⟨lw_p6, List.forall_mem_cons.mpr ⟨lw_p7, List.forall_mem_cons.mpr ⟨lw_p8, List.forall_mem_cons.mpr ⟨lw_p9, List.forall_mem_cons.mpr ⟨lw_p10, List.forall_mem_cons.mpr ⟨lw_p11, List.forall_mem_cons.mpr ⟨lw_p12, List.forall_mem_cons.mpr ⟨lw_p13, List.forall_mem_cons.mpr ⟨lw_p14, List.forall_mem_cons.mpr ⟨lw_p15, fun _ h => absurd h List.not_mem_nil⟩⟩⟩⟩⟩⟩⟩⟩⟩⟩⟩⟩⟩⟩⟩⟩
theorem lw_p16 : lw_okq (⟨"FeltedWash$Tape", "takeWash", "(LFeltedWash$Basket;)Z"⟩, 8) := ⟨⟨by decide +kernel, by decide +kernel⟩, List.mem_of_getElem? (i := 193) (by decide +kernel), List.mem_of_getElem? (i := 727) (by decide +kernel), List.mem_of_getElem? (i := 728) (by decide +kernel)⟩
theorem lw_p17 : lw_okq (⟨"FeltedWash", "sheetAt", "(I)LFeltedWash$Sheet;"⟩, 8) := ⟨⟨by decide +kernel, by decide +kernel⟩, List.mem_of_getElem? (i := 22) (by decide +kernel), List.mem_of_getElem? (i := 739) (by decide +kernel), List.mem_of_getElem? (i := 740) (by decide +kernel)⟩
theorem lw_p18 : lw_okq (⟨"FeltedWash$Sheet", "lowestBits", "(J)J"⟩, 3) := ⟨⟨by decide +kernel, by decide +kernel⟩, List.mem_of_getElem? (i := 227) (by decide +kernel), List.mem_of_getElem? (i := 761) (by decide +kernel), List.mem_of_getElem? (i := 762) (by decide +kernel)⟩
theorem lw_p19 : lw_okq (⟨"FeltedWash", "explains", "(LFeltedWash$Sheet;LFeltedWash$Garment;II)Z"⟩, 8) := ⟨⟨by decide +kernel, by decide +kernel⟩, List.mem_of_getElem? (i := 22) (by decide +kernel), List.mem_of_getElem? (i := 790) (by decide +kernel), List.mem_of_getElem? (i := 791) (by decide +kernel)⟩
theorem lw_p20 : lw_okq (⟨"FeltedWashModel", "becomes", "(II)I"⟩, 16) := ⟨⟨by decide +kernel, by decide +kernel⟩, List.mem_of_getElem? (i := 818) (by decide +kernel), List.mem_of_getElem? (i := 882) (by decide +kernel), List.mem_of_getElem? (i := 883) (by decide +kernel)⟩
theorem lw_p21 : lw_okq (⟨"FeltedWashModel", "finds", "(I)I"⟩, 16) := ⟨⟨by decide +kernel, by decide +kernel⟩, List.mem_of_getElem? (i := 818) (by decide +kernel), List.mem_of_getElem? (i := 887) (by decide +kernel), List.mem_of_getElem? (i := 888) (by decide +kernel)⟩
theorem lw_p22 : lw_okq (⟨"FeltedWashModel", "wetOnes", "()I"⟩, 16) := ⟨⟨by decide +kernel, by decide +kernel⟩, List.mem_of_getElem? (i := 818) (by decide +kernel), List.mem_of_getElem? (i := 895) (by decide +kernel), List.mem_of_getElem? (i := 896) (by decide +kernel)⟩
theorem lw_p23 : lw_okq (⟨"FeltedWashModel", "its", "(II)I"⟩, 16) := ⟨⟨by decide +kernel, by decide +kernel⟩, List.mem_of_getElem? (i := 818) (by decide +kernel), List.mem_of_getElem? (i := 899) (by decide +kernel), List.mem_of_getElem? (i := 900) (by decide +kernel)⟩
theorem lw_p24 : lw_okq (⟨"FeltedWashModel", "holedOnes", "()I"⟩, 16) := ⟨⟨by decide +kernel, by decide +kernel⟩, List.mem_of_getElem? (i := 818) (by decide +kernel), List.mem_of_getElem? (i := 906) (by decide +kernel), List.mem_of_getElem? (i := 907) (by decide +kernel)⟩
theorem lw_p25 : lw_okq (⟨"FeltedWashModel", "fittingAny", "()I"⟩, 16) := ⟨⟨by decide +kernel, by decide +kernel⟩, List.mem_of_getElem? (i := 818) (by decide +kernel), List.mem_of_getElem? (i := 910) (by decide +kernel), List.mem_of_getElem? (i := 911) (by decide +kernel)⟩
theorem lw_p26 : lw_okq (⟨"FeltedWashModel", "fittingOnes", "(I)I"⟩, 16) := ⟨⟨by decide +kernel, by decide +kernel⟩, List.mem_of_getElem? (i := 818) (by decide +kernel), List.mem_of_getElem? (i := 914) (by decide +kernel), List.mem_of_getElem? (i := 915) (by decide +kernel)⟩
theorem lw_p27 : lw_okq (⟨"FeltedWashModel", "isFitting", "(II)Z"⟩, 16) := ⟨⟨by decide +kernel, by decide +kernel⟩, List.mem_of_getElem? (i := 818) (by decide +kernel), List.mem_of_getElem? (i := 918) (by decide +kernel), List.mem_of_getElem? (i := 919) (by decide +kernel)⟩
theorem lw_p28 : lw_okq (⟨"FeltedWashModel", "sizeOfOne", "(II)I"⟩, 16) := ⟨⟨by decide +kernel, by decide +kernel⟩, List.mem_of_getElem? (i := 818) (by decide +kernel), List.mem_of_getElem? (i := 922) (by decide +kernel), List.mem_of_getElem? (i := 923) (by decide +kernel)⟩
theorem lw_p29 : lw_okq (⟨"FeltedWashModel", "adds", "(I)I"⟩, 16) := ⟨⟨by decide +kernel, by decide +kernel⟩, List.mem_of_getElem? (i := 818) (by decide +kernel), List.mem_of_getElem? (i := 937) (by decide +kernel), List.mem_of_getElem? (i := 938) (by decide +kernel)⟩
theorem lw_p30 : lw_okq (⟨"FeltedWashModel", "isGarment", "(I)Z"⟩, 16) := ⟨⟨by decide +kernel, by decide +kernel⟩, List.mem_of_getElem? (i := 818) (by decide +kernel), List.mem_of_getElem? (i := 945) (by decide +kernel), List.mem_of_getElem? (i := 946) (by decide +kernel)⟩
theorem lw_p31 : lw_okq (⟨"FeltedWashModel", "shrinksOf", "(I)I"⟩, 16) := ⟨⟨by decide +kernel, by decide +kernel⟩, List.mem_of_getElem? (i := 818) (by decide +kernel), List.mem_of_getElem? (i := 949) (by decide +kernel), List.mem_of_getElem? (i := 950) (by decide +kernel)⟩
def lw_privs_2 : List (MethodName × Nat) := [(⟨"FeltedWash$Tape", "takeWash", "(LFeltedWash$Basket;)Z"⟩, 8), (⟨"FeltedWash", "sheetAt", "(I)LFeltedWash$Sheet;"⟩, 8), (⟨"FeltedWash$Sheet", "lowestBits", "(J)J"⟩, 3), (⟨"FeltedWash", "explains", "(LFeltedWash$Sheet;LFeltedWash$Garment;II)Z"⟩, 8), (⟨"FeltedWashModel", "becomes", "(II)I"⟩, 16), (⟨"FeltedWashModel", "finds", "(I)I"⟩, 16), (⟨"FeltedWashModel", "wetOnes", "()I"⟩, 16), (⟨"FeltedWashModel", "its", "(II)I"⟩, 16), (⟨"FeltedWashModel", "holedOnes", "()I"⟩, 16), (⟨"FeltedWashModel", "fittingAny", "()I"⟩, 16), (⟨"FeltedWashModel", "fittingOnes", "(I)I"⟩, 16), (⟨"FeltedWashModel", "isFitting", "(II)Z"⟩, 16), (⟨"FeltedWashModel", "sizeOfOne", "(II)I"⟩, 16), (⟨"FeltedWashModel", "adds", "(I)I"⟩, 16), (⟨"FeltedWashModel", "isGarment", "(I)Z"⟩, 16), (⟨"FeltedWashModel", "shrinksOf", "(I)I"⟩, 16)]
theorem lw_r2 : ∀ q ∈ lw_privs_2, lw_okq q := List.forall_mem_cons.mpr ⟨lw_p16, List.forall_mem_cons.mpr ⟨lw_p17, List.forall_mem_cons.mpr ⟨lw_p18, List.forall_mem_cons.mpr ⟨lw_p19, List.forall_mem_cons.mpr ⟨lw_p20, List.forall_mem_cons.mpr ⟨lw_p21, List.forall_mem_cons.mpr ⟨lw_p22, List.forall_mem_cons.mpr ⟨lw_p23, List.forall_mem_cons.mpr ⟨lw_p24, List.forall_mem_cons.mpr ⟨lw_p25, List.forall_mem_cons.mpr ⟨lw_p26, List.forall_mem_cons.mpr ⟨lw_p27, List.forall_mem_cons.mpr ⟨lw_p28, List.forall_mem_cons.mpr ⟨lw_p29, List.forall_mem_cons.mpr ⟨lw_p30, List.forall_mem_cons.mpr ⟨lw_p31, fun _ h => absurd h List.not_mem_nil⟩⟩⟩⟩⟩⟩⟩⟩⟩⟩⟩⟩⟩⟩⟩⟩
theorem lw_p32 : lw_okq (⟨"FeltedWashModel", "feltsOf", "(I)I"⟩, 16) := ⟨⟨by decide +kernel, by decide +kernel⟩, List.mem_of_getElem? (i := 818) (by decide +kernel), List.mem_of_getElem? (i := 953) (by decide +kernel), List.mem_of_getElem? (i := 954) (by decide +kernel)⟩
theorem lw_p33 : lw_okq (⟨"FeltedWashModel", "bearsOf", "(I)I"⟩, 16) := ⟨⟨by decide +kernel, by decide +kernel⟩, List.mem_of_getElem? (i := 818) (by decide +kernel), List.mem_of_getElem? (i := 957) (by decide +kernel), List.mem_of_getElem? (i := 958) (by decide +kernel)⟩
theorem lw_p34 : lw_okq (⟨"FeltedWashModel", "keepsOf", "(I)I"⟩, 16) := ⟨⟨by decide +kernel, by decide +kernel⟩, List.mem_of_getElem? (i := 818) (by decide +kernel), List.mem_of_getElem? (i := 961) (by decide +kernel), List.mem_of_getElem? (i := 962) (by decide +kernel)⟩
theorem lw_p35 : lw_okq (⟨"FeltedWashModel", "washed", "(I)I"⟩, 16) := ⟨⟨by decide +kernel, by decide +kernel⟩, List.mem_of_getElem? (i := 818) (by decide +kernel), List.mem_of_getElem? (i := 982) (by decide +kernel), List.mem_of_getElem? (i := 983) (by decide +kernel)⟩
theorem lw_p36 : lw_okq (⟨"FeltedWashModel", "shrinks", "(III)V"⟩, 16) := ⟨⟨by decide +kernel, by decide +kernel⟩, List.mem_of_getElem? (i := 818) (by decide +kernel), List.mem_of_getElem? (i := 986) (by decide +kernel), List.mem_of_getElem? (i := 987) (by decide +kernel)⟩
theorem lw_p37 : lw_okq (⟨"FeltedWashModel", "drawn", "(II)I"⟩, 16) := ⟨⟨by decide +kernel, by decide +kernel⟩, List.mem_of_getElem? (i := 818) (by decide +kernel), List.mem_of_getElem? (i := 999) (by decide +kernel), List.mem_of_getElem? (i := 1000) (by decide +kernel)⟩
theorem lw_p38 : lw_okq (⟨"FeltedWashModel", "addsPerson", "(II)I"⟩, 16) := ⟨⟨by decide +kernel, by decide +kernel⟩, List.mem_of_getElem? (i := 818) (by decide +kernel), List.mem_of_getElem? (i := 1019) (by decide +kernel), List.mem_of_getElem? (i := 1020) (by decide +kernel)⟩
theorem lw_p39 : lw_okq (⟨"FeltedWashModel", "isPerson", "(I)Z"⟩, 16) := ⟨⟨by decide +kernel, by decide +kernel⟩, List.mem_of_getElem? (i := 818) (by decide +kernel), List.mem_of_getElem? (i := 1027) (by decide +kernel), List.mem_of_getElem? (i := 1028) (by decide +kernel)⟩
theorem lw_p40 : lw_okq (⟨"FeltedWashModel", "daysGo", "(I)V"⟩, 16) := ⟨⟨by decide +kernel, by decide +kernel⟩, List.mem_of_getElem? (i := 818) (by decide +kernel), List.mem_of_getElem? (i := 1041) (by decide +kernel), List.mem_of_getElem? (i := 1042) (by decide +kernel)⟩
theorem lw_p41 : lw_okq (⟨"FeltedWashModel", "dries", "(I)V"⟩, 16) := ⟨⟨by decide +kernel, by decide +kernel⟩, List.mem_of_getElem? (i := 818) (by decide +kernel), List.mem_of_getElem? (i := 1045) (by decide +kernel), List.mem_of_getElem? (i := 1046) (by decide +kernel)⟩
theorem lw_p42 : lw_okq (⟨"FeltedWashModel", "laysAside", "()V"⟩, 16) := ⟨⟨by decide +kernel, by decide +kernel⟩, List.mem_of_getElem? (i := 818) (by decide +kernel), List.mem_of_getElem? (i := 1057) (by decide +kernel), List.mem_of_getElem? (i := 1058) (by decide +kernel)⟩
theorem lw_p43 : lw_okq (⟨"FeltedWashModel", "takesBack", "(I)I"⟩, 16) := ⟨⟨by decide +kernel, by decide +kernel⟩, List.mem_of_getElem? (i := 818) (by decide +kernel), List.mem_of_getElem? (i := 1061) (by decide +kernel), List.mem_of_getElem? (i := 1062) (by decide +kernel)⟩
theorem lw_p44 : lw_okq (⟨"FeltedWashModel", "washedTo", "(III)I"⟩, 16) := ⟨⟨by decide +kernel, by decide +kernel⟩, List.mem_of_getElem? (i := 818) (by decide +kernel), List.mem_of_getElem? (i := 1070) (by decide +kernel), List.mem_of_getElem? (i := 1071) (by decide +kernel)⟩
theorem lw_p45 : lw_okq (⟨"FeltedWashModel", "isWashed", "(II)V"⟩, 16) := ⟨⟨by decide +kernel, by decide +kernel⟩, List.mem_of_getElem? (i := 818) (by decide +kernel), List.mem_of_getElem? (i := 1074) (by decide +kernel), List.mem_of_getElem? (i := 1075) (by decide +kernel)⟩
theorem lw_p46 : lw_okq (⟨"FeltedWashModel", "isFittingBy", "(IIII)Z"⟩, 16) := ⟨⟨by decide +kernel, by decide +kernel⟩, List.mem_of_getElem? (i := 818) (by decide +kernel), List.mem_of_getElem? (i := 1082) (by decide +kernel), List.mem_of_getElem? (i := 1083) (by decide +kernel)⟩
theorem lw_p47 : lw_okq (⟨"FeltedWashModel", "manyFitting", "(I)I"⟩, 16) := ⟨⟨by decide +kernel, by decide +kernel⟩, List.mem_of_getElem? (i := 818) (by decide +kernel), List.mem_of_getElem? (i := 1103) (by decide +kernel), List.mem_of_getElem? (i := 1104) (by decide +kernel)⟩
def lw_privs_3 : List (MethodName × Nat) := [(⟨"FeltedWashModel", "feltsOf", "(I)I"⟩, 16), (⟨"FeltedWashModel", "bearsOf", "(I)I"⟩, 16), (⟨"FeltedWashModel", "keepsOf", "(I)I"⟩, 16), (⟨"FeltedWashModel", "washed", "(I)I"⟩, 16), (⟨"FeltedWashModel", "shrinks", "(III)V"⟩, 16), (⟨"FeltedWashModel", "drawn", "(II)I"⟩, 16), (⟨"FeltedWashModel", "addsPerson", "(II)I"⟩, 16), (⟨"FeltedWashModel", "isPerson", "(I)Z"⟩, 16), (⟨"FeltedWashModel", "daysGo", "(I)V"⟩, 16), (⟨"FeltedWashModel", "dries", "(I)V"⟩, 16), (⟨"FeltedWashModel", "laysAside", "()V"⟩, 16), (⟨"FeltedWashModel", "takesBack", "(I)I"⟩, 16), (⟨"FeltedWashModel", "washedTo", "(III)I"⟩, 16), (⟨"FeltedWashModel", "isWashed", "(II)V"⟩, 16), (⟨"FeltedWashModel", "isFittingBy", "(IIII)Z"⟩, 16), (⟨"FeltedWashModel", "manyFitting", "(I)I"⟩, 16)]
theorem lw_r3 : ∀ q ∈ lw_privs_3, lw_okq q := List.forall_mem_cons.mpr ⟨lw_p32, List.forall_mem_cons.mpr ⟨lw_p33, List.forall_mem_cons.mpr ⟨lw_p34, List.forall_mem_cons.mpr ⟨lw_p35, List.forall_mem_cons.mpr ⟨lw_p36, List.forall_mem_cons.mpr ⟨lw_p37, List.forall_mem_cons.mpr ⟨lw_p38, List.forall_mem_cons.mpr ⟨lw_p39, List.forall_mem_cons.mpr ⟨lw_p40, List.forall_mem_cons.mpr ⟨lw_p41, List.forall_mem_cons.mpr ⟨lw_p42, List.forall_mem_cons.mpr ⟨lw_p43, List.forall_mem_cons.mpr ⟨lw_p44, List.forall_mem_cons.mpr ⟨lw_p45, List.forall_mem_cons.mpr ⟨lw_p46, List.forall_mem_cons.mpr ⟨lw_p47, fun _ h => absurd h List.not_mem_nil⟩⟩⟩⟩⟩⟩⟩⟩⟩⟩⟩⟩⟩⟩⟩⟩
theorem lw_p48 : lw_okq (⟨"FeltedWashModel", "saves", "()V"⟩, 16) := ⟨⟨by decide +kernel, by decide +kernel⟩, List.mem_of_getElem? (i := 818) (by decide +kernel), List.mem_of_getElem? (i := 1124) (by decide +kernel), List.mem_of_getElem? (i := 1125) (by decide +kernel)⟩
theorem lw_p49 : lw_okq (⟨"FeltedWashModel", "token", "()V"⟩, 16) := ⟨⟨by decide +kernel, by decide +kernel⟩, List.mem_of_getElem? (i := 818) (by decide +kernel), List.mem_of_getElem? (i := 1128) (by decide +kernel), List.mem_of_getElem? (i := 1129) (by decide +kernel)⟩
theorem lw_p50 : lw_okq (⟨"FeltedWashModel", "byteAt", "(I)I"⟩, 16) := ⟨⟨by decide +kernel, by decide +kernel⟩, List.mem_of_getElem? (i := 818) (by decide +kernel), List.mem_of_getElem? (i := 1132) (by decide +kernel), List.mem_of_getElem? (i := 1133) (by decide +kernel)⟩
theorem lw_p51 : lw_okq (⟨"FeltedWashModel", "item", "()V"⟩, 16) := ⟨⟨by decide +kernel, by decide +kernel⟩, List.mem_of_getElem? (i := 818) (by decide +kernel), List.mem_of_getElem? (i := 1146) (by decide +kernel), List.mem_of_getElem? (i := 1147) (by decide +kernel)⟩
theorem lw_p52 : lw_okq (⟨"FeltedWashModel", "kindHere", "()I"⟩, 16) := ⟨⟨by decide +kernel, by decide +kernel⟩, List.mem_of_getElem? (i := 818) (by decide +kernel), List.mem_of_getElem? (i := 1150) (by decide +kernel), List.mem_of_getElem? (i := 1151) (by decide +kernel)⟩
theorem lw_p53 : lw_okq (⟨"FeltedWashModel", "word", "()J"⟩, 16) := ⟨⟨by decide +kernel, by decide +kernel⟩, List.mem_of_getElem? (i := 818) (by decide +kernel), List.mem_of_getElem? (i := 1154) (by decide +kernel), List.mem_of_getElem? (i := 1155) (by decide +kernel)⟩
theorem lw_p54 : lw_okq (⟨"FeltedWashModel", "garmentItem", "(I)V"⟩, 16) := ⟨⟨by decide +kernel, by decide +kernel⟩, List.mem_of_getElem? (i := 818) (by decide +kernel), List.mem_of_getElem? (i := 1166) (by decide +kernel), List.mem_of_getElem? (i := 1167) (by decide +kernel)⟩
theorem lw_p55 : lw_okq (⟨"FeltedWashModel", "must", "(Z)V"⟩, 16) := ⟨⟨by decide +kernel, by decide +kernel⟩, List.mem_of_getElem? (i := 818) (by decide +kernel), List.mem_of_getElem? (i := 1170) (by decide +kernel), List.mem_of_getElem? (i := 1171) (by decide +kernel)⟩
theorem lw_p56 : lw_okq (⟨"FeltedWashModel", "number", "(II)V"⟩, 16) := ⟨⟨by decide +kernel, by decide +kernel⟩, List.mem_of_getElem? (i := 818) (by decide +kernel), List.mem_of_getElem? (i := 1175) (by decide +kernel), List.mem_of_getElem? (i := 1176) (by decide +kernel)⟩
theorem lw_p57 : lw_okq (⟨"FeltedWashModel", "personItem", "()V"⟩, 16) := ⟨⟨by decide +kernel, by decide +kernel⟩, List.mem_of_getElem? (i := 818) (by decide +kernel), List.mem_of_getElem? (i := 1181) (by decide +kernel), List.mem_of_getElem? (i := 1182) (by decide +kernel)⟩
theorem lw_p58 : lw_okq (⟨"FeltedWashModel", "degreesItem", "()V"⟩, 16) := ⟨⟨by decide +kernel, by decide +kernel⟩, List.mem_of_getElem? (i := 818) (by decide +kernel), List.mem_of_getElem? (i := 1186) (by decide +kernel), List.mem_of_getElem? (i := 1187) (by decide +kernel)⟩
theorem lw_p59 : lw_okq (⟨"FeltedWashModel", "towelItem", "(Z)V"⟩, 16) := ⟨⟨by decide +kernel, by decide +kernel⟩, List.mem_of_getElem? (i := 818) (by decide +kernel), List.mem_of_getElem? (i := 1192) (by decide +kernel), List.mem_of_getElem? (i := 1193) (by decide +kernel)⟩
theorem lw_p60 : lw_okq (⟨"FeltedWashModel", "washItem", "()V"⟩, 16) := ⟨⟨by decide +kernel, by decide +kernel⟩, List.mem_of_getElem? (i := 818) (by decide +kernel), List.mem_of_getElem? (i := 1197) (by decide +kernel), List.mem_of_getElem? (i := 1198) (by decide +kernel)⟩
theorem lw_p61 : lw_okq (⟨"FeltedWashModel", "putsBack", "()V"⟩, 16) := ⟨⟨by decide +kernel, by decide +kernel⟩, List.mem_of_getElem? (i := 818) (by decide +kernel), List.mem_of_getElem? (i := 1201) (by decide +kernel), List.mem_of_getElem? (i := 1202) (by decide +kernel)⟩
theorem lw_p62 : lw_okq (⟨"FeltedWashModel", "wrongSheet", "(I)I"⟩, 16) := ⟨⟨by decide +kernel, by decide +kernel⟩, List.mem_of_getElem? (i := 818) (by decide +kernel), List.mem_of_getElem? (i := 1218) (by decide +kernel), List.mem_of_getElem? (i := 1219) (by decide +kernel)⟩
theorem lw_p63 : lw_okq (⟨"FeltedWashModel", "isBook", "(II)Z"⟩, 16) := ⟨⟨by decide +kernel, by decide +kernel⟩, List.mem_of_getElem? (i := 818) (by decide +kernel), List.mem_of_getElem? (i := 1242) (by decide +kernel), List.mem_of_getElem? (i := 1243) (by decide +kernel)⟩
def lw_privs_4 : List (MethodName × Nat) := [(⟨"FeltedWashModel", "saves", "()V"⟩, 16), (⟨"FeltedWashModel", "token", "()V"⟩, 16), (⟨"FeltedWashModel", "byteAt", "(I)I"⟩, 16), (⟨"FeltedWashModel", "item", "()V"⟩, 16), (⟨"FeltedWashModel", "kindHere", "()I"⟩, 16), (⟨"FeltedWashModel", "word", "()J"⟩, 16), (⟨"FeltedWashModel", "garmentItem", "(I)V"⟩, 16), (⟨"FeltedWashModel", "must", "(Z)V"⟩, 16), (⟨"FeltedWashModel", "number", "(II)V"⟩, 16), (⟨"FeltedWashModel", "personItem", "()V"⟩, 16), (⟨"FeltedWashModel", "degreesItem", "()V"⟩, 16), (⟨"FeltedWashModel", "towelItem", "(Z)V"⟩, 16), (⟨"FeltedWashModel", "washItem", "()V"⟩, 16), (⟨"FeltedWashModel", "putsBack", "()V"⟩, 16), (⟨"FeltedWashModel", "wrongSheet", "(I)I"⟩, 16), (⟨"FeltedWashModel", "isBook", "(II)Z"⟩, 16)]
theorem lw_r4 : ∀ q ∈ lw_privs_4, lw_okq q := List.forall_mem_cons.mpr ⟨lw_p48, List.forall_mem_cons.mpr ⟨lw_p49, List.forall_mem_cons.mpr ⟨lw_p50, List.forall_mem_cons.mpr ⟨lw_p51, List.forall_mem_cons.mpr ⟨lw_p52, List.forall_mem_cons.mpr ⟨lw_p53, List.forall_mem_cons.mpr ⟨lw_p54, List.forall_mem_cons.mpr ⟨lw_p55, List.forall_mem_cons.mpr ⟨lw_p56, List.forall_mem_cons.mpr ⟨lw_p57, List.forall_mem_cons.mpr ⟨lw_p58, List.forall_mem_cons.mpr ⟨lw_p59, List.forall_mem_cons.mpr ⟨lw_p60, List.forall_mem_cons.mpr ⟨lw_p61, List.forall_mem_cons.mpr ⟨lw_p62, List.forall_mem_cons.mpr ⟨lw_p63, fun _ h => absurd h List.not_mem_nil⟩⟩⟩⟩⟩⟩⟩⟩⟩⟩⟩⟩⟩⟩⟩⟩
theorem lw_p64 : lw_okq (⟨"FeltedWashModel", "holes", "()I"⟩, 16) := ⟨⟨by decide +kernel, by decide +kernel⟩, List.mem_of_getElem? (i := 818) (by decide +kernel), List.mem_of_getElem? (i := 1262) (by decide +kernel), List.mem_of_getElem? (i := 1263) (by decide +kernel)⟩
def lw_privs_5 : List (MethodName × Nat) := [(⟨"FeltedWashModel", "holes", "()I"⟩, 16)]
theorem lw_r5 : ∀ q ∈ lw_privs_5, lw_okq q := List.forall_mem_cons.mpr ⟨lw_p64, fun _ h => absurd h List.not_mem_nil⟩
def lw_privs : List (MethodName × Nat) := lw_privs_1 ++ (lw_privs_2 ++ (lw_privs_3 ++ (lw_privs_4 ++ (lw_privs_5))))
def lw_tbl : List Cond := k2_sels lw_privs ++ tables_1
theorem lw_privs_ok : ∀ q ∈ lw_privs, lw_okq q := by
  show ∀ q ∈ lw_privs_1 ++ (lw_privs_2 ++ (lw_privs_3 ++ (lw_privs_4 ++ (lw_privs_5)))), lw_okq q
  exact List.forall_mem_append.mpr ⟨lw_r1, List.forall_mem_append.mpr ⟨lw_r2, List.forall_mem_append.mpr ⟨lw_r3, List.forall_mem_append.mpr ⟨lw_r4, lw_r5⟩⟩⟩⟩
end
section
/-! ===== BEGIN words of one list among another's, by their places ===== -/
theorem goodIn_r {big : List Cond} (ws : List Cond) (ps : List Nat) (hp : ws = ps.filterMap (fun i => big[i]?)) (h : ws.all goodWord = true) : GoodIn big ws := by
  intro w hw
  have h1 := List.all_eq_true.mp h w hw
  rw [hp] at hw
  obtain ⟨i, -, hi⟩ := List.mem_filterMap.mp hw
  have hm : w ∈ big := by first | exact List.mem_of_getElem? hi | exact List.getElem?_mem hi
  exact ⟨hm, good_of_word h1⟩
theorem goodIn_app {big a b : List Cond} (ha : GoodIn big a) (hb : GoodIn big b) : GoodIn big (a ++ b) := fun w h => (List.mem_append.mp h).elim (ha w) (hb w)
theorem goodIn_ca {big a b : List Cond} {c : Cond} (ha : GoodIn big (c :: a)) (hb : GoodIn big b) : GoodIn big (c :: (a ++ b)) := fun w h => (List.mem_cons.mp h).elim (fun e => ha w (List.mem_cons.mpr (Or.inl e))) (fun h => (List.mem_append.mp h).elim (fun h => ha w (List.mem_cons.mpr (Or.inr h))) (hb w))
theorem goodIn_sub {big ws : List Cond} (hm : ∀ w ∈ ws, w ∈ big) (h : ws.all goodWord = true) : GoodIn big ws := fun w hw => ⟨hm w hw, good_of_word (List.all_eq_true.mp h w hw)⟩
/-! ===== END ===== -/

/-! ===== BEGIN printed: names, fields, word lists, decode rows ===== -/
def RX0 : String := "FeltedWash$Basket"
def TX0 : u_T := fun k => match k with
  | 0 => ("FeltedWash$Basket", "kinds", "[LFeltedWash$Kind;", true)
  | 1 => ("FeltedWash$Basket", "garments", "[LFeltedWash$Garment;", true)
  | 2 => ("FeltedWash$Basket", "people", "[LFeltedWash$Person;", true)
  | 3 => ("FeltedWash$Basket", "garmentCount", "I", false)
  | 4 => ("FeltedWash$Basket", "personCount", "I", false)
  | 5 => ("FeltedWash$Basket", "day", "I", false)
  | 6 => ("FeltedWash$Basket", "degrees", "I", false)
  | _ => ("FeltedWash$Basket", "towels", "I", false)
def tyX0 : Nat → FieldType := fun k => match k with
  | 0 => .array (.object "FeltedWash$Kind")
  | 1 => .array (.object "FeltedWash$Garment")
  | 2 => .array (.object "FeltedWash$Person")
  | 3 => .int
  | 4 => .int
  | 5 => .int
  | 6 => .int
  | _ => .int
abbrev wsX00 : List Cond := u_ws RX0 TX0 8
theorem nmX0 : ∀ a, a < 8 → ∀ b, b < 8 → a ≠ b → (TX0 a).2.1 ≠ (TX0 b).2.1 := by decide +kernel
theorem tyX0_ok : ∀ k, k < 8 → parseFieldDescriptor (TX0 k).2.2.1 = some (tyX0 k) := by decide +kernel
abbrev cX0_init : ByteArray := prog_2_method_1_code
def yX0_init : MethodName := ⟨RX0, "<init>", "([LFeltedWash$Kind;)V"⟩
abbrev cX0_become : ByteArray := prog_2_method_2_code
def yX0_become : MethodName := ⟨RX0, "become", "(LFeltedWash$Basket;)V"⟩
abbrev cX0_kindAt : ByteArray := prog_2_method_3_code
def yX0_kindAt : MethodName := ⟨RX0, "kindAt", "(I)LFeltedWash$Kind;"⟩
abbrev cX0_garmentAt : ByteArray := prog_2_method_4_code
def yX0_garmentAt : MethodName := ⟨RX0, "garmentAt", "(I)LFeltedWash$Garment;"⟩
abbrev cX0_personAt : ByteArray := prog_2_method_5_code
def yX0_personAt : MethodName := ⟨RX0, "personAt", "(I)LFeltedWash$Person;"⟩
abbrev cX0_addGarment : ByteArray := prog_2_method_6_code
def yX0_addGarment : MethodName := ⟨RX0, "addGarment", "(I)LFeltedWash$Garment;"⟩
abbrev cX0_addPerson : ByteArray := prog_2_method_7_code
def yX0_addPerson : MethodName := ⟨RX0, "addPerson", "(II)LFeltedWash$Person;"⟩
abbrev cX0_letDaysGo : ByteArray := prog_2_method_8_code
def yX0_letDaysGo : MethodName := ⟨RX0, "letDaysGo", "(I)V"⟩
abbrev cX0_wetOnes : ByteArray := prog_2_method_9_code
def yX0_wetOnes : MethodName := ⟨RX0, "wetOnes", "()I"⟩
abbrev cX0_onesWithHoles : ByteArray := prog_2_method_10_code
def yX0_onesWithHoles : MethodName := ⟨RX0, "onesWithHoles", "()I"⟩
abbrev cX0_onesFor : ByteArray := prog_2_method_11_code
def yX0_onesFor : MethodName := ⟨RX0, "onesFor", "(LFeltedWash$Person;)I"⟩
abbrev cX0_onesForAnybody : ByteArray := prog_2_method_12_code
def yX0_onesForAnybody : MethodName := ⟨RX0, "onesForAnybody", "()I"⟩
abbrev cX0_bestDressed : ByteArray := prog_2_method_13_code
def yX0_bestDressed : MethodName := ⟨RX0, "bestDressed", "()I"⟩
abbrev cX0_allHoles : ByteArray := prog_2_method_14_code
def yX0_allHoles : MethodName := ⟨RX0, "allHoles", "()I"⟩
def RX1 : String := "FeltedWash$Cotton"
def TX1 : u_T := fun k => match k with
  | 0 => ("FeltedWash$Kind", "number", "I", true)
  | _ => ("FeltedWash$Kind", "above", "LFeltedWash$Kind;", true)
def tyX1 : Nat → FieldType := fun k => match k with
  | 0 => .int
  | _ => .object "FeltedWash$Kind"
abbrev wsX10 : List Cond := u_ws RX1 TX1 2
theorem nmX1 : ∀ a, a < 2 → ∀ b, b < 2 → a ≠ b → (TX1 a).2.1 ≠ (TX1 b).2.1 := by decide +kernel
theorem tyX1_ok : ∀ k, k < 2 → parseFieldDescriptor (TX1 k).2.2.1 = some (tyX1 k) := by decide +kernel
abbrev cX1_init : ByteArray := prog_3_method_1_code
def yX1_init : MethodName := ⟨RX1, "<init>", "(ILFeltedWash$Kind;)V"⟩
abbrev cX1_shrinks : ByteArray := prog_3_method_2_code
def yX1_shrinks : MethodName := ⟨RX1, "shrinks", "(II)I"⟩
abbrev cX1_bears : ByteArray := prog_3_method_3_code
def yX1_bears : MethodName := ⟨RX1, "bears", "(II)I"⟩
abbrev cX1_keeps : ByteArray := prog_3_method_4_code
def yX1_keeps : MethodName := ⟨RX1, "keeps", "()I"⟩
def RX2 : String := "FeltedWash$Garment"
def TX2 : u_T := fun k => match k with
  | 0 => ("FeltedWash$Garment", "sort", "LFeltedWash$Kind;", false)
  | 1 => ("FeltedWash$Garment", "length", "I", false)
  | 2 => ("FeltedWash$Garment", "breadth", "I", false)
  | 3 => ("FeltedWash$Garment", "thick", "I", false)
  | 4 => ("FeltedWash$Garment", "wet", "I", false)
  | 5 => ("FeltedWash$Garment", "drawn", "I", false)
  | _ => ("FeltedWash$Garment", "holes", "I", false)
def tyX2 : Nat → FieldType := fun k => match k with
  | 0 => .object "FeltedWash$Kind"
  | 1 => .int
  | 2 => .int
  | 3 => .int
  | 4 => .int
  | 5 => .int
  | _ => .int
abbrev wsX20 : List Cond := u_ws RX2 TX2 7
theorem nmX2 : ∀ a, a < 7 → ∀ b, b < 7 → a ≠ b → (TX2 a).2.1 ≠ (TX2 b).2.1 := by decide +kernel
theorem tyX2_ok : ∀ k, k < 7 → parseFieldDescriptor (TX2 k).2.2.1 = some (tyX2 k) := by decide +kernel
abbrev cX2_init : ByteArray := prog_4_method_1_code
def yX2_init : MethodName := ⟨RX2, "<init>", "(LFeltedWash$Kind;)V"⟩
abbrev cX2_beNew : ByteArray := prog_4_method_2_code
def yX2_beNew : MethodName := ⟨RX2, "beNew", "(LFeltedWash$Kind;)V"⟩
abbrev cX2_become : ByteArray := prog_4_method_3_code
def yX2_become : MethodName := ⟨RX2, "become", "(LFeltedWash$Garment;)V"⟩
abbrev cX2_goThroughWash : ByteArray := prog_4_method_4_code
def yX2_goThroughWash : MethodName := ⟨RX2, "goThroughWash", "(II)V"⟩
abbrev cX2_goThroughWashes : ByteArray := prog_4_method_5_code
def yX2_goThroughWashes : MethodName := ⟨RX2, "goThroughWashes", "(III)V"⟩
abbrev cX2_stretch : ByteArray := prog_4_method_6_code
def yX2_stretch : MethodName := ⟨RX2, "stretch", "(I)V"⟩
abbrev cX2_dryFor : ByteArray := prog_4_method_7_code
def yX2_dryFor : MethodName := ⟨RX2, "dryFor", "(I)V"⟩
abbrev cX2_dryOneDay : ByteArray := prog_4_method_8_code
def yX2_dryOneDay : MethodName := ⟨RX2, "dryOneDay", "()V"⟩
abbrev cX2_suits : ByteArray := prog_4_method_9_code
def yX2_suits : MethodName := ⟨RX2, "suits", "(LFeltedWash$Person;)Z"⟩
def RX3 : String := "FeltedWash$Jumper"
def TX3 : u_T := fun k => match k with
  | 0 => ("FeltedWash$Kind", "number", "I", true)
  | _ => ("FeltedWash$Kind", "above", "LFeltedWash$Kind;", true)
def tyX3 : Nat → FieldType := fun k => match k with
  | 0 => .int
  | _ => .object "FeltedWash$Kind"
abbrev wsX30 : List Cond := u_ws RX3 TX3 2
theorem nmX3 : ∀ a, a < 2 → ∀ b, b < 2 → a ≠ b → (TX3 a).2.1 ≠ (TX3 b).2.1 := by decide +kernel
theorem tyX3_ok : ∀ k, k < 2 → parseFieldDescriptor (TX3 k).2.2.1 = some (tyX3 k) := by decide +kernel
abbrev cX3_init : ByteArray := prog_5_method_1_code
def yX3_init : MethodName := ⟨RX3, "<init>", "(ILFeltedWash$Kind;)V"⟩
abbrev cX3_shrinks : ByteArray := prog_5_method_2_code
def yX3_shrinks : MethodName := ⟨RX3, "shrinks", "(II)I"⟩
abbrev cX3_felts : ByteArray := prog_5_method_3_code
def yX3_felts : MethodName := ⟨RX3, "felts", "(I)I"⟩
abbrev cX3_bears : ByteArray := prog_5_method_4_code
def yX3_bears : MethodName := ⟨RX3, "bears", "(II)I"⟩
abbrev cX3_keeps : ByteArray := prog_5_method_5_code
def yX3_keeps : MethodName := ⟨RX3, "keeps", "()I"⟩
def RX4 : String := "FeltedWash$Kind"
def TX4 : u_T := fun k => match k with
  | 0 => ("FeltedWash$Kind", "number", "I", true)
  | _ => ("FeltedWash$Kind", "above", "LFeltedWash$Kind;", true)
def tyX4 : Nat → FieldType := fun k => match k with
  | 0 => .int
  | _ => .object "FeltedWash$Kind"
abbrev wsX40 : List Cond := u_ws RX4 TX4 2
theorem nmX4 : ∀ a, a < 2 → ∀ b, b < 2 → a ≠ b → (TX4 a).2.1 ≠ (TX4 b).2.1 := by decide +kernel
theorem tyX4_ok : ∀ k, k < 2 → parseFieldDescriptor (TX4 k).2.2.1 = some (tyX4 k) := by decide +kernel
abbrev cX4_init : ByteArray := prog_6_method_1_code
def yX4_init : MethodName := ⟨RX4, "<init>", "(ILFeltedWash$Kind;)V"⟩
abbrev cX4_inOrder : ByteArray := prog_6_method_2_code
def yX4_inOrder : MethodName := ⟨RX4, "inOrder", "()[LFeltedWash$Kind;"⟩
abbrev cX4_isOrIsUnder : ByteArray := prog_6_method_3_code
def yX4_isOrIsUnder : MethodName := ⟨RX4, "isOrIsUnder", "(I)Z"⟩
abbrev cX4_shrinks : ByteArray := prog_6_method_4_code
def yX4_shrinks : MethodName := ⟨RX4, "shrinks", "(II)I"⟩
abbrev cX4_felts : ByteArray := prog_6_method_5_code
def yX4_felts : MethodName := ⟨RX4, "felts", "(I)I"⟩
abbrev cX4_bears : ByteArray := prog_6_method_6_code
def yX4_bears : MethodName := ⟨RX4, "bears", "(II)I"⟩
abbrev cX4_keeps : ByteArray := prog_6_method_7_code
def yX4_keeps : MethodName := ⟨RX4, "keeps", "()I"⟩
def RX5 : String := "FeltedWash$Person"
def TX5 : u_T := fun k => match k with
  | 0 => ("FeltedWash$Person", "length", "I", false)
  | _ => ("FeltedWash$Person", "breadth", "I", false)
def tyX5 : Nat → FieldType := fun k => match k with
  | 0 => .int
  | _ => .int
abbrev wsX50 : List Cond := u_ws RX5 TX5 2
theorem nmX5 : ∀ a, a < 2 → ∀ b, b < 2 → a ≠ b → (TX5 a).2.1 ≠ (TX5 b).2.1 := by decide +kernel
theorem tyX5_ok : ∀ k, k < 2 → parseFieldDescriptor (TX5 k).2.2.1 = some (tyX5 k) := by decide +kernel
abbrev cX5_init : ByteArray := prog_7_method_1_code
def yX5_init : MethodName := ⟨RX5, "<init>", "()V"⟩
def RX6 : String := "FeltedWash$Sheet"
def TX6 : u_T := fun k => match k with
  | 0 => ("FeltedWash$Sheet", "numbers", "[J", true)
  | 1 => ("FeltedWash$Sheet", "bits", "I", false)
  | _ => ("FeltedWash$Sheet", "count", "I", false)
def tyX6 : Nat → FieldType := fun k => match k with
  | 0 => .array .long
  | 1 => .int
  | _ => .int
abbrev wsX60 : List Cond := u_ws RX6 TX6 3
theorem nmX6 : ∀ a, a < 3 → ∀ b, b < 3 → a ≠ b → (TX6 a).2.1 ≠ (TX6 b).2.1 := by decide +kernel
theorem tyX6_ok : ∀ k, k < 3 → parseFieldDescriptor (TX6 k).2.2.1 = some (tyX6 k) := by decide +kernel
abbrev cX6_init : ByteArray := prog_8_method_1_code
def yX6_init : MethodName := ⟨RX6, "<init>", "()V"⟩
abbrev cX6_beginAnew : ByteArray := prog_8_method_2_code
def yX6_beginAnew : MethodName := ⟨RX6, "beginAnew", "(II)V"⟩
abbrev cX6_isMissing : ByteArray := prog_8_method_3_code
def yX6_isMissing : MethodName := ⟨RX6, "isMissing", "()Z"⟩
abbrev cX6_hasRun : ByteArray := prog_8_method_4_code
def yX6_hasRun : MethodName := ⟨RX6, "hasRun", "(II)Z"⟩
abbrev cX6_put : ByteArray := prog_8_method_5_code
def yX6_put : MethodName := ⟨RX6, "put", "(IJ)V"⟩
abbrev cX6_lowestBits : ByteArray := prog_8_method_6_code
def yX6_lowestBits : MethodName := ⟨RX6, "lowestBits", "(J)J"⟩
def RX7 : String := "FeltedWash$Silk"
def TX7 : u_T := fun k => match k with
  | 0 => ("FeltedWash$Kind", "number", "I", true)
  | _ => ("FeltedWash$Kind", "above", "LFeltedWash$Kind;", true)
def tyX7 : Nat → FieldType := fun k => match k with
  | 0 => .int
  | _ => .object "FeltedWash$Kind"
abbrev wsX70 : List Cond := u_ws RX7 TX7 2
theorem nmX7 : ∀ a, a < 2 → ∀ b, b < 2 → a ≠ b → (TX7 a).2.1 ≠ (TX7 b).2.1 := by decide +kernel
theorem tyX7_ok : ∀ k, k < 2 → parseFieldDescriptor (TX7 k).2.2.1 = some (tyX7 k) := by decide +kernel
abbrev cX7_init : ByteArray := prog_9_method_1_code
def yX7_init : MethodName := ⟨RX7, "<init>", "(ILFeltedWash$Kind;)V"⟩
abbrev cX7_shrinks : ByteArray := prog_9_method_2_code
def yX7_shrinks : MethodName := ⟨RX7, "shrinks", "(II)I"⟩
abbrev cX7_bears : ByteArray := prog_9_method_3_code
def yX7_bears : MethodName := ⟨RX7, "bears", "(II)I"⟩
abbrev cX7_keeps : ByteArray := prog_9_method_4_code
def yX7_keeps : MethodName := ⟨RX7, "keeps", "()I"⟩
def RX8 : String := "FeltedWash$Sock"
def TX8 : u_T := fun k => match k with
  | 0 => ("FeltedWash$Kind", "number", "I", true)
  | _ => ("FeltedWash$Kind", "above", "LFeltedWash$Kind;", true)
def tyX8 : Nat → FieldType := fun k => match k with
  | 0 => .int
  | _ => .object "FeltedWash$Kind"
abbrev wsX80 : List Cond := u_ws RX8 TX8 2
theorem nmX8 : ∀ a, a < 2 → ∀ b, b < 2 → a ≠ b → (TX8 a).2.1 ≠ (TX8 b).2.1 := by decide +kernel
theorem tyX8_ok : ∀ k, k < 2 → parseFieldDescriptor (TX8 k).2.2.1 = some (tyX8 k) := by decide +kernel
abbrev cX8_init : ByteArray := prog_10_method_1_code
def yX8_init : MethodName := ⟨RX8, "<init>", "(ILFeltedWash$Kind;)V"⟩
abbrev cX8_shrinks : ByteArray := prog_10_method_2_code
def yX8_shrinks : MethodName := ⟨RX8, "shrinks", "(II)I"⟩
abbrev cX8_felts : ByteArray := prog_10_method_3_code
def yX8_felts : MethodName := ⟨RX8, "felts", "(I)I"⟩
abbrev cX8_bears : ByteArray := prog_10_method_4_code
def yX8_bears : MethodName := ⟨RX8, "bears", "(II)I"⟩
def RX9 : String := "FeltedWash$Tape"
def TX9 : u_T := fun k => match k with
  | 0 => ("FeltedWash$Tape", "bytes", "[B", true)
  | 1 => ("FeltedWash$Tape", "count", "I", false)
  | 2 => ("FeltedWash$Tape", "type", "I", false)
  | 3 => ("FeltedWash$Tape", "start", "I", false)
  | 4 => ("FeltedWash$Tape", "end", "I", false)
  | 5 => ("FeltedWash$Tape", "value", "I", false)
  | 6 => ("FeltedWash$Tape", "firstSpan", "I", false)
  | _ => ("FeltedWash$Tape", "secondSpan", "I", false)
def tyX9 : Nat → FieldType := fun k => match k with
  | 0 => .array .byte
  | 1 => .int
  | 2 => .int
  | 3 => .int
  | 4 => .int
  | 5 => .int
  | 6 => .int
  | _ => .int
abbrev wsX90 : List Cond := u_ws RX9 TX9 8
theorem nmX9 : ∀ a, a < 8 → ∀ b, b < 8 → a ≠ b → (TX9 a).2.1 ≠ (TX9 b).2.1 := by decide +kernel
theorem tyX9_ok : ∀ k, k < 8 → parseFieldDescriptor (TX9 k).2.2.1 = some (tyX9 k) := by decide +kernel
abbrev cX9_init : ByteArray := prog_11_method_1_code
def yX9_init : MethodName := ⟨RX9, "<init>", "()V"⟩
abbrev cX9_append : ByteArray := prog_11_method_2_code
def yX9_append : MethodName := ⟨RX9, "append", "(B)V"⟩
abbrev cX9_clear : ByteArray := prog_11_method_3_code
def yX9_clear : MethodName := ⟨RX9, "clear", "()I"⟩
abbrev cX9_tellInto : ByteArray := prog_11_method_4_code
def yX9_tellInto : MethodName := ⟨RX9, "tellInto", "(LFeltedWash$Basket;)I"⟩
abbrev cX9_takeItem : ByteArray := prog_11_method_5_code
def yX9_takeItem : MethodName := ⟨RX9, "takeItem", "(LFeltedWash$Basket;)Z"⟩
abbrev cX9_kindNamed : ByteArray := prog_11_method_6_code
def yX9_kindNamed : MethodName := ⟨RX9, "kindNamed", "()I"⟩
abbrev cX9_takeSpans : ByteArray := prog_11_method_7_code
def yX9_takeSpans : MethodName := ⟨RX9, "takeSpans", "(LFeltedWash$Garment;)Z"⟩
abbrev cX9_takeThickness : ByteArray := prog_11_method_8_code
def yX9_takeThickness : MethodName := ⟨RX9, "takeThickness", "(LFeltedWash$Garment;)Z"⟩
abbrev cX9_takePerson : ByteArray := prog_11_method_9_code
def yX9_takePerson : MethodName := ⟨RX9, "takePerson", "(LFeltedWash$Basket;)Z"⟩
abbrev cX9_takeTwoSpans : ByteArray := prog_11_method_10_code
def yX9_takeTwoSpans : MethodName := ⟨RX9, "takeTwoSpans", "()Z"⟩
abbrev cX9_takeDegrees : ByteArray := prog_11_method_11_code
def yX9_takeDegrees : MethodName := ⟨RX9, "takeDegrees", "(LFeltedWash$Basket;)Z"⟩
abbrev cX9_takeWash : ByteArray := prog_11_method_12_code
def yX9_takeWash : MethodName := ⟨RX9, "takeWash", "(LFeltedWash$Basket;)Z"⟩
abbrev cX9_isNumber : ByteArray := prog_11_method_13_code
def yX9_isNumber : MethodName := ⟨RX9, "isNumber", "(II)Z"⟩
abbrev cX9_isWord : ByteArray := prog_11_method_14_code
def yX9_isWord : MethodName := ⟨RX9, "isWord", "(Ljava/lang/String;)Z"⟩
abbrev cX9_nextToken : ByteArray := prog_11_method_15_code
def yX9_nextToken : MethodName := ⟨RX9, "nextToken", "()V"⟩
abbrev cX9_byteAt : ByteArray := prog_11_method_16_code
def yX9_byteAt : MethodName := ⟨RX9, "byteAt", "(I)I"⟩
abbrev cX9_isLetter : ByteArray := prog_11_method_17_code
def yX9_isLetter : MethodName := ⟨RX9, "isLetter", "(I)Z"⟩
abbrev cX9_isDigit : ByteArray := prog_11_method_18_code
def yX9_isDigit : MethodName := ⟨RX9, "isDigit", "(I)Z"⟩
def RX10 : String := "FeltedWash$Wool"
def TX10 : u_T := fun k => match k with
  | 0 => ("FeltedWash$Kind", "number", "I", true)
  | _ => ("FeltedWash$Kind", "above", "LFeltedWash$Kind;", true)
def tyX10 : Nat → FieldType := fun k => match k with
  | 0 => .int
  | _ => .object "FeltedWash$Kind"
abbrev wsX100 : List Cond := u_ws RX10 TX10 2
theorem nmX10 : ∀ a, a < 2 → ∀ b, b < 2 → a ≠ b → (TX10 a).2.1 ≠ (TX10 b).2.1 := by decide +kernel
theorem tyX10_ok : ∀ k, k < 2 → parseFieldDescriptor (TX10 k).2.2.1 = some (tyX10 k) := by decide +kernel
abbrev cX10_init : ByteArray := prog_12_method_1_code
def yX10_init : MethodName := ⟨RX10, "<init>", "(ILFeltedWash$Kind;)V"⟩
abbrev cX10_shrinks : ByteArray := prog_12_method_2_code
def yX10_shrinks : MethodName := ⟨RX10, "shrinks", "(II)I"⟩
abbrev cX10_felts : ByteArray := prog_12_method_3_code
def yX10_felts : MethodName := ⟨RX10, "felts", "(I)I"⟩
abbrev cX10_bears : ByteArray := prog_12_method_4_code
def yX10_bears : MethodName := ⟨RX10, "bears", "(II)I"⟩
def RX11 : String := "FeltedWash"
def TX11 : u_T := fun k => match k with
  | 0 => ("FeltedWash", "current", "LFeltedWash$Basket;", true)
  | 1 => ("FeltedWash", "kept", "LFeltedWash$Basket;", true)
  | 2 => ("FeltedWash", "draft", "LFeltedWash$Basket;", true)
  | 3 => ("FeltedWash", "trial", "LFeltedWash$Garment;", true)
  | 4 => ("FeltedWash", "tape", "LFeltedWash$Tape;", true)
  | 5 => ("FeltedWash", "sheets", "[LFeltedWash$Sheet;", true)
  | 6 => ("FeltedWash", "found", "[I", true)
  | _ => ("FeltedWash", "somethingKept", "Z", false)
def tyX11 : Nat → FieldType := fun k => match k with
  | 0 => .object "FeltedWash$Basket"
  | 1 => .object "FeltedWash$Basket"
  | 2 => .object "FeltedWash$Basket"
  | 3 => .object "FeltedWash$Garment"
  | 4 => .object "FeltedWash$Tape"
  | 5 => .array (.object "FeltedWash$Sheet")
  | 6 => .array .int
  | _ => .boolean
abbrev wsX110 : List Cond := u_ws RX11 TX11 8
theorem nmX11 : ∀ a, a < 8 → ∀ b, b < 8 → a ≠ b → (TX11 a).2.1 ≠ (TX11 b).2.1 := by decide +kernel
theorem tyX11_ok : ∀ k, k < 8 → parseFieldDescriptor (TX11 k).2.2.1 = some (tyX11 k) := by decide +kernel
abbrev cX11_init : ByteArray := prog_1_method_1_code
def yX11_init : MethodName := ⟨RX11, "<init>", "()V"⟩
abbrev cX11_machine : ByteArray := prog_1_method_2_code
def yX11_machine : MethodName := ⟨RX11, "machine", "(II)I"⟩
abbrev cX11_now : ByteArray := prog_1_method_3_code
def yX11_now : MethodName := ⟨RX11, "now", "(I)I"⟩
abbrev cX11_garment : ByteArray := prog_1_method_4_code
def yX11_garment : MethodName := ⟨RX11, "garment", "(I)I"⟩
abbrev cX11_of : ByteArray := prog_1_method_5_code
def yX11_of : MethodName := ⟨RX11, "of", "(II)I"⟩
abbrev cX11_set : ByteArray := prog_1_method_6_code
def yX11_set : MethodName := ⟨RX11, "set", "(III)I"⟩
abbrev cX11_wash : ByteArray := prog_1_method_7_code
def yX11_wash : MethodName := ⟨RX11, "wash", "(I)I"⟩
abbrev cX11_draw : ByteArray := prog_1_method_8_code
def yX11_draw : MethodName := ⟨RX11, "draw", "(II)I"⟩
abbrev cX11_turn : ByteArray := prog_1_method_9_code
def yX11_turn : MethodName := ⟨RX11, "turn", "(II)I"⟩
abbrev cX11_as : ByteArray := prog_1_method_10_code
def yX11_as : MethodName := ⟨RX11, "as", "(II)I"⟩
abbrev cX11_person : ByteArray := prog_1_method_11_code
def yX11_person : MethodName := ⟨RX11, "person", "(II)I"⟩
abbrev cX11_size : ByteArray := prog_1_method_12_code
def yX11_size : MethodName := ⟨RX11, "size", "(II)I"⟩
abbrev cX11_fits : ByteArray := prog_1_method_13_code
def yX11_fits : MethodName := ⟨RX11, "fits", "(I)I"⟩
abbrev cX11_days : ByteArray := prog_1_method_14_code
def yX11_days : MethodName := ⟨RX11, "days", "(I)I"⟩
abbrev cX11_on : ByteArray := prog_1_method_15_code
def yX11_on : MethodName := ⟨RX11, "on", "(III)I"⟩
abbrev cX11_again : ByteArray := prog_1_method_16_code
def yX11_again : MethodName := ⟨RX11, "again", "(III)I"⟩
abbrev cX11_washes : ByteArray := prog_1_method_17_code
def yX11_washes : MethodName := ⟨RX11, "washes", "(II)I"⟩
abbrev cX11_warmest : ByteArray := prog_1_method_18_code
def yX11_warmest : MethodName := ⟨RX11, "warmest", "(II)I"⟩
abbrev cX11_pull : ByteArray := prog_1_method_19_code
def yX11_pull : MethodName := ⟨RX11, "pull", "(II)I"⟩
abbrev cX11_kind : ByteArray := prog_1_method_20_code
def yX11_kind : MethodName := ⟨RX11, "kind", "(II)I"⟩
abbrev cX11_dressed : ByteArray := prog_1_method_21_code
def yX11_dressed : MethodName := ⟨RX11, "dressed", "(I)I"⟩
abbrev cX11_shortest : ByteArray := prog_1_method_22_code
def yX11_shortest : MethodName := ⟨RX11, "shortest", "(I)I"⟩
abbrev cX11_feed : ByteArray := prog_1_method_23_code
def yX11_feed : MethodName := ⟨RX11, "feed", "(II)I"⟩
abbrev cX11_wipe : ByteArray := prog_1_method_24_code
def yX11_wipe : MethodName := ⟨RX11, "wipe", "()I"⟩
abbrev cX11_basket : ByteArray := prog_1_method_25_code
def yX11_basket : MethodName := ⟨RX11, "basket", "()I"⟩
abbrev cX11_sheet : ByteArray := prog_1_method_26_code
def yX11_sheet : MethodName := ⟨RX11, "sheet", "(III)I"⟩
abbrev cX11_write : ByteArray := prog_1_method_27_code
def yX11_write : MethodName := ⟨RX11, "write", "(IIJ)J"⟩
abbrev cX11_copy : ByteArray := prog_1_method_28_code
def yX11_copy : MethodName := ⟨RX11, "copy", "(IIIII)I"⟩
abbrev cX11_lays : ByteArray := prog_1_method_29_code
def yX11_lays : MethodName := ⟨RX11, "lays", "(I)I"⟩
abbrev cX11_book : ByteArray := prog_1_method_30_code
def yX11_book : MethodName := ⟨RX11, "book", "(II)I"⟩
abbrev cX11_read : ByteArray := prog_1_method_31_code
def yX11_read : MethodName := ⟨RX11, "read", "(II)I"⟩
abbrev cX11_image : ByteArray := prog_1_method_32_code
def yX11_image : MethodName := ⟨RX11, "image", "()I"⟩
abbrev cX11_undo : ByteArray := prog_1_method_33_code
def yX11_undo : MethodName := ⟨RX11, "undo", "()I"⟩
abbrev cX11_tear : ByteArray := prog_1_method_34_code
def yX11_tear : MethodName := ⟨RX11, "tear", "()I"⟩
abbrev cX11_count : ByteArray := prog_1_method_35_code
def yX11_count : MethodName := ⟨RX11, "count", "(I)I"⟩
abbrev cX11_status : ByteArray := prog_1_method_36_code
def yX11_status : MethodName := ⟨RX11, "status", "(I)I"⟩
abbrev cX11_refuse : ByteArray := prog_1_method_37_code
def yX11_refuse : MethodName := ⟨RX11, "refuse", "(I)I"⟩
abbrev cX11_sheetAt : ByteArray := prog_1_method_38_code
def yX11_sheetAt : MethodName := ⟨RX11, "sheetAt", "(I)LFeltedWash$Sheet;"⟩
abbrev cX11_tryWashes : ByteArray := prog_1_method_39_code
def yX11_tryWashes : MethodName := ⟨RX11, "tryWashes", "(LFeltedWash$Garment;I)V"⟩
abbrev cX11_wouldSuit : ByteArray := prog_1_method_40_code
def yX11_wouldSuit : MethodName := ⟨RX11, "wouldSuit", "(LFeltedWash$Garment;LFeltedWash$Person;III)Z"⟩
abbrev cX11_tryAs : ByteArray := prog_1_method_41_code
def yX11_tryAs : MethodName := ⟨RX11, "tryAs", "(LFeltedWash$Garment;I)Z"⟩
abbrev cX11_explains : ByteArray := prog_1_method_42_code
def yX11_explains : MethodName := ⟨RX11, "explains", "(LFeltedWash$Sheet;LFeltedWash$Garment;II)Z"⟩
abbrev cX11_within : ByteArray := prog_1_method_43_code
def yX11_within : MethodName := ⟨RX11, "within", "(III)Z"⟩
abbrev cX11_isKind : ByteArray := prog_1_method_44_code
def yX11_isKind : MethodName := ⟨RX11, "isKind", "(I)Z"⟩
abbrev cX11_isSpan : ByteArray := prog_1_method_45_code
def yX11_isSpan : MethodName := ⟨RX11, "isSpan", "(I)Z"⟩
abbrev cX11_maySet : ByteArray := prog_1_method_46_code
def yX11_maySet : MethodName := ⟨RX11, "maySet", "(II)Z"⟩
def RX12 : String := "FeltedWashModel"
def TX12 : u_T := fun k => match k with
  | 0 => ("FeltedWashModel", "s", "[I", true)
  | 1 => ("FeltedWashModel", "keptS", "[I", true)
  | 2 => ("FeltedWashModel", "other", "[I", true)
  | 3 => ("FeltedWashModel", "aside", "[I", true)
  | 4 => ("FeltedWashModel", "statuses", "[I", true)
  | 5 => ("FeltedWashModel", "isKept", "Z", false)
  | 6 => ("FeltedWashModel", "tape", "[I", true)
  | 7 => ("FeltedWashModel", "taped", "I", false)
  | 8 => ("FeltedWashModel", "from", "I", false)
  | 9 => ("FeltedWashModel", "to", "I", false)
  | 10 => ("FeltedWashModel", "value", "I", false)
  | 11 => ("FeltedWashModel", "isWrong", "Z", false)
  | 12 => ("FeltedWashModel", "bitsOf", "[I", true)
  | 13 => ("FeltedWashModel", "sizeOf", "[I", true)
  | 14 => ("FeltedWashModel", "numbers", "[J", true)
  | _ => ("FeltedWashModel", "moved", "[J", true)
def tyX12 : Nat → FieldType := fun k => match k with
  | 0 => .array .int
  | 1 => .array .int
  | 2 => .array .int
  | 3 => .array .int
  | 4 => .array .int
  | 5 => .boolean
  | 6 => .array .int
  | 7 => .int
  | 8 => .int
  | 9 => .int
  | 10 => .int
  | 11 => .boolean
  | 12 => .array .int
  | 13 => .array .int
  | 14 => .array .long
  | _ => .array .long
abbrev wsX120 : List Cond := u_ws RX12 TX12 16
theorem nmX12 : ∀ a, a < 16 → ∀ b, b < 16 → a ≠ b → (TX12 a).2.1 ≠ (TX12 b).2.1 := by decide +kernel
theorem tyX12_ok : ∀ k, k < 16 → parseFieldDescriptor (TX12 k).2.2.1 = some (tyX12 k) := by decide +kernel
abbrev cX12_init : ByteArray := prog_14_method_1_code
def yX12_init : MethodName := ⟨RX12, "<init>", "()V"⟩
abbrev cX12_in : ByteArray := prog_14_method_2_code
def yX12_in : MethodName := ⟨RX12, "in", "(JJJ)Z"⟩
abbrev cX12_finds : ByteArray := prog_14_method_3_code
def yX12_finds : MethodName := ⟨RX12, "finds", "(I)I"⟩
abbrev cX12_saves : ByteArray := prog_14_method_4_code
def yX12_saves : MethodName := ⟨RX12, "saves", "()V"⟩
abbrev cX12_putsBack : ByteArray := prog_14_method_5_code
def yX12_putsBack : MethodName := ⟨RX12, "putsBack", "()V"⟩
abbrev cX12_laysAside : ByteArray := prog_14_method_6_code
def yX12_laysAside : MethodName := ⟨RX12, "laysAside", "()V"⟩
abbrev cX12_takesBack : ByteArray := prog_14_method_7_code
def yX12_takesBack : MethodName := ⟨RX12, "takesBack", "(I)I"⟩
abbrev cX12_becomes : ByteArray := prog_14_method_8_code
def yX12_becomes : MethodName := ⟨RX12, "becomes", "(II)I"⟩
abbrev cX12_spot : ByteArray := prog_14_method_9_code
def yX12_spot : MethodName := ⟨RX12, "spot", "(II)I"⟩
abbrev cX12_its : ByteArray := prog_14_method_10_code
def yX12_its : MethodName := ⟨RX12, "its", "(II)I"⟩
abbrev cX12_sizeOfOne : ByteArray := prog_14_method_11_code
def yX12_sizeOfOne : MethodName := ⟨RX12, "sizeOfOne", "(II)I"⟩
abbrev cX12_isGarment : ByteArray := prog_14_method_12_code
def yX12_isGarment : MethodName := ⟨RX12, "isGarment", "(I)Z"⟩
abbrev cX12_isPerson : ByteArray := prog_14_method_13_code
def yX12_isPerson : MethodName := ⟨RX12, "isPerson", "(I)Z"⟩
abbrev cX12_isKind : ByteArray := prog_14_method_14_code
def yX12_isKind : MethodName := ⟨RX12, "isKind", "(I)Z"⟩
abbrev cX12_isSize : ByteArray := prog_14_method_15_code
def yX12_isSize : MethodName := ⟨RX12, "isSize", "(J)Z"⟩
abbrev cX12_held : ByteArray := prog_14_method_16_code
def yX12_held : MethodName := ⟨RX12, "held", "(III)I"⟩
abbrev cX12_machine : ByteArray := prog_14_method_17_code
def yX12_machine : MethodName := ⟨RX12, "machine", "(II)I"⟩
abbrev cX12_isFitting : ByteArray := prog_14_method_18_code
def yX12_isFitting : MethodName := ⟨RX12, "isFitting", "(II)Z"⟩
abbrev cX12_wetOnes : ByteArray := prog_14_method_19_code
def yX12_wetOnes : MethodName := ⟨RX12, "wetOnes", "()I"⟩
abbrev cX12_holedOnes : ByteArray := prog_14_method_20_code
def yX12_holedOnes : MethodName := ⟨RX12, "holedOnes", "()I"⟩
abbrev cX12_fittingOnes : ByteArray := prog_14_method_21_code
def yX12_fittingOnes : MethodName := ⟨RX12, "fittingOnes", "(I)I"⟩
abbrev cX12_fittingAny : ByteArray := prog_14_method_22_code
def yX12_fittingAny : MethodName := ⟨RX12, "fittingAny", "()I"⟩
abbrev cX12_now : ByteArray := prog_14_method_23_code
def yX12_now : MethodName := ⟨RX12, "now", "(I)I"⟩
abbrev cX12_shrinksOf : ByteArray := prog_14_method_24_code
def yX12_shrinksOf : MethodName := ⟨RX12, "shrinksOf", "(I)I"⟩
abbrev cX12_feltsOf : ByteArray := prog_14_method_25_code
def yX12_feltsOf : MethodName := ⟨RX12, "feltsOf", "(I)I"⟩
abbrev cX12_bearsOf : ByteArray := prog_14_method_26_code
def yX12_bearsOf : MethodName := ⟨RX12, "bearsOf", "(I)I"⟩
abbrev cX12_keepsOf : ByteArray := prog_14_method_27_code
def yX12_keepsOf : MethodName := ⟨RX12, "keepsOf", "(I)I"⟩
abbrev cX12_adds : ByteArray := prog_14_method_28_code
def yX12_adds : MethodName := ⟨RX12, "adds", "(I)I"⟩
abbrev cX12_garment : ByteArray := prog_14_method_29_code
def yX12_garment : MethodName := ⟨RX12, "garment", "(I)I"⟩
abbrev cX12_of : ByteArray := prog_14_method_30_code
def yX12_of : MethodName := ⟨RX12, "of", "(II)I"⟩
abbrev cX12_isSet : ByteArray := prog_14_method_31_code
def yX12_isSet : MethodName := ⟨RX12, "isSet", "(II)Z"⟩
abbrev cX12_set : ByteArray := prog_14_method_32_code
def yX12_set : MethodName := ⟨RX12, "set", "(III)I"⟩
abbrev cX12_shrinks : ByteArray := prog_14_method_33_code
def yX12_shrinks : MethodName := ⟨RX12, "shrinks", "(III)V"⟩
abbrev cX12_washed : ByteArray := prog_14_method_34_code
def yX12_washed : MethodName := ⟨RX12, "washed", "(I)I"⟩
abbrev cX12_wash : ByteArray := prog_14_method_35_code
def yX12_wash : MethodName := ⟨RX12, "wash", "(I)I"⟩
abbrev cX12_drawn : ByteArray := prog_14_method_36_code
def yX12_drawn : MethodName := ⟨RX12, "drawn", "(II)I"⟩
abbrev cX12_draw : ByteArray := prog_14_method_37_code
def yX12_draw : MethodName := ⟨RX12, "draw", "(II)I"⟩
abbrev cX12_turn : ByteArray := prog_14_method_38_code
def yX12_turn : MethodName := ⟨RX12, "turn", "(II)I"⟩
abbrev cX12_isUnder : ByteArray := prog_14_method_39_code
def yX12_isUnder : MethodName := ⟨RX12, "isUnder", "(II)Z"⟩
abbrev cX12_as : ByteArray := prog_14_method_40_code
def yX12_as : MethodName := ⟨RX12, "as", "(II)I"⟩
abbrev cX12_addsPerson : ByteArray := prog_14_method_41_code
def yX12_addsPerson : MethodName := ⟨RX12, "addsPerson", "(II)I"⟩
abbrev cX12_person : ByteArray := prog_14_method_42_code
def yX12_person : MethodName := ⟨RX12, "person", "(II)I"⟩
abbrev cX12_size : ByteArray := prog_14_method_43_code
def yX12_size : MethodName := ⟨RX12, "size", "(II)I"⟩
abbrev cX12_fits : ByteArray := prog_14_method_44_code
def yX12_fits : MethodName := ⟨RX12, "fits", "(I)I"⟩
abbrev cX12_dries : ByteArray := prog_14_method_45_code
def yX12_dries : MethodName := ⟨RX12, "dries", "(I)V"⟩
abbrev cX12_daysGo : ByteArray := prog_14_method_46_code
def yX12_daysGo : MethodName := ⟨RX12, "daysGo", "(I)V"⟩
abbrev cX12_days : ByteArray := prog_14_method_47_code
def yX12_days : MethodName := ⟨RX12, "days", "(I)I"⟩
abbrev cX12_isAhead : ByteArray := prog_14_method_48_code
def yX12_isAhead : MethodName := ⟨RX12, "isAhead", "(I)Z"⟩
abbrev cX12_on : ByteArray := prog_14_method_49_code
def yX12_on : MethodName := ⟨RX12, "on", "(III)I"⟩
abbrev cX12_isWashed : ByteArray := prog_14_method_50_code
def yX12_isWashed : MethodName := ⟨RX12, "isWashed", "(II)V"⟩
abbrev cX12_washedTo : ByteArray := prog_14_method_51_code
def yX12_washedTo : MethodName := ⟨RX12, "washedTo", "(III)I"⟩
abbrev cX12_again : ByteArray := prog_14_method_52_code
def yX12_again : MethodName := ⟨RX12, "again", "(III)I"⟩
abbrev cX12_isFittingBy : ByteArray := prog_14_method_53_code
def yX12_isFittingBy : MethodName := ⟨RX12, "isFittingBy", "(IIII)Z"⟩
abbrev cX12_washes : ByteArray := prog_14_method_54_code
def yX12_washes : MethodName := ⟨RX12, "washes", "(II)I"⟩
abbrev cX12_warmest : ByteArray := prog_14_method_55_code
def yX12_warmest : MethodName := ⟨RX12, "warmest", "(II)I"⟩
abbrev cX12_pull : ByteArray := prog_14_method_56_code
def yX12_pull : MethodName := ⟨RX12, "pull", "(II)I"⟩
abbrev cX12_kind : ByteArray := prog_14_method_57_code
def yX12_kind : MethodName := ⟨RX12, "kind", "(II)I"⟩
abbrev cX12_manyFitting : ByteArray := prog_14_method_58_code
def yX12_manyFitting : MethodName := ⟨RX12, "manyFitting", "(I)I"⟩
abbrev cX12_dressed : ByteArray := prog_14_method_59_code
def yX12_dressed : MethodName := ⟨RX12, "dressed", "(I)I"⟩
abbrev cX12_shortest : ByteArray := prog_14_method_60_code
def yX12_shortest : MethodName := ⟨RX12, "shortest", "(I)I"⟩
abbrev cX12_feed : ByteArray := prog_14_method_61_code
def yX12_feed : MethodName := ⟨RX12, "feed", "(II)I"⟩
abbrev cX12_wipe : ByteArray := prog_14_method_62_code
def yX12_wipe : MethodName := ⟨RX12, "wipe", "()I"⟩
abbrev cX12_byteAt : ByteArray := prog_14_method_63_code
def yX12_byteAt : MethodName := ⟨RX12, "byteAt", "(I)I"⟩
abbrev cX12_isLetter : ByteArray := prog_14_method_64_code
def yX12_isLetter : MethodName := ⟨RX12, "isLetter", "(I)Z"⟩
abbrev cX12_isDigit : ByteArray := prog_14_method_65_code
def yX12_isDigit : MethodName := ⟨RX12, "isDigit", "(I)Z"⟩
abbrev cX12_token : ByteArray := prog_14_method_66_code
def yX12_token : MethodName := ⟨RX12, "token", "()V"⟩
abbrev cX12_must : ByteArray := prog_14_method_67_code
def yX12_must : MethodName := ⟨RX12, "must", "(Z)V"⟩
abbrev cX12_word : ByteArray := prog_14_method_68_code
def yX12_word : MethodName := ⟨RX12, "word", "()J"⟩
abbrev cX12_number : ByteArray := prog_14_method_69_code
def yX12_number : MethodName := ⟨RX12, "number", "(II)V"⟩
abbrev cX12_kindHere : ByteArray := prog_14_method_70_code
def yX12_kindHere : MethodName := ⟨RX12, "kindHere", "()I"⟩
abbrev cX12_garmentItem : ByteArray := prog_14_method_71_code
def yX12_garmentItem : MethodName := ⟨RX12, "garmentItem", "(I)V"⟩
abbrev cX12_personItem : ByteArray := prog_14_method_72_code
def yX12_personItem : MethodName := ⟨RX12, "personItem", "()V"⟩
abbrev cX12_degreesItem : ByteArray := prog_14_method_73_code
def yX12_degreesItem : MethodName := ⟨RX12, "degreesItem", "()V"⟩
abbrev cX12_washItem : ByteArray := prog_14_method_74_code
def yX12_washItem : MethodName := ⟨RX12, "washItem", "()V"⟩
abbrev cX12_towelItem : ByteArray := prog_14_method_75_code
def yX12_towelItem : MethodName := ⟨RX12, "towelItem", "(Z)V"⟩
abbrev cX12_item : ByteArray := prog_14_method_76_code
def yX12_item : MethodName := ⟨RX12, "item", "()V"⟩
abbrev cX12_basket : ByteArray := prog_14_method_77_code
def yX12_basket : MethodName := ⟨RX12, "basket", "()I"⟩
abbrev cX12_isOne : ByteArray := prog_14_method_78_code
def yX12_isOne : MethodName := ⟨RX12, "isOne", "(I)Z"⟩
abbrev cX12_sheet : ByteArray := prog_14_method_79_code
def yX12_sheet : MethodName := ⟨RX12, "sheet", "(III)I"⟩
abbrev cX12_narrowed : ByteArray := prog_14_method_80_code
def yX12_narrowed : MethodName := ⟨RX12, "narrowed", "(IJ)J"⟩
abbrev cX12_wrongSheet : ByteArray := prog_14_method_81_code
def yX12_wrongSheet : MethodName := ⟨RX12, "wrongSheet", "(I)I"⟩
abbrev cX12_write : ByteArray := prog_14_method_82_code
def yX12_write : MethodName := ⟨RX12, "write", "(IIJ)J"⟩
abbrev cX12_copy : ByteArray := prog_14_method_83_code
def yX12_copy : MethodName := ⟨RX12, "copy", "(IIIII)I"⟩
abbrev cX12_lays : ByteArray := prog_14_method_84_code
def yX12_lays : MethodName := ⟨RX12, "lays", "(I)I"⟩
abbrev cX12_book : ByteArray := prog_14_method_85_code
def yX12_book : MethodName := ⟨RX12, "book", "(II)I"⟩
abbrev cX12_isBook : ByteArray := prog_14_method_86_code
def yX12_isBook : MethodName := ⟨RX12, "isBook", "(II)Z"⟩
abbrev cX12_read : ByteArray := prog_14_method_87_code
def yX12_read : MethodName := ⟨RX12, "read", "(II)I"⟩
abbrev cX12_image : ByteArray := prog_14_method_88_code
def yX12_image : MethodName := ⟨RX12, "image", "()I"⟩
abbrev cX12_undo : ByteArray := prog_14_method_89_code
def yX12_undo : MethodName := ⟨RX12, "undo", "()I"⟩
abbrev cX12_tear : ByteArray := prog_14_method_90_code
def yX12_tear : MethodName := ⟨RX12, "tear", "()I"⟩
abbrev cX12_holes : ByteArray := prog_14_method_91_code
def yX12_holes : MethodName := ⟨RX12, "holes", "()I"⟩
abbrev cX12_count : ByteArray := prog_14_method_92_code
def yX12_count : MethodName := ⟨RX12, "count", "(I)I"⟩
abbrev cX12_status : ByteArray := prog_14_method_93_code
def yX12_status : MethodName := ⟨RX12, "status", "(I)I"⟩
def RJ6 : String := "java/lang/Integer"
def TJ6 : u_T := fun k => match k with
  | _ => ("", "", "", false)
def tyJ6 : Nat → FieldType := fun k => match k with
  | _ => .int
abbrev wsJ60 : List Cond := u_ws RJ6 TJ6 0
theorem nmJ6 : ∀ a, a < 0 → ∀ b, b < 0 → a ≠ b → (TJ6 a).2.1 ≠ (TJ6 b).2.1 := by decide +kernel
theorem tyJ6_ok : ∀ k, k < 0 → parseFieldDescriptor (TJ6 k).2.2.1 = some (tyJ6 k) := by decide +kernel
abbrev cJ6_bitCount_0f7a4 : ByteArray := prog_15_method_49_code
def yJ6_bitCount_0f7a4 : MethodName := ⟨RJ6, "bitCount", "(I)I"⟩
def RJ9 : String := "java/lang/Math"
def TJ9 : u_T := fun k => match k with
  | _ => ("", "", "", false)
def tyJ9 : Nat → FieldType := fun k => match k with
  | _ => .int
abbrev wsJ90 : List Cond := u_ws RJ9 TJ9 0
theorem nmJ9 : ∀ a, a < 0 → ∀ b, b < 0 → a ≠ b → (TJ9 a).2.1 ≠ (TJ9 b).2.1 := by decide +kernel
theorem tyJ9_ok : ∀ k, k < 0 → parseFieldDescriptor (TJ9 k).2.2.1 = some (tyJ9 k) := by decide +kernel
abbrev cJ9_max_7cf53 : ByteArray := prog_16_method_65_code
def yJ9_max_7cf53 : MethodName := ⟨RJ9, "max", "(II)I"⟩
abbrev cJ9_min_7cf53 : ByteArray := prog_16_method_69_code
def yJ9_min_7cf53 : MethodName := ⟨RJ9, "min", "(II)I"⟩
def RJ0 : String := "java/lang/String"
def TJ0 : u_T := fun k => match k with
  | _ => ("", "", "", false)
def tyJ0 : Nat → FieldType := fun k => match k with
  | _ => .int
abbrev wsJ00 : List Cond := u_ws RJ0 TJ0 0
theorem nmJ0 : ∀ a, a < 0 → ∀ b, b < 0 → a ≠ b → (TJ0 a).2.1 ≠ (TJ0 b).2.1 := by decide +kernel
theorem tyJ0_ok : ∀ k, k < 0 → parseFieldDescriptor (TJ0 k).2.2.1 = some (tyJ0 k) := by decide +kernel
abbrev cJ0_length_8abf5 : ByteArray := prog_17_method_54_code
def yJ0_length_8abf5 : MethodName := ⟨RJ0, "length", "()I"⟩
abbrev cJ0_charAt_5068e : ByteArray := prog_17_method_56_code
def yJ0_charAt_5068e : MethodName := ⟨RJ0, "charAt", "(I)C"⟩
abbrev cJ0_coder_7d493 : ByteArray := prog_17_method_152_code
def yJ0_coder_7d493 : MethodName := ⟨RJ0, "coder", "()B"⟩
abbrev cJ0_isLatin1_aae02 : ByteArray := prog_17_method_154_code
def yJ0_isLatin1_aae02 : MethodName := ⟨RJ0, "isLatin1", "()Z"⟩
abbrev cJ0_checkIndex_df160 : ByteArray := prog_17_method_155_code
def yJ0_checkIndex_df160 : MethodName := ⟨RJ0, "checkIndex", "(II)V"⟩
def RJ1 : String := "java/lang/StringLatin1"
def TJ1 : u_T := fun k => match k with
  | _ => ("", "", "", false)
def tyJ1 : Nat → FieldType := fun k => match k with
  | _ => .int
abbrev wsJ10 : List Cond := u_ws RJ1 TJ1 0
theorem nmJ1 : ∀ a, a < 0 → ∀ b, b < 0 → a ≠ b → (TJ1 a).2.1 ≠ (TJ1 b).2.1 := by decide +kernel
theorem tyJ1_ok : ∀ k, k < 0 → parseFieldDescriptor (TJ1 k).2.2.1 = some (tyJ1 k) := by decide +kernel
abbrev cJ1_charAt_3b067 : ByteArray := prog_18_method_2_code
def yJ1_charAt_3b067 : MethodName := ⟨RJ1, "charAt", "([BI)C"⟩
def RJ2 : String := "java/lang/StringUTF16"
def TJ2 : u_T := fun k => match k with
  | _ => ("", "", "", false)
def tyJ2 : Nat → FieldType := fun k => match k with
  | _ => .int
abbrev wsJ20 : List Cond := u_ws RJ2 TJ2 0
theorem nmJ2 : ∀ a, a < 0 → ∀ b, b < 0 → a ≠ b → (TJ2 a).2.1 ≠ (TJ2 b).2.1 := by decide +kernel
theorem tyJ2_ok : ∀ k, k < 0 → parseFieldDescriptor (TJ2 k).2.2.1 = some (tyJ2 k) := by decide +kernel
abbrev cJ2_getChar_3b067 : ByteArray := prog_19_method_5_code
def yJ2_getChar_3b067 : MethodName := ⟨RJ2, "getChar", "([BI)C"⟩
abbrev cJ2_length_9d52b : ByteArray := prog_19_method_6_code
def yJ2_length_9d52b : MethodName := ⟨RJ2, "length", "([B)I"⟩
abbrev cJ2_charAt_3b067 : ByteArray := prog_19_method_83_code
def yJ2_charAt_3b067 : MethodName := ⟨RJ2, "charAt", "([BI)C"⟩
abbrev cJ2_checkIndex_2214a : ByteArray := prog_19_method_91_code
def yJ2_checkIndex_2214a : MethodName := ⟨RJ2, "checkIndex", "(I[B)V"⟩
def RJ10 : String := "java/lang/System"
def TJ10 : u_T := fun k => match k with
  | _ => ("", "", "", false)
def tyJ10 : Nat → FieldType := fun k => match k with
  | _ => .int
abbrev wsJ100 : List Cond := u_ws RJ10 TJ10 0
theorem nmJ10 : ∀ a, a < 0 → ∀ b, b < 0 → a ≠ b → (TJ10 a).2.1 ≠ (TJ10 b).2.1 := by decide +kernel
theorem tyJ10_ok : ∀ k, k < 0 → parseFieldDescriptor (TJ10 k).2.2.1 = some (tyJ10 k) := by decide +kernel
def RJ3 : String := "jdk/internal/util/Preconditions"
def TJ3 : u_T := fun k => match k with
  | _ => ("", "", "", false)
def tyJ3 : Nat → FieldType := fun k => match k with
  | _ => .int
abbrev wsJ30 : List Cond := u_ws RJ3 TJ3 0
theorem nmJ3 : ∀ a, a < 0 → ∀ b, b < 0 → a ≠ b → (TJ3 a).2.1 ≠ (TJ3 b).2.1 := by decide +kernel
theorem tyJ3_ok : ∀ k, k < 0 → parseFieldDescriptor (TJ3 k).2.2.1 = some (tyJ3 k) := by decide +kernel
abbrev cJ3_checkIndex_8e157 : ByteArray := prog_21_method_11_code
def yJ3_checkIndex_8e157 : MethodName := ⟨RJ3, "checkIndex", "(IILjava/util/function/BiFunction;)I"⟩
def RL : String := "FeltedWashLaw"
abbrev cL_law : ByteArray := code
def yL_law : MethodName := ⟨RL, "law", "([I)Z"⟩
abbrev vwCl : List vw_C := [(RX0, TX0, 8), (RX1, TX1, 2), (RX2, TX2, 7), (RX3, TX3, 2), (RX4, TX4, 2), (RX5, TX5, 2), (RX6, TX6, 3), (RX7, TX7, 2), (RX8, TX8, 2), (RX9, TX9, 8), (RX10, TX10, 2), (RX11, TX11, 8), (RX12, TX12, 16)]
end
section
theorem dX0_init_0 : decode cX0_init 0 = .ok (.aload_n 0, 1) := by decide +kernel
theorem dX0_init_1 : decode cX0_init 1 = .ok (.invokespecial 3, 3) := by decide +kernel
theorem dX0_init_4 : decode cX0_init 4 = .ok (.aload_n 0, 1) := by decide +kernel
theorem dX0_init_5 : decode cX0_init 5 = .ok (.aload_n 1, 1) := by decide +kernel
theorem dX0_init_6 : decode cX0_init 6 = .ok (.putfield 9, 3) := by decide +kernel
theorem dX0_init_9 : decode cX0_init 9 = .ok (.aload_n 0, 1) := by decide +kernel
theorem dX0_init_10 : decode cX0_init 10 = .ok (.bipush 8, 2) := by decide +kernel
theorem dX0_init_12 : decode cX0_init 12 = .ok (.anewarray 15, 3) := by decide +kernel
theorem dX0_init_15 : decode cX0_init 15 = .ok (.putfield 17, 3) := by decide +kernel
theorem dX0_init_18 : decode cX0_init 18 = .ok (.iconst 0, 1) := by decide +kernel
theorem dX0_init_19 : decode cX0_init 19 = .ok (.istore_n 2, 1) := by decide +kernel
theorem dX0_init_20 : decode cX0_init 20 = .ok (.iload_n 2, 1) := by decide +kernel
theorem dX0_init_21 : decode cX0_init 21 = .ok (.bipush 8, 2) := by decide +kernel
theorem dX0_init_23 : decode cX0_init 23 = .ok (.if_icmp .ge 25, 3) := by decide +kernel
theorem dX0_init_26 : decode cX0_init 26 = .ok (.aload_n 0, 1) := by decide +kernel
theorem dX0_init_27 : decode cX0_init 27 = .ok (.getfield 17, 3) := by decide +kernel
theorem dX0_init_30 : decode cX0_init 30 = .ok (.iload_n 2, 1) := by decide +kernel
theorem dX0_init_31 : decode cX0_init 31 = .ok (.new 15, 3) := by decide +kernel
theorem dX0_init_34 : decode cX0_init 34 = .ok (.dup, 1) := by decide +kernel
theorem dX0_init_35 : decode cX0_init 35 = .ok (.aload_n 1, 1) := by decide +kernel
theorem dX0_init_36 : decode cX0_init 36 = .ok (.iconst 0, 1) := by decide +kernel
theorem dX0_init_37 : decode cX0_init 37 = .ok (.aaload, 1) := by decide +kernel
theorem dX0_init_38 : decode cX0_init 38 = .ok (.invokespecial 21, 3) := by decide +kernel
theorem dX0_init_41 : decode cX0_init 41 = .ok (.aastore, 1) := by decide +kernel
theorem dX0_init_42 : decode cX0_init 42 = .ok (.iinc 2 1, 3) := by decide +kernel
theorem dX0_init_45 : decode cX0_init 45 = .ok (.goto (-25), 3) := by decide +kernel
theorem dX0_init_48 : decode cX0_init 48 = .ok (.aload_n 0, 1) := by decide +kernel
theorem dX0_init_49 : decode cX0_init 49 = .ok (.bipush 6, 2) := by decide +kernel
theorem dX0_init_51 : decode cX0_init 51 = .ok (.anewarray 24, 3) := by decide +kernel
theorem dX0_init_54 : decode cX0_init 54 = .ok (.putfield 26, 3) := by decide +kernel
theorem dX0_init_57 : decode cX0_init 57 = .ok (.iconst 0, 1) := by decide +kernel
theorem dX0_init_58 : decode cX0_init 58 = .ok (.istore_n 2, 1) := by decide +kernel
theorem dX0_init_59 : decode cX0_init 59 = .ok (.iload_n 2, 1) := by decide +kernel
theorem dX0_init_60 : decode cX0_init 60 = .ok (.bipush 6, 2) := by decide +kernel
theorem dX0_init_62 : decode cX0_init 62 = .ok (.if_icmp .ge 22, 3) := by decide +kernel
theorem dX0_init_65 : decode cX0_init 65 = .ok (.aload_n 0, 1) := by decide +kernel
theorem dX0_init_66 : decode cX0_init 66 = .ok (.getfield 26, 3) := by decide +kernel
theorem dX0_init_69 : decode cX0_init 69 = .ok (.iload_n 2, 1) := by decide +kernel
theorem dX0_init_70 : decode cX0_init 70 = .ok (.new 24, 3) := by decide +kernel
theorem dX0_init_73 : decode cX0_init 73 = .ok (.dup, 1) := by decide +kernel
theorem dX0_init_74 : decode cX0_init 74 = .ok (.invokespecial 30, 3) := by decide +kernel
theorem dX0_init_77 : decode cX0_init 77 = .ok (.aastore, 1) := by decide +kernel
theorem dX0_init_78 : decode cX0_init 78 = .ok (.iinc 2 1, 3) := by decide +kernel
theorem dX0_init_81 : decode cX0_init 81 = .ok (.goto (-22), 3) := by decide +kernel
theorem dX0_init_84 : decode cX0_init 84 = .ok (.aload_n 0, 1) := by decide +kernel
theorem dX0_init_85 : decode cX0_init 85 = .ok (.bipush 40, 2) := by decide +kernel
theorem dX0_init_87 : decode cX0_init 87 = .ok (.putfield 31, 3) := by decide +kernel
theorem dX0_init_90 : decode cX0_init 90 = .ok (.return_, 1) := by decide +kernel
theorem dX0_become_0 : decode cX0_become 0 = .ok (.aload_n 0, 1) := by decide +kernel
theorem dX0_become_1 : decode cX0_become 1 = .ok (.aload_n 1, 1) := by decide +kernel
theorem dX0_become_2 : decode cX0_become 2 = .ok (.getfield 35, 3) := by decide +kernel
theorem dX0_become_5 : decode cX0_become 5 = .ok (.putfield 35, 3) := by decide +kernel
theorem dX0_become_8 : decode cX0_become 8 = .ok (.aload_n 0, 1) := by decide +kernel
theorem dX0_become_9 : decode cX0_become 9 = .ok (.aload_n 1, 1) := by decide +kernel
theorem dX0_become_10 : decode cX0_become 10 = .ok (.getfield 38, 3) := by decide +kernel
theorem dX0_become_13 : decode cX0_become 13 = .ok (.putfield 38, 3) := by decide +kernel
theorem dX0_become_16 : decode cX0_become 16 = .ok (.aload_n 0, 1) := by decide +kernel
theorem dX0_become_17 : decode cX0_become 17 = .ok (.aload_n 1, 1) := by decide +kernel
theorem dX0_become_18 : decode cX0_become 18 = .ok (.getfield 41, 3) := by decide +kernel
theorem dX0_become_21 : decode cX0_become 21 = .ok (.putfield 41, 3) := by decide +kernel
theorem dX0_become_24 : decode cX0_become 24 = .ok (.aload_n 0, 1) := by decide +kernel
theorem dX0_become_25 : decode cX0_become 25 = .ok (.aload_n 1, 1) := by decide +kernel
theorem dX0_become_26 : decode cX0_become 26 = .ok (.getfield 31, 3) := by decide +kernel
theorem dX0_become_29 : decode cX0_become 29 = .ok (.putfield 31, 3) := by decide +kernel
theorem dX0_become_32 : decode cX0_become 32 = .ok (.aload_n 0, 1) := by decide +kernel
theorem dX0_become_33 : decode cX0_become 33 = .ok (.aload_n 1, 1) := by decide +kernel
theorem dX0_become_34 : decode cX0_become 34 = .ok (.getfield 44, 3) := by decide +kernel
theorem dX0_become_37 : decode cX0_become 37 = .ok (.putfield 44, 3) := by decide +kernel
theorem dX0_become_40 : decode cX0_become 40 = .ok (.iconst 0, 1) := by decide +kernel
theorem dX0_become_41 : decode cX0_become 41 = .ok (.istore_n 2, 1) := by decide +kernel
theorem dX0_become_42 : decode cX0_become 42 = .ok (.iload_n 2, 1) := by decide +kernel
theorem dX0_become_43 : decode cX0_become 43 = .ok (.bipush 8, 2) := by decide +kernel
theorem dX0_become_45 : decode cX0_become 45 = .ok (.if_icmp .ge 24, 3) := by decide +kernel
theorem dX0_become_48 : decode cX0_become 48 = .ok (.aload_n 0, 1) := by decide +kernel
theorem dX0_become_49 : decode cX0_become 49 = .ok (.getfield 17, 3) := by decide +kernel
theorem dX0_become_52 : decode cX0_become 52 = .ok (.iload_n 2, 1) := by decide +kernel
theorem dX0_become_53 : decode cX0_become 53 = .ok (.aaload, 1) := by decide +kernel
theorem dX0_become_54 : decode cX0_become 54 = .ok (.aload_n 1, 1) := by decide +kernel
theorem dX0_become_55 : decode cX0_become 55 = .ok (.getfield 17, 3) := by decide +kernel
theorem dX0_become_58 : decode cX0_become 58 = .ok (.iload_n 2, 1) := by decide +kernel
theorem dX0_become_59 : decode cX0_become 59 = .ok (.aaload, 1) := by decide +kernel
theorem dX0_become_60 : decode cX0_become 60 = .ok (.invokevirtual 47, 3) := by decide +kernel
theorem dX0_become_63 : decode cX0_become 63 = .ok (.iinc 2 1, 3) := by decide +kernel
theorem dX0_become_66 : decode cX0_become 66 = .ok (.goto (-24), 3) := by decide +kernel
theorem dX0_become_69 : decode cX0_become 69 = .ok (.iconst 0, 1) := by decide +kernel
theorem dX0_become_70 : decode cX0_become 70 = .ok (.istore_n 2, 1) := by decide +kernel
theorem dX0_become_71 : decode cX0_become 71 = .ok (.iload_n 2, 1) := by decide +kernel
theorem dX0_become_72 : decode cX0_become 72 = .ok (.bipush 6, 2) := by decide +kernel
theorem dX0_become_74 : decode cX0_become 74 = .ok (.if_icmp .ge 45, 3) := by decide +kernel
theorem dX0_become_77 : decode cX0_become 77 = .ok (.aload_n 0, 1) := by decide +kernel
theorem dX0_become_78 : decode cX0_become 78 = .ok (.getfield 26, 3) := by decide +kernel
theorem dX0_become_81 : decode cX0_become 81 = .ok (.iload_n 2, 1) := by decide +kernel
theorem dX0_become_82 : decode cX0_become 82 = .ok (.aaload, 1) := by decide +kernel
theorem dX0_become_83 : decode cX0_become 83 = .ok (.aload_n 1, 1) := by decide +kernel
theorem dX0_become_84 : decode cX0_become 84 = .ok (.getfield 26, 3) := by decide +kernel
theorem dX0_become_87 : decode cX0_become 87 = .ok (.iload_n 2, 1) := by decide +kernel
theorem dX0_become_88 : decode cX0_become 88 = .ok (.aaload, 1) := by decide +kernel
theorem dX0_become_89 : decode cX0_become 89 = .ok (.getfield 51, 3) := by decide +kernel
theorem dX0_become_92 : decode cX0_become 92 = .ok (.putfield 51, 3) := by decide +kernel
theorem dX0_become_95 : decode cX0_become 95 = .ok (.aload_n 0, 1) := by decide +kernel
theorem dX0_become_96 : decode cX0_become 96 = .ok (.getfield 26, 3) := by decide +kernel
theorem dX0_become_99 : decode cX0_become 99 = .ok (.iload_n 2, 1) := by decide +kernel
theorem dX0_become_100 : decode cX0_become 100 = .ok (.aaload, 1) := by decide +kernel
theorem dX0_become_101 : decode cX0_become 101 = .ok (.aload_n 1, 1) := by decide +kernel
theorem dX0_become_102 : decode cX0_become 102 = .ok (.getfield 26, 3) := by decide +kernel
theorem dX0_become_105 : decode cX0_become 105 = .ok (.iload_n 2, 1) := by decide +kernel
theorem dX0_become_106 : decode cX0_become 106 = .ok (.aaload, 1) := by decide +kernel
theorem dX0_become_107 : decode cX0_become 107 = .ok (.getfield 54, 3) := by decide +kernel
theorem dX0_become_110 : decode cX0_become 110 = .ok (.putfield 54, 3) := by decide +kernel
theorem dX0_become_113 : decode cX0_become 113 = .ok (.iinc 2 1, 3) := by decide +kernel
theorem dX0_become_116 : decode cX0_become 116 = .ok (.goto (-45), 3) := by decide +kernel
theorem dX0_become_119 : decode cX0_become 119 = .ok (.return_, 1) := by decide +kernel
theorem dX0_kindAt_0 : decode cX0_kindAt 0 = .ok (.iload_n 1, 1) := by decide +kernel
theorem dX0_kindAt_1 : decode cX0_kindAt 1 = .ok (.ifCond .lt 21, 3) := by decide +kernel
theorem dX0_kindAt_4 : decode cX0_kindAt 4 = .ok (.iload_n 1, 1) := by decide +kernel
theorem dX0_kindAt_5 : decode cX0_kindAt 5 = .ok (.aload_n 0, 1) := by decide +kernel
theorem dX0_kindAt_6 : decode cX0_kindAt 6 = .ok (.getfield 9, 3) := by decide +kernel
theorem dX0_kindAt_9 : decode cX0_kindAt 9 = .ok (.arraylength, 1) := by decide +kernel
theorem dX0_kindAt_10 : decode cX0_kindAt 10 = .ok (.if_icmp .ge 12, 3) := by decide +kernel
theorem dX0_kindAt_13 : decode cX0_kindAt 13 = .ok (.aload_n 0, 1) := by decide +kernel
theorem dX0_kindAt_14 : decode cX0_kindAt 14 = .ok (.getfield 9, 3) := by decide +kernel
theorem dX0_kindAt_17 : decode cX0_kindAt 17 = .ok (.iload_n 1, 1) := by decide +kernel
theorem dX0_kindAt_18 : decode cX0_kindAt 18 = .ok (.aaload, 1) := by decide +kernel
theorem dX0_kindAt_19 : decode cX0_kindAt 19 = .ok (.goto 4, 3) := by decide +kernel
theorem dX0_kindAt_22 : decode cX0_kindAt 22 = .ok (.aconst_null, 1) := by decide +kernel
theorem dX0_kindAt_23 : decode cX0_kindAt 23 = .ok (.areturn, 1) := by decide +kernel
theorem dX0_garmentAt_0 : decode cX0_garmentAt 0 = .ok (.iload_n 1, 1) := by decide +kernel
theorem dX0_garmentAt_1 : decode cX0_garmentAt 1 = .ok (.ifCond .lt 29, 3) := by decide +kernel
theorem dX0_garmentAt_4 : decode cX0_garmentAt 4 = .ok (.iload_n 1, 1) := by decide +kernel
theorem dX0_garmentAt_5 : decode cX0_garmentAt 5 = .ok (.aload_n 0, 1) := by decide +kernel
theorem dX0_garmentAt_6 : decode cX0_garmentAt 6 = .ok (.getfield 35, 3) := by decide +kernel
theorem dX0_garmentAt_9 : decode cX0_garmentAt 9 = .ok (.if_icmp .ge 21, 3) := by decide +kernel
theorem dX0_garmentAt_12 : decode cX0_garmentAt 12 = .ok (.iload_n 1, 1) := by decide +kernel
theorem dX0_garmentAt_13 : decode cX0_garmentAt 13 = .ok (.aload_n 0, 1) := by decide +kernel
theorem dX0_garmentAt_14 : decode cX0_garmentAt 14 = .ok (.getfield 17, 3) := by decide +kernel
theorem dX0_garmentAt_17 : decode cX0_garmentAt 17 = .ok (.arraylength, 1) := by decide +kernel
theorem dX0_garmentAt_18 : decode cX0_garmentAt 18 = .ok (.if_icmp .ge 12, 3) := by decide +kernel
theorem dX0_garmentAt_21 : decode cX0_garmentAt 21 = .ok (.aload_n 0, 1) := by decide +kernel
theorem dX0_garmentAt_22 : decode cX0_garmentAt 22 = .ok (.getfield 17, 3) := by decide +kernel
theorem dX0_garmentAt_25 : decode cX0_garmentAt 25 = .ok (.iload_n 1, 1) := by decide +kernel
theorem dX0_garmentAt_26 : decode cX0_garmentAt 26 = .ok (.aaload, 1) := by decide +kernel
theorem dX0_garmentAt_27 : decode cX0_garmentAt 27 = .ok (.goto 4, 3) := by decide +kernel
theorem dX0_garmentAt_30 : decode cX0_garmentAt 30 = .ok (.aconst_null, 1) := by decide +kernel
theorem dX0_garmentAt_31 : decode cX0_garmentAt 31 = .ok (.areturn, 1) := by decide +kernel
theorem dX0_personAt_0 : decode cX0_personAt 0 = .ok (.iload_n 1, 1) := by decide +kernel
theorem dX0_personAt_1 : decode cX0_personAt 1 = .ok (.ifCond .lt 29, 3) := by decide +kernel
theorem dX0_personAt_4 : decode cX0_personAt 4 = .ok (.iload_n 1, 1) := by decide +kernel
theorem dX0_personAt_5 : decode cX0_personAt 5 = .ok (.aload_n 0, 1) := by decide +kernel
theorem dX0_personAt_6 : decode cX0_personAt 6 = .ok (.getfield 38, 3) := by decide +kernel
theorem dX0_personAt_9 : decode cX0_personAt 9 = .ok (.if_icmp .ge 21, 3) := by decide +kernel
theorem dX0_personAt_12 : decode cX0_personAt 12 = .ok (.iload_n 1, 1) := by decide +kernel
theorem dX0_personAt_13 : decode cX0_personAt 13 = .ok (.aload_n 0, 1) := by decide +kernel
theorem dX0_personAt_14 : decode cX0_personAt 14 = .ok (.getfield 26, 3) := by decide +kernel
theorem dX0_personAt_17 : decode cX0_personAt 17 = .ok (.arraylength, 1) := by decide +kernel
theorem dX0_personAt_18 : decode cX0_personAt 18 = .ok (.if_icmp .ge 12, 3) := by decide +kernel
theorem dX0_personAt_21 : decode cX0_personAt 21 = .ok (.aload_n 0, 1) := by decide +kernel
theorem dX0_personAt_22 : decode cX0_personAt 22 = .ok (.getfield 26, 3) := by decide +kernel
theorem dX0_personAt_25 : decode cX0_personAt 25 = .ok (.iload_n 1, 1) := by decide +kernel
theorem dX0_personAt_26 : decode cX0_personAt 26 = .ok (.aaload, 1) := by decide +kernel
theorem dX0_personAt_27 : decode cX0_personAt 27 = .ok (.goto 4, 3) := by decide +kernel
theorem dX0_personAt_30 : decode cX0_personAt 30 = .ok (.aconst_null, 1) := by decide +kernel
theorem dX0_personAt_31 : decode cX0_personAt 31 = .ok (.areturn, 1) := by decide +kernel
theorem dX0_addGarment_0 : decode cX0_addGarment 0 = .ok (.aload_n 0, 1) := by decide +kernel
theorem dX0_addGarment_1 : decode cX0_addGarment 1 = .ok (.iload_n 1, 1) := by decide +kernel
theorem dX0_addGarment_2 : decode cX0_addGarment 2 = .ok (.invokevirtual 57, 3) := by decide +kernel
theorem dX0_addGarment_5 : decode cX0_addGarment 5 = .ok (.astore_n 2, 1) := by decide +kernel
theorem dX0_addGarment_6 : decode cX0_addGarment 6 = .ok (.aload_n 2, 1) := by decide +kernel
theorem dX0_addGarment_7 : decode cX0_addGarment 7 = .ok (.ifnull 12, 3) := by decide +kernel
theorem dX0_addGarment_10 : decode cX0_addGarment 10 = .ok (.aload_n 0, 1) := by decide +kernel
theorem dX0_addGarment_11 : decode cX0_addGarment 11 = .ok (.getfield 35, 3) := by decide +kernel
theorem dX0_addGarment_14 : decode cX0_addGarment 14 = .ok (.bipush 8, 2) := by decide +kernel
theorem dX0_addGarment_16 : decode cX0_addGarment 16 = .ok (.if_icmp .lt 5, 3) := by decide +kernel
theorem dX0_addGarment_19 : decode cX0_addGarment 19 = .ok (.aconst_null, 1) := by decide +kernel
theorem dX0_addGarment_20 : decode cX0_addGarment 20 = .ok (.areturn, 1) := by decide +kernel
theorem dX0_addGarment_21 : decode cX0_addGarment 21 = .ok (.aload_n 0, 1) := by decide +kernel
theorem dX0_addGarment_22 : decode cX0_addGarment 22 = .ok (.getfield 17, 3) := by decide +kernel
theorem dX0_addGarment_25 : decode cX0_addGarment 25 = .ok (.aload_n 0, 1) := by decide +kernel
theorem dX0_addGarment_26 : decode cX0_addGarment 26 = .ok (.getfield 35, 3) := by decide +kernel
theorem dX0_addGarment_29 : decode cX0_addGarment 29 = .ok (.aaload, 1) := by decide +kernel
theorem dX0_addGarment_30 : decode cX0_addGarment 30 = .ok (.astore_n 3, 1) := by decide +kernel
theorem dX0_addGarment_31 : decode cX0_addGarment 31 = .ok (.aload_n 3, 1) := by decide +kernel
theorem dX0_addGarment_32 : decode cX0_addGarment 32 = .ok (.aload_n 2, 1) := by decide +kernel
theorem dX0_addGarment_33 : decode cX0_addGarment 33 = .ok (.invokevirtual 61, 3) := by decide +kernel
theorem dX0_addGarment_36 : decode cX0_addGarment 36 = .ok (.aload_n 0, 1) := by decide +kernel
theorem dX0_addGarment_37 : decode cX0_addGarment 37 = .ok (.dup, 1) := by decide +kernel
theorem dX0_addGarment_38 : decode cX0_addGarment 38 = .ok (.getfield 35, 3) := by decide +kernel
theorem dX0_addGarment_41 : decode cX0_addGarment 41 = .ok (.iconst 1, 1) := by decide +kernel
theorem dX0_addGarment_42 : decode cX0_addGarment 42 = .ok (.iadd, 1) := by decide +kernel
theorem dX0_addGarment_43 : decode cX0_addGarment 43 = .ok (.putfield 35, 3) := by decide +kernel
theorem dX0_addGarment_46 : decode cX0_addGarment 46 = .ok (.aload_n 3, 1) := by decide +kernel
theorem dX0_addGarment_47 : decode cX0_addGarment 47 = .ok (.areturn, 1) := by decide +kernel
theorem dX0_addPerson_0 : decode cX0_addPerson 0 = .ok (.aload_n 0, 1) := by decide +kernel
theorem dX0_addPerson_1 : decode cX0_addPerson 1 = .ok (.getfield 38, 3) := by decide +kernel
theorem dX0_addPerson_4 : decode cX0_addPerson 4 = .ok (.bipush 6, 2) := by decide +kernel
theorem dX0_addPerson_6 : decode cX0_addPerson 6 = .ok (.if_icmp .lt 5, 3) := by decide +kernel
theorem dX0_addPerson_9 : decode cX0_addPerson 9 = .ok (.aconst_null, 1) := by decide +kernel
theorem dX0_addPerson_10 : decode cX0_addPerson 10 = .ok (.areturn, 1) := by decide +kernel
theorem dX0_addPerson_11 : decode cX0_addPerson 11 = .ok (.aload_n 0, 1) := by decide +kernel
theorem dX0_addPerson_12 : decode cX0_addPerson 12 = .ok (.getfield 26, 3) := by decide +kernel
theorem dX0_addPerson_15 : decode cX0_addPerson 15 = .ok (.aload_n 0, 1) := by decide +kernel
theorem dX0_addPerson_16 : decode cX0_addPerson 16 = .ok (.getfield 38, 3) := by decide +kernel
theorem dX0_addPerson_19 : decode cX0_addPerson 19 = .ok (.aaload, 1) := by decide +kernel
theorem dX0_addPerson_20 : decode cX0_addPerson 20 = .ok (.astore_n 3, 1) := by decide +kernel
theorem dX0_addPerson_21 : decode cX0_addPerson 21 = .ok (.aload_n 3, 1) := by decide +kernel
theorem dX0_addPerson_22 : decode cX0_addPerson 22 = .ok (.iload_n 1, 1) := by decide +kernel
theorem dX0_addPerson_23 : decode cX0_addPerson 23 = .ok (.putfield 51, 3) := by decide +kernel
theorem dX0_addPerson_26 : decode cX0_addPerson 26 = .ok (.aload_n 3, 1) := by decide +kernel
theorem dX0_addPerson_27 : decode cX0_addPerson 27 = .ok (.iload_n 2, 1) := by decide +kernel
theorem dX0_addPerson_28 : decode cX0_addPerson 28 = .ok (.putfield 54, 3) := by decide +kernel
theorem dX0_addPerson_31 : decode cX0_addPerson 31 = .ok (.aload_n 0, 1) := by decide +kernel
theorem dX0_addPerson_32 : decode cX0_addPerson 32 = .ok (.dup, 1) := by decide +kernel
theorem dX0_addPerson_33 : decode cX0_addPerson 33 = .ok (.getfield 38, 3) := by decide +kernel
theorem dX0_addPerson_36 : decode cX0_addPerson 36 = .ok (.iconst 1, 1) := by decide +kernel
theorem dX0_addPerson_37 : decode cX0_addPerson 37 = .ok (.iadd, 1) := by decide +kernel
theorem dX0_addPerson_38 : decode cX0_addPerson 38 = .ok (.putfield 38, 3) := by decide +kernel
theorem dX0_addPerson_41 : decode cX0_addPerson 41 = .ok (.aload_n 3, 1) := by decide +kernel
theorem dX0_addPerson_42 : decode cX0_addPerson 42 = .ok (.areturn, 1) := by decide +kernel
theorem dX0_letDaysGo_0 : decode cX0_letDaysGo 0 = .ok (.iconst 0, 1) := by decide +kernel
theorem dX0_letDaysGo_1 : decode cX0_letDaysGo 1 = .ok (.istore_n 2, 1) := by decide +kernel
theorem dX0_letDaysGo_2 : decode cX0_letDaysGo 2 = .ok (.iload_n 2, 1) := by decide +kernel
theorem dX0_letDaysGo_3 : decode cX0_letDaysGo 3 = .ok (.aload_n 0, 1) := by decide +kernel
theorem dX0_letDaysGo_4 : decode cX0_letDaysGo 4 = .ok (.getfield 35, 3) := by decide +kernel
theorem dX0_letDaysGo_7 : decode cX0_letDaysGo 7 = .ok (.if_icmp .ge 19, 3) := by decide +kernel
theorem dX0_letDaysGo_10 : decode cX0_letDaysGo 10 = .ok (.aload_n 0, 1) := by decide +kernel
theorem dX0_letDaysGo_11 : decode cX0_letDaysGo 11 = .ok (.getfield 17, 3) := by decide +kernel
theorem dX0_letDaysGo_14 : decode cX0_letDaysGo 14 = .ok (.iload_n 2, 1) := by decide +kernel
theorem dX0_letDaysGo_15 : decode cX0_letDaysGo 15 = .ok (.aaload, 1) := by decide +kernel
theorem dX0_letDaysGo_16 : decode cX0_letDaysGo 16 = .ok (.iload_n 1, 1) := by decide +kernel
theorem dX0_letDaysGo_17 : decode cX0_letDaysGo 17 = .ok (.invokevirtual 64, 3) := by decide +kernel
theorem dX0_letDaysGo_20 : decode cX0_letDaysGo 20 = .ok (.iinc 2 1, 3) := by decide +kernel
theorem dX0_letDaysGo_23 : decode cX0_letDaysGo 23 = .ok (.goto (-21), 3) := by decide +kernel
theorem dX0_letDaysGo_26 : decode cX0_letDaysGo 26 = .ok (.aload_n 0, 1) := by decide +kernel
theorem dX0_letDaysGo_27 : decode cX0_letDaysGo 27 = .ok (.dup, 1) := by decide +kernel
theorem dX0_letDaysGo_28 : decode cX0_letDaysGo 28 = .ok (.getfield 41, 3) := by decide +kernel
theorem dX0_letDaysGo_31 : decode cX0_letDaysGo 31 = .ok (.iload_n 1, 1) := by decide +kernel
theorem dX0_letDaysGo_32 : decode cX0_letDaysGo 32 = .ok (.iadd, 1) := by decide +kernel
theorem dX0_letDaysGo_33 : decode cX0_letDaysGo 33 = .ok (.putfield 41, 3) := by decide +kernel
theorem dX0_letDaysGo_36 : decode cX0_letDaysGo 36 = .ok (.return_, 1) := by decide +kernel
theorem dX0_wetOnes_0 : decode cX0_wetOnes 0 = .ok (.iconst 0, 1) := by decide +kernel
theorem dX0_wetOnes_1 : decode cX0_wetOnes 1 = .ok (.istore_n 1, 1) := by decide +kernel
theorem dX0_wetOnes_2 : decode cX0_wetOnes 2 = .ok (.iconst 0, 1) := by decide +kernel
theorem dX0_wetOnes_3 : decode cX0_wetOnes 3 = .ok (.istore_n 2, 1) := by decide +kernel
theorem dX0_wetOnes_4 : decode cX0_wetOnes 4 = .ok (.iload_n 2, 1) := by decide +kernel
theorem dX0_wetOnes_5 : decode cX0_wetOnes 5 = .ok (.aload_n 0, 1) := by decide +kernel
theorem dX0_wetOnes_6 : decode cX0_wetOnes 6 = .ok (.getfield 35, 3) := by decide +kernel
theorem dX0_wetOnes_9 : decode cX0_wetOnes 9 = .ok (.if_icmp .ge 27, 3) := by decide +kernel
theorem dX0_wetOnes_12 : decode cX0_wetOnes 12 = .ok (.aload_n 0, 1) := by decide +kernel
theorem dX0_wetOnes_13 : decode cX0_wetOnes 13 = .ok (.getfield 17, 3) := by decide +kernel
theorem dX0_wetOnes_16 : decode cX0_wetOnes 16 = .ok (.iload_n 2, 1) := by decide +kernel
theorem dX0_wetOnes_17 : decode cX0_wetOnes 17 = .ok (.aaload, 1) := by decide +kernel
theorem dX0_wetOnes_18 : decode cX0_wetOnes 18 = .ok (.getfield 68, 3) := by decide +kernel
theorem dX0_wetOnes_21 : decode cX0_wetOnes 21 = .ok (.ifCond .le 9, 3) := by decide +kernel
theorem dX0_wetOnes_24 : decode cX0_wetOnes 24 = .ok (.iload_n 1, 1) := by decide +kernel
theorem dX0_wetOnes_25 : decode cX0_wetOnes 25 = .ok (.iconst 1, 1) := by decide +kernel
theorem dX0_wetOnes_26 : decode cX0_wetOnes 26 = .ok (.iload_n 2, 1) := by decide +kernel
theorem dX0_wetOnes_27 : decode cX0_wetOnes 27 = .ok (.ishl, 1) := by decide +kernel
theorem dX0_wetOnes_28 : decode cX0_wetOnes 28 = .ok (.ior, 1) := by decide +kernel
theorem dX0_wetOnes_29 : decode cX0_wetOnes 29 = .ok (.istore_n 1, 1) := by decide +kernel
theorem dX0_wetOnes_30 : decode cX0_wetOnes 30 = .ok (.iinc 2 1, 3) := by decide +kernel
theorem dX0_wetOnes_33 : decode cX0_wetOnes 33 = .ok (.goto (-29), 3) := by decide +kernel
theorem dX0_wetOnes_36 : decode cX0_wetOnes 36 = .ok (.iload_n 1, 1) := by decide +kernel
theorem dX0_wetOnes_37 : decode cX0_wetOnes 37 = .ok (.ireturn, 1) := by decide +kernel
theorem dX0_onesWithHoles_0 : decode cX0_onesWithHoles 0 = .ok (.iconst 0, 1) := by decide +kernel
theorem dX0_onesWithHoles_1 : decode cX0_onesWithHoles 1 = .ok (.istore_n 1, 1) := by decide +kernel
theorem dX0_onesWithHoles_2 : decode cX0_onesWithHoles 2 = .ok (.iconst 0, 1) := by decide +kernel
theorem dX0_onesWithHoles_3 : decode cX0_onesWithHoles 3 = .ok (.istore_n 2, 1) := by decide +kernel
theorem dX0_onesWithHoles_4 : decode cX0_onesWithHoles 4 = .ok (.iload_n 2, 1) := by decide +kernel
theorem dX0_onesWithHoles_5 : decode cX0_onesWithHoles 5 = .ok (.aload_n 0, 1) := by decide +kernel
theorem dX0_onesWithHoles_6 : decode cX0_onesWithHoles 6 = .ok (.getfield 35, 3) := by decide +kernel
theorem dX0_onesWithHoles_9 : decode cX0_onesWithHoles 9 = .ok (.if_icmp .ge 27, 3) := by decide +kernel
theorem dX0_onesWithHoles_12 : decode cX0_onesWithHoles 12 = .ok (.aload_n 0, 1) := by decide +kernel
theorem dX0_onesWithHoles_13 : decode cX0_onesWithHoles 13 = .ok (.getfield 17, 3) := by decide +kernel
theorem dX0_onesWithHoles_16 : decode cX0_onesWithHoles 16 = .ok (.iload_n 2, 1) := by decide +kernel
theorem dX0_onesWithHoles_17 : decode cX0_onesWithHoles 17 = .ok (.aaload, 1) := by decide +kernel
theorem dX0_onesWithHoles_18 : decode cX0_onesWithHoles 18 = .ok (.getfield 71, 3) := by decide +kernel
theorem dX0_onesWithHoles_21 : decode cX0_onesWithHoles 21 = .ok (.ifCond .le 9, 3) := by decide +kernel
theorem dX0_onesWithHoles_24 : decode cX0_onesWithHoles 24 = .ok (.iload_n 1, 1) := by decide +kernel
theorem dX0_onesWithHoles_25 : decode cX0_onesWithHoles 25 = .ok (.iconst 1, 1) := by decide +kernel
theorem dX0_onesWithHoles_26 : decode cX0_onesWithHoles 26 = .ok (.iload_n 2, 1) := by decide +kernel
theorem dX0_onesWithHoles_27 : decode cX0_onesWithHoles 27 = .ok (.ishl, 1) := by decide +kernel
theorem dX0_onesWithHoles_28 : decode cX0_onesWithHoles 28 = .ok (.ior, 1) := by decide +kernel
theorem dX0_onesWithHoles_29 : decode cX0_onesWithHoles 29 = .ok (.istore_n 1, 1) := by decide +kernel
theorem dX0_onesWithHoles_30 : decode cX0_onesWithHoles 30 = .ok (.iinc 2 1, 3) := by decide +kernel
theorem dX0_onesWithHoles_33 : decode cX0_onesWithHoles 33 = .ok (.goto (-29), 3) := by decide +kernel
theorem dX0_onesWithHoles_36 : decode cX0_onesWithHoles 36 = .ok (.iload_n 1, 1) := by decide +kernel
theorem dX0_onesWithHoles_37 : decode cX0_onesWithHoles 37 = .ok (.ireturn, 1) := by decide +kernel
theorem dX0_onesFor_0 : decode cX0_onesFor 0 = .ok (.iconst 0, 1) := by decide +kernel
theorem dX0_onesFor_1 : decode cX0_onesFor 1 = .ok (.istore_n 2, 1) := by decide +kernel
theorem dX0_onesFor_2 : decode cX0_onesFor 2 = .ok (.iconst 0, 1) := by decide +kernel
theorem dX0_onesFor_3 : decode cX0_onesFor 3 = .ok (.istore_n 3, 1) := by decide +kernel
theorem dX0_onesFor_4 : decode cX0_onesFor 4 = .ok (.iload_n 3, 1) := by decide +kernel
theorem dX0_onesFor_5 : decode cX0_onesFor 5 = .ok (.aload_n 0, 1) := by decide +kernel
theorem dX0_onesFor_6 : decode cX0_onesFor 6 = .ok (.getfield 35, 3) := by decide +kernel
theorem dX0_onesFor_9 : decode cX0_onesFor 9 = .ok (.if_icmp .ge 28, 3) := by decide +kernel
theorem dX0_onesFor_12 : decode cX0_onesFor 12 = .ok (.aload_n 0, 1) := by decide +kernel
theorem dX0_onesFor_13 : decode cX0_onesFor 13 = .ok (.getfield 17, 3) := by decide +kernel
theorem dX0_onesFor_16 : decode cX0_onesFor 16 = .ok (.iload_n 3, 1) := by decide +kernel
theorem dX0_onesFor_17 : decode cX0_onesFor 17 = .ok (.aaload, 1) := by decide +kernel
theorem dX0_onesFor_18 : decode cX0_onesFor 18 = .ok (.aload_n 1, 1) := by decide +kernel
theorem dX0_onesFor_19 : decode cX0_onesFor 19 = .ok (.invokevirtual 74, 3) := by decide +kernel
theorem dX0_onesFor_22 : decode cX0_onesFor 22 = .ok (.ifCond .eq 9, 3) := by decide +kernel
theorem dX0_onesFor_25 : decode cX0_onesFor 25 = .ok (.iload_n 2, 1) := by decide +kernel
theorem dX0_onesFor_26 : decode cX0_onesFor 26 = .ok (.iconst 1, 1) := by decide +kernel
theorem dX0_onesFor_27 : decode cX0_onesFor 27 = .ok (.iload_n 3, 1) := by decide +kernel
theorem dX0_onesFor_28 : decode cX0_onesFor 28 = .ok (.ishl, 1) := by decide +kernel
theorem dX0_onesFor_29 : decode cX0_onesFor 29 = .ok (.ior, 1) := by decide +kernel
theorem dX0_onesFor_30 : decode cX0_onesFor 30 = .ok (.istore_n 2, 1) := by decide +kernel
theorem dX0_onesFor_31 : decode cX0_onesFor 31 = .ok (.iinc 3 1, 3) := by decide +kernel
theorem dX0_onesFor_34 : decode cX0_onesFor 34 = .ok (.goto (-30), 3) := by decide +kernel
theorem dX0_onesFor_37 : decode cX0_onesFor 37 = .ok (.iload_n 2, 1) := by decide +kernel
theorem dX0_onesFor_38 : decode cX0_onesFor 38 = .ok (.ireturn, 1) := by decide +kernel
theorem dX0_onesForAnybody_0 : decode cX0_onesForAnybody 0 = .ok (.iconst 0, 1) := by decide +kernel
theorem dX0_onesForAnybody_1 : decode cX0_onesForAnybody 1 = .ok (.istore_n 1, 1) := by decide +kernel
theorem dX0_onesForAnybody_2 : decode cX0_onesForAnybody 2 = .ok (.iconst 0, 1) := by decide +kernel
theorem dX0_onesForAnybody_3 : decode cX0_onesForAnybody 3 = .ok (.istore_n 2, 1) := by decide +kernel
theorem dX0_onesForAnybody_4 : decode cX0_onesForAnybody 4 = .ok (.iload_n 2, 1) := by decide +kernel
theorem dX0_onesForAnybody_5 : decode cX0_onesForAnybody 5 = .ok (.aload_n 0, 1) := by decide +kernel
theorem dX0_onesForAnybody_6 : decode cX0_onesForAnybody 6 = .ok (.getfield 38, 3) := by decide +kernel
theorem dX0_onesForAnybody_9 : decode cX0_onesForAnybody 9 = .ok (.if_icmp .ge 22, 3) := by decide +kernel
theorem dX0_onesForAnybody_12 : decode cX0_onesForAnybody 12 = .ok (.iload_n 1, 1) := by decide +kernel
theorem dX0_onesForAnybody_13 : decode cX0_onesForAnybody 13 = .ok (.aload_n 0, 1) := by decide +kernel
theorem dX0_onesForAnybody_14 : decode cX0_onesForAnybody 14 = .ok (.aload_n 0, 1) := by decide +kernel
theorem dX0_onesForAnybody_15 : decode cX0_onesForAnybody 15 = .ok (.getfield 26, 3) := by decide +kernel
theorem dX0_onesForAnybody_18 : decode cX0_onesForAnybody 18 = .ok (.iload_n 2, 1) := by decide +kernel
theorem dX0_onesForAnybody_19 : decode cX0_onesForAnybody 19 = .ok (.aaload, 1) := by decide +kernel
theorem dX0_onesForAnybody_20 : decode cX0_onesForAnybody 20 = .ok (.invokevirtual 78, 3) := by decide +kernel
theorem dX0_onesForAnybody_23 : decode cX0_onesForAnybody 23 = .ok (.ior, 1) := by decide +kernel
theorem dX0_onesForAnybody_24 : decode cX0_onesForAnybody 24 = .ok (.istore_n 1, 1) := by decide +kernel
theorem dX0_onesForAnybody_25 : decode cX0_onesForAnybody 25 = .ok (.iinc 2 1, 3) := by decide +kernel
theorem dX0_onesForAnybody_28 : decode cX0_onesForAnybody 28 = .ok (.goto (-24), 3) := by decide +kernel
theorem dX0_onesForAnybody_31 : decode cX0_onesForAnybody 31 = .ok (.iload_n 1, 1) := by decide +kernel
theorem dX0_onesForAnybody_32 : decode cX0_onesForAnybody 32 = .ok (.ireturn, 1) := by decide +kernel
theorem dX0_bestDressed_0 : decode cX0_bestDressed 0 = .ok (.iconst 0, 1) := by decide +kernel
theorem dX0_bestDressed_1 : decode cX0_bestDressed 1 = .ok (.istore_n 1, 1) := by decide +kernel
theorem dX0_bestDressed_2 : decode cX0_bestDressed 2 = .ok (.iconst (-1), 1) := by decide +kernel
theorem dX0_bestDressed_3 : decode cX0_bestDressed 3 = .ok (.istore_n 2, 1) := by decide +kernel
theorem dX0_bestDressed_4 : decode cX0_bestDressed 4 = .ok (.iconst 0, 1) := by decide +kernel
theorem dX0_bestDressed_5 : decode cX0_bestDressed 5 = .ok (.istore_n 3, 1) := by decide +kernel
theorem dX0_bestDressed_6 : decode cX0_bestDressed 6 = .ok (.iload_n 3, 1) := by decide +kernel
theorem dX0_bestDressed_7 : decode cX0_bestDressed 7 = .ok (.aload_n 0, 1) := by decide +kernel
theorem dX0_bestDressed_8 : decode cX0_bestDressed 8 = .ok (.getfield 38, 3) := by decide +kernel
theorem dX0_bestDressed_11 : decode cX0_bestDressed 11 = .ok (.if_icmp .ge 35, 3) := by decide +kernel
theorem dX0_bestDressed_14 : decode cX0_bestDressed 14 = .ok (.aload_n 0, 1) := by decide +kernel
theorem dX0_bestDressed_15 : decode cX0_bestDressed 15 = .ok (.aload_n 0, 1) := by decide +kernel
theorem dX0_bestDressed_16 : decode cX0_bestDressed 16 = .ok (.getfield 26, 3) := by decide +kernel
theorem dX0_bestDressed_19 : decode cX0_bestDressed 19 = .ok (.iload_n 3, 1) := by decide +kernel
theorem dX0_bestDressed_20 : decode cX0_bestDressed 20 = .ok (.aaload, 1) := by decide +kernel
theorem dX0_bestDressed_21 : decode cX0_bestDressed 21 = .ok (.invokevirtual 78, 3) := by decide +kernel
theorem dX0_bestDressed_24 : decode cX0_bestDressed 24 = .ok (.invokestatic 82, 3) := by decide +kernel
theorem dX0_bestDressed_27 : decode cX0_bestDressed 27 = .ok (.istore 4, 2) := by decide +kernel
theorem dX0_bestDressed_29 : decode cX0_bestDressed 29 = .ok (.iload 4, 2) := by decide +kernel
theorem dX0_bestDressed_31 : decode cX0_bestDressed 31 = .ok (.iload_n 2, 1) := by decide +kernel
theorem dX0_bestDressed_32 : decode cX0_bestDressed 32 = .ok (.if_icmp .le 8, 3) := by decide +kernel
theorem dX0_bestDressed_35 : decode cX0_bestDressed 35 = .ok (.iload 4, 2) := by decide +kernel
theorem dX0_bestDressed_37 : decode cX0_bestDressed 37 = .ok (.istore_n 2, 1) := by decide +kernel
theorem dX0_bestDressed_38 : decode cX0_bestDressed 38 = .ok (.iload_n 3, 1) := by decide +kernel
theorem dX0_bestDressed_39 : decode cX0_bestDressed 39 = .ok (.istore_n 1, 1) := by decide +kernel
theorem dX0_bestDressed_40 : decode cX0_bestDressed 40 = .ok (.iinc 3 1, 3) := by decide +kernel
theorem dX0_bestDressed_43 : decode cX0_bestDressed 43 = .ok (.goto (-37), 3) := by decide +kernel
theorem dX0_bestDressed_46 : decode cX0_bestDressed 46 = .ok (.iload_n 1, 1) := by decide +kernel
theorem dX0_bestDressed_47 : decode cX0_bestDressed 47 = .ok (.ireturn, 1) := by decide +kernel
theorem dX0_allHoles_0 : decode cX0_allHoles 0 = .ok (.iconst 0, 1) := by decide +kernel
theorem dX0_allHoles_1 : decode cX0_allHoles 1 = .ok (.istore_n 1, 1) := by decide +kernel
theorem dX0_allHoles_2 : decode cX0_allHoles 2 = .ok (.iconst 0, 1) := by decide +kernel
theorem dX0_allHoles_3 : decode cX0_allHoles 3 = .ok (.istore_n 2, 1) := by decide +kernel
theorem dX0_allHoles_4 : decode cX0_allHoles 4 = .ok (.iload_n 2, 1) := by decide +kernel
theorem dX0_allHoles_5 : decode cX0_allHoles 5 = .ok (.aload_n 0, 1) := by decide +kernel
theorem dX0_allHoles_6 : decode cX0_allHoles 6 = .ok (.getfield 35, 3) := by decide +kernel
theorem dX0_allHoles_9 : decode cX0_allHoles 9 = .ok (.if_icmp .ge 21, 3) := by decide +kernel
theorem dX0_allHoles_12 : decode cX0_allHoles 12 = .ok (.iload_n 1, 1) := by decide +kernel
theorem dX0_allHoles_13 : decode cX0_allHoles 13 = .ok (.aload_n 0, 1) := by decide +kernel
theorem dX0_allHoles_14 : decode cX0_allHoles 14 = .ok (.getfield 17, 3) := by decide +kernel
theorem dX0_allHoles_17 : decode cX0_allHoles 17 = .ok (.iload_n 2, 1) := by decide +kernel
theorem dX0_allHoles_18 : decode cX0_allHoles 18 = .ok (.aaload, 1) := by decide +kernel
theorem dX0_allHoles_19 : decode cX0_allHoles 19 = .ok (.getfield 71, 3) := by decide +kernel
theorem dX0_allHoles_22 : decode cX0_allHoles 22 = .ok (.iadd, 1) := by decide +kernel
theorem dX0_allHoles_23 : decode cX0_allHoles 23 = .ok (.istore_n 1, 1) := by decide +kernel
theorem dX0_allHoles_24 : decode cX0_allHoles 24 = .ok (.iinc 2 1, 3) := by decide +kernel
theorem dX0_allHoles_27 : decode cX0_allHoles 27 = .ok (.goto (-23), 3) := by decide +kernel
theorem dX0_allHoles_30 : decode cX0_allHoles 30 = .ok (.iload_n 1, 1) := by decide +kernel
theorem dX0_allHoles_31 : decode cX0_allHoles 31 = .ok (.ireturn, 1) := by decide +kernel
theorem dX1_init_0 : decode cX1_init 0 = .ok (.aload_n 0, 1) := by decide +kernel
theorem dX1_init_1 : decode cX1_init 1 = .ok (.iload_n 1, 1) := by decide +kernel
theorem dX1_init_2 : decode cX1_init 2 = .ok (.aload_n 2, 1) := by decide +kernel
theorem dX1_init_3 : decode cX1_init 3 = .ok (.invokespecial 1, 3) := by decide +kernel
theorem dX1_init_6 : decode cX1_init 6 = .ok (.return_, 1) := by decide +kernel
theorem dX1_shrinks_0 : decode cX1_shrinks 0 = .ok (.iload_n 1, 1) := by decide +kernel
theorem dX1_shrinks_1 : decode cX1_shrinks 1 = .ok (.bipush 20, 2) := by decide +kernel
theorem dX1_shrinks_3 : decode cX1_shrinks 3 = .ok (.idiv, 1) := by decide +kernel
theorem dX1_shrinks_4 : decode cX1_shrinks 4 = .ok (.ireturn, 1) := by decide +kernel
theorem dX1_bears_0 : decode cX1_bears 0 = .ok (.iconst 5, 1) := by decide +kernel
theorem dX1_bears_1 : decode cX1_bears 1 = .ok (.ireturn, 1) := by decide +kernel
theorem dX1_keeps_0 : decode cX1_keeps 0 = .ok (.bipush 20, 2) := by decide +kernel
theorem dX1_keeps_2 : decode cX1_keeps 2 = .ok (.ireturn, 1) := by decide +kernel
theorem dX2_init_0 : decode cX2_init 0 = .ok (.aload_n 0, 1) := by decide +kernel
theorem dX2_init_1 : decode cX2_init 1 = .ok (.invokespecial 3, 3) := by decide +kernel
theorem dX2_init_4 : decode cX2_init 4 = .ok (.aload_n 0, 1) := by decide +kernel
theorem dX2_init_5 : decode cX2_init 5 = .ok (.aload_n 1, 1) := by decide +kernel
theorem dX2_init_6 : decode cX2_init 6 = .ok (.putfield 9, 3) := by decide +kernel
theorem dX2_init_9 : decode cX2_init 9 = .ok (.return_, 1) := by decide +kernel
theorem dX2_beNew_0 : decode cX2_beNew 0 = .ok (.aload_n 0, 1) := by decide +kernel
theorem dX2_beNew_1 : decode cX2_beNew 1 = .ok (.aload_n 1, 1) := by decide +kernel
theorem dX2_beNew_2 : decode cX2_beNew 2 = .ok (.putfield 9, 3) := by decide +kernel
theorem dX2_beNew_5 : decode cX2_beNew 5 = .ok (.aload_n 0, 1) := by decide +kernel
theorem dX2_beNew_6 : decode cX2_beNew 6 = .ok (.bipush 100, 2) := by decide +kernel
theorem dX2_beNew_8 : decode cX2_beNew 8 = .ok (.putfield 15, 3) := by decide +kernel
theorem dX2_beNew_11 : decode cX2_beNew 11 = .ok (.aload_n 0, 1) := by decide +kernel
theorem dX2_beNew_12 : decode cX2_beNew 12 = .ok (.bipush 100, 2) := by decide +kernel
theorem dX2_beNew_14 : decode cX2_beNew 14 = .ok (.putfield 19, 3) := by decide +kernel
theorem dX2_beNew_17 : decode cX2_beNew 17 = .ok (.aload_n 0, 1) := by decide +kernel
theorem dX2_beNew_18 : decode cX2_beNew 18 = .ok (.bipush 10, 2) := by decide +kernel
theorem dX2_beNew_20 : decode cX2_beNew 20 = .ok (.putfield 22, 3) := by decide +kernel
theorem dX2_beNew_23 : decode cX2_beNew 23 = .ok (.aload_n 0, 1) := by decide +kernel
theorem dX2_beNew_24 : decode cX2_beNew 24 = .ok (.iconst 0, 1) := by decide +kernel
theorem dX2_beNew_25 : decode cX2_beNew 25 = .ok (.putfield 25, 3) := by decide +kernel
theorem dX2_beNew_28 : decode cX2_beNew 28 = .ok (.aload_n 0, 1) := by decide +kernel
theorem dX2_beNew_29 : decode cX2_beNew 29 = .ok (.iconst 0, 1) := by decide +kernel
theorem dX2_beNew_30 : decode cX2_beNew 30 = .ok (.putfield 28, 3) := by decide +kernel
theorem dX2_beNew_33 : decode cX2_beNew 33 = .ok (.aload_n 0, 1) := by decide +kernel
theorem dX2_beNew_34 : decode cX2_beNew 34 = .ok (.iconst 0, 1) := by decide +kernel
theorem dX2_beNew_35 : decode cX2_beNew 35 = .ok (.putfield 31, 3) := by decide +kernel
theorem dX2_beNew_38 : decode cX2_beNew 38 = .ok (.return_, 1) := by decide +kernel
theorem dX2_become_0 : decode cX2_become 0 = .ok (.aload_n 0, 1) := by decide +kernel
theorem dX2_become_1 : decode cX2_become 1 = .ok (.aload_n 1, 1) := by decide +kernel
theorem dX2_become_2 : decode cX2_become 2 = .ok (.getfield 9, 3) := by decide +kernel
theorem dX2_become_5 : decode cX2_become 5 = .ok (.putfield 9, 3) := by decide +kernel
theorem dX2_become_8 : decode cX2_become 8 = .ok (.aload_n 0, 1) := by decide +kernel
theorem dX2_become_9 : decode cX2_become 9 = .ok (.aload_n 1, 1) := by decide +kernel
theorem dX2_become_10 : decode cX2_become 10 = .ok (.getfield 15, 3) := by decide +kernel
theorem dX2_become_13 : decode cX2_become 13 = .ok (.putfield 15, 3) := by decide +kernel
theorem dX2_become_16 : decode cX2_become 16 = .ok (.aload_n 0, 1) := by decide +kernel
theorem dX2_become_17 : decode cX2_become 17 = .ok (.aload_n 1, 1) := by decide +kernel
theorem dX2_become_18 : decode cX2_become 18 = .ok (.getfield 19, 3) := by decide +kernel
theorem dX2_become_21 : decode cX2_become 21 = .ok (.putfield 19, 3) := by decide +kernel
theorem dX2_become_24 : decode cX2_become 24 = .ok (.aload_n 0, 1) := by decide +kernel
theorem dX2_become_25 : decode cX2_become 25 = .ok (.aload_n 1, 1) := by decide +kernel
theorem dX2_become_26 : decode cX2_become 26 = .ok (.getfield 22, 3) := by decide +kernel
theorem dX2_become_29 : decode cX2_become 29 = .ok (.putfield 22, 3) := by decide +kernel
theorem dX2_become_32 : decode cX2_become 32 = .ok (.aload_n 0, 1) := by decide +kernel
theorem dX2_become_33 : decode cX2_become 33 = .ok (.aload_n 1, 1) := by decide +kernel
theorem dX2_become_34 : decode cX2_become 34 = .ok (.getfield 25, 3) := by decide +kernel
theorem dX2_become_37 : decode cX2_become 37 = .ok (.putfield 25, 3) := by decide +kernel
theorem dX2_become_40 : decode cX2_become 40 = .ok (.aload_n 0, 1) := by decide +kernel
theorem dX2_become_41 : decode cX2_become 41 = .ok (.aload_n 1, 1) := by decide +kernel
theorem dX2_become_42 : decode cX2_become 42 = .ok (.getfield 28, 3) := by decide +kernel
theorem dX2_become_45 : decode cX2_become 45 = .ok (.putfield 28, 3) := by decide +kernel
theorem dX2_become_48 : decode cX2_become 48 = .ok (.aload_n 0, 1) := by decide +kernel
theorem dX2_become_49 : decode cX2_become 49 = .ok (.aload_n 1, 1) := by decide +kernel
theorem dX2_become_50 : decode cX2_become 50 = .ok (.getfield 31, 3) := by decide +kernel
theorem dX2_become_53 : decode cX2_become 53 = .ok (.putfield 31, 3) := by decide +kernel
theorem dX2_become_56 : decode cX2_become 56 = .ok (.return_, 1) := by decide +kernel
theorem dX2_goThroughWash_0 : decode cX2_goThroughWash 0 = .ok (.aload_n 0, 1) := by decide +kernel
theorem dX2_goThroughWash_1 : decode cX2_goThroughWash 1 = .ok (.getfield 9, 3) := by decide +kernel
theorem dX2_goThroughWash_4 : decode cX2_goThroughWash 4 = .ok (.iload_n 1, 1) := by decide +kernel
theorem dX2_goThroughWash_5 : decode cX2_goThroughWash 5 = .ok (.iload_n 2, 1) := by decide +kernel
theorem dX2_goThroughWash_6 : decode cX2_goThroughWash 6 = .ok (.invokevirtual 34, 3) := by decide +kernel
theorem dX2_goThroughWash_9 : decode cX2_goThroughWash 9 = .ok (.istore_n 3, 1) := by decide +kernel
theorem dX2_goThroughWash_10 : decode cX2_goThroughWash 10 = .ok (.aload_n 0, 1) := by decide +kernel
theorem dX2_goThroughWash_11 : decode cX2_goThroughWash 11 = .ok (.bipush 10, 2) := by decide +kernel
theorem dX2_goThroughWash_13 : decode cX2_goThroughWash 13 = .ok (.aload_n 0, 1) := by decide +kernel
theorem dX2_goThroughWash_14 : decode cX2_goThroughWash 14 = .ok (.getfield 15, 3) := by decide +kernel
theorem dX2_goThroughWash_17 : decode cX2_goThroughWash 17 = .ok (.aload_n 0, 1) := by decide +kernel
theorem dX2_goThroughWash_18 : decode cX2_goThroughWash 18 = .ok (.getfield 15, 3) := by decide +kernel
theorem dX2_goThroughWash_21 : decode cX2_goThroughWash 21 = .ok (.iload_n 3, 1) := by decide +kernel
theorem dX2_goThroughWash_22 : decode cX2_goThroughWash 22 = .ok (.imul, 1) := by decide +kernel
theorem dX2_goThroughWash_23 : decode cX2_goThroughWash 23 = .ok (.bipush 100, 2) := by decide +kernel
theorem dX2_goThroughWash_25 : decode cX2_goThroughWash 25 = .ok (.idiv, 1) := by decide +kernel
theorem dX2_goThroughWash_26 : decode cX2_goThroughWash 26 = .ok (.isub, 1) := by decide +kernel
theorem dX2_goThroughWash_27 : decode cX2_goThroughWash 27 = .ok (.invokestatic 40, 3) := by decide +kernel
theorem dX2_goThroughWash_30 : decode cX2_goThroughWash 30 = .ok (.putfield 15, 3) := by decide +kernel
theorem dX2_goThroughWash_33 : decode cX2_goThroughWash 33 = .ok (.aload_n 0, 1) := by decide +kernel
theorem dX2_goThroughWash_34 : decode cX2_goThroughWash 34 = .ok (.bipush 10, 2) := by decide +kernel
theorem dX2_goThroughWash_36 : decode cX2_goThroughWash 36 = .ok (.aload_n 0, 1) := by decide +kernel
theorem dX2_goThroughWash_37 : decode cX2_goThroughWash 37 = .ok (.getfield 19, 3) := by decide +kernel
theorem dX2_goThroughWash_40 : decode cX2_goThroughWash 40 = .ok (.aload_n 0, 1) := by decide +kernel
theorem dX2_goThroughWash_41 : decode cX2_goThroughWash 41 = .ok (.getfield 19, 3) := by decide +kernel
theorem dX2_goThroughWash_44 : decode cX2_goThroughWash 44 = .ok (.iload_n 3, 1) := by decide +kernel
theorem dX2_goThroughWash_45 : decode cX2_goThroughWash 45 = .ok (.imul, 1) := by decide +kernel
theorem dX2_goThroughWash_46 : decode cX2_goThroughWash 46 = .ok (.bipush 100, 2) := by decide +kernel
theorem dX2_goThroughWash_48 : decode cX2_goThroughWash 48 = .ok (.idiv, 1) := by decide +kernel
theorem dX2_goThroughWash_49 : decode cX2_goThroughWash 49 = .ok (.isub, 1) := by decide +kernel
theorem dX2_goThroughWash_50 : decode cX2_goThroughWash 50 = .ok (.invokestatic 40, 3) := by decide +kernel
theorem dX2_goThroughWash_53 : decode cX2_goThroughWash 53 = .ok (.putfield 19, 3) := by decide +kernel
theorem dX2_goThroughWash_56 : decode cX2_goThroughWash 56 = .ok (.aload_n 0, 1) := by decide +kernel
theorem dX2_goThroughWash_57 : decode cX2_goThroughWash 57 = .ok (.bipush 99, 2) := by decide +kernel
theorem dX2_goThroughWash_59 : decode cX2_goThroughWash 59 = .ok (.aload_n 0, 1) := by decide +kernel
theorem dX2_goThroughWash_60 : decode cX2_goThroughWash 60 = .ok (.getfield 22, 3) := by decide +kernel
theorem dX2_goThroughWash_63 : decode cX2_goThroughWash 63 = .ok (.aload_n 0, 1) := by decide +kernel
theorem dX2_goThroughWash_64 : decode cX2_goThroughWash 64 = .ok (.getfield 9, 3) := by decide +kernel
theorem dX2_goThroughWash_67 : decode cX2_goThroughWash 67 = .ok (.iload_n 3, 1) := by decide +kernel
theorem dX2_goThroughWash_68 : decode cX2_goThroughWash 68 = .ok (.invokevirtual 45, 3) := by decide +kernel
theorem dX2_goThroughWash_71 : decode cX2_goThroughWash 71 = .ok (.iadd, 1) := by decide +kernel
theorem dX2_goThroughWash_72 : decode cX2_goThroughWash 72 = .ok (.invokestatic 49, 3) := by decide +kernel
theorem dX2_goThroughWash_75 : decode cX2_goThroughWash 75 = .ok (.putfield 22, 3) := by decide +kernel
theorem dX2_goThroughWash_78 : decode cX2_goThroughWash 78 = .ok (.aload_n 0, 1) := by decide +kernel
theorem dX2_goThroughWash_79 : decode cX2_goThroughWash 79 = .ok (.iconst 3, 1) := by decide +kernel
theorem dX2_goThroughWash_80 : decode cX2_goThroughWash 80 = .ok (.putfield 25, 3) := by decide +kernel
theorem dX2_goThroughWash_83 : decode cX2_goThroughWash 83 = .ok (.aload_n 0, 1) := by decide +kernel
theorem dX2_goThroughWash_84 : decode cX2_goThroughWash 84 = .ok (.iconst 0, 1) := by decide +kernel
theorem dX2_goThroughWash_85 : decode cX2_goThroughWash 85 = .ok (.putfield 28, 3) := by decide +kernel
theorem dX2_goThroughWash_88 : decode cX2_goThroughWash 88 = .ok (.return_, 1) := by decide +kernel
theorem dX2_goThroughWashes_0 : decode cX2_goThroughWashes 0 = .ok (.iconst 0, 1) := by decide +kernel
theorem dX2_goThroughWashes_1 : decode cX2_goThroughWashes 1 = .ok (.istore 4, 2) := by decide +kernel
theorem dX2_goThroughWashes_3 : decode cX2_goThroughWashes 3 = .ok (.iload 4, 2) := by decide +kernel
theorem dX2_goThroughWashes_5 : decode cX2_goThroughWashes 5 = .ok (.iload_n 1, 1) := by decide +kernel
theorem dX2_goThroughWashes_6 : decode cX2_goThroughWashes 6 = .ok (.if_icmp .ge 15, 3) := by decide +kernel
theorem dX2_goThroughWashes_9 : decode cX2_goThroughWashes 9 = .ok (.aload_n 0, 1) := by decide +kernel
theorem dX2_goThroughWashes_10 : decode cX2_goThroughWashes 10 = .ok (.iload_n 2, 1) := by decide +kernel
theorem dX2_goThroughWashes_11 : decode cX2_goThroughWashes 11 = .ok (.iload_n 3, 1) := by decide +kernel
theorem dX2_goThroughWashes_12 : decode cX2_goThroughWashes 12 = .ok (.invokevirtual 52, 3) := by decide +kernel
theorem dX2_goThroughWashes_15 : decode cX2_goThroughWashes 15 = .ok (.iinc 4 1, 3) := by decide +kernel
theorem dX2_goThroughWashes_18 : decode cX2_goThroughWashes 18 = .ok (.goto (-15), 3) := by decide +kernel
theorem dX2_goThroughWashes_21 : decode cX2_goThroughWashes 21 = .ok (.return_, 1) := by decide +kernel
theorem dX2_stretch_0 : decode cX2_stretch 0 = .ok (.aload_n 0, 1) := by decide +kernel
theorem dX2_stretch_1 : decode cX2_stretch 1 = .ok (.sipush 200, 3) := by decide +kernel
theorem dX2_stretch_4 : decode cX2_stretch 4 = .ok (.aload_n 0, 1) := by decide +kernel
theorem dX2_stretch_5 : decode cX2_stretch 5 = .ok (.getfield 15, 3) := by decide +kernel
theorem dX2_stretch_8 : decode cX2_stretch 8 = .ok (.iload_n 1, 1) := by decide +kernel
theorem dX2_stretch_9 : decode cX2_stretch 9 = .ok (.iadd, 1) := by decide +kernel
theorem dX2_stretch_10 : decode cX2_stretch 10 = .ok (.invokestatic 49, 3) := by decide +kernel
theorem dX2_stretch_13 : decode cX2_stretch 13 = .ok (.putfield 15, 3) := by decide +kernel
theorem dX2_stretch_16 : decode cX2_stretch 16 = .ok (.aload_n 0, 1) := by decide +kernel
theorem dX2_stretch_17 : decode cX2_stretch 17 = .ok (.bipush 10, 2) := by decide +kernel
theorem dX2_stretch_19 : decode cX2_stretch 19 = .ok (.aload_n 0, 1) := by decide +kernel
theorem dX2_stretch_20 : decode cX2_stretch 20 = .ok (.getfield 19, 3) := by decide +kernel
theorem dX2_stretch_23 : decode cX2_stretch 23 = .ok (.iload_n 1, 1) := by decide +kernel
theorem dX2_stretch_24 : decode cX2_stretch 24 = .ok (.iconst 2, 1) := by decide +kernel
theorem dX2_stretch_25 : decode cX2_stretch 25 = .ok (.idiv, 1) := by decide +kernel
theorem dX2_stretch_26 : decode cX2_stretch 26 = .ok (.isub, 1) := by decide +kernel
theorem dX2_stretch_27 : decode cX2_stretch 27 = .ok (.invokestatic 40, 3) := by decide +kernel
theorem dX2_stretch_30 : decode cX2_stretch 30 = .ok (.putfield 19, 3) := by decide +kernel
theorem dX2_stretch_33 : decode cX2_stretch 33 = .ok (.aload_n 0, 1) := by decide +kernel
theorem dX2_stretch_34 : decode cX2_stretch 34 = .ok (.dup, 1) := by decide +kernel
theorem dX2_stretch_35 : decode cX2_stretch 35 = .ok (.getfield 28, 3) := by decide +kernel
theorem dX2_stretch_38 : decode cX2_stretch 38 = .ok (.iload_n 1, 1) := by decide +kernel
theorem dX2_stretch_39 : decode cX2_stretch 39 = .ok (.iadd, 1) := by decide +kernel
theorem dX2_stretch_40 : decode cX2_stretch 40 = .ok (.putfield 28, 3) := by decide +kernel
theorem dX2_stretch_43 : decode cX2_stretch 43 = .ok (.aload_n 0, 1) := by decide +kernel
theorem dX2_stretch_44 : decode cX2_stretch 44 = .ok (.getfield 28, 3) := by decide +kernel
theorem dX2_stretch_47 : decode cX2_stretch 47 = .ok (.aload_n 0, 1) := by decide +kernel
theorem dX2_stretch_48 : decode cX2_stretch 48 = .ok (.getfield 9, 3) := by decide +kernel
theorem dX2_stretch_51 : decode cX2_stretch 51 = .ok (.aload_n 0, 1) := by decide +kernel
theorem dX2_stretch_52 : decode cX2_stretch 52 = .ok (.getfield 22, 3) := by decide +kernel
theorem dX2_stretch_55 : decode cX2_stretch 55 = .ok (.aload_n 0, 1) := by decide +kernel
theorem dX2_stretch_56 : decode cX2_stretch 56 = .ok (.getfield 31, 3) := by decide +kernel
theorem dX2_stretch_59 : decode cX2_stretch 59 = .ok (.invokevirtual 56, 3) := by decide +kernel
theorem dX2_stretch_62 : decode cX2_stretch 62 = .ok (.if_icmp .le 19, 3) := by decide +kernel
theorem dX2_stretch_65 : decode cX2_stretch 65 = .ok (.aload_n 0, 1) := by decide +kernel
theorem dX2_stretch_66 : decode cX2_stretch 66 = .ok (.sipush 9999, 3) := by decide +kernel
theorem dX2_stretch_69 : decode cX2_stretch 69 = .ok (.aload_n 0, 1) := by decide +kernel
theorem dX2_stretch_70 : decode cX2_stretch 70 = .ok (.getfield 31, 3) := by decide +kernel
theorem dX2_stretch_73 : decode cX2_stretch 73 = .ok (.iconst 1, 1) := by decide +kernel
theorem dX2_stretch_74 : decode cX2_stretch 74 = .ok (.iadd, 1) := by decide +kernel
theorem dX2_stretch_75 : decode cX2_stretch 75 = .ok (.invokestatic 49, 3) := by decide +kernel
theorem dX2_stretch_78 : decode cX2_stretch 78 = .ok (.putfield 31, 3) := by decide +kernel
theorem dX2_stretch_81 : decode cX2_stretch 81 = .ok (.return_, 1) := by decide +kernel
theorem dX2_dryFor_0 : decode cX2_dryFor 0 = .ok (.iconst 0, 1) := by decide +kernel
theorem dX2_dryFor_1 : decode cX2_dryFor 1 = .ok (.istore_n 2, 1) := by decide +kernel
theorem dX2_dryFor_2 : decode cX2_dryFor 2 = .ok (.iload_n 2, 1) := by decide +kernel
theorem dX2_dryFor_3 : decode cX2_dryFor 3 = .ok (.iload_n 1, 1) := by decide +kernel
theorem dX2_dryFor_4 : decode cX2_dryFor 4 = .ok (.if_icmp .ge 13, 3) := by decide +kernel
theorem dX2_dryFor_7 : decode cX2_dryFor 7 = .ok (.aload_n 0, 1) := by decide +kernel
theorem dX2_dryFor_8 : decode cX2_dryFor 8 = .ok (.invokevirtual 59, 3) := by decide +kernel
theorem dX2_dryFor_11 : decode cX2_dryFor 11 = .ok (.iinc 2 1, 3) := by decide +kernel
theorem dX2_dryFor_14 : decode cX2_dryFor 14 = .ok (.goto (-12), 3) := by decide +kernel
theorem dX2_dryFor_17 : decode cX2_dryFor 17 = .ok (.return_, 1) := by decide +kernel
theorem dX2_dryOneDay_0 : decode cX2_dryOneDay 0 = .ok (.aload_n 0, 1) := by decide +kernel
theorem dX2_dryOneDay_1 : decode cX2_dryOneDay 1 = .ok (.getfield 25, 3) := by decide +kernel
theorem dX2_dryOneDay_4 : decode cX2_dryOneDay 4 = .ok (.ifCond .ne 4, 3) := by decide +kernel
theorem dX2_dryOneDay_7 : decode cX2_dryOneDay 7 = .ok (.return_, 1) := by decide +kernel
theorem dX2_dryOneDay_8 : decode cX2_dryOneDay 8 = .ok (.aload_n 0, 1) := by decide +kernel
theorem dX2_dryOneDay_9 : decode cX2_dryOneDay 9 = .ok (.dup, 1) := by decide +kernel
theorem dX2_dryOneDay_10 : decode cX2_dryOneDay 10 = .ok (.getfield 25, 3) := by decide +kernel
theorem dX2_dryOneDay_13 : decode cX2_dryOneDay 13 = .ok (.iconst 1, 1) := by decide +kernel
theorem dX2_dryOneDay_14 : decode cX2_dryOneDay 14 = .ok (.isub, 1) := by decide +kernel
theorem dX2_dryOneDay_15 : decode cX2_dryOneDay 15 = .ok (.putfield 25, 3) := by decide +kernel
theorem dX2_dryOneDay_18 : decode cX2_dryOneDay 18 = .ok (.aload_n 0, 1) := by decide +kernel
theorem dX2_dryOneDay_19 : decode cX2_dryOneDay 19 = .ok (.getfield 25, 3) := by decide +kernel
theorem dX2_dryOneDay_22 : decode cX2_dryOneDay 22 = .ok (.ifCond .ne 40, 3) := by decide +kernel
theorem dX2_dryOneDay_25 : decode cX2_dryOneDay 25 = .ok (.aload_n 0, 1) := by decide +kernel
theorem dX2_dryOneDay_26 : decode cX2_dryOneDay 26 = .ok (.bipush 10, 2) := by decide +kernel
theorem dX2_dryOneDay_28 : decode cX2_dryOneDay 28 = .ok (.aload_n 0, 1) := by decide +kernel
theorem dX2_dryOneDay_29 : decode cX2_dryOneDay 29 = .ok (.getfield 15, 3) := by decide +kernel
theorem dX2_dryOneDay_32 : decode cX2_dryOneDay 32 = .ok (.aload_n 0, 1) := by decide +kernel
theorem dX2_dryOneDay_33 : decode cX2_dryOneDay 33 = .ok (.getfield 28, 3) := by decide +kernel
theorem dX2_dryOneDay_36 : decode cX2_dryOneDay 36 = .ok (.bipush 100, 2) := by decide +kernel
theorem dX2_dryOneDay_38 : decode cX2_dryOneDay 38 = .ok (.aload_n 0, 1) := by decide +kernel
theorem dX2_dryOneDay_39 : decode cX2_dryOneDay 39 = .ok (.getfield 9, 3) := by decide +kernel
theorem dX2_dryOneDay_42 : decode cX2_dryOneDay 42 = .ok (.invokevirtual 62, 3) := by decide +kernel
theorem dX2_dryOneDay_45 : decode cX2_dryOneDay 45 = .ok (.isub, 1) := by decide +kernel
theorem dX2_dryOneDay_46 : decode cX2_dryOneDay 46 = .ok (.imul, 1) := by decide +kernel
theorem dX2_dryOneDay_47 : decode cX2_dryOneDay 47 = .ok (.bipush 100, 2) := by decide +kernel
theorem dX2_dryOneDay_49 : decode cX2_dryOneDay 49 = .ok (.idiv, 1) := by decide +kernel
theorem dX2_dryOneDay_50 : decode cX2_dryOneDay 50 = .ok (.isub, 1) := by decide +kernel
theorem dX2_dryOneDay_51 : decode cX2_dryOneDay 51 = .ok (.invokestatic 40, 3) := by decide +kernel
theorem dX2_dryOneDay_54 : decode cX2_dryOneDay 54 = .ok (.putfield 15, 3) := by decide +kernel
theorem dX2_dryOneDay_57 : decode cX2_dryOneDay 57 = .ok (.aload_n 0, 1) := by decide +kernel
theorem dX2_dryOneDay_58 : decode cX2_dryOneDay 58 = .ok (.iconst 0, 1) := by decide +kernel
theorem dX2_dryOneDay_59 : decode cX2_dryOneDay 59 = .ok (.putfield 28, 3) := by decide +kernel
theorem dX2_dryOneDay_62 : decode cX2_dryOneDay 62 = .ok (.return_, 1) := by decide +kernel
theorem dX2_suits_0 : decode cX2_suits 0 = .ok (.aload_n 0, 1) := by decide +kernel
theorem dX2_suits_1 : decode cX2_suits 1 = .ok (.getfield 25, 3) := by decide +kernel
theorem dX2_suits_4 : decode cX2_suits 4 = .ok (.ifCond .ne 56, 3) := by decide +kernel
theorem dX2_suits_7 : decode cX2_suits 7 = .ok (.aload_n 0, 1) := by decide +kernel
theorem dX2_suits_8 : decode cX2_suits 8 = .ok (.getfield 31, 3) := by decide +kernel
theorem dX2_suits_11 : decode cX2_suits 11 = .ok (.ifCond .ne 49, 3) := by decide +kernel
theorem dX2_suits_14 : decode cX2_suits 14 = .ok (.aload_n 0, 1) := by decide +kernel
theorem dX2_suits_15 : decode cX2_suits 15 = .ok (.getfield 15, 3) := by decide +kernel
theorem dX2_suits_18 : decode cX2_suits 18 = .ok (.aload_n 1, 1) := by decide +kernel
theorem dX2_suits_19 : decode cX2_suits 19 = .ok (.getfield 66, 3) := by decide +kernel
theorem dX2_suits_22 : decode cX2_suits 22 = .ok (.aload_n 1, 1) := by decide +kernel
theorem dX2_suits_23 : decode cX2_suits 23 = .ok (.getfield 66, 3) := by decide +kernel
theorem dX2_suits_26 : decode cX2_suits 26 = .ok (.bipush 10, 2) := by decide +kernel
theorem dX2_suits_28 : decode cX2_suits 28 = .ok (.iadd, 1) := by decide +kernel
theorem dX2_suits_29 : decode cX2_suits 29 = .ok (.invokestatic 69, 3) := by decide +kernel
theorem dX2_suits_32 : decode cX2_suits 32 = .ok (.ifCond .eq 28, 3) := by decide +kernel
theorem dX2_suits_35 : decode cX2_suits 35 = .ok (.aload_n 0, 1) := by decide +kernel
theorem dX2_suits_36 : decode cX2_suits 36 = .ok (.getfield 19, 3) := by decide +kernel
theorem dX2_suits_39 : decode cX2_suits 39 = .ok (.aload_n 1, 1) := by decide +kernel
theorem dX2_suits_40 : decode cX2_suits 40 = .ok (.getfield 73, 3) := by decide +kernel
theorem dX2_suits_43 : decode cX2_suits 43 = .ok (.aload_n 1, 1) := by decide +kernel
theorem dX2_suits_44 : decode cX2_suits 44 = .ok (.getfield 73, 3) := by decide +kernel
theorem dX2_suits_47 : decode cX2_suits 47 = .ok (.bipush 15, 2) := by decide +kernel
theorem dX2_suits_49 : decode cX2_suits 49 = .ok (.iadd, 1) := by decide +kernel
theorem dX2_suits_50 : decode cX2_suits 50 = .ok (.invokestatic 69, 3) := by decide +kernel
theorem dX2_suits_53 : decode cX2_suits 53 = .ok (.ifCond .eq 7, 3) := by decide +kernel
theorem dX2_suits_56 : decode cX2_suits 56 = .ok (.iconst 1, 1) := by decide +kernel
theorem dX2_suits_57 : decode cX2_suits 57 = .ok (.goto 4, 3) := by decide +kernel
theorem dX2_suits_60 : decode cX2_suits 60 = .ok (.iconst 0, 1) := by decide +kernel
theorem dX2_suits_61 : decode cX2_suits 61 = .ok (.ireturn, 1) := by decide +kernel
theorem dX3_init_0 : decode cX3_init 0 = .ok (.aload_n 0, 1) := by decide +kernel
theorem dX3_init_1 : decode cX3_init 1 = .ok (.iload_n 1, 1) := by decide +kernel
theorem dX3_init_2 : decode cX3_init 2 = .ok (.aload_n 2, 1) := by decide +kernel
theorem dX3_init_3 : decode cX3_init 3 = .ok (.invokespecial 1, 3) := by decide +kernel
theorem dX3_init_6 : decode cX3_init 6 = .ok (.return_, 1) := by decide +kernel
theorem dX3_shrinks_0 : decode cX3_shrinks 0 = .ok (.aload_n 0, 1) := by decide +kernel
theorem dX3_shrinks_1 : decode cX3_shrinks 1 = .ok (.iload_n 1, 1) := by decide +kernel
theorem dX3_shrinks_2 : decode cX3_shrinks 2 = .ok (.iload_n 2, 1) := by decide +kernel
theorem dX3_shrinks_3 : decode cX3_shrinks 3 = .ok (.invokespecial 7, 3) := by decide +kernel
theorem dX3_shrinks_6 : decode cX3_shrinks 6 = .ok (.istore_n 3, 1) := by decide +kernel
theorem dX3_shrinks_7 : decode cX3_shrinks 7 = .ok (.iload_n 2, 1) := by decide +kernel
theorem dX3_shrinks_8 : decode cX3_shrinks 8 = .ok (.iconst 1, 1) := by decide +kernel
theorem dX3_shrinks_9 : decode cX3_shrinks 9 = .ok (.if_icmp .ne 9, 3) := by decide +kernel
theorem dX3_shrinks_12 : decode cX3_shrinks 12 = .ok (.iload_n 3, 1) := by decide +kernel
theorem dX3_shrinks_13 : decode cX3_shrinks 13 = .ok (.iload_n 3, 1) := by decide +kernel
theorem dX3_shrinks_14 : decode cX3_shrinks 14 = .ok (.iadd, 1) := by decide +kernel
theorem dX3_shrinks_15 : decode cX3_shrinks 15 = .ok (.goto 4, 3) := by decide +kernel
theorem dX3_shrinks_18 : decode cX3_shrinks 18 = .ok (.iload_n 3, 1) := by decide +kernel
theorem dX3_shrinks_19 : decode cX3_shrinks 19 = .ok (.ireturn, 1) := by decide +kernel
theorem dX3_felts_0 : decode cX3_felts 0 = .ok (.aload_n 0, 1) := by decide +kernel
theorem dX3_felts_1 : decode cX3_felts 1 = .ok (.iload_n 1, 1) := by decide +kernel
theorem dX3_felts_2 : decode cX3_felts 2 = .ok (.invokespecial 11, 3) := by decide +kernel
theorem dX3_felts_5 : decode cX3_felts 5 = .ok (.iload_n 1, 1) := by decide +kernel
theorem dX3_felts_6 : decode cX3_felts 6 = .ok (.ifCond .le 7, 3) := by decide +kernel
theorem dX3_felts_9 : decode cX3_felts 9 = .ok (.iconst 1, 1) := by decide +kernel
theorem dX3_felts_10 : decode cX3_felts 10 = .ok (.goto 4, 3) := by decide +kernel
theorem dX3_felts_13 : decode cX3_felts 13 = .ok (.iconst 0, 1) := by decide +kernel
theorem dX3_felts_14 : decode cX3_felts 14 = .ok (.iadd, 1) := by decide +kernel
theorem dX3_felts_15 : decode cX3_felts 15 = .ok (.ireturn, 1) := by decide +kernel
theorem dX3_bears_0 : decode cX3_bears 0 = .ok (.iconst 2, 1) := by decide +kernel
theorem dX3_bears_1 : decode cX3_bears 1 = .ok (.aload_n 0, 1) := by decide +kernel
theorem dX3_bears_2 : decode cX3_bears 2 = .ok (.iload_n 1, 1) := by decide +kernel
theorem dX3_bears_3 : decode cX3_bears 3 = .ok (.iload_n 2, 1) := by decide +kernel
theorem dX3_bears_4 : decode cX3_bears 4 = .ok (.invokespecial 15, 3) := by decide +kernel
theorem dX3_bears_7 : decode cX3_bears 7 = .ok (.imul, 1) := by decide +kernel
theorem dX3_bears_8 : decode cX3_bears 8 = .ok (.ireturn, 1) := by decide +kernel
theorem dX3_keeps_0 : decode cX3_keeps 0 = .ok (.aload_n 0, 1) := by decide +kernel
theorem dX3_keeps_1 : decode cX3_keeps 1 = .ok (.invokespecial 18, 3) := by decide +kernel
theorem dX3_keeps_4 : decode cX3_keeps 4 = .ok (.bipush 10, 2) := by decide +kernel
theorem dX3_keeps_6 : decode cX3_keeps 6 = .ok (.isub, 1) := by decide +kernel
theorem dX3_keeps_7 : decode cX3_keeps 7 = .ok (.ireturn, 1) := by decide +kernel
theorem dX4_init_0 : decode cX4_init 0 = .ok (.aload_n 0, 1) := by decide +kernel
theorem dX4_init_1 : decode cX4_init 1 = .ok (.invokespecial 3, 3) := by decide +kernel
theorem dX4_init_4 : decode cX4_init 4 = .ok (.aload_n 0, 1) := by decide +kernel
theorem dX4_init_5 : decode cX4_init 5 = .ok (.iload_n 1, 1) := by decide +kernel
theorem dX4_init_6 : decode cX4_init 6 = .ok (.putfield 9, 3) := by decide +kernel
theorem dX4_init_9 : decode cX4_init 9 = .ok (.aload_n 0, 1) := by decide +kernel
theorem dX4_init_10 : decode cX4_init 10 = .ok (.aload_n 2, 1) := by decide +kernel
theorem dX4_init_11 : decode cX4_init 11 = .ok (.putfield 15, 3) := by decide +kernel
theorem dX4_init_14 : decode cX4_init 14 = .ok (.return_, 1) := by decide +kernel
theorem dX4_inOrder_0 : decode cX4_inOrder 0 = .ok (.new 10, 3) := by decide +kernel
theorem dX4_inOrder_3 : decode cX4_inOrder 3 = .ok (.dup, 1) := by decide +kernel
theorem dX4_inOrder_4 : decode cX4_inOrder 4 = .ok (.iconst 0, 1) := by decide +kernel
theorem dX4_inOrder_5 : decode cX4_inOrder 5 = .ok (.aconst_null, 1) := by decide +kernel
theorem dX4_inOrder_6 : decode cX4_inOrder 6 = .ok (.invokespecial 19, 3) := by decide +kernel
theorem dX4_inOrder_9 : decode cX4_inOrder 9 = .ok (.astore_n 0, 1) := by decide +kernel
theorem dX4_inOrder_10 : decode cX4_inOrder 10 = .ok (.new 22, 3) := by decide +kernel
theorem dX4_inOrder_13 : decode cX4_inOrder 13 = .ok (.dup, 1) := by decide +kernel
theorem dX4_inOrder_14 : decode cX4_inOrder 14 = .ok (.iconst 1, 1) := by decide +kernel
theorem dX4_inOrder_15 : decode cX4_inOrder 15 = .ok (.aload_n 0, 1) := by decide +kernel
theorem dX4_inOrder_16 : decode cX4_inOrder 16 = .ok (.invokespecial 24, 3) := by decide +kernel
theorem dX4_inOrder_19 : decode cX4_inOrder 19 = .ok (.astore_n 1, 1) := by decide +kernel
theorem dX4_inOrder_20 : decode cX4_inOrder 20 = .ok (.new 25, 3) := by decide +kernel
theorem dX4_inOrder_23 : decode cX4_inOrder 23 = .ok (.dup, 1) := by decide +kernel
theorem dX4_inOrder_24 : decode cX4_inOrder 24 = .ok (.iconst 2, 1) := by decide +kernel
theorem dX4_inOrder_25 : decode cX4_inOrder 25 = .ok (.aload_n 0, 1) := by decide +kernel
theorem dX4_inOrder_26 : decode cX4_inOrder 26 = .ok (.invokespecial 27, 3) := by decide +kernel
theorem dX4_inOrder_29 : decode cX4_inOrder 29 = .ok (.astore_n 2, 1) := by decide +kernel
theorem dX4_inOrder_30 : decode cX4_inOrder 30 = .ok (.new 28, 3) := by decide +kernel
theorem dX4_inOrder_33 : decode cX4_inOrder 33 = .ok (.dup, 1) := by decide +kernel
theorem dX4_inOrder_34 : decode cX4_inOrder 34 = .ok (.iconst 3, 1) := by decide +kernel
theorem dX4_inOrder_35 : decode cX4_inOrder 35 = .ok (.aload_n 0, 1) := by decide +kernel
theorem dX4_inOrder_36 : decode cX4_inOrder 36 = .ok (.invokespecial 30, 3) := by decide +kernel
theorem dX4_inOrder_39 : decode cX4_inOrder 39 = .ok (.astore_n 3, 1) := by decide +kernel
theorem dX4_inOrder_40 : decode cX4_inOrder 40 = .ok (.bipush 6, 2) := by decide +kernel
theorem dX4_inOrder_42 : decode cX4_inOrder 42 = .ok (.anewarray 10, 3) := by decide +kernel
theorem dX4_inOrder_45 : decode cX4_inOrder 45 = .ok (.astore 4, 2) := by decide +kernel
theorem dX4_inOrder_47 : decode cX4_inOrder 47 = .ok (.aload 4, 2) := by decide +kernel
theorem dX4_inOrder_49 : decode cX4_inOrder 49 = .ok (.iconst 0, 1) := by decide +kernel
theorem dX4_inOrder_50 : decode cX4_inOrder 50 = .ok (.aload_n 0, 1) := by decide +kernel
theorem dX4_inOrder_51 : decode cX4_inOrder 51 = .ok (.aastore, 1) := by decide +kernel
theorem dX4_inOrder_52 : decode cX4_inOrder 52 = .ok (.aload 4, 2) := by decide +kernel
theorem dX4_inOrder_54 : decode cX4_inOrder 54 = .ok (.iconst 1, 1) := by decide +kernel
theorem dX4_inOrder_55 : decode cX4_inOrder 55 = .ok (.aload_n 1, 1) := by decide +kernel
theorem dX4_inOrder_56 : decode cX4_inOrder 56 = .ok (.aastore, 1) := by decide +kernel
theorem dX4_inOrder_57 : decode cX4_inOrder 57 = .ok (.aload 4, 2) := by decide +kernel
theorem dX4_inOrder_59 : decode cX4_inOrder 59 = .ok (.iconst 2, 1) := by decide +kernel
theorem dX4_inOrder_60 : decode cX4_inOrder 60 = .ok (.aload_n 2, 1) := by decide +kernel
theorem dX4_inOrder_61 : decode cX4_inOrder 61 = .ok (.aastore, 1) := by decide +kernel
theorem dX4_inOrder_62 : decode cX4_inOrder 62 = .ok (.aload 4, 2) := by decide +kernel
theorem dX4_inOrder_64 : decode cX4_inOrder 64 = .ok (.iconst 3, 1) := by decide +kernel
theorem dX4_inOrder_65 : decode cX4_inOrder 65 = .ok (.aload_n 3, 1) := by decide +kernel
theorem dX4_inOrder_66 : decode cX4_inOrder 66 = .ok (.aastore, 1) := by decide +kernel
theorem dX4_inOrder_67 : decode cX4_inOrder 67 = .ok (.aload 4, 2) := by decide +kernel
theorem dX4_inOrder_69 : decode cX4_inOrder 69 = .ok (.iconst 4, 1) := by decide +kernel
theorem dX4_inOrder_70 : decode cX4_inOrder 70 = .ok (.new 31, 3) := by decide +kernel
theorem dX4_inOrder_73 : decode cX4_inOrder 73 = .ok (.dup, 1) := by decide +kernel
theorem dX4_inOrder_74 : decode cX4_inOrder 74 = .ok (.iconst 4, 1) := by decide +kernel
theorem dX4_inOrder_75 : decode cX4_inOrder 75 = .ok (.aload_n 1, 1) := by decide +kernel
theorem dX4_inOrder_76 : decode cX4_inOrder 76 = .ok (.invokespecial 33, 3) := by decide +kernel
theorem dX4_inOrder_79 : decode cX4_inOrder 79 = .ok (.aastore, 1) := by decide +kernel
theorem dX4_inOrder_80 : decode cX4_inOrder 80 = .ok (.aload 4, 2) := by decide +kernel
theorem dX4_inOrder_82 : decode cX4_inOrder 82 = .ok (.iconst 5, 1) := by decide +kernel
theorem dX4_inOrder_83 : decode cX4_inOrder 83 = .ok (.new 34, 3) := by decide +kernel
theorem dX4_inOrder_86 : decode cX4_inOrder 86 = .ok (.dup, 1) := by decide +kernel
theorem dX4_inOrder_87 : decode cX4_inOrder 87 = .ok (.iconst 5, 1) := by decide +kernel
theorem dX4_inOrder_88 : decode cX4_inOrder 88 = .ok (.aload_n 2, 1) := by decide +kernel
theorem dX4_inOrder_89 : decode cX4_inOrder 89 = .ok (.invokespecial 36, 3) := by decide +kernel
theorem dX4_inOrder_92 : decode cX4_inOrder 92 = .ok (.aastore, 1) := by decide +kernel
theorem dX4_inOrder_93 : decode cX4_inOrder 93 = .ok (.aload 4, 2) := by decide +kernel
theorem dX4_inOrder_95 : decode cX4_inOrder 95 = .ok (.areturn, 1) := by decide +kernel
theorem dX4_isOrIsUnder_0 : decode cX4_isOrIsUnder 0 = .ok (.aload_n 0, 1) := by decide +kernel
theorem dX4_isOrIsUnder_1 : decode cX4_isOrIsUnder 1 = .ok (.astore_n 2, 1) := by decide +kernel
theorem dX4_isOrIsUnder_2 : decode cX4_isOrIsUnder 2 = .ok (.aload_n 2, 1) := by decide +kernel
theorem dX4_isOrIsUnder_3 : decode cX4_isOrIsUnder 3 = .ok (.ifnull 21, 3) := by decide +kernel
theorem dX4_isOrIsUnder_6 : decode cX4_isOrIsUnder 6 = .ok (.aload_n 2, 1) := by decide +kernel
theorem dX4_isOrIsUnder_7 : decode cX4_isOrIsUnder 7 = .ok (.getfield 9, 3) := by decide +kernel
theorem dX4_isOrIsUnder_10 : decode cX4_isOrIsUnder 10 = .ok (.iload_n 1, 1) := by decide +kernel
theorem dX4_isOrIsUnder_11 : decode cX4_isOrIsUnder 11 = .ok (.if_icmp .ne 5, 3) := by decide +kernel
theorem dX4_isOrIsUnder_14 : decode cX4_isOrIsUnder 14 = .ok (.iconst 1, 1) := by decide +kernel
theorem dX4_isOrIsUnder_15 : decode cX4_isOrIsUnder 15 = .ok (.ireturn, 1) := by decide +kernel
theorem dX4_isOrIsUnder_16 : decode cX4_isOrIsUnder 16 = .ok (.aload_n 2, 1) := by decide +kernel
theorem dX4_isOrIsUnder_17 : decode cX4_isOrIsUnder 17 = .ok (.getfield 15, 3) := by decide +kernel
theorem dX4_isOrIsUnder_20 : decode cX4_isOrIsUnder 20 = .ok (.astore_n 2, 1) := by decide +kernel
theorem dX4_isOrIsUnder_21 : decode cX4_isOrIsUnder 21 = .ok (.goto (-19), 3) := by decide +kernel
theorem dX4_isOrIsUnder_24 : decode cX4_isOrIsUnder 24 = .ok (.iconst 0, 1) := by decide +kernel
theorem dX4_isOrIsUnder_25 : decode cX4_isOrIsUnder 25 = .ok (.ireturn, 1) := by decide +kernel
theorem dX4_shrinks_0 : decode cX4_shrinks 0 = .ok (.iconst 0, 1) := by decide +kernel
theorem dX4_shrinks_1 : decode cX4_shrinks 1 = .ok (.ireturn, 1) := by decide +kernel
theorem dX4_felts_0 : decode cX4_felts 0 = .ok (.iconst 0, 1) := by decide +kernel
theorem dX4_felts_1 : decode cX4_felts 1 = .ok (.ireturn, 1) := by decide +kernel
theorem dX4_bears_0 : decode cX4_bears 0 = .ok (.bipush 10, 2) := by decide +kernel
theorem dX4_bears_2 : decode cX4_bears 2 = .ok (.ireturn, 1) := by decide +kernel
theorem dX4_keeps_0 : decode cX4_keeps 0 = .ok (.bipush 50, 2) := by decide +kernel
theorem dX4_keeps_2 : decode cX4_keeps 2 = .ok (.ireturn, 1) := by decide +kernel
theorem dX5_init_0 : decode cX5_init 0 = .ok (.aload_n 0, 1) := by decide +kernel
theorem dX5_init_1 : decode cX5_init 1 = .ok (.invokespecial 1, 3) := by decide +kernel
theorem dX5_init_4 : decode cX5_init 4 = .ok (.return_, 1) := by decide +kernel
theorem dX6_init_0 : decode cX6_init 0 = .ok (.aload_n 0, 1) := by decide +kernel
theorem dX6_init_1 : decode cX6_init 1 = .ok (.invokespecial 3, 3) := by decide +kernel
theorem dX6_init_4 : decode cX6_init 4 = .ok (.aload_n 0, 1) := by decide +kernel
theorem dX6_init_5 : decode cX6_init 5 = .ok (.bipush 40, 2) := by decide +kernel
theorem dX6_init_7 : decode cX6_init 7 = .ok (.newarray .long, 2) := by decide +kernel
theorem dX6_init_9 : decode cX6_init 9 = .ok (.putfield 9, 3) := by decide +kernel
theorem dX6_init_12 : decode cX6_init 12 = .ok (.return_, 1) := by decide +kernel
theorem dX6_beginAnew_0 : decode cX6_beginAnew 0 = .ok (.aload_n 0, 1) := by decide +kernel
theorem dX6_beginAnew_1 : decode cX6_beginAnew 1 = .ok (.iload_n 1, 1) := by decide +kernel
theorem dX6_beginAnew_2 : decode cX6_beginAnew 2 = .ok (.putfield 15, 3) := by decide +kernel
theorem dX6_beginAnew_5 : decode cX6_beginAnew 5 = .ok (.aload_n 0, 1) := by decide +kernel
theorem dX6_beginAnew_6 : decode cX6_beginAnew 6 = .ok (.iload_n 1, 1) := by decide +kernel
theorem dX6_beginAnew_7 : decode cX6_beginAnew 7 = .ok (.ifCond .ne 7, 3) := by decide +kernel
theorem dX6_beginAnew_10 : decode cX6_beginAnew 10 = .ok (.iconst 0, 1) := by decide +kernel
theorem dX6_beginAnew_11 : decode cX6_beginAnew 11 = .ok (.goto 4, 3) := by decide +kernel
theorem dX6_beginAnew_14 : decode cX6_beginAnew 14 = .ok (.iload_n 2, 1) := by decide +kernel
theorem dX6_beginAnew_15 : decode cX6_beginAnew 15 = .ok (.putfield 19, 3) := by decide +kernel
theorem dX6_beginAnew_18 : decode cX6_beginAnew 18 = .ok (.iconst 0, 1) := by decide +kernel
theorem dX6_beginAnew_19 : decode cX6_beginAnew 19 = .ok (.istore_n 3, 1) := by decide +kernel
theorem dX6_beginAnew_20 : decode cX6_beginAnew 20 = .ok (.iload_n 3, 1) := by decide +kernel
theorem dX6_beginAnew_21 : decode cX6_beginAnew 21 = .ok (.bipush 40, 2) := by decide +kernel
theorem dX6_beginAnew_23 : decode cX6_beginAnew 23 = .ok (.if_icmp .ge 16, 3) := by decide +kernel
theorem dX6_beginAnew_26 : decode cX6_beginAnew 26 = .ok (.aload_n 0, 1) := by decide +kernel
theorem dX6_beginAnew_27 : decode cX6_beginAnew 27 = .ok (.getfield 9, 3) := by decide +kernel
theorem dX6_beginAnew_30 : decode cX6_beginAnew 30 = .ok (.iload_n 3, 1) := by decide +kernel
theorem dX6_beginAnew_31 : decode cX6_beginAnew 31 = .ok (.lconst 0, 1) := by decide +kernel
theorem dX6_beginAnew_32 : decode cX6_beginAnew 32 = .ok (.lastore, 1) := by decide +kernel
theorem dX6_beginAnew_33 : decode cX6_beginAnew 33 = .ok (.iinc 3 1, 3) := by decide +kernel
theorem dX6_beginAnew_36 : decode cX6_beginAnew 36 = .ok (.goto (-16), 3) := by decide +kernel
theorem dX6_beginAnew_39 : decode cX6_beginAnew 39 = .ok (.return_, 1) := by decide +kernel
theorem dX6_isMissing_0 : decode cX6_isMissing 0 = .ok (.aload_n 0, 1) := by decide +kernel
theorem dX6_isMissing_1 : decode cX6_isMissing 1 = .ok (.getfield 15, 3) := by decide +kernel
theorem dX6_isMissing_4 : decode cX6_isMissing 4 = .ok (.ifCond .ne 7, 3) := by decide +kernel
theorem dX6_isMissing_7 : decode cX6_isMissing 7 = .ok (.iconst 1, 1) := by decide +kernel
theorem dX6_isMissing_8 : decode cX6_isMissing 8 = .ok (.goto 4, 3) := by decide +kernel
theorem dX6_isMissing_11 : decode cX6_isMissing 11 = .ok (.iconst 0, 1) := by decide +kernel
theorem dX6_isMissing_12 : decode cX6_isMissing 12 = .ok (.ireturn, 1) := by decide +kernel
theorem dX6_hasRun_0 : decode cX6_hasRun 0 = .ok (.iload_n 1, 1) := by decide +kernel
theorem dX6_hasRun_1 : decode cX6_hasRun 1 = .ok (.ifCond .lt 21, 3) := by decide +kernel
theorem dX6_hasRun_4 : decode cX6_hasRun 4 = .ok (.iload_n 2, 1) := by decide +kernel
theorem dX6_hasRun_5 : decode cX6_hasRun 5 = .ok (.ifCond .lt 17, 3) := by decide +kernel
theorem dX6_hasRun_8 : decode cX6_hasRun 8 = .ok (.iload_n 2, 1) := by decide +kernel
theorem dX6_hasRun_9 : decode cX6_hasRun 9 = .ok (.aload_n 0, 1) := by decide +kernel
theorem dX6_hasRun_10 : decode cX6_hasRun 10 = .ok (.getfield 19, 3) := by decide +kernel
theorem dX6_hasRun_13 : decode cX6_hasRun 13 = .ok (.iload_n 1, 1) := by decide +kernel
theorem dX6_hasRun_14 : decode cX6_hasRun 14 = .ok (.isub, 1) := by decide +kernel
theorem dX6_hasRun_15 : decode cX6_hasRun 15 = .ok (.if_icmp .gt 7, 3) := by decide +kernel
theorem dX6_hasRun_18 : decode cX6_hasRun 18 = .ok (.iconst 1, 1) := by decide +kernel
theorem dX6_hasRun_19 : decode cX6_hasRun 19 = .ok (.goto 4, 3) := by decide +kernel
theorem dX6_hasRun_22 : decode cX6_hasRun 22 = .ok (.iconst 0, 1) := by decide +kernel
theorem dX6_hasRun_23 : decode cX6_hasRun 23 = .ok (.ireturn, 1) := by decide +kernel
theorem dX6_put_0 : decode cX6_put 0 = .ok (.iload_n 1, 1) := by decide +kernel
theorem dX6_put_1 : decode cX6_put 1 = .ok (.ifCond .lt 22, 3) := by decide +kernel
theorem dX6_put_4 : decode cX6_put 4 = .ok (.iload_n 1, 1) := by decide +kernel
theorem dX6_put_5 : decode cX6_put 5 = .ok (.aload_n 0, 1) := by decide +kernel
theorem dX6_put_6 : decode cX6_put 6 = .ok (.getfield 19, 3) := by decide +kernel
theorem dX6_put_9 : decode cX6_put 9 = .ok (.if_icmp .ge 14, 3) := by decide +kernel
theorem dX6_put_12 : decode cX6_put 12 = .ok (.aload_n 0, 1) := by decide +kernel
theorem dX6_put_13 : decode cX6_put 13 = .ok (.getfield 9, 3) := by decide +kernel
theorem dX6_put_16 : decode cX6_put 16 = .ok (.iload_n 1, 1) := by decide +kernel
theorem dX6_put_17 : decode cX6_put 17 = .ok (.aload_n 0, 1) := by decide +kernel
theorem dX6_put_18 : decode cX6_put 18 = .ok (.lload_n 2, 1) := by decide +kernel
theorem dX6_put_19 : decode cX6_put 19 = .ok (.invokevirtual 22, 3) := by decide +kernel
theorem dX6_put_22 : decode cX6_put 22 = .ok (.lastore, 1) := by decide +kernel
theorem dX6_put_23 : decode cX6_put 23 = .ok (.return_, 1) := by decide +kernel
theorem dX6_lowestBits_0 : decode cX6_lowestBits 0 = .ok (.aload_n 0, 1) := by decide +kernel
theorem dX6_lowestBits_1 : decode cX6_lowestBits 1 = .ok (.getfield 15, 3) := by decide +kernel
theorem dX6_lowestBits_4 : decode cX6_lowestBits 4 = .ok (.lookupswitch 38 #[(8, 28), (16, 33)], 28) := by decide +kernel
theorem dX6_lowestBits_32 : decode cX6_lowestBits 32 = .ok (.lload_n 1, 1) := by decide +kernel
theorem dX6_lowestBits_33 : decode cX6_lowestBits 33 = .ok (.l2i, 1) := by decide +kernel
theorem dX6_lowestBits_34 : decode cX6_lowestBits 34 = .ok (.i2b, 1) := by decide +kernel
theorem dX6_lowestBits_35 : decode cX6_lowestBits 35 = .ok (.i2l, 1) := by decide +kernel
theorem dX6_lowestBits_36 : decode cX6_lowestBits 36 = .ok (.lreturn, 1) := by decide +kernel
theorem dX6_lowestBits_37 : decode cX6_lowestBits 37 = .ok (.lload_n 1, 1) := by decide +kernel
theorem dX6_lowestBits_38 : decode cX6_lowestBits 38 = .ok (.l2i, 1) := by decide +kernel
theorem dX6_lowestBits_39 : decode cX6_lowestBits 39 = .ok (.i2s, 1) := by decide +kernel
theorem dX6_lowestBits_40 : decode cX6_lowestBits 40 = .ok (.i2l, 1) := by decide +kernel
theorem dX6_lowestBits_41 : decode cX6_lowestBits 41 = .ok (.lreturn, 1) := by decide +kernel
theorem dX6_lowestBits_42 : decode cX6_lowestBits 42 = .ok (.lload_n 1, 1) := by decide +kernel
theorem dX6_lowestBits_43 : decode cX6_lowestBits 43 = .ok (.lreturn, 1) := by decide +kernel
theorem dX7_init_0 : decode cX7_init 0 = .ok (.aload_n 0, 1) := by decide +kernel
theorem dX7_init_1 : decode cX7_init 1 = .ok (.iload_n 1, 1) := by decide +kernel
theorem dX7_init_2 : decode cX7_init 2 = .ok (.aload_n 2, 1) := by decide +kernel
theorem dX7_init_3 : decode cX7_init 3 = .ok (.invokespecial 1, 3) := by decide +kernel
theorem dX7_init_6 : decode cX7_init 6 = .ok (.return_, 1) := by decide +kernel
theorem dX7_shrinks_0 : decode cX7_shrinks 0 = .ok (.iload_n 1, 1) := by decide +kernel
theorem dX7_shrinks_1 : decode cX7_shrinks 1 = .ok (.bipush 60, 2) := by decide +kernel
theorem dX7_shrinks_3 : decode cX7_shrinks 3 = .ok (.if_icmp .le 8, 3) := by decide +kernel
theorem dX7_shrinks_6 : decode cX7_shrinks 6 = .ok (.bipush 50, 2) := by decide +kernel
theorem dX7_shrinks_8 : decode cX7_shrinks 8 = .ok (.goto 4, 3) := by decide +kernel
theorem dX7_shrinks_11 : decode cX7_shrinks 11 = .ok (.iconst 0, 1) := by decide +kernel
theorem dX7_shrinks_12 : decode cX7_shrinks 12 = .ok (.ireturn, 1) := by decide +kernel
theorem dX7_bears_0 : decode cX7_bears 0 = .ok (.aload_n 0, 1) := by decide +kernel
theorem dX7_bears_1 : decode cX7_bears 1 = .ok (.iload_n 1, 1) := by decide +kernel
theorem dX7_bears_2 : decode cX7_bears 2 = .ok (.iload_n 2, 1) := by decide +kernel
theorem dX7_bears_3 : decode cX7_bears 3 = .ok (.invokespecial 7, 3) := by decide +kernel
theorem dX7_bears_6 : decode cX7_bears 6 = .ok (.bipush 7, 2) := by decide +kernel
theorem dX7_bears_8 : decode cX7_bears 8 = .ok (.isub, 1) := by decide +kernel
theorem dX7_bears_9 : decode cX7_bears 9 = .ok (.ireturn, 1) := by decide +kernel
theorem dX7_keeps_0 : decode cX7_keeps 0 = .ok (.aload_n 0, 1) := by decide +kernel
theorem dX7_keeps_1 : decode cX7_keeps 1 = .ok (.invokespecial 11, 3) := by decide +kernel
theorem dX7_keeps_4 : decode cX7_keeps 4 = .ok (.bipush 50, 2) := by decide +kernel
theorem dX7_keeps_6 : decode cX7_keeps 6 = .ok (.iadd, 1) := by decide +kernel
theorem dX7_keeps_7 : decode cX7_keeps 7 = .ok (.ireturn, 1) := by decide +kernel
theorem dX8_init_0 : decode cX8_init 0 = .ok (.aload_n 0, 1) := by decide +kernel
theorem dX8_init_1 : decode cX8_init 1 = .ok (.iload_n 1, 1) := by decide +kernel
theorem dX8_init_2 : decode cX8_init 2 = .ok (.aload_n 2, 1) := by decide +kernel
theorem dX8_init_3 : decode cX8_init 3 = .ok (.invokespecial 1, 3) := by decide +kernel
theorem dX8_init_6 : decode cX8_init 6 = .ok (.return_, 1) := by decide +kernel
theorem dX8_shrinks_0 : decode cX8_shrinks 0 = .ok (.aload_n 0, 1) := by decide +kernel
theorem dX8_shrinks_1 : decode cX8_shrinks 1 = .ok (.iload_n 1, 1) := by decide +kernel
theorem dX8_shrinks_2 : decode cX8_shrinks 2 = .ok (.iload_n 2, 1) := by decide +kernel
theorem dX8_shrinks_3 : decode cX8_shrinks 3 = .ok (.invokespecial 7, 3) := by decide +kernel
theorem dX8_shrinks_6 : decode cX8_shrinks 6 = .ok (.iload_n 1, 1) := by decide +kernel
theorem dX8_shrinks_7 : decode cX8_shrinks 7 = .ok (.bipush 60, 2) := by decide +kernel
theorem dX8_shrinks_9 : decode cX8_shrinks 9 = .ok (.if_icmp .lt 7, 3) := by decide +kernel
theorem dX8_shrinks_12 : decode cX8_shrinks 12 = .ok (.iconst 1, 1) := by decide +kernel
theorem dX8_shrinks_13 : decode cX8_shrinks 13 = .ok (.goto 4, 3) := by decide +kernel
theorem dX8_shrinks_16 : decode cX8_shrinks 16 = .ok (.iconst 0, 1) := by decide +kernel
theorem dX8_shrinks_17 : decode cX8_shrinks 17 = .ok (.iadd, 1) := by decide +kernel
theorem dX8_shrinks_18 : decode cX8_shrinks 18 = .ok (.ireturn, 1) := by decide +kernel
theorem dX8_felts_0 : decode cX8_felts 0 = .ok (.aload_n 0, 1) := by decide +kernel
theorem dX8_felts_1 : decode cX8_felts 1 = .ok (.iload_n 1, 1) := by decide +kernel
theorem dX8_felts_2 : decode cX8_felts 2 = .ok (.invokespecial 11, 3) := by decide +kernel
theorem dX8_felts_5 : decode cX8_felts 5 = .ok (.iconst 2, 1) := by decide +kernel
theorem dX8_felts_6 : decode cX8_felts 6 = .ok (.iadd, 1) := by decide +kernel
theorem dX8_felts_7 : decode cX8_felts 7 = .ok (.ireturn, 1) := by decide +kernel
theorem dX8_bears_0 : decode cX8_bears 0 = .ok (.aload_n 0, 1) := by decide +kernel
theorem dX8_bears_1 : decode cX8_bears 1 = .ok (.iload_n 1, 1) := by decide +kernel
theorem dX8_bears_2 : decode cX8_bears 2 = .ok (.iload_n 2, 1) := by decide +kernel
theorem dX8_bears_3 : decode cX8_bears 3 = .ok (.invokespecial 15, 3) := by decide +kernel
theorem dX8_bears_6 : decode cX8_bears 6 = .ok (.iload_n 2, 1) := by decide +kernel
theorem dX8_bears_7 : decode cX8_bears 7 = .ok (.iadd, 1) := by decide +kernel
theorem dX8_bears_8 : decode cX8_bears 8 = .ok (.ireturn, 1) := by decide +kernel
theorem dX9_init_0 : decode cX9_init 0 = .ok (.aload_n 0, 1) := by decide +kernel
theorem dX9_init_1 : decode cX9_init 1 = .ok (.invokespecial 3, 3) := by decide +kernel
theorem dX9_init_4 : decode cX9_init 4 = .ok (.aload_n 0, 1) := by decide +kernel
theorem dX9_init_5 : decode cX9_init 5 = .ok (.bipush 120, 2) := by decide +kernel
theorem dX9_init_7 : decode cX9_init 7 = .ok (.newarray .byte, 2) := by decide +kernel
theorem dX9_init_9 : decode cX9_init 9 = .ok (.putfield 9, 3) := by decide +kernel
theorem dX9_init_12 : decode cX9_init 12 = .ok (.return_, 1) := by decide +kernel
theorem dX9_append_0 : decode cX9_append 0 = .ok (.aload_n 0, 1) := by decide +kernel
theorem dX9_append_1 : decode cX9_append 1 = .ok (.getfield 15, 3) := by decide +kernel
theorem dX9_append_4 : decode cX9_append 4 = .ok (.bipush 120, 2) := by decide +kernel
theorem dX9_append_6 : decode cX9_append 6 = .ok (.if_icmp .ge 23, 3) := by decide +kernel
theorem dX9_append_9 : decode cX9_append 9 = .ok (.aload_n 0, 1) := by decide +kernel
theorem dX9_append_10 : decode cX9_append 10 = .ok (.getfield 9, 3) := by decide +kernel
theorem dX9_append_13 : decode cX9_append 13 = .ok (.aload_n 0, 1) := by decide +kernel
theorem dX9_append_14 : decode cX9_append 14 = .ok (.getfield 15, 3) := by decide +kernel
theorem dX9_append_17 : decode cX9_append 17 = .ok (.iload_n 1, 1) := by decide +kernel
theorem dX9_append_18 : decode cX9_append 18 = .ok (.bastore, 1) := by decide +kernel
theorem dX9_append_19 : decode cX9_append 19 = .ok (.aload_n 0, 1) := by decide +kernel
theorem dX9_append_20 : decode cX9_append 20 = .ok (.dup, 1) := by decide +kernel
theorem dX9_append_21 : decode cX9_append 21 = .ok (.getfield 15, 3) := by decide +kernel
theorem dX9_append_24 : decode cX9_append 24 = .ok (.iconst 1, 1) := by decide +kernel
theorem dX9_append_25 : decode cX9_append 25 = .ok (.iadd, 1) := by decide +kernel
theorem dX9_append_26 : decode cX9_append 26 = .ok (.putfield 15, 3) := by decide +kernel
theorem dX9_append_29 : decode cX9_append 29 = .ok (.return_, 1) := by decide +kernel
theorem dX9_clear_0 : decode cX9_clear 0 = .ok (.aload_n 0, 1) := by decide +kernel
theorem dX9_clear_1 : decode cX9_clear 1 = .ok (.getfield 15, 3) := by decide +kernel
theorem dX9_clear_4 : decode cX9_clear 4 = .ok (.istore_n 1, 1) := by decide +kernel
theorem dX9_clear_5 : decode cX9_clear 5 = .ok (.aload_n 0, 1) := by decide +kernel
theorem dX9_clear_6 : decode cX9_clear 6 = .ok (.iconst 0, 1) := by decide +kernel
theorem dX9_clear_7 : decode cX9_clear 7 = .ok (.putfield 15, 3) := by decide +kernel
theorem dX9_clear_10 : decode cX9_clear 10 = .ok (.iload_n 1, 1) := by decide +kernel
theorem dX9_clear_11 : decode cX9_clear 11 = .ok (.ireturn, 1) := by decide +kernel
theorem dX9_tellInto_0 : decode cX9_tellInto 0 = .ok (.aload_n 0, 1) := by decide +kernel
theorem dX9_tellInto_1 : decode cX9_tellInto 1 = .ok (.iconst 0, 1) := by decide +kernel
theorem dX9_tellInto_2 : decode cX9_tellInto 2 = .ok (.putfield 19, 3) := by decide +kernel
theorem dX9_tellInto_5 : decode cX9_tellInto 5 = .ok (.aload_n 0, 1) := by decide +kernel
theorem dX9_tellInto_6 : decode cX9_tellInto 6 = .ok (.invokevirtual 22, 3) := by decide +kernel
theorem dX9_tellInto_9 : decode cX9_tellInto 9 = .ok (.iconst 1, 1) := by decide +kernel
theorem dX9_tellInto_10 : decode cX9_tellInto 10 = .ok (.istore_n 2, 1) := by decide +kernel
theorem dX9_tellInto_11 : decode cX9_tellInto 11 = .ok (.iload_n 2, 1) := by decide +kernel
theorem dX9_tellInto_12 : decode cX9_tellInto 12 = .ok (.bipush 120, 2) := by decide +kernel
theorem dX9_tellInto_14 : decode cX9_tellInto 14 = .ok (.if_icmp .gt 44, 3) := by decide +kernel
theorem dX9_tellInto_17 : decode cX9_tellInto 17 = .ok (.aload_n 0, 1) := by decide +kernel
theorem dX9_tellInto_18 : decode cX9_tellInto 18 = .ok (.aload_n 1, 1) := by decide +kernel
theorem dX9_tellInto_19 : decode cX9_tellInto 19 = .ok (.invokevirtual 25, 3) := by decide +kernel
theorem dX9_tellInto_22 : decode cX9_tellInto 22 = .ok (.ifCond .ne 6, 3) := by decide +kernel
theorem dX9_tellInto_25 : decode cX9_tellInto 25 = .ok (.goto 33, 3) := by decide +kernel
theorem dX9_tellInto_28 : decode cX9_tellInto 28 = .ok (.aload_n 0, 1) := by decide +kernel
theorem dX9_tellInto_29 : decode cX9_tellInto 29 = .ok (.getfield 29, 3) := by decide +kernel
theorem dX9_tellInto_32 : decode cX9_tellInto 32 = .ok (.ifCond .ne 5, 3) := by decide +kernel
theorem dX9_tellInto_35 : decode cX9_tellInto 35 = .ok (.iload_n 2, 1) := by decide +kernel
theorem dX9_tellInto_36 : decode cX9_tellInto 36 = .ok (.ireturn, 1) := by decide +kernel
theorem dX9_tellInto_37 : decode cX9_tellInto 37 = .ok (.aload_n 0, 1) := by decide +kernel
theorem dX9_tellInto_38 : decode cX9_tellInto 38 = .ok (.getfield 29, 3) := by decide +kernel
theorem dX9_tellInto_41 : decode cX9_tellInto 41 = .ok (.iconst 3, 1) := by decide +kernel
theorem dX9_tellInto_42 : decode cX9_tellInto 42 = .ok (.if_icmp .eq 6, 3) := by decide +kernel
theorem dX9_tellInto_45 : decode cX9_tellInto 45 = .ok (.goto 13, 3) := by decide +kernel
theorem dX9_tellInto_48 : decode cX9_tellInto 48 = .ok (.aload_n 0, 1) := by decide +kernel
theorem dX9_tellInto_49 : decode cX9_tellInto 49 = .ok (.invokevirtual 22, 3) := by decide +kernel
theorem dX9_tellInto_52 : decode cX9_tellInto 52 = .ok (.iinc 2 1, 3) := by decide +kernel
theorem dX9_tellInto_55 : decode cX9_tellInto 55 = .ok (.goto (-44), 3) := by decide +kernel
theorem dX9_tellInto_58 : decode cX9_tellInto 58 = .ok (.iconst (-1), 1) := by decide +kernel
theorem dX9_tellInto_59 : decode cX9_tellInto 59 = .ok (.aload_n 0, 1) := by decide +kernel
theorem dX9_tellInto_60 : decode cX9_tellInto 60 = .ok (.getfield 32, 3) := by decide +kernel
theorem dX9_tellInto_63 : decode cX9_tellInto 63 = .ok (.isub, 1) := by decide +kernel
theorem dX9_tellInto_64 : decode cX9_tellInto 64 = .ok (.ireturn, 1) := by decide +kernel
theorem dX9_takeItem_0 : decode cX9_takeItem 0 = .ok (.aload_n 0, 1) := by decide +kernel
theorem dX9_takeItem_1 : decode cX9_takeItem 1 = .ok (.invokevirtual 35, 3) := by decide +kernel
theorem dX9_takeItem_4 : decode cX9_takeItem 4 = .ok (.istore_n 2, 1) := by decide +kernel
theorem dX9_takeItem_5 : decode cX9_takeItem 5 = .ok (.iload_n 2, 1) := by decide +kernel
theorem dX9_takeItem_6 : decode cX9_takeItem 6 = .ok (.ifCond .lt 41, 3) := by decide +kernel
theorem dX9_takeItem_9 : decode cX9_takeItem 9 = .ok (.aload_n 1, 1) := by decide +kernel
theorem dX9_takeItem_10 : decode cX9_takeItem 10 = .ok (.iload_n 2, 1) := by decide +kernel
theorem dX9_takeItem_11 : decode cX9_takeItem 11 = .ok (.invokevirtual 39, 3) := by decide +kernel
theorem dX9_takeItem_14 : decode cX9_takeItem 14 = .ok (.astore_n 3, 1) := by decide +kernel
theorem dX9_takeItem_15 : decode cX9_takeItem 15 = .ok (.aload_n 3, 1) := by decide +kernel
theorem dX9_takeItem_16 : decode cX9_takeItem 16 = .ok (.ifnonnull 5, 3) := by decide +kernel
theorem dX9_takeItem_19 : decode cX9_takeItem 19 = .ok (.iconst 0, 1) := by decide +kernel
theorem dX9_takeItem_20 : decode cX9_takeItem 20 = .ok (.ireturn, 1) := by decide +kernel
theorem dX9_takeItem_21 : decode cX9_takeItem 21 = .ok (.aload_n 0, 1) := by decide +kernel
theorem dX9_takeItem_22 : decode cX9_takeItem 22 = .ok (.invokevirtual 22, 3) := by decide +kernel
theorem dX9_takeItem_25 : decode cX9_takeItem 25 = .ok (.aload_n 0, 1) := by decide +kernel
theorem dX9_takeItem_26 : decode cX9_takeItem 26 = .ok (.aload_n 3, 1) := by decide +kernel
theorem dX9_takeItem_27 : decode cX9_takeItem 27 = .ok (.invokevirtual 45, 3) := by decide +kernel
theorem dX9_takeItem_30 : decode cX9_takeItem 30 = .ok (.ifCond .eq 15, 3) := by decide +kernel
theorem dX9_takeItem_33 : decode cX9_takeItem 33 = .ok (.aload_n 0, 1) := by decide +kernel
theorem dX9_takeItem_34 : decode cX9_takeItem 34 = .ok (.aload_n 3, 1) := by decide +kernel
theorem dX9_takeItem_35 : decode cX9_takeItem 35 = .ok (.invokevirtual 49, 3) := by decide +kernel
theorem dX9_takeItem_38 : decode cX9_takeItem 38 = .ok (.ifCond .eq 7, 3) := by decide +kernel
theorem dX9_takeItem_41 : decode cX9_takeItem 41 = .ok (.iconst 1, 1) := by decide +kernel
theorem dX9_takeItem_42 : decode cX9_takeItem 42 = .ok (.goto 4, 3) := by decide +kernel
theorem dX9_takeItem_45 : decode cX9_takeItem 45 = .ok (.iconst 0, 1) := by decide +kernel
theorem dX9_takeItem_46 : decode cX9_takeItem 46 = .ok (.ireturn, 1) := by decide +kernel
theorem dX9_takeItem_47 : decode cX9_takeItem 47 = .ok (.aload_n 0, 1) := by decide +kernel
theorem dX9_takeItem_48 : decode cX9_takeItem 48 = .ok (.ldc 52, 2) := by decide +kernel
theorem dX9_takeItem_50 : decode cX9_takeItem 50 = .ok (.invokevirtual 54, 3) := by decide +kernel
theorem dX9_takeItem_53 : decode cX9_takeItem 53 = .ok (.ifCond .eq 9, 3) := by decide +kernel
theorem dX9_takeItem_56 : decode cX9_takeItem 56 = .ok (.aload_n 0, 1) := by decide +kernel
theorem dX9_takeItem_57 : decode cX9_takeItem 57 = .ok (.aload_n 1, 1) := by decide +kernel
theorem dX9_takeItem_58 : decode cX9_takeItem 58 = .ok (.invokevirtual 58, 3) := by decide +kernel
theorem dX9_takeItem_61 : decode cX9_takeItem 61 = .ok (.ireturn, 1) := by decide +kernel
theorem dX9_takeItem_62 : decode cX9_takeItem 62 = .ok (.aload_n 0, 1) := by decide +kernel
theorem dX9_takeItem_63 : decode cX9_takeItem 63 = .ok (.ldc 61, 2) := by decide +kernel
theorem dX9_takeItem_65 : decode cX9_takeItem 65 = .ok (.invokevirtual 54, 3) := by decide +kernel
theorem dX9_takeItem_68 : decode cX9_takeItem 68 = .ok (.ifCond .eq 9, 3) := by decide +kernel
theorem dX9_takeItem_71 : decode cX9_takeItem 71 = .ok (.aload_n 0, 1) := by decide +kernel
theorem dX9_takeItem_72 : decode cX9_takeItem 72 = .ok (.aload_n 1, 1) := by decide +kernel
theorem dX9_takeItem_73 : decode cX9_takeItem 73 = .ok (.invokevirtual 63, 3) := by decide +kernel
theorem dX9_takeItem_76 : decode cX9_takeItem 76 = .ok (.ireturn, 1) := by decide +kernel
theorem dX9_takeItem_77 : decode cX9_takeItem 77 = .ok (.aload_n 0, 1) := by decide +kernel
theorem dX9_takeItem_78 : decode cX9_takeItem 78 = .ok (.ldc 66, 2) := by decide +kernel
theorem dX9_takeItem_80 : decode cX9_takeItem 80 = .ok (.invokevirtual 54, 3) := by decide +kernel
theorem dX9_takeItem_83 : decode cX9_takeItem 83 = .ok (.ifCond .eq 9, 3) := by decide +kernel
theorem dX9_takeItem_86 : decode cX9_takeItem 86 = .ok (.aload_n 0, 1) := by decide +kernel
theorem dX9_takeItem_87 : decode cX9_takeItem 87 = .ok (.aload_n 1, 1) := by decide +kernel
theorem dX9_takeItem_88 : decode cX9_takeItem 88 = .ok (.invokevirtual 68, 3) := by decide +kernel
theorem dX9_takeItem_91 : decode cX9_takeItem 91 = .ok (.ireturn, 1) := by decide +kernel
theorem dX9_takeItem_92 : decode cX9_takeItem 92 = .ok (.aload_n 0, 1) := by decide +kernel
theorem dX9_takeItem_93 : decode cX9_takeItem 93 = .ok (.ldc 71, 2) := by decide +kernel
theorem dX9_takeItem_95 : decode cX9_takeItem 95 = .ok (.invokevirtual 54, 3) := by decide +kernel
theorem dX9_takeItem_98 : decode cX9_takeItem 98 = .ok (.ifCond .eq 14, 3) := by decide +kernel
theorem dX9_takeItem_101 : decode cX9_takeItem 101 = .ok (.aload_n 1, 1) := by decide +kernel
theorem dX9_takeItem_102 : decode cX9_takeItem 102 = .ok (.iconst 1, 1) := by decide +kernel
theorem dX9_takeItem_103 : decode cX9_takeItem 103 = .ok (.putfield 73, 3) := by decide +kernel
theorem dX9_takeItem_106 : decode cX9_takeItem 106 = .ok (.aload_n 0, 1) := by decide +kernel
theorem dX9_takeItem_107 : decode cX9_takeItem 107 = .ok (.invokevirtual 22, 3) := by decide +kernel
theorem dX9_takeItem_110 : decode cX9_takeItem 110 = .ok (.iconst 1, 1) := by decide +kernel
theorem dX9_takeItem_111 : decode cX9_takeItem 111 = .ok (.ireturn, 1) := by decide +kernel
theorem dX9_takeItem_112 : decode cX9_takeItem 112 = .ok (.aload_n 0, 1) := by decide +kernel
theorem dX9_takeItem_113 : decode cX9_takeItem 113 = .ok (.ldc 75, 2) := by decide +kernel
theorem dX9_takeItem_115 : decode cX9_takeItem 115 = .ok (.invokevirtual 54, 3) := by decide +kernel
theorem dX9_takeItem_118 : decode cX9_takeItem 118 = .ok (.ifCond .eq 14, 3) := by decide +kernel
theorem dX9_takeItem_121 : decode cX9_takeItem 121 = .ok (.aload_n 1, 1) := by decide +kernel
theorem dX9_takeItem_122 : decode cX9_takeItem 122 = .ok (.iconst 0, 1) := by decide +kernel
theorem dX9_takeItem_123 : decode cX9_takeItem 123 = .ok (.putfield 73, 3) := by decide +kernel
theorem dX9_takeItem_126 : decode cX9_takeItem 126 = .ok (.aload_n 0, 1) := by decide +kernel
theorem dX9_takeItem_127 : decode cX9_takeItem 127 = .ok (.invokevirtual 22, 3) := by decide +kernel
theorem dX9_takeItem_130 : decode cX9_takeItem 130 = .ok (.iconst 1, 1) := by decide +kernel
theorem dX9_takeItem_131 : decode cX9_takeItem 131 = .ok (.ireturn, 1) := by decide +kernel
theorem dX9_takeItem_132 : decode cX9_takeItem 132 = .ok (.iconst 0, 1) := by decide +kernel
theorem dX9_takeItem_133 : decode cX9_takeItem 133 = .ok (.ireturn, 1) := by decide +kernel
theorem dX9_kindNamed_0 : decode cX9_kindNamed 0 = .ok (.aload_n 0, 1) := by decide +kernel
theorem dX9_kindNamed_1 : decode cX9_kindNamed 1 = .ok (.ldc 77, 2) := by decide +kernel
theorem dX9_kindNamed_3 : decode cX9_kindNamed 3 = .ok (.invokevirtual 54, 3) := by decide +kernel
theorem dX9_kindNamed_6 : decode cX9_kindNamed 6 = .ok (.ifCond .eq 5, 3) := by decide +kernel
theorem dX9_kindNamed_9 : decode cX9_kindNamed 9 = .ok (.iconst 0, 1) := by decide +kernel
theorem dX9_kindNamed_10 : decode cX9_kindNamed 10 = .ok (.ireturn, 1) := by decide +kernel
theorem dX9_kindNamed_11 : decode cX9_kindNamed 11 = .ok (.aload_n 0, 1) := by decide +kernel
theorem dX9_kindNamed_12 : decode cX9_kindNamed 12 = .ok (.ldc 79, 2) := by decide +kernel
theorem dX9_kindNamed_14 : decode cX9_kindNamed 14 = .ok (.invokevirtual 54, 3) := by decide +kernel
theorem dX9_kindNamed_17 : decode cX9_kindNamed 17 = .ok (.ifCond .eq 5, 3) := by decide +kernel
theorem dX9_kindNamed_20 : decode cX9_kindNamed 20 = .ok (.iconst 1, 1) := by decide +kernel
theorem dX9_kindNamed_21 : decode cX9_kindNamed 21 = .ok (.ireturn, 1) := by decide +kernel
theorem dX9_kindNamed_22 : decode cX9_kindNamed 22 = .ok (.aload_n 0, 1) := by decide +kernel
theorem dX9_kindNamed_23 : decode cX9_kindNamed 23 = .ok (.ldc 81, 2) := by decide +kernel
theorem dX9_kindNamed_25 : decode cX9_kindNamed 25 = .ok (.invokevirtual 54, 3) := by decide +kernel
theorem dX9_kindNamed_28 : decode cX9_kindNamed 28 = .ok (.ifCond .eq 5, 3) := by decide +kernel
theorem dX9_kindNamed_31 : decode cX9_kindNamed 31 = .ok (.iconst 2, 1) := by decide +kernel
theorem dX9_kindNamed_32 : decode cX9_kindNamed 32 = .ok (.ireturn, 1) := by decide +kernel
theorem dX9_kindNamed_33 : decode cX9_kindNamed 33 = .ok (.aload_n 0, 1) := by decide +kernel
theorem dX9_kindNamed_34 : decode cX9_kindNamed 34 = .ok (.ldc 83, 2) := by decide +kernel
theorem dX9_kindNamed_36 : decode cX9_kindNamed 36 = .ok (.invokevirtual 54, 3) := by decide +kernel
theorem dX9_kindNamed_39 : decode cX9_kindNamed 39 = .ok (.ifCond .eq 5, 3) := by decide +kernel
theorem dX9_kindNamed_42 : decode cX9_kindNamed 42 = .ok (.iconst 3, 1) := by decide +kernel
theorem dX9_kindNamed_43 : decode cX9_kindNamed 43 = .ok (.ireturn, 1) := by decide +kernel
theorem dX9_kindNamed_44 : decode cX9_kindNamed 44 = .ok (.aload_n 0, 1) := by decide +kernel
theorem dX9_kindNamed_45 : decode cX9_kindNamed 45 = .ok (.ldc 85, 2) := by decide +kernel
theorem dX9_kindNamed_47 : decode cX9_kindNamed 47 = .ok (.invokevirtual 54, 3) := by decide +kernel
theorem dX9_kindNamed_50 : decode cX9_kindNamed 50 = .ok (.ifCond .eq 5, 3) := by decide +kernel
theorem dX9_kindNamed_53 : decode cX9_kindNamed 53 = .ok (.iconst 4, 1) := by decide +kernel
theorem dX9_kindNamed_54 : decode cX9_kindNamed 54 = .ok (.ireturn, 1) := by decide +kernel
theorem dX9_kindNamed_55 : decode cX9_kindNamed 55 = .ok (.aload_n 0, 1) := by decide +kernel
theorem dX9_kindNamed_56 : decode cX9_kindNamed 56 = .ok (.ldc 87, 2) := by decide +kernel
theorem dX9_kindNamed_58 : decode cX9_kindNamed 58 = .ok (.invokevirtual 54, 3) := by decide +kernel
theorem dX9_kindNamed_61 : decode cX9_kindNamed 61 = .ok (.ifCond .eq 7, 3) := by decide +kernel
theorem dX9_kindNamed_64 : decode cX9_kindNamed 64 = .ok (.iconst 5, 1) := by decide +kernel
theorem dX9_kindNamed_65 : decode cX9_kindNamed 65 = .ok (.goto 4, 3) := by decide +kernel
theorem dX9_kindNamed_68 : decode cX9_kindNamed 68 = .ok (.iconst (-1), 1) := by decide +kernel
theorem dX9_kindNamed_69 : decode cX9_kindNamed 69 = .ok (.ireturn, 1) := by decide +kernel
theorem dX9_takeSpans_0 : decode cX9_takeSpans 0 = .ok (.aload_n 0, 1) := by decide +kernel
theorem dX9_takeSpans_1 : decode cX9_takeSpans 1 = .ok (.ldc 89, 2) := by decide +kernel
theorem dX9_takeSpans_3 : decode cX9_takeSpans 3 = .ok (.invokevirtual 54, 3) := by decide +kernel
theorem dX9_takeSpans_6 : decode cX9_takeSpans 6 = .ok (.ifCond .ne 5, 3) := by decide +kernel
theorem dX9_takeSpans_9 : decode cX9_takeSpans 9 = .ok (.iconst 1, 1) := by decide +kernel
theorem dX9_takeSpans_10 : decode cX9_takeSpans 10 = .ok (.ireturn, 1) := by decide +kernel
theorem dX9_takeSpans_11 : decode cX9_takeSpans 11 = .ok (.aload_n 0, 1) := by decide +kernel
theorem dX9_takeSpans_12 : decode cX9_takeSpans 12 = .ok (.invokevirtual 22, 3) := by decide +kernel
theorem dX9_takeSpans_15 : decode cX9_takeSpans 15 = .ok (.aload_n 0, 1) := by decide +kernel
theorem dX9_takeSpans_16 : decode cX9_takeSpans 16 = .ok (.invokevirtual 91, 3) := by decide +kernel
theorem dX9_takeSpans_19 : decode cX9_takeSpans 19 = .ok (.ifCond .ne 5, 3) := by decide +kernel
theorem dX9_takeSpans_22 : decode cX9_takeSpans 22 = .ok (.iconst 0, 1) := by decide +kernel
theorem dX9_takeSpans_23 : decode cX9_takeSpans 23 = .ok (.ireturn, 1) := by decide +kernel
theorem dX9_takeSpans_24 : decode cX9_takeSpans 24 = .ok (.aload_n 1, 1) := by decide +kernel
theorem dX9_takeSpans_25 : decode cX9_takeSpans 25 = .ok (.aload_n 0, 1) := by decide +kernel
theorem dX9_takeSpans_26 : decode cX9_takeSpans 26 = .ok (.getfield 95, 3) := by decide +kernel
theorem dX9_takeSpans_29 : decode cX9_takeSpans 29 = .ok (.putfield 98, 3) := by decide +kernel
theorem dX9_takeSpans_32 : decode cX9_takeSpans 32 = .ok (.aload_n 1, 1) := by decide +kernel
theorem dX9_takeSpans_33 : decode cX9_takeSpans 33 = .ok (.aload_n 0, 1) := by decide +kernel
theorem dX9_takeSpans_34 : decode cX9_takeSpans 34 = .ok (.getfield 103, 3) := by decide +kernel
theorem dX9_takeSpans_37 : decode cX9_takeSpans 37 = .ok (.putfield 106, 3) := by decide +kernel
theorem dX9_takeSpans_40 : decode cX9_takeSpans 40 = .ok (.iconst 1, 1) := by decide +kernel
theorem dX9_takeSpans_41 : decode cX9_takeSpans 41 = .ok (.ireturn, 1) := by decide +kernel
theorem dX9_takeThickness_0 : decode cX9_takeThickness 0 = .ok (.aload_n 0, 1) := by decide +kernel
theorem dX9_takeThickness_1 : decode cX9_takeThickness 1 = .ok (.ldc 109, 2) := by decide +kernel
theorem dX9_takeThickness_3 : decode cX9_takeThickness 3 = .ok (.invokevirtual 54, 3) := by decide +kernel
theorem dX9_takeThickness_6 : decode cX9_takeThickness 6 = .ok (.ifCond .ne 5, 3) := by decide +kernel
theorem dX9_takeThickness_9 : decode cX9_takeThickness 9 = .ok (.iconst 1, 1) := by decide +kernel
theorem dX9_takeThickness_10 : decode cX9_takeThickness 10 = .ok (.ireturn, 1) := by decide +kernel
theorem dX9_takeThickness_11 : decode cX9_takeThickness 11 = .ok (.aload_n 0, 1) := by decide +kernel
theorem dX9_takeThickness_12 : decode cX9_takeThickness 12 = .ok (.invokevirtual 22, 3) := by decide +kernel
theorem dX9_takeThickness_15 : decode cX9_takeThickness 15 = .ok (.aload_n 0, 1) := by decide +kernel
theorem dX9_takeThickness_16 : decode cX9_takeThickness 16 = .ok (.iconst 1, 1) := by decide +kernel
theorem dX9_takeThickness_17 : decode cX9_takeThickness 17 = .ok (.bipush 99, 2) := by decide +kernel
theorem dX9_takeThickness_19 : decode cX9_takeThickness 19 = .ok (.invokevirtual 111, 3) := by decide +kernel
theorem dX9_takeThickness_22 : decode cX9_takeThickness 22 = .ok (.ifCond .ne 5, 3) := by decide +kernel
theorem dX9_takeThickness_25 : decode cX9_takeThickness 25 = .ok (.iconst 0, 1) := by decide +kernel
theorem dX9_takeThickness_26 : decode cX9_takeThickness 26 = .ok (.ireturn, 1) := by decide +kernel
theorem dX9_takeThickness_27 : decode cX9_takeThickness 27 = .ok (.aload_n 1, 1) := by decide +kernel
theorem dX9_takeThickness_28 : decode cX9_takeThickness 28 = .ok (.aload_n 0, 1) := by decide +kernel
theorem dX9_takeThickness_29 : decode cX9_takeThickness 29 = .ok (.getfield 115, 3) := by decide +kernel
theorem dX9_takeThickness_32 : decode cX9_takeThickness 32 = .ok (.putfield 118, 3) := by decide +kernel
theorem dX9_takeThickness_35 : decode cX9_takeThickness 35 = .ok (.aload_n 0, 1) := by decide +kernel
theorem dX9_takeThickness_36 : decode cX9_takeThickness 36 = .ok (.invokevirtual 22, 3) := by decide +kernel
theorem dX9_takeThickness_39 : decode cX9_takeThickness 39 = .ok (.iconst 1, 1) := by decide +kernel
theorem dX9_takeThickness_40 : decode cX9_takeThickness 40 = .ok (.ireturn, 1) := by decide +kernel
theorem dX9_takePerson_0 : decode cX9_takePerson 0 = .ok (.aload_n 1, 1) := by decide +kernel
theorem dX9_takePerson_1 : decode cX9_takePerson 1 = .ok (.getfield 120, 3) := by decide +kernel
theorem dX9_takePerson_4 : decode cX9_takePerson 4 = .ok (.bipush 6, 2) := by decide +kernel
theorem dX9_takePerson_6 : decode cX9_takePerson 6 = .ok (.if_icmp .lt 5, 3) := by decide +kernel
theorem dX9_takePerson_9 : decode cX9_takePerson 9 = .ok (.iconst 0, 1) := by decide +kernel
theorem dX9_takePerson_10 : decode cX9_takePerson 10 = .ok (.ireturn, 1) := by decide +kernel
theorem dX9_takePerson_11 : decode cX9_takePerson 11 = .ok (.aload_n 0, 1) := by decide +kernel
theorem dX9_takePerson_12 : decode cX9_takePerson 12 = .ok (.invokevirtual 22, 3) := by decide +kernel
theorem dX9_takePerson_15 : decode cX9_takePerson 15 = .ok (.aload_n 0, 1) := by decide +kernel
theorem dX9_takePerson_16 : decode cX9_takePerson 16 = .ok (.invokevirtual 91, 3) := by decide +kernel
theorem dX9_takePerson_19 : decode cX9_takePerson 19 = .ok (.ifCond .eq 22, 3) := by decide +kernel
theorem dX9_takePerson_22 : decode cX9_takePerson 22 = .ok (.aload_n 1, 1) := by decide +kernel
theorem dX9_takePerson_23 : decode cX9_takePerson 23 = .ok (.aload_n 0, 1) := by decide +kernel
theorem dX9_takePerson_24 : decode cX9_takePerson 24 = .ok (.getfield 95, 3) := by decide +kernel
theorem dX9_takePerson_27 : decode cX9_takePerson 27 = .ok (.aload_n 0, 1) := by decide +kernel
theorem dX9_takePerson_28 : decode cX9_takePerson 28 = .ok (.getfield 103, 3) := by decide +kernel
theorem dX9_takePerson_31 : decode cX9_takePerson 31 = .ok (.invokevirtual 123, 3) := by decide +kernel
theorem dX9_takePerson_34 : decode cX9_takePerson 34 = .ok (.ifnull 7, 3) := by decide +kernel
theorem dX9_takePerson_37 : decode cX9_takePerson 37 = .ok (.iconst 1, 1) := by decide +kernel
theorem dX9_takePerson_38 : decode cX9_takePerson 38 = .ok (.goto 4, 3) := by decide +kernel
theorem dX9_takePerson_41 : decode cX9_takePerson 41 = .ok (.iconst 0, 1) := by decide +kernel
theorem dX9_takePerson_42 : decode cX9_takePerson 42 = .ok (.ireturn, 1) := by decide +kernel
theorem dX9_takeTwoSpans_0 : decode cX9_takeTwoSpans 0 = .ok (.aload_n 0, 1) := by decide +kernel
theorem dX9_takeTwoSpans_1 : decode cX9_takeTwoSpans 1 = .ok (.bipush 10, 2) := by decide +kernel
theorem dX9_takeTwoSpans_3 : decode cX9_takeTwoSpans 3 = .ok (.sipush 200, 3) := by decide +kernel
theorem dX9_takeTwoSpans_6 : decode cX9_takeTwoSpans 6 = .ok (.invokevirtual 111, 3) := by decide +kernel
theorem dX9_takeTwoSpans_9 : decode cX9_takeTwoSpans 9 = .ok (.ifCond .ne 5, 3) := by decide +kernel
theorem dX9_takeTwoSpans_12 : decode cX9_takeTwoSpans 12 = .ok (.iconst 0, 1) := by decide +kernel
theorem dX9_takeTwoSpans_13 : decode cX9_takeTwoSpans 13 = .ok (.ireturn, 1) := by decide +kernel
theorem dX9_takeTwoSpans_14 : decode cX9_takeTwoSpans 14 = .ok (.aload_n 0, 1) := by decide +kernel
theorem dX9_takeTwoSpans_15 : decode cX9_takeTwoSpans 15 = .ok (.aload_n 0, 1) := by decide +kernel
theorem dX9_takeTwoSpans_16 : decode cX9_takeTwoSpans 16 = .ok (.getfield 115, 3) := by decide +kernel
theorem dX9_takeTwoSpans_19 : decode cX9_takeTwoSpans 19 = .ok (.putfield 95, 3) := by decide +kernel
theorem dX9_takeTwoSpans_22 : decode cX9_takeTwoSpans 22 = .ok (.aload_n 0, 1) := by decide +kernel
theorem dX9_takeTwoSpans_23 : decode cX9_takeTwoSpans 23 = .ok (.invokevirtual 22, 3) := by decide +kernel
theorem dX9_takeTwoSpans_26 : decode cX9_takeTwoSpans 26 = .ok (.aload_n 0, 1) := by decide +kernel
theorem dX9_takeTwoSpans_27 : decode cX9_takeTwoSpans 27 = .ok (.bipush 10, 2) := by decide +kernel
theorem dX9_takeTwoSpans_29 : decode cX9_takeTwoSpans 29 = .ok (.sipush 200, 3) := by decide +kernel
theorem dX9_takeTwoSpans_32 : decode cX9_takeTwoSpans 32 = .ok (.invokevirtual 111, 3) := by decide +kernel
theorem dX9_takeTwoSpans_35 : decode cX9_takeTwoSpans 35 = .ok (.ifCond .ne 5, 3) := by decide +kernel
theorem dX9_takeTwoSpans_38 : decode cX9_takeTwoSpans 38 = .ok (.iconst 0, 1) := by decide +kernel
theorem dX9_takeTwoSpans_39 : decode cX9_takeTwoSpans 39 = .ok (.ireturn, 1) := by decide +kernel
theorem dX9_takeTwoSpans_40 : decode cX9_takeTwoSpans 40 = .ok (.aload_n 0, 1) := by decide +kernel
theorem dX9_takeTwoSpans_41 : decode cX9_takeTwoSpans 41 = .ok (.aload_n 0, 1) := by decide +kernel
theorem dX9_takeTwoSpans_42 : decode cX9_takeTwoSpans 42 = .ok (.getfield 115, 3) := by decide +kernel
theorem dX9_takeTwoSpans_45 : decode cX9_takeTwoSpans 45 = .ok (.putfield 103, 3) := by decide +kernel
theorem dX9_takeTwoSpans_48 : decode cX9_takeTwoSpans 48 = .ok (.aload_n 0, 1) := by decide +kernel
theorem dX9_takeTwoSpans_49 : decode cX9_takeTwoSpans 49 = .ok (.invokevirtual 22, 3) := by decide +kernel
theorem dX9_takeTwoSpans_52 : decode cX9_takeTwoSpans 52 = .ok (.iconst 1, 1) := by decide +kernel
theorem dX9_takeTwoSpans_53 : decode cX9_takeTwoSpans 53 = .ok (.ireturn, 1) := by decide +kernel
theorem dX9_takeDegrees_0 : decode cX9_takeDegrees 0 = .ok (.aload_n 0, 1) := by decide +kernel
theorem dX9_takeDegrees_1 : decode cX9_takeDegrees 1 = .ok (.invokevirtual 22, 3) := by decide +kernel
theorem dX9_takeDegrees_4 : decode cX9_takeDegrees 4 = .ok (.aload_n 0, 1) := by decide +kernel
theorem dX9_takeDegrees_5 : decode cX9_takeDegrees 5 = .ok (.bipush 20, 2) := by decide +kernel
theorem dX9_takeDegrees_7 : decode cX9_takeDegrees 7 = .ok (.bipush 95, 2) := by decide +kernel
theorem dX9_takeDegrees_9 : decode cX9_takeDegrees 9 = .ok (.invokevirtual 111, 3) := by decide +kernel
theorem dX9_takeDegrees_12 : decode cX9_takeDegrees 12 = .ok (.ifCond .ne 5, 3) := by decide +kernel
theorem dX9_takeDegrees_15 : decode cX9_takeDegrees 15 = .ok (.iconst 0, 1) := by decide +kernel
theorem dX9_takeDegrees_16 : decode cX9_takeDegrees 16 = .ok (.ireturn, 1) := by decide +kernel
theorem dX9_takeDegrees_17 : decode cX9_takeDegrees 17 = .ok (.aload_n 1, 1) := by decide +kernel
theorem dX9_takeDegrees_18 : decode cX9_takeDegrees 18 = .ok (.aload_n 0, 1) := by decide +kernel
theorem dX9_takeDegrees_19 : decode cX9_takeDegrees 19 = .ok (.getfield 115, 3) := by decide +kernel
theorem dX9_takeDegrees_22 : decode cX9_takeDegrees 22 = .ok (.putfield 127, 3) := by decide +kernel
theorem dX9_takeDegrees_25 : decode cX9_takeDegrees 25 = .ok (.aload_n 0, 1) := by decide +kernel
theorem dX9_takeDegrees_26 : decode cX9_takeDegrees 26 = .ok (.invokevirtual 22, 3) := by decide +kernel
theorem dX9_takeDegrees_29 : decode cX9_takeDegrees 29 = .ok (.iconst 1, 1) := by decide +kernel
theorem dX9_takeDegrees_30 : decode cX9_takeDegrees 30 = .ok (.ireturn, 1) := by decide +kernel
theorem dX9_takeWash_0 : decode cX9_takeWash 0 = .ok (.aload_n 0, 1) := by decide +kernel
theorem dX9_takeWash_1 : decode cX9_takeWash 1 = .ok (.invokevirtual 22, 3) := by decide +kernel
theorem dX9_takeWash_4 : decode cX9_takeWash 4 = .ok (.aload_n 0, 1) := by decide +kernel
theorem dX9_takeWash_5 : decode cX9_takeWash 5 = .ok (.getfield 29, 3) := by decide +kernel
theorem dX9_takeWash_8 : decode cX9_takeWash 8 = .ok (.iconst 2, 1) := by decide +kernel
theorem dX9_takeWash_9 : decode cX9_takeWash 9 = .ok (.if_icmp .eq 5, 3) := by decide +kernel
theorem dX9_takeWash_12 : decode cX9_takeWash 12 = .ok (.iconst 0, 1) := by decide +kernel
theorem dX9_takeWash_13 : decode cX9_takeWash 13 = .ok (.ireturn, 1) := by decide +kernel
theorem dX9_takeWash_14 : decode cX9_takeWash 14 = .ok (.aload_n 1, 1) := by decide +kernel
theorem dX9_takeWash_15 : decode cX9_takeWash 15 = .ok (.aload_n 0, 1) := by decide +kernel
theorem dX9_takeWash_16 : decode cX9_takeWash 16 = .ok (.getfield 115, 3) := by decide +kernel
theorem dX9_takeWash_19 : decode cX9_takeWash 19 = .ok (.invokevirtual 129, 3) := by decide +kernel
theorem dX9_takeWash_22 : decode cX9_takeWash 22 = .ok (.astore_n 2, 1) := by decide +kernel
theorem dX9_takeWash_23 : decode cX9_takeWash 23 = .ok (.aload_n 2, 1) := by decide +kernel
theorem dX9_takeWash_24 : decode cX9_takeWash 24 = .ok (.ifnonnull 5, 3) := by decide +kernel
theorem dX9_takeWash_27 : decode cX9_takeWash 27 = .ok (.iconst 0, 1) := by decide +kernel
theorem dX9_takeWash_28 : decode cX9_takeWash 28 = .ok (.ireturn, 1) := by decide +kernel
theorem dX9_takeWash_29 : decode cX9_takeWash 29 = .ok (.aload_n 2, 1) := by decide +kernel
theorem dX9_takeWash_30 : decode cX9_takeWash 30 = .ok (.aload_n 1, 1) := by decide +kernel
theorem dX9_takeWash_31 : decode cX9_takeWash 31 = .ok (.getfield 127, 3) := by decide +kernel
theorem dX9_takeWash_34 : decode cX9_takeWash 34 = .ok (.aload_n 1, 1) := by decide +kernel
theorem dX9_takeWash_35 : decode cX9_takeWash 35 = .ok (.getfield 73, 3) := by decide +kernel
theorem dX9_takeWash_38 : decode cX9_takeWash 38 = .ok (.invokevirtual 132, 3) := by decide +kernel
theorem dX9_takeWash_41 : decode cX9_takeWash 41 = .ok (.aload_n 0, 1) := by decide +kernel
theorem dX9_takeWash_42 : decode cX9_takeWash 42 = .ok (.invokevirtual 22, 3) := by decide +kernel
theorem dX9_takeWash_45 : decode cX9_takeWash 45 = .ok (.iconst 1, 1) := by decide +kernel
theorem dX9_takeWash_46 : decode cX9_takeWash 46 = .ok (.ireturn, 1) := by decide +kernel
theorem dX9_isNumber_0 : decode cX9_isNumber 0 = .ok (.aload_n 0, 1) := by decide +kernel
theorem dX9_isNumber_1 : decode cX9_isNumber 1 = .ok (.getfield 29, 3) := by decide +kernel
theorem dX9_isNumber_4 : decode cX9_isNumber 4 = .ok (.iconst 2, 1) := by decide +kernel
theorem dX9_isNumber_5 : decode cX9_isNumber 5 = .ok (.if_icmp .ne 19, 3) := by decide +kernel
theorem dX9_isNumber_8 : decode cX9_isNumber 8 = .ok (.aload_n 0, 1) := by decide +kernel
theorem dX9_isNumber_9 : decode cX9_isNumber 9 = .ok (.getfield 115, 3) := by decide +kernel
theorem dX9_isNumber_12 : decode cX9_isNumber 12 = .ok (.iload_n 1, 1) := by decide +kernel
theorem dX9_isNumber_13 : decode cX9_isNumber 13 = .ok (.iload_n 2, 1) := by decide +kernel
theorem dX9_isNumber_14 : decode cX9_isNumber 14 = .ok (.invokestatic 136, 3) := by decide +kernel
theorem dX9_isNumber_17 : decode cX9_isNumber 17 = .ok (.ifCond .eq 7, 3) := by decide +kernel
theorem dX9_isNumber_20 : decode cX9_isNumber 20 = .ok (.iconst 1, 1) := by decide +kernel
theorem dX9_isNumber_21 : decode cX9_isNumber 21 = .ok (.goto 4, 3) := by decide +kernel
theorem dX9_isNumber_24 : decode cX9_isNumber 24 = .ok (.iconst 0, 1) := by decide +kernel
theorem dX9_isNumber_25 : decode cX9_isNumber 25 = .ok (.ireturn, 1) := by decide +kernel
theorem dX9_isWord_0 : decode cX9_isWord 0 = .ok (.aload_n 0, 1) := by decide +kernel
theorem dX9_isWord_1 : decode cX9_isWord 1 = .ok (.getfield 29, 3) := by decide +kernel
theorem dX9_isWord_4 : decode cX9_isWord 4 = .ok (.iconst 1, 1) := by decide +kernel
theorem dX9_isWord_5 : decode cX9_isWord 5 = .ok (.if_icmp .ne 19, 3) := by decide +kernel
theorem dX9_isWord_8 : decode cX9_isWord 8 = .ok (.aload_n 0, 1) := by decide +kernel
theorem dX9_isWord_9 : decode cX9_isWord 9 = .ok (.getfield 19, 3) := by decide +kernel
theorem dX9_isWord_12 : decode cX9_isWord 12 = .ok (.aload_n 0, 1) := by decide +kernel
theorem dX9_isWord_13 : decode cX9_isWord 13 = .ok (.getfield 32, 3) := by decide +kernel
theorem dX9_isWord_16 : decode cX9_isWord 16 = .ok (.isub, 1) := by decide +kernel
theorem dX9_isWord_17 : decode cX9_isWord 17 = .ok (.aload_n 1, 1) := by decide +kernel
theorem dX9_isWord_18 : decode cX9_isWord 18 = .ok (.invokevirtual 140, 3) := by decide +kernel
theorem dX9_isWord_21 : decode cX9_isWord 21 = .ok (.if_icmp .eq 5, 3) := by decide +kernel
theorem dX9_isWord_24 : decode cX9_isWord 24 = .ok (.iconst 0, 1) := by decide +kernel
theorem dX9_isWord_25 : decode cX9_isWord 25 = .ok (.ireturn, 1) := by decide +kernel
theorem dX9_isWord_26 : decode cX9_isWord 26 = .ok (.iconst 0, 1) := by decide +kernel
theorem dX9_isWord_27 : decode cX9_isWord 27 = .ok (.istore_n 2, 1) := by decide +kernel
theorem dX9_isWord_28 : decode cX9_isWord 28 = .ok (.iload_n 2, 1) := by decide +kernel
theorem dX9_isWord_29 : decode cX9_isWord 29 = .ok (.aload_n 1, 1) := by decide +kernel
theorem dX9_isWord_30 : decode cX9_isWord 30 = .ok (.invokevirtual 140, 3) := by decide +kernel
theorem dX9_isWord_33 : decode cX9_isWord 33 = .ok (.if_icmp .ge 29, 3) := by decide +kernel
theorem dX9_isWord_36 : decode cX9_isWord 36 = .ok (.aload_n 0, 1) := by decide +kernel
theorem dX9_isWord_37 : decode cX9_isWord 37 = .ok (.aload_n 0, 1) := by decide +kernel
theorem dX9_isWord_38 : decode cX9_isWord 38 = .ok (.getfield 32, 3) := by decide +kernel
theorem dX9_isWord_41 : decode cX9_isWord 41 = .ok (.iload_n 2, 1) := by decide +kernel
theorem dX9_isWord_42 : decode cX9_isWord 42 = .ok (.iadd, 1) := by decide +kernel
theorem dX9_isWord_43 : decode cX9_isWord 43 = .ok (.invokevirtual 144, 3) := by decide +kernel
theorem dX9_isWord_46 : decode cX9_isWord 46 = .ok (.aload_n 1, 1) := by decide +kernel
theorem dX9_isWord_47 : decode cX9_isWord 47 = .ok (.iload_n 2, 1) := by decide +kernel
theorem dX9_isWord_48 : decode cX9_isWord 48 = .ok (.invokevirtual 148, 3) := by decide +kernel
theorem dX9_isWord_51 : decode cX9_isWord 51 = .ok (.if_icmp .eq 5, 3) := by decide +kernel
theorem dX9_isWord_54 : decode cX9_isWord 54 = .ok (.iconst 0, 1) := by decide +kernel
theorem dX9_isWord_55 : decode cX9_isWord 55 = .ok (.ireturn, 1) := by decide +kernel
theorem dX9_isWord_56 : decode cX9_isWord 56 = .ok (.iinc 2 1, 3) := by decide +kernel
theorem dX9_isWord_59 : decode cX9_isWord 59 = .ok (.goto (-31), 3) := by decide +kernel
theorem dX9_isWord_62 : decode cX9_isWord 62 = .ok (.iconst 1, 1) := by decide +kernel
theorem dX9_isWord_63 : decode cX9_isWord 63 = .ok (.ireturn, 1) := by decide +kernel
theorem dX9_nextToken_0 : decode cX9_nextToken 0 = .ok (.aload_n 0, 1) := by decide +kernel
theorem dX9_nextToken_1 : decode cX9_nextToken 1 = .ok (.aload_n 0, 1) := by decide +kernel
theorem dX9_nextToken_2 : decode cX9_nextToken 2 = .ok (.getfield 19, 3) := by decide +kernel
theorem dX9_nextToken_5 : decode cX9_nextToken 5 = .ok (.putfield 32, 3) := by decide +kernel
theorem dX9_nextToken_8 : decode cX9_nextToken 8 = .ok (.aload_n 0, 1) := by decide +kernel
theorem dX9_nextToken_9 : decode cX9_nextToken 9 = .ok (.getfield 32, 3) := by decide +kernel
theorem dX9_nextToken_12 : decode cX9_nextToken 12 = .ok (.aload_n 0, 1) := by decide +kernel
theorem dX9_nextToken_13 : decode cX9_nextToken 13 = .ok (.getfield 15, 3) := by decide +kernel
theorem dX9_nextToken_16 : decode cX9_nextToken 16 = .ok (.if_icmp .ge 29, 3) := by decide +kernel
theorem dX9_nextToken_19 : decode cX9_nextToken 19 = .ok (.aload_n 0, 1) := by decide +kernel
theorem dX9_nextToken_20 : decode cX9_nextToken 20 = .ok (.aload_n 0, 1) := by decide +kernel
theorem dX9_nextToken_21 : decode cX9_nextToken 21 = .ok (.getfield 32, 3) := by decide +kernel
theorem dX9_nextToken_24 : decode cX9_nextToken 24 = .ok (.invokevirtual 144, 3) := by decide +kernel
theorem dX9_nextToken_27 : decode cX9_nextToken 27 = .ok (.bipush 32, 2) := by decide +kernel
theorem dX9_nextToken_29 : decode cX9_nextToken 29 = .ok (.if_icmp .ne 16, 3) := by decide +kernel
theorem dX9_nextToken_32 : decode cX9_nextToken 32 = .ok (.aload_n 0, 1) := by decide +kernel
theorem dX9_nextToken_33 : decode cX9_nextToken 33 = .ok (.dup, 1) := by decide +kernel
theorem dX9_nextToken_34 : decode cX9_nextToken 34 = .ok (.getfield 32, 3) := by decide +kernel
theorem dX9_nextToken_37 : decode cX9_nextToken 37 = .ok (.iconst 1, 1) := by decide +kernel
theorem dX9_nextToken_38 : decode cX9_nextToken 38 = .ok (.iadd, 1) := by decide +kernel
theorem dX9_nextToken_39 : decode cX9_nextToken 39 = .ok (.putfield 32, 3) := by decide +kernel
theorem dX9_nextToken_42 : decode cX9_nextToken 42 = .ok (.goto (-34), 3) := by decide +kernel
theorem dX9_nextToken_45 : decode cX9_nextToken 45 = .ok (.aload_n 0, 1) := by decide +kernel
theorem dX9_nextToken_46 : decode cX9_nextToken 46 = .ok (.aload_n 0, 1) := by decide +kernel
theorem dX9_nextToken_47 : decode cX9_nextToken 47 = .ok (.getfield 32, 3) := by decide +kernel
theorem dX9_nextToken_50 : decode cX9_nextToken 50 = .ok (.putfield 19, 3) := by decide +kernel
theorem dX9_nextToken_53 : decode cX9_nextToken 53 = .ok (.aload_n 0, 1) := by decide +kernel
theorem dX9_nextToken_54 : decode cX9_nextToken 54 = .ok (.getfield 32, 3) := by decide +kernel
theorem dX9_nextToken_57 : decode cX9_nextToken 57 = .ok (.aload_n 0, 1) := by decide +kernel
theorem dX9_nextToken_58 : decode cX9_nextToken 58 = .ok (.getfield 15, 3) := by decide +kernel
theorem dX9_nextToken_61 : decode cX9_nextToken 61 = .ok (.if_icmp .lt 11, 3) := by decide +kernel
theorem dX9_nextToken_64 : decode cX9_nextToken 64 = .ok (.aload_n 0, 1) := by decide +kernel
theorem dX9_nextToken_65 : decode cX9_nextToken 65 = .ok (.iconst 0, 1) := by decide +kernel
theorem dX9_nextToken_66 : decode cX9_nextToken 66 = .ok (.putfield 29, 3) := by decide +kernel
theorem dX9_nextToken_69 : decode cX9_nextToken 69 = .ok (.goto 183, 3) := by decide +kernel
theorem dX9_nextToken_72 : decode cX9_nextToken 72 = .ok (.aload_n 0, 1) := by decide +kernel
theorem dX9_nextToken_73 : decode cX9_nextToken 73 = .ok (.aload_n 0, 1) := by decide +kernel
theorem dX9_nextToken_74 : decode cX9_nextToken 74 = .ok (.getfield 32, 3) := by decide +kernel
theorem dX9_nextToken_77 : decode cX9_nextToken 77 = .ok (.invokevirtual 144, 3) := by decide +kernel
theorem dX9_nextToken_80 : decode cX9_nextToken 80 = .ok (.invokestatic 152, 3) := by decide +kernel
theorem dX9_nextToken_83 : decode cX9_nextToken 83 = .ok (.ifCond .eq 46, 3) := by decide +kernel
theorem dX9_nextToken_86 : decode cX9_nextToken 86 = .ok (.aload_n 0, 1) := by decide +kernel
theorem dX9_nextToken_87 : decode cX9_nextToken 87 = .ok (.iconst 1, 1) := by decide +kernel
theorem dX9_nextToken_88 : decode cX9_nextToken 88 = .ok (.putfield 29, 3) := by decide +kernel
theorem dX9_nextToken_91 : decode cX9_nextToken 91 = .ok (.aload_n 0, 1) := by decide +kernel
theorem dX9_nextToken_92 : decode cX9_nextToken 92 = .ok (.getfield 19, 3) := by decide +kernel
theorem dX9_nextToken_95 : decode cX9_nextToken 95 = .ok (.aload_n 0, 1) := by decide +kernel
theorem dX9_nextToken_96 : decode cX9_nextToken 96 = .ok (.getfield 15, 3) := by decide +kernel
theorem dX9_nextToken_99 : decode cX9_nextToken 99 = .ok (.if_icmp .ge 153, 3) := by decide +kernel
theorem dX9_nextToken_102 : decode cX9_nextToken 102 = .ok (.aload_n 0, 1) := by decide +kernel
theorem dX9_nextToken_103 : decode cX9_nextToken 103 = .ok (.aload_n 0, 1) := by decide +kernel
theorem dX9_nextToken_104 : decode cX9_nextToken 104 = .ok (.getfield 19, 3) := by decide +kernel
theorem dX9_nextToken_107 : decode cX9_nextToken 107 = .ok (.invokevirtual 144, 3) := by decide +kernel
theorem dX9_nextToken_110 : decode cX9_nextToken 110 = .ok (.invokestatic 152, 3) := by decide +kernel
theorem dX9_nextToken_113 : decode cX9_nextToken 113 = .ok (.ifCond .eq 139, 3) := by decide +kernel
theorem dX9_nextToken_116 : decode cX9_nextToken 116 = .ok (.aload_n 0, 1) := by decide +kernel
theorem dX9_nextToken_117 : decode cX9_nextToken 117 = .ok (.dup, 1) := by decide +kernel
theorem dX9_nextToken_118 : decode cX9_nextToken 118 = .ok (.getfield 19, 3) := by decide +kernel
theorem dX9_nextToken_121 : decode cX9_nextToken 121 = .ok (.iconst 1, 1) := by decide +kernel
theorem dX9_nextToken_122 : decode cX9_nextToken 122 = .ok (.iadd, 1) := by decide +kernel
theorem dX9_nextToken_123 : decode cX9_nextToken 123 = .ok (.putfield 19, 3) := by decide +kernel
theorem dX9_nextToken_126 : decode cX9_nextToken 126 = .ok (.goto (-35), 3) := by decide +kernel
theorem dX9_nextToken_129 : decode cX9_nextToken 129 = .ok (.aload_n 0, 1) := by decide +kernel
theorem dX9_nextToken_130 : decode cX9_nextToken 130 = .ok (.aload_n 0, 1) := by decide +kernel
theorem dX9_nextToken_131 : decode cX9_nextToken 131 = .ok (.getfield 32, 3) := by decide +kernel
theorem dX9_nextToken_134 : decode cX9_nextToken 134 = .ok (.invokevirtual 144, 3) := by decide +kernel
theorem dX9_nextToken_137 : decode cX9_nextToken 137 = .ok (.invokestatic 156, 3) := by decide +kernel
theorem dX9_nextToken_140 : decode cX9_nextToken 140 = .ok (.ifCond .eq 80, 3) := by decide +kernel
theorem dX9_nextToken_143 : decode cX9_nextToken 143 = .ok (.aload_n 0, 1) := by decide +kernel
theorem dX9_nextToken_144 : decode cX9_nextToken 144 = .ok (.iconst 2, 1) := by decide +kernel
theorem dX9_nextToken_145 : decode cX9_nextToken 145 = .ok (.putfield 29, 3) := by decide +kernel
theorem dX9_nextToken_148 : decode cX9_nextToken 148 = .ok (.aload_n 0, 1) := by decide +kernel
theorem dX9_nextToken_149 : decode cX9_nextToken 149 = .ok (.iconst 0, 1) := by decide +kernel
theorem dX9_nextToken_150 : decode cX9_nextToken 150 = .ok (.putfield 115, 3) := by decide +kernel
theorem dX9_nextToken_153 : decode cX9_nextToken 153 = .ok (.aload_n 0, 1) := by decide +kernel
theorem dX9_nextToken_154 : decode cX9_nextToken 154 = .ok (.getfield 19, 3) := by decide +kernel
theorem dX9_nextToken_157 : decode cX9_nextToken 157 = .ok (.aload_n 0, 1) := by decide +kernel
theorem dX9_nextToken_158 : decode cX9_nextToken 158 = .ok (.getfield 15, 3) := by decide +kernel
theorem dX9_nextToken_161 : decode cX9_nextToken 161 = .ok (.if_icmp .ge 91, 3) := by decide +kernel
theorem dX9_nextToken_164 : decode cX9_nextToken 164 = .ok (.aload_n 0, 1) := by decide +kernel
theorem dX9_nextToken_165 : decode cX9_nextToken 165 = .ok (.aload_n 0, 1) := by decide +kernel
theorem dX9_nextToken_166 : decode cX9_nextToken 166 = .ok (.getfield 19, 3) := by decide +kernel
theorem dX9_nextToken_169 : decode cX9_nextToken 169 = .ok (.invokevirtual 144, 3) := by decide +kernel
theorem dX9_nextToken_172 : decode cX9_nextToken 172 = .ok (.invokestatic 156, 3) := by decide +kernel
theorem dX9_nextToken_175 : decode cX9_nextToken 175 = .ok (.ifCond .eq 77, 3) := by decide +kernel
theorem dX9_nextToken_178 : decode cX9_nextToken 178 = .ok (.aload_n 0, 1) := by decide +kernel
theorem dX9_nextToken_179 : decode cX9_nextToken 179 = .ok (.sipush 1000, 3) := by decide +kernel
theorem dX9_nextToken_182 : decode cX9_nextToken 182 = .ok (.aload_n 0, 1) := by decide +kernel
theorem dX9_nextToken_183 : decode cX9_nextToken 183 = .ok (.getfield 115, 3) := by decide +kernel
theorem dX9_nextToken_186 : decode cX9_nextToken 186 = .ok (.bipush 10, 2) := by decide +kernel
theorem dX9_nextToken_188 : decode cX9_nextToken 188 = .ok (.imul, 1) := by decide +kernel
theorem dX9_nextToken_189 : decode cX9_nextToken 189 = .ok (.aload_n 0, 1) := by decide +kernel
theorem dX9_nextToken_190 : decode cX9_nextToken 190 = .ok (.aload_n 0, 1) := by decide +kernel
theorem dX9_nextToken_191 : decode cX9_nextToken 191 = .ok (.getfield 19, 3) := by decide +kernel
theorem dX9_nextToken_194 : decode cX9_nextToken 194 = .ok (.invokevirtual 144, 3) := by decide +kernel
theorem dX9_nextToken_197 : decode cX9_nextToken 197 = .ok (.iadd, 1) := by decide +kernel
theorem dX9_nextToken_198 : decode cX9_nextToken 198 = .ok (.bipush 48, 2) := by decide +kernel
theorem dX9_nextToken_200 : decode cX9_nextToken 200 = .ok (.isub, 1) := by decide +kernel
theorem dX9_nextToken_201 : decode cX9_nextToken 201 = .ok (.invokestatic 159, 3) := by decide +kernel
theorem dX9_nextToken_204 : decode cX9_nextToken 204 = .ok (.putfield 115, 3) := by decide +kernel
theorem dX9_nextToken_207 : decode cX9_nextToken 207 = .ok (.aload_n 0, 1) := by decide +kernel
theorem dX9_nextToken_208 : decode cX9_nextToken 208 = .ok (.dup, 1) := by decide +kernel
theorem dX9_nextToken_209 : decode cX9_nextToken 209 = .ok (.getfield 19, 3) := by decide +kernel
theorem dX9_nextToken_212 : decode cX9_nextToken 212 = .ok (.iconst 1, 1) := by decide +kernel
theorem dX9_nextToken_213 : decode cX9_nextToken 213 = .ok (.iadd, 1) := by decide +kernel
theorem dX9_nextToken_214 : decode cX9_nextToken 214 = .ok (.putfield 19, 3) := by decide +kernel
theorem dX9_nextToken_217 : decode cX9_nextToken 217 = .ok (.goto (-64), 3) := by decide +kernel
theorem dX9_nextToken_220 : decode cX9_nextToken 220 = .ok (.aload_n 0, 1) := by decide +kernel
theorem dX9_nextToken_221 : decode cX9_nextToken 221 = .ok (.aload_n 0, 1) := by decide +kernel
theorem dX9_nextToken_222 : decode cX9_nextToken 222 = .ok (.aload_n 0, 1) := by decide +kernel
theorem dX9_nextToken_223 : decode cX9_nextToken 223 = .ok (.getfield 32, 3) := by decide +kernel
theorem dX9_nextToken_226 : decode cX9_nextToken 226 = .ok (.invokevirtual 144, 3) := by decide +kernel
theorem dX9_nextToken_229 : decode cX9_nextToken 229 = .ok (.bipush 59, 2) := by decide +kernel
theorem dX9_nextToken_231 : decode cX9_nextToken 231 = .ok (.if_icmp .ne 7, 3) := by decide +kernel
theorem dX9_nextToken_234 : decode cX9_nextToken 234 = .ok (.iconst 3, 1) := by decide +kernel
theorem dX9_nextToken_235 : decode cX9_nextToken 235 = .ok (.goto 4, 3) := by decide +kernel
theorem dX9_nextToken_238 : decode cX9_nextToken 238 = .ok (.iconst 4, 1) := by decide +kernel
theorem dX9_nextToken_239 : decode cX9_nextToken 239 = .ok (.putfield 29, 3) := by decide +kernel
theorem dX9_nextToken_242 : decode cX9_nextToken 242 = .ok (.aload_n 0, 1) := by decide +kernel
theorem dX9_nextToken_243 : decode cX9_nextToken 243 = .ok (.aload_n 0, 1) := by decide +kernel
theorem dX9_nextToken_244 : decode cX9_nextToken 244 = .ok (.getfield 32, 3) := by decide +kernel
theorem dX9_nextToken_247 : decode cX9_nextToken 247 = .ok (.iconst 1, 1) := by decide +kernel
theorem dX9_nextToken_248 : decode cX9_nextToken 248 = .ok (.iadd, 1) := by decide +kernel
theorem dX9_nextToken_249 : decode cX9_nextToken 249 = .ok (.putfield 19, 3) := by decide +kernel
theorem dX9_nextToken_252 : decode cX9_nextToken 252 = .ok (.return_, 1) := by decide +kernel
theorem dX9_byteAt_0 : decode cX9_byteAt 0 = .ok (.iload_n 1, 1) := by decide +kernel
theorem dX9_byteAt_1 : decode cX9_byteAt 1 = .ok (.ifCond .lt 29, 3) := by decide +kernel
theorem dX9_byteAt_4 : decode cX9_byteAt 4 = .ok (.iload_n 1, 1) := by decide +kernel
theorem dX9_byteAt_5 : decode cX9_byteAt 5 = .ok (.aload_n 0, 1) := by decide +kernel
theorem dX9_byteAt_6 : decode cX9_byteAt 6 = .ok (.getfield 15, 3) := by decide +kernel
theorem dX9_byteAt_9 : decode cX9_byteAt 9 = .ok (.if_icmp .ge 21, 3) := by decide +kernel
theorem dX9_byteAt_12 : decode cX9_byteAt 12 = .ok (.iload_n 1, 1) := by decide +kernel
theorem dX9_byteAt_13 : decode cX9_byteAt 13 = .ok (.aload_n 0, 1) := by decide +kernel
theorem dX9_byteAt_14 : decode cX9_byteAt 14 = .ok (.getfield 9, 3) := by decide +kernel
theorem dX9_byteAt_17 : decode cX9_byteAt 17 = .ok (.arraylength, 1) := by decide +kernel
theorem dX9_byteAt_18 : decode cX9_byteAt 18 = .ok (.if_icmp .ge 12, 3) := by decide +kernel
theorem dX9_byteAt_21 : decode cX9_byteAt 21 = .ok (.aload_n 0, 1) := by decide +kernel
theorem dX9_byteAt_22 : decode cX9_byteAt 22 = .ok (.getfield 9, 3) := by decide +kernel
theorem dX9_byteAt_25 : decode cX9_byteAt 25 = .ok (.iload_n 1, 1) := by decide +kernel
theorem dX9_byteAt_26 : decode cX9_byteAt 26 = .ok (.baload, 1) := by decide +kernel
theorem dX9_byteAt_27 : decode cX9_byteAt 27 = .ok (.goto 4, 3) := by decide +kernel
theorem dX9_byteAt_30 : decode cX9_byteAt 30 = .ok (.iconst (-1), 1) := by decide +kernel
theorem dX9_byteAt_31 : decode cX9_byteAt 31 = .ok (.ireturn, 1) := by decide +kernel
theorem dX9_isLetter_0 : decode cX9_isLetter 0 = .ok (.iload_n 0, 1) := by decide +kernel
theorem dX9_isLetter_1 : decode cX9_isLetter 1 = .ok (.bipush 97, 2) := by decide +kernel
theorem dX9_isLetter_3 : decode cX9_isLetter 3 = .ok (.if_icmp .lt 13, 3) := by decide +kernel
theorem dX9_isLetter_6 : decode cX9_isLetter 6 = .ok (.iload_n 0, 1) := by decide +kernel
theorem dX9_isLetter_7 : decode cX9_isLetter 7 = .ok (.bipush 122, 2) := by decide +kernel
theorem dX9_isLetter_9 : decode cX9_isLetter 9 = .ok (.if_icmp .gt 7, 3) := by decide +kernel
theorem dX9_isLetter_12 : decode cX9_isLetter 12 = .ok (.iconst 1, 1) := by decide +kernel
theorem dX9_isLetter_13 : decode cX9_isLetter 13 = .ok (.goto 4, 3) := by decide +kernel
theorem dX9_isLetter_16 : decode cX9_isLetter 16 = .ok (.iconst 0, 1) := by decide +kernel
theorem dX9_isLetter_17 : decode cX9_isLetter 17 = .ok (.ireturn, 1) := by decide +kernel
theorem dX9_isDigit_0 : decode cX9_isDigit 0 = .ok (.iload_n 0, 1) := by decide +kernel
theorem dX9_isDigit_1 : decode cX9_isDigit 1 = .ok (.bipush 48, 2) := by decide +kernel
theorem dX9_isDigit_3 : decode cX9_isDigit 3 = .ok (.if_icmp .lt 13, 3) := by decide +kernel
theorem dX9_isDigit_6 : decode cX9_isDigit 6 = .ok (.iload_n 0, 1) := by decide +kernel
theorem dX9_isDigit_7 : decode cX9_isDigit 7 = .ok (.bipush 57, 2) := by decide +kernel
theorem dX9_isDigit_9 : decode cX9_isDigit 9 = .ok (.if_icmp .gt 7, 3) := by decide +kernel
theorem dX9_isDigit_12 : decode cX9_isDigit 12 = .ok (.iconst 1, 1) := by decide +kernel
theorem dX9_isDigit_13 : decode cX9_isDigit 13 = .ok (.goto 4, 3) := by decide +kernel
theorem dX9_isDigit_16 : decode cX9_isDigit 16 = .ok (.iconst 0, 1) := by decide +kernel
theorem dX9_isDigit_17 : decode cX9_isDigit 17 = .ok (.ireturn, 1) := by decide +kernel
theorem dX10_init_0 : decode cX10_init 0 = .ok (.aload_n 0, 1) := by decide +kernel
theorem dX10_init_1 : decode cX10_init 1 = .ok (.iload_n 1, 1) := by decide +kernel
theorem dX10_init_2 : decode cX10_init 2 = .ok (.aload_n 2, 1) := by decide +kernel
theorem dX10_init_3 : decode cX10_init 3 = .ok (.invokespecial 1, 3) := by decide +kernel
theorem dX10_init_6 : decode cX10_init 6 = .ok (.return_, 1) := by decide +kernel
theorem dX10_shrinks_0 : decode cX10_shrinks 0 = .ok (.iload_n 1, 1) := by decide +kernel
theorem dX10_shrinks_1 : decode cX10_shrinks 1 = .ok (.bipush 40, 2) := by decide +kernel
theorem dX10_shrinks_3 : decode cX10_shrinks 3 = .ok (.if_icmp .le 12, 3) := by decide +kernel
theorem dX10_shrinks_6 : decode cX10_shrinks 6 = .ok (.iload_n 1, 1) := by decide +kernel
theorem dX10_shrinks_7 : decode cX10_shrinks 7 = .ok (.bipush 40, 2) := by decide +kernel
theorem dX10_shrinks_9 : decode cX10_shrinks 9 = .ok (.isub, 1) := by decide +kernel
theorem dX10_shrinks_10 : decode cX10_shrinks 10 = .ok (.iconst 2, 1) := by decide +kernel
theorem dX10_shrinks_11 : decode cX10_shrinks 11 = .ok (.idiv, 1) := by decide +kernel
theorem dX10_shrinks_12 : decode cX10_shrinks 12 = .ok (.goto 4, 3) := by decide +kernel
theorem dX10_shrinks_15 : decode cX10_shrinks 15 = .ok (.iconst 0, 1) := by decide +kernel
theorem dX10_shrinks_16 : decode cX10_shrinks 16 = .ok (.ireturn, 1) := by decide +kernel
theorem dX10_felts_0 : decode cX10_felts 0 = .ok (.iload_n 1, 1) := by decide +kernel
theorem dX10_felts_1 : decode cX10_felts 1 = .ok (.iconst 3, 1) := by decide +kernel
theorem dX10_felts_2 : decode cX10_felts 2 = .ok (.idiv, 1) := by decide +kernel
theorem dX10_felts_3 : decode cX10_felts 3 = .ok (.ireturn, 1) := by decide +kernel
theorem dX10_bears_0 : decode cX10_bears 0 = .ok (.aload_n 0, 1) := by decide +kernel
theorem dX10_bears_1 : decode cX10_bears 1 = .ok (.iload_n 1, 1) := by decide +kernel
theorem dX10_bears_2 : decode cX10_bears 2 = .ok (.iload_n 2, 1) := by decide +kernel
theorem dX10_bears_3 : decode cX10_bears 3 = .ok (.invokespecial 7, 3) := by decide +kernel
theorem dX10_bears_6 : decode cX10_bears 6 = .ok (.iload_n 1, 1) := by decide +kernel
theorem dX10_bears_7 : decode cX10_bears 7 = .ok (.iconst 4, 1) := by decide +kernel
theorem dX10_bears_8 : decode cX10_bears 8 = .ok (.idiv, 1) := by decide +kernel
theorem dX10_bears_9 : decode cX10_bears 9 = .ok (.iadd, 1) := by decide +kernel
theorem dX10_bears_10 : decode cX10_bears 10 = .ok (.ireturn, 1) := by decide +kernel
theorem dX11_init_0 : decode cX11_init 0 = .ok (.aload_n 0, 1) := by decide +kernel
theorem dX11_init_1 : decode cX11_init 1 = .ok (.invokespecial 1, 3) := by decide +kernel
theorem dX11_init_4 : decode cX11_init 4 = .ok (.invokestatic 7, 3) := by decide +kernel
theorem dX11_init_7 : decode cX11_init 7 = .ok (.astore_n 1, 1) := by decide +kernel
theorem dX11_init_8 : decode cX11_init 8 = .ok (.aload_n 0, 1) := by decide +kernel
theorem dX11_init_9 : decode cX11_init 9 = .ok (.new 13, 3) := by decide +kernel
theorem dX11_init_12 : decode cX11_init 12 = .ok (.dup, 1) := by decide +kernel
theorem dX11_init_13 : decode cX11_init 13 = .ok (.aload_n 1, 1) := by decide +kernel
theorem dX11_init_14 : decode cX11_init 14 = .ok (.invokespecial 15, 3) := by decide +kernel
theorem dX11_init_17 : decode cX11_init 17 = .ok (.putfield 18, 3) := by decide +kernel
theorem dX11_init_20 : decode cX11_init 20 = .ok (.aload_n 0, 1) := by decide +kernel
theorem dX11_init_21 : decode cX11_init 21 = .ok (.new 13, 3) := by decide +kernel
theorem dX11_init_24 : decode cX11_init 24 = .ok (.dup, 1) := by decide +kernel
theorem dX11_init_25 : decode cX11_init 25 = .ok (.aload_n 1, 1) := by decide +kernel
theorem dX11_init_26 : decode cX11_init 26 = .ok (.invokespecial 15, 3) := by decide +kernel
theorem dX11_init_29 : decode cX11_init 29 = .ok (.putfield 24, 3) := by decide +kernel
theorem dX11_init_32 : decode cX11_init 32 = .ok (.aload_n 0, 1) := by decide +kernel
theorem dX11_init_33 : decode cX11_init 33 = .ok (.new 13, 3) := by decide +kernel
theorem dX11_init_36 : decode cX11_init 36 = .ok (.dup, 1) := by decide +kernel
theorem dX11_init_37 : decode cX11_init 37 = .ok (.aload_n 1, 1) := by decide +kernel
theorem dX11_init_38 : decode cX11_init 38 = .ok (.invokespecial 15, 3) := by decide +kernel
theorem dX11_init_41 : decode cX11_init 41 = .ok (.putfield 27, 3) := by decide +kernel
theorem dX11_init_44 : decode cX11_init 44 = .ok (.aload_n 0, 1) := by decide +kernel
theorem dX11_init_45 : decode cX11_init 45 = .ok (.new 30, 3) := by decide +kernel
theorem dX11_init_48 : decode cX11_init 48 = .ok (.dup, 1) := by decide +kernel
theorem dX11_init_49 : decode cX11_init 49 = .ok (.aload_n 1, 1) := by decide +kernel
theorem dX11_init_50 : decode cX11_init 50 = .ok (.iconst 0, 1) := by decide +kernel
theorem dX11_init_51 : decode cX11_init 51 = .ok (.aaload, 1) := by decide +kernel
theorem dX11_init_52 : decode cX11_init 52 = .ok (.invokespecial 32, 3) := by decide +kernel
theorem dX11_init_55 : decode cX11_init 55 = .ok (.putfield 35, 3) := by decide +kernel
theorem dX11_init_58 : decode cX11_init 58 = .ok (.aload_n 0, 1) := by decide +kernel
theorem dX11_init_59 : decode cX11_init 59 = .ok (.new 39, 3) := by decide +kernel
theorem dX11_init_62 : decode cX11_init 62 = .ok (.dup, 1) := by decide +kernel
theorem dX11_init_63 : decode cX11_init 63 = .ok (.invokespecial 41, 3) := by decide +kernel
theorem dX11_init_66 : decode cX11_init 66 = .ok (.putfield 42, 3) := by decide +kernel
theorem dX11_init_69 : decode cX11_init 69 = .ok (.aload_n 0, 1) := by decide +kernel
theorem dX11_init_70 : decode cX11_init 70 = .ok (.iconst 4, 1) := by decide +kernel
theorem dX11_init_71 : decode cX11_init 71 = .ok (.anewarray 46, 3) := by decide +kernel
theorem dX11_init_74 : decode cX11_init 74 = .ok (.putfield 48, 3) := by decide +kernel
theorem dX11_init_77 : decode cX11_init 77 = .ok (.iconst 0, 1) := by decide +kernel
theorem dX11_init_78 : decode cX11_init 78 = .ok (.istore_n 2, 1) := by decide +kernel
theorem dX11_init_79 : decode cX11_init 79 = .ok (.iload_n 2, 1) := by decide +kernel
theorem dX11_init_80 : decode cX11_init 80 = .ok (.iconst 4, 1) := by decide +kernel
theorem dX11_init_81 : decode cX11_init 81 = .ok (.if_icmp .ge 22, 3) := by decide +kernel
theorem dX11_init_84 : decode cX11_init 84 = .ok (.aload_n 0, 1) := by decide +kernel
theorem dX11_init_85 : decode cX11_init 85 = .ok (.getfield 48, 3) := by decide +kernel
theorem dX11_init_88 : decode cX11_init 88 = .ok (.iload_n 2, 1) := by decide +kernel
theorem dX11_init_89 : decode cX11_init 89 = .ok (.new 46, 3) := by decide +kernel
theorem dX11_init_92 : decode cX11_init 92 = .ok (.dup, 1) := by decide +kernel
theorem dX11_init_93 : decode cX11_init 93 = .ok (.invokespecial 52, 3) := by decide +kernel
theorem dX11_init_96 : decode cX11_init 96 = .ok (.aastore, 1) := by decide +kernel
theorem dX11_init_97 : decode cX11_init 97 = .ok (.iinc 2 1, 3) := by decide +kernel
theorem dX11_init_100 : decode cX11_init 100 = .ok (.goto (-21), 3) := by decide +kernel
theorem dX11_init_103 : decode cX11_init 103 = .ok (.aload_n 0, 1) := by decide +kernel
theorem dX11_init_104 : decode cX11_init 104 = .ok (.bipush 7, 2) := by decide +kernel
theorem dX11_init_106 : decode cX11_init 106 = .ok (.newarray .int, 2) := by decide +kernel
theorem dX11_init_108 : decode cX11_init 108 = .ok (.putfield 53, 3) := by decide +kernel
theorem dX11_init_111 : decode cX11_init 111 = .ok (.aload_n 0, 1) := by decide +kernel
theorem dX11_init_112 : decode cX11_init 112 = .ok (.iconst 0, 1) := by decide +kernel
theorem dX11_init_113 : decode cX11_init 113 = .ok (.putfield 57, 3) := by decide +kernel
theorem dX11_init_116 : decode cX11_init 116 = .ok (.return_, 1) := by decide +kernel
theorem dX11_machine_0 : decode cX11_machine 0 = .ok (.iload_n 1, 1) := by decide +kernel
theorem dX11_machine_1 : decode cX11_machine 1 = .ok (.ifCond .ne 32, 3) := by decide +kernel
theorem dX11_machine_4 : decode cX11_machine 4 = .ok (.iload_n 2, 1) := by decide +kernel
theorem dX11_machine_5 : decode cX11_machine 5 = .ok (.bipush 20, 2) := by decide +kernel
theorem dX11_machine_7 : decode cX11_machine 7 = .ok (.bipush 95, 2) := by decide +kernel
theorem dX11_machine_9 : decode cX11_machine 9 = .ok (.invokestatic 61, 3) := by decide +kernel
theorem dX11_machine_12 : decode cX11_machine 12 = .ok (.ifCond .eq 21, 3) := by decide +kernel
theorem dX11_machine_15 : decode cX11_machine 15 = .ok (.aload_n 0, 1) := by decide +kernel
theorem dX11_machine_16 : decode cX11_machine 16 = .ok (.getfield 18, 3) := by decide +kernel
theorem dX11_machine_19 : decode cX11_machine 19 = .ok (.getfield 65, 3) := by decide +kernel
theorem dX11_machine_22 : decode cX11_machine 22 = .ok (.istore_n 3, 1) := by decide +kernel
theorem dX11_machine_23 : decode cX11_machine 23 = .ok (.aload_n 0, 1) := by decide +kernel
theorem dX11_machine_24 : decode cX11_machine 24 = .ok (.getfield 18, 3) := by decide +kernel
theorem dX11_machine_27 : decode cX11_machine 27 = .ok (.iload_n 2, 1) := by decide +kernel
theorem dX11_machine_28 : decode cX11_machine 28 = .ok (.putfield 65, 3) := by decide +kernel
theorem dX11_machine_31 : decode cX11_machine 31 = .ok (.iload_n 3, 1) := by decide +kernel
theorem dX11_machine_32 : decode cX11_machine 32 = .ok (.ireturn, 1) := by decide +kernel
theorem dX11_machine_33 : decode cX11_machine 33 = .ok (.iload_n 1, 1) := by decide +kernel
theorem dX11_machine_34 : decode cX11_machine 34 = .ok (.iconst 1, 1) := by decide +kernel
theorem dX11_machine_35 : decode cX11_machine 35 = .ok (.if_icmp .ne 30, 3) := by decide +kernel
theorem dX11_machine_38 : decode cX11_machine 38 = .ok (.iload_n 2, 1) := by decide +kernel
theorem dX11_machine_39 : decode cX11_machine 39 = .ok (.iconst 0, 1) := by decide +kernel
theorem dX11_machine_40 : decode cX11_machine 40 = .ok (.iconst 1, 1) := by decide +kernel
theorem dX11_machine_41 : decode cX11_machine 41 = .ok (.invokestatic 61, 3) := by decide +kernel
theorem dX11_machine_44 : decode cX11_machine 44 = .ok (.ifCond .eq 21, 3) := by decide +kernel
theorem dX11_machine_47 : decode cX11_machine 47 = .ok (.aload_n 0, 1) := by decide +kernel
theorem dX11_machine_48 : decode cX11_machine 48 = .ok (.getfield 18, 3) := by decide +kernel
theorem dX11_machine_51 : decode cX11_machine 51 = .ok (.getfield 69, 3) := by decide +kernel
theorem dX11_machine_54 : decode cX11_machine 54 = .ok (.istore_n 3, 1) := by decide +kernel
theorem dX11_machine_55 : decode cX11_machine 55 = .ok (.aload_n 0, 1) := by decide +kernel
theorem dX11_machine_56 : decode cX11_machine 56 = .ok (.getfield 18, 3) := by decide +kernel
theorem dX11_machine_59 : decode cX11_machine 59 = .ok (.iload_n 2, 1) := by decide +kernel
theorem dX11_machine_60 : decode cX11_machine 60 = .ok (.putfield 69, 3) := by decide +kernel
theorem dX11_machine_63 : decode cX11_machine 63 = .ok (.iload_n 3, 1) := by decide +kernel
theorem dX11_machine_64 : decode cX11_machine 64 = .ok (.ireturn, 1) := by decide +kernel
theorem dX11_machine_65 : decode cX11_machine 65 = .ok (.aload_n 0, 1) := by decide +kernel
theorem dX11_machine_66 : decode cX11_machine 66 = .ok (.ldc 72, 2) := by decide +kernel
theorem dX11_machine_68 : decode cX11_machine 68 = .ok (.invokevirtual 73, 3) := by decide +kernel
theorem dX11_machine_71 : decode cX11_machine 71 = .ok (.ireturn, 1) := by decide +kernel
theorem dX11_now_0 : decode cX11_now 0 = .ok (.iload_n 1, 1) := by decide +kernel
theorem dX11_now_1 : decode cX11_now 1 = .ok (.tableswitch 87 0 5 #[39, 47, 55, 63, 71, 79], 39) := by decide +kernel
theorem dX11_now_40 : decode cX11_now 40 = .ok (.aload_n 0, 1) := by decide +kernel
theorem dX11_now_41 : decode cX11_now 41 = .ok (.getfield 18, 3) := by decide +kernel
theorem dX11_now_44 : decode cX11_now 44 = .ok (.getfield 77, 3) := by decide +kernel
theorem dX11_now_47 : decode cX11_now 47 = .ok (.ireturn, 1) := by decide +kernel
theorem dX11_now_48 : decode cX11_now 48 = .ok (.aload_n 0, 1) := by decide +kernel
theorem dX11_now_49 : decode cX11_now 49 = .ok (.getfield 18, 3) := by decide +kernel
theorem dX11_now_52 : decode cX11_now 52 = .ok (.getfield 65, 3) := by decide +kernel
theorem dX11_now_55 : decode cX11_now 55 = .ok (.ireturn, 1) := by decide +kernel
theorem dX11_now_56 : decode cX11_now 56 = .ok (.aload_n 0, 1) := by decide +kernel
theorem dX11_now_57 : decode cX11_now 57 = .ok (.getfield 18, 3) := by decide +kernel
theorem dX11_now_60 : decode cX11_now 60 = .ok (.getfield 69, 3) := by decide +kernel
theorem dX11_now_63 : decode cX11_now 63 = .ok (.ireturn, 1) := by decide +kernel
theorem dX11_now_64 : decode cX11_now 64 = .ok (.aload_n 0, 1) := by decide +kernel
theorem dX11_now_65 : decode cX11_now 65 = .ok (.getfield 18, 3) := by decide +kernel
theorem dX11_now_68 : decode cX11_now 68 = .ok (.invokevirtual 80, 3) := by decide +kernel
theorem dX11_now_71 : decode cX11_now 71 = .ok (.ireturn, 1) := by decide +kernel
theorem dX11_now_72 : decode cX11_now 72 = .ok (.aload_n 0, 1) := by decide +kernel
theorem dX11_now_73 : decode cX11_now 73 = .ok (.getfield 18, 3) := by decide +kernel
theorem dX11_now_76 : decode cX11_now 76 = .ok (.invokevirtual 84, 3) := by decide +kernel
theorem dX11_now_79 : decode cX11_now 79 = .ok (.ireturn, 1) := by decide +kernel
theorem dX11_now_80 : decode cX11_now 80 = .ok (.aload_n 0, 1) := by decide +kernel
theorem dX11_now_81 : decode cX11_now 81 = .ok (.getfield 18, 3) := by decide +kernel
theorem dX11_now_84 : decode cX11_now 84 = .ok (.invokevirtual 87, 3) := by decide +kernel
theorem dX11_now_87 : decode cX11_now 87 = .ok (.ireturn, 1) := by decide +kernel
theorem dX11_now_88 : decode cX11_now 88 = .ok (.aload_n 0, 1) := by decide +kernel
theorem dX11_now_89 : decode cX11_now 89 = .ok (.ldc 72, 2) := by decide +kernel
theorem dX11_now_91 : decode cX11_now 91 = .ok (.invokevirtual 73, 3) := by decide +kernel
theorem dX11_now_94 : decode cX11_now 94 = .ok (.ireturn, 1) := by decide +kernel
theorem dX11_garment_0 : decode cX11_garment 0 = .ok (.iload_n 1, 1) := by decide +kernel
theorem dX11_garment_1 : decode cX11_garment 1 = .ok (.invokestatic 90, 3) := by decide +kernel
theorem dX11_garment_4 : decode cX11_garment 4 = .ok (.ifCond .ne 10, 3) := by decide +kernel
theorem dX11_garment_7 : decode cX11_garment 7 = .ok (.aload_n 0, 1) := by decide +kernel
theorem dX11_garment_8 : decode cX11_garment 8 = .ok (.ldc 72, 2) := by decide +kernel
theorem dX11_garment_10 : decode cX11_garment 10 = .ok (.invokevirtual 73, 3) := by decide +kernel
theorem dX11_garment_13 : decode cX11_garment 13 = .ok (.ireturn, 1) := by decide +kernel
theorem dX11_garment_14 : decode cX11_garment 14 = .ok (.aload_n 0, 1) := by decide +kernel
theorem dX11_garment_15 : decode cX11_garment 15 = .ok (.getfield 18, 3) := by decide +kernel
theorem dX11_garment_18 : decode cX11_garment 18 = .ok (.iload_n 1, 1) := by decide +kernel
theorem dX11_garment_19 : decode cX11_garment 19 = .ok (.invokevirtual 94, 3) := by decide +kernel
theorem dX11_garment_22 : decode cX11_garment 22 = .ok (.astore_n 2, 1) := by decide +kernel
theorem dX11_garment_23 : decode cX11_garment 23 = .ok (.aload_n 2, 1) := by decide +kernel
theorem dX11_garment_24 : decode cX11_garment 24 = .ok (.ifnonnull 12, 3) := by decide +kernel
theorem dX11_garment_27 : decode cX11_garment 27 = .ok (.aload_n 0, 1) := by decide +kernel
theorem dX11_garment_28 : decode cX11_garment 28 = .ok (.ldc 98, 2) := by decide +kernel
theorem dX11_garment_30 : decode cX11_garment 30 = .ok (.invokevirtual 73, 3) := by decide +kernel
theorem dX11_garment_33 : decode cX11_garment 33 = .ok (.goto 12, 3) := by decide +kernel
theorem dX11_garment_36 : decode cX11_garment 36 = .ok (.aload_n 0, 1) := by decide +kernel
theorem dX11_garment_37 : decode cX11_garment 37 = .ok (.getfield 18, 3) := by decide +kernel
theorem dX11_garment_40 : decode cX11_garment 40 = .ok (.getfield 99, 3) := by decide +kernel
theorem dX11_garment_43 : decode cX11_garment 43 = .ok (.iconst 1, 1) := by decide +kernel
theorem dX11_garment_44 : decode cX11_garment 44 = .ok (.isub, 1) := by decide +kernel
theorem dX11_garment_45 : decode cX11_garment 45 = .ok (.ireturn, 1) := by decide +kernel
theorem dX11_of_0 : decode cX11_of 0 = .ok (.aload_n 0, 1) := by decide +kernel
theorem dX11_of_1 : decode cX11_of 1 = .ok (.getfield 18, 3) := by decide +kernel
theorem dX11_of_4 : decode cX11_of 4 = .ok (.iload_n 1, 1) := by decide +kernel
theorem dX11_of_5 : decode cX11_of 5 = .ok (.invokevirtual 102, 3) := by decide +kernel
theorem dX11_of_8 : decode cX11_of 8 = .ok (.astore_n 3, 1) := by decide +kernel
theorem dX11_of_9 : decode cX11_of 9 = .ok (.aload_n 3, 1) := by decide +kernel
theorem dX11_of_10 : decode cX11_of 10 = .ok (.ifnonnull 10, 3) := by decide +kernel
theorem dX11_of_13 : decode cX11_of 13 = .ok (.aload_n 0, 1) := by decide +kernel
theorem dX11_of_14 : decode cX11_of 14 = .ok (.ldc 72, 2) := by decide +kernel
theorem dX11_of_16 : decode cX11_of 16 = .ok (.invokevirtual 73, 3) := by decide +kernel
theorem dX11_of_19 : decode cX11_of 19 = .ok (.ireturn, 1) := by decide +kernel
theorem dX11_of_20 : decode cX11_of 20 = .ok (.aload_n 3, 1) := by decide +kernel
theorem dX11_of_21 : decode cX11_of 21 = .ok (.getfield 105, 3) := by decide +kernel
theorem dX11_of_24 : decode cX11_of 24 = .ok (.aload_n 0, 1) := by decide +kernel
theorem dX11_of_25 : decode cX11_of 25 = .ok (.getfield 18, 3) := by decide +kernel
theorem dX11_of_28 : decode cX11_of 28 = .ok (.getfield 65, 3) := by decide +kernel
theorem dX11_of_31 : decode cX11_of 31 = .ok (.aload_n 0, 1) := by decide +kernel
theorem dX11_of_32 : decode cX11_of 32 = .ok (.getfield 18, 3) := by decide +kernel
theorem dX11_of_35 : decode cX11_of 35 = .ok (.getfield 69, 3) := by decide +kernel
theorem dX11_of_38 : decode cX11_of 38 = .ok (.invokevirtual 109, 3) := by decide +kernel
theorem dX11_of_41 : decode cX11_of 41 = .ok (.istore 4, 2) := by decide +kernel
theorem dX11_of_43 : decode cX11_of 43 = .ok (.iload_n 2, 1) := by decide +kernel
theorem dX11_of_44 : decode cX11_of 44 = .ok (.tableswitch 135 0 10 #[60, 68, 73, 78, 83, 88, 93, 98, 101, 111, 127], 60) := by decide +kernel
theorem dX11_of_104 : decode cX11_of 104 = .ok (.aload_n 3, 1) := by decide +kernel
theorem dX11_of_105 : decode cX11_of 105 = .ok (.getfield 105, 3) := by decide +kernel
theorem dX11_of_108 : decode cX11_of 108 = .ok (.getfield 113, 3) := by decide +kernel
theorem dX11_of_111 : decode cX11_of 111 = .ok (.ireturn, 1) := by decide +kernel
theorem dX11_of_112 : decode cX11_of 112 = .ok (.aload_n 3, 1) := by decide +kernel
theorem dX11_of_113 : decode cX11_of 113 = .ok (.getfield 116, 3) := by decide +kernel
theorem dX11_of_116 : decode cX11_of 116 = .ok (.ireturn, 1) := by decide +kernel
theorem dX11_of_117 : decode cX11_of 117 = .ok (.aload_n 3, 1) := by decide +kernel
theorem dX11_of_118 : decode cX11_of 118 = .ok (.getfield 119, 3) := by decide +kernel
theorem dX11_of_121 : decode cX11_of 121 = .ok (.ireturn, 1) := by decide +kernel
theorem dX11_of_122 : decode cX11_of 122 = .ok (.aload_n 3, 1) := by decide +kernel
theorem dX11_of_123 : decode cX11_of 123 = .ok (.getfield 122, 3) := by decide +kernel
theorem dX11_of_126 : decode cX11_of 126 = .ok (.ireturn, 1) := by decide +kernel
theorem dX11_of_127 : decode cX11_of 127 = .ok (.aload_n 3, 1) := by decide +kernel
theorem dX11_of_128 : decode cX11_of 128 = .ok (.getfield 125, 3) := by decide +kernel
theorem dX11_of_131 : decode cX11_of 131 = .ok (.ireturn, 1) := by decide +kernel
theorem dX11_of_132 : decode cX11_of 132 = .ok (.aload_n 3, 1) := by decide +kernel
theorem dX11_of_133 : decode cX11_of 133 = .ok (.getfield 128, 3) := by decide +kernel
theorem dX11_of_136 : decode cX11_of 136 = .ok (.ireturn, 1) := by decide +kernel
theorem dX11_of_137 : decode cX11_of 137 = .ok (.aload_n 3, 1) := by decide +kernel
theorem dX11_of_138 : decode cX11_of 138 = .ok (.getfield 131, 3) := by decide +kernel
theorem dX11_of_141 : decode cX11_of 141 = .ok (.ireturn, 1) := by decide +kernel
theorem dX11_of_142 : decode cX11_of 142 = .ok (.iload 4, 2) := by decide +kernel
theorem dX11_of_144 : decode cX11_of 144 = .ok (.ireturn, 1) := by decide +kernel
theorem dX11_of_145 : decode cX11_of 145 = .ok (.aload_n 3, 1) := by decide +kernel
theorem dX11_of_146 : decode cX11_of 146 = .ok (.getfield 105, 3) := by decide +kernel
theorem dX11_of_149 : decode cX11_of 149 = .ok (.iload 4, 2) := by decide +kernel
theorem dX11_of_151 : decode cX11_of 151 = .ok (.invokevirtual 134, 3) := by decide +kernel
theorem dX11_of_154 : decode cX11_of 154 = .ok (.ireturn, 1) := by decide +kernel
theorem dX11_of_155 : decode cX11_of 155 = .ok (.aload_n 3, 1) := by decide +kernel
theorem dX11_of_156 : decode cX11_of 156 = .ok (.getfield 105, 3) := by decide +kernel
theorem dX11_of_159 : decode cX11_of 159 = .ok (.aload_n 3, 1) := by decide +kernel
theorem dX11_of_160 : decode cX11_of 160 = .ok (.getfield 122, 3) := by decide +kernel
theorem dX11_of_163 : decode cX11_of 163 = .ok (.aload_n 3, 1) := by decide +kernel
theorem dX11_of_164 : decode cX11_of 164 = .ok (.getfield 131, 3) := by decide +kernel
theorem dX11_of_167 : decode cX11_of 167 = .ok (.invokevirtual 137, 3) := by decide +kernel
theorem dX11_of_170 : decode cX11_of 170 = .ok (.ireturn, 1) := by decide +kernel
theorem dX11_of_171 : decode cX11_of 171 = .ok (.aload_n 3, 1) := by decide +kernel
theorem dX11_of_172 : decode cX11_of 172 = .ok (.getfield 105, 3) := by decide +kernel
theorem dX11_of_175 : decode cX11_of 175 = .ok (.invokevirtual 140, 3) := by decide +kernel
theorem dX11_of_178 : decode cX11_of 178 = .ok (.ireturn, 1) := by decide +kernel
theorem dX11_of_179 : decode cX11_of 179 = .ok (.aload_n 0, 1) := by decide +kernel
theorem dX11_of_180 : decode cX11_of 180 = .ok (.ldc 72, 2) := by decide +kernel
theorem dX11_of_182 : decode cX11_of 182 = .ok (.invokevirtual 73, 3) := by decide +kernel
theorem dX11_of_185 : decode cX11_of 185 = .ok (.ireturn, 1) := by decide +kernel
theorem dX11_set_0 : decode cX11_set 0 = .ok (.aload_n 0, 1) := by decide +kernel
theorem dX11_set_1 : decode cX11_set 1 = .ok (.getfield 18, 3) := by decide +kernel
theorem dX11_set_4 : decode cX11_set 4 = .ok (.iload_n 1, 1) := by decide +kernel
theorem dX11_set_5 : decode cX11_set 5 = .ok (.invokevirtual 102, 3) := by decide +kernel
theorem dX11_set_8 : decode cX11_set 8 = .ok (.astore 4, 2) := by decide +kernel
theorem dX11_set_10 : decode cX11_set 10 = .ok (.aload 4, 2) := by decide +kernel
theorem dX11_set_12 : decode cX11_set 12 = .ok (.ifnull 11, 3) := by decide +kernel
theorem dX11_set_15 : decode cX11_set 15 = .ok (.iload_n 2, 1) := by decide +kernel
theorem dX11_set_16 : decode cX11_set 16 = .ok (.iload_n 3, 1) := by decide +kernel
theorem dX11_set_17 : decode cX11_set 17 = .ok (.invokestatic 143, 3) := by decide +kernel
theorem dX11_set_20 : decode cX11_set 20 = .ok (.ifCond .ne 10, 3) := by decide +kernel
theorem dX11_set_23 : decode cX11_set 23 = .ok (.aload_n 0, 1) := by decide +kernel
theorem dX11_set_24 : decode cX11_set 24 = .ok (.ldc 72, 2) := by decide +kernel
theorem dX11_set_26 : decode cX11_set 26 = .ok (.invokevirtual 73, 3) := by decide +kernel
theorem dX11_set_29 : decode cX11_set 29 = .ok (.ireturn, 1) := by decide +kernel
theorem dX11_set_30 : decode cX11_set 30 = .ok (.iload_n 2, 1) := by decide +kernel
theorem dX11_set_31 : decode cX11_set 31 = .ok (.tableswitch 73 1 3 #[25, 41, 57], 25) := by decide +kernel
theorem dX11_set_56 : decode cX11_set 56 = .ok (.aload 4, 2) := by decide +kernel
theorem dX11_set_58 : decode cX11_set 58 = .ok (.getfield 116, 3) := by decide +kernel
theorem dX11_set_61 : decode cX11_set 61 = .ok (.istore 5, 2) := by decide +kernel
theorem dX11_set_63 : decode cX11_set 63 = .ok (.aload 4, 2) := by decide +kernel
theorem dX11_set_65 : decode cX11_set 65 = .ok (.iload_n 3, 1) := by decide +kernel
theorem dX11_set_66 : decode cX11_set 66 = .ok (.putfield 116, 3) := by decide +kernel
theorem dX11_set_69 : decode cX11_set 69 = .ok (.iload 5, 2) := by decide +kernel
theorem dX11_set_71 : decode cX11_set 71 = .ok (.ireturn, 1) := by decide +kernel
theorem dX11_set_72 : decode cX11_set 72 = .ok (.aload 4, 2) := by decide +kernel
theorem dX11_set_74 : decode cX11_set 74 = .ok (.getfield 119, 3) := by decide +kernel
theorem dX11_set_77 : decode cX11_set 77 = .ok (.istore 5, 2) := by decide +kernel
theorem dX11_set_79 : decode cX11_set 79 = .ok (.aload 4, 2) := by decide +kernel
theorem dX11_set_81 : decode cX11_set 81 = .ok (.iload_n 3, 1) := by decide +kernel
theorem dX11_set_82 : decode cX11_set 82 = .ok (.putfield 119, 3) := by decide +kernel
theorem dX11_set_85 : decode cX11_set 85 = .ok (.iload 5, 2) := by decide +kernel
theorem dX11_set_87 : decode cX11_set 87 = .ok (.ireturn, 1) := by decide +kernel
theorem dX11_set_88 : decode cX11_set 88 = .ok (.aload 4, 2) := by decide +kernel
theorem dX11_set_90 : decode cX11_set 90 = .ok (.getfield 122, 3) := by decide +kernel
theorem dX11_set_93 : decode cX11_set 93 = .ok (.istore 5, 2) := by decide +kernel
theorem dX11_set_95 : decode cX11_set 95 = .ok (.aload 4, 2) := by decide +kernel
theorem dX11_set_97 : decode cX11_set 97 = .ok (.iload_n 3, 1) := by decide +kernel
theorem dX11_set_98 : decode cX11_set 98 = .ok (.putfield 122, 3) := by decide +kernel
theorem dX11_set_101 : decode cX11_set 101 = .ok (.iload 5, 2) := by decide +kernel
theorem dX11_set_103 : decode cX11_set 103 = .ok (.ireturn, 1) := by decide +kernel
theorem dX11_set_104 : decode cX11_set 104 = .ok (.aload 4, 2) := by decide +kernel
theorem dX11_set_106 : decode cX11_set 106 = .ok (.getfield 131, 3) := by decide +kernel
theorem dX11_set_109 : decode cX11_set 109 = .ok (.istore 5, 2) := by decide +kernel
theorem dX11_set_111 : decode cX11_set 111 = .ok (.aload 4, 2) := by decide +kernel
theorem dX11_set_113 : decode cX11_set 113 = .ok (.iload_n 3, 1) := by decide +kernel
theorem dX11_set_114 : decode cX11_set 114 = .ok (.putfield 131, 3) := by decide +kernel
theorem dX11_set_117 : decode cX11_set 117 = .ok (.iload 5, 2) := by decide +kernel
theorem dX11_set_119 : decode cX11_set 119 = .ok (.ireturn, 1) := by decide +kernel
theorem dX11_wash_0 : decode cX11_wash 0 = .ok (.aload_n 0, 1) := by decide +kernel
theorem dX11_wash_1 : decode cX11_wash 1 = .ok (.getfield 18, 3) := by decide +kernel
theorem dX11_wash_4 : decode cX11_wash 4 = .ok (.iload_n 1, 1) := by decide +kernel
theorem dX11_wash_5 : decode cX11_wash 5 = .ok (.invokevirtual 102, 3) := by decide +kernel
theorem dX11_wash_8 : decode cX11_wash 8 = .ok (.astore_n 2, 1) := by decide +kernel
theorem dX11_wash_9 : decode cX11_wash 9 = .ok (.aload_n 2, 1) := by decide +kernel
theorem dX11_wash_10 : decode cX11_wash 10 = .ok (.ifnonnull 10, 3) := by decide +kernel
theorem dX11_wash_13 : decode cX11_wash 13 = .ok (.aload_n 0, 1) := by decide +kernel
theorem dX11_wash_14 : decode cX11_wash 14 = .ok (.ldc 72, 2) := by decide +kernel
theorem dX11_wash_16 : decode cX11_wash 16 = .ok (.invokevirtual 73, 3) := by decide +kernel
theorem dX11_wash_19 : decode cX11_wash 19 = .ok (.ireturn, 1) := by decide +kernel
theorem dX11_wash_20 : decode cX11_wash 20 = .ok (.aload_n 2, 1) := by decide +kernel
theorem dX11_wash_21 : decode cX11_wash 21 = .ok (.aload_n 0, 1) := by decide +kernel
theorem dX11_wash_22 : decode cX11_wash 22 = .ok (.getfield 18, 3) := by decide +kernel
theorem dX11_wash_25 : decode cX11_wash 25 = .ok (.getfield 65, 3) := by decide +kernel
theorem dX11_wash_28 : decode cX11_wash 28 = .ok (.aload_n 0, 1) := by decide +kernel
theorem dX11_wash_29 : decode cX11_wash 29 = .ok (.getfield 18, 3) := by decide +kernel
theorem dX11_wash_32 : decode cX11_wash 32 = .ok (.getfield 69, 3) := by decide +kernel
theorem dX11_wash_35 : decode cX11_wash 35 = .ok (.invokevirtual 147, 3) := by decide +kernel
theorem dX11_wash_38 : decode cX11_wash 38 = .ok (.aload_n 2, 1) := by decide +kernel
theorem dX11_wash_39 : decode cX11_wash 39 = .ok (.getfield 116, 3) := by decide +kernel
theorem dX11_wash_42 : decode cX11_wash 42 = .ok (.ireturn, 1) := by decide +kernel
theorem dX11_draw_0 : decode cX11_draw 0 = .ok (.aload_n 0, 1) := by decide +kernel
theorem dX11_draw_1 : decode cX11_draw 1 = .ok (.getfield 18, 3) := by decide +kernel
theorem dX11_draw_4 : decode cX11_draw 4 = .ok (.iload_n 1, 1) := by decide +kernel
theorem dX11_draw_5 : decode cX11_draw 5 = .ok (.invokevirtual 102, 3) := by decide +kernel
theorem dX11_draw_8 : decode cX11_draw 8 = .ok (.astore_n 3, 1) := by decide +kernel
theorem dX11_draw_9 : decode cX11_draw 9 = .ok (.aload_n 3, 1) := by decide +kernel
theorem dX11_draw_10 : decode cX11_draw 10 = .ok (.ifnull 13, 3) := by decide +kernel
theorem dX11_draw_13 : decode cX11_draw 13 = .ok (.iload_n 2, 1) := by decide +kernel
theorem dX11_draw_14 : decode cX11_draw 14 = .ok (.iconst 1, 1) := by decide +kernel
theorem dX11_draw_15 : decode cX11_draw 15 = .ok (.bipush 50, 2) := by decide +kernel
theorem dX11_draw_17 : decode cX11_draw 17 = .ok (.invokestatic 61, 3) := by decide +kernel
theorem dX11_draw_20 : decode cX11_draw 20 = .ok (.ifCond .ne 10, 3) := by decide +kernel
theorem dX11_draw_23 : decode cX11_draw 23 = .ok (.aload_n 0, 1) := by decide +kernel
theorem dX11_draw_24 : decode cX11_draw 24 = .ok (.ldc 72, 2) := by decide +kernel
theorem dX11_draw_26 : decode cX11_draw 26 = .ok (.invokevirtual 73, 3) := by decide +kernel
theorem dX11_draw_29 : decode cX11_draw 29 = .ok (.ireturn, 1) := by decide +kernel
theorem dX11_draw_30 : decode cX11_draw 30 = .ok (.aload_n 3, 1) := by decide +kernel
theorem dX11_draw_31 : decode cX11_draw 31 = .ok (.getfield 125, 3) := by decide +kernel
theorem dX11_draw_34 : decode cX11_draw 34 = .ok (.ifCond .ne 10, 3) := by decide +kernel
theorem dX11_draw_37 : decode cX11_draw 37 = .ok (.aload_n 0, 1) := by decide +kernel
theorem dX11_draw_38 : decode cX11_draw 38 = .ok (.ldc 151, 2) := by decide +kernel
theorem dX11_draw_40 : decode cX11_draw 40 = .ok (.invokevirtual 73, 3) := by decide +kernel
theorem dX11_draw_43 : decode cX11_draw 43 = .ok (.ireturn, 1) := by decide +kernel
theorem dX11_draw_44 : decode cX11_draw 44 = .ok (.aload_n 3, 1) := by decide +kernel
theorem dX11_draw_45 : decode cX11_draw 45 = .ok (.iload_n 2, 1) := by decide +kernel
theorem dX11_draw_46 : decode cX11_draw 46 = .ok (.invokevirtual 152, 3) := by decide +kernel
theorem dX11_draw_49 : decode cX11_draw 49 = .ok (.aload_n 3, 1) := by decide +kernel
theorem dX11_draw_50 : decode cX11_draw 50 = .ok (.getfield 116, 3) := by decide +kernel
theorem dX11_draw_53 : decode cX11_draw 53 = .ok (.ireturn, 1) := by decide +kernel
theorem dX11_turn_0 : decode cX11_turn 0 = .ok (.aload_n 0, 1) := by decide +kernel
theorem dX11_turn_1 : decode cX11_turn 1 = .ok (.getfield 18, 3) := by decide +kernel
theorem dX11_turn_4 : decode cX11_turn 4 = .ok (.iload_n 1, 1) := by decide +kernel
theorem dX11_turn_5 : decode cX11_turn 5 = .ok (.invokevirtual 102, 3) := by decide +kernel
theorem dX11_turn_8 : decode cX11_turn 8 = .ok (.astore_n 3, 1) := by decide +kernel
theorem dX11_turn_9 : decode cX11_turn 9 = .ok (.aload_n 0, 1) := by decide +kernel
theorem dX11_turn_10 : decode cX11_turn 10 = .ok (.getfield 18, 3) := by decide +kernel
theorem dX11_turn_13 : decode cX11_turn 13 = .ok (.iload_n 2, 1) := by decide +kernel
theorem dX11_turn_14 : decode cX11_turn 14 = .ok (.invokevirtual 156, 3) := by decide +kernel
theorem dX11_turn_17 : decode cX11_turn 17 = .ok (.astore 4, 2) := by decide +kernel
theorem dX11_turn_19 : decode cX11_turn 19 = .ok (.aload_n 3, 1) := by decide +kernel
theorem dX11_turn_20 : decode cX11_turn 20 = .ok (.ifnull 8, 3) := by decide +kernel
theorem dX11_turn_23 : decode cX11_turn 23 = .ok (.aload 4, 2) := by decide +kernel
theorem dX11_turn_25 : decode cX11_turn 25 = .ok (.ifnonnull 10, 3) := by decide +kernel
theorem dX11_turn_28 : decode cX11_turn 28 = .ok (.aload_n 0, 1) := by decide +kernel
theorem dX11_turn_29 : decode cX11_turn 29 = .ok (.ldc 72, 2) := by decide +kernel
theorem dX11_turn_31 : decode cX11_turn 31 = .ok (.invokevirtual 73, 3) := by decide +kernel
theorem dX11_turn_34 : decode cX11_turn 34 = .ok (.ireturn, 1) := by decide +kernel
theorem dX11_turn_35 : decode cX11_turn 35 = .ok (.aload_n 3, 1) := by decide +kernel
theorem dX11_turn_36 : decode cX11_turn 36 = .ok (.getfield 105, 3) := by decide +kernel
theorem dX11_turn_39 : decode cX11_turn 39 = .ok (.getfield 113, 3) := by decide +kernel
theorem dX11_turn_42 : decode cX11_turn 42 = .ok (.istore 5, 2) := by decide +kernel
theorem dX11_turn_44 : decode cX11_turn 44 = .ok (.aload_n 3, 1) := by decide +kernel
theorem dX11_turn_45 : decode cX11_turn 45 = .ok (.aload 4, 2) := by decide +kernel
theorem dX11_turn_47 : decode cX11_turn 47 = .ok (.putfield 105, 3) := by decide +kernel
theorem dX11_turn_50 : decode cX11_turn 50 = .ok (.iload 5, 2) := by decide +kernel
theorem dX11_turn_52 : decode cX11_turn 52 = .ok (.ireturn, 1) := by decide +kernel
theorem dX11_as_0 : decode cX11_as 0 = .ok (.aload_n 0, 1) := by decide +kernel
theorem dX11_as_1 : decode cX11_as 1 = .ok (.getfield 18, 3) := by decide +kernel
theorem dX11_as_4 : decode cX11_as 4 = .ok (.iload_n 1, 1) := by decide +kernel
theorem dX11_as_5 : decode cX11_as 5 = .ok (.invokevirtual 102, 3) := by decide +kernel
theorem dX11_as_8 : decode cX11_as 8 = .ok (.astore_n 3, 1) := by decide +kernel
theorem dX11_as_9 : decode cX11_as 9 = .ok (.aload_n 3, 1) := by decide +kernel
theorem dX11_as_10 : decode cX11_as 10 = .ok (.ifnull 10, 3) := by decide +kernel
theorem dX11_as_13 : decode cX11_as 13 = .ok (.iload_n 2, 1) := by decide +kernel
theorem dX11_as_14 : decode cX11_as 14 = .ok (.invokestatic 90, 3) := by decide +kernel
theorem dX11_as_17 : decode cX11_as 17 = .ok (.ifCond .ne 10, 3) := by decide +kernel
theorem dX11_as_20 : decode cX11_as 20 = .ok (.aload_n 0, 1) := by decide +kernel
theorem dX11_as_21 : decode cX11_as 21 = .ok (.ldc 72, 2) := by decide +kernel
theorem dX11_as_23 : decode cX11_as 23 = .ok (.invokevirtual 73, 3) := by decide +kernel
theorem dX11_as_26 : decode cX11_as 26 = .ok (.ireturn, 1) := by decide +kernel
theorem dX11_as_27 : decode cX11_as 27 = .ok (.aload_n 3, 1) := by decide +kernel
theorem dX11_as_28 : decode cX11_as 28 = .ok (.getfield 105, 3) := by decide +kernel
theorem dX11_as_31 : decode cX11_as 31 = .ok (.iload_n 2, 1) := by decide +kernel
theorem dX11_as_32 : decode cX11_as 32 = .ok (.invokevirtual 160, 3) := by decide +kernel
theorem dX11_as_35 : decode cX11_as 35 = .ok (.ifCond .eq 10, 3) := by decide +kernel
theorem dX11_as_38 : decode cX11_as 38 = .ok (.aload_n 3, 1) := by decide +kernel
theorem dX11_as_39 : decode cX11_as 39 = .ok (.getfield 122, 3) := by decide +kernel
theorem dX11_as_42 : decode cX11_as 42 = .ok (.goto 9, 3) := by decide +kernel
theorem dX11_as_45 : decode cX11_as 45 = .ok (.aload_n 0, 1) := by decide +kernel
theorem dX11_as_46 : decode cX11_as 46 = .ok (.ldc 163, 2) := by decide +kernel
theorem dX11_as_48 : decode cX11_as 48 = .ok (.invokevirtual 73, 3) := by decide +kernel
theorem dX11_as_51 : decode cX11_as 51 = .ok (.ireturn, 1) := by decide +kernel
theorem dX11_person_0 : decode cX11_person 0 = .ok (.iload_n 1, 1) := by decide +kernel
theorem dX11_person_1 : decode cX11_person 1 = .ok (.invokestatic 164, 3) := by decide +kernel
theorem dX11_person_4 : decode cX11_person 4 = .ok (.ifCond .eq 10, 3) := by decide +kernel
theorem dX11_person_7 : decode cX11_person 7 = .ok (.iload_n 2, 1) := by decide +kernel
theorem dX11_person_8 : decode cX11_person 8 = .ok (.invokestatic 164, 3) := by decide +kernel
theorem dX11_person_11 : decode cX11_person 11 = .ok (.ifCond .ne 10, 3) := by decide +kernel
theorem dX11_person_14 : decode cX11_person 14 = .ok (.aload_n 0, 1) := by decide +kernel
theorem dX11_person_15 : decode cX11_person 15 = .ok (.ldc 72, 2) := by decide +kernel
theorem dX11_person_17 : decode cX11_person 17 = .ok (.invokevirtual 73, 3) := by decide +kernel
theorem dX11_person_20 : decode cX11_person 20 = .ok (.ireturn, 1) := by decide +kernel
theorem dX11_person_21 : decode cX11_person 21 = .ok (.aload_n 0, 1) := by decide +kernel
theorem dX11_person_22 : decode cX11_person 22 = .ok (.getfield 18, 3) := by decide +kernel
theorem dX11_person_25 : decode cX11_person 25 = .ok (.iload_n 1, 1) := by decide +kernel
theorem dX11_person_26 : decode cX11_person 26 = .ok (.iload_n 2, 1) := by decide +kernel
theorem dX11_person_27 : decode cX11_person 27 = .ok (.invokevirtual 167, 3) := by decide +kernel
theorem dX11_person_30 : decode cX11_person 30 = .ok (.astore_n 3, 1) := by decide +kernel
theorem dX11_person_31 : decode cX11_person 31 = .ok (.aload_n 3, 1) := by decide +kernel
theorem dX11_person_32 : decode cX11_person 32 = .ok (.ifnonnull 12, 3) := by decide +kernel
theorem dX11_person_35 : decode cX11_person 35 = .ok (.aload_n 0, 1) := by decide +kernel
theorem dX11_person_36 : decode cX11_person 36 = .ok (.ldc 98, 2) := by decide +kernel
theorem dX11_person_38 : decode cX11_person 38 = .ok (.invokevirtual 73, 3) := by decide +kernel
theorem dX11_person_41 : decode cX11_person 41 = .ok (.goto 12, 3) := by decide +kernel
theorem dX11_person_44 : decode cX11_person 44 = .ok (.aload_n 0, 1) := by decide +kernel
theorem dX11_person_45 : decode cX11_person 45 = .ok (.getfield 18, 3) := by decide +kernel
theorem dX11_person_48 : decode cX11_person 48 = .ok (.getfield 171, 3) := by decide +kernel
theorem dX11_person_51 : decode cX11_person 51 = .ok (.iconst 1, 1) := by decide +kernel
theorem dX11_person_52 : decode cX11_person 52 = .ok (.isub, 1) := by decide +kernel
theorem dX11_person_53 : decode cX11_person 53 = .ok (.ireturn, 1) := by decide +kernel
theorem dX11_size_0 : decode cX11_size 0 = .ok (.aload_n 0, 1) := by decide +kernel
theorem dX11_size_1 : decode cX11_size 1 = .ok (.getfield 18, 3) := by decide +kernel
theorem dX11_size_4 : decode cX11_size 4 = .ok (.iload_n 1, 1) := by decide +kernel
theorem dX11_size_5 : decode cX11_size 5 = .ok (.invokevirtual 174, 3) := by decide +kernel
theorem dX11_size_8 : decode cX11_size 8 = .ok (.astore_n 3, 1) := by decide +kernel
theorem dX11_size_9 : decode cX11_size 9 = .ok (.aload_n 3, 1) := by decide +kernel
theorem dX11_size_10 : decode cX11_size 10 = .ok (.ifnull 12, 3) := by decide +kernel
theorem dX11_size_13 : decode cX11_size 13 = .ok (.iload_n 2, 1) := by decide +kernel
theorem dX11_size_14 : decode cX11_size 14 = .ok (.iconst 0, 1) := by decide +kernel
theorem dX11_size_15 : decode cX11_size 15 = .ok (.iconst 1, 1) := by decide +kernel
theorem dX11_size_16 : decode cX11_size 16 = .ok (.invokestatic 61, 3) := by decide +kernel
theorem dX11_size_19 : decode cX11_size 19 = .ok (.ifCond .ne 10, 3) := by decide +kernel
theorem dX11_size_22 : decode cX11_size 22 = .ok (.aload_n 0, 1) := by decide +kernel
theorem dX11_size_23 : decode cX11_size 23 = .ok (.ldc 72, 2) := by decide +kernel
theorem dX11_size_25 : decode cX11_size 25 = .ok (.invokevirtual 73, 3) := by decide +kernel
theorem dX11_size_28 : decode cX11_size 28 = .ok (.ireturn, 1) := by decide +kernel
theorem dX11_size_29 : decode cX11_size 29 = .ok (.iload_n 2, 1) := by decide +kernel
theorem dX11_size_30 : decode cX11_size 30 = .ok (.ifCond .ne 10, 3) := by decide +kernel
theorem dX11_size_33 : decode cX11_size 33 = .ok (.aload_n 3, 1) := by decide +kernel
theorem dX11_size_34 : decode cX11_size 34 = .ok (.getfield 178, 3) := by decide +kernel
theorem dX11_size_37 : decode cX11_size 37 = .ok (.goto 7, 3) := by decide +kernel
theorem dX11_size_40 : decode cX11_size 40 = .ok (.aload_n 3, 1) := by decide +kernel
theorem dX11_size_41 : decode cX11_size 41 = .ok (.getfield 181, 3) := by decide +kernel
theorem dX11_size_44 : decode cX11_size 44 = .ok (.ireturn, 1) := by decide +kernel
theorem dX11_fits_0 : decode cX11_fits 0 = .ok (.aload_n 0, 1) := by decide +kernel
theorem dX11_fits_1 : decode cX11_fits 1 = .ok (.getfield 18, 3) := by decide +kernel
theorem dX11_fits_4 : decode cX11_fits 4 = .ok (.iload_n 1, 1) := by decide +kernel
theorem dX11_fits_5 : decode cX11_fits 5 = .ok (.invokevirtual 174, 3) := by decide +kernel
theorem dX11_fits_8 : decode cX11_fits 8 = .ok (.astore_n 2, 1) := by decide +kernel
theorem dX11_fits_9 : decode cX11_fits 9 = .ok (.aload_n 2, 1) := by decide +kernel
theorem dX11_fits_10 : decode cX11_fits 10 = .ok (.ifnonnull 12, 3) := by decide +kernel
theorem dX11_fits_13 : decode cX11_fits 13 = .ok (.aload_n 0, 1) := by decide +kernel
theorem dX11_fits_14 : decode cX11_fits 14 = .ok (.ldc 72, 2) := by decide +kernel
theorem dX11_fits_16 : decode cX11_fits 16 = .ok (.invokevirtual 73, 3) := by decide +kernel
theorem dX11_fits_19 : decode cX11_fits 19 = .ok (.goto 11, 3) := by decide +kernel
theorem dX11_fits_22 : decode cX11_fits 22 = .ok (.aload_n 0, 1) := by decide +kernel
theorem dX11_fits_23 : decode cX11_fits 23 = .ok (.getfield 18, 3) := by decide +kernel
theorem dX11_fits_26 : decode cX11_fits 26 = .ok (.aload_n 2, 1) := by decide +kernel
theorem dX11_fits_27 : decode cX11_fits 27 = .ok (.invokevirtual 182, 3) := by decide +kernel
theorem dX11_fits_30 : decode cX11_fits 30 = .ok (.ireturn, 1) := by decide +kernel
theorem dX11_days_0 : decode cX11_days 0 = .ok (.iload_n 1, 1) := by decide +kernel
theorem dX11_days_1 : decode cX11_days 1 = .ok (.iconst 1, 1) := by decide +kernel
theorem dX11_days_2 : decode cX11_days 2 = .ok (.bipush 100, 2) := by decide +kernel
theorem dX11_days_4 : decode cX11_days 4 = .ok (.invokestatic 61, 3) := by decide +kernel
theorem dX11_days_7 : decode cX11_days 7 = .ok (.ifCond .ne 10, 3) := by decide +kernel
theorem dX11_days_10 : decode cX11_days 10 = .ok (.aload_n 0, 1) := by decide +kernel
theorem dX11_days_11 : decode cX11_days 11 = .ok (.ldc 72, 2) := by decide +kernel
theorem dX11_days_13 : decode cX11_days 13 = .ok (.invokevirtual 73, 3) := by decide +kernel
theorem dX11_days_16 : decode cX11_days 16 = .ok (.ireturn, 1) := by decide +kernel
theorem dX11_days_17 : decode cX11_days 17 = .ok (.aload_n 0, 1) := by decide +kernel
theorem dX11_days_18 : decode cX11_days 18 = .ok (.getfield 18, 3) := by decide +kernel
theorem dX11_days_21 : decode cX11_days 21 = .ok (.getfield 77, 3) := by decide +kernel
theorem dX11_days_24 : decode cX11_days 24 = .ok (.ldc 186, 2) := by decide +kernel
theorem dX11_days_26 : decode cX11_days 26 = .ok (.iload_n 1, 1) := by decide +kernel
theorem dX11_days_27 : decode cX11_days 27 = .ok (.isub, 1) := by decide +kernel
theorem dX11_days_28 : decode cX11_days 28 = .ok (.if_icmp .le 10, 3) := by decide +kernel
theorem dX11_days_31 : decode cX11_days 31 = .ok (.aload_n 0, 1) := by decide +kernel
theorem dX11_days_32 : decode cX11_days 32 = .ok (.ldc 151, 2) := by decide +kernel
theorem dX11_days_34 : decode cX11_days 34 = .ok (.invokevirtual 73, 3) := by decide +kernel
theorem dX11_days_37 : decode cX11_days 37 = .ok (.ireturn, 1) := by decide +kernel
theorem dX11_days_38 : decode cX11_days 38 = .ok (.aload_n 0, 1) := by decide +kernel
theorem dX11_days_39 : decode cX11_days 39 = .ok (.getfield 18, 3) := by decide +kernel
theorem dX11_days_42 : decode cX11_days 42 = .ok (.iload_n 1, 1) := by decide +kernel
theorem dX11_days_43 : decode cX11_days 43 = .ok (.invokevirtual 187, 3) := by decide +kernel
theorem dX11_days_46 : decode cX11_days 46 = .ok (.aload_n 0, 1) := by decide +kernel
theorem dX11_days_47 : decode cX11_days 47 = .ok (.getfield 18, 3) := by decide +kernel
theorem dX11_days_50 : decode cX11_days 50 = .ok (.invokevirtual 80, 3) := by decide +kernel
theorem dX11_days_53 : decode cX11_days 53 = .ok (.ireturn, 1) := by decide +kernel
theorem dX11_on_0 : decode cX11_on 0 = .ok (.aload_n 0, 1) := by decide +kernel
theorem dX11_on_1 : decode cX11_on 1 = .ok (.getfield 18, 3) := by decide +kernel
theorem dX11_on_4 : decode cX11_on 4 = .ok (.iload_n 1, 1) := by decide +kernel
theorem dX11_on_5 : decode cX11_on 5 = .ok (.invokevirtual 102, 3) := by decide +kernel
theorem dX11_on_8 : decode cX11_on 8 = .ok (.astore 4, 2) := by decide +kernel
theorem dX11_on_10 : decode cX11_on 10 = .ok (.aload 4, 2) := by decide +kernel
theorem dX11_on_12 : decode cX11_on 12 = .ok (.ifnull 13, 3) := by decide +kernel
theorem dX11_on_15 : decode cX11_on 15 = .ok (.iload_n 2, 1) := by decide +kernel
theorem dX11_on_16 : decode cX11_on 16 = .ok (.iconst 0, 1) := by decide +kernel
theorem dX11_on_17 : decode cX11_on 17 = .ok (.bipush 100, 2) := by decide +kernel
theorem dX11_on_19 : decode cX11_on 19 = .ok (.invokestatic 61, 3) := by decide +kernel
theorem dX11_on_22 : decode cX11_on 22 = .ok (.ifCond .ne 10, 3) := by decide +kernel
theorem dX11_on_25 : decode cX11_on 25 = .ok (.aload_n 0, 1) := by decide +kernel
theorem dX11_on_26 : decode cX11_on 26 = .ok (.ldc 72, 2) := by decide +kernel
theorem dX11_on_28 : decode cX11_on 28 = .ok (.invokevirtual 73, 3) := by decide +kernel
theorem dX11_on_31 : decode cX11_on 31 = .ok (.ireturn, 1) := by decide +kernel
theorem dX11_on_32 : decode cX11_on 32 = .ok (.aload_n 0, 1) := by decide +kernel
theorem dX11_on_33 : decode cX11_on 33 = .ok (.getfield 35, 3) := by decide +kernel
theorem dX11_on_36 : decode cX11_on 36 = .ok (.aload 4, 2) := by decide +kernel
theorem dX11_on_38 : decode cX11_on 38 = .ok (.invokevirtual 190, 3) := by decide +kernel
theorem dX11_on_41 : decode cX11_on 41 = .ok (.aload_n 0, 1) := by decide +kernel
theorem dX11_on_42 : decode cX11_on 42 = .ok (.getfield 35, 3) := by decide +kernel
theorem dX11_on_45 : decode cX11_on 45 = .ok (.iload_n 2, 1) := by decide +kernel
theorem dX11_on_46 : decode cX11_on 46 = .ok (.invokevirtual 194, 3) := by decide +kernel
theorem dX11_on_49 : decode cX11_on 49 = .ok (.iload_n 3, 1) := by decide +kernel
theorem dX11_on_50 : decode cX11_on 50 = .ok (.tableswitch 50 0 2 #[26, 34, 42], 26) := by decide +kernel
theorem dX11_on_76 : decode cX11_on 76 = .ok (.aload_n 0, 1) := by decide +kernel
theorem dX11_on_77 : decode cX11_on 77 = .ok (.getfield 35, 3) := by decide +kernel
theorem dX11_on_80 : decode cX11_on 80 = .ok (.getfield 116, 3) := by decide +kernel
theorem dX11_on_83 : decode cX11_on 83 = .ok (.ireturn, 1) := by decide +kernel
theorem dX11_on_84 : decode cX11_on 84 = .ok (.aload_n 0, 1) := by decide +kernel
theorem dX11_on_85 : decode cX11_on 85 = .ok (.getfield 35, 3) := by decide +kernel
theorem dX11_on_88 : decode cX11_on 88 = .ok (.getfield 119, 3) := by decide +kernel
theorem dX11_on_91 : decode cX11_on 91 = .ok (.ireturn, 1) := by decide +kernel
theorem dX11_on_92 : decode cX11_on 92 = .ok (.aload_n 0, 1) := by decide +kernel
theorem dX11_on_93 : decode cX11_on 93 = .ok (.getfield 35, 3) := by decide +kernel
theorem dX11_on_96 : decode cX11_on 96 = .ok (.getfield 125, 3) := by decide +kernel
theorem dX11_on_99 : decode cX11_on 99 = .ok (.ireturn, 1) := by decide +kernel
theorem dX11_on_100 : decode cX11_on 100 = .ok (.aload_n 0, 1) := by decide +kernel
theorem dX11_on_101 : decode cX11_on 101 = .ok (.ldc 72, 2) := by decide +kernel
theorem dX11_on_103 : decode cX11_on 103 = .ok (.invokevirtual 73, 3) := by decide +kernel
theorem dX11_on_106 : decode cX11_on 106 = .ok (.ireturn, 1) := by decide +kernel
theorem dX11_again_0 : decode cX11_again 0 = .ok (.aload_n 0, 1) := by decide +kernel
theorem dX11_again_1 : decode cX11_again 1 = .ok (.getfield 18, 3) := by decide +kernel
theorem dX11_again_4 : decode cX11_again 4 = .ok (.iload_n 1, 1) := by decide +kernel
theorem dX11_again_5 : decode cX11_again 5 = .ok (.invokevirtual 102, 3) := by decide +kernel
theorem dX11_again_8 : decode cX11_again 8 = .ok (.astore 4, 2) := by decide +kernel
theorem dX11_again_10 : decode cX11_again 10 = .ok (.aload 4, 2) := by decide +kernel
theorem dX11_again_12 : decode cX11_again 12 = .ok (.ifnull 13, 3) := by decide +kernel
theorem dX11_again_15 : decode cX11_again 15 = .ok (.iload_n 2, 1) := by decide +kernel
theorem dX11_again_16 : decode cX11_again 16 = .ok (.iconst 0, 1) := by decide +kernel
theorem dX11_again_17 : decode cX11_again 17 = .ok (.bipush 40, 2) := by decide +kernel
theorem dX11_again_19 : decode cX11_again 19 = .ok (.invokestatic 61, 3) := by decide +kernel
theorem dX11_again_22 : decode cX11_again 22 = .ok (.ifCond .ne 10, 3) := by decide +kernel
theorem dX11_again_25 : decode cX11_again 25 = .ok (.aload_n 0, 1) := by decide +kernel
theorem dX11_again_26 : decode cX11_again 26 = .ok (.ldc 72, 2) := by decide +kernel
theorem dX11_again_28 : decode cX11_again 28 = .ok (.invokevirtual 73, 3) := by decide +kernel
theorem dX11_again_31 : decode cX11_again 31 = .ok (.ireturn, 1) := by decide +kernel
theorem dX11_again_32 : decode cX11_again 32 = .ok (.aload_n 0, 1) := by decide +kernel
theorem dX11_again_33 : decode cX11_again 33 = .ok (.aload 4, 2) := by decide +kernel
theorem dX11_again_35 : decode cX11_again 35 = .ok (.iload_n 2, 1) := by decide +kernel
theorem dX11_again_36 : decode cX11_again 36 = .ok (.invokevirtual 197, 3) := by decide +kernel
theorem dX11_again_39 : decode cX11_again 39 = .ok (.iload_n 3, 1) := by decide +kernel
theorem dX11_again_40 : decode cX11_again 40 = .ok (.tableswitch 52 0 2 #[28, 36, 44], 28) := by decide +kernel
theorem dX11_again_68 : decode cX11_again 68 = .ok (.aload_n 0, 1) := by decide +kernel
theorem dX11_again_69 : decode cX11_again 69 = .ok (.getfield 35, 3) := by decide +kernel
theorem dX11_again_72 : decode cX11_again 72 = .ok (.getfield 116, 3) := by decide +kernel
theorem dX11_again_75 : decode cX11_again 75 = .ok (.ireturn, 1) := by decide +kernel
theorem dX11_again_76 : decode cX11_again 76 = .ok (.aload_n 0, 1) := by decide +kernel
theorem dX11_again_77 : decode cX11_again 77 = .ok (.getfield 35, 3) := by decide +kernel
theorem dX11_again_80 : decode cX11_again 80 = .ok (.getfield 119, 3) := by decide +kernel
theorem dX11_again_83 : decode cX11_again 83 = .ok (.ireturn, 1) := by decide +kernel
theorem dX11_again_84 : decode cX11_again 84 = .ok (.aload_n 0, 1) := by decide +kernel
theorem dX11_again_85 : decode cX11_again 85 = .ok (.getfield 35, 3) := by decide +kernel
theorem dX11_again_88 : decode cX11_again 88 = .ok (.getfield 122, 3) := by decide +kernel
theorem dX11_again_91 : decode cX11_again 91 = .ok (.ireturn, 1) := by decide +kernel
theorem dX11_again_92 : decode cX11_again 92 = .ok (.aload_n 0, 1) := by decide +kernel
theorem dX11_again_93 : decode cX11_again 93 = .ok (.ldc 72, 2) := by decide +kernel
theorem dX11_again_95 : decode cX11_again 95 = .ok (.invokevirtual 73, 3) := by decide +kernel
theorem dX11_again_98 : decode cX11_again 98 = .ok (.ireturn, 1) := by decide +kernel
theorem dX11_washes_0 : decode cX11_washes 0 = .ok (.aload_n 0, 1) := by decide +kernel
theorem dX11_washes_1 : decode cX11_washes 1 = .ok (.getfield 18, 3) := by decide +kernel
theorem dX11_washes_4 : decode cX11_washes 4 = .ok (.iload_n 1, 1) := by decide +kernel
theorem dX11_washes_5 : decode cX11_washes 5 = .ok (.invokevirtual 102, 3) := by decide +kernel
theorem dX11_washes_8 : decode cX11_washes 8 = .ok (.astore_n 3, 1) := by decide +kernel
theorem dX11_washes_9 : decode cX11_washes 9 = .ok (.aload_n 0, 1) := by decide +kernel
theorem dX11_washes_10 : decode cX11_washes 10 = .ok (.getfield 18, 3) := by decide +kernel
theorem dX11_washes_13 : decode cX11_washes 13 = .ok (.iload_n 2, 1) := by decide +kernel
theorem dX11_washes_14 : decode cX11_washes 14 = .ok (.invokevirtual 174, 3) := by decide +kernel
theorem dX11_washes_17 : decode cX11_washes 17 = .ok (.astore 4, 2) := by decide +kernel
theorem dX11_washes_19 : decode cX11_washes 19 = .ok (.aload_n 3, 1) := by decide +kernel
theorem dX11_washes_20 : decode cX11_washes 20 = .ok (.ifnull 8, 3) := by decide +kernel
theorem dX11_washes_23 : decode cX11_washes 23 = .ok (.aload 4, 2) := by decide +kernel
theorem dX11_washes_25 : decode cX11_washes 25 = .ok (.ifnonnull 10, 3) := by decide +kernel
theorem dX11_washes_28 : decode cX11_washes 28 = .ok (.aload_n 0, 1) := by decide +kernel
theorem dX11_washes_29 : decode cX11_washes 29 = .ok (.ldc 72, 2) := by decide +kernel
theorem dX11_washes_31 : decode cX11_washes 31 = .ok (.invokevirtual 73, 3) := by decide +kernel
theorem dX11_washes_34 : decode cX11_washes 34 = .ok (.ireturn, 1) := by decide +kernel
theorem dX11_washes_35 : decode cX11_washes 35 = .ok (.iconst 1, 1) := by decide +kernel
theorem dX11_washes_36 : decode cX11_washes 36 = .ok (.istore 5, 2) := by decide +kernel
theorem dX11_washes_38 : decode cX11_washes 38 = .ok (.iload 5, 2) := by decide +kernel
theorem dX11_washes_40 : decode cX11_washes 40 = .ok (.bipush 40, 2) := by decide +kernel
theorem dX11_washes_42 : decode cX11_washes 42 = .ok (.if_icmp .gt 32, 3) := by decide +kernel
theorem dX11_washes_45 : decode cX11_washes 45 = .ok (.aload_n 0, 1) := by decide +kernel
theorem dX11_washes_46 : decode cX11_washes 46 = .ok (.aload_n 3, 1) := by decide +kernel
theorem dX11_washes_47 : decode cX11_washes 47 = .ok (.aload 4, 2) := by decide +kernel
theorem dX11_washes_49 : decode cX11_washes 49 = .ok (.iload 5, 2) := by decide +kernel
theorem dX11_washes_51 : decode cX11_washes 51 = .ok (.aload_n 0, 1) := by decide +kernel
theorem dX11_washes_52 : decode cX11_washes 52 = .ok (.getfield 18, 3) := by decide +kernel
theorem dX11_washes_55 : decode cX11_washes 55 = .ok (.getfield 65, 3) := by decide +kernel
theorem dX11_washes_58 : decode cX11_washes 58 = .ok (.iconst 0, 1) := by decide +kernel
theorem dX11_washes_59 : decode cX11_washes 59 = .ok (.invokevirtual 201, 3) := by decide +kernel
theorem dX11_washes_62 : decode cX11_washes 62 = .ok (.ifCond .eq 6, 3) := by decide +kernel
theorem dX11_washes_65 : decode cX11_washes 65 = .ok (.iload 5, 2) := by decide +kernel
theorem dX11_washes_67 : decode cX11_washes 67 = .ok (.ireturn, 1) := by decide +kernel
theorem dX11_washes_68 : decode cX11_washes 68 = .ok (.iinc 5 1, 3) := by decide +kernel
theorem dX11_washes_71 : decode cX11_washes 71 = .ok (.goto (-33), 3) := by decide +kernel
theorem dX11_washes_74 : decode cX11_washes 74 = .ok (.aload_n 0, 1) := by decide +kernel
theorem dX11_washes_75 : decode cX11_washes 75 = .ok (.ldc 205, 2) := by decide +kernel
theorem dX11_washes_77 : decode cX11_washes 77 = .ok (.invokevirtual 73, 3) := by decide +kernel
theorem dX11_washes_80 : decode cX11_washes 80 = .ok (.ireturn, 1) := by decide +kernel
theorem dX11_warmest_0 : decode cX11_warmest 0 = .ok (.aload_n 0, 1) := by decide +kernel
theorem dX11_warmest_1 : decode cX11_warmest 1 = .ok (.getfield 18, 3) := by decide +kernel
theorem dX11_warmest_4 : decode cX11_warmest 4 = .ok (.iload_n 1, 1) := by decide +kernel
theorem dX11_warmest_5 : decode cX11_warmest 5 = .ok (.invokevirtual 102, 3) := by decide +kernel
theorem dX11_warmest_8 : decode cX11_warmest 8 = .ok (.astore_n 3, 1) := by decide +kernel
theorem dX11_warmest_9 : decode cX11_warmest 9 = .ok (.aload_n 0, 1) := by decide +kernel
theorem dX11_warmest_10 : decode cX11_warmest 10 = .ok (.getfield 18, 3) := by decide +kernel
theorem dX11_warmest_13 : decode cX11_warmest 13 = .ok (.iload_n 2, 1) := by decide +kernel
theorem dX11_warmest_14 : decode cX11_warmest 14 = .ok (.invokevirtual 174, 3) := by decide +kernel
theorem dX11_warmest_17 : decode cX11_warmest 17 = .ok (.astore 4, 2) := by decide +kernel
theorem dX11_warmest_19 : decode cX11_warmest 19 = .ok (.aload_n 3, 1) := by decide +kernel
theorem dX11_warmest_20 : decode cX11_warmest 20 = .ok (.ifnull 8, 3) := by decide +kernel
theorem dX11_warmest_23 : decode cX11_warmest 23 = .ok (.aload 4, 2) := by decide +kernel
theorem dX11_warmest_25 : decode cX11_warmest 25 = .ok (.ifnonnull 10, 3) := by decide +kernel
theorem dX11_warmest_28 : decode cX11_warmest 28 = .ok (.aload_n 0, 1) := by decide +kernel
theorem dX11_warmest_29 : decode cX11_warmest 29 = .ok (.ldc 72, 2) := by decide +kernel
theorem dX11_warmest_31 : decode cX11_warmest 31 = .ok (.invokevirtual 73, 3) := by decide +kernel
theorem dX11_warmest_34 : decode cX11_warmest 34 = .ok (.ireturn, 1) := by decide +kernel
theorem dX11_warmest_35 : decode cX11_warmest 35 = .ok (.bipush 95, 2) := by decide +kernel
theorem dX11_warmest_37 : decode cX11_warmest 37 = .ok (.istore 5, 2) := by decide +kernel
theorem dX11_warmest_39 : decode cX11_warmest 39 = .ok (.iload 5, 2) := by decide +kernel
theorem dX11_warmest_41 : decode cX11_warmest 41 = .ok (.bipush 20, 2) := by decide +kernel
theorem dX11_warmest_43 : decode cX11_warmest 43 = .ok (.if_icmp .lt 26, 3) := by decide +kernel
theorem dX11_warmest_46 : decode cX11_warmest 46 = .ok (.aload_n 0, 1) := by decide +kernel
theorem dX11_warmest_47 : decode cX11_warmest 47 = .ok (.aload_n 3, 1) := by decide +kernel
theorem dX11_warmest_48 : decode cX11_warmest 48 = .ok (.aload 4, 2) := by decide +kernel
theorem dX11_warmest_50 : decode cX11_warmest 50 = .ok (.iconst 1, 1) := by decide +kernel
theorem dX11_warmest_51 : decode cX11_warmest 51 = .ok (.iload 5, 2) := by decide +kernel
theorem dX11_warmest_53 : decode cX11_warmest 53 = .ok (.iconst 0, 1) := by decide +kernel
theorem dX11_warmest_54 : decode cX11_warmest 54 = .ok (.invokevirtual 201, 3) := by decide +kernel
theorem dX11_warmest_57 : decode cX11_warmest 57 = .ok (.ifCond .eq 6, 3) := by decide +kernel
theorem dX11_warmest_60 : decode cX11_warmest 60 = .ok (.iload 5, 2) := by decide +kernel
theorem dX11_warmest_62 : decode cX11_warmest 62 = .ok (.ireturn, 1) := by decide +kernel
theorem dX11_warmest_63 : decode cX11_warmest 63 = .ok (.iinc 5 (-1), 3) := by decide +kernel
theorem dX11_warmest_66 : decode cX11_warmest 66 = .ok (.goto (-27), 3) := by decide +kernel
theorem dX11_warmest_69 : decode cX11_warmest 69 = .ok (.aload_n 0, 1) := by decide +kernel
theorem dX11_warmest_70 : decode cX11_warmest 70 = .ok (.ldc 205, 2) := by decide +kernel
theorem dX11_warmest_72 : decode cX11_warmest 72 = .ok (.invokevirtual 73, 3) := by decide +kernel
theorem dX11_warmest_75 : decode cX11_warmest 75 = .ok (.ireturn, 1) := by decide +kernel
theorem dX11_pull_0 : decode cX11_pull 0 = .ok (.aload_n 0, 1) := by decide +kernel
theorem dX11_pull_1 : decode cX11_pull 1 = .ok (.getfield 18, 3) := by decide +kernel
theorem dX11_pull_4 : decode cX11_pull 4 = .ok (.iload_n 1, 1) := by decide +kernel
theorem dX11_pull_5 : decode cX11_pull 5 = .ok (.invokevirtual 102, 3) := by decide +kernel
theorem dX11_pull_8 : decode cX11_pull 8 = .ok (.astore_n 3, 1) := by decide +kernel
theorem dX11_pull_9 : decode cX11_pull 9 = .ok (.aload_n 0, 1) := by decide +kernel
theorem dX11_pull_10 : decode cX11_pull 10 = .ok (.getfield 18, 3) := by decide +kernel
theorem dX11_pull_13 : decode cX11_pull 13 = .ok (.iload_n 2, 1) := by decide +kernel
theorem dX11_pull_14 : decode cX11_pull 14 = .ok (.invokevirtual 174, 3) := by decide +kernel
theorem dX11_pull_17 : decode cX11_pull 17 = .ok (.astore 4, 2) := by decide +kernel
theorem dX11_pull_19 : decode cX11_pull 19 = .ok (.aload_n 3, 1) := by decide +kernel
theorem dX11_pull_20 : decode cX11_pull 20 = .ok (.ifnull 8, 3) := by decide +kernel
theorem dX11_pull_23 : decode cX11_pull 23 = .ok (.aload 4, 2) := by decide +kernel
theorem dX11_pull_25 : decode cX11_pull 25 = .ok (.ifnonnull 10, 3) := by decide +kernel
theorem dX11_pull_28 : decode cX11_pull 28 = .ok (.aload_n 0, 1) := by decide +kernel
theorem dX11_pull_29 : decode cX11_pull 29 = .ok (.ldc 72, 2) := by decide +kernel
theorem dX11_pull_31 : decode cX11_pull 31 = .ok (.invokevirtual 73, 3) := by decide +kernel
theorem dX11_pull_34 : decode cX11_pull 34 = .ok (.ireturn, 1) := by decide +kernel
theorem dX11_pull_35 : decode cX11_pull 35 = .ok (.iconst 0, 1) := by decide +kernel
theorem dX11_pull_36 : decode cX11_pull 36 = .ok (.istore 5, 2) := by decide +kernel
theorem dX11_pull_38 : decode cX11_pull 38 = .ok (.iload 5, 2) := by decide +kernel
theorem dX11_pull_40 : decode cX11_pull 40 = .ok (.bipush 50, 2) := by decide +kernel
theorem dX11_pull_42 : decode cX11_pull 42 = .ok (.if_icmp .gt 32, 3) := by decide +kernel
theorem dX11_pull_45 : decode cX11_pull 45 = .ok (.aload_n 0, 1) := by decide +kernel
theorem dX11_pull_46 : decode cX11_pull 46 = .ok (.aload_n 3, 1) := by decide +kernel
theorem dX11_pull_47 : decode cX11_pull 47 = .ok (.aload 4, 2) := by decide +kernel
theorem dX11_pull_49 : decode cX11_pull 49 = .ok (.iconst 1, 1) := by decide +kernel
theorem dX11_pull_50 : decode cX11_pull 50 = .ok (.aload_n 0, 1) := by decide +kernel
theorem dX11_pull_51 : decode cX11_pull 51 = .ok (.getfield 18, 3) := by decide +kernel
theorem dX11_pull_54 : decode cX11_pull 54 = .ok (.getfield 65, 3) := by decide +kernel
theorem dX11_pull_57 : decode cX11_pull 57 = .ok (.iload 5, 2) := by decide +kernel
theorem dX11_pull_59 : decode cX11_pull 59 = .ok (.invokevirtual 201, 3) := by decide +kernel
theorem dX11_pull_62 : decode cX11_pull 62 = .ok (.ifCond .eq 6, 3) := by decide +kernel
theorem dX11_pull_65 : decode cX11_pull 65 = .ok (.iload 5, 2) := by decide +kernel
theorem dX11_pull_67 : decode cX11_pull 67 = .ok (.ireturn, 1) := by decide +kernel
theorem dX11_pull_68 : decode cX11_pull 68 = .ok (.iinc 5 1, 3) := by decide +kernel
theorem dX11_pull_71 : decode cX11_pull 71 = .ok (.goto (-33), 3) := by decide +kernel
theorem dX11_pull_74 : decode cX11_pull 74 = .ok (.aload_n 0, 1) := by decide +kernel
theorem dX11_pull_75 : decode cX11_pull 75 = .ok (.ldc 205, 2) := by decide +kernel
theorem dX11_pull_77 : decode cX11_pull 77 = .ok (.invokevirtual 73, 3) := by decide +kernel
theorem dX11_pull_80 : decode cX11_pull 80 = .ok (.ireturn, 1) := by decide +kernel
theorem dX11_kind_0 : decode cX11_kind 0 = .ok (.aload_n 0, 1) := by decide +kernel
theorem dX11_kind_1 : decode cX11_kind 1 = .ok (.getfield 18, 3) := by decide +kernel
theorem dX11_kind_4 : decode cX11_kind 4 = .ok (.iload_n 1, 1) := by decide +kernel
theorem dX11_kind_5 : decode cX11_kind 5 = .ok (.invokevirtual 102, 3) := by decide +kernel
theorem dX11_kind_8 : decode cX11_kind 8 = .ok (.astore_n 3, 1) := by decide +kernel
theorem dX11_kind_9 : decode cX11_kind 9 = .ok (.aload_n 3, 1) := by decide +kernel
theorem dX11_kind_10 : decode cX11_kind 10 = .ok (.ifnull 13, 3) := by decide +kernel
theorem dX11_kind_13 : decode cX11_kind 13 = .ok (.iload_n 2, 1) := by decide +kernel
theorem dX11_kind_14 : decode cX11_kind 14 = .ok (.iconst 1, 1) := by decide +kernel
theorem dX11_kind_15 : decode cX11_kind 15 = .ok (.bipush 40, 2) := by decide +kernel
theorem dX11_kind_17 : decode cX11_kind 17 = .ok (.invokestatic 61, 3) := by decide +kernel
theorem dX11_kind_20 : decode cX11_kind 20 = .ok (.ifCond .ne 10, 3) := by decide +kernel
theorem dX11_kind_23 : decode cX11_kind 23 = .ok (.aload_n 0, 1) := by decide +kernel
theorem dX11_kind_24 : decode cX11_kind 24 = .ok (.ldc 72, 2) := by decide +kernel
theorem dX11_kind_26 : decode cX11_kind 26 = .ok (.invokevirtual 73, 3) := by decide +kernel
theorem dX11_kind_29 : decode cX11_kind 29 = .ok (.ireturn, 1) := by decide +kernel
theorem dX11_kind_30 : decode cX11_kind 30 = .ok (.iconst 0, 1) := by decide +kernel
theorem dX11_kind_31 : decode cX11_kind 31 = .ok (.istore 4, 2) := by decide +kernel
theorem dX11_kind_33 : decode cX11_kind 33 = .ok (.iconst (-1), 1) := by decide +kernel
theorem dX11_kind_34 : decode cX11_kind 34 = .ok (.istore 5, 2) := by decide +kernel
theorem dX11_kind_36 : decode cX11_kind 36 = .ok (.iconst 0, 1) := by decide +kernel
theorem dX11_kind_37 : decode cX11_kind 37 = .ok (.istore 6, 2) := by decide +kernel
theorem dX11_kind_39 : decode cX11_kind 39 = .ok (.iload 6, 2) := by decide +kernel
theorem dX11_kind_41 : decode cX11_kind 41 = .ok (.bipush 6, 2) := by decide +kernel
theorem dX11_kind_43 : decode cX11_kind 43 = .ok (.if_icmp .ge 66, 3) := by decide +kernel
theorem dX11_kind_46 : decode cX11_kind 46 = .ok (.aload_n 0, 1) := by decide +kernel
theorem dX11_kind_47 : decode cX11_kind 47 = .ok (.aload_n 3, 1) := by decide +kernel
theorem dX11_kind_48 : decode cX11_kind 48 = .ok (.iload 6, 2) := by decide +kernel
theorem dX11_kind_50 : decode cX11_kind 50 = .ok (.invokevirtual 206, 3) := by decide +kernel
theorem dX11_kind_53 : decode cX11_kind 53 = .ok (.ifCond .eq 50, 3) := by decide +kernel
theorem dX11_kind_56 : decode cX11_kind 56 = .ok (.aload_n 0, 1) := by decide +kernel
theorem dX11_kind_57 : decode cX11_kind 57 = .ok (.getfield 35, 3) := by decide +kernel
theorem dX11_kind_60 : decode cX11_kind 60 = .ok (.iload_n 2, 1) := by decide +kernel
theorem dX11_kind_61 : decode cX11_kind 61 = .ok (.aload_n 0, 1) := by decide +kernel
theorem dX11_kind_62 : decode cX11_kind 62 = .ok (.getfield 18, 3) := by decide +kernel
theorem dX11_kind_65 : decode cX11_kind 65 = .ok (.getfield 65, 3) := by decide +kernel
theorem dX11_kind_68 : decode cX11_kind 68 = .ok (.aload_n 0, 1) := by decide +kernel
theorem dX11_kind_69 : decode cX11_kind 69 = .ok (.getfield 18, 3) := by decide +kernel
theorem dX11_kind_72 : decode cX11_kind 72 = .ok (.getfield 69, 3) := by decide +kernel
theorem dX11_kind_75 : decode cX11_kind 75 = .ok (.invokevirtual 210, 3) := by decide +kernel
theorem dX11_kind_78 : decode cX11_kind 78 = .ok (.aload_n 0, 1) := by decide +kernel
theorem dX11_kind_79 : decode cX11_kind 79 = .ok (.getfield 35, 3) := by decide +kernel
theorem dX11_kind_82 : decode cX11_kind 82 = .ok (.getfield 116, 3) := by decide +kernel
theorem dX11_kind_85 : decode cX11_kind 85 = .ok (.iload 5, 2) := by decide +kernel
theorem dX11_kind_87 : decode cX11_kind 87 = .ok (.if_icmp .le 16, 3) := by decide +kernel
theorem dX11_kind_90 : decode cX11_kind 90 = .ok (.aload_n 0, 1) := by decide +kernel
theorem dX11_kind_91 : decode cX11_kind 91 = .ok (.getfield 35, 3) := by decide +kernel
theorem dX11_kind_94 : decode cX11_kind 94 = .ok (.getfield 116, 3) := by decide +kernel
theorem dX11_kind_97 : decode cX11_kind 97 = .ok (.istore 5, 2) := by decide +kernel
theorem dX11_kind_99 : decode cX11_kind 99 = .ok (.iload 6, 2) := by decide +kernel
theorem dX11_kind_101 : decode cX11_kind 101 = .ok (.istore 4, 2) := by decide +kernel
theorem dX11_kind_103 : decode cX11_kind 103 = .ok (.iinc 6 1, 3) := by decide +kernel
theorem dX11_kind_106 : decode cX11_kind 106 = .ok (.goto (-67), 3) := by decide +kernel
theorem dX11_kind_109 : decode cX11_kind 109 = .ok (.iload 4, 2) := by decide +kernel
theorem dX11_kind_111 : decode cX11_kind 111 = .ok (.ireturn, 1) := by decide +kernel
theorem dX11_dressed_0 : decode cX11_dressed 0 = .ok (.iload_n 1, 1) := by decide +kernel
theorem dX11_dressed_1 : decode cX11_dressed 1 = .ok (.iconst 0, 1) := by decide +kernel
theorem dX11_dressed_2 : decode cX11_dressed 2 = .ok (.bipush 100, 2) := by decide +kernel
theorem dX11_dressed_4 : decode cX11_dressed 4 = .ok (.invokestatic 61, 3) := by decide +kernel
theorem dX11_dressed_7 : decode cX11_dressed 7 = .ok (.ifCond .ne 10, 3) := by decide +kernel
theorem dX11_dressed_10 : decode cX11_dressed 10 = .ok (.aload_n 0, 1) := by decide +kernel
theorem dX11_dressed_11 : decode cX11_dressed 11 = .ok (.ldc 72, 2) := by decide +kernel
theorem dX11_dressed_13 : decode cX11_dressed 13 = .ok (.invokevirtual 73, 3) := by decide +kernel
theorem dX11_dressed_16 : decode cX11_dressed 16 = .ok (.ireturn, 1) := by decide +kernel
theorem dX11_dressed_17 : decode cX11_dressed 17 = .ok (.aload_n 0, 1) := by decide +kernel
theorem dX11_dressed_18 : decode cX11_dressed 18 = .ok (.getfield 18, 3) := by decide +kernel
theorem dX11_dressed_21 : decode cX11_dressed 21 = .ok (.getfield 171, 3) := by decide +kernel
theorem dX11_dressed_24 : decode cX11_dressed 24 = .ok (.ifCond .ne 10, 3) := by decide +kernel
theorem dX11_dressed_27 : decode cX11_dressed 27 = .ok (.aload_n 0, 1) := by decide +kernel
theorem dX11_dressed_28 : decode cX11_dressed 28 = .ok (.ldc 205, 2) := by decide +kernel
theorem dX11_dressed_30 : decode cX11_dressed 30 = .ok (.invokevirtual 73, 3) := by decide +kernel
theorem dX11_dressed_33 : decode cX11_dressed 33 = .ok (.ireturn, 1) := by decide +kernel
theorem dX11_dressed_34 : decode cX11_dressed 34 = .ok (.aload_n 0, 1) := by decide +kernel
theorem dX11_dressed_35 : decode cX11_dressed 35 = .ok (.getfield 27, 3) := by decide +kernel
theorem dX11_dressed_38 : decode cX11_dressed 38 = .ok (.aload_n 0, 1) := by decide +kernel
theorem dX11_dressed_39 : decode cX11_dressed 39 = .ok (.getfield 18, 3) := by decide +kernel
theorem dX11_dressed_42 : decode cX11_dressed 42 = .ok (.invokevirtual 214, 3) := by decide +kernel
theorem dX11_dressed_45 : decode cX11_dressed 45 = .ok (.aload_n 0, 1) := by decide +kernel
theorem dX11_dressed_46 : decode cX11_dressed 46 = .ok (.getfield 27, 3) := by decide +kernel
theorem dX11_dressed_49 : decode cX11_dressed 49 = .ok (.iload_n 1, 1) := by decide +kernel
theorem dX11_dressed_50 : decode cX11_dressed 50 = .ok (.invokevirtual 187, 3) := by decide +kernel
theorem dX11_dressed_53 : decode cX11_dressed 53 = .ok (.aload_n 0, 1) := by decide +kernel
theorem dX11_dressed_54 : decode cX11_dressed 54 = .ok (.getfield 27, 3) := by decide +kernel
theorem dX11_dressed_57 : decode cX11_dressed 57 = .ok (.invokevirtual 217, 3) := by decide +kernel
theorem dX11_dressed_60 : decode cX11_dressed 60 = .ok (.ireturn, 1) := by decide +kernel
theorem dX11_shortest_0 : decode cX11_shortest 0 = .ok (.iload_n 1, 1) := by decide +kernel
theorem dX11_shortest_1 : decode cX11_shortest 1 = .ok (.iconst 0, 1) := by decide +kernel
theorem dX11_shortest_2 : decode cX11_shortest 2 = .ok (.bipush 40, 2) := by decide +kernel
theorem dX11_shortest_4 : decode cX11_shortest 4 = .ok (.invokestatic 61, 3) := by decide +kernel
theorem dX11_shortest_7 : decode cX11_shortest 7 = .ok (.ifCond .ne 10, 3) := by decide +kernel
theorem dX11_shortest_10 : decode cX11_shortest 10 = .ok (.aload_n 0, 1) := by decide +kernel
theorem dX11_shortest_11 : decode cX11_shortest 11 = .ok (.ldc 72, 2) := by decide +kernel
theorem dX11_shortest_13 : decode cX11_shortest 13 = .ok (.invokevirtual 73, 3) := by decide +kernel
theorem dX11_shortest_16 : decode cX11_shortest 16 = .ok (.ireturn, 1) := by decide +kernel
theorem dX11_shortest_17 : decode cX11_shortest 17 = .ok (.iconst (-1), 1) := by decide +kernel
theorem dX11_shortest_18 : decode cX11_shortest 18 = .ok (.istore_n 2, 1) := by decide +kernel
theorem dX11_shortest_19 : decode cX11_shortest 19 = .ok (.sipush 201, 3) := by decide +kernel
theorem dX11_shortest_22 : decode cX11_shortest 22 = .ok (.istore_n 3, 1) := by decide +kernel
theorem dX11_shortest_23 : decode cX11_shortest 23 = .ok (.iconst 0, 1) := by decide +kernel
theorem dX11_shortest_24 : decode cX11_shortest 24 = .ok (.istore 4, 2) := by decide +kernel
theorem dX11_shortest_26 : decode cX11_shortest 26 = .ok (.iload 4, 2) := by decide +kernel
theorem dX11_shortest_28 : decode cX11_shortest 28 = .ok (.aload_n 0, 1) := by decide +kernel
theorem dX11_shortest_29 : decode cX11_shortest 29 = .ok (.getfield 18, 3) := by decide +kernel
theorem dX11_shortest_32 : decode cX11_shortest 32 = .ok (.getfield 99, 3) := by decide +kernel
theorem dX11_shortest_35 : decode cX11_shortest 35 = .ok (.if_icmp .ge 54, 3) := by decide +kernel
theorem dX11_shortest_38 : decode cX11_shortest 38 = .ok (.aload_n 0, 1) := by decide +kernel
theorem dX11_shortest_39 : decode cX11_shortest 39 = .ok (.getfield 18, 3) := by decide +kernel
theorem dX11_shortest_42 : decode cX11_shortest 42 = .ok (.iload 4, 2) := by decide +kernel
theorem dX11_shortest_44 : decode cX11_shortest 44 = .ok (.invokevirtual 102, 3) := by decide +kernel
theorem dX11_shortest_47 : decode cX11_shortest 47 = .ok (.astore 5, 2) := by decide +kernel
theorem dX11_shortest_49 : decode cX11_shortest 49 = .ok (.aload 5, 2) := by decide +kernel
theorem dX11_shortest_51 : decode cX11_shortest 51 = .ok (.ifnull 32, 3) := by decide +kernel
theorem dX11_shortest_54 : decode cX11_shortest 54 = .ok (.aload_n 0, 1) := by decide +kernel
theorem dX11_shortest_55 : decode cX11_shortest 55 = .ok (.aload 5, 2) := by decide +kernel
theorem dX11_shortest_57 : decode cX11_shortest 57 = .ok (.iload_n 1, 1) := by decide +kernel
theorem dX11_shortest_58 : decode cX11_shortest 58 = .ok (.invokevirtual 197, 3) := by decide +kernel
theorem dX11_shortest_61 : decode cX11_shortest 61 = .ok (.aload_n 0, 1) := by decide +kernel
theorem dX11_shortest_62 : decode cX11_shortest 62 = .ok (.getfield 35, 3) := by decide +kernel
theorem dX11_shortest_65 : decode cX11_shortest 65 = .ok (.getfield 116, 3) := by decide +kernel
theorem dX11_shortest_68 : decode cX11_shortest 68 = .ok (.iload_n 3, 1) := by decide +kernel
theorem dX11_shortest_69 : decode cX11_shortest 69 = .ok (.if_icmp .ge 14, 3) := by decide +kernel
theorem dX11_shortest_72 : decode cX11_shortest 72 = .ok (.aload_n 0, 1) := by decide +kernel
theorem dX11_shortest_73 : decode cX11_shortest 73 = .ok (.getfield 35, 3) := by decide +kernel
theorem dX11_shortest_76 : decode cX11_shortest 76 = .ok (.getfield 116, 3) := by decide +kernel
theorem dX11_shortest_79 : decode cX11_shortest 79 = .ok (.istore_n 3, 1) := by decide +kernel
theorem dX11_shortest_80 : decode cX11_shortest 80 = .ok (.iload 4, 2) := by decide +kernel
theorem dX11_shortest_82 : decode cX11_shortest 82 = .ok (.istore_n 2, 1) := by decide +kernel
theorem dX11_shortest_83 : decode cX11_shortest 83 = .ok (.iinc 4 1, 3) := by decide +kernel
theorem dX11_shortest_86 : decode cX11_shortest 86 = .ok (.goto (-60), 3) := by decide +kernel
theorem dX11_shortest_89 : decode cX11_shortest 89 = .ok (.iload_n 2, 1) := by decide +kernel
theorem dX11_shortest_90 : decode cX11_shortest 90 = .ok (.ifCond .ge 12, 3) := by decide +kernel
theorem dX11_shortest_93 : decode cX11_shortest 93 = .ok (.aload_n 0, 1) := by decide +kernel
theorem dX11_shortest_94 : decode cX11_shortest 94 = .ok (.ldc 205, 2) := by decide +kernel
theorem dX11_shortest_96 : decode cX11_shortest 96 = .ok (.invokevirtual 73, 3) := by decide +kernel
theorem dX11_shortest_99 : decode cX11_shortest 99 = .ok (.goto 4, 3) := by decide +kernel
theorem dX11_shortest_102 : decode cX11_shortest 102 = .ok (.iload_n 2, 1) := by decide +kernel
theorem dX11_shortest_103 : decode cX11_shortest 103 = .ok (.ireturn, 1) := by decide +kernel
theorem dX11_feed_0 : decode cX11_feed 0 = .ok (.iload_n 2, 1) := by decide +kernel
theorem dX11_feed_1 : decode cX11_feed 1 = .ok (.iconst 1, 1) := by decide +kernel
theorem dX11_feed_2 : decode cX11_feed 2 = .ok (.iconst 4, 1) := by decide +kernel
theorem dX11_feed_3 : decode cX11_feed 3 = .ok (.invokestatic 61, 3) := by decide +kernel
theorem dX11_feed_6 : decode cX11_feed 6 = .ok (.ifCond .ne 10, 3) := by decide +kernel
theorem dX11_feed_9 : decode cX11_feed 9 = .ok (.aload_n 0, 1) := by decide +kernel
theorem dX11_feed_10 : decode cX11_feed 10 = .ok (.ldc 72, 2) := by decide +kernel
theorem dX11_feed_12 : decode cX11_feed 12 = .ok (.invokevirtual 73, 3) := by decide +kernel
theorem dX11_feed_15 : decode cX11_feed 15 = .ok (.ireturn, 1) := by decide +kernel
theorem dX11_feed_16 : decode cX11_feed 16 = .ok (.aload_n 0, 1) := by decide +kernel
theorem dX11_feed_17 : decode cX11_feed 17 = .ok (.getfield 42, 3) := by decide +kernel
theorem dX11_feed_20 : decode cX11_feed 20 = .ok (.getfield 220, 3) := by decide +kernel
theorem dX11_feed_23 : decode cX11_feed 23 = .ok (.bipush 120, 2) := by decide +kernel
theorem dX11_feed_25 : decode cX11_feed 25 = .ok (.iload_n 2, 1) := by decide +kernel
theorem dX11_feed_26 : decode cX11_feed 26 = .ok (.isub, 1) := by decide +kernel
theorem dX11_feed_27 : decode cX11_feed 27 = .ok (.if_icmp .le 10, 3) := by decide +kernel
theorem dX11_feed_30 : decode cX11_feed 30 = .ok (.aload_n 0, 1) := by decide +kernel
theorem dX11_feed_31 : decode cX11_feed 31 = .ok (.ldc 98, 2) := by decide +kernel
theorem dX11_feed_33 : decode cX11_feed 33 = .ok (.invokevirtual 73, 3) := by decide +kernel
theorem dX11_feed_36 : decode cX11_feed 36 = .ok (.ireturn, 1) := by decide +kernel
theorem dX11_feed_37 : decode cX11_feed 37 = .ok (.iload_n 2, 1) := by decide +kernel
theorem dX11_feed_38 : decode cX11_feed 38 = .ok (.iconst 1, 1) := by decide +kernel
theorem dX11_feed_39 : decode cX11_feed 39 = .ok (.isub, 1) := by decide +kernel
theorem dX11_feed_40 : decode cX11_feed 40 = .ok (.istore_n 3, 1) := by decide +kernel
theorem dX11_feed_41 : decode cX11_feed 41 = .ok (.iload_n 3, 1) := by decide +kernel
theorem dX11_feed_42 : decode cX11_feed 42 = .ok (.ifCond .lt 23, 3) := by decide +kernel
theorem dX11_feed_45 : decode cX11_feed 45 = .ok (.aload_n 0, 1) := by decide +kernel
theorem dX11_feed_46 : decode cX11_feed 46 = .ok (.getfield 42, 3) := by decide +kernel
theorem dX11_feed_49 : decode cX11_feed 49 = .ok (.iload_n 1, 1) := by decide +kernel
theorem dX11_feed_50 : decode cX11_feed 50 = .ok (.bipush 8, 2) := by decide +kernel
theorem dX11_feed_52 : decode cX11_feed 52 = .ok (.iload_n 3, 1) := by decide +kernel
theorem dX11_feed_53 : decode cX11_feed 53 = .ok (.imul, 1) := by decide +kernel
theorem dX11_feed_54 : decode cX11_feed 54 = .ok (.ishr, 1) := by decide +kernel
theorem dX11_feed_55 : decode cX11_feed 55 = .ok (.i2b, 1) := by decide +kernel
theorem dX11_feed_56 : decode cX11_feed 56 = .ok (.invokevirtual 223, 3) := by decide +kernel
theorem dX11_feed_59 : decode cX11_feed 59 = .ok (.iinc 3 (-1), 3) := by decide +kernel
theorem dX11_feed_62 : decode cX11_feed 62 = .ok (.goto (-21), 3) := by decide +kernel
theorem dX11_feed_65 : decode cX11_feed 65 = .ok (.aload_n 0, 1) := by decide +kernel
theorem dX11_feed_66 : decode cX11_feed 66 = .ok (.getfield 42, 3) := by decide +kernel
theorem dX11_feed_69 : decode cX11_feed 69 = .ok (.getfield 220, 3) := by decide +kernel
theorem dX11_feed_72 : decode cX11_feed 72 = .ok (.ireturn, 1) := by decide +kernel
theorem dX11_wipe_0 : decode cX11_wipe 0 = .ok (.aload_n 0, 1) := by decide +kernel
theorem dX11_wipe_1 : decode cX11_wipe 1 = .ok (.getfield 42, 3) := by decide +kernel
theorem dX11_wipe_4 : decode cX11_wipe 4 = .ok (.invokevirtual 227, 3) := by decide +kernel
theorem dX11_wipe_7 : decode cX11_wipe 7 = .ok (.ireturn, 1) := by decide +kernel
theorem dX11_basket_0 : decode cX11_basket 0 = .ok (.aload_n 0, 1) := by decide +kernel
theorem dX11_basket_1 : decode cX11_basket 1 = .ok (.getfield 27, 3) := by decide +kernel
theorem dX11_basket_4 : decode cX11_basket 4 = .ok (.aload_n 0, 1) := by decide +kernel
theorem dX11_basket_5 : decode cX11_basket 5 = .ok (.getfield 18, 3) := by decide +kernel
theorem dX11_basket_8 : decode cX11_basket 8 = .ok (.invokevirtual 214, 3) := by decide +kernel
theorem dX11_basket_11 : decode cX11_basket 11 = .ok (.aload_n 0, 1) := by decide +kernel
theorem dX11_basket_12 : decode cX11_basket 12 = .ok (.getfield 42, 3) := by decide +kernel
theorem dX11_basket_15 : decode cX11_basket 15 = .ok (.aload_n 0, 1) := by decide +kernel
theorem dX11_basket_16 : decode cX11_basket 16 = .ok (.getfield 27, 3) := by decide +kernel
theorem dX11_basket_19 : decode cX11_basket 19 = .ok (.invokevirtual 230, 3) := by decide +kernel
theorem dX11_basket_22 : decode cX11_basket 22 = .ok (.istore_n 1, 1) := by decide +kernel
theorem dX11_basket_23 : decode cX11_basket 23 = .ok (.aload_n 0, 1) := by decide +kernel
theorem dX11_basket_24 : decode cX11_basket 24 = .ok (.getfield 42, 3) := by decide +kernel
theorem dX11_basket_27 : decode cX11_basket 27 = .ok (.invokevirtual 227, 3) := by decide +kernel
theorem dX11_basket_30 : decode cX11_basket 30 = .ok (.pop, 1) := by decide +kernel
theorem dX11_basket_31 : decode cX11_basket 31 = .ok (.iload_n 1, 1) := by decide +kernel
theorem dX11_basket_32 : decode cX11_basket 32 = .ok (.ifCond .lt 14, 3) := by decide +kernel
theorem dX11_basket_35 : decode cX11_basket 35 = .ok (.aload_n 0, 1) := by decide +kernel
theorem dX11_basket_36 : decode cX11_basket 36 = .ok (.getfield 18, 3) := by decide +kernel
theorem dX11_basket_39 : decode cX11_basket 39 = .ok (.aload_n 0, 1) := by decide +kernel
theorem dX11_basket_40 : decode cX11_basket 40 = .ok (.getfield 27, 3) := by decide +kernel
theorem dX11_basket_43 : decode cX11_basket 43 = .ok (.invokevirtual 214, 3) := by decide +kernel
theorem dX11_basket_46 : decode cX11_basket 46 = .ok (.iload_n 1, 1) := by decide +kernel
theorem dX11_basket_47 : decode cX11_basket 47 = .ok (.ireturn, 1) := by decide +kernel
theorem dX11_sheet_0 : decode cX11_sheet 0 = .ok (.aload_n 0, 1) := by decide +kernel
theorem dX11_sheet_1 : decode cX11_sheet 1 = .ok (.iload_n 1, 1) := by decide +kernel
theorem dX11_sheet_2 : decode cX11_sheet 2 = .ok (.invokevirtual 234, 3) := by decide +kernel
theorem dX11_sheet_5 : decode cX11_sheet 5 = .ok (.astore 4, 2) := by decide +kernel
theorem dX11_sheet_7 : decode cX11_sheet 7 = .ok (.aload 4, 2) := by decide +kernel
theorem dX11_sheet_9 : decode cX11_sheet 9 = .ok (.ifnull 25, 3) := by decide +kernel
theorem dX11_sheet_12 : decode cX11_sheet 12 = .ok (.iload_n 2, 1) := by decide +kernel
theorem dX11_sheet_13 : decode cX11_sheet 13 = .ok (.ifCond .eq 28, 3) := by decide +kernel
theorem dX11_sheet_16 : decode cX11_sheet 16 = .ok (.iload_n 2, 1) := by decide +kernel
theorem dX11_sheet_17 : decode cX11_sheet 17 = .ok (.bipush 8, 2) := by decide +kernel
theorem dX11_sheet_19 : decode cX11_sheet 19 = .ok (.if_icmp .eq 22, 3) := by decide +kernel
theorem dX11_sheet_22 : decode cX11_sheet 22 = .ok (.iload_n 2, 1) := by decide +kernel
theorem dX11_sheet_23 : decode cX11_sheet 23 = .ok (.bipush 16, 2) := by decide +kernel
theorem dX11_sheet_25 : decode cX11_sheet 25 = .ok (.if_icmp .eq 16, 3) := by decide +kernel
theorem dX11_sheet_28 : decode cX11_sheet 28 = .ok (.iload_n 2, 1) := by decide +kernel
theorem dX11_sheet_29 : decode cX11_sheet 29 = .ok (.bipush 64, 2) := by decide +kernel
theorem dX11_sheet_31 : decode cX11_sheet 31 = .ok (.if_icmp .eq 10, 3) := by decide +kernel
theorem dX11_sheet_34 : decode cX11_sheet 34 = .ok (.aload_n 0, 1) := by decide +kernel
theorem dX11_sheet_35 : decode cX11_sheet 35 = .ok (.ldc 72, 2) := by decide +kernel
theorem dX11_sheet_37 : decode cX11_sheet 37 = .ok (.invokevirtual 73, 3) := by decide +kernel
theorem dX11_sheet_40 : decode cX11_sheet 40 = .ok (.ireturn, 1) := by decide +kernel
theorem dX11_sheet_41 : decode cX11_sheet 41 = .ok (.iload_n 3, 1) := by decide +kernel
theorem dX11_sheet_42 : decode cX11_sheet 42 = .ok (.ifCond .ge 10, 3) := by decide +kernel
theorem dX11_sheet_45 : decode cX11_sheet 45 = .ok (.aload_n 0, 1) := by decide +kernel
theorem dX11_sheet_46 : decode cX11_sheet 46 = .ok (.ldc 238, 2) := by decide +kernel
theorem dX11_sheet_48 : decode cX11_sheet 48 = .ok (.invokevirtual 73, 3) := by decide +kernel
theorem dX11_sheet_51 : decode cX11_sheet 51 = .ok (.ireturn, 1) := by decide +kernel
theorem dX11_sheet_52 : decode cX11_sheet 52 = .ok (.iload_n 3, 1) := by decide +kernel
theorem dX11_sheet_53 : decode cX11_sheet 53 = .ok (.bipush 40, 2) := by decide +kernel
theorem dX11_sheet_55 : decode cX11_sheet 55 = .ok (.if_icmp .le 10, 3) := by decide +kernel
theorem dX11_sheet_58 : decode cX11_sheet 58 = .ok (.aload_n 0, 1) := by decide +kernel
theorem dX11_sheet_59 : decode cX11_sheet 59 = .ok (.ldc 72, 2) := by decide +kernel
theorem dX11_sheet_61 : decode cX11_sheet 61 = .ok (.invokevirtual 73, 3) := by decide +kernel
theorem dX11_sheet_64 : decode cX11_sheet 64 = .ok (.ireturn, 1) := by decide +kernel
theorem dX11_sheet_65 : decode cX11_sheet 65 = .ok (.aload 4, 2) := by decide +kernel
theorem dX11_sheet_67 : decode cX11_sheet 67 = .ok (.iload_n 2, 1) := by decide +kernel
theorem dX11_sheet_68 : decode cX11_sheet 68 = .ok (.iload_n 3, 1) := by decide +kernel
theorem dX11_sheet_69 : decode cX11_sheet 69 = .ok (.invokevirtual 239, 3) := by decide +kernel
theorem dX11_sheet_72 : decode cX11_sheet 72 = .ok (.aload 4, 2) := by decide +kernel
theorem dX11_sheet_74 : decode cX11_sheet 74 = .ok (.getfield 242, 3) := by decide +kernel
theorem dX11_sheet_77 : decode cX11_sheet 77 = .ok (.ireturn, 1) := by decide +kernel
theorem dX11_write_0 : decode cX11_write 0 = .ok (.aload_n 0, 1) := by decide +kernel
theorem dX11_write_1 : decode cX11_write 1 = .ok (.iload_n 1, 1) := by decide +kernel
theorem dX11_write_2 : decode cX11_write 2 = .ok (.invokevirtual 234, 3) := by decide +kernel
theorem dX11_write_5 : decode cX11_write 5 = .ok (.astore 5, 2) := by decide +kernel
theorem dX11_write_7 : decode cX11_write 7 = .ok (.aload 5, 2) := by decide +kernel
theorem dX11_write_9 : decode cX11_write 9 = .ok (.ifnonnull 11, 3) := by decide +kernel
theorem dX11_write_12 : decode cX11_write 12 = .ok (.aload_n 0, 1) := by decide +kernel
theorem dX11_write_13 : decode cX11_write 13 = .ok (.ldc 72, 2) := by decide +kernel
theorem dX11_write_15 : decode cX11_write 15 = .ok (.invokevirtual 73, 3) := by decide +kernel
theorem dX11_write_18 : decode cX11_write 18 = .ok (.i2l, 1) := by decide +kernel
theorem dX11_write_19 : decode cX11_write 19 = .ok (.lreturn, 1) := by decide +kernel
theorem dX11_write_20 : decode cX11_write 20 = .ok (.aload 5, 2) := by decide +kernel
theorem dX11_write_22 : decode cX11_write 22 = .ok (.invokevirtual 243, 3) := by decide +kernel
theorem dX11_write_25 : decode cX11_write 25 = .ok (.ifCond .eq 11, 3) := by decide +kernel
theorem dX11_write_28 : decode cX11_write 28 = .ok (.aload_n 0, 1) := by decide +kernel
theorem dX11_write_29 : decode cX11_write 29 = .ok (.ldc 247, 2) := by decide +kernel
theorem dX11_write_31 : decode cX11_write 31 = .ok (.invokevirtual 73, 3) := by decide +kernel
theorem dX11_write_34 : decode cX11_write 34 = .ok (.i2l, 1) := by decide +kernel
theorem dX11_write_35 : decode cX11_write 35 = .ok (.lreturn, 1) := by decide +kernel
theorem dX11_write_36 : decode cX11_write 36 = .ok (.iload_n 2, 1) := by decide +kernel
theorem dX11_write_37 : decode cX11_write 37 = .ok (.iconst 0, 1) := by decide +kernel
theorem dX11_write_38 : decode cX11_write 38 = .ok (.aload 5, 2) := by decide +kernel
theorem dX11_write_40 : decode cX11_write 40 = .ok (.getfield 242, 3) := by decide +kernel
theorem dX11_write_43 : decode cX11_write 43 = .ok (.iconst 1, 1) := by decide +kernel
theorem dX11_write_44 : decode cX11_write 44 = .ok (.isub, 1) := by decide +kernel
theorem dX11_write_45 : decode cX11_write 45 = .ok (.invokestatic 61, 3) := by decide +kernel
theorem dX11_write_48 : decode cX11_write 48 = .ok (.ifCond .ne 11, 3) := by decide +kernel
theorem dX11_write_51 : decode cX11_write 51 = .ok (.aload_n 0, 1) := by decide +kernel
theorem dX11_write_52 : decode cX11_write 52 = .ok (.ldc 72, 2) := by decide +kernel
theorem dX11_write_54 : decode cX11_write 54 = .ok (.invokevirtual 73, 3) := by decide +kernel
theorem dX11_write_57 : decode cX11_write 57 = .ok (.i2l, 1) := by decide +kernel
theorem dX11_write_58 : decode cX11_write 58 = .ok (.lreturn, 1) := by decide +kernel
theorem dX11_write_59 : decode cX11_write 59 = .ok (.aload 5, 2) := by decide +kernel
theorem dX11_write_61 : decode cX11_write 61 = .ok (.getfield 248, 3) := by decide +kernel
theorem dX11_write_64 : decode cX11_write 64 = .ok (.iload_n 2, 1) := by decide +kernel
theorem dX11_write_65 : decode cX11_write 65 = .ok (.laload, 1) := by decide +kernel
theorem dX11_write_66 : decode cX11_write 66 = .ok (.lstore 6, 2) := by decide +kernel
theorem dX11_write_68 : decode cX11_write 68 = .ok (.aload 5, 2) := by decide +kernel
theorem dX11_write_70 : decode cX11_write 70 = .ok (.iload_n 2, 1) := by decide +kernel
theorem dX11_write_71 : decode cX11_write 71 = .ok (.lload_n 3, 1) := by decide +kernel
theorem dX11_write_72 : decode cX11_write 72 = .ok (.invokevirtual 252, 3) := by decide +kernel
theorem dX11_write_75 : decode cX11_write 75 = .ok (.lload 6, 2) := by decide +kernel
theorem dX11_write_77 : decode cX11_write 77 = .ok (.lreturn, 1) := by decide +kernel
theorem dX11_copy_0 : decode cX11_copy 0 = .ok (.aload_n 0, 1) := by decide +kernel
theorem dX11_copy_1 : decode cX11_copy 1 = .ok (.iload_n 1, 1) := by decide +kernel
theorem dX11_copy_2 : decode cX11_copy 2 = .ok (.invokevirtual 234, 3) := by decide +kernel
theorem dX11_copy_5 : decode cX11_copy 5 = .ok (.astore 6, 2) := by decide +kernel
theorem dX11_copy_7 : decode cX11_copy 7 = .ok (.aload_n 0, 1) := by decide +kernel
theorem dX11_copy_8 : decode cX11_copy 8 = .ok (.iload_n 3, 1) := by decide +kernel
theorem dX11_copy_9 : decode cX11_copy 9 = .ok (.invokevirtual 234, 3) := by decide +kernel
theorem dX11_copy_12 : decode cX11_copy 12 = .ok (.astore 7, 2) := by decide +kernel
theorem dX11_copy_14 : decode cX11_copy 14 = .ok (.aload 6, 2) := by decide +kernel
theorem dX11_copy_16 : decode cX11_copy 16 = .ok (.ifnull 8, 3) := by decide +kernel
theorem dX11_copy_19 : decode cX11_copy 19 = .ok (.aload 7, 2) := by decide +kernel
theorem dX11_copy_21 : decode cX11_copy 21 = .ok (.ifnonnull 10, 3) := by decide +kernel
theorem dX11_copy_24 : decode cX11_copy 24 = .ok (.aload_n 0, 1) := by decide +kernel
theorem dX11_copy_25 : decode cX11_copy 25 = .ok (.ldc 72, 2) := by decide +kernel
theorem dX11_copy_27 : decode cX11_copy 27 = .ok (.invokevirtual 73, 3) := by decide +kernel
theorem dX11_copy_30 : decode cX11_copy 30 = .ok (.ireturn, 1) := by decide +kernel
theorem dX11_copy_31 : decode cX11_copy 31 = .ok (.aload 6, 2) := by decide +kernel
theorem dX11_copy_33 : decode cX11_copy 33 = .ok (.invokevirtual 243, 3) := by decide +kernel
theorem dX11_copy_36 : decode cX11_copy 36 = .ok (.ifCond .ne 11, 3) := by decide +kernel
theorem dX11_copy_39 : decode cX11_copy 39 = .ok (.aload 7, 2) := by decide +kernel
theorem dX11_copy_41 : decode cX11_copy 41 = .ok (.invokevirtual 243, 3) := by decide +kernel
theorem dX11_copy_44 : decode cX11_copy 44 = .ok (.ifCond .eq 10, 3) := by decide +kernel
theorem dX11_copy_47 : decode cX11_copy 47 = .ok (.aload_n 0, 1) := by decide +kernel
theorem dX11_copy_48 : decode cX11_copy 48 = .ok (.ldc 247, 2) := by decide +kernel
theorem dX11_copy_50 : decode cX11_copy 50 = .ok (.invokevirtual 73, 3) := by decide +kernel
theorem dX11_copy_53 : decode cX11_copy 53 = .ok (.ireturn, 1) := by decide +kernel
theorem dX11_copy_54 : decode cX11_copy 54 = .ok (.aload 6, 2) := by decide +kernel
theorem dX11_copy_56 : decode cX11_copy 56 = .ok (.getfield 256, 3) := by decide +kernel
theorem dX11_copy_59 : decode cX11_copy 59 = .ok (.aload 7, 2) := by decide +kernel
theorem dX11_copy_61 : decode cX11_copy 61 = .ok (.getfield 256, 3) := by decide +kernel
theorem dX11_copy_64 : decode cX11_copy 64 = .ok (.if_icmp .eq 10, 3) := by decide +kernel
theorem dX11_copy_67 : decode cX11_copy 67 = .ok (.aload_n 0, 1) := by decide +kernel
theorem dX11_copy_68 : decode cX11_copy 68 = .ok (.ldc 163, 2) := by decide +kernel
theorem dX11_copy_70 : decode cX11_copy 70 = .ok (.invokevirtual 73, 3) := by decide +kernel
theorem dX11_copy_73 : decode cX11_copy 73 = .ok (.ireturn, 1) := by decide +kernel
theorem dX11_copy_74 : decode cX11_copy 74 = .ok (.aload 6, 2) := by decide +kernel
theorem dX11_copy_76 : decode cX11_copy 76 = .ok (.iload_n 2, 1) := by decide +kernel
theorem dX11_copy_77 : decode cX11_copy 77 = .ok (.iload 5, 2) := by decide +kernel
theorem dX11_copy_79 : decode cX11_copy 79 = .ok (.invokevirtual 259, 3) := by decide +kernel
theorem dX11_copy_82 : decode cX11_copy 82 = .ok (.ifCond .eq 15, 3) := by decide +kernel
theorem dX11_copy_85 : decode cX11_copy 85 = .ok (.aload 7, 2) := by decide +kernel
theorem dX11_copy_87 : decode cX11_copy 87 = .ok (.iload 4, 2) := by decide +kernel
theorem dX11_copy_89 : decode cX11_copy 89 = .ok (.iload 5, 2) := by decide +kernel
theorem dX11_copy_91 : decode cX11_copy 91 = .ok (.invokevirtual 259, 3) := by decide +kernel
theorem dX11_copy_94 : decode cX11_copy 94 = .ok (.ifCond .ne 10, 3) := by decide +kernel
theorem dX11_copy_97 : decode cX11_copy 97 = .ok (.aload_n 0, 1) := by decide +kernel
theorem dX11_copy_98 : decode cX11_copy 98 = .ok (.ldc 72, 2) := by decide +kernel
theorem dX11_copy_100 : decode cX11_copy 100 = .ok (.invokevirtual 73, 3) := by decide +kernel
theorem dX11_copy_103 : decode cX11_copy 103 = .ok (.ireturn, 1) := by decide +kernel
theorem dX11_copy_104 : decode cX11_copy 104 = .ok (.aload 6, 2) := by decide +kernel
theorem dX11_copy_106 : decode cX11_copy 106 = .ok (.getfield 248, 3) := by decide +kernel
theorem dX11_copy_109 : decode cX11_copy 109 = .ok (.iload_n 2, 1) := by decide +kernel
theorem dX11_copy_110 : decode cX11_copy 110 = .ok (.aload 7, 2) := by decide +kernel
theorem dX11_copy_112 : decode cX11_copy 112 = .ok (.getfield 248, 3) := by decide +kernel
theorem dX11_copy_115 : decode cX11_copy 115 = .ok (.iload 4, 2) := by decide +kernel
theorem dX11_copy_117 : decode cX11_copy 117 = .ok (.iload 5, 2) := by decide +kernel
theorem dX11_copy_119 : decode cX11_copy 119 = .ok (.invokestatic 262, 3) := by decide +kernel
theorem dX11_copy_122 : decode cX11_copy 122 = .ok (.iload 5, 2) := by decide +kernel
theorem dX11_copy_124 : decode cX11_copy 124 = .ok (.ireturn, 1) := by decide +kernel
theorem dX11_lays_0 : decode cX11_lays 0 = .ok (.aload_n 0, 1) := by decide +kernel
theorem dX11_lays_1 : decode cX11_lays 1 = .ok (.iload_n 1, 1) := by decide +kernel
theorem dX11_lays_2 : decode cX11_lays 2 = .ok (.invokevirtual 234, 3) := by decide +kernel
theorem dX11_lays_5 : decode cX11_lays 5 = .ok (.astore_n 2, 1) := by decide +kernel
theorem dX11_lays_6 : decode cX11_lays 6 = .ok (.aload_n 2, 1) := by decide +kernel
theorem dX11_lays_7 : decode cX11_lays 7 = .ok (.ifnonnull 10, 3) := by decide +kernel
theorem dX11_lays_10 : decode cX11_lays 10 = .ok (.aload_n 0, 1) := by decide +kernel
theorem dX11_lays_11 : decode cX11_lays 11 = .ok (.ldc 72, 2) := by decide +kernel
theorem dX11_lays_13 : decode cX11_lays 13 = .ok (.invokevirtual 73, 3) := by decide +kernel
theorem dX11_lays_16 : decode cX11_lays 16 = .ok (.ireturn, 1) := by decide +kernel
theorem dX11_lays_17 : decode cX11_lays 17 = .ok (.aload_n 2, 1) := by decide +kernel
theorem dX11_lays_18 : decode cX11_lays 18 = .ok (.invokevirtual 243, 3) := by decide +kernel
theorem dX11_lays_21 : decode cX11_lays 21 = .ok (.ifCond .eq 10, 3) := by decide +kernel
theorem dX11_lays_24 : decode cX11_lays 24 = .ok (.aload_n 0, 1) := by decide +kernel
theorem dX11_lays_25 : decode cX11_lays 25 = .ok (.ldc 247, 2) := by decide +kernel
theorem dX11_lays_27 : decode cX11_lays 27 = .ok (.invokevirtual 73, 3) := by decide +kernel
theorem dX11_lays_30 : decode cX11_lays 30 = .ok (.ireturn, 1) := by decide +kernel
theorem dX11_lays_31 : decode cX11_lays 31 = .ok (.iconst 0, 1) := by decide +kernel
theorem dX11_lays_32 : decode cX11_lays 32 = .ok (.istore_n 3, 1) := by decide +kernel
theorem dX11_lays_33 : decode cX11_lays 33 = .ok (.iconst 0, 1) := by decide +kernel
theorem dX11_lays_34 : decode cX11_lays 34 = .ok (.istore 4, 2) := by decide +kernel
theorem dX11_lays_36 : decode cX11_lays 36 = .ok (.iload 4, 2) := by decide +kernel
theorem dX11_lays_38 : decode cX11_lays 38 = .ok (.aload_n 2, 1) := by decide +kernel
theorem dX11_lays_39 : decode cX11_lays 39 = .ok (.getfield 242, 3) := by decide +kernel
theorem dX11_lays_42 : decode cX11_lays 42 = .ok (.if_icmp .ge 63, 3) := by decide +kernel
theorem dX11_lays_45 : decode cX11_lays 45 = .ok (.aload_n 2, 1) := by decide +kernel
theorem dX11_lays_46 : decode cX11_lays 46 = .ok (.getfield 248, 3) := by decide +kernel
theorem dX11_lays_49 : decode cX11_lays 49 = .ok (.iload 4, 2) := by decide +kernel
theorem dX11_lays_51 : decode cX11_lays 51 = .ok (.laload, 1) := by decide +kernel
theorem dX11_lays_52 : decode cX11_lays 52 = .ok (.lstore 5, 2) := by decide +kernel
theorem dX11_lays_54 : decode cX11_lays 54 = .ok (.aload_n 0, 1) := by decide +kernel
theorem dX11_lays_55 : decode cX11_lays 55 = .ok (.getfield 18, 3) := by decide +kernel
theorem dX11_lays_58 : decode cX11_lays 58 = .ok (.iload 4, 2) := by decide +kernel
theorem dX11_lays_60 : decode cX11_lays 60 = .ok (.invokevirtual 102, 3) := by decide +kernel
theorem dX11_lays_63 : decode cX11_lays 63 = .ok (.astore 7, 2) := by decide +kernel
theorem dX11_lays_65 : decode cX11_lays 65 = .ok (.aload 7, 2) := by decide +kernel
theorem dX11_lays_67 : decode cX11_lays 67 = .ok (.ifnull 32, 3) := by decide +kernel
theorem dX11_lays_70 : decode cX11_lays 70 = .ok (.lload 5, 2) := by decide +kernel
theorem dX11_lays_72 : decode cX11_lays 72 = .ok (.ldc2_w 268, 3) := by decide +kernel
theorem dX11_lays_75 : decode cX11_lays 75 = .ok (.lcmp, 1) := by decide +kernel
theorem dX11_lays_76 : decode cX11_lays 76 = .ok (.ifCond .lt 23, 3) := by decide +kernel
theorem dX11_lays_79 : decode cX11_lays 79 = .ok (.lload 5, 2) := by decide +kernel
theorem dX11_lays_81 : decode cX11_lays 81 = .ok (.ldc2_w 270, 3) := by decide +kernel
theorem dX11_lays_84 : decode cX11_lays 84 = .ok (.lcmp, 1) := by decide +kernel
theorem dX11_lays_85 : decode cX11_lays 85 = .ok (.ifCond .gt 14, 3) := by decide +kernel
theorem dX11_lays_88 : decode cX11_lays 88 = .ok (.aload 7, 2) := by decide +kernel
theorem dX11_lays_90 : decode cX11_lays 90 = .ok (.lload 5, 2) := by decide +kernel
theorem dX11_lays_92 : decode cX11_lays 92 = .ok (.l2i, 1) := by decide +kernel
theorem dX11_lays_93 : decode cX11_lays 93 = .ok (.putfield 116, 3) := by decide +kernel
theorem dX11_lays_96 : decode cX11_lays 96 = .ok (.iinc 3 1, 3) := by decide +kernel
theorem dX11_lays_99 : decode cX11_lays 99 = .ok (.iinc 4 1, 3) := by decide +kernel
theorem dX11_lays_102 : decode cX11_lays 102 = .ok (.goto (-66), 3) := by decide +kernel
theorem dX11_lays_105 : decode cX11_lays 105 = .ok (.iload_n 3, 1) := by decide +kernel
theorem dX11_lays_106 : decode cX11_lays 106 = .ok (.ireturn, 1) := by decide +kernel
theorem dX11_book_0 : decode cX11_book 0 = .ok (.aload_n 0, 1) := by decide +kernel
theorem dX11_book_1 : decode cX11_book 1 = .ok (.iload_n 1, 1) := by decide +kernel
theorem dX11_book_2 : decode cX11_book 2 = .ok (.invokevirtual 234, 3) := by decide +kernel
theorem dX11_book_5 : decode cX11_book 5 = .ok (.astore_n 3, 1) := by decide +kernel
theorem dX11_book_6 : decode cX11_book 6 = .ok (.aload_n 3, 1) := by decide +kernel
theorem dX11_book_7 : decode cX11_book 7 = .ok (.ifnonnull 10, 3) := by decide +kernel
theorem dX11_book_10 : decode cX11_book 10 = .ok (.aload_n 0, 1) := by decide +kernel
theorem dX11_book_11 : decode cX11_book 11 = .ok (.ldc 72, 2) := by decide +kernel
theorem dX11_book_13 : decode cX11_book 13 = .ok (.invokevirtual 73, 3) := by decide +kernel
theorem dX11_book_16 : decode cX11_book 16 = .ok (.ireturn, 1) := by decide +kernel
theorem dX11_book_17 : decode cX11_book 17 = .ok (.aload_n 3, 1) := by decide +kernel
theorem dX11_book_18 : decode cX11_book 18 = .ok (.invokevirtual 243, 3) := by decide +kernel
theorem dX11_book_21 : decode cX11_book 21 = .ok (.ifCond .eq 10, 3) := by decide +kernel
theorem dX11_book_24 : decode cX11_book 24 = .ok (.aload_n 0, 1) := by decide +kernel
theorem dX11_book_25 : decode cX11_book 25 = .ok (.ldc 247, 2) := by decide +kernel
theorem dX11_book_27 : decode cX11_book 27 = .ok (.invokevirtual 73, 3) := by decide +kernel
theorem dX11_book_30 : decode cX11_book 30 = .ok (.ireturn, 1) := by decide +kernel
theorem dX11_book_31 : decode cX11_book 31 = .ok (.aload_n 0, 1) := by decide +kernel
theorem dX11_book_32 : decode cX11_book 32 = .ok (.getfield 18, 3) := by decide +kernel
theorem dX11_book_35 : decode cX11_book 35 = .ok (.iload_n 2, 1) := by decide +kernel
theorem dX11_book_36 : decode cX11_book 36 = .ok (.invokevirtual 102, 3) := by decide +kernel
theorem dX11_book_39 : decode cX11_book 39 = .ok (.astore 4, 2) := by decide +kernel
theorem dX11_book_41 : decode cX11_book 41 = .ok (.aload 4, 2) := by decide +kernel
theorem dX11_book_43 : decode cX11_book 43 = .ok (.ifnonnull 10, 3) := by decide +kernel
theorem dX11_book_46 : decode cX11_book 46 = .ok (.aload_n 0, 1) := by decide +kernel
theorem dX11_book_47 : decode cX11_book 47 = .ok (.ldc 72, 2) := by decide +kernel
theorem dX11_book_49 : decode cX11_book 49 = .ok (.invokevirtual 73, 3) := by decide +kernel
theorem dX11_book_52 : decode cX11_book 52 = .ok (.ireturn, 1) := by decide +kernel
theorem dX11_book_53 : decode cX11_book 53 = .ok (.aload_n 0, 1) := by decide +kernel
theorem dX11_book_54 : decode cX11_book 54 = .ok (.getfield 35, 3) := by decide +kernel
theorem dX11_book_57 : decode cX11_book 57 = .ok (.aload 4, 2) := by decide +kernel
theorem dX11_book_59 : decode cX11_book 59 = .ok (.invokevirtual 190, 3) := by decide +kernel
theorem dX11_book_62 : decode cX11_book 62 = .ok (.iconst 0, 1) := by decide +kernel
theorem dX11_book_63 : decode cX11_book 63 = .ok (.istore 5, 2) := by decide +kernel
theorem dX11_book_65 : decode cX11_book 65 = .ok (.iload 5, 2) := by decide +kernel
theorem dX11_book_67 : decode cX11_book 67 = .ok (.aload_n 3, 1) := by decide +kernel
theorem dX11_book_68 : decode cX11_book 68 = .ok (.getfield 242, 3) := by decide +kernel
theorem dX11_book_71 : decode cX11_book 71 = .ok (.if_icmp .ge 44, 3) := by decide +kernel
theorem dX11_book_74 : decode cX11_book 74 = .ok (.aload_n 3, 1) := by decide +kernel
theorem dX11_book_75 : decode cX11_book 75 = .ok (.iload 5, 2) := by decide +kernel
theorem dX11_book_77 : decode cX11_book 77 = .ok (.aload_n 0, 1) := by decide +kernel
theorem dX11_book_78 : decode cX11_book 78 = .ok (.getfield 35, 3) := by decide +kernel
theorem dX11_book_81 : decode cX11_book 81 = .ok (.getfield 116, 3) := by decide +kernel
theorem dX11_book_84 : decode cX11_book 84 = .ok (.i2l, 1) := by decide +kernel
theorem dX11_book_85 : decode cX11_book 85 = .ok (.invokevirtual 252, 3) := by decide +kernel
theorem dX11_book_88 : decode cX11_book 88 = .ok (.aload_n 0, 1) := by decide +kernel
theorem dX11_book_89 : decode cX11_book 89 = .ok (.getfield 35, 3) := by decide +kernel
theorem dX11_book_92 : decode cX11_book 92 = .ok (.aload_n 0, 1) := by decide +kernel
theorem dX11_book_93 : decode cX11_book 93 = .ok (.getfield 18, 3) := by decide +kernel
theorem dX11_book_96 : decode cX11_book 96 = .ok (.getfield 65, 3) := by decide +kernel
theorem dX11_book_99 : decode cX11_book 99 = .ok (.aload_n 0, 1) := by decide +kernel
theorem dX11_book_100 : decode cX11_book 100 = .ok (.getfield 18, 3) := by decide +kernel
theorem dX11_book_103 : decode cX11_book 103 = .ok (.getfield 69, 3) := by decide +kernel
theorem dX11_book_106 : decode cX11_book 106 = .ok (.invokevirtual 147, 3) := by decide +kernel
theorem dX11_book_109 : decode cX11_book 109 = .ok (.iinc 5 1, 3) := by decide +kernel
theorem dX11_book_112 : decode cX11_book 112 = .ok (.goto (-47), 3) := by decide +kernel
theorem dX11_book_115 : decode cX11_book 115 = .ok (.aload_n 3, 1) := by decide +kernel
theorem dX11_book_116 : decode cX11_book 116 = .ok (.getfield 242, 3) := by decide +kernel
theorem dX11_book_119 : decode cX11_book 119 = .ok (.ireturn, 1) := by decide +kernel
theorem dX11_read_0 : decode cX11_read 0 = .ok (.aload_n 0, 1) := by decide +kernel
theorem dX11_read_1 : decode cX11_read 1 = .ok (.iload_n 1, 1) := by decide +kernel
theorem dX11_read_2 : decode cX11_read 2 = .ok (.invokevirtual 234, 3) := by decide +kernel
theorem dX11_read_5 : decode cX11_read 5 = .ok (.astore_n 3, 1) := by decide +kernel
theorem dX11_read_6 : decode cX11_read 6 = .ok (.aload_n 3, 1) := by decide +kernel
theorem dX11_read_7 : decode cX11_read 7 = .ok (.ifnonnull 10, 3) := by decide +kernel
theorem dX11_read_10 : decode cX11_read 10 = .ok (.aload_n 0, 1) := by decide +kernel
theorem dX11_read_11 : decode cX11_read 11 = .ok (.ldc 72, 2) := by decide +kernel
theorem dX11_read_13 : decode cX11_read 13 = .ok (.invokevirtual 73, 3) := by decide +kernel
theorem dX11_read_16 : decode cX11_read 16 = .ok (.ireturn, 1) := by decide +kernel
theorem dX11_read_17 : decode cX11_read 17 = .ok (.aload_n 3, 1) := by decide +kernel
theorem dX11_read_18 : decode cX11_read 18 = .ok (.invokevirtual 243, 3) := by decide +kernel
theorem dX11_read_21 : decode cX11_read 21 = .ok (.ifCond .eq 10, 3) := by decide +kernel
theorem dX11_read_24 : decode cX11_read 24 = .ok (.aload_n 0, 1) := by decide +kernel
theorem dX11_read_25 : decode cX11_read 25 = .ok (.ldc 247, 2) := by decide +kernel
theorem dX11_read_27 : decode cX11_read 27 = .ok (.invokevirtual 73, 3) := by decide +kernel
theorem dX11_read_30 : decode cX11_read 30 = .ok (.ireturn, 1) := by decide +kernel
theorem dX11_read_31 : decode cX11_read 31 = .ok (.aload_n 0, 1) := by decide +kernel
theorem dX11_read_32 : decode cX11_read 32 = .ok (.getfield 18, 3) := by decide +kernel
theorem dX11_read_35 : decode cX11_read 35 = .ok (.iload_n 2, 1) := by decide +kernel
theorem dX11_read_36 : decode cX11_read 36 = .ok (.invokevirtual 102, 3) := by decide +kernel
theorem dX11_read_39 : decode cX11_read 39 = .ok (.astore 4, 2) := by decide +kernel
theorem dX11_read_41 : decode cX11_read 41 = .ok (.aload 4, 2) := by decide +kernel
theorem dX11_read_43 : decode cX11_read 43 = .ok (.ifnonnull 10, 3) := by decide +kernel
theorem dX11_read_46 : decode cX11_read 46 = .ok (.aload_n 0, 1) := by decide +kernel
theorem dX11_read_47 : decode cX11_read 47 = .ok (.ldc 72, 2) := by decide +kernel
theorem dX11_read_49 : decode cX11_read 49 = .ok (.invokevirtual 73, 3) := by decide +kernel
theorem dX11_read_52 : decode cX11_read 52 = .ok (.ireturn, 1) := by decide +kernel
theorem dX11_read_53 : decode cX11_read 53 = .ok (.iconst 0, 1) := by decide +kernel
theorem dX11_read_54 : decode cX11_read 54 = .ok (.istore 5, 2) := by decide +kernel
theorem dX11_read_56 : decode cX11_read 56 = .ok (.iconst 0, 1) := by decide +kernel
theorem dX11_read_57 : decode cX11_read 57 = .ok (.istore 6, 2) := by decide +kernel
theorem dX11_read_59 : decode cX11_read 59 = .ok (.iload 6, 2) := by decide +kernel
theorem dX11_read_61 : decode cX11_read 61 = .ok (.bipush 6, 2) := by decide +kernel
theorem dX11_read_63 : decode cX11_read 63 = .ok (.if_icmp .ge 43, 3) := by decide +kernel
theorem dX11_read_66 : decode cX11_read 66 = .ok (.bipush 20, 2) := by decide +kernel
theorem dX11_read_68 : decode cX11_read 68 = .ok (.istore 7, 2) := by decide +kernel
theorem dX11_read_70 : decode cX11_read 70 = .ok (.iload 7, 2) := by decide +kernel
theorem dX11_read_72 : decode cX11_read 72 = .ok (.bipush 95, 2) := by decide +kernel
theorem dX11_read_74 : decode cX11_read 74 = .ok (.if_icmp .gt 26, 3) := by decide +kernel
theorem dX11_read_77 : decode cX11_read 77 = .ok (.aload_n 0, 1) := by decide +kernel
theorem dX11_read_78 : decode cX11_read 78 = .ok (.aload_n 3, 1) := by decide +kernel
theorem dX11_read_79 : decode cX11_read 79 = .ok (.aload 4, 2) := by decide +kernel
theorem dX11_read_81 : decode cX11_read 81 = .ok (.iload 6, 2) := by decide +kernel
theorem dX11_read_83 : decode cX11_read 83 = .ok (.iload 7, 2) := by decide +kernel
theorem dX11_read_85 : decode cX11_read 85 = .ok (.invokevirtual 272, 3) := by decide +kernel
theorem dX11_read_88 : decode cX11_read 88 = .ok (.ifCond .eq 6, 3) := by decide +kernel
theorem dX11_read_91 : decode cX11_read 91 = .ok (.iinc 5 1, 3) := by decide +kernel
theorem dX11_read_94 : decode cX11_read 94 = .ok (.iinc 7 1, 3) := by decide +kernel
theorem dX11_read_97 : decode cX11_read 97 = .ok (.goto (-27), 3) := by decide +kernel
theorem dX11_read_100 : decode cX11_read 100 = .ok (.iinc 6 1, 3) := by decide +kernel
theorem dX11_read_103 : decode cX11_read 103 = .ok (.goto (-44), 3) := by decide +kernel
theorem dX11_read_106 : decode cX11_read 106 = .ok (.iload 5, 2) := by decide +kernel
theorem dX11_read_108 : decode cX11_read 108 = .ok (.ireturn, 1) := by decide +kernel
theorem dX11_image_0 : decode cX11_image 0 = .ok (.aload_n 0, 1) := by decide +kernel
theorem dX11_image_1 : decode cX11_image 1 = .ok (.getfield 24, 3) := by decide +kernel
theorem dX11_image_4 : decode cX11_image 4 = .ok (.aload_n 0, 1) := by decide +kernel
theorem dX11_image_5 : decode cX11_image 5 = .ok (.getfield 18, 3) := by decide +kernel
theorem dX11_image_8 : decode cX11_image 8 = .ok (.invokevirtual 214, 3) := by decide +kernel
theorem dX11_image_11 : decode cX11_image 11 = .ok (.aload_n 0, 1) := by decide +kernel
theorem dX11_image_12 : decode cX11_image 12 = .ok (.iconst 1, 1) := by decide +kernel
theorem dX11_image_13 : decode cX11_image 13 = .ok (.putfield 57, 3) := by decide +kernel
theorem dX11_image_16 : decode cX11_image 16 = .ok (.iconst 1, 1) := by decide +kernel
theorem dX11_image_17 : decode cX11_image 17 = .ok (.ireturn, 1) := by decide +kernel
theorem dX11_undo_0 : decode cX11_undo 0 = .ok (.aload_n 0, 1) := by decide +kernel
theorem dX11_undo_1 : decode cX11_undo 1 = .ok (.getfield 57, 3) := by decide +kernel
theorem dX11_undo_4 : decode cX11_undo 4 = .ok (.ifCond .ne 10, 3) := by decide +kernel
theorem dX11_undo_7 : decode cX11_undo 7 = .ok (.aload_n 0, 1) := by decide +kernel
theorem dX11_undo_8 : decode cX11_undo 8 = .ok (.ldc 205, 2) := by decide +kernel
theorem dX11_undo_10 : decode cX11_undo 10 = .ok (.invokevirtual 73, 3) := by decide +kernel
theorem dX11_undo_13 : decode cX11_undo 13 = .ok (.ireturn, 1) := by decide +kernel
theorem dX11_undo_14 : decode cX11_undo 14 = .ok (.aload_n 0, 1) := by decide +kernel
theorem dX11_undo_15 : decode cX11_undo 15 = .ok (.getfield 18, 3) := by decide +kernel
theorem dX11_undo_18 : decode cX11_undo 18 = .ok (.aload_n 0, 1) := by decide +kernel
theorem dX11_undo_19 : decode cX11_undo 19 = .ok (.getfield 24, 3) := by decide +kernel
theorem dX11_undo_22 : decode cX11_undo 22 = .ok (.invokevirtual 214, 3) := by decide +kernel
theorem dX11_undo_25 : decode cX11_undo 25 = .ok (.aload_n 0, 1) := by decide +kernel
theorem dX11_undo_26 : decode cX11_undo 26 = .ok (.getfield 18, 3) := by decide +kernel
theorem dX11_undo_29 : decode cX11_undo 29 = .ok (.getfield 99, 3) := by decide +kernel
theorem dX11_undo_32 : decode cX11_undo 32 = .ok (.ireturn, 1) := by decide +kernel
theorem dX11_tear_0 : decode cX11_tear 0 = .ok (.aload_n 0, 1) := by decide +kernel
theorem dX11_tear_1 : decode cX11_tear 1 = .ok (.getfield 57, 3) := by decide +kernel
theorem dX11_tear_4 : decode cX11_tear 4 = .ok (.ifCond .eq 7, 3) := by decide +kernel
theorem dX11_tear_7 : decode cX11_tear 7 = .ok (.iconst 1, 1) := by decide +kernel
theorem dX11_tear_8 : decode cX11_tear 8 = .ok (.goto 4, 3) := by decide +kernel
theorem dX11_tear_11 : decode cX11_tear 11 = .ok (.iconst 0, 1) := by decide +kernel
theorem dX11_tear_12 : decode cX11_tear 12 = .ok (.istore_n 1, 1) := by decide +kernel
theorem dX11_tear_13 : decode cX11_tear 13 = .ok (.aload_n 0, 1) := by decide +kernel
theorem dX11_tear_14 : decode cX11_tear 14 = .ok (.iconst 0, 1) := by decide +kernel
theorem dX11_tear_15 : decode cX11_tear 15 = .ok (.putfield 57, 3) := by decide +kernel
theorem dX11_tear_18 : decode cX11_tear 18 = .ok (.iload_n 1, 1) := by decide +kernel
theorem dX11_tear_19 : decode cX11_tear 19 = .ok (.ireturn, 1) := by decide +kernel
theorem dX11_count_0 : decode cX11_count 0 = .ok (.iload_n 1, 1) := by decide +kernel
theorem dX11_count_1 : decode cX11_count 1 = .ok (.tableswitch 63 0 3 #[31, 39, 47, 55], 31) := by decide +kernel
theorem dX11_count_32 : decode cX11_count 32 = .ok (.aload_n 0, 1) := by decide +kernel
theorem dX11_count_33 : decode cX11_count 33 = .ok (.getfield 18, 3) := by decide +kernel
theorem dX11_count_36 : decode cX11_count 36 = .ok (.getfield 99, 3) := by decide +kernel
theorem dX11_count_39 : decode cX11_count 39 = .ok (.ireturn, 1) := by decide +kernel
theorem dX11_count_40 : decode cX11_count 40 = .ok (.aload_n 0, 1) := by decide +kernel
theorem dX11_count_41 : decode cX11_count 41 = .ok (.getfield 18, 3) := by decide +kernel
theorem dX11_count_44 : decode cX11_count 44 = .ok (.getfield 171, 3) := by decide +kernel
theorem dX11_count_47 : decode cX11_count 47 = .ok (.ireturn, 1) := by decide +kernel
theorem dX11_count_48 : decode cX11_count 48 = .ok (.aload_n 0, 1) := by decide +kernel
theorem dX11_count_49 : decode cX11_count 49 = .ok (.getfield 42, 3) := by decide +kernel
theorem dX11_count_52 : decode cX11_count 52 = .ok (.getfield 220, 3) := by decide +kernel
theorem dX11_count_55 : decode cX11_count 55 = .ok (.ireturn, 1) := by decide +kernel
theorem dX11_count_56 : decode cX11_count 56 = .ok (.aload_n 0, 1) := by decide +kernel
theorem dX11_count_57 : decode cX11_count 57 = .ok (.getfield 18, 3) := by decide +kernel
theorem dX11_count_60 : decode cX11_count 60 = .ok (.invokevirtual 276, 3) := by decide +kernel
theorem dX11_count_63 : decode cX11_count 63 = .ok (.ireturn, 1) := by decide +kernel
theorem dX11_count_64 : decode cX11_count 64 = .ok (.aload_n 0, 1) := by decide +kernel
theorem dX11_count_65 : decode cX11_count 65 = .ok (.ldc 72, 2) := by decide +kernel
theorem dX11_count_67 : decode cX11_count 67 = .ok (.invokevirtual 73, 3) := by decide +kernel
theorem dX11_count_70 : decode cX11_count 70 = .ok (.ireturn, 1) := by decide +kernel
theorem dX11_status_0 : decode cX11_status 0 = .ok (.iload_n 1, 1) := by decide +kernel
theorem dX11_status_1 : decode cX11_status 1 = .ok (.ifCond .lt 16, 3) := by decide +kernel
theorem dX11_status_4 : decode cX11_status 4 = .ok (.iload_n 1, 1) := by decide +kernel
theorem dX11_status_5 : decode cX11_status 5 = .ok (.bipush 7, 2) := by decide +kernel
theorem dX11_status_7 : decode cX11_status 7 = .ok (.if_icmp .ge 10, 3) := by decide +kernel
theorem dX11_status_10 : decode cX11_status 10 = .ok (.aload_n 0, 1) := by decide +kernel
theorem dX11_status_11 : decode cX11_status 11 = .ok (.getfield 53, 3) := by decide +kernel
theorem dX11_status_14 : decode cX11_status 14 = .ok (.iload_n 1, 1) := by decide +kernel
theorem dX11_status_15 : decode cX11_status 15 = .ok (.iaload, 1) := by decide +kernel
theorem dX11_status_16 : decode cX11_status 16 = .ok (.ireturn, 1) := by decide +kernel
theorem dX11_status_17 : decode cX11_status 17 = .ok (.iload_n 1, 1) := by decide +kernel
theorem dX11_status_18 : decode cX11_status 18 = .ok (.iconst (-1), 1) := by decide +kernel
theorem dX11_status_19 : decode cX11_status 19 = .ok (.if_icmp .eq 10, 3) := by decide +kernel
theorem dX11_status_22 : decode cX11_status 22 = .ok (.aload_n 0, 1) := by decide +kernel
theorem dX11_status_23 : decode cX11_status 23 = .ok (.ldc 72, 2) := by decide +kernel
theorem dX11_status_25 : decode cX11_status 25 = .ok (.invokevirtual 73, 3) := by decide +kernel
theorem dX11_status_28 : decode cX11_status 28 = .ok (.ireturn, 1) := by decide +kernel
theorem dX11_status_29 : decode cX11_status 29 = .ok (.iconst 0, 1) := by decide +kernel
theorem dX11_status_30 : decode cX11_status 30 = .ok (.istore_n 2, 1) := by decide +kernel
theorem dX11_status_31 : decode cX11_status 31 = .ok (.iconst 0, 1) := by decide +kernel
theorem dX11_status_32 : decode cX11_status 32 = .ok (.istore_n 3, 1) := by decide +kernel
theorem dX11_status_33 : decode cX11_status 33 = .ok (.iload_n 3, 1) := by decide +kernel
theorem dX11_status_34 : decode cX11_status 34 = .ok (.bipush 7, 2) := by decide +kernel
theorem dX11_status_36 : decode cX11_status 36 = .ok (.if_icmp .ge 18, 3) := by decide +kernel
theorem dX11_status_39 : decode cX11_status 39 = .ok (.iload_n 2, 1) := by decide +kernel
theorem dX11_status_40 : decode cX11_status 40 = .ok (.aload_n 0, 1) := by decide +kernel
theorem dX11_status_41 : decode cX11_status 41 = .ok (.getfield 53, 3) := by decide +kernel
theorem dX11_status_44 : decode cX11_status 44 = .ok (.iload_n 3, 1) := by decide +kernel
theorem dX11_status_45 : decode cX11_status 45 = .ok (.iaload, 1) := by decide +kernel
theorem dX11_status_46 : decode cX11_status 46 = .ok (.iadd, 1) := by decide +kernel
theorem dX11_status_47 : decode cX11_status 47 = .ok (.istore_n 2, 1) := by decide +kernel
theorem dX11_status_48 : decode cX11_status 48 = .ok (.iinc 3 1, 3) := by decide +kernel
theorem dX11_status_51 : decode cX11_status 51 = .ok (.goto (-18), 3) := by decide +kernel
theorem dX11_status_54 : decode cX11_status 54 = .ok (.iload_n 2, 1) := by decide +kernel
theorem dX11_status_55 : decode cX11_status 55 = .ok (.ireturn, 1) := by decide +kernel
theorem dX11_refuse_0 : decode cX11_refuse 0 = .ok (.ldc 72, 2) := by decide +kernel
theorem dX11_refuse_2 : decode cX11_refuse 2 = .ok (.iload_n 1, 1) := by decide +kernel
theorem dX11_refuse_3 : decode cX11_refuse 3 = .ok (.isub, 1) := by decide +kernel
theorem dX11_refuse_4 : decode cX11_refuse 4 = .ok (.istore_n 2, 1) := by decide +kernel
theorem dX11_refuse_5 : decode cX11_refuse 5 = .ok (.iload_n 2, 1) := by decide +kernel
theorem dX11_refuse_6 : decode cX11_refuse 6 = .ok (.ifCond .lt 19, 3) := by decide +kernel
theorem dX11_refuse_9 : decode cX11_refuse 9 = .ok (.iload_n 2, 1) := by decide +kernel
theorem dX11_refuse_10 : decode cX11_refuse 10 = .ok (.bipush 7, 2) := by decide +kernel
theorem dX11_refuse_12 : decode cX11_refuse 12 = .ok (.if_icmp .ge 13, 3) := by decide +kernel
theorem dX11_refuse_15 : decode cX11_refuse 15 = .ok (.aload_n 0, 1) := by decide +kernel
theorem dX11_refuse_16 : decode cX11_refuse 16 = .ok (.getfield 53, 3) := by decide +kernel
theorem dX11_refuse_19 : decode cX11_refuse 19 = .ok (.iload_n 2, 1) := by decide +kernel
theorem dX11_refuse_20 : decode cX11_refuse 20 = .ok (.dup2, 1) := by decide +kernel
theorem dX11_refuse_21 : decode cX11_refuse 21 = .ok (.iaload, 1) := by decide +kernel
theorem dX11_refuse_22 : decode cX11_refuse 22 = .ok (.iconst 1, 1) := by decide +kernel
theorem dX11_refuse_23 : decode cX11_refuse 23 = .ok (.iadd, 1) := by decide +kernel
theorem dX11_refuse_24 : decode cX11_refuse 24 = .ok (.iastore, 1) := by decide +kernel
theorem dX11_refuse_25 : decode cX11_refuse 25 = .ok (.iload_n 1, 1) := by decide +kernel
theorem dX11_refuse_26 : decode cX11_refuse 26 = .ok (.ireturn, 1) := by decide +kernel
theorem dX11_sheetAt_0 : decode cX11_sheetAt 0 = .ok (.iload_n 1, 1) := by decide +kernel
theorem dX11_sheetAt_1 : decode cX11_sheetAt 1 = .ok (.ifCond .lt 17, 3) := by decide +kernel
theorem dX11_sheetAt_4 : decode cX11_sheetAt 4 = .ok (.iload_n 1, 1) := by decide +kernel
theorem dX11_sheetAt_5 : decode cX11_sheetAt 5 = .ok (.iconst 4, 1) := by decide +kernel
theorem dX11_sheetAt_6 : decode cX11_sheetAt 6 = .ok (.if_icmp .ge 12, 3) := by decide +kernel
theorem dX11_sheetAt_9 : decode cX11_sheetAt 9 = .ok (.aload_n 0, 1) := by decide +kernel
theorem dX11_sheetAt_10 : decode cX11_sheetAt 10 = .ok (.getfield 48, 3) := by decide +kernel
theorem dX11_sheetAt_13 : decode cX11_sheetAt 13 = .ok (.iload_n 1, 1) := by decide +kernel
theorem dX11_sheetAt_14 : decode cX11_sheetAt 14 = .ok (.aaload, 1) := by decide +kernel
theorem dX11_sheetAt_15 : decode cX11_sheetAt 15 = .ok (.goto 4, 3) := by decide +kernel
theorem dX11_sheetAt_18 : decode cX11_sheetAt 18 = .ok (.aconst_null, 1) := by decide +kernel
theorem dX11_sheetAt_19 : decode cX11_sheetAt 19 = .ok (.areturn, 1) := by decide +kernel
theorem dX11_tryWashes_0 : decode cX11_tryWashes 0 = .ok (.aload_n 0, 1) := by decide +kernel
theorem dX11_tryWashes_1 : decode cX11_tryWashes 1 = .ok (.getfield 35, 3) := by decide +kernel
theorem dX11_tryWashes_4 : decode cX11_tryWashes 4 = .ok (.aload_n 1, 1) := by decide +kernel
theorem dX11_tryWashes_5 : decode cX11_tryWashes 5 = .ok (.invokevirtual 190, 3) := by decide +kernel
theorem dX11_tryWashes_8 : decode cX11_tryWashes 8 = .ok (.aload_n 0, 1) := by decide +kernel
theorem dX11_tryWashes_9 : decode cX11_tryWashes 9 = .ok (.getfield 35, 3) := by decide +kernel
theorem dX11_tryWashes_12 : decode cX11_tryWashes 12 = .ok (.iload_n 2, 1) := by decide +kernel
theorem dX11_tryWashes_13 : decode cX11_tryWashes 13 = .ok (.aload_n 0, 1) := by decide +kernel
theorem dX11_tryWashes_14 : decode cX11_tryWashes 14 = .ok (.getfield 18, 3) := by decide +kernel
theorem dX11_tryWashes_17 : decode cX11_tryWashes 17 = .ok (.getfield 65, 3) := by decide +kernel
theorem dX11_tryWashes_20 : decode cX11_tryWashes 20 = .ok (.aload_n 0, 1) := by decide +kernel
theorem dX11_tryWashes_21 : decode cX11_tryWashes 21 = .ok (.getfield 18, 3) := by decide +kernel
theorem dX11_tryWashes_24 : decode cX11_tryWashes 24 = .ok (.getfield 69, 3) := by decide +kernel
theorem dX11_tryWashes_27 : decode cX11_tryWashes 27 = .ok (.invokevirtual 210, 3) := by decide +kernel
theorem dX11_tryWashes_30 : decode cX11_tryWashes 30 = .ok (.return_, 1) := by decide +kernel
theorem dX11_wouldSuit_0 : decode cX11_wouldSuit 0 = .ok (.aload_n 0, 1) := by decide +kernel
theorem dX11_wouldSuit_1 : decode cX11_wouldSuit 1 = .ok (.getfield 35, 3) := by decide +kernel
theorem dX11_wouldSuit_4 : decode cX11_wouldSuit 4 = .ok (.aload_n 1, 1) := by decide +kernel
theorem dX11_wouldSuit_5 : decode cX11_wouldSuit 5 = .ok (.invokevirtual 190, 3) := by decide +kernel
theorem dX11_wouldSuit_8 : decode cX11_wouldSuit 8 = .ok (.aload_n 0, 1) := by decide +kernel
theorem dX11_wouldSuit_9 : decode cX11_wouldSuit 9 = .ok (.getfield 35, 3) := by decide +kernel
theorem dX11_wouldSuit_12 : decode cX11_wouldSuit 12 = .ok (.iload_n 3, 1) := by decide +kernel
theorem dX11_wouldSuit_13 : decode cX11_wouldSuit 13 = .ok (.iload 4, 2) := by decide +kernel
theorem dX11_wouldSuit_15 : decode cX11_wouldSuit 15 = .ok (.aload_n 0, 1) := by decide +kernel
theorem dX11_wouldSuit_16 : decode cX11_wouldSuit 16 = .ok (.getfield 18, 3) := by decide +kernel
theorem dX11_wouldSuit_19 : decode cX11_wouldSuit 19 = .ok (.getfield 69, 3) := by decide +kernel
theorem dX11_wouldSuit_22 : decode cX11_wouldSuit 22 = .ok (.invokevirtual 210, 3) := by decide +kernel
theorem dX11_wouldSuit_25 : decode cX11_wouldSuit 25 = .ok (.iload 5, 2) := by decide +kernel
theorem dX11_wouldSuit_27 : decode cX11_wouldSuit 27 = .ok (.ifCond .le 12, 3) := by decide +kernel
theorem dX11_wouldSuit_30 : decode cX11_wouldSuit 30 = .ok (.aload_n 0, 1) := by decide +kernel
theorem dX11_wouldSuit_31 : decode cX11_wouldSuit 31 = .ok (.getfield 35, 3) := by decide +kernel
theorem dX11_wouldSuit_34 : decode cX11_wouldSuit 34 = .ok (.iload 5, 2) := by decide +kernel
theorem dX11_wouldSuit_36 : decode cX11_wouldSuit 36 = .ok (.invokevirtual 152, 3) := by decide +kernel
theorem dX11_wouldSuit_39 : decode cX11_wouldSuit 39 = .ok (.aload_n 0, 1) := by decide +kernel
theorem dX11_wouldSuit_40 : decode cX11_wouldSuit 40 = .ok (.getfield 35, 3) := by decide +kernel
theorem dX11_wouldSuit_43 : decode cX11_wouldSuit 43 = .ok (.iconst 3, 1) := by decide +kernel
theorem dX11_wouldSuit_44 : decode cX11_wouldSuit 44 = .ok (.invokevirtual 194, 3) := by decide +kernel
theorem dX11_wouldSuit_47 : decode cX11_wouldSuit 47 = .ok (.aload_n 0, 1) := by decide +kernel
theorem dX11_wouldSuit_48 : decode cX11_wouldSuit 48 = .ok (.getfield 35, 3) := by decide +kernel
theorem dX11_wouldSuit_51 : decode cX11_wouldSuit 51 = .ok (.aload_n 2, 1) := by decide +kernel
theorem dX11_wouldSuit_52 : decode cX11_wouldSuit 52 = .ok (.invokevirtual 279, 3) := by decide +kernel
theorem dX11_wouldSuit_55 : decode cX11_wouldSuit 55 = .ok (.ireturn, 1) := by decide +kernel
theorem dX11_tryAs_0 : decode cX11_tryAs 0 = .ok (.aload_n 0, 1) := by decide +kernel
theorem dX11_tryAs_1 : decode cX11_tryAs 1 = .ok (.getfield 18, 3) := by decide +kernel
theorem dX11_tryAs_4 : decode cX11_tryAs 4 = .ok (.iload_n 2, 1) := by decide +kernel
theorem dX11_tryAs_5 : decode cX11_tryAs 5 = .ok (.invokevirtual 156, 3) := by decide +kernel
theorem dX11_tryAs_8 : decode cX11_tryAs 8 = .ok (.astore_n 3, 1) := by decide +kernel
theorem dX11_tryAs_9 : decode cX11_tryAs 9 = .ok (.aload_n 3, 1) := by decide +kernel
theorem dX11_tryAs_10 : decode cX11_tryAs 10 = .ok (.ifnonnull 5, 3) := by decide +kernel
theorem dX11_tryAs_13 : decode cX11_tryAs 13 = .ok (.iconst 0, 1) := by decide +kernel
theorem dX11_tryAs_14 : decode cX11_tryAs 14 = .ok (.ireturn, 1) := by decide +kernel
theorem dX11_tryAs_15 : decode cX11_tryAs 15 = .ok (.aload_n 0, 1) := by decide +kernel
theorem dX11_tryAs_16 : decode cX11_tryAs 16 = .ok (.getfield 35, 3) := by decide +kernel
theorem dX11_tryAs_19 : decode cX11_tryAs 19 = .ok (.aload_n 1, 1) := by decide +kernel
theorem dX11_tryAs_20 : decode cX11_tryAs 20 = .ok (.invokevirtual 190, 3) := by decide +kernel
theorem dX11_tryAs_23 : decode cX11_tryAs 23 = .ok (.aload_n 0, 1) := by decide +kernel
theorem dX11_tryAs_24 : decode cX11_tryAs 24 = .ok (.getfield 35, 3) := by decide +kernel
theorem dX11_tryAs_27 : decode cX11_tryAs 27 = .ok (.aload_n 3, 1) := by decide +kernel
theorem dX11_tryAs_28 : decode cX11_tryAs 28 = .ok (.putfield 105, 3) := by decide +kernel
theorem dX11_tryAs_31 : decode cX11_tryAs 31 = .ok (.iconst 1, 1) := by decide +kernel
theorem dX11_tryAs_32 : decode cX11_tryAs 32 = .ok (.ireturn, 1) := by decide +kernel
theorem dX11_explains_0 : decode cX11_explains 0 = .ok (.aload_n 0, 1) := by decide +kernel
theorem dX11_explains_1 : decode cX11_explains 1 = .ok (.aload_n 2, 1) := by decide +kernel
theorem dX11_explains_2 : decode cX11_explains 2 = .ok (.iload_n 3, 1) := by decide +kernel
theorem dX11_explains_3 : decode cX11_explains 3 = .ok (.invokevirtual 206, 3) := by decide +kernel
theorem dX11_explains_6 : decode cX11_explains 6 = .ok (.ifCond .ne 5, 3) := by decide +kernel
theorem dX11_explains_9 : decode cX11_explains 9 = .ok (.iconst 0, 1) := by decide +kernel
theorem dX11_explains_10 : decode cX11_explains 10 = .ok (.ireturn, 1) := by decide +kernel
theorem dX11_explains_11 : decode cX11_explains 11 = .ok (.iconst 0, 1) := by decide +kernel
theorem dX11_explains_12 : decode cX11_explains 12 = .ok (.istore 5, 2) := by decide +kernel
theorem dX11_explains_14 : decode cX11_explains 14 = .ok (.iload 5, 2) := by decide +kernel
theorem dX11_explains_16 : decode cX11_explains 16 = .ok (.aload_n 1, 1) := by decide +kernel
theorem dX11_explains_17 : decode cX11_explains 17 = .ok (.getfield 242, 3) := by decide +kernel
theorem dX11_explains_20 : decode cX11_explains 20 = .ok (.if_icmp .ge 46, 3) := by decide +kernel
theorem dX11_explains_23 : decode cX11_explains 23 = .ok (.aload_n 1, 1) := by decide +kernel
theorem dX11_explains_24 : decode cX11_explains 24 = .ok (.getfield 248, 3) := by decide +kernel
theorem dX11_explains_27 : decode cX11_explains 27 = .ok (.iload 5, 2) := by decide +kernel
theorem dX11_explains_29 : decode cX11_explains 29 = .ok (.laload, 1) := by decide +kernel
theorem dX11_explains_30 : decode cX11_explains 30 = .ok (.aload_n 0, 1) := by decide +kernel
theorem dX11_explains_31 : decode cX11_explains 31 = .ok (.getfield 35, 3) := by decide +kernel
theorem dX11_explains_34 : decode cX11_explains 34 = .ok (.getfield 116, 3) := by decide +kernel
theorem dX11_explains_37 : decode cX11_explains 37 = .ok (.i2l, 1) := by decide +kernel
theorem dX11_explains_38 : decode cX11_explains 38 = .ok (.lcmp, 1) := by decide +kernel
theorem dX11_explains_39 : decode cX11_explains 39 = .ok (.ifCond .eq 5, 3) := by decide +kernel
theorem dX11_explains_42 : decode cX11_explains 42 = .ok (.iconst 0, 1) := by decide +kernel
theorem dX11_explains_43 : decode cX11_explains 43 = .ok (.ireturn, 1) := by decide +kernel
theorem dX11_explains_44 : decode cX11_explains 44 = .ok (.aload_n 0, 1) := by decide +kernel
theorem dX11_explains_45 : decode cX11_explains 45 = .ok (.getfield 35, 3) := by decide +kernel
theorem dX11_explains_48 : decode cX11_explains 48 = .ok (.iload 4, 2) := by decide +kernel
theorem dX11_explains_50 : decode cX11_explains 50 = .ok (.aload_n 0, 1) := by decide +kernel
theorem dX11_explains_51 : decode cX11_explains 51 = .ok (.getfield 18, 3) := by decide +kernel
theorem dX11_explains_54 : decode cX11_explains 54 = .ok (.getfield 69, 3) := by decide +kernel
theorem dX11_explains_57 : decode cX11_explains 57 = .ok (.invokevirtual 147, 3) := by decide +kernel
theorem dX11_explains_60 : decode cX11_explains 60 = .ok (.iinc 5 1, 3) := by decide +kernel
theorem dX11_explains_63 : decode cX11_explains 63 = .ok (.goto (-49), 3) := by decide +kernel
theorem dX11_explains_66 : decode cX11_explains 66 = .ok (.iconst 1, 1) := by decide +kernel
theorem dX11_explains_67 : decode cX11_explains 67 = .ok (.ireturn, 1) := by decide +kernel
theorem dX11_within_0 : decode cX11_within 0 = .ok (.iload_n 0, 1) := by decide +kernel
theorem dX11_within_1 : decode cX11_within 1 = .ok (.iload_n 1, 1) := by decide +kernel
theorem dX11_within_2 : decode cX11_within 2 = .ok (.if_icmp .lt 12, 3) := by decide +kernel
theorem dX11_within_5 : decode cX11_within 5 = .ok (.iload_n 0, 1) := by decide +kernel
theorem dX11_within_6 : decode cX11_within 6 = .ok (.iload_n 2, 1) := by decide +kernel
theorem dX11_within_7 : decode cX11_within 7 = .ok (.if_icmp .gt 7, 3) := by decide +kernel
theorem dX11_within_10 : decode cX11_within 10 = .ok (.iconst 1, 1) := by decide +kernel
theorem dX11_within_11 : decode cX11_within 11 = .ok (.goto 4, 3) := by decide +kernel
theorem dX11_within_14 : decode cX11_within 14 = .ok (.iconst 0, 1) := by decide +kernel
theorem dX11_within_15 : decode cX11_within 15 = .ok (.ireturn, 1) := by decide +kernel
theorem dX11_isKind_0 : decode cX11_isKind 0 = .ok (.iload_n 0, 1) := by decide +kernel
theorem dX11_isKind_1 : decode cX11_isKind 1 = .ok (.iconst 0, 1) := by decide +kernel
theorem dX11_isKind_2 : decode cX11_isKind 2 = .ok (.iconst 5, 1) := by decide +kernel
theorem dX11_isKind_3 : decode cX11_isKind 3 = .ok (.invokestatic 61, 3) := by decide +kernel
theorem dX11_isKind_6 : decode cX11_isKind 6 = .ok (.ireturn, 1) := by decide +kernel
theorem dX11_isSpan_0 : decode cX11_isSpan 0 = .ok (.iload_n 0, 1) := by decide +kernel
theorem dX11_isSpan_1 : decode cX11_isSpan 1 = .ok (.bipush 10, 2) := by decide +kernel
theorem dX11_isSpan_3 : decode cX11_isSpan 3 = .ok (.sipush 200, 3) := by decide +kernel
theorem dX11_isSpan_6 : decode cX11_isSpan 6 = .ok (.invokestatic 61, 3) := by decide +kernel
theorem dX11_isSpan_9 : decode cX11_isSpan 9 = .ok (.ireturn, 1) := by decide +kernel
theorem dX11_maySet_0 : decode cX11_maySet 0 = .ok (.iload_n 0, 1) := by decide +kernel
theorem dX11_maySet_1 : decode cX11_maySet 1 = .ok (.tableswitch 66 1 6 #[39, 44, 49, 66, 66, 57], 39) := by decide +kernel
theorem dX11_maySet_40 : decode cX11_maySet 40 = .ok (.iload_n 1, 1) := by decide +kernel
theorem dX11_maySet_41 : decode cX11_maySet 41 = .ok (.invokestatic 164, 3) := by decide +kernel
theorem dX11_maySet_44 : decode cX11_maySet 44 = .ok (.ireturn, 1) := by decide +kernel
theorem dX11_maySet_45 : decode cX11_maySet 45 = .ok (.iload_n 1, 1) := by decide +kernel
theorem dX11_maySet_46 : decode cX11_maySet 46 = .ok (.invokestatic 164, 3) := by decide +kernel
theorem dX11_maySet_49 : decode cX11_maySet 49 = .ok (.ireturn, 1) := by decide +kernel
theorem dX11_maySet_50 : decode cX11_maySet 50 = .ok (.iload_n 1, 1) := by decide +kernel
theorem dX11_maySet_51 : decode cX11_maySet 51 = .ok (.iconst 1, 1) := by decide +kernel
theorem dX11_maySet_52 : decode cX11_maySet 52 = .ok (.bipush 99, 2) := by decide +kernel
theorem dX11_maySet_54 : decode cX11_maySet 54 = .ok (.invokestatic 61, 3) := by decide +kernel
theorem dX11_maySet_57 : decode cX11_maySet 57 = .ok (.ireturn, 1) := by decide +kernel
theorem dX11_maySet_58 : decode cX11_maySet 58 = .ok (.iload_n 1, 1) := by decide +kernel
theorem dX11_maySet_59 : decode cX11_maySet 59 = .ok (.iconst 0, 1) := by decide +kernel
theorem dX11_maySet_60 : decode cX11_maySet 60 = .ok (.sipush 9999, 3) := by decide +kernel
theorem dX11_maySet_63 : decode cX11_maySet 63 = .ok (.invokestatic 61, 3) := by decide +kernel
theorem dX11_maySet_66 : decode cX11_maySet 66 = .ok (.ireturn, 1) := by decide +kernel
theorem dX11_maySet_67 : decode cX11_maySet 67 = .ok (.iconst 0, 1) := by decide +kernel
theorem dX11_maySet_68 : decode cX11_maySet 68 = .ok (.ireturn, 1) := by decide +kernel
theorem dJ6_bitCount_0f7a4_0 : decode cJ6_bitCount_0f7a4 0 = .ok (.iload_n 0, 1) := by decide +kernel
theorem dJ6_bitCount_0f7a4_1 : decode cJ6_bitCount_0f7a4 1 = .ok (.iload_n 0, 1) := by decide +kernel
theorem dJ6_bitCount_0f7a4_2 : decode cJ6_bitCount_0f7a4 2 = .ok (.iconst 1, 1) := by decide +kernel
theorem dJ6_bitCount_0f7a4_3 : decode cJ6_bitCount_0f7a4 3 = .ok (.iushr, 1) := by decide +kernel
theorem dJ6_bitCount_0f7a4_4 : decode cJ6_bitCount_0f7a4 4 = .ok (.ldc_w 265, 3) := by decide +kernel
theorem dJ6_bitCount_0f7a4_7 : decode cJ6_bitCount_0f7a4 7 = .ok (.iand, 1) := by decide +kernel
theorem dJ6_bitCount_0f7a4_8 : decode cJ6_bitCount_0f7a4 8 = .ok (.isub, 1) := by decide +kernel
theorem dJ6_bitCount_0f7a4_9 : decode cJ6_bitCount_0f7a4 9 = .ok (.istore_n 0, 1) := by decide +kernel
theorem dJ6_bitCount_0f7a4_10 : decode cJ6_bitCount_0f7a4 10 = .ok (.iload_n 0, 1) := by decide +kernel
theorem dJ6_bitCount_0f7a4_11 : decode cJ6_bitCount_0f7a4 11 = .ok (.ldc_w 266, 3) := by decide +kernel
theorem dJ6_bitCount_0f7a4_14 : decode cJ6_bitCount_0f7a4 14 = .ok (.iand, 1) := by decide +kernel
theorem dJ6_bitCount_0f7a4_15 : decode cJ6_bitCount_0f7a4 15 = .ok (.iload_n 0, 1) := by decide +kernel
theorem dJ6_bitCount_0f7a4_16 : decode cJ6_bitCount_0f7a4 16 = .ok (.iconst 2, 1) := by decide +kernel
theorem dJ6_bitCount_0f7a4_17 : decode cJ6_bitCount_0f7a4 17 = .ok (.iushr, 1) := by decide +kernel
theorem dJ6_bitCount_0f7a4_18 : decode cJ6_bitCount_0f7a4 18 = .ok (.ldc_w 266, 3) := by decide +kernel
theorem dJ6_bitCount_0f7a4_21 : decode cJ6_bitCount_0f7a4 21 = .ok (.iand, 1) := by decide +kernel
theorem dJ6_bitCount_0f7a4_22 : decode cJ6_bitCount_0f7a4 22 = .ok (.iadd, 1) := by decide +kernel
theorem dJ6_bitCount_0f7a4_23 : decode cJ6_bitCount_0f7a4 23 = .ok (.istore_n 0, 1) := by decide +kernel
theorem dJ6_bitCount_0f7a4_24 : decode cJ6_bitCount_0f7a4 24 = .ok (.iload_n 0, 1) := by decide +kernel
theorem dJ6_bitCount_0f7a4_25 : decode cJ6_bitCount_0f7a4 25 = .ok (.iload_n 0, 1) := by decide +kernel
theorem dJ6_bitCount_0f7a4_26 : decode cJ6_bitCount_0f7a4 26 = .ok (.iconst 4, 1) := by decide +kernel
theorem dJ6_bitCount_0f7a4_27 : decode cJ6_bitCount_0f7a4 27 = .ok (.iushr, 1) := by decide +kernel
theorem dJ6_bitCount_0f7a4_28 : decode cJ6_bitCount_0f7a4 28 = .ok (.iadd, 1) := by decide +kernel
theorem dJ6_bitCount_0f7a4_29 : decode cJ6_bitCount_0f7a4 29 = .ok (.ldc_w 267, 3) := by decide +kernel
theorem dJ6_bitCount_0f7a4_32 : decode cJ6_bitCount_0f7a4 32 = .ok (.iand, 1) := by decide +kernel
theorem dJ6_bitCount_0f7a4_33 : decode cJ6_bitCount_0f7a4 33 = .ok (.istore_n 0, 1) := by decide +kernel
theorem dJ6_bitCount_0f7a4_34 : decode cJ6_bitCount_0f7a4 34 = .ok (.iload_n 0, 1) := by decide +kernel
theorem dJ6_bitCount_0f7a4_35 : decode cJ6_bitCount_0f7a4 35 = .ok (.iload_n 0, 1) := by decide +kernel
theorem dJ6_bitCount_0f7a4_36 : decode cJ6_bitCount_0f7a4 36 = .ok (.bipush 8, 2) := by decide +kernel
theorem dJ6_bitCount_0f7a4_38 : decode cJ6_bitCount_0f7a4 38 = .ok (.iushr, 1) := by decide +kernel
theorem dJ6_bitCount_0f7a4_39 : decode cJ6_bitCount_0f7a4 39 = .ok (.iadd, 1) := by decide +kernel
theorem dJ6_bitCount_0f7a4_40 : decode cJ6_bitCount_0f7a4 40 = .ok (.istore_n 0, 1) := by decide +kernel
theorem dJ6_bitCount_0f7a4_41 : decode cJ6_bitCount_0f7a4 41 = .ok (.iload_n 0, 1) := by decide +kernel
theorem dJ6_bitCount_0f7a4_42 : decode cJ6_bitCount_0f7a4 42 = .ok (.iload_n 0, 1) := by decide +kernel
theorem dJ6_bitCount_0f7a4_43 : decode cJ6_bitCount_0f7a4 43 = .ok (.bipush 16, 2) := by decide +kernel
theorem dJ6_bitCount_0f7a4_45 : decode cJ6_bitCount_0f7a4 45 = .ok (.iushr, 1) := by decide +kernel
theorem dJ6_bitCount_0f7a4_46 : decode cJ6_bitCount_0f7a4 46 = .ok (.iadd, 1) := by decide +kernel
theorem dJ6_bitCount_0f7a4_47 : decode cJ6_bitCount_0f7a4 47 = .ok (.istore_n 0, 1) := by decide +kernel
theorem dJ6_bitCount_0f7a4_48 : decode cJ6_bitCount_0f7a4 48 = .ok (.iload_n 0, 1) := by decide +kernel
theorem dJ6_bitCount_0f7a4_49 : decode cJ6_bitCount_0f7a4 49 = .ok (.bipush 63, 2) := by decide +kernel
theorem dJ6_bitCount_0f7a4_51 : decode cJ6_bitCount_0f7a4 51 = .ok (.iand, 1) := by decide +kernel
theorem dJ6_bitCount_0f7a4_52 : decode cJ6_bitCount_0f7a4 52 = .ok (.ireturn, 1) := by decide +kernel
theorem dJ9_max_7cf53_0 : decode cJ9_max_7cf53 0 = .ok (.iload_n 0, 1) := by decide +kernel
theorem dJ9_max_7cf53_1 : decode cJ9_max_7cf53 1 = .ok (.iload_n 1, 1) := by decide +kernel
theorem dJ9_max_7cf53_2 : decode cJ9_max_7cf53 2 = .ok (.if_icmp .lt 7, 3) := by decide +kernel
theorem dJ9_max_7cf53_5 : decode cJ9_max_7cf53 5 = .ok (.iload_n 0, 1) := by decide +kernel
theorem dJ9_max_7cf53_6 : decode cJ9_max_7cf53 6 = .ok (.goto 4, 3) := by decide +kernel
theorem dJ9_max_7cf53_9 : decode cJ9_max_7cf53 9 = .ok (.iload_n 1, 1) := by decide +kernel
theorem dJ9_max_7cf53_10 : decode cJ9_max_7cf53 10 = .ok (.ireturn, 1) := by decide +kernel
theorem dJ9_min_7cf53_0 : decode cJ9_min_7cf53 0 = .ok (.iload_n 0, 1) := by decide +kernel
theorem dJ9_min_7cf53_1 : decode cJ9_min_7cf53 1 = .ok (.iload_n 1, 1) := by decide +kernel
theorem dJ9_min_7cf53_2 : decode cJ9_min_7cf53 2 = .ok (.if_icmp .gt 7, 3) := by decide +kernel
theorem dJ9_min_7cf53_5 : decode cJ9_min_7cf53 5 = .ok (.iload_n 0, 1) := by decide +kernel
theorem dJ9_min_7cf53_6 : decode cJ9_min_7cf53 6 = .ok (.goto 4, 3) := by decide +kernel
theorem dJ9_min_7cf53_9 : decode cJ9_min_7cf53 9 = .ok (.iload_n 1, 1) := by decide +kernel
theorem dJ9_min_7cf53_10 : decode cJ9_min_7cf53 10 = .ok (.ireturn, 1) := by decide +kernel
theorem dJ0_length_8abf5_0 : decode cJ0_length_8abf5 0 = .ok (.aload_n 0, 1) := by decide +kernel
theorem dJ0_length_8abf5_1 : decode cJ0_length_8abf5 1 = .ok (.getfield 9, 3) := by decide +kernel
theorem dJ0_length_8abf5_4 : decode cJ0_length_8abf5 4 = .ok (.arraylength, 1) := by decide +kernel
theorem dJ0_length_8abf5_5 : decode cJ0_length_8abf5 5 = .ok (.aload_n 0, 1) := by decide +kernel
theorem dJ0_length_8abf5_6 : decode cJ0_length_8abf5 6 = .ok (.invokevirtual 335, 3) := by decide +kernel
theorem dJ0_length_8abf5_9 : decode cJ0_length_8abf5 9 = .ok (.ishr, 1) := by decide +kernel
theorem dJ0_length_8abf5_10 : decode cJ0_length_8abf5 10 = .ok (.ireturn, 1) := by decide +kernel
theorem dJ0_charAt_5068e_0 : decode cJ0_charAt_5068e 0 = .ok (.aload_n 0, 1) := by decide +kernel
theorem dJ0_charAt_5068e_1 : decode cJ0_charAt_5068e 1 = .ok (.invokevirtual 492, 3) := by decide +kernel
theorem dJ0_charAt_5068e_4 : decode cJ0_charAt_5068e 4 = .ok (.ifCond .eq 12, 3) := by decide +kernel
theorem dJ0_charAt_5068e_7 : decode cJ0_charAt_5068e 7 = .ok (.aload_n 0, 1) := by decide +kernel
theorem dJ0_charAt_5068e_8 : decode cJ0_charAt_5068e 8 = .ok (.getfield 9, 3) := by decide +kernel
theorem dJ0_charAt_5068e_11 : decode cJ0_charAt_5068e 11 = .ok (.iload_n 1, 1) := by decide +kernel
theorem dJ0_charAt_5068e_12 : decode cJ0_charAt_5068e 12 = .ok (.invokestatic 495, 3) := by decide +kernel
theorem dJ0_charAt_5068e_15 : decode cJ0_charAt_5068e 15 = .ok (.ireturn, 1) := by decide +kernel
theorem dJ0_charAt_5068e_16 : decode cJ0_charAt_5068e 16 = .ok (.aload_n 0, 1) := by decide +kernel
theorem dJ0_charAt_5068e_17 : decode cJ0_charAt_5068e 17 = .ok (.getfield 9, 3) := by decide +kernel
theorem dJ0_charAt_5068e_20 : decode cJ0_charAt_5068e 20 = .ok (.iload_n 1, 1) := by decide +kernel
theorem dJ0_charAt_5068e_21 : decode cJ0_charAt_5068e 21 = .ok (.invokestatic 498, 3) := by decide +kernel
theorem dJ0_charAt_5068e_24 : decode cJ0_charAt_5068e 24 = .ok (.ireturn, 1) := by decide +kernel
theorem dJ0_coder_7d493_0 : decode cJ0_coder_7d493 0 = .ok (.getstatic 38, 3) := by decide +kernel
theorem dJ0_coder_7d493_3 : decode cJ0_coder_7d493 3 = .ok (.ifCond .eq 10, 3) := by decide +kernel
theorem dJ0_coder_7d493_6 : decode cJ0_coder_7d493 6 = .ok (.aload_n 0, 1) := by decide +kernel
theorem dJ0_coder_7d493_7 : decode cJ0_coder_7d493 7 = .ok (.getfield 15, 3) := by decide +kernel
theorem dJ0_coder_7d493_10 : decode cJ0_coder_7d493 10 = .ok (.goto 4, 3) := by decide +kernel
theorem dJ0_coder_7d493_13 : decode cJ0_coder_7d493 13 = .ok (.iconst 1, 1) := by decide +kernel
theorem dJ0_coder_7d493_14 : decode cJ0_coder_7d493 14 = .ok (.ireturn, 1) := by decide +kernel
theorem dJ0_isLatin1_aae02_0 : decode cJ0_isLatin1_aae02 0 = .ok (.getstatic 38, 3) := by decide +kernel
theorem dJ0_isLatin1_aae02_3 : decode cJ0_isLatin1_aae02 3 = .ok (.ifCond .eq 14, 3) := by decide +kernel
theorem dJ0_isLatin1_aae02_6 : decode cJ0_isLatin1_aae02 6 = .ok (.aload_n 0, 1) := by decide +kernel
theorem dJ0_isLatin1_aae02_7 : decode cJ0_isLatin1_aae02 7 = .ok (.getfield 15, 3) := by decide +kernel
theorem dJ0_isLatin1_aae02_10 : decode cJ0_isLatin1_aae02 10 = .ok (.ifCond .ne 7, 3) := by decide +kernel
theorem dJ0_isLatin1_aae02_13 : decode cJ0_isLatin1_aae02 13 = .ok (.iconst 1, 1) := by decide +kernel
theorem dJ0_isLatin1_aae02_14 : decode cJ0_isLatin1_aae02 14 = .ok (.goto 4, 3) := by decide +kernel
theorem dJ0_isLatin1_aae02_17 : decode cJ0_isLatin1_aae02 17 = .ok (.iconst 0, 1) := by decide +kernel
theorem dJ0_isLatin1_aae02_18 : decode cJ0_isLatin1_aae02 18 = .ok (.ireturn, 1) := by decide +kernel
theorem dJ0_checkIndex_df160_0 : decode cJ0_checkIndex_df160 0 = .ok (.iload_n 0, 1) := by decide +kernel
theorem dJ0_checkIndex_df160_1 : decode cJ0_checkIndex_df160 1 = .ok (.iload_n 1, 1) := by decide +kernel
theorem dJ0_checkIndex_df160_2 : decode cJ0_checkIndex_df160 2 = .ok (.getstatic 1053, 3) := by decide +kernel
theorem dJ0_checkIndex_df160_5 : decode cJ0_checkIndex_df160 5 = .ok (.invokestatic 1059, 3) := by decide +kernel
theorem dJ0_checkIndex_df160_8 : decode cJ0_checkIndex_df160 8 = .ok (.pop, 1) := by decide +kernel
theorem dJ0_checkIndex_df160_9 : decode cJ0_checkIndex_df160 9 = .ok (.return_, 1) := by decide +kernel
theorem dJ1_charAt_3b067_0 : decode cJ1_charAt_3b067 0 = .ok (.iload_n 1, 1) := by decide +kernel
theorem dJ1_charAt_3b067_1 : decode cJ1_charAt_3b067 1 = .ok (.aload_n 0, 1) := by decide +kernel
theorem dJ1_charAt_3b067_2 : decode cJ1_charAt_3b067 2 = .ok (.arraylength, 1) := by decide +kernel
theorem dJ1_charAt_3b067_3 : decode cJ1_charAt_3b067 3 = .ok (.invokestatic 9, 3) := by decide +kernel
theorem dJ1_charAt_3b067_6 : decode cJ1_charAt_3b067 6 = .ok (.aload_n 0, 1) := by decide +kernel
theorem dJ1_charAt_3b067_7 : decode cJ1_charAt_3b067 7 = .ok (.iload_n 1, 1) := by decide +kernel
theorem dJ1_charAt_3b067_8 : decode cJ1_charAt_3b067 8 = .ok (.baload, 1) := by decide +kernel
theorem dJ1_charAt_3b067_9 : decode cJ1_charAt_3b067 9 = .ok (.sipush 255, 3) := by decide +kernel
theorem dJ1_charAt_3b067_12 : decode cJ1_charAt_3b067 12 = .ok (.iand, 1) := by decide +kernel
theorem dJ1_charAt_3b067_13 : decode cJ1_charAt_3b067 13 = .ok (.i2c, 1) := by decide +kernel
theorem dJ1_charAt_3b067_14 : decode cJ1_charAt_3b067 14 = .ok (.ireturn, 1) := by decide +kernel
theorem dJ2_getChar_3b067_0 : decode cJ2_getChar_3b067 0 = .ok (.getstatic 44, 3) := by decide +kernel
theorem dJ2_getChar_3b067_3 : decode cJ2_getChar_3b067 3 = .ok (.ifCond .ne 25, 3) := by decide +kernel
theorem dJ2_getChar_3b067_6 : decode cJ2_getChar_3b067 6 = .ok (.iload_n 1, 1) := by decide +kernel
theorem dJ2_getChar_3b067_7 : decode cJ2_getChar_3b067 7 = .ok (.ifCond .lt 11, 3) := by decide +kernel
theorem dJ2_getChar_3b067_10 : decode cJ2_getChar_3b067 10 = .ok (.iload_n 1, 1) := by decide +kernel
theorem dJ2_getChar_3b067_11 : decode cJ2_getChar_3b067 11 = .ok (.aload_n 0, 1) := by decide +kernel
theorem dJ2_getChar_3b067_12 : decode cJ2_getChar_3b067 12 = .ok (.invokestatic 48, 3) := by decide +kernel
theorem dJ2_getChar_3b067_15 : decode cJ2_getChar_3b067 15 = .ok (.if_icmp .lt 13, 3) := by decide +kernel
theorem dJ2_getChar_3b067_18 : decode cJ2_getChar_3b067 18 = .ok (.new 52, 3) := by decide +kernel
theorem dJ2_getChar_3b067_21 : decode cJ2_getChar_3b067 21 = .ok (.dup, 1) := by decide +kernel
theorem dJ2_getChar_3b067_22 : decode cJ2_getChar_3b067 22 = .ok (.ldc 54, 2) := by decide +kernel
theorem dJ2_getChar_3b067_24 : decode cJ2_getChar_3b067 24 = .ok (.invokespecial 56, 3) := by decide +kernel
theorem dJ2_getChar_3b067_27 : decode cJ2_getChar_3b067 27 = .ok (.athrow, 1) := by decide +kernel
theorem dJ2_getChar_3b067_28 : decode cJ2_getChar_3b067 28 = .ok (.iload_n 1, 1) := by decide +kernel
theorem dJ2_getChar_3b067_29 : decode cJ2_getChar_3b067 29 = .ok (.iconst 1, 1) := by decide +kernel
theorem dJ2_getChar_3b067_30 : decode cJ2_getChar_3b067 30 = .ok (.ishl, 1) := by decide +kernel
theorem dJ2_getChar_3b067_31 : decode cJ2_getChar_3b067 31 = .ok (.istore_n 1, 1) := by decide +kernel
theorem dJ2_getChar_3b067_32 : decode cJ2_getChar_3b067 32 = .ok (.aload_n 0, 1) := by decide +kernel
theorem dJ2_getChar_3b067_33 : decode cJ2_getChar_3b067 33 = .ok (.iload_n 1, 1) := by decide +kernel
theorem dJ2_getChar_3b067_34 : decode cJ2_getChar_3b067 34 = .ok (.iinc 1 1, 3) := by decide +kernel
theorem dJ2_getChar_3b067_37 : decode cJ2_getChar_3b067 37 = .ok (.baload, 1) := by decide +kernel
theorem dJ2_getChar_3b067_38 : decode cJ2_getChar_3b067 38 = .ok (.sipush 255, 3) := by decide +kernel
theorem dJ2_getChar_3b067_41 : decode cJ2_getChar_3b067 41 = .ok (.iand, 1) := by decide +kernel
theorem dJ2_getChar_3b067_42 : decode cJ2_getChar_3b067 42 = .ok (.getstatic 59, 3) := by decide +kernel
theorem dJ2_getChar_3b067_45 : decode cJ2_getChar_3b067 45 = .ok (.ishl, 1) := by decide +kernel
theorem dJ2_getChar_3b067_46 : decode cJ2_getChar_3b067 46 = .ok (.aload_n 0, 1) := by decide +kernel
theorem dJ2_getChar_3b067_47 : decode cJ2_getChar_3b067 47 = .ok (.iload_n 1, 1) := by decide +kernel
theorem dJ2_getChar_3b067_48 : decode cJ2_getChar_3b067 48 = .ok (.baload, 1) := by decide +kernel
theorem dJ2_getChar_3b067_49 : decode cJ2_getChar_3b067 49 = .ok (.sipush 255, 3) := by decide +kernel
theorem dJ2_getChar_3b067_52 : decode cJ2_getChar_3b067 52 = .ok (.iand, 1) := by decide +kernel
theorem dJ2_getChar_3b067_53 : decode cJ2_getChar_3b067 53 = .ok (.getstatic 63, 3) := by decide +kernel
theorem dJ2_getChar_3b067_56 : decode cJ2_getChar_3b067 56 = .ok (.ishl, 1) := by decide +kernel
theorem dJ2_getChar_3b067_57 : decode cJ2_getChar_3b067 57 = .ok (.ior, 1) := by decide +kernel
theorem dJ2_getChar_3b067_58 : decode cJ2_getChar_3b067 58 = .ok (.i2c, 1) := by decide +kernel
theorem dJ2_getChar_3b067_59 : decode cJ2_getChar_3b067 59 = .ok (.ireturn, 1) := by decide +kernel
theorem dJ2_length_9d52b_0 : decode cJ2_length_9d52b 0 = .ok (.aload_n 0, 1) := by decide +kernel
theorem dJ2_length_9d52b_1 : decode cJ2_length_9d52b 1 = .ok (.arraylength, 1) := by decide +kernel
theorem dJ2_length_9d52b_2 : decode cJ2_length_9d52b 2 = .ok (.iconst 1, 1) := by decide +kernel
theorem dJ2_length_9d52b_3 : decode cJ2_length_9d52b 3 = .ok (.ishr, 1) := by decide +kernel
theorem dJ2_length_9d52b_4 : decode cJ2_length_9d52b 4 = .ok (.ireturn, 1) := by decide +kernel
theorem dJ2_charAt_3b067_0 : decode cJ2_charAt_3b067 0 = .ok (.iload_n 1, 1) := by decide +kernel
theorem dJ2_charAt_3b067_1 : decode cJ2_charAt_3b067 1 = .ok (.aload_n 0, 1) := by decide +kernel
theorem dJ2_charAt_3b067_2 : decode cJ2_charAt_3b067 2 = .ok (.invokestatic 67, 3) := by decide +kernel
theorem dJ2_charAt_3b067_5 : decode cJ2_charAt_3b067 5 = .ok (.aload_n 0, 1) := by decide +kernel
theorem dJ2_charAt_3b067_6 : decode cJ2_charAt_3b067 6 = .ok (.iload_n 1, 1) := by decide +kernel
theorem dJ2_charAt_3b067_7 : decode cJ2_charAt_3b067 7 = .ok (.invokestatic 71, 3) := by decide +kernel
theorem dJ2_charAt_3b067_10 : decode cJ2_charAt_3b067 10 = .ok (.ireturn, 1) := by decide +kernel
theorem dJ2_checkIndex_2214a_0 : decode cJ2_checkIndex_2214a 0 = .ok (.iload_n 0, 1) := by decide +kernel
theorem dJ2_checkIndex_2214a_1 : decode cJ2_checkIndex_2214a 1 = .ok (.aload_n 1, 1) := by decide +kernel
theorem dJ2_checkIndex_2214a_2 : decode cJ2_checkIndex_2214a 2 = .ok (.invokestatic 48, 3) := by decide +kernel
theorem dJ2_checkIndex_2214a_5 : decode cJ2_checkIndex_2214a 5 = .ok (.invokestatic 414, 3) := by decide +kernel
theorem dJ2_checkIndex_2214a_8 : decode cJ2_checkIndex_2214a 8 = .ok (.return_, 1) := by decide +kernel
theorem dJ3_checkIndex_8e157_0 : decode cJ3_checkIndex_8e157 0 = .ok (.iload_n 0, 1) := by decide +kernel
theorem dJ3_checkIndex_8e157_1 : decode cJ3_checkIndex_8e157 1 = .ok (.ifCond .lt 8, 3) := by decide +kernel
theorem dJ3_checkIndex_8e157_4 : decode cJ3_checkIndex_8e157 4 = .ok (.iload_n 0, 1) := by decide +kernel
theorem dJ3_checkIndex_8e157_5 : decode cJ3_checkIndex_8e157 5 = .ok (.iload_n 1, 1) := by decide +kernel
theorem dJ3_checkIndex_8e157_6 : decode cJ3_checkIndex_8e157 6 = .ok (.if_icmp .lt 10, 3) := by decide +kernel
theorem dJ3_checkIndex_8e157_9 : decode cJ3_checkIndex_8e157 9 = .ok (.aload_n 2, 1) := by decide +kernel
theorem dJ3_checkIndex_8e157_10 : decode cJ3_checkIndex_8e157 10 = .ok (.iload_n 0, 1) := by decide +kernel
theorem dJ3_checkIndex_8e157_11 : decode cJ3_checkIndex_8e157 11 = .ok (.iload_n 1, 1) := by decide +kernel
theorem dJ3_checkIndex_8e157_12 : decode cJ3_checkIndex_8e157 12 = .ok (.invokestatic 95, 3) := by decide +kernel
theorem dJ3_checkIndex_8e157_15 : decode cJ3_checkIndex_8e157 15 = .ok (.athrow, 1) := by decide +kernel
theorem dJ3_checkIndex_8e157_16 : decode cJ3_checkIndex_8e157 16 = .ok (.iload_n 0, 1) := by decide +kernel
theorem dJ3_checkIndex_8e157_17 : decode cJ3_checkIndex_8e157 17 = .ok (.ireturn, 1) := by decide +kernel
end
section
theorem dX12_init_0 : decode cX12_init 0 = .ok (.aload_n 0, 1) := by decide +kernel
theorem dX12_init_1 : decode cX12_init 1 = .ok (.invokespecial 1, 3) := by decide +kernel
theorem dX12_init_4 : decode cX12_init 4 = .ok (.aload_n 0, 1) := by decide +kernel
theorem dX12_init_5 : decode cX12_init 5 = .ok (.bipush 73, 2) := by decide +kernel
theorem dX12_init_7 : decode cX12_init 7 = .ok (.newarray .int, 2) := by decide +kernel
theorem dX12_init_9 : decode cX12_init 9 = .ok (.putfield 7, 3) := by decide +kernel
theorem dX12_init_12 : decode cX12_init 12 = .ok (.aload_n 0, 1) := by decide +kernel
theorem dX12_init_13 : decode cX12_init 13 = .ok (.bipush 73, 2) := by decide +kernel
theorem dX12_init_15 : decode cX12_init 15 = .ok (.newarray .int, 2) := by decide +kernel
theorem dX12_init_17 : decode cX12_init 17 = .ok (.putfield 13, 3) := by decide +kernel
theorem dX12_init_20 : decode cX12_init 20 = .ok (.aload_n 0, 1) := by decide +kernel
theorem dX12_init_21 : decode cX12_init 21 = .ok (.bipush 73, 2) := by decide +kernel
theorem dX12_init_23 : decode cX12_init 23 = .ok (.newarray .int, 2) := by decide +kernel
theorem dX12_init_25 : decode cX12_init 25 = .ok (.putfield 16, 3) := by decide +kernel
theorem dX12_init_28 : decode cX12_init 28 = .ok (.aload_n 0, 1) := by decide +kernel
theorem dX12_init_29 : decode cX12_init 29 = .ok (.bipush 73, 2) := by decide +kernel
theorem dX12_init_31 : decode cX12_init 31 = .ok (.newarray .int, 2) := by decide +kernel
theorem dX12_init_33 : decode cX12_init 33 = .ok (.putfield 19, 3) := by decide +kernel
theorem dX12_init_36 : decode cX12_init 36 = .ok (.aload_n 0, 1) := by decide +kernel
theorem dX12_init_37 : decode cX12_init 37 = .ok (.bipush 7, 2) := by decide +kernel
theorem dX12_init_39 : decode cX12_init 39 = .ok (.newarray .int, 2) := by decide +kernel
theorem dX12_init_41 : decode cX12_init 41 = .ok (.putfield 22, 3) := by decide +kernel
theorem dX12_init_44 : decode cX12_init 44 = .ok (.aload_n 0, 1) := by decide +kernel
theorem dX12_init_45 : decode cX12_init 45 = .ok (.bipush 120, 2) := by decide +kernel
theorem dX12_init_47 : decode cX12_init 47 = .ok (.newarray .int, 2) := by decide +kernel
theorem dX12_init_49 : decode cX12_init 49 = .ok (.putfield 25, 3) := by decide +kernel
theorem dX12_init_52 : decode cX12_init 52 = .ok (.aload_n 0, 1) := by decide +kernel
theorem dX12_init_53 : decode cX12_init 53 = .ok (.iconst 4, 1) := by decide +kernel
theorem dX12_init_54 : decode cX12_init 54 = .ok (.newarray .int, 2) := by decide +kernel
theorem dX12_init_56 : decode cX12_init 56 = .ok (.putfield 28, 3) := by decide +kernel
theorem dX12_init_59 : decode cX12_init 59 = .ok (.aload_n 0, 1) := by decide +kernel
theorem dX12_init_60 : decode cX12_init 60 = .ok (.iconst 4, 1) := by decide +kernel
theorem dX12_init_61 : decode cX12_init 61 = .ok (.newarray .int, 2) := by decide +kernel
theorem dX12_init_63 : decode cX12_init 63 = .ok (.putfield 31, 3) := by decide +kernel
theorem dX12_init_66 : decode cX12_init 66 = .ok (.aload_n 0, 1) := by decide +kernel
theorem dX12_init_67 : decode cX12_init 67 = .ok (.sipush 160, 3) := by decide +kernel
theorem dX12_init_70 : decode cX12_init 70 = .ok (.newarray .long, 2) := by decide +kernel
theorem dX12_init_72 : decode cX12_init 72 = .ok (.putfield 34, 3) := by decide +kernel
theorem dX12_init_75 : decode cX12_init 75 = .ok (.aload_n 0, 1) := by decide +kernel
theorem dX12_init_76 : decode cX12_init 76 = .ok (.bipush 40, 2) := by decide +kernel
theorem dX12_init_78 : decode cX12_init 78 = .ok (.newarray .long, 2) := by decide +kernel
theorem dX12_init_80 : decode cX12_init 80 = .ok (.putfield 38, 3) := by decide +kernel
theorem dX12_init_83 : decode cX12_init 83 = .ok (.aload_n 0, 1) := by decide +kernel
theorem dX12_init_84 : decode cX12_init 84 = .ok (.getfield 7, 3) := by decide +kernel
theorem dX12_init_87 : decode cX12_init 87 = .ok (.iconst 3, 1) := by decide +kernel
theorem dX12_init_88 : decode cX12_init 88 = .ok (.bipush 40, 2) := by decide +kernel
theorem dX12_init_90 : decode cX12_init 90 = .ok (.iastore, 1) := by decide +kernel
theorem dX12_init_91 : decode cX12_init 91 = .ok (.return_, 1) := by decide +kernel
theorem dX12_in_0 : decode cX12_in 0 = .ok (.lload_n 0, 1) := by decide +kernel
theorem dX12_in_1 : decode cX12_in 1 = .ok (.lload_n 2, 1) := by decide +kernel
theorem dX12_in_2 : decode cX12_in 2 = .ok (.lcmp, 1) := by decide +kernel
theorem dX12_in_3 : decode cX12_in 3 = .ok (.ifCond .lt 14, 3) := by decide +kernel
theorem dX12_in_6 : decode cX12_in 6 = .ok (.lload_n 0, 1) := by decide +kernel
theorem dX12_in_7 : decode cX12_in 7 = .ok (.lload 4, 2) := by decide +kernel
theorem dX12_in_9 : decode cX12_in 9 = .ok (.lcmp, 1) := by decide +kernel
theorem dX12_in_10 : decode cX12_in 10 = .ok (.ifCond .gt 7, 3) := by decide +kernel
theorem dX12_in_13 : decode cX12_in 13 = .ok (.iconst 1, 1) := by decide +kernel
theorem dX12_in_14 : decode cX12_in 14 = .ok (.goto 4, 3) := by decide +kernel
theorem dX12_in_17 : decode cX12_in 17 = .ok (.iconst 0, 1) := by decide +kernel
theorem dX12_in_18 : decode cX12_in 18 = .ok (.ireturn, 1) := by decide +kernel
theorem dX12_finds_0 : decode cX12_finds 0 = .ok (.aload_n 0, 1) := by decide +kernel
theorem dX12_finds_1 : decode cX12_finds 1 = .ok (.getfield 22, 3) := by decide +kernel
theorem dX12_finds_4 : decode cX12_finds 4 = .ok (.ldc 41, 2) := by decide +kernel
theorem dX12_finds_6 : decode cX12_finds 6 = .ok (.iload_n 1, 1) := by decide +kernel
theorem dX12_finds_7 : decode cX12_finds 7 = .ok (.isub, 1) := by decide +kernel
theorem dX12_finds_8 : decode cX12_finds 8 = .ok (.dup2, 1) := by decide +kernel
theorem dX12_finds_9 : decode cX12_finds 9 = .ok (.iaload, 1) := by decide +kernel
theorem dX12_finds_10 : decode cX12_finds 10 = .ok (.iconst 1, 1) := by decide +kernel
theorem dX12_finds_11 : decode cX12_finds 11 = .ok (.iadd, 1) := by decide +kernel
theorem dX12_finds_12 : decode cX12_finds 12 = .ok (.iastore, 1) := by decide +kernel
theorem dX12_finds_13 : decode cX12_finds 13 = .ok (.iload_n 1, 1) := by decide +kernel
theorem dX12_finds_14 : decode cX12_finds 14 = .ok (.ireturn, 1) := by decide +kernel
theorem dX12_saves_0 : decode cX12_saves 0 = .ok (.iconst 0, 1) := by decide +kernel
theorem dX12_saves_1 : decode cX12_saves 1 = .ok (.istore_n 1, 1) := by decide +kernel
theorem dX12_saves_2 : decode cX12_saves 2 = .ok (.iload_n 1, 1) := by decide +kernel
theorem dX12_saves_3 : decode cX12_saves 3 = .ok (.bipush 73, 2) := by decide +kernel
theorem dX12_saves_5 : decode cX12_saves 5 = .ok (.if_icmp .ge 21, 3) := by decide +kernel
theorem dX12_saves_8 : decode cX12_saves 8 = .ok (.aload_n 0, 1) := by decide +kernel
theorem dX12_saves_9 : decode cX12_saves 9 = .ok (.getfield 16, 3) := by decide +kernel
theorem dX12_saves_12 : decode cX12_saves 12 = .ok (.iload_n 1, 1) := by decide +kernel
theorem dX12_saves_13 : decode cX12_saves 13 = .ok (.aload_n 0, 1) := by decide +kernel
theorem dX12_saves_14 : decode cX12_saves 14 = .ok (.getfield 7, 3) := by decide +kernel
theorem dX12_saves_17 : decode cX12_saves 17 = .ok (.iload_n 1, 1) := by decide +kernel
theorem dX12_saves_18 : decode cX12_saves 18 = .ok (.iaload, 1) := by decide +kernel
theorem dX12_saves_19 : decode cX12_saves 19 = .ok (.iastore, 1) := by decide +kernel
theorem dX12_saves_20 : decode cX12_saves 20 = .ok (.iinc 1 1, 3) := by decide +kernel
theorem dX12_saves_23 : decode cX12_saves 23 = .ok (.goto (-21), 3) := by decide +kernel
theorem dX12_saves_26 : decode cX12_saves 26 = .ok (.return_, 1) := by decide +kernel
theorem dX12_putsBack_0 : decode cX12_putsBack 0 = .ok (.iconst 0, 1) := by decide +kernel
theorem dX12_putsBack_1 : decode cX12_putsBack 1 = .ok (.istore_n 1, 1) := by decide +kernel
theorem dX12_putsBack_2 : decode cX12_putsBack 2 = .ok (.iload_n 1, 1) := by decide +kernel
theorem dX12_putsBack_3 : decode cX12_putsBack 3 = .ok (.bipush 73, 2) := by decide +kernel
theorem dX12_putsBack_5 : decode cX12_putsBack 5 = .ok (.if_icmp .ge 21, 3) := by decide +kernel
theorem dX12_putsBack_8 : decode cX12_putsBack 8 = .ok (.aload_n 0, 1) := by decide +kernel
theorem dX12_putsBack_9 : decode cX12_putsBack 9 = .ok (.getfield 7, 3) := by decide +kernel
theorem dX12_putsBack_12 : decode cX12_putsBack 12 = .ok (.iload_n 1, 1) := by decide +kernel
theorem dX12_putsBack_13 : decode cX12_putsBack 13 = .ok (.aload_n 0, 1) := by decide +kernel
theorem dX12_putsBack_14 : decode cX12_putsBack 14 = .ok (.getfield 16, 3) := by decide +kernel
theorem dX12_putsBack_17 : decode cX12_putsBack 17 = .ok (.iload_n 1, 1) := by decide +kernel
theorem dX12_putsBack_18 : decode cX12_putsBack 18 = .ok (.iaload, 1) := by decide +kernel
theorem dX12_putsBack_19 : decode cX12_putsBack 19 = .ok (.iastore, 1) := by decide +kernel
theorem dX12_putsBack_20 : decode cX12_putsBack 20 = .ok (.iinc 1 1, 3) := by decide +kernel
theorem dX12_putsBack_23 : decode cX12_putsBack 23 = .ok (.goto (-21), 3) := by decide +kernel
theorem dX12_putsBack_26 : decode cX12_putsBack 26 = .ok (.return_, 1) := by decide +kernel
theorem dX12_laysAside_0 : decode cX12_laysAside 0 = .ok (.iconst 0, 1) := by decide +kernel
theorem dX12_laysAside_1 : decode cX12_laysAside 1 = .ok (.istore_n 1, 1) := by decide +kernel
theorem dX12_laysAside_2 : decode cX12_laysAside 2 = .ok (.iload_n 1, 1) := by decide +kernel
theorem dX12_laysAside_3 : decode cX12_laysAside 3 = .ok (.bipush 73, 2) := by decide +kernel
theorem dX12_laysAside_5 : decode cX12_laysAside 5 = .ok (.if_icmp .ge 21, 3) := by decide +kernel
theorem dX12_laysAside_8 : decode cX12_laysAside 8 = .ok (.aload_n 0, 1) := by decide +kernel
theorem dX12_laysAside_9 : decode cX12_laysAside 9 = .ok (.getfield 19, 3) := by decide +kernel
theorem dX12_laysAside_12 : decode cX12_laysAside 12 = .ok (.iload_n 1, 1) := by decide +kernel
theorem dX12_laysAside_13 : decode cX12_laysAside 13 = .ok (.aload_n 0, 1) := by decide +kernel
theorem dX12_laysAside_14 : decode cX12_laysAside 14 = .ok (.getfield 7, 3) := by decide +kernel
theorem dX12_laysAside_17 : decode cX12_laysAside 17 = .ok (.iload_n 1, 1) := by decide +kernel
theorem dX12_laysAside_18 : decode cX12_laysAside 18 = .ok (.iaload, 1) := by decide +kernel
theorem dX12_laysAside_19 : decode cX12_laysAside 19 = .ok (.iastore, 1) := by decide +kernel
theorem dX12_laysAside_20 : decode cX12_laysAside 20 = .ok (.iinc 1 1, 3) := by decide +kernel
theorem dX12_laysAside_23 : decode cX12_laysAside 23 = .ok (.goto (-21), 3) := by decide +kernel
theorem dX12_laysAside_26 : decode cX12_laysAside 26 = .ok (.return_, 1) := by decide +kernel
theorem dX12_takesBack_0 : decode cX12_takesBack 0 = .ok (.iconst 0, 1) := by decide +kernel
theorem dX12_takesBack_1 : decode cX12_takesBack 1 = .ok (.istore_n 2, 1) := by decide +kernel
theorem dX12_takesBack_2 : decode cX12_takesBack 2 = .ok (.iload_n 2, 1) := by decide +kernel
theorem dX12_takesBack_3 : decode cX12_takesBack 3 = .ok (.bipush 73, 2) := by decide +kernel
theorem dX12_takesBack_5 : decode cX12_takesBack 5 = .ok (.if_icmp .ge 21, 3) := by decide +kernel
theorem dX12_takesBack_8 : decode cX12_takesBack 8 = .ok (.aload_n 0, 1) := by decide +kernel
theorem dX12_takesBack_9 : decode cX12_takesBack 9 = .ok (.getfield 7, 3) := by decide +kernel
theorem dX12_takesBack_12 : decode cX12_takesBack 12 = .ok (.iload_n 2, 1) := by decide +kernel
theorem dX12_takesBack_13 : decode cX12_takesBack 13 = .ok (.aload_n 0, 1) := by decide +kernel
theorem dX12_takesBack_14 : decode cX12_takesBack 14 = .ok (.getfield 19, 3) := by decide +kernel
theorem dX12_takesBack_17 : decode cX12_takesBack 17 = .ok (.iload_n 2, 1) := by decide +kernel
theorem dX12_takesBack_18 : decode cX12_takesBack 18 = .ok (.iaload, 1) := by decide +kernel
theorem dX12_takesBack_19 : decode cX12_takesBack 19 = .ok (.iastore, 1) := by decide +kernel
theorem dX12_takesBack_20 : decode cX12_takesBack 20 = .ok (.iinc 2 1, 3) := by decide +kernel
theorem dX12_takesBack_23 : decode cX12_takesBack 23 = .ok (.goto (-21), 3) := by decide +kernel
theorem dX12_takesBack_26 : decode cX12_takesBack 26 = .ok (.iload_n 1, 1) := by decide +kernel
theorem dX12_takesBack_27 : decode cX12_takesBack 27 = .ok (.ireturn, 1) := by decide +kernel
theorem dX12_becomes_0 : decode cX12_becomes 0 = .ok (.aload_n 0, 1) := by decide +kernel
theorem dX12_becomes_1 : decode cX12_becomes 1 = .ok (.getfield 7, 3) := by decide +kernel
theorem dX12_becomes_4 : decode cX12_becomes 4 = .ok (.iload_n 1, 1) := by decide +kernel
theorem dX12_becomes_5 : decode cX12_becomes 5 = .ok (.iaload, 1) := by decide +kernel
theorem dX12_becomes_6 : decode cX12_becomes 6 = .ok (.istore_n 3, 1) := by decide +kernel
theorem dX12_becomes_7 : decode cX12_becomes 7 = .ok (.aload_n 0, 1) := by decide +kernel
theorem dX12_becomes_8 : decode cX12_becomes 8 = .ok (.getfield 7, 3) := by decide +kernel
theorem dX12_becomes_11 : decode cX12_becomes 11 = .ok (.iload_n 1, 1) := by decide +kernel
theorem dX12_becomes_12 : decode cX12_becomes 12 = .ok (.iload_n 2, 1) := by decide +kernel
theorem dX12_becomes_13 : decode cX12_becomes 13 = .ok (.iastore, 1) := by decide +kernel
theorem dX12_becomes_14 : decode cX12_becomes 14 = .ok (.iload_n 3, 1) := by decide +kernel
theorem dX12_becomes_15 : decode cX12_becomes 15 = .ok (.ireturn, 1) := by decide +kernel
theorem dX12_spot_0 : decode cX12_spot 0 = .ok (.iconst 5, 1) := by decide +kernel
theorem dX12_spot_1 : decode cX12_spot 1 = .ok (.bipush 7, 2) := by decide +kernel
theorem dX12_spot_3 : decode cX12_spot 3 = .ok (.iload_n 0, 1) := by decide +kernel
theorem dX12_spot_4 : decode cX12_spot 4 = .ok (.imul, 1) := by decide +kernel
theorem dX12_spot_5 : decode cX12_spot 5 = .ok (.iadd, 1) := by decide +kernel
theorem dX12_spot_6 : decode cX12_spot 6 = .ok (.iload_n 1, 1) := by decide +kernel
theorem dX12_spot_7 : decode cX12_spot 7 = .ok (.iadd, 1) := by decide +kernel
theorem dX12_spot_8 : decode cX12_spot 8 = .ok (.ireturn, 1) := by decide +kernel
theorem dX12_its_0 : decode cX12_its 0 = .ok (.aload_n 0, 1) := by decide +kernel
theorem dX12_its_1 : decode cX12_its 1 = .ok (.getfield 7, 3) := by decide +kernel
theorem dX12_its_4 : decode cX12_its 4 = .ok (.iload_n 1, 1) := by decide +kernel
theorem dX12_its_5 : decode cX12_its 5 = .ok (.iload_n 2, 1) := by decide +kernel
theorem dX12_its_6 : decode cX12_its 6 = .ok (.invokestatic 42, 3) := by decide +kernel
theorem dX12_its_9 : decode cX12_its 9 = .ok (.iaload, 1) := by decide +kernel
theorem dX12_its_10 : decode cX12_its 10 = .ok (.ireturn, 1) := by decide +kernel
theorem dX12_sizeOfOne_0 : decode cX12_sizeOfOne 0 = .ok (.aload_n 0, 1) := by decide +kernel
theorem dX12_sizeOfOne_1 : decode cX12_sizeOfOne 1 = .ok (.getfield 7, 3) := by decide +kernel
theorem dX12_sizeOfOne_4 : decode cX12_sizeOfOne 4 = .ok (.bipush 61, 2) := by decide +kernel
theorem dX12_sizeOfOne_6 : decode cX12_sizeOfOne 6 = .ok (.iconst 2, 1) := by decide +kernel
theorem dX12_sizeOfOne_7 : decode cX12_sizeOfOne 7 = .ok (.iload_n 1, 1) := by decide +kernel
theorem dX12_sizeOfOne_8 : decode cX12_sizeOfOne 8 = .ok (.imul, 1) := by decide +kernel
theorem dX12_sizeOfOne_9 : decode cX12_sizeOfOne 9 = .ok (.iadd, 1) := by decide +kernel
theorem dX12_sizeOfOne_10 : decode cX12_sizeOfOne 10 = .ok (.iload_n 2, 1) := by decide +kernel
theorem dX12_sizeOfOne_11 : decode cX12_sizeOfOne 11 = .ok (.iadd, 1) := by decide +kernel
theorem dX12_sizeOfOne_12 : decode cX12_sizeOfOne 12 = .ok (.iaload, 1) := by decide +kernel
theorem dX12_sizeOfOne_13 : decode cX12_sizeOfOne 13 = .ok (.ireturn, 1) := by decide +kernel
theorem dX12_isGarment_0 : decode cX12_isGarment 0 = .ok (.iload_n 1, 1) := by decide +kernel
theorem dX12_isGarment_1 : decode cX12_isGarment 1 = .ok (.i2l, 1) := by decide +kernel
theorem dX12_isGarment_2 : decode cX12_isGarment 2 = .ok (.lconst 0, 1) := by decide +kernel
theorem dX12_isGarment_3 : decode cX12_isGarment 3 = .ok (.aload_n 0, 1) := by decide +kernel
theorem dX12_isGarment_4 : decode cX12_isGarment 4 = .ok (.getfield 7, 3) := by decide +kernel
theorem dX12_isGarment_7 : decode cX12_isGarment 7 = .ok (.iconst 1, 1) := by decide +kernel
theorem dX12_isGarment_8 : decode cX12_isGarment 8 = .ok (.iaload, 1) := by decide +kernel
theorem dX12_isGarment_9 : decode cX12_isGarment 9 = .ok (.iconst 1, 1) := by decide +kernel
theorem dX12_isGarment_10 : decode cX12_isGarment 10 = .ok (.isub, 1) := by decide +kernel
theorem dX12_isGarment_11 : decode cX12_isGarment 11 = .ok (.i2l, 1) := by decide +kernel
theorem dX12_isGarment_12 : decode cX12_isGarment 12 = .ok (.invokestatic 46, 3) := by decide +kernel
theorem dX12_isGarment_15 : decode cX12_isGarment 15 = .ok (.ireturn, 1) := by decide +kernel
theorem dX12_isPerson_0 : decode cX12_isPerson 0 = .ok (.iload_n 1, 1) := by decide +kernel
theorem dX12_isPerson_1 : decode cX12_isPerson 1 = .ok (.i2l, 1) := by decide +kernel
theorem dX12_isPerson_2 : decode cX12_isPerson 2 = .ok (.lconst 0, 1) := by decide +kernel
theorem dX12_isPerson_3 : decode cX12_isPerson 3 = .ok (.aload_n 0, 1) := by decide +kernel
theorem dX12_isPerson_4 : decode cX12_isPerson 4 = .ok (.getfield 7, 3) := by decide +kernel
theorem dX12_isPerson_7 : decode cX12_isPerson 7 = .ok (.iconst 2, 1) := by decide +kernel
theorem dX12_isPerson_8 : decode cX12_isPerson 8 = .ok (.iaload, 1) := by decide +kernel
theorem dX12_isPerson_9 : decode cX12_isPerson 9 = .ok (.iconst 1, 1) := by decide +kernel
theorem dX12_isPerson_10 : decode cX12_isPerson 10 = .ok (.isub, 1) := by decide +kernel
theorem dX12_isPerson_11 : decode cX12_isPerson 11 = .ok (.i2l, 1) := by decide +kernel
theorem dX12_isPerson_12 : decode cX12_isPerson 12 = .ok (.invokestatic 46, 3) := by decide +kernel
theorem dX12_isPerson_15 : decode cX12_isPerson 15 = .ok (.ireturn, 1) := by decide +kernel
theorem dX12_isKind_0 : decode cX12_isKind 0 = .ok (.iload_n 0, 1) := by decide +kernel
theorem dX12_isKind_1 : decode cX12_isKind 1 = .ok (.i2l, 1) := by decide +kernel
theorem dX12_isKind_2 : decode cX12_isKind 2 = .ok (.lconst 0, 1) := by decide +kernel
theorem dX12_isKind_3 : decode cX12_isKind 3 = .ok (.ldc2_w 50, 3) := by decide +kernel
theorem dX12_isKind_6 : decode cX12_isKind 6 = .ok (.invokestatic 46, 3) := by decide +kernel
theorem dX12_isKind_9 : decode cX12_isKind 9 = .ok (.ireturn, 1) := by decide +kernel
theorem dX12_isSize_0 : decode cX12_isSize 0 = .ok (.lload_n 0, 1) := by decide +kernel
theorem dX12_isSize_1 : decode cX12_isSize 1 = .ok (.ldc2_w 52, 3) := by decide +kernel
theorem dX12_isSize_4 : decode cX12_isSize 4 = .ok (.ldc2_w 54, 3) := by decide +kernel
theorem dX12_isSize_7 : decode cX12_isSize 7 = .ok (.invokestatic 46, 3) := by decide +kernel
theorem dX12_isSize_10 : decode cX12_isSize 10 = .ok (.ireturn, 1) := by decide +kernel
theorem dX12_held_0 : decode cX12_held 0 = .ok (.iload_n 0, 1) := by decide +kernel
theorem dX12_held_1 : decode cX12_held 1 = .ok (.iload_n 1, 1) := by decide +kernel
theorem dX12_held_2 : decode cX12_held 2 = .ok (.if_icmp .ge 7, 3) := by decide +kernel
theorem dX12_held_5 : decode cX12_held 5 = .ok (.iload_n 1, 1) := by decide +kernel
theorem dX12_held_6 : decode cX12_held 6 = .ok (.goto 13, 3) := by decide +kernel
theorem dX12_held_9 : decode cX12_held 9 = .ok (.iload_n 0, 1) := by decide +kernel
theorem dX12_held_10 : decode cX12_held 10 = .ok (.iload_n 2, 1) := by decide +kernel
theorem dX12_held_11 : decode cX12_held 11 = .ok (.if_icmp .le 7, 3) := by decide +kernel
theorem dX12_held_14 : decode cX12_held 14 = .ok (.iload_n 2, 1) := by decide +kernel
theorem dX12_held_15 : decode cX12_held 15 = .ok (.goto 4, 3) := by decide +kernel
theorem dX12_held_18 : decode cX12_held 18 = .ok (.iload_n 0, 1) := by decide +kernel
theorem dX12_held_19 : decode cX12_held 19 = .ok (.ireturn, 1) := by decide +kernel
theorem dX12_machine_0 : decode cX12_machine 0 = .ok (.iload_n 1, 1) := by decide +kernel
theorem dX12_machine_1 : decode cX12_machine 1 = .ok (.ifCond .ne 17, 3) := by decide +kernel
theorem dX12_machine_4 : decode cX12_machine 4 = .ok (.iload_n 2, 1) := by decide +kernel
theorem dX12_machine_5 : decode cX12_machine 5 = .ok (.i2l, 1) := by decide +kernel
theorem dX12_machine_6 : decode cX12_machine 6 = .ok (.ldc2_w 56, 3) := by decide +kernel
theorem dX12_machine_9 : decode cX12_machine 9 = .ok (.ldc2_w 58, 3) := by decide +kernel
theorem dX12_machine_12 : decode cX12_machine 12 = .ok (.invokestatic 46, 3) := by decide +kernel
theorem dX12_machine_15 : decode cX12_machine 15 = .ok (.goto 23, 3) := by decide +kernel
theorem dX12_machine_18 : decode cX12_machine 18 = .ok (.iload_n 1, 1) := by decide +kernel
theorem dX12_machine_19 : decode cX12_machine 19 = .ok (.iconst 1, 1) := by decide +kernel
theorem dX12_machine_20 : decode cX12_machine 20 = .ok (.if_icmp .ne 17, 3) := by decide +kernel
theorem dX12_machine_23 : decode cX12_machine 23 = .ok (.iload_n 2, 1) := by decide +kernel
theorem dX12_machine_24 : decode cX12_machine 24 = .ok (.i2l, 1) := by decide +kernel
theorem dX12_machine_25 : decode cX12_machine 25 = .ok (.lconst 0, 1) := by decide +kernel
theorem dX12_machine_26 : decode cX12_machine 26 = .ok (.lconst 1, 1) := by decide +kernel
theorem dX12_machine_27 : decode cX12_machine 27 = .ok (.invokestatic 46, 3) := by decide +kernel
theorem dX12_machine_30 : decode cX12_machine 30 = .ok (.ifCond .eq 7, 3) := by decide +kernel
theorem dX12_machine_33 : decode cX12_machine 33 = .ok (.iconst 1, 1) := by decide +kernel
theorem dX12_machine_34 : decode cX12_machine 34 = .ok (.goto 4, 3) := by decide +kernel
theorem dX12_machine_37 : decode cX12_machine 37 = .ok (.iconst 0, 1) := by decide +kernel
theorem dX12_machine_38 : decode cX12_machine 38 = .ok (.istore_n 3, 1) := by decide +kernel
theorem dX12_machine_39 : decode cX12_machine 39 = .ok (.iload_n 3, 1) := by decide +kernel
theorem dX12_machine_40 : decode cX12_machine 40 = .ok (.ifCond .eq 14, 3) := by decide +kernel
theorem dX12_machine_43 : decode cX12_machine 43 = .ok (.aload_n 0, 1) := by decide +kernel
theorem dX12_machine_44 : decode cX12_machine 44 = .ok (.iconst 3, 1) := by decide +kernel
theorem dX12_machine_45 : decode cX12_machine 45 = .ok (.iload_n 1, 1) := by decide +kernel
theorem dX12_machine_46 : decode cX12_machine 46 = .ok (.iadd, 1) := by decide +kernel
theorem dX12_machine_47 : decode cX12_machine 47 = .ok (.iload_n 2, 1) := by decide +kernel
theorem dX12_machine_48 : decode cX12_machine 48 = .ok (.invokevirtual 60, 3) := by decide +kernel
theorem dX12_machine_51 : decode cX12_machine 51 = .ok (.goto 9, 3) := by decide +kernel
theorem dX12_machine_54 : decode cX12_machine 54 = .ok (.aload_n 0, 1) := by decide +kernel
theorem dX12_machine_55 : decode cX12_machine 55 = .ok (.ldc 41, 2) := by decide +kernel
theorem dX12_machine_57 : decode cX12_machine 57 = .ok (.invokevirtual 63, 3) := by decide +kernel
theorem dX12_machine_60 : decode cX12_machine 60 = .ok (.ireturn, 1) := by decide +kernel
theorem dX12_isFitting_0 : decode cX12_isFitting 0 = .ok (.aload_n 0, 1) := by decide +kernel
theorem dX12_isFitting_1 : decode cX12_isFitting 1 = .ok (.iload_n 1, 1) := by decide +kernel
theorem dX12_isFitting_2 : decode cX12_isFitting 2 = .ok (.iconst 1, 1) := by decide +kernel
theorem dX12_isFitting_3 : decode cX12_isFitting 3 = .ok (.invokevirtual 67, 3) := by decide +kernel
theorem dX12_isFitting_6 : decode cX12_isFitting 6 = .ok (.aload_n 0, 1) := by decide +kernel
theorem dX12_isFitting_7 : decode cX12_isFitting 7 = .ok (.iload_n 2, 1) := by decide +kernel
theorem dX12_isFitting_8 : decode cX12_isFitting 8 = .ok (.iconst 0, 1) := by decide +kernel
theorem dX12_isFitting_9 : decode cX12_isFitting 9 = .ok (.invokevirtual 70, 3) := by decide +kernel
theorem dX12_isFitting_12 : decode cX12_isFitting 12 = .ok (.isub, 1) := by decide +kernel
theorem dX12_isFitting_13 : decode cX12_isFitting 13 = .ok (.istore_n 3, 1) := by decide +kernel
theorem dX12_isFitting_14 : decode cX12_isFitting 14 = .ok (.aload_n 0, 1) := by decide +kernel
theorem dX12_isFitting_15 : decode cX12_isFitting 15 = .ok (.iload_n 1, 1) := by decide +kernel
theorem dX12_isFitting_16 : decode cX12_isFitting 16 = .ok (.iconst 2, 1) := by decide +kernel
theorem dX12_isFitting_17 : decode cX12_isFitting 17 = .ok (.invokevirtual 67, 3) := by decide +kernel
theorem dX12_isFitting_20 : decode cX12_isFitting 20 = .ok (.aload_n 0, 1) := by decide +kernel
theorem dX12_isFitting_21 : decode cX12_isFitting 21 = .ok (.iload_n 2, 1) := by decide +kernel
theorem dX12_isFitting_22 : decode cX12_isFitting 22 = .ok (.iconst 1, 1) := by decide +kernel
theorem dX12_isFitting_23 : decode cX12_isFitting 23 = .ok (.invokevirtual 70, 3) := by decide +kernel
theorem dX12_isFitting_26 : decode cX12_isFitting 26 = .ok (.isub, 1) := by decide +kernel
theorem dX12_isFitting_27 : decode cX12_isFitting 27 = .ok (.istore 4, 2) := by decide +kernel
theorem dX12_isFitting_29 : decode cX12_isFitting 29 = .ok (.aload_n 0, 1) := by decide +kernel
theorem dX12_isFitting_30 : decode cX12_isFitting 30 = .ok (.iload_n 1, 1) := by decide +kernel
theorem dX12_isFitting_31 : decode cX12_isFitting 31 = .ok (.iconst 4, 1) := by decide +kernel
theorem dX12_isFitting_32 : decode cX12_isFitting 32 = .ok (.invokevirtual 67, 3) := by decide +kernel
theorem dX12_isFitting_35 : decode cX12_isFitting 35 = .ok (.ifCond .ne 42, 3) := by decide +kernel
theorem dX12_isFitting_38 : decode cX12_isFitting 38 = .ok (.aload_n 0, 1) := by decide +kernel
theorem dX12_isFitting_39 : decode cX12_isFitting 39 = .ok (.iload_n 1, 1) := by decide +kernel
theorem dX12_isFitting_40 : decode cX12_isFitting 40 = .ok (.bipush 6, 2) := by decide +kernel
theorem dX12_isFitting_42 : decode cX12_isFitting 42 = .ok (.invokevirtual 67, 3) := by decide +kernel
theorem dX12_isFitting_45 : decode cX12_isFitting 45 = .ok (.ifCond .ne 32, 3) := by decide +kernel
theorem dX12_isFitting_48 : decode cX12_isFitting 48 = .ok (.iload_n 3, 1) := by decide +kernel
theorem dX12_isFitting_49 : decode cX12_isFitting 49 = .ok (.i2l, 1) := by decide +kernel
theorem dX12_isFitting_50 : decode cX12_isFitting 50 = .ok (.lconst 0, 1) := by decide +kernel
theorem dX12_isFitting_51 : decode cX12_isFitting 51 = .ok (.ldc2_w 52, 3) := by decide +kernel
theorem dX12_isFitting_54 : decode cX12_isFitting 54 = .ok (.invokestatic 46, 3) := by decide +kernel
theorem dX12_isFitting_57 : decode cX12_isFitting 57 = .ok (.ifCond .eq 20, 3) := by decide +kernel
theorem dX12_isFitting_60 : decode cX12_isFitting 60 = .ok (.iload 4, 2) := by decide +kernel
theorem dX12_isFitting_62 : decode cX12_isFitting 62 = .ok (.i2l, 1) := by decide +kernel
theorem dX12_isFitting_63 : decode cX12_isFitting 63 = .ok (.lconst 0, 1) := by decide +kernel
theorem dX12_isFitting_64 : decode cX12_isFitting 64 = .ok (.ldc2_w 73, 3) := by decide +kernel
theorem dX12_isFitting_67 : decode cX12_isFitting 67 = .ok (.invokestatic 46, 3) := by decide +kernel
theorem dX12_isFitting_70 : decode cX12_isFitting 70 = .ok (.ifCond .eq 7, 3) := by decide +kernel
theorem dX12_isFitting_73 : decode cX12_isFitting 73 = .ok (.iconst 1, 1) := by decide +kernel
theorem dX12_isFitting_74 : decode cX12_isFitting 74 = .ok (.goto 4, 3) := by decide +kernel
theorem dX12_isFitting_77 : decode cX12_isFitting 77 = .ok (.iconst 0, 1) := by decide +kernel
theorem dX12_isFitting_78 : decode cX12_isFitting 78 = .ok (.ireturn, 1) := by decide +kernel
theorem dX12_wetOnes_0 : decode cX12_wetOnes 0 = .ok (.iconst 0, 1) := by decide +kernel
theorem dX12_wetOnes_1 : decode cX12_wetOnes 1 = .ok (.istore_n 1, 1) := by decide +kernel
theorem dX12_wetOnes_2 : decode cX12_wetOnes 2 = .ok (.iconst 0, 1) := by decide +kernel
theorem dX12_wetOnes_3 : decode cX12_wetOnes 3 = .ok (.istore_n 2, 1) := by decide +kernel
theorem dX12_wetOnes_4 : decode cX12_wetOnes 4 = .ok (.iload_n 2, 1) := by decide +kernel
theorem dX12_wetOnes_5 : decode cX12_wetOnes 5 = .ok (.aload_n 0, 1) := by decide +kernel
theorem dX12_wetOnes_6 : decode cX12_wetOnes 6 = .ok (.getfield 7, 3) := by decide +kernel
theorem dX12_wetOnes_9 : decode cX12_wetOnes 9 = .ok (.iconst 1, 1) := by decide +kernel
theorem dX12_wetOnes_10 : decode cX12_wetOnes 10 = .ok (.iaload, 1) := by decide +kernel
theorem dX12_wetOnes_11 : decode cX12_wetOnes 11 = .ok (.if_icmp .ge 28, 3) := by decide +kernel
theorem dX12_wetOnes_14 : decode cX12_wetOnes 14 = .ok (.iload_n 1, 1) := by decide +kernel
theorem dX12_wetOnes_15 : decode cX12_wetOnes 15 = .ok (.aload_n 0, 1) := by decide +kernel
theorem dX12_wetOnes_16 : decode cX12_wetOnes 16 = .ok (.iload_n 2, 1) := by decide +kernel
theorem dX12_wetOnes_17 : decode cX12_wetOnes 17 = .ok (.iconst 4, 1) := by decide +kernel
theorem dX12_wetOnes_18 : decode cX12_wetOnes 18 = .ok (.invokevirtual 67, 3) := by decide +kernel
theorem dX12_wetOnes_21 : decode cX12_wetOnes 21 = .ok (.ifCond .le 9, 3) := by decide +kernel
theorem dX12_wetOnes_24 : decode cX12_wetOnes 24 = .ok (.iconst 1, 1) := by decide +kernel
theorem dX12_wetOnes_25 : decode cX12_wetOnes 25 = .ok (.iload_n 2, 1) := by decide +kernel
theorem dX12_wetOnes_26 : decode cX12_wetOnes 26 = .ok (.ishl, 1) := by decide +kernel
theorem dX12_wetOnes_27 : decode cX12_wetOnes 27 = .ok (.goto 4, 3) := by decide +kernel
theorem dX12_wetOnes_30 : decode cX12_wetOnes 30 = .ok (.iconst 0, 1) := by decide +kernel
theorem dX12_wetOnes_31 : decode cX12_wetOnes 31 = .ok (.ior, 1) := by decide +kernel
theorem dX12_wetOnes_32 : decode cX12_wetOnes 32 = .ok (.istore_n 1, 1) := by decide +kernel
theorem dX12_wetOnes_33 : decode cX12_wetOnes 33 = .ok (.iinc 2 1, 3) := by decide +kernel
theorem dX12_wetOnes_36 : decode cX12_wetOnes 36 = .ok (.goto (-32), 3) := by decide +kernel
theorem dX12_wetOnes_39 : decode cX12_wetOnes 39 = .ok (.iload_n 1, 1) := by decide +kernel
theorem dX12_wetOnes_40 : decode cX12_wetOnes 40 = .ok (.ireturn, 1) := by decide +kernel
theorem dX12_holedOnes_0 : decode cX12_holedOnes 0 = .ok (.iconst 0, 1) := by decide +kernel
theorem dX12_holedOnes_1 : decode cX12_holedOnes 1 = .ok (.istore_n 1, 1) := by decide +kernel
theorem dX12_holedOnes_2 : decode cX12_holedOnes 2 = .ok (.iconst 0, 1) := by decide +kernel
theorem dX12_holedOnes_3 : decode cX12_holedOnes 3 = .ok (.istore_n 2, 1) := by decide +kernel
theorem dX12_holedOnes_4 : decode cX12_holedOnes 4 = .ok (.iload_n 2, 1) := by decide +kernel
theorem dX12_holedOnes_5 : decode cX12_holedOnes 5 = .ok (.aload_n 0, 1) := by decide +kernel
theorem dX12_holedOnes_6 : decode cX12_holedOnes 6 = .ok (.getfield 7, 3) := by decide +kernel
theorem dX12_holedOnes_9 : decode cX12_holedOnes 9 = .ok (.iconst 1, 1) := by decide +kernel
theorem dX12_holedOnes_10 : decode cX12_holedOnes 10 = .ok (.iaload, 1) := by decide +kernel
theorem dX12_holedOnes_11 : decode cX12_holedOnes 11 = .ok (.if_icmp .ge 29, 3) := by decide +kernel
theorem dX12_holedOnes_14 : decode cX12_holedOnes 14 = .ok (.iload_n 1, 1) := by decide +kernel
theorem dX12_holedOnes_15 : decode cX12_holedOnes 15 = .ok (.aload_n 0, 1) := by decide +kernel
theorem dX12_holedOnes_16 : decode cX12_holedOnes 16 = .ok (.iload_n 2, 1) := by decide +kernel
theorem dX12_holedOnes_17 : decode cX12_holedOnes 17 = .ok (.bipush 6, 2) := by decide +kernel
theorem dX12_holedOnes_19 : decode cX12_holedOnes 19 = .ok (.invokevirtual 67, 3) := by decide +kernel
theorem dX12_holedOnes_22 : decode cX12_holedOnes 22 = .ok (.ifCond .le 9, 3) := by decide +kernel
theorem dX12_holedOnes_25 : decode cX12_holedOnes 25 = .ok (.iconst 1, 1) := by decide +kernel
theorem dX12_holedOnes_26 : decode cX12_holedOnes 26 = .ok (.iload_n 2, 1) := by decide +kernel
theorem dX12_holedOnes_27 : decode cX12_holedOnes 27 = .ok (.ishl, 1) := by decide +kernel
theorem dX12_holedOnes_28 : decode cX12_holedOnes 28 = .ok (.goto 4, 3) := by decide +kernel
theorem dX12_holedOnes_31 : decode cX12_holedOnes 31 = .ok (.iconst 0, 1) := by decide +kernel
theorem dX12_holedOnes_32 : decode cX12_holedOnes 32 = .ok (.ior, 1) := by decide +kernel
theorem dX12_holedOnes_33 : decode cX12_holedOnes 33 = .ok (.istore_n 1, 1) := by decide +kernel
theorem dX12_holedOnes_34 : decode cX12_holedOnes 34 = .ok (.iinc 2 1, 3) := by decide +kernel
theorem dX12_holedOnes_37 : decode cX12_holedOnes 37 = .ok (.goto (-33), 3) := by decide +kernel
theorem dX12_holedOnes_40 : decode cX12_holedOnes 40 = .ok (.iload_n 1, 1) := by decide +kernel
theorem dX12_holedOnes_41 : decode cX12_holedOnes 41 = .ok (.ireturn, 1) := by decide +kernel
theorem dX12_fittingOnes_0 : decode cX12_fittingOnes 0 = .ok (.iconst 0, 1) := by decide +kernel
theorem dX12_fittingOnes_1 : decode cX12_fittingOnes 1 = .ok (.istore_n 2, 1) := by decide +kernel
theorem dX12_fittingOnes_2 : decode cX12_fittingOnes 2 = .ok (.iconst 0, 1) := by decide +kernel
theorem dX12_fittingOnes_3 : decode cX12_fittingOnes 3 = .ok (.istore_n 3, 1) := by decide +kernel
theorem dX12_fittingOnes_4 : decode cX12_fittingOnes 4 = .ok (.iload_n 3, 1) := by decide +kernel
theorem dX12_fittingOnes_5 : decode cX12_fittingOnes 5 = .ok (.aload_n 0, 1) := by decide +kernel
theorem dX12_fittingOnes_6 : decode cX12_fittingOnes 6 = .ok (.getfield 7, 3) := by decide +kernel
theorem dX12_fittingOnes_9 : decode cX12_fittingOnes 9 = .ok (.iconst 1, 1) := by decide +kernel
theorem dX12_fittingOnes_10 : decode cX12_fittingOnes 10 = .ok (.iaload, 1) := by decide +kernel
theorem dX12_fittingOnes_11 : decode cX12_fittingOnes 11 = .ok (.if_icmp .ge 28, 3) := by decide +kernel
theorem dX12_fittingOnes_14 : decode cX12_fittingOnes 14 = .ok (.iload_n 2, 1) := by decide +kernel
theorem dX12_fittingOnes_15 : decode cX12_fittingOnes 15 = .ok (.aload_n 0, 1) := by decide +kernel
theorem dX12_fittingOnes_16 : decode cX12_fittingOnes 16 = .ok (.iload_n 3, 1) := by decide +kernel
theorem dX12_fittingOnes_17 : decode cX12_fittingOnes 17 = .ok (.iload_n 1, 1) := by decide +kernel
theorem dX12_fittingOnes_18 : decode cX12_fittingOnes 18 = .ok (.invokevirtual 75, 3) := by decide +kernel
theorem dX12_fittingOnes_21 : decode cX12_fittingOnes 21 = .ok (.ifCond .eq 9, 3) := by decide +kernel
theorem dX12_fittingOnes_24 : decode cX12_fittingOnes 24 = .ok (.iconst 1, 1) := by decide +kernel
theorem dX12_fittingOnes_25 : decode cX12_fittingOnes 25 = .ok (.iload_n 3, 1) := by decide +kernel
theorem dX12_fittingOnes_26 : decode cX12_fittingOnes 26 = .ok (.ishl, 1) := by decide +kernel
theorem dX12_fittingOnes_27 : decode cX12_fittingOnes 27 = .ok (.goto 4, 3) := by decide +kernel
theorem dX12_fittingOnes_30 : decode cX12_fittingOnes 30 = .ok (.iconst 0, 1) := by decide +kernel
theorem dX12_fittingOnes_31 : decode cX12_fittingOnes 31 = .ok (.ior, 1) := by decide +kernel
theorem dX12_fittingOnes_32 : decode cX12_fittingOnes 32 = .ok (.istore_n 2, 1) := by decide +kernel
theorem dX12_fittingOnes_33 : decode cX12_fittingOnes 33 = .ok (.iinc 3 1, 3) := by decide +kernel
theorem dX12_fittingOnes_36 : decode cX12_fittingOnes 36 = .ok (.goto (-32), 3) := by decide +kernel
theorem dX12_fittingOnes_39 : decode cX12_fittingOnes 39 = .ok (.iload_n 2, 1) := by decide +kernel
theorem dX12_fittingOnes_40 : decode cX12_fittingOnes 40 = .ok (.ireturn, 1) := by decide +kernel
theorem dX12_fittingAny_0 : decode cX12_fittingAny 0 = .ok (.iconst 0, 1) := by decide +kernel
theorem dX12_fittingAny_1 : decode cX12_fittingAny 1 = .ok (.istore_n 1, 1) := by decide +kernel
theorem dX12_fittingAny_2 : decode cX12_fittingAny 2 = .ok (.iconst 0, 1) := by decide +kernel
theorem dX12_fittingAny_3 : decode cX12_fittingAny 3 = .ok (.istore_n 2, 1) := by decide +kernel
theorem dX12_fittingAny_4 : decode cX12_fittingAny 4 = .ok (.iload_n 2, 1) := by decide +kernel
theorem dX12_fittingAny_5 : decode cX12_fittingAny 5 = .ok (.aload_n 0, 1) := by decide +kernel
theorem dX12_fittingAny_6 : decode cX12_fittingAny 6 = .ok (.getfield 7, 3) := by decide +kernel
theorem dX12_fittingAny_9 : decode cX12_fittingAny 9 = .ok (.iconst 2, 1) := by decide +kernel
theorem dX12_fittingAny_10 : decode cX12_fittingAny 10 = .ok (.iaload, 1) := by decide +kernel
theorem dX12_fittingAny_11 : decode cX12_fittingAny 11 = .ok (.if_icmp .ge 17, 3) := by decide +kernel
theorem dX12_fittingAny_14 : decode cX12_fittingAny 14 = .ok (.iload_n 1, 1) := by decide +kernel
theorem dX12_fittingAny_15 : decode cX12_fittingAny 15 = .ok (.aload_n 0, 1) := by decide +kernel
theorem dX12_fittingAny_16 : decode cX12_fittingAny 16 = .ok (.iload_n 2, 1) := by decide +kernel
theorem dX12_fittingAny_17 : decode cX12_fittingAny 17 = .ok (.invokevirtual 79, 3) := by decide +kernel
theorem dX12_fittingAny_20 : decode cX12_fittingAny 20 = .ok (.ior, 1) := by decide +kernel
theorem dX12_fittingAny_21 : decode cX12_fittingAny 21 = .ok (.istore_n 1, 1) := by decide +kernel
theorem dX12_fittingAny_22 : decode cX12_fittingAny 22 = .ok (.iinc 2 1, 3) := by decide +kernel
theorem dX12_fittingAny_25 : decode cX12_fittingAny 25 = .ok (.goto (-21), 3) := by decide +kernel
theorem dX12_fittingAny_28 : decode cX12_fittingAny 28 = .ok (.iload_n 1, 1) := by decide +kernel
theorem dX12_fittingAny_29 : decode cX12_fittingAny 29 = .ok (.ireturn, 1) := by decide +kernel
theorem dX12_now_0 : decode cX12_now 0 = .ok (.iload_n 1, 1) := by decide +kernel
theorem dX12_now_1 : decode cX12_now 1 = .ok (.tableswitch 75 0 5 #[39, 46, 53, 60, 65, 70], 39) := by decide +kernel
theorem dX12_now_40 : decode cX12_now 40 = .ok (.aload_n 0, 1) := by decide +kernel
theorem dX12_now_41 : decode cX12_now 41 = .ok (.getfield 7, 3) := by decide +kernel
theorem dX12_now_44 : decode cX12_now 44 = .ok (.iconst 0, 1) := by decide +kernel
theorem dX12_now_45 : decode cX12_now 45 = .ok (.iaload, 1) := by decide +kernel
theorem dX12_now_46 : decode cX12_now 46 = .ok (.ireturn, 1) := by decide +kernel
theorem dX12_now_47 : decode cX12_now 47 = .ok (.aload_n 0, 1) := by decide +kernel
theorem dX12_now_48 : decode cX12_now 48 = .ok (.getfield 7, 3) := by decide +kernel
theorem dX12_now_51 : decode cX12_now 51 = .ok (.iconst 3, 1) := by decide +kernel
theorem dX12_now_52 : decode cX12_now 52 = .ok (.iaload, 1) := by decide +kernel
theorem dX12_now_53 : decode cX12_now 53 = .ok (.ireturn, 1) := by decide +kernel
theorem dX12_now_54 : decode cX12_now 54 = .ok (.aload_n 0, 1) := by decide +kernel
theorem dX12_now_55 : decode cX12_now 55 = .ok (.getfield 7, 3) := by decide +kernel
theorem dX12_now_58 : decode cX12_now 58 = .ok (.iconst 4, 1) := by decide +kernel
theorem dX12_now_59 : decode cX12_now 59 = .ok (.iaload, 1) := by decide +kernel
theorem dX12_now_60 : decode cX12_now 60 = .ok (.ireturn, 1) := by decide +kernel
theorem dX12_now_61 : decode cX12_now 61 = .ok (.aload_n 0, 1) := by decide +kernel
theorem dX12_now_62 : decode cX12_now 62 = .ok (.invokevirtual 82, 3) := by decide +kernel
theorem dX12_now_65 : decode cX12_now 65 = .ok (.ireturn, 1) := by decide +kernel
theorem dX12_now_66 : decode cX12_now 66 = .ok (.aload_n 0, 1) := by decide +kernel
theorem dX12_now_67 : decode cX12_now 67 = .ok (.invokevirtual 86, 3) := by decide +kernel
theorem dX12_now_70 : decode cX12_now 70 = .ok (.ireturn, 1) := by decide +kernel
theorem dX12_now_71 : decode cX12_now 71 = .ok (.aload_n 0, 1) := by decide +kernel
theorem dX12_now_72 : decode cX12_now 72 = .ok (.invokevirtual 89, 3) := by decide +kernel
theorem dX12_now_75 : decode cX12_now 75 = .ok (.ireturn, 1) := by decide +kernel
theorem dX12_now_76 : decode cX12_now 76 = .ok (.aload_n 0, 1) := by decide +kernel
theorem dX12_now_77 : decode cX12_now 77 = .ok (.ldc 41, 2) := by decide +kernel
theorem dX12_now_79 : decode cX12_now 79 = .ok (.invokevirtual 63, 3) := by decide +kernel
theorem dX12_now_82 : decode cX12_now 82 = .ok (.ireturn, 1) := by decide +kernel
theorem dX12_shrinksOf_0 : decode cX12_shrinksOf 0 = .ok (.aload_n 0, 1) := by decide +kernel
theorem dX12_shrinksOf_1 : decode cX12_shrinksOf 1 = .ok (.getfield 7, 3) := by decide +kernel
theorem dX12_shrinksOf_4 : decode cX12_shrinksOf 4 = .ok (.iconst 3, 1) := by decide +kernel
theorem dX12_shrinksOf_5 : decode cX12_shrinksOf 5 = .ok (.iaload, 1) := by decide +kernel
theorem dX12_shrinksOf_6 : decode cX12_shrinksOf 6 = .ok (.istore_n 2, 1) := by decide +kernel
theorem dX12_shrinksOf_7 : decode cX12_shrinksOf 7 = .ok (.iload_n 2, 1) := by decide +kernel
theorem dX12_shrinksOf_8 : decode cX12_shrinksOf 8 = .ok (.bipush 40, 2) := by decide +kernel
theorem dX12_shrinksOf_10 : decode cX12_shrinksOf 10 = .ok (.if_icmp .le 12, 3) := by decide +kernel
theorem dX12_shrinksOf_13 : decode cX12_shrinksOf 13 = .ok (.iload_n 2, 1) := by decide +kernel
theorem dX12_shrinksOf_14 : decode cX12_shrinksOf 14 = .ok (.bipush 40, 2) := by decide +kernel
theorem dX12_shrinksOf_16 : decode cX12_shrinksOf 16 = .ok (.isub, 1) := by decide +kernel
theorem dX12_shrinksOf_17 : decode cX12_shrinksOf 17 = .ok (.iconst 2, 1) := by decide +kernel
theorem dX12_shrinksOf_18 : decode cX12_shrinksOf 18 = .ok (.idiv, 1) := by decide +kernel
theorem dX12_shrinksOf_19 : decode cX12_shrinksOf 19 = .ok (.goto 4, 3) := by decide +kernel
theorem dX12_shrinksOf_22 : decode cX12_shrinksOf 22 = .ok (.iconst 0, 1) := by decide +kernel
theorem dX12_shrinksOf_23 : decode cX12_shrinksOf 23 = .ok (.istore_n 3, 1) := by decide +kernel
theorem dX12_shrinksOf_24 : decode cX12_shrinksOf 24 = .ok (.aload_n 0, 1) := by decide +kernel
theorem dX12_shrinksOf_25 : decode cX12_shrinksOf 25 = .ok (.iload_n 1, 1) := by decide +kernel
theorem dX12_shrinksOf_26 : decode cX12_shrinksOf 26 = .ok (.iconst 0, 1) := by decide +kernel
theorem dX12_shrinksOf_27 : decode cX12_shrinksOf 27 = .ok (.invokevirtual 67, 3) := by decide +kernel
theorem dX12_shrinksOf_30 : decode cX12_shrinksOf 30 = .ok (.tableswitch 92 1 5 #[34, 36, 41, 54, 72], 34) := by decide +kernel
theorem dX12_shrinksOf_64 : decode cX12_shrinksOf 64 = .ok (.iload_n 3, 1) := by decide +kernel
theorem dX12_shrinksOf_65 : decode cX12_shrinksOf 65 = .ok (.ireturn, 1) := by decide +kernel
theorem dX12_shrinksOf_66 : decode cX12_shrinksOf 66 = .ok (.iload_n 2, 1) := by decide +kernel
theorem dX12_shrinksOf_67 : decode cX12_shrinksOf 67 = .ok (.bipush 20, 2) := by decide +kernel
theorem dX12_shrinksOf_69 : decode cX12_shrinksOf 69 = .ok (.idiv, 1) := by decide +kernel
theorem dX12_shrinksOf_70 : decode cX12_shrinksOf 70 = .ok (.ireturn, 1) := by decide +kernel
theorem dX12_shrinksOf_71 : decode cX12_shrinksOf 71 = .ok (.iload_n 2, 1) := by decide +kernel
theorem dX12_shrinksOf_72 : decode cX12_shrinksOf 72 = .ok (.bipush 60, 2) := by decide +kernel
theorem dX12_shrinksOf_74 : decode cX12_shrinksOf 74 = .ok (.if_icmp .le 8, 3) := by decide +kernel
theorem dX12_shrinksOf_77 : decode cX12_shrinksOf 77 = .ok (.bipush 50, 2) := by decide +kernel
theorem dX12_shrinksOf_79 : decode cX12_shrinksOf 79 = .ok (.goto 4, 3) := by decide +kernel
theorem dX12_shrinksOf_82 : decode cX12_shrinksOf 82 = .ok (.iconst 0, 1) := by decide +kernel
theorem dX12_shrinksOf_83 : decode cX12_shrinksOf 83 = .ok (.ireturn, 1) := by decide +kernel
theorem dX12_shrinksOf_84 : decode cX12_shrinksOf 84 = .ok (.aload_n 0, 1) := by decide +kernel
theorem dX12_shrinksOf_85 : decode cX12_shrinksOf 85 = .ok (.getfield 7, 3) := by decide +kernel
theorem dX12_shrinksOf_88 : decode cX12_shrinksOf 88 = .ok (.iconst 4, 1) := by decide +kernel
theorem dX12_shrinksOf_89 : decode cX12_shrinksOf 89 = .ok (.iaload, 1) := by decide +kernel
theorem dX12_shrinksOf_90 : decode cX12_shrinksOf 90 = .ok (.iconst 1, 1) := by decide +kernel
theorem dX12_shrinksOf_91 : decode cX12_shrinksOf 91 = .ok (.if_icmp .ne 9, 3) := by decide +kernel
theorem dX12_shrinksOf_94 : decode cX12_shrinksOf 94 = .ok (.iconst 2, 1) := by decide +kernel
theorem dX12_shrinksOf_95 : decode cX12_shrinksOf 95 = .ok (.iload_n 3, 1) := by decide +kernel
theorem dX12_shrinksOf_96 : decode cX12_shrinksOf 96 = .ok (.imul, 1) := by decide +kernel
theorem dX12_shrinksOf_97 : decode cX12_shrinksOf 97 = .ok (.goto 4, 3) := by decide +kernel
theorem dX12_shrinksOf_100 : decode cX12_shrinksOf 100 = .ok (.iload_n 3, 1) := by decide +kernel
theorem dX12_shrinksOf_101 : decode cX12_shrinksOf 101 = .ok (.ireturn, 1) := by decide +kernel
theorem dX12_shrinksOf_102 : decode cX12_shrinksOf 102 = .ok (.iload_n 2, 1) := by decide +kernel
theorem dX12_shrinksOf_103 : decode cX12_shrinksOf 103 = .ok (.bipush 60, 2) := by decide +kernel
theorem dX12_shrinksOf_105 : decode cX12_shrinksOf 105 = .ok (.if_icmp .lt 12, 3) := by decide +kernel
theorem dX12_shrinksOf_108 : decode cX12_shrinksOf 108 = .ok (.iload_n 2, 1) := by decide +kernel
theorem dX12_shrinksOf_109 : decode cX12_shrinksOf 109 = .ok (.bipush 20, 2) := by decide +kernel
theorem dX12_shrinksOf_111 : decode cX12_shrinksOf 111 = .ok (.idiv, 1) := by decide +kernel
theorem dX12_shrinksOf_112 : decode cX12_shrinksOf 112 = .ok (.iconst 1, 1) := by decide +kernel
theorem dX12_shrinksOf_113 : decode cX12_shrinksOf 113 = .ok (.iadd, 1) := by decide +kernel
theorem dX12_shrinksOf_114 : decode cX12_shrinksOf 114 = .ok (.goto 7, 3) := by decide +kernel
theorem dX12_shrinksOf_117 : decode cX12_shrinksOf 117 = .ok (.iload_n 2, 1) := by decide +kernel
theorem dX12_shrinksOf_118 : decode cX12_shrinksOf 118 = .ok (.bipush 20, 2) := by decide +kernel
theorem dX12_shrinksOf_120 : decode cX12_shrinksOf 120 = .ok (.idiv, 1) := by decide +kernel
theorem dX12_shrinksOf_121 : decode cX12_shrinksOf 121 = .ok (.ireturn, 1) := by decide +kernel
theorem dX12_shrinksOf_122 : decode cX12_shrinksOf 122 = .ok (.iconst 0, 1) := by decide +kernel
theorem dX12_shrinksOf_123 : decode cX12_shrinksOf 123 = .ok (.ireturn, 1) := by decide +kernel
theorem dX12_feltsOf_0 : decode cX12_feltsOf 0 = .ok (.aload_n 0, 1) := by decide +kernel
theorem dX12_feltsOf_1 : decode cX12_feltsOf 1 = .ok (.iload_n 1, 1) := by decide +kernel
theorem dX12_feltsOf_2 : decode cX12_feltsOf 2 = .ok (.invokevirtual 92, 3) := by decide +kernel
theorem dX12_feltsOf_5 : decode cX12_feltsOf 5 = .ok (.istore_n 2, 1) := by decide +kernel
theorem dX12_feltsOf_6 : decode cX12_feltsOf 6 = .ok (.aload_n 0, 1) := by decide +kernel
theorem dX12_feltsOf_7 : decode cX12_feltsOf 7 = .ok (.iload_n 1, 1) := by decide +kernel
theorem dX12_feltsOf_8 : decode cX12_feltsOf 8 = .ok (.iconst 0, 1) := by decide +kernel
theorem dX12_feltsOf_9 : decode cX12_feltsOf 9 = .ok (.invokevirtual 67, 3) := by decide +kernel
theorem dX12_feltsOf_12 : decode cX12_feltsOf 12 = .ok (.tableswitch 56 1 5 #[36, 56, 56, 40, 54], 36) := by decide +kernel
theorem dX12_feltsOf_48 : decode cX12_feltsOf 48 = .ok (.iload_n 2, 1) := by decide +kernel
theorem dX12_feltsOf_49 : decode cX12_feltsOf 49 = .ok (.iconst 3, 1) := by decide +kernel
theorem dX12_feltsOf_50 : decode cX12_feltsOf 50 = .ok (.idiv, 1) := by decide +kernel
theorem dX12_feltsOf_51 : decode cX12_feltsOf 51 = .ok (.ireturn, 1) := by decide +kernel
theorem dX12_feltsOf_52 : decode cX12_feltsOf 52 = .ok (.iload_n 2, 1) := by decide +kernel
theorem dX12_feltsOf_53 : decode cX12_feltsOf 53 = .ok (.ifCond .le 11, 3) := by decide +kernel
theorem dX12_feltsOf_56 : decode cX12_feltsOf 56 = .ok (.iload_n 2, 1) := by decide +kernel
theorem dX12_feltsOf_57 : decode cX12_feltsOf 57 = .ok (.iconst 3, 1) := by decide +kernel
theorem dX12_feltsOf_58 : decode cX12_feltsOf 58 = .ok (.idiv, 1) := by decide +kernel
theorem dX12_feltsOf_59 : decode cX12_feltsOf 59 = .ok (.iconst 1, 1) := by decide +kernel
theorem dX12_feltsOf_60 : decode cX12_feltsOf 60 = .ok (.iadd, 1) := by decide +kernel
theorem dX12_feltsOf_61 : decode cX12_feltsOf 61 = .ok (.goto 4, 3) := by decide +kernel
theorem dX12_feltsOf_64 : decode cX12_feltsOf 64 = .ok (.iconst 0, 1) := by decide +kernel
theorem dX12_feltsOf_65 : decode cX12_feltsOf 65 = .ok (.ireturn, 1) := by decide +kernel
theorem dX12_feltsOf_66 : decode cX12_feltsOf 66 = .ok (.iconst 2, 1) := by decide +kernel
theorem dX12_feltsOf_67 : decode cX12_feltsOf 67 = .ok (.ireturn, 1) := by decide +kernel
theorem dX12_feltsOf_68 : decode cX12_feltsOf 68 = .ok (.iconst 0, 1) := by decide +kernel
theorem dX12_feltsOf_69 : decode cX12_feltsOf 69 = .ok (.ireturn, 1) := by decide +kernel
theorem dX12_bearsOf_0 : decode cX12_bearsOf 0 = .ok (.bipush 10, 2) := by decide +kernel
theorem dX12_bearsOf_2 : decode cX12_bearsOf 2 = .ok (.aload_n 0, 1) := by decide +kernel
theorem dX12_bearsOf_3 : decode cX12_bearsOf 3 = .ok (.iload_n 1, 1) := by decide +kernel
theorem dX12_bearsOf_4 : decode cX12_bearsOf 4 = .ok (.iconst 3, 1) := by decide +kernel
theorem dX12_bearsOf_5 : decode cX12_bearsOf 5 = .ok (.invokevirtual 67, 3) := by decide +kernel
theorem dX12_bearsOf_8 : decode cX12_bearsOf 8 = .ok (.iconst 4, 1) := by decide +kernel
theorem dX12_bearsOf_9 : decode cX12_bearsOf 9 = .ok (.idiv, 1) := by decide +kernel
theorem dX12_bearsOf_10 : decode cX12_bearsOf 10 = .ok (.iadd, 1) := by decide +kernel
theorem dX12_bearsOf_11 : decode cX12_bearsOf 11 = .ok (.istore_n 2, 1) := by decide +kernel
theorem dX12_bearsOf_12 : decode cX12_bearsOf 12 = .ok (.aload_n 0, 1) := by decide +kernel
theorem dX12_bearsOf_13 : decode cX12_bearsOf 13 = .ok (.iload_n 1, 1) := by decide +kernel
theorem dX12_bearsOf_14 : decode cX12_bearsOf 14 = .ok (.iconst 0, 1) := by decide +kernel
theorem dX12_bearsOf_15 : decode cX12_bearsOf 15 = .ok (.invokevirtual 67, 3) := by decide +kernel
theorem dX12_bearsOf_18 : decode cX12_bearsOf 18 = .ok (.tableswitch 54 1 5 #[34, 36, 38, 40, 44], 34) := by decide +kernel
theorem dX12_bearsOf_52 : decode cX12_bearsOf 52 = .ok (.iload_n 2, 1) := by decide +kernel
theorem dX12_bearsOf_53 : decode cX12_bearsOf 53 = .ok (.ireturn, 1) := by decide +kernel
theorem dX12_bearsOf_54 : decode cX12_bearsOf 54 = .ok (.iconst 5, 1) := by decide +kernel
theorem dX12_bearsOf_55 : decode cX12_bearsOf 55 = .ok (.ireturn, 1) := by decide +kernel
theorem dX12_bearsOf_56 : decode cX12_bearsOf 56 = .ok (.iconst 3, 1) := by decide +kernel
theorem dX12_bearsOf_57 : decode cX12_bearsOf 57 = .ok (.ireturn, 1) := by decide +kernel
theorem dX12_bearsOf_58 : decode cX12_bearsOf 58 = .ok (.iconst 2, 1) := by decide +kernel
theorem dX12_bearsOf_59 : decode cX12_bearsOf 59 = .ok (.iload_n 2, 1) := by decide +kernel
theorem dX12_bearsOf_60 : decode cX12_bearsOf 60 = .ok (.imul, 1) := by decide +kernel
theorem dX12_bearsOf_61 : decode cX12_bearsOf 61 = .ok (.ireturn, 1) := by decide +kernel
theorem dX12_bearsOf_62 : decode cX12_bearsOf 62 = .ok (.iconst 5, 1) := by decide +kernel
theorem dX12_bearsOf_63 : decode cX12_bearsOf 63 = .ok (.aload_n 0, 1) := by decide +kernel
theorem dX12_bearsOf_64 : decode cX12_bearsOf 64 = .ok (.iload_n 1, 1) := by decide +kernel
theorem dX12_bearsOf_65 : decode cX12_bearsOf 65 = .ok (.bipush 6, 2) := by decide +kernel
theorem dX12_bearsOf_67 : decode cX12_bearsOf 67 = .ok (.invokevirtual 67, 3) := by decide +kernel
theorem dX12_bearsOf_70 : decode cX12_bearsOf 70 = .ok (.iadd, 1) := by decide +kernel
theorem dX12_bearsOf_71 : decode cX12_bearsOf 71 = .ok (.ireturn, 1) := by decide +kernel
theorem dX12_bearsOf_72 : decode cX12_bearsOf 72 = .ok (.bipush 10, 2) := by decide +kernel
theorem dX12_bearsOf_74 : decode cX12_bearsOf 74 = .ok (.ireturn, 1) := by decide +kernel
theorem dX12_keepsOf_0 : decode cX12_keepsOf 0 = .ok (.aload_n 0, 1) := by decide +kernel
theorem dX12_keepsOf_1 : decode cX12_keepsOf 1 = .ok (.iload_n 1, 1) := by decide +kernel
theorem dX12_keepsOf_2 : decode cX12_keepsOf 2 = .ok (.iconst 0, 1) := by decide +kernel
theorem dX12_keepsOf_3 : decode cX12_keepsOf 3 = .ok (.invokevirtual 67, 3) := by decide +kernel
theorem dX12_keepsOf_6 : decode cX12_keepsOf 6 = .ok (.tableswitch 39 2 5 #[30, 33, 36, 30], 30) := by decide +kernel
theorem dX12_keepsOf_36 : decode cX12_keepsOf 36 = .ok (.bipush 20, 2) := by decide +kernel
theorem dX12_keepsOf_38 : decode cX12_keepsOf 38 = .ok (.ireturn, 1) := by decide +kernel
theorem dX12_keepsOf_39 : decode cX12_keepsOf 39 = .ok (.bipush 100, 2) := by decide +kernel
theorem dX12_keepsOf_41 : decode cX12_keepsOf 41 = .ok (.ireturn, 1) := by decide +kernel
theorem dX12_keepsOf_42 : decode cX12_keepsOf 42 = .ok (.bipush 40, 2) := by decide +kernel
theorem dX12_keepsOf_44 : decode cX12_keepsOf 44 = .ok (.ireturn, 1) := by decide +kernel
theorem dX12_keepsOf_45 : decode cX12_keepsOf 45 = .ok (.bipush 50, 2) := by decide +kernel
theorem dX12_keepsOf_47 : decode cX12_keepsOf 47 = .ok (.ireturn, 1) := by decide +kernel
theorem dX12_adds_0 : decode cX12_adds 0 = .ok (.aload_n 0, 1) := by decide +kernel
theorem dX12_adds_1 : decode cX12_adds 1 = .ok (.getfield 7, 3) := by decide +kernel
theorem dX12_adds_4 : decode cX12_adds 4 = .ok (.iconst 1, 1) := by decide +kernel
theorem dX12_adds_5 : decode cX12_adds 5 = .ok (.iaload, 1) := by decide +kernel
theorem dX12_adds_6 : decode cX12_adds 6 = .ok (.istore_n 2, 1) := by decide +kernel
theorem dX12_adds_7 : decode cX12_adds 7 = .ok (.aload_n 0, 1) := by decide +kernel
theorem dX12_adds_8 : decode cX12_adds 8 = .ok (.getfield 7, 3) := by decide +kernel
theorem dX12_adds_11 : decode cX12_adds 11 = .ok (.iconst 1, 1) := by decide +kernel
theorem dX12_adds_12 : decode cX12_adds 12 = .ok (.dup2, 1) := by decide +kernel
theorem dX12_adds_13 : decode cX12_adds 13 = .ok (.iaload, 1) := by decide +kernel
theorem dX12_adds_14 : decode cX12_adds 14 = .ok (.iconst 1, 1) := by decide +kernel
theorem dX12_adds_15 : decode cX12_adds 15 = .ok (.iadd, 1) := by decide +kernel
theorem dX12_adds_16 : decode cX12_adds 16 = .ok (.iastore, 1) := by decide +kernel
theorem dX12_adds_17 : decode cX12_adds 17 = .ok (.iconst 0, 1) := by decide +kernel
theorem dX12_adds_18 : decode cX12_adds 18 = .ok (.istore_n 3, 1) := by decide +kernel
theorem dX12_adds_19 : decode cX12_adds 19 = .ok (.iload_n 3, 1) := by decide +kernel
theorem dX12_adds_20 : decode cX12_adds 20 = .ok (.bipush 7, 2) := by decide +kernel
theorem dX12_adds_22 : decode cX12_adds 22 = .ok (.if_icmp .ge 20, 3) := by decide +kernel
theorem dX12_adds_25 : decode cX12_adds 25 = .ok (.aload_n 0, 1) := by decide +kernel
theorem dX12_adds_26 : decode cX12_adds 26 = .ok (.getfield 7, 3) := by decide +kernel
theorem dX12_adds_29 : decode cX12_adds 29 = .ok (.iload_n 2, 1) := by decide +kernel
theorem dX12_adds_30 : decode cX12_adds 30 = .ok (.iload_n 3, 1) := by decide +kernel
theorem dX12_adds_31 : decode cX12_adds 31 = .ok (.invokestatic 42, 3) := by decide +kernel
theorem dX12_adds_34 : decode cX12_adds 34 = .ok (.iconst 0, 1) := by decide +kernel
theorem dX12_adds_35 : decode cX12_adds 35 = .ok (.iastore, 1) := by decide +kernel
theorem dX12_adds_36 : decode cX12_adds 36 = .ok (.iinc 3 1, 3) := by decide +kernel
theorem dX12_adds_39 : decode cX12_adds 39 = .ok (.goto (-20), 3) := by decide +kernel
theorem dX12_adds_42 : decode cX12_adds 42 = .ok (.aload_n 0, 1) := by decide +kernel
theorem dX12_adds_43 : decode cX12_adds 43 = .ok (.getfield 7, 3) := by decide +kernel
theorem dX12_adds_46 : decode cX12_adds 46 = .ok (.iload_n 2, 1) := by decide +kernel
theorem dX12_adds_47 : decode cX12_adds 47 = .ok (.iconst 0, 1) := by decide +kernel
theorem dX12_adds_48 : decode cX12_adds 48 = .ok (.invokestatic 42, 3) := by decide +kernel
theorem dX12_adds_51 : decode cX12_adds 51 = .ok (.iload_n 1, 1) := by decide +kernel
theorem dX12_adds_52 : decode cX12_adds 52 = .ok (.iastore, 1) := by decide +kernel
theorem dX12_adds_53 : decode cX12_adds 53 = .ok (.aload_n 0, 1) := by decide +kernel
theorem dX12_adds_54 : decode cX12_adds 54 = .ok (.getfield 7, 3) := by decide +kernel
theorem dX12_adds_57 : decode cX12_adds 57 = .ok (.iload_n 2, 1) := by decide +kernel
theorem dX12_adds_58 : decode cX12_adds 58 = .ok (.iconst 1, 1) := by decide +kernel
theorem dX12_adds_59 : decode cX12_adds 59 = .ok (.invokestatic 42, 3) := by decide +kernel
theorem dX12_adds_62 : decode cX12_adds 62 = .ok (.bipush 100, 2) := by decide +kernel
theorem dX12_adds_64 : decode cX12_adds 64 = .ok (.iastore, 1) := by decide +kernel
theorem dX12_adds_65 : decode cX12_adds 65 = .ok (.aload_n 0, 1) := by decide +kernel
theorem dX12_adds_66 : decode cX12_adds 66 = .ok (.getfield 7, 3) := by decide +kernel
theorem dX12_adds_69 : decode cX12_adds 69 = .ok (.iload_n 2, 1) := by decide +kernel
theorem dX12_adds_70 : decode cX12_adds 70 = .ok (.iconst 2, 1) := by decide +kernel
theorem dX12_adds_71 : decode cX12_adds 71 = .ok (.invokestatic 42, 3) := by decide +kernel
theorem dX12_adds_74 : decode cX12_adds 74 = .ok (.bipush 100, 2) := by decide +kernel
theorem dX12_adds_76 : decode cX12_adds 76 = .ok (.iastore, 1) := by decide +kernel
theorem dX12_adds_77 : decode cX12_adds 77 = .ok (.aload_n 0, 1) := by decide +kernel
theorem dX12_adds_78 : decode cX12_adds 78 = .ok (.getfield 7, 3) := by decide +kernel
theorem dX12_adds_81 : decode cX12_adds 81 = .ok (.iload_n 2, 1) := by decide +kernel
theorem dX12_adds_82 : decode cX12_adds 82 = .ok (.iconst 3, 1) := by decide +kernel
theorem dX12_adds_83 : decode cX12_adds 83 = .ok (.invokestatic 42, 3) := by decide +kernel
theorem dX12_adds_86 : decode cX12_adds 86 = .ok (.bipush 10, 2) := by decide +kernel
theorem dX12_adds_88 : decode cX12_adds 88 = .ok (.iastore, 1) := by decide +kernel
theorem dX12_adds_89 : decode cX12_adds 89 = .ok (.iload_n 2, 1) := by decide +kernel
theorem dX12_adds_90 : decode cX12_adds 90 = .ok (.ireturn, 1) := by decide +kernel
theorem dX12_garment_0 : decode cX12_garment 0 = .ok (.iload_n 1, 1) := by decide +kernel
theorem dX12_garment_1 : decode cX12_garment 1 = .ok (.invokestatic 95, 3) := by decide +kernel
theorem dX12_garment_4 : decode cX12_garment 4 = .ok (.ifCond .ne 10, 3) := by decide +kernel
theorem dX12_garment_7 : decode cX12_garment 7 = .ok (.aload_n 0, 1) := by decide +kernel
theorem dX12_garment_8 : decode cX12_garment 8 = .ok (.ldc 41, 2) := by decide +kernel
theorem dX12_garment_10 : decode cX12_garment 10 = .ok (.invokevirtual 63, 3) := by decide +kernel
theorem dX12_garment_13 : decode cX12_garment 13 = .ok (.ireturn, 1) := by decide +kernel
theorem dX12_garment_14 : decode cX12_garment 14 = .ok (.aload_n 0, 1) := by decide +kernel
theorem dX12_garment_15 : decode cX12_garment 15 = .ok (.getfield 7, 3) := by decide +kernel
theorem dX12_garment_18 : decode cX12_garment 18 = .ok (.iconst 1, 1) := by decide +kernel
theorem dX12_garment_19 : decode cX12_garment 19 = .ok (.iaload, 1) := by decide +kernel
theorem dX12_garment_20 : decode cX12_garment 20 = .ok (.bipush 8, 2) := by decide +kernel
theorem dX12_garment_22 : decode cX12_garment 22 = .ok (.if_icmp .ne 12, 3) := by decide +kernel
theorem dX12_garment_25 : decode cX12_garment 25 = .ok (.aload_n 0, 1) := by decide +kernel
theorem dX12_garment_26 : decode cX12_garment 26 = .ok (.ldc 99, 2) := by decide +kernel
theorem dX12_garment_28 : decode cX12_garment 28 = .ok (.invokevirtual 63, 3) := by decide +kernel
theorem dX12_garment_31 : decode cX12_garment 31 = .ok (.goto 8, 3) := by decide +kernel
theorem dX12_garment_34 : decode cX12_garment 34 = .ok (.aload_n 0, 1) := by decide +kernel
theorem dX12_garment_35 : decode cX12_garment 35 = .ok (.iload_n 1, 1) := by decide +kernel
theorem dX12_garment_36 : decode cX12_garment 36 = .ok (.invokevirtual 100, 3) := by decide +kernel
theorem dX12_garment_39 : decode cX12_garment 39 = .ok (.ireturn, 1) := by decide +kernel
theorem dX12_of_0 : decode cX12_of 0 = .ok (.aload_n 0, 1) := by decide +kernel
theorem dX12_of_1 : decode cX12_of 1 = .ok (.iload_n 1, 1) := by decide +kernel
theorem dX12_of_2 : decode cX12_of 2 = .ok (.invokevirtual 103, 3) := by decide +kernel
theorem dX12_of_5 : decode cX12_of 5 = .ok (.ifCond .eq 15, 3) := by decide +kernel
theorem dX12_of_8 : decode cX12_of 8 = .ok (.iload_n 2, 1) := by decide +kernel
theorem dX12_of_9 : decode cX12_of 9 = .ok (.i2l, 1) := by decide +kernel
theorem dX12_of_10 : decode cX12_of 10 = .ok (.lconst 0, 1) := by decide +kernel
theorem dX12_of_11 : decode cX12_of 11 = .ok (.ldc2_w 52, 3) := by decide +kernel
theorem dX12_of_14 : decode cX12_of 14 = .ok (.invokestatic 46, 3) := by decide +kernel
theorem dX12_of_17 : decode cX12_of 17 = .ok (.ifCond .ne 10, 3) := by decide +kernel
theorem dX12_of_20 : decode cX12_of 20 = .ok (.aload_n 0, 1) := by decide +kernel
theorem dX12_of_21 : decode cX12_of 21 = .ok (.ldc 41, 2) := by decide +kernel
theorem dX12_of_23 : decode cX12_of 23 = .ok (.invokevirtual 63, 3) := by decide +kernel
theorem dX12_of_26 : decode cX12_of 26 = .ok (.ireturn, 1) := by decide +kernel
theorem dX12_of_27 : decode cX12_of 27 = .ok (.iload_n 2, 1) := by decide +kernel
theorem dX12_of_28 : decode cX12_of 28 = .ok (.bipush 6, 2) := by decide +kernel
theorem dX12_of_30 : decode cX12_of 30 = .ok (.if_icmp .gt 10, 3) := by decide +kernel
theorem dX12_of_33 : decode cX12_of 33 = .ok (.aload_n 0, 1) := by decide +kernel
theorem dX12_of_34 : decode cX12_of 34 = .ok (.iload_n 1, 1) := by decide +kernel
theorem dX12_of_35 : decode cX12_of 35 = .ok (.iload_n 2, 1) := by decide +kernel
theorem dX12_of_36 : decode cX12_of 36 = .ok (.invokevirtual 67, 3) := by decide +kernel
theorem dX12_of_39 : decode cX12_of 39 = .ok (.ireturn, 1) := by decide +kernel
theorem dX12_of_40 : decode cX12_of 40 = .ok (.iload_n 2, 1) := by decide +kernel
theorem dX12_of_41 : decode cX12_of 41 = .ok (.bipush 7, 2) := by decide +kernel
theorem dX12_of_43 : decode cX12_of 43 = .ok (.if_icmp .ne 11, 3) := by decide +kernel
theorem dX12_of_46 : decode cX12_of 46 = .ok (.aload_n 0, 1) := by decide +kernel
theorem dX12_of_47 : decode cX12_of 47 = .ok (.iload_n 1, 1) := by decide +kernel
theorem dX12_of_48 : decode cX12_of 48 = .ok (.invokevirtual 92, 3) := by decide +kernel
theorem dX12_of_51 : decode cX12_of 51 = .ok (.goto 36, 3) := by decide +kernel
theorem dX12_of_54 : decode cX12_of 54 = .ok (.iload_n 2, 1) := by decide +kernel
theorem dX12_of_55 : decode cX12_of 55 = .ok (.bipush 8, 2) := by decide +kernel
theorem dX12_of_57 : decode cX12_of 57 = .ok (.if_icmp .ne 11, 3) := by decide +kernel
theorem dX12_of_60 : decode cX12_of 60 = .ok (.aload_n 0, 1) := by decide +kernel
theorem dX12_of_61 : decode cX12_of 61 = .ok (.iload_n 1, 1) := by decide +kernel
theorem dX12_of_62 : decode cX12_of 62 = .ok (.invokevirtual 106, 3) := by decide +kernel
theorem dX12_of_65 : decode cX12_of 65 = .ok (.goto 22, 3) := by decide +kernel
theorem dX12_of_68 : decode cX12_of 68 = .ok (.iload_n 2, 1) := by decide +kernel
theorem dX12_of_69 : decode cX12_of 69 = .ok (.bipush 9, 2) := by decide +kernel
theorem dX12_of_71 : decode cX12_of 71 = .ok (.if_icmp .ne 11, 3) := by decide +kernel
theorem dX12_of_74 : decode cX12_of 74 = .ok (.aload_n 0, 1) := by decide +kernel
theorem dX12_of_75 : decode cX12_of 75 = .ok (.iload_n 1, 1) := by decide +kernel
theorem dX12_of_76 : decode cX12_of 76 = .ok (.invokevirtual 109, 3) := by decide +kernel
theorem dX12_of_79 : decode cX12_of 79 = .ok (.goto 8, 3) := by decide +kernel
theorem dX12_of_82 : decode cX12_of 82 = .ok (.aload_n 0, 1) := by decide +kernel
theorem dX12_of_83 : decode cX12_of 83 = .ok (.iload_n 1, 1) := by decide +kernel
theorem dX12_of_84 : decode cX12_of 84 = .ok (.invokevirtual 112, 3) := by decide +kernel
theorem dX12_of_87 : decode cX12_of 87 = .ok (.ireturn, 1) := by decide +kernel
theorem dX12_isSet_0 : decode cX12_isSet 0 = .ok (.iload_n 0, 1) := by decide +kernel
theorem dX12_isSet_1 : decode cX12_isSet 1 = .ok (.tableswitch 43 1 3 #[27, 27, 33], 27) := by decide +kernel
theorem dX12_isSet_28 : decode cX12_isSet 28 = .ok (.iload_n 1, 1) := by decide +kernel
theorem dX12_isSet_29 : decode cX12_isSet 29 = .ok (.i2l, 1) := by decide +kernel
theorem dX12_isSet_30 : decode cX12_isSet 30 = .ok (.invokestatic 115, 3) := by decide +kernel
theorem dX12_isSet_33 : decode cX12_isSet 33 = .ok (.ireturn, 1) := by decide +kernel
theorem dX12_isSet_34 : decode cX12_isSet 34 = .ok (.iload_n 1, 1) := by decide +kernel
theorem dX12_isSet_35 : decode cX12_isSet 35 = .ok (.i2l, 1) := by decide +kernel
theorem dX12_isSet_36 : decode cX12_isSet 36 = .ok (.lconst 1, 1) := by decide +kernel
theorem dX12_isSet_37 : decode cX12_isSet 37 = .ok (.ldc2_w 119, 3) := by decide +kernel
theorem dX12_isSet_40 : decode cX12_isSet 40 = .ok (.invokestatic 46, 3) := by decide +kernel
theorem dX12_isSet_43 : decode cX12_isSet 43 = .ok (.ireturn, 1) := by decide +kernel
theorem dX12_isSet_44 : decode cX12_isSet 44 = .ok (.iload_n 0, 1) := by decide +kernel
theorem dX12_isSet_45 : decode cX12_isSet 45 = .ok (.bipush 6, 2) := by decide +kernel
theorem dX12_isSet_47 : decode cX12_isSet 47 = .ok (.if_icmp .ne 19, 3) := by decide +kernel
theorem dX12_isSet_50 : decode cX12_isSet 50 = .ok (.iload_n 1, 1) := by decide +kernel
theorem dX12_isSet_51 : decode cX12_isSet 51 = .ok (.i2l, 1) := by decide +kernel
theorem dX12_isSet_52 : decode cX12_isSet 52 = .ok (.lconst 0, 1) := by decide +kernel
theorem dX12_isSet_53 : decode cX12_isSet 53 = .ok (.ldc2_w 121, 3) := by decide +kernel
theorem dX12_isSet_56 : decode cX12_isSet 56 = .ok (.invokestatic 46, 3) := by decide +kernel
theorem dX12_isSet_59 : decode cX12_isSet 59 = .ok (.ifCond .eq 7, 3) := by decide +kernel
theorem dX12_isSet_62 : decode cX12_isSet 62 = .ok (.iconst 1, 1) := by decide +kernel
theorem dX12_isSet_63 : decode cX12_isSet 63 = .ok (.goto 4, 3) := by decide +kernel
theorem dX12_isSet_66 : decode cX12_isSet 66 = .ok (.iconst 0, 1) := by decide +kernel
theorem dX12_isSet_67 : decode cX12_isSet 67 = .ok (.ireturn, 1) := by decide +kernel
theorem dX12_set_0 : decode cX12_set 0 = .ok (.aload_n 0, 1) := by decide +kernel
theorem dX12_set_1 : decode cX12_set 1 = .ok (.iload_n 1, 1) := by decide +kernel
theorem dX12_set_2 : decode cX12_set 2 = .ok (.invokevirtual 103, 3) := by decide +kernel
theorem dX12_set_5 : decode cX12_set 5 = .ok (.ifCond .eq 24, 3) := by decide +kernel
theorem dX12_set_8 : decode cX12_set 8 = .ok (.iload_n 2, 1) := by decide +kernel
theorem dX12_set_9 : decode cX12_set 9 = .ok (.iload_n 3, 1) := by decide +kernel
theorem dX12_set_10 : decode cX12_set 10 = .ok (.invokestatic 123, 3) := by decide +kernel
theorem dX12_set_13 : decode cX12_set 13 = .ok (.ifCond .eq 16, 3) := by decide +kernel
theorem dX12_set_16 : decode cX12_set 16 = .ok (.aload_n 0, 1) := by decide +kernel
theorem dX12_set_17 : decode cX12_set 17 = .ok (.iload_n 1, 1) := by decide +kernel
theorem dX12_set_18 : decode cX12_set 18 = .ok (.iload_n 2, 1) := by decide +kernel
theorem dX12_set_19 : decode cX12_set 19 = .ok (.invokestatic 42, 3) := by decide +kernel
theorem dX12_set_22 : decode cX12_set 22 = .ok (.iload_n 3, 1) := by decide +kernel
theorem dX12_set_23 : decode cX12_set 23 = .ok (.invokevirtual 60, 3) := by decide +kernel
theorem dX12_set_26 : decode cX12_set 26 = .ok (.goto 9, 3) := by decide +kernel
theorem dX12_set_29 : decode cX12_set 29 = .ok (.aload_n 0, 1) := by decide +kernel
theorem dX12_set_30 : decode cX12_set 30 = .ok (.ldc 41, 2) := by decide +kernel
theorem dX12_set_32 : decode cX12_set 32 = .ok (.invokevirtual 63, 3) := by decide +kernel
theorem dX12_set_35 : decode cX12_set 35 = .ok (.ireturn, 1) := by decide +kernel
theorem dX12_shrinks_0 : decode cX12_shrinks 0 = .ok (.aload_n 0, 1) := by decide +kernel
theorem dX12_shrinks_1 : decode cX12_shrinks 1 = .ok (.getfield 7, 3) := by decide +kernel
theorem dX12_shrinks_4 : decode cX12_shrinks 4 = .ok (.iload_n 1, 1) := by decide +kernel
theorem dX12_shrinks_5 : decode cX12_shrinks 5 = .ok (.iload_n 2, 1) := by decide +kernel
theorem dX12_shrinks_6 : decode cX12_shrinks 6 = .ok (.invokestatic 42, 3) := by decide +kernel
theorem dX12_shrinks_9 : decode cX12_shrinks 9 = .ok (.aload_n 0, 1) := by decide +kernel
theorem dX12_shrinks_10 : decode cX12_shrinks 10 = .ok (.iload_n 1, 1) := by decide +kernel
theorem dX12_shrinks_11 : decode cX12_shrinks 11 = .ok (.iload_n 2, 1) := by decide +kernel
theorem dX12_shrinks_12 : decode cX12_shrinks 12 = .ok (.invokevirtual 67, 3) := by decide +kernel
theorem dX12_shrinks_15 : decode cX12_shrinks 15 = .ok (.aload_n 0, 1) := by decide +kernel
theorem dX12_shrinks_16 : decode cX12_shrinks 16 = .ok (.iload_n 1, 1) := by decide +kernel
theorem dX12_shrinks_17 : decode cX12_shrinks 17 = .ok (.iload_n 2, 1) := by decide +kernel
theorem dX12_shrinks_18 : decode cX12_shrinks 18 = .ok (.invokevirtual 67, 3) := by decide +kernel
theorem dX12_shrinks_21 : decode cX12_shrinks 21 = .ok (.iload_n 3, 1) := by decide +kernel
theorem dX12_shrinks_22 : decode cX12_shrinks 22 = .ok (.imul, 1) := by decide +kernel
theorem dX12_shrinks_23 : decode cX12_shrinks 23 = .ok (.bipush 100, 2) := by decide +kernel
theorem dX12_shrinks_25 : decode cX12_shrinks 25 = .ok (.idiv, 1) := by decide +kernel
theorem dX12_shrinks_26 : decode cX12_shrinks 26 = .ok (.isub, 1) := by decide +kernel
theorem dX12_shrinks_27 : decode cX12_shrinks 27 = .ok (.bipush 10, 2) := by decide +kernel
theorem dX12_shrinks_29 : decode cX12_shrinks 29 = .ok (.sipush 200, 3) := by decide +kernel
theorem dX12_shrinks_32 : decode cX12_shrinks 32 = .ok (.invokestatic 126, 3) := by decide +kernel
theorem dX12_shrinks_35 : decode cX12_shrinks 35 = .ok (.iastore, 1) := by decide +kernel
theorem dX12_shrinks_36 : decode cX12_shrinks 36 = .ok (.return_, 1) := by decide +kernel
theorem dX12_washed_0 : decode cX12_washed 0 = .ok (.aload_n 0, 1) := by decide +kernel
theorem dX12_washed_1 : decode cX12_washed 1 = .ok (.iload_n 1, 1) := by decide +kernel
theorem dX12_washed_2 : decode cX12_washed 2 = .ok (.invokevirtual 92, 3) := by decide +kernel
theorem dX12_washed_5 : decode cX12_washed 5 = .ok (.istore_n 2, 1) := by decide +kernel
theorem dX12_washed_6 : decode cX12_washed 6 = .ok (.aload_n 0, 1) := by decide +kernel
theorem dX12_washed_7 : decode cX12_washed 7 = .ok (.iload_n 1, 1) := by decide +kernel
theorem dX12_washed_8 : decode cX12_washed 8 = .ok (.invokevirtual 106, 3) := by decide +kernel
theorem dX12_washed_11 : decode cX12_washed 11 = .ok (.istore_n 3, 1) := by decide +kernel
theorem dX12_washed_12 : decode cX12_washed 12 = .ok (.aload_n 0, 1) := by decide +kernel
theorem dX12_washed_13 : decode cX12_washed 13 = .ok (.iload_n 1, 1) := by decide +kernel
theorem dX12_washed_14 : decode cX12_washed 14 = .ok (.iconst 1, 1) := by decide +kernel
theorem dX12_washed_15 : decode cX12_washed 15 = .ok (.iload_n 2, 1) := by decide +kernel
theorem dX12_washed_16 : decode cX12_washed 16 = .ok (.invokevirtual 130, 3) := by decide +kernel
theorem dX12_washed_19 : decode cX12_washed 19 = .ok (.aload_n 0, 1) := by decide +kernel
theorem dX12_washed_20 : decode cX12_washed 20 = .ok (.iload_n 1, 1) := by decide +kernel
theorem dX12_washed_21 : decode cX12_washed 21 = .ok (.iconst 2, 1) := by decide +kernel
theorem dX12_washed_22 : decode cX12_washed 22 = .ok (.iload_n 2, 1) := by decide +kernel
theorem dX12_washed_23 : decode cX12_washed 23 = .ok (.invokevirtual 130, 3) := by decide +kernel
theorem dX12_washed_26 : decode cX12_washed 26 = .ok (.aload_n 0, 1) := by decide +kernel
theorem dX12_washed_27 : decode cX12_washed 27 = .ok (.getfield 7, 3) := by decide +kernel
theorem dX12_washed_30 : decode cX12_washed 30 = .ok (.iload_n 1, 1) := by decide +kernel
theorem dX12_washed_31 : decode cX12_washed 31 = .ok (.iconst 3, 1) := by decide +kernel
theorem dX12_washed_32 : decode cX12_washed 32 = .ok (.invokestatic 42, 3) := by decide +kernel
theorem dX12_washed_35 : decode cX12_washed 35 = .ok (.aload_n 0, 1) := by decide +kernel
theorem dX12_washed_36 : decode cX12_washed 36 = .ok (.iload_n 1, 1) := by decide +kernel
theorem dX12_washed_37 : decode cX12_washed 37 = .ok (.iconst 3, 1) := by decide +kernel
theorem dX12_washed_38 : decode cX12_washed 38 = .ok (.invokevirtual 67, 3) := by decide +kernel
theorem dX12_washed_41 : decode cX12_washed 41 = .ok (.iload_n 3, 1) := by decide +kernel
theorem dX12_washed_42 : decode cX12_washed 42 = .ok (.iadd, 1) := by decide +kernel
theorem dX12_washed_43 : decode cX12_washed 43 = .ok (.iconst 1, 1) := by decide +kernel
theorem dX12_washed_44 : decode cX12_washed 44 = .ok (.bipush 99, 2) := by decide +kernel
theorem dX12_washed_46 : decode cX12_washed 46 = .ok (.invokestatic 126, 3) := by decide +kernel
theorem dX12_washed_49 : decode cX12_washed 49 = .ok (.iastore, 1) := by decide +kernel
theorem dX12_washed_50 : decode cX12_washed 50 = .ok (.aload_n 0, 1) := by decide +kernel
theorem dX12_washed_51 : decode cX12_washed 51 = .ok (.getfield 7, 3) := by decide +kernel
theorem dX12_washed_54 : decode cX12_washed 54 = .ok (.iload_n 1, 1) := by decide +kernel
theorem dX12_washed_55 : decode cX12_washed 55 = .ok (.iconst 4, 1) := by decide +kernel
theorem dX12_washed_56 : decode cX12_washed 56 = .ok (.invokestatic 42, 3) := by decide +kernel
theorem dX12_washed_59 : decode cX12_washed 59 = .ok (.iconst 3, 1) := by decide +kernel
theorem dX12_washed_60 : decode cX12_washed 60 = .ok (.iastore, 1) := by decide +kernel
theorem dX12_washed_61 : decode cX12_washed 61 = .ok (.aload_n 0, 1) := by decide +kernel
theorem dX12_washed_62 : decode cX12_washed 62 = .ok (.getfield 7, 3) := by decide +kernel
theorem dX12_washed_65 : decode cX12_washed 65 = .ok (.iload_n 1, 1) := by decide +kernel
theorem dX12_washed_66 : decode cX12_washed 66 = .ok (.iconst 5, 1) := by decide +kernel
theorem dX12_washed_67 : decode cX12_washed 67 = .ok (.invokestatic 42, 3) := by decide +kernel
theorem dX12_washed_70 : decode cX12_washed 70 = .ok (.iconst 0, 1) := by decide +kernel
theorem dX12_washed_71 : decode cX12_washed 71 = .ok (.iastore, 1) := by decide +kernel
theorem dX12_washed_72 : decode cX12_washed 72 = .ok (.aload_n 0, 1) := by decide +kernel
theorem dX12_washed_73 : decode cX12_washed 73 = .ok (.iload_n 1, 1) := by decide +kernel
theorem dX12_washed_74 : decode cX12_washed 74 = .ok (.iconst 1, 1) := by decide +kernel
theorem dX12_washed_75 : decode cX12_washed 75 = .ok (.invokevirtual 67, 3) := by decide +kernel
theorem dX12_washed_78 : decode cX12_washed 78 = .ok (.ireturn, 1) := by decide +kernel
theorem dX12_wash_0 : decode cX12_wash 0 = .ok (.aload_n 0, 1) := by decide +kernel
theorem dX12_wash_1 : decode cX12_wash 1 = .ok (.iload_n 1, 1) := by decide +kernel
theorem dX12_wash_2 : decode cX12_wash 2 = .ok (.invokevirtual 103, 3) := by decide +kernel
theorem dX12_wash_5 : decode cX12_wash 5 = .ok (.ifCond .eq 11, 3) := by decide +kernel
theorem dX12_wash_8 : decode cX12_wash 8 = .ok (.aload_n 0, 1) := by decide +kernel
theorem dX12_wash_9 : decode cX12_wash 9 = .ok (.iload_n 1, 1) := by decide +kernel
theorem dX12_wash_10 : decode cX12_wash 10 = .ok (.invokevirtual 134, 3) := by decide +kernel
theorem dX12_wash_13 : decode cX12_wash 13 = .ok (.goto 9, 3) := by decide +kernel
theorem dX12_wash_16 : decode cX12_wash 16 = .ok (.aload_n 0, 1) := by decide +kernel
theorem dX12_wash_17 : decode cX12_wash 17 = .ok (.ldc 41, 2) := by decide +kernel
theorem dX12_wash_19 : decode cX12_wash 19 = .ok (.invokevirtual 63, 3) := by decide +kernel
theorem dX12_wash_22 : decode cX12_wash 22 = .ok (.ireturn, 1) := by decide +kernel
theorem dX12_drawn_0 : decode cX12_drawn 0 = .ok (.aload_n 0, 1) := by decide +kernel
theorem dX12_drawn_1 : decode cX12_drawn 1 = .ok (.getfield 7, 3) := by decide +kernel
theorem dX12_drawn_4 : decode cX12_drawn 4 = .ok (.iload_n 1, 1) := by decide +kernel
theorem dX12_drawn_5 : decode cX12_drawn 5 = .ok (.iconst 1, 1) := by decide +kernel
theorem dX12_drawn_6 : decode cX12_drawn 6 = .ok (.invokestatic 42, 3) := by decide +kernel
theorem dX12_drawn_9 : decode cX12_drawn 9 = .ok (.aload_n 0, 1) := by decide +kernel
theorem dX12_drawn_10 : decode cX12_drawn 10 = .ok (.iload_n 1, 1) := by decide +kernel
theorem dX12_drawn_11 : decode cX12_drawn 11 = .ok (.iconst 1, 1) := by decide +kernel
theorem dX12_drawn_12 : decode cX12_drawn 12 = .ok (.invokevirtual 67, 3) := by decide +kernel
theorem dX12_drawn_15 : decode cX12_drawn 15 = .ok (.iload_n 2, 1) := by decide +kernel
theorem dX12_drawn_16 : decode cX12_drawn 16 = .ok (.iadd, 1) := by decide +kernel
theorem dX12_drawn_17 : decode cX12_drawn 17 = .ok (.bipush 10, 2) := by decide +kernel
theorem dX12_drawn_19 : decode cX12_drawn 19 = .ok (.sipush 200, 3) := by decide +kernel
theorem dX12_drawn_22 : decode cX12_drawn 22 = .ok (.invokestatic 126, 3) := by decide +kernel
theorem dX12_drawn_25 : decode cX12_drawn 25 = .ok (.iastore, 1) := by decide +kernel
theorem dX12_drawn_26 : decode cX12_drawn 26 = .ok (.aload_n 0, 1) := by decide +kernel
theorem dX12_drawn_27 : decode cX12_drawn 27 = .ok (.getfield 7, 3) := by decide +kernel
theorem dX12_drawn_30 : decode cX12_drawn 30 = .ok (.iload_n 1, 1) := by decide +kernel
theorem dX12_drawn_31 : decode cX12_drawn 31 = .ok (.iconst 2, 1) := by decide +kernel
theorem dX12_drawn_32 : decode cX12_drawn 32 = .ok (.invokestatic 42, 3) := by decide +kernel
theorem dX12_drawn_35 : decode cX12_drawn 35 = .ok (.aload_n 0, 1) := by decide +kernel
theorem dX12_drawn_36 : decode cX12_drawn 36 = .ok (.iload_n 1, 1) := by decide +kernel
theorem dX12_drawn_37 : decode cX12_drawn 37 = .ok (.iconst 2, 1) := by decide +kernel
theorem dX12_drawn_38 : decode cX12_drawn 38 = .ok (.invokevirtual 67, 3) := by decide +kernel
theorem dX12_drawn_41 : decode cX12_drawn 41 = .ok (.iload_n 2, 1) := by decide +kernel
theorem dX12_drawn_42 : decode cX12_drawn 42 = .ok (.iconst 2, 1) := by decide +kernel
theorem dX12_drawn_43 : decode cX12_drawn 43 = .ok (.idiv, 1) := by decide +kernel
theorem dX12_drawn_44 : decode cX12_drawn 44 = .ok (.isub, 1) := by decide +kernel
theorem dX12_drawn_45 : decode cX12_drawn 45 = .ok (.bipush 10, 2) := by decide +kernel
theorem dX12_drawn_47 : decode cX12_drawn 47 = .ok (.sipush 200, 3) := by decide +kernel
theorem dX12_drawn_50 : decode cX12_drawn 50 = .ok (.invokestatic 126, 3) := by decide +kernel
theorem dX12_drawn_53 : decode cX12_drawn 53 = .ok (.iastore, 1) := by decide +kernel
theorem dX12_drawn_54 : decode cX12_drawn 54 = .ok (.aload_n 0, 1) := by decide +kernel
theorem dX12_drawn_55 : decode cX12_drawn 55 = .ok (.getfield 7, 3) := by decide +kernel
theorem dX12_drawn_58 : decode cX12_drawn 58 = .ok (.iload_n 1, 1) := by decide +kernel
theorem dX12_drawn_59 : decode cX12_drawn 59 = .ok (.iconst 5, 1) := by decide +kernel
theorem dX12_drawn_60 : decode cX12_drawn 60 = .ok (.invokestatic 42, 3) := by decide +kernel
theorem dX12_drawn_63 : decode cX12_drawn 63 = .ok (.dup2, 1) := by decide +kernel
theorem dX12_drawn_64 : decode cX12_drawn 64 = .ok (.iaload, 1) := by decide +kernel
theorem dX12_drawn_65 : decode cX12_drawn 65 = .ok (.iload_n 2, 1) := by decide +kernel
theorem dX12_drawn_66 : decode cX12_drawn 66 = .ok (.iadd, 1) := by decide +kernel
theorem dX12_drawn_67 : decode cX12_drawn 67 = .ok (.iastore, 1) := by decide +kernel
theorem dX12_drawn_68 : decode cX12_drawn 68 = .ok (.aload_n 0, 1) := by decide +kernel
theorem dX12_drawn_69 : decode cX12_drawn 69 = .ok (.iload_n 1, 1) := by decide +kernel
theorem dX12_drawn_70 : decode cX12_drawn 70 = .ok (.iconst 5, 1) := by decide +kernel
theorem dX12_drawn_71 : decode cX12_drawn 71 = .ok (.invokevirtual 67, 3) := by decide +kernel
theorem dX12_drawn_74 : decode cX12_drawn 74 = .ok (.aload_n 0, 1) := by decide +kernel
theorem dX12_drawn_75 : decode cX12_drawn 75 = .ok (.iload_n 1, 1) := by decide +kernel
theorem dX12_drawn_76 : decode cX12_drawn 76 = .ok (.invokevirtual 109, 3) := by decide +kernel
theorem dX12_drawn_79 : decode cX12_drawn 79 = .ok (.if_icmp .le 7, 3) := by decide +kernel
theorem dX12_drawn_82 : decode cX12_drawn 82 = .ok (.iconst 1, 1) := by decide +kernel
theorem dX12_drawn_83 : decode cX12_drawn 83 = .ok (.goto 4, 3) := by decide +kernel
theorem dX12_drawn_86 : decode cX12_drawn 86 = .ok (.iconst 0, 1) := by decide +kernel
theorem dX12_drawn_87 : decode cX12_drawn 87 = .ok (.istore_n 3, 1) := by decide +kernel
theorem dX12_drawn_88 : decode cX12_drawn 88 = .ok (.aload_n 0, 1) := by decide +kernel
theorem dX12_drawn_89 : decode cX12_drawn 89 = .ok (.getfield 7, 3) := by decide +kernel
theorem dX12_drawn_92 : decode cX12_drawn 92 = .ok (.iload_n 1, 1) := by decide +kernel
theorem dX12_drawn_93 : decode cX12_drawn 93 = .ok (.bipush 6, 2) := by decide +kernel
theorem dX12_drawn_95 : decode cX12_drawn 95 = .ok (.invokestatic 42, 3) := by decide +kernel
theorem dX12_drawn_98 : decode cX12_drawn 98 = .ok (.aload_n 0, 1) := by decide +kernel
theorem dX12_drawn_99 : decode cX12_drawn 99 = .ok (.iload_n 1, 1) := by decide +kernel
theorem dX12_drawn_100 : decode cX12_drawn 100 = .ok (.bipush 6, 2) := by decide +kernel
theorem dX12_drawn_102 : decode cX12_drawn 102 = .ok (.invokevirtual 67, 3) := by decide +kernel
theorem dX12_drawn_105 : decode cX12_drawn 105 = .ok (.iload_n 3, 1) := by decide +kernel
theorem dX12_drawn_106 : decode cX12_drawn 106 = .ok (.ifCond .eq 7, 3) := by decide +kernel
theorem dX12_drawn_109 : decode cX12_drawn 109 = .ok (.iconst 1, 1) := by decide +kernel
theorem dX12_drawn_110 : decode cX12_drawn 110 = .ok (.goto 4, 3) := by decide +kernel
theorem dX12_drawn_113 : decode cX12_drawn 113 = .ok (.iconst 0, 1) := by decide +kernel
theorem dX12_drawn_114 : decode cX12_drawn 114 = .ok (.iadd, 1) := by decide +kernel
theorem dX12_drawn_115 : decode cX12_drawn 115 = .ok (.iconst 0, 1) := by decide +kernel
theorem dX12_drawn_116 : decode cX12_drawn 116 = .ok (.sipush 9999, 3) := by decide +kernel
theorem dX12_drawn_119 : decode cX12_drawn 119 = .ok (.invokestatic 126, 3) := by decide +kernel
theorem dX12_drawn_122 : decode cX12_drawn 122 = .ok (.iastore, 1) := by decide +kernel
theorem dX12_drawn_123 : decode cX12_drawn 123 = .ok (.aload_n 0, 1) := by decide +kernel
theorem dX12_drawn_124 : decode cX12_drawn 124 = .ok (.iload_n 1, 1) := by decide +kernel
theorem dX12_drawn_125 : decode cX12_drawn 125 = .ok (.iconst 1, 1) := by decide +kernel
theorem dX12_drawn_126 : decode cX12_drawn 126 = .ok (.invokevirtual 67, 3) := by decide +kernel
theorem dX12_drawn_129 : decode cX12_drawn 129 = .ok (.ireturn, 1) := by decide +kernel
theorem dX12_draw_0 : decode cX12_draw 0 = .ok (.aload_n 0, 1) := by decide +kernel
theorem dX12_draw_1 : decode cX12_draw 1 = .ok (.iload_n 1, 1) := by decide +kernel
theorem dX12_draw_2 : decode cX12_draw 2 = .ok (.invokevirtual 103, 3) := by decide +kernel
theorem dX12_draw_5 : decode cX12_draw 5 = .ok (.ifCond .eq 15, 3) := by decide +kernel
theorem dX12_draw_8 : decode cX12_draw 8 = .ok (.iload_n 2, 1) := by decide +kernel
theorem dX12_draw_9 : decode cX12_draw 9 = .ok (.i2l, 1) := by decide +kernel
theorem dX12_draw_10 : decode cX12_draw 10 = .ok (.lconst 1, 1) := by decide +kernel
theorem dX12_draw_11 : decode cX12_draw 11 = .ok (.ldc2_w 137, 3) := by decide +kernel
theorem dX12_draw_14 : decode cX12_draw 14 = .ok (.invokestatic 46, 3) := by decide +kernel
theorem dX12_draw_17 : decode cX12_draw 17 = .ok (.ifCond .ne 10, 3) := by decide +kernel
theorem dX12_draw_20 : decode cX12_draw 20 = .ok (.aload_n 0, 1) := by decide +kernel
theorem dX12_draw_21 : decode cX12_draw 21 = .ok (.ldc 41, 2) := by decide +kernel
theorem dX12_draw_23 : decode cX12_draw 23 = .ok (.invokevirtual 63, 3) := by decide +kernel
theorem dX12_draw_26 : decode cX12_draw 26 = .ok (.ireturn, 1) := by decide +kernel
theorem dX12_draw_27 : decode cX12_draw 27 = .ok (.aload_n 0, 1) := by decide +kernel
theorem dX12_draw_28 : decode cX12_draw 28 = .ok (.iload_n 1, 1) := by decide +kernel
theorem dX12_draw_29 : decode cX12_draw 29 = .ok (.iconst 4, 1) := by decide +kernel
theorem dX12_draw_30 : decode cX12_draw 30 = .ok (.invokevirtual 67, 3) := by decide +kernel
theorem dX12_draw_33 : decode cX12_draw 33 = .ok (.ifCond .ne 12, 3) := by decide +kernel
theorem dX12_draw_36 : decode cX12_draw 36 = .ok (.aload_n 0, 1) := by decide +kernel
theorem dX12_draw_37 : decode cX12_draw 37 = .ok (.ldc 139, 2) := by decide +kernel
theorem dX12_draw_39 : decode cX12_draw 39 = .ok (.invokevirtual 63, 3) := by decide +kernel
theorem dX12_draw_42 : decode cX12_draw 42 = .ok (.goto 9, 3) := by decide +kernel
theorem dX12_draw_45 : decode cX12_draw 45 = .ok (.aload_n 0, 1) := by decide +kernel
theorem dX12_draw_46 : decode cX12_draw 46 = .ok (.iload_n 1, 1) := by decide +kernel
theorem dX12_draw_47 : decode cX12_draw 47 = .ok (.iload_n 2, 1) := by decide +kernel
theorem dX12_draw_48 : decode cX12_draw 48 = .ok (.invokevirtual 140, 3) := by decide +kernel
theorem dX12_draw_51 : decode cX12_draw 51 = .ok (.ireturn, 1) := by decide +kernel
theorem dX12_turn_0 : decode cX12_turn 0 = .ok (.aload_n 0, 1) := by decide +kernel
theorem dX12_turn_1 : decode cX12_turn 1 = .ok (.iload_n 1, 1) := by decide +kernel
theorem dX12_turn_2 : decode cX12_turn 2 = .ok (.invokevirtual 103, 3) := by decide +kernel
theorem dX12_turn_5 : decode cX12_turn 5 = .ok (.ifCond .eq 23, 3) := by decide +kernel
theorem dX12_turn_8 : decode cX12_turn 8 = .ok (.iload_n 2, 1) := by decide +kernel
theorem dX12_turn_9 : decode cX12_turn 9 = .ok (.invokestatic 95, 3) := by decide +kernel
theorem dX12_turn_12 : decode cX12_turn 12 = .ok (.ifCond .eq 16, 3) := by decide +kernel
theorem dX12_turn_15 : decode cX12_turn 15 = .ok (.aload_n 0, 1) := by decide +kernel
theorem dX12_turn_16 : decode cX12_turn 16 = .ok (.iload_n 1, 1) := by decide +kernel
theorem dX12_turn_17 : decode cX12_turn 17 = .ok (.iconst 0, 1) := by decide +kernel
theorem dX12_turn_18 : decode cX12_turn 18 = .ok (.invokestatic 42, 3) := by decide +kernel
theorem dX12_turn_21 : decode cX12_turn 21 = .ok (.iload_n 2, 1) := by decide +kernel
theorem dX12_turn_22 : decode cX12_turn 22 = .ok (.invokevirtual 60, 3) := by decide +kernel
theorem dX12_turn_25 : decode cX12_turn 25 = .ok (.goto 9, 3) := by decide +kernel
theorem dX12_turn_28 : decode cX12_turn 28 = .ok (.aload_n 0, 1) := by decide +kernel
theorem dX12_turn_29 : decode cX12_turn 29 = .ok (.ldc 41, 2) := by decide +kernel
theorem dX12_turn_31 : decode cX12_turn 31 = .ok (.invokevirtual 63, 3) := by decide +kernel
theorem dX12_turn_34 : decode cX12_turn 34 = .ok (.ireturn, 1) := by decide +kernel
theorem dX12_isUnder_0 : decode cX12_isUnder 0 = .ok (.iload_n 1, 1) := by decide +kernel
theorem dX12_isUnder_1 : decode cX12_isUnder 1 = .ok (.ifCond .eq 28, 3) := by decide +kernel
theorem dX12_isUnder_4 : decode cX12_isUnder 4 = .ok (.iload_n 0, 1) := by decide +kernel
theorem dX12_isUnder_5 : decode cX12_isUnder 5 = .ok (.iload_n 1, 1) := by decide +kernel
theorem dX12_isUnder_6 : decode cX12_isUnder 6 = .ok (.if_icmp .eq 23, 3) := by decide +kernel
theorem dX12_isUnder_9 : decode cX12_isUnder 9 = .ok (.iload_n 0, 1) := by decide +kernel
theorem dX12_isUnder_10 : decode cX12_isUnder 10 = .ok (.iconst 4, 1) := by decide +kernel
theorem dX12_isUnder_11 : decode cX12_isUnder 11 = .ok (.if_icmp .ne 8, 3) := by decide +kernel
theorem dX12_isUnder_14 : decode cX12_isUnder 14 = .ok (.iload_n 1, 1) := by decide +kernel
theorem dX12_isUnder_15 : decode cX12_isUnder 15 = .ok (.iconst 1, 1) := by decide +kernel
theorem dX12_isUnder_16 : decode cX12_isUnder 16 = .ok (.if_icmp .eq 13, 3) := by decide +kernel
theorem dX12_isUnder_19 : decode cX12_isUnder 19 = .ok (.iload_n 0, 1) := by decide +kernel
theorem dX12_isUnder_20 : decode cX12_isUnder 20 = .ok (.iconst 5, 1) := by decide +kernel
theorem dX12_isUnder_21 : decode cX12_isUnder 21 = .ok (.if_icmp .ne 12, 3) := by decide +kernel
theorem dX12_isUnder_24 : decode cX12_isUnder 24 = .ok (.iload_n 1, 1) := by decide +kernel
theorem dX12_isUnder_25 : decode cX12_isUnder 25 = .ok (.iconst 2, 1) := by decide +kernel
theorem dX12_isUnder_26 : decode cX12_isUnder 26 = .ok (.if_icmp .ne 7, 3) := by decide +kernel
theorem dX12_isUnder_29 : decode cX12_isUnder 29 = .ok (.iconst 1, 1) := by decide +kernel
theorem dX12_isUnder_30 : decode cX12_isUnder 30 = .ok (.goto 4, 3) := by decide +kernel
theorem dX12_isUnder_33 : decode cX12_isUnder 33 = .ok (.iconst 0, 1) := by decide +kernel
theorem dX12_isUnder_34 : decode cX12_isUnder 34 = .ok (.ireturn, 1) := by decide +kernel
theorem dX12_as_0 : decode cX12_as 0 = .ok (.aload_n 0, 1) := by decide +kernel
theorem dX12_as_1 : decode cX12_as 1 = .ok (.iload_n 1, 1) := by decide +kernel
theorem dX12_as_2 : decode cX12_as 2 = .ok (.invokevirtual 103, 3) := by decide +kernel
theorem dX12_as_5 : decode cX12_as 5 = .ok (.ifCond .eq 10, 3) := by decide +kernel
theorem dX12_as_8 : decode cX12_as 8 = .ok (.iload_n 2, 1) := by decide +kernel
theorem dX12_as_9 : decode cX12_as 9 = .ok (.invokestatic 95, 3) := by decide +kernel
theorem dX12_as_12 : decode cX12_as 12 = .ok (.ifCond .ne 10, 3) := by decide +kernel
theorem dX12_as_15 : decode cX12_as 15 = .ok (.aload_n 0, 1) := by decide +kernel
theorem dX12_as_16 : decode cX12_as 16 = .ok (.ldc 41, 2) := by decide +kernel
theorem dX12_as_18 : decode cX12_as 18 = .ok (.invokevirtual 63, 3) := by decide +kernel
theorem dX12_as_21 : decode cX12_as 21 = .ok (.ireturn, 1) := by decide +kernel
theorem dX12_as_22 : decode cX12_as 22 = .ok (.aload_n 0, 1) := by decide +kernel
theorem dX12_as_23 : decode cX12_as 23 = .ok (.iload_n 1, 1) := by decide +kernel
theorem dX12_as_24 : decode cX12_as 24 = .ok (.iconst 0, 1) := by decide +kernel
theorem dX12_as_25 : decode cX12_as 25 = .ok (.invokevirtual 67, 3) := by decide +kernel
theorem dX12_as_28 : decode cX12_as 28 = .ok (.iload_n 2, 1) := by decide +kernel
theorem dX12_as_29 : decode cX12_as 29 = .ok (.invokestatic 143, 3) := by decide +kernel
theorem dX12_as_32 : decode cX12_as 32 = .ok (.ifCond .eq 12, 3) := by decide +kernel
theorem dX12_as_35 : decode cX12_as 35 = .ok (.aload_n 0, 1) := by decide +kernel
theorem dX12_as_36 : decode cX12_as 36 = .ok (.iload_n 1, 1) := by decide +kernel
theorem dX12_as_37 : decode cX12_as 37 = .ok (.iconst 3, 1) := by decide +kernel
theorem dX12_as_38 : decode cX12_as 38 = .ok (.invokevirtual 67, 3) := by decide +kernel
theorem dX12_as_41 : decode cX12_as 41 = .ok (.goto 9, 3) := by decide +kernel
theorem dX12_as_44 : decode cX12_as 44 = .ok (.aload_n 0, 1) := by decide +kernel
theorem dX12_as_45 : decode cX12_as 45 = .ok (.ldc 146, 2) := by decide +kernel
theorem dX12_as_47 : decode cX12_as 47 = .ok (.invokevirtual 63, 3) := by decide +kernel
theorem dX12_as_50 : decode cX12_as 50 = .ok (.ireturn, 1) := by decide +kernel
theorem dX12_addsPerson_0 : decode cX12_addsPerson 0 = .ok (.aload_n 0, 1) := by decide +kernel
theorem dX12_addsPerson_1 : decode cX12_addsPerson 1 = .ok (.getfield 7, 3) := by decide +kernel
theorem dX12_addsPerson_4 : decode cX12_addsPerson 4 = .ok (.iconst 2, 1) := by decide +kernel
theorem dX12_addsPerson_5 : decode cX12_addsPerson 5 = .ok (.iaload, 1) := by decide +kernel
theorem dX12_addsPerson_6 : decode cX12_addsPerson 6 = .ok (.istore_n 3, 1) := by decide +kernel
theorem dX12_addsPerson_7 : decode cX12_addsPerson 7 = .ok (.aload_n 0, 1) := by decide +kernel
theorem dX12_addsPerson_8 : decode cX12_addsPerson 8 = .ok (.getfield 7, 3) := by decide +kernel
theorem dX12_addsPerson_11 : decode cX12_addsPerson 11 = .ok (.iconst 2, 1) := by decide +kernel
theorem dX12_addsPerson_12 : decode cX12_addsPerson 12 = .ok (.dup2, 1) := by decide +kernel
theorem dX12_addsPerson_13 : decode cX12_addsPerson 13 = .ok (.iaload, 1) := by decide +kernel
theorem dX12_addsPerson_14 : decode cX12_addsPerson 14 = .ok (.iconst 1, 1) := by decide +kernel
theorem dX12_addsPerson_15 : decode cX12_addsPerson 15 = .ok (.iadd, 1) := by decide +kernel
theorem dX12_addsPerson_16 : decode cX12_addsPerson 16 = .ok (.iastore, 1) := by decide +kernel
theorem dX12_addsPerson_17 : decode cX12_addsPerson 17 = .ok (.aload_n 0, 1) := by decide +kernel
theorem dX12_addsPerson_18 : decode cX12_addsPerson 18 = .ok (.getfield 7, 3) := by decide +kernel
theorem dX12_addsPerson_21 : decode cX12_addsPerson 21 = .ok (.bipush 61, 2) := by decide +kernel
theorem dX12_addsPerson_23 : decode cX12_addsPerson 23 = .ok (.iconst 2, 1) := by decide +kernel
theorem dX12_addsPerson_24 : decode cX12_addsPerson 24 = .ok (.iload_n 3, 1) := by decide +kernel
theorem dX12_addsPerson_25 : decode cX12_addsPerson 25 = .ok (.imul, 1) := by decide +kernel
theorem dX12_addsPerson_26 : decode cX12_addsPerson 26 = .ok (.iadd, 1) := by decide +kernel
theorem dX12_addsPerson_27 : decode cX12_addsPerson 27 = .ok (.iload_n 1, 1) := by decide +kernel
theorem dX12_addsPerson_28 : decode cX12_addsPerson 28 = .ok (.iastore, 1) := by decide +kernel
theorem dX12_addsPerson_29 : decode cX12_addsPerson 29 = .ok (.aload_n 0, 1) := by decide +kernel
theorem dX12_addsPerson_30 : decode cX12_addsPerson 30 = .ok (.getfield 7, 3) := by decide +kernel
theorem dX12_addsPerson_33 : decode cX12_addsPerson 33 = .ok (.bipush 61, 2) := by decide +kernel
theorem dX12_addsPerson_35 : decode cX12_addsPerson 35 = .ok (.iconst 2, 1) := by decide +kernel
theorem dX12_addsPerson_36 : decode cX12_addsPerson 36 = .ok (.iload_n 3, 1) := by decide +kernel
theorem dX12_addsPerson_37 : decode cX12_addsPerson 37 = .ok (.imul, 1) := by decide +kernel
theorem dX12_addsPerson_38 : decode cX12_addsPerson 38 = .ok (.iadd, 1) := by decide +kernel
theorem dX12_addsPerson_39 : decode cX12_addsPerson 39 = .ok (.iconst 1, 1) := by decide +kernel
theorem dX12_addsPerson_40 : decode cX12_addsPerson 40 = .ok (.iadd, 1) := by decide +kernel
theorem dX12_addsPerson_41 : decode cX12_addsPerson 41 = .ok (.iload_n 2, 1) := by decide +kernel
theorem dX12_addsPerson_42 : decode cX12_addsPerson 42 = .ok (.iastore, 1) := by decide +kernel
theorem dX12_addsPerson_43 : decode cX12_addsPerson 43 = .ok (.iload_n 3, 1) := by decide +kernel
theorem dX12_addsPerson_44 : decode cX12_addsPerson 44 = .ok (.ireturn, 1) := by decide +kernel
theorem dX12_person_0 : decode cX12_person 0 = .ok (.iload_n 1, 1) := by decide +kernel
theorem dX12_person_1 : decode cX12_person 1 = .ok (.i2l, 1) := by decide +kernel
theorem dX12_person_2 : decode cX12_person 2 = .ok (.invokestatic 115, 3) := by decide +kernel
theorem dX12_person_5 : decode cX12_person 5 = .ok (.ifCond .eq 11, 3) := by decide +kernel
theorem dX12_person_8 : decode cX12_person 8 = .ok (.iload_n 2, 1) := by decide +kernel
theorem dX12_person_9 : decode cX12_person 9 = .ok (.i2l, 1) := by decide +kernel
theorem dX12_person_10 : decode cX12_person 10 = .ok (.invokestatic 115, 3) := by decide +kernel
theorem dX12_person_13 : decode cX12_person 13 = .ok (.ifCond .ne 10, 3) := by decide +kernel
theorem dX12_person_16 : decode cX12_person 16 = .ok (.aload_n 0, 1) := by decide +kernel
theorem dX12_person_17 : decode cX12_person 17 = .ok (.ldc 41, 2) := by decide +kernel
theorem dX12_person_19 : decode cX12_person 19 = .ok (.invokevirtual 63, 3) := by decide +kernel
theorem dX12_person_22 : decode cX12_person 22 = .ok (.ireturn, 1) := by decide +kernel
theorem dX12_person_23 : decode cX12_person 23 = .ok (.aload_n 0, 1) := by decide +kernel
theorem dX12_person_24 : decode cX12_person 24 = .ok (.getfield 7, 3) := by decide +kernel
theorem dX12_person_27 : decode cX12_person 27 = .ok (.iconst 2, 1) := by decide +kernel
theorem dX12_person_28 : decode cX12_person 28 = .ok (.iaload, 1) := by decide +kernel
theorem dX12_person_29 : decode cX12_person 29 = .ok (.bipush 6, 2) := by decide +kernel
theorem dX12_person_31 : decode cX12_person 31 = .ok (.if_icmp .ne 12, 3) := by decide +kernel
theorem dX12_person_34 : decode cX12_person 34 = .ok (.aload_n 0, 1) := by decide +kernel
theorem dX12_person_35 : decode cX12_person 35 = .ok (.ldc 99, 2) := by decide +kernel
theorem dX12_person_37 : decode cX12_person 37 = .ok (.invokevirtual 63, 3) := by decide +kernel
theorem dX12_person_40 : decode cX12_person 40 = .ok (.goto 9, 3) := by decide +kernel
theorem dX12_person_43 : decode cX12_person 43 = .ok (.aload_n 0, 1) := by decide +kernel
theorem dX12_person_44 : decode cX12_person 44 = .ok (.iload_n 1, 1) := by decide +kernel
theorem dX12_person_45 : decode cX12_person 45 = .ok (.iload_n 2, 1) := by decide +kernel
theorem dX12_person_46 : decode cX12_person 46 = .ok (.invokevirtual 147, 3) := by decide +kernel
theorem dX12_person_49 : decode cX12_person 49 = .ok (.ireturn, 1) := by decide +kernel
theorem dX12_size_0 : decode cX12_size 0 = .ok (.aload_n 0, 1) := by decide +kernel
theorem dX12_size_1 : decode cX12_size 1 = .ok (.iload_n 1, 1) := by decide +kernel
theorem dX12_size_2 : decode cX12_size 2 = .ok (.invokevirtual 150, 3) := by decide +kernel
theorem dX12_size_5 : decode cX12_size 5 = .ok (.ifCond .eq 22, 3) := by decide +kernel
theorem dX12_size_8 : decode cX12_size 8 = .ok (.iload_n 2, 1) := by decide +kernel
theorem dX12_size_9 : decode cX12_size 9 = .ok (.i2l, 1) := by decide +kernel
theorem dX12_size_10 : decode cX12_size 10 = .ok (.lconst 0, 1) := by decide +kernel
theorem dX12_size_11 : decode cX12_size 11 = .ok (.lconst 1, 1) := by decide +kernel
theorem dX12_size_12 : decode cX12_size 12 = .ok (.invokestatic 46, 3) := by decide +kernel
theorem dX12_size_15 : decode cX12_size 15 = .ok (.ifCond .eq 12, 3) := by decide +kernel
theorem dX12_size_18 : decode cX12_size 18 = .ok (.aload_n 0, 1) := by decide +kernel
theorem dX12_size_19 : decode cX12_size 19 = .ok (.iload_n 1, 1) := by decide +kernel
theorem dX12_size_20 : decode cX12_size 20 = .ok (.iload_n 2, 1) := by decide +kernel
theorem dX12_size_21 : decode cX12_size 21 = .ok (.invokevirtual 70, 3) := by decide +kernel
theorem dX12_size_24 : decode cX12_size 24 = .ok (.goto 9, 3) := by decide +kernel
theorem dX12_size_27 : decode cX12_size 27 = .ok (.aload_n 0, 1) := by decide +kernel
theorem dX12_size_28 : decode cX12_size 28 = .ok (.ldc 41, 2) := by decide +kernel
theorem dX12_size_30 : decode cX12_size 30 = .ok (.invokevirtual 63, 3) := by decide +kernel
theorem dX12_size_33 : decode cX12_size 33 = .ok (.ireturn, 1) := by decide +kernel
theorem dX12_fits_0 : decode cX12_fits 0 = .ok (.aload_n 0, 1) := by decide +kernel
theorem dX12_fits_1 : decode cX12_fits 1 = .ok (.iload_n 1, 1) := by decide +kernel
theorem dX12_fits_2 : decode cX12_fits 2 = .ok (.invokevirtual 150, 3) := by decide +kernel
theorem dX12_fits_5 : decode cX12_fits 5 = .ok (.ifCond .eq 11, 3) := by decide +kernel
theorem dX12_fits_8 : decode cX12_fits 8 = .ok (.aload_n 0, 1) := by decide +kernel
theorem dX12_fits_9 : decode cX12_fits 9 = .ok (.iload_n 1, 1) := by decide +kernel
theorem dX12_fits_10 : decode cX12_fits 10 = .ok (.invokevirtual 79, 3) := by decide +kernel
theorem dX12_fits_13 : decode cX12_fits 13 = .ok (.goto 9, 3) := by decide +kernel
theorem dX12_fits_16 : decode cX12_fits 16 = .ok (.aload_n 0, 1) := by decide +kernel
theorem dX12_fits_17 : decode cX12_fits 17 = .ok (.ldc 41, 2) := by decide +kernel
theorem dX12_fits_19 : decode cX12_fits 19 = .ok (.invokevirtual 63, 3) := by decide +kernel
theorem dX12_fits_22 : decode cX12_fits 22 = .ok (.ireturn, 1) := by decide +kernel
theorem dX12_dries_0 : decode cX12_dries 0 = .ok (.aload_n 0, 1) := by decide +kernel
theorem dX12_dries_1 : decode cX12_dries 1 = .ok (.getfield 7, 3) := by decide +kernel
theorem dX12_dries_4 : decode cX12_dries 4 = .ok (.iload_n 1, 1) := by decide +kernel
theorem dX12_dries_5 : decode cX12_dries 5 = .ok (.iconst 4, 1) := by decide +kernel
theorem dX12_dries_6 : decode cX12_dries 6 = .ok (.invokestatic 42, 3) := by decide +kernel
theorem dX12_dries_9 : decode cX12_dries 9 = .ok (.dup2, 1) := by decide +kernel
theorem dX12_dries_10 : decode cX12_dries 10 = .ok (.iaload, 1) := by decide +kernel
theorem dX12_dries_11 : decode cX12_dries 11 = .ok (.iconst 1, 1) := by decide +kernel
theorem dX12_dries_12 : decode cX12_dries 12 = .ok (.isub, 1) := by decide +kernel
theorem dX12_dries_13 : decode cX12_dries 13 = .ok (.iastore, 1) := by decide +kernel
theorem dX12_dries_14 : decode cX12_dries 14 = .ok (.aload_n 0, 1) := by decide +kernel
theorem dX12_dries_15 : decode cX12_dries 15 = .ok (.iload_n 1, 1) := by decide +kernel
theorem dX12_dries_16 : decode cX12_dries 16 = .ok (.iconst 4, 1) := by decide +kernel
theorem dX12_dries_17 : decode cX12_dries 17 = .ok (.invokevirtual 67, 3) := by decide +kernel
theorem dX12_dries_20 : decode cX12_dries 20 = .ok (.ifCond .ne 59, 3) := by decide +kernel
theorem dX12_dries_23 : decode cX12_dries 23 = .ok (.aload_n 0, 1) := by decide +kernel
theorem dX12_dries_24 : decode cX12_dries 24 = .ok (.iload_n 1, 1) := by decide +kernel
theorem dX12_dries_25 : decode cX12_dries 25 = .ok (.iconst 5, 1) := by decide +kernel
theorem dX12_dries_26 : decode cX12_dries 26 = .ok (.invokevirtual 67, 3) := by decide +kernel
theorem dX12_dries_29 : decode cX12_dries 29 = .ok (.bipush 100, 2) := by decide +kernel
theorem dX12_dries_31 : decode cX12_dries 31 = .ok (.aload_n 0, 1) := by decide +kernel
theorem dX12_dries_32 : decode cX12_dries 32 = .ok (.iload_n 1, 1) := by decide +kernel
theorem dX12_dries_33 : decode cX12_dries 33 = .ok (.invokevirtual 112, 3) := by decide +kernel
theorem dX12_dries_36 : decode cX12_dries 36 = .ok (.isub, 1) := by decide +kernel
theorem dX12_dries_37 : decode cX12_dries 37 = .ok (.imul, 1) := by decide +kernel
theorem dX12_dries_38 : decode cX12_dries 38 = .ok (.bipush 100, 2) := by decide +kernel
theorem dX12_dries_40 : decode cX12_dries 40 = .ok (.idiv, 1) := by decide +kernel
theorem dX12_dries_41 : decode cX12_dries 41 = .ok (.istore_n 2, 1) := by decide +kernel
theorem dX12_dries_42 : decode cX12_dries 42 = .ok (.aload_n 0, 1) := by decide +kernel
theorem dX12_dries_43 : decode cX12_dries 43 = .ok (.getfield 7, 3) := by decide +kernel
theorem dX12_dries_46 : decode cX12_dries 46 = .ok (.iload_n 1, 1) := by decide +kernel
theorem dX12_dries_47 : decode cX12_dries 47 = .ok (.iconst 1, 1) := by decide +kernel
theorem dX12_dries_48 : decode cX12_dries 48 = .ok (.invokestatic 42, 3) := by decide +kernel
theorem dX12_dries_51 : decode cX12_dries 51 = .ok (.aload_n 0, 1) := by decide +kernel
theorem dX12_dries_52 : decode cX12_dries 52 = .ok (.iload_n 1, 1) := by decide +kernel
theorem dX12_dries_53 : decode cX12_dries 53 = .ok (.iconst 1, 1) := by decide +kernel
theorem dX12_dries_54 : decode cX12_dries 54 = .ok (.invokevirtual 67, 3) := by decide +kernel
theorem dX12_dries_57 : decode cX12_dries 57 = .ok (.iload_n 2, 1) := by decide +kernel
theorem dX12_dries_58 : decode cX12_dries 58 = .ok (.isub, 1) := by decide +kernel
theorem dX12_dries_59 : decode cX12_dries 59 = .ok (.bipush 10, 2) := by decide +kernel
theorem dX12_dries_61 : decode cX12_dries 61 = .ok (.sipush 200, 3) := by decide +kernel
theorem dX12_dries_64 : decode cX12_dries 64 = .ok (.invokestatic 126, 3) := by decide +kernel
theorem dX12_dries_67 : decode cX12_dries 67 = .ok (.iastore, 1) := by decide +kernel
theorem dX12_dries_68 : decode cX12_dries 68 = .ok (.aload_n 0, 1) := by decide +kernel
theorem dX12_dries_69 : decode cX12_dries 69 = .ok (.getfield 7, 3) := by decide +kernel
theorem dX12_dries_72 : decode cX12_dries 72 = .ok (.iload_n 1, 1) := by decide +kernel
theorem dX12_dries_73 : decode cX12_dries 73 = .ok (.iconst 5, 1) := by decide +kernel
theorem dX12_dries_74 : decode cX12_dries 74 = .ok (.invokestatic 42, 3) := by decide +kernel
theorem dX12_dries_77 : decode cX12_dries 77 = .ok (.iconst 0, 1) := by decide +kernel
theorem dX12_dries_78 : decode cX12_dries 78 = .ok (.iastore, 1) := by decide +kernel
theorem dX12_dries_79 : decode cX12_dries 79 = .ok (.return_, 1) := by decide +kernel
theorem dX12_daysGo_0 : decode cX12_daysGo 0 = .ok (.iconst 0, 1) := by decide +kernel
theorem dX12_daysGo_1 : decode cX12_daysGo 1 = .ok (.istore_n 2, 1) := by decide +kernel
theorem dX12_daysGo_2 : decode cX12_daysGo 2 = .ok (.iload_n 2, 1) := by decide +kernel
theorem dX12_daysGo_3 : decode cX12_daysGo 3 = .ok (.iload_n 1, 1) := by decide +kernel
theorem dX12_daysGo_4 : decode cX12_daysGo 4 = .ok (.if_icmp .ge 51, 3) := by decide +kernel
theorem dX12_daysGo_7 : decode cX12_daysGo 7 = .ok (.iconst 0, 1) := by decide +kernel
theorem dX12_daysGo_8 : decode cX12_daysGo 8 = .ok (.istore_n 3, 1) := by decide +kernel
theorem dX12_daysGo_9 : decode cX12_daysGo 9 = .ok (.iload_n 3, 1) := by decide +kernel
theorem dX12_daysGo_10 : decode cX12_daysGo 10 = .ok (.aload_n 0, 1) := by decide +kernel
theorem dX12_daysGo_11 : decode cX12_daysGo 11 = .ok (.getfield 7, 3) := by decide +kernel
theorem dX12_daysGo_14 : decode cX12_daysGo 14 = .ok (.iconst 1, 1) := by decide +kernel
theorem dX12_daysGo_15 : decode cX12_daysGo 15 = .ok (.iaload, 1) := by decide +kernel
theorem dX12_daysGo_16 : decode cX12_daysGo 16 = .ok (.if_icmp .ge 23, 3) := by decide +kernel
theorem dX12_daysGo_19 : decode cX12_daysGo 19 = .ok (.aload_n 0, 1) := by decide +kernel
theorem dX12_daysGo_20 : decode cX12_daysGo 20 = .ok (.iload_n 3, 1) := by decide +kernel
theorem dX12_daysGo_21 : decode cX12_daysGo 21 = .ok (.iconst 4, 1) := by decide +kernel
theorem dX12_daysGo_22 : decode cX12_daysGo 22 = .ok (.invokevirtual 67, 3) := by decide +kernel
theorem dX12_daysGo_25 : decode cX12_daysGo 25 = .ok (.ifCond .le 8, 3) := by decide +kernel
theorem dX12_daysGo_28 : decode cX12_daysGo 28 = .ok (.aload_n 0, 1) := by decide +kernel
theorem dX12_daysGo_29 : decode cX12_daysGo 29 = .ok (.iload_n 3, 1) := by decide +kernel
theorem dX12_daysGo_30 : decode cX12_daysGo 30 = .ok (.invokevirtual 153, 3) := by decide +kernel
theorem dX12_daysGo_33 : decode cX12_daysGo 33 = .ok (.iinc 3 1, 3) := by decide +kernel
theorem dX12_daysGo_36 : decode cX12_daysGo 36 = .ok (.goto (-27), 3) := by decide +kernel
theorem dX12_daysGo_39 : decode cX12_daysGo 39 = .ok (.aload_n 0, 1) := by decide +kernel
theorem dX12_daysGo_40 : decode cX12_daysGo 40 = .ok (.getfield 7, 3) := by decide +kernel
theorem dX12_daysGo_43 : decode cX12_daysGo 43 = .ok (.iconst 0, 1) := by decide +kernel
theorem dX12_daysGo_44 : decode cX12_daysGo 44 = .ok (.dup2, 1) := by decide +kernel
theorem dX12_daysGo_45 : decode cX12_daysGo 45 = .ok (.iaload, 1) := by decide +kernel
theorem dX12_daysGo_46 : decode cX12_daysGo 46 = .ok (.iconst 1, 1) := by decide +kernel
theorem dX12_daysGo_47 : decode cX12_daysGo 47 = .ok (.iadd, 1) := by decide +kernel
theorem dX12_daysGo_48 : decode cX12_daysGo 48 = .ok (.iastore, 1) := by decide +kernel
theorem dX12_daysGo_49 : decode cX12_daysGo 49 = .ok (.iinc 2 1, 3) := by decide +kernel
theorem dX12_daysGo_52 : decode cX12_daysGo 52 = .ok (.goto (-50), 3) := by decide +kernel
theorem dX12_daysGo_55 : decode cX12_daysGo 55 = .ok (.return_, 1) := by decide +kernel
theorem dX12_days_0 : decode cX12_days 0 = .ok (.iload_n 1, 1) := by decide +kernel
theorem dX12_days_1 : decode cX12_days 1 = .ok (.i2l, 1) := by decide +kernel
theorem dX12_days_2 : decode cX12_days 2 = .ok (.lconst 1, 1) := by decide +kernel
theorem dX12_days_3 : decode cX12_days 3 = .ok (.ldc2_w 157, 3) := by decide +kernel
theorem dX12_days_6 : decode cX12_days 6 = .ok (.invokestatic 46, 3) := by decide +kernel
theorem dX12_days_9 : decode cX12_days 9 = .ok (.ifCond .ne 10, 3) := by decide +kernel
theorem dX12_days_12 : decode cX12_days 12 = .ok (.aload_n 0, 1) := by decide +kernel
theorem dX12_days_13 : decode cX12_days 13 = .ok (.ldc 41, 2) := by decide +kernel
theorem dX12_days_15 : decode cX12_days 15 = .ok (.invokevirtual 63, 3) := by decide +kernel
theorem dX12_days_18 : decode cX12_days 18 = .ok (.ireturn, 1) := by decide +kernel
theorem dX12_days_19 : decode cX12_days 19 = .ok (.aload_n 0, 1) := by decide +kernel
theorem dX12_days_20 : decode cX12_days 20 = .ok (.getfield 7, 3) := by decide +kernel
theorem dX12_days_23 : decode cX12_days 23 = .ok (.iconst 0, 1) := by decide +kernel
theorem dX12_days_24 : decode cX12_days 24 = .ok (.iaload, 1) := by decide +kernel
theorem dX12_days_25 : decode cX12_days 25 = .ok (.iload_n 1, 1) := by decide +kernel
theorem dX12_days_26 : decode cX12_days 26 = .ok (.iadd, 1) := by decide +kernel
theorem dX12_days_27 : decode cX12_days 27 = .ok (.ldc 159, 2) := by decide +kernel
theorem dX12_days_29 : decode cX12_days 29 = .ok (.if_icmp .le 10, 3) := by decide +kernel
theorem dX12_days_32 : decode cX12_days 32 = .ok (.aload_n 0, 1) := by decide +kernel
theorem dX12_days_33 : decode cX12_days 33 = .ok (.ldc 139, 2) := by decide +kernel
theorem dX12_days_35 : decode cX12_days 35 = .ok (.invokevirtual 63, 3) := by decide +kernel
theorem dX12_days_38 : decode cX12_days 38 = .ok (.ireturn, 1) := by decide +kernel
theorem dX12_days_39 : decode cX12_days 39 = .ok (.aload_n 0, 1) := by decide +kernel
theorem dX12_days_40 : decode cX12_days 40 = .ok (.iload_n 1, 1) := by decide +kernel
theorem dX12_days_41 : decode cX12_days 41 = .ok (.invokevirtual 160, 3) := by decide +kernel
theorem dX12_days_44 : decode cX12_days 44 = .ok (.aload_n 0, 1) := by decide +kernel
theorem dX12_days_45 : decode cX12_days 45 = .ok (.invokevirtual 82, 3) := by decide +kernel
theorem dX12_days_48 : decode cX12_days 48 = .ok (.ireturn, 1) := by decide +kernel
theorem dX12_isAhead_0 : decode cX12_isAhead 0 = .ok (.iload_n 0, 1) := by decide +kernel
theorem dX12_isAhead_1 : decode cX12_isAhead 1 = .ok (.i2l, 1) := by decide +kernel
theorem dX12_isAhead_2 : decode cX12_isAhead 2 = .ok (.lconst 0, 1) := by decide +kernel
theorem dX12_isAhead_3 : decode cX12_isAhead 3 = .ok (.ldc2_w 157, 3) := by decide +kernel
theorem dX12_isAhead_6 : decode cX12_isAhead 6 = .ok (.invokestatic 46, 3) := by decide +kernel
theorem dX12_isAhead_9 : decode cX12_isAhead 9 = .ok (.ireturn, 1) := by decide +kernel
theorem dX12_on_0 : decode cX12_on 0 = .ok (.aload_n 0, 1) := by decide +kernel
theorem dX12_on_1 : decode cX12_on 1 = .ok (.iload_n 1, 1) := by decide +kernel
theorem dX12_on_2 : decode cX12_on 2 = .ok (.invokevirtual 103, 3) := by decide +kernel
theorem dX12_on_5 : decode cX12_on 5 = .ok (.ifCond .eq 22, 3) := by decide +kernel
theorem dX12_on_8 : decode cX12_on 8 = .ok (.iload_n 2, 1) := by decide +kernel
theorem dX12_on_9 : decode cX12_on 9 = .ok (.invokestatic 163, 3) := by decide +kernel
theorem dX12_on_12 : decode cX12_on 12 = .ok (.ifCond .eq 15, 3) := by decide +kernel
theorem dX12_on_15 : decode cX12_on 15 = .ok (.iload_n 3, 1) := by decide +kernel
theorem dX12_on_16 : decode cX12_on 16 = .ok (.i2l, 1) := by decide +kernel
theorem dX12_on_17 : decode cX12_on 17 = .ok (.lconst 0, 1) := by decide +kernel
theorem dX12_on_18 : decode cX12_on 18 = .ok (.ldc2_w 166, 3) := by decide +kernel
theorem dX12_on_21 : decode cX12_on 21 = .ok (.invokestatic 46, 3) := by decide +kernel
theorem dX12_on_24 : decode cX12_on 24 = .ok (.ifCond .ne 10, 3) := by decide +kernel
theorem dX12_on_27 : decode cX12_on 27 = .ok (.aload_n 0, 1) := by decide +kernel
theorem dX12_on_28 : decode cX12_on 28 = .ok (.ldc 41, 2) := by decide +kernel
theorem dX12_on_30 : decode cX12_on 30 = .ok (.invokevirtual 63, 3) := by decide +kernel
theorem dX12_on_33 : decode cX12_on 33 = .ok (.ireturn, 1) := by decide +kernel
theorem dX12_on_34 : decode cX12_on 34 = .ok (.aload_n 0, 1) := by decide +kernel
theorem dX12_on_35 : decode cX12_on 35 = .ok (.invokevirtual 168, 3) := by decide +kernel
theorem dX12_on_38 : decode cX12_on 38 = .ok (.aload_n 0, 1) := by decide +kernel
theorem dX12_on_39 : decode cX12_on 39 = .ok (.iload_n 2, 1) := by decide +kernel
theorem dX12_on_40 : decode cX12_on 40 = .ok (.invokevirtual 160, 3) := by decide +kernel
theorem dX12_on_43 : decode cX12_on 43 = .ok (.aload_n 0, 1) := by decide +kernel
theorem dX12_on_44 : decode cX12_on 44 = .ok (.aload_n 0, 1) := by decide +kernel
theorem dX12_on_45 : decode cX12_on 45 = .ok (.iload_n 1, 1) := by decide +kernel
theorem dX12_on_46 : decode cX12_on 46 = .ok (.iload_n 3, 1) := by decide +kernel
theorem dX12_on_47 : decode cX12_on 47 = .ok (.ifCond .ne 7, 3) := by decide +kernel
theorem dX12_on_50 : decode cX12_on 50 = .ok (.iconst 1, 1) := by decide +kernel
theorem dX12_on_51 : decode cX12_on 51 = .ok (.goto 13, 3) := by decide +kernel
theorem dX12_on_54 : decode cX12_on 54 = .ok (.iload_n 3, 1) := by decide +kernel
theorem dX12_on_55 : decode cX12_on 55 = .ok (.iconst 1, 1) := by decide +kernel
theorem dX12_on_56 : decode cX12_on 56 = .ok (.if_icmp .ne 7, 3) := by decide +kernel
theorem dX12_on_59 : decode cX12_on 59 = .ok (.iconst 2, 1) := by decide +kernel
theorem dX12_on_60 : decode cX12_on 60 = .ok (.goto 4, 3) := by decide +kernel
theorem dX12_on_63 : decode cX12_on 63 = .ok (.iconst 4, 1) := by decide +kernel
theorem dX12_on_64 : decode cX12_on 64 = .ok (.invokevirtual 67, 3) := by decide +kernel
theorem dX12_on_67 : decode cX12_on 67 = .ok (.invokevirtual 171, 3) := by decide +kernel
theorem dX12_on_70 : decode cX12_on 70 = .ok (.ireturn, 1) := by decide +kernel
theorem dX12_isWashed_0 : decode cX12_isWashed 0 = .ok (.iconst 0, 1) := by decide +kernel
theorem dX12_isWashed_1 : decode cX12_isWashed 1 = .ok (.istore_n 3, 1) := by decide +kernel
theorem dX12_isWashed_2 : decode cX12_isWashed 2 = .ok (.iload_n 3, 1) := by decide +kernel
theorem dX12_isWashed_3 : decode cX12_isWashed 3 = .ok (.iload_n 2, 1) := by decide +kernel
theorem dX12_isWashed_4 : decode cX12_isWashed 4 = .ok (.if_icmp .ge 15, 3) := by decide +kernel
theorem dX12_isWashed_7 : decode cX12_isWashed 7 = .ok (.aload_n 0, 1) := by decide +kernel
theorem dX12_isWashed_8 : decode cX12_isWashed 8 = .ok (.iload_n 1, 1) := by decide +kernel
theorem dX12_isWashed_9 : decode cX12_isWashed 9 = .ok (.invokevirtual 134, 3) := by decide +kernel
theorem dX12_isWashed_12 : decode cX12_isWashed 12 = .ok (.pop, 1) := by decide +kernel
theorem dX12_isWashed_13 : decode cX12_isWashed 13 = .ok (.iinc 3 1, 3) := by decide +kernel
theorem dX12_isWashed_16 : decode cX12_isWashed 16 = .ok (.goto (-14), 3) := by decide +kernel
theorem dX12_isWashed_19 : decode cX12_isWashed 19 = .ok (.return_, 1) := by decide +kernel
theorem dX12_washedTo_0 : decode cX12_washedTo 0 = .ok (.aload_n 0, 1) := by decide +kernel
theorem dX12_washedTo_1 : decode cX12_washedTo 1 = .ok (.invokevirtual 168, 3) := by decide +kernel
theorem dX12_washedTo_4 : decode cX12_washedTo 4 = .ok (.aload_n 0, 1) := by decide +kernel
theorem dX12_washedTo_5 : decode cX12_washedTo 5 = .ok (.iload_n 1, 1) := by decide +kernel
theorem dX12_washedTo_6 : decode cX12_washedTo 6 = .ok (.iload_n 2, 1) := by decide +kernel
theorem dX12_washedTo_7 : decode cX12_washedTo 7 = .ok (.invokevirtual 174, 3) := by decide +kernel
theorem dX12_washedTo_10 : decode cX12_washedTo 10 = .ok (.aload_n 0, 1) := by decide +kernel
theorem dX12_washedTo_11 : decode cX12_washedTo 11 = .ok (.aload_n 0, 1) := by decide +kernel
theorem dX12_washedTo_12 : decode cX12_washedTo 12 = .ok (.iload_n 1, 1) := by decide +kernel
theorem dX12_washedTo_13 : decode cX12_washedTo 13 = .ok (.iload_n 3, 1) := by decide +kernel
theorem dX12_washedTo_14 : decode cX12_washedTo 14 = .ok (.invokevirtual 67, 3) := by decide +kernel
theorem dX12_washedTo_17 : decode cX12_washedTo 17 = .ok (.invokevirtual 171, 3) := by decide +kernel
theorem dX12_washedTo_20 : decode cX12_washedTo 20 = .ok (.ireturn, 1) := by decide +kernel
theorem dX12_again_0 : decode cX12_again 0 = .ok (.aload_n 0, 1) := by decide +kernel
theorem dX12_again_1 : decode cX12_again 1 = .ok (.iload_n 1, 1) := by decide +kernel
theorem dX12_again_2 : decode cX12_again 2 = .ok (.invokevirtual 103, 3) := by decide +kernel
theorem dX12_again_5 : decode cX12_again 5 = .ok (.ifCond .eq 39, 3) := by decide +kernel
theorem dX12_again_8 : decode cX12_again 8 = .ok (.iload_n 2, 1) := by decide +kernel
theorem dX12_again_9 : decode cX12_again 9 = .ok (.i2l, 1) := by decide +kernel
theorem dX12_again_10 : decode cX12_again 10 = .ok (.lconst 0, 1) := by decide +kernel
theorem dX12_again_11 : decode cX12_again 11 = .ok (.ldc2_w 178, 3) := by decide +kernel
theorem dX12_again_14 : decode cX12_again 14 = .ok (.invokestatic 46, 3) := by decide +kernel
theorem dX12_again_17 : decode cX12_again 17 = .ok (.ifCond .eq 27, 3) := by decide +kernel
theorem dX12_again_20 : decode cX12_again 20 = .ok (.iload_n 3, 1) := by decide +kernel
theorem dX12_again_21 : decode cX12_again 21 = .ok (.i2l, 1) := by decide +kernel
theorem dX12_again_22 : decode cX12_again 22 = .ok (.lconst 0, 1) := by decide +kernel
theorem dX12_again_23 : decode cX12_again 23 = .ok (.ldc2_w 166, 3) := by decide +kernel
theorem dX12_again_26 : decode cX12_again 26 = .ok (.invokestatic 46, 3) := by decide +kernel
theorem dX12_again_29 : decode cX12_again 29 = .ok (.ifCond .eq 15, 3) := by decide +kernel
theorem dX12_again_32 : decode cX12_again 32 = .ok (.aload_n 0, 1) := by decide +kernel
theorem dX12_again_33 : decode cX12_again 33 = .ok (.iload_n 1, 1) := by decide +kernel
theorem dX12_again_34 : decode cX12_again 34 = .ok (.iload_n 2, 1) := by decide +kernel
theorem dX12_again_35 : decode cX12_again 35 = .ok (.iconst 1, 1) := by decide +kernel
theorem dX12_again_36 : decode cX12_again 36 = .ok (.iload_n 3, 1) := by decide +kernel
theorem dX12_again_37 : decode cX12_again 37 = .ok (.iadd, 1) := by decide +kernel
theorem dX12_again_38 : decode cX12_again 38 = .ok (.invokevirtual 180, 3) := by decide +kernel
theorem dX12_again_41 : decode cX12_again 41 = .ok (.goto 9, 3) := by decide +kernel
theorem dX12_again_44 : decode cX12_again 44 = .ok (.aload_n 0, 1) := by decide +kernel
theorem dX12_again_45 : decode cX12_again 45 = .ok (.ldc 41, 2) := by decide +kernel
theorem dX12_again_47 : decode cX12_again 47 = .ok (.invokevirtual 63, 3) := by decide +kernel
theorem dX12_again_50 : decode cX12_again 50 = .ok (.ireturn, 1) := by decide +kernel
theorem dX12_isFittingBy_0 : decode cX12_isFittingBy 0 = .ok (.aload_n 0, 1) := by decide +kernel
theorem dX12_isFittingBy_1 : decode cX12_isFittingBy 1 = .ok (.invokevirtual 168, 3) := by decide +kernel
theorem dX12_isFittingBy_4 : decode cX12_isFittingBy 4 = .ok (.aload_n 0, 1) := by decide +kernel
theorem dX12_isFittingBy_5 : decode cX12_isFittingBy 5 = .ok (.iload_n 1, 1) := by decide +kernel
theorem dX12_isFittingBy_6 : decode cX12_isFittingBy 6 = .ok (.iload_n 3, 1) := by decide +kernel
theorem dX12_isFittingBy_7 : decode cX12_isFittingBy 7 = .ok (.invokevirtual 174, 3) := by decide +kernel
theorem dX12_isFittingBy_10 : decode cX12_isFittingBy 10 = .ok (.iload 4, 2) := by decide +kernel
theorem dX12_isFittingBy_12 : decode cX12_isFittingBy 12 = .ok (.ifCond .le 11, 3) := by decide +kernel
theorem dX12_isFittingBy_15 : decode cX12_isFittingBy 15 = .ok (.aload_n 0, 1) := by decide +kernel
theorem dX12_isFittingBy_16 : decode cX12_isFittingBy 16 = .ok (.iload_n 1, 1) := by decide +kernel
theorem dX12_isFittingBy_17 : decode cX12_isFittingBy 17 = .ok (.iload 4, 2) := by decide +kernel
theorem dX12_isFittingBy_19 : decode cX12_isFittingBy 19 = .ok (.invokevirtual 140, 3) := by decide +kernel
theorem dX12_isFittingBy_22 : decode cX12_isFittingBy 22 = .ok (.pop, 1) := by decide +kernel
theorem dX12_isFittingBy_23 : decode cX12_isFittingBy 23 = .ok (.aload_n 0, 1) := by decide +kernel
theorem dX12_isFittingBy_24 : decode cX12_isFittingBy 24 = .ok (.iconst 3, 1) := by decide +kernel
theorem dX12_isFittingBy_25 : decode cX12_isFittingBy 25 = .ok (.invokevirtual 160, 3) := by decide +kernel
theorem dX12_isFittingBy_28 : decode cX12_isFittingBy 28 = .ok (.aload_n 0, 1) := by decide +kernel
theorem dX12_isFittingBy_29 : decode cX12_isFittingBy 29 = .ok (.aload_n 0, 1) := by decide +kernel
theorem dX12_isFittingBy_30 : decode cX12_isFittingBy 30 = .ok (.iload_n 1, 1) := by decide +kernel
theorem dX12_isFittingBy_31 : decode cX12_isFittingBy 31 = .ok (.iload_n 2, 1) := by decide +kernel
theorem dX12_isFittingBy_32 : decode cX12_isFittingBy 32 = .ok (.invokevirtual 75, 3) := by decide +kernel
theorem dX12_isFittingBy_35 : decode cX12_isFittingBy 35 = .ok (.ifCond .eq 7, 3) := by decide +kernel
theorem dX12_isFittingBy_38 : decode cX12_isFittingBy 38 = .ok (.iconst 1, 1) := by decide +kernel
theorem dX12_isFittingBy_39 : decode cX12_isFittingBy 39 = .ok (.goto 4, 3) := by decide +kernel
theorem dX12_isFittingBy_42 : decode cX12_isFittingBy 42 = .ok (.iconst 0, 1) := by decide +kernel
theorem dX12_isFittingBy_43 : decode cX12_isFittingBy 43 = .ok (.invokevirtual 171, 3) := by decide +kernel
theorem dX12_isFittingBy_46 : decode cX12_isFittingBy 46 = .ok (.iconst 1, 1) := by decide +kernel
theorem dX12_isFittingBy_47 : decode cX12_isFittingBy 47 = .ok (.if_icmp .ne 7, 3) := by decide +kernel
theorem dX12_isFittingBy_50 : decode cX12_isFittingBy 50 = .ok (.iconst 1, 1) := by decide +kernel
theorem dX12_isFittingBy_51 : decode cX12_isFittingBy 51 = .ok (.goto 4, 3) := by decide +kernel
theorem dX12_isFittingBy_54 : decode cX12_isFittingBy 54 = .ok (.iconst 0, 1) := by decide +kernel
theorem dX12_isFittingBy_55 : decode cX12_isFittingBy 55 = .ok (.ireturn, 1) := by decide +kernel
theorem dX12_washes_0 : decode cX12_washes 0 = .ok (.aload_n 0, 1) := by decide +kernel
theorem dX12_washes_1 : decode cX12_washes 1 = .ok (.iload_n 1, 1) := by decide +kernel
theorem dX12_washes_2 : decode cX12_washes 2 = .ok (.invokevirtual 103, 3) := by decide +kernel
theorem dX12_washes_5 : decode cX12_washes 5 = .ok (.ifCond .eq 11, 3) := by decide +kernel
theorem dX12_washes_8 : decode cX12_washes 8 = .ok (.aload_n 0, 1) := by decide +kernel
theorem dX12_washes_9 : decode cX12_washes 9 = .ok (.iload_n 2, 1) := by decide +kernel
theorem dX12_washes_10 : decode cX12_washes 10 = .ok (.invokevirtual 150, 3) := by decide +kernel
theorem dX12_washes_13 : decode cX12_washes 13 = .ok (.ifCond .ne 10, 3) := by decide +kernel
theorem dX12_washes_16 : decode cX12_washes 16 = .ok (.aload_n 0, 1) := by decide +kernel
theorem dX12_washes_17 : decode cX12_washes 17 = .ok (.ldc 41, 2) := by decide +kernel
theorem dX12_washes_19 : decode cX12_washes 19 = .ok (.invokevirtual 63, 3) := by decide +kernel
theorem dX12_washes_22 : decode cX12_washes 22 = .ok (.ireturn, 1) := by decide +kernel
theorem dX12_washes_23 : decode cX12_washes 23 = .ok (.iconst 0, 1) := by decide +kernel
theorem dX12_washes_24 : decode cX12_washes 24 = .ok (.istore_n 3, 1) := by decide +kernel
theorem dX12_washes_25 : decode cX12_washes 25 = .ok (.iconst 1, 1) := by decide +kernel
theorem dX12_washes_26 : decode cX12_washes 26 = .ok (.istore 4, 2) := by decide +kernel
theorem dX12_washes_28 : decode cX12_washes 28 = .ok (.iload 4, 2) := by decide +kernel
theorem dX12_washes_30 : decode cX12_washes 30 = .ok (.bipush 40, 2) := by decide +kernel
theorem dX12_washes_32 : decode cX12_washes 32 = .ok (.if_icmp .gt 32, 3) := by decide +kernel
theorem dX12_washes_35 : decode cX12_washes 35 = .ok (.iload_n 3, 1) := by decide +kernel
theorem dX12_washes_36 : decode cX12_washes 36 = .ok (.ifCond .ne 28, 3) := by decide +kernel
theorem dX12_washes_39 : decode cX12_washes 39 = .ok (.aload_n 0, 1) := by decide +kernel
theorem dX12_washes_40 : decode cX12_washes 40 = .ok (.iload_n 1, 1) := by decide +kernel
theorem dX12_washes_41 : decode cX12_washes 41 = .ok (.iload_n 2, 1) := by decide +kernel
theorem dX12_washes_42 : decode cX12_washes 42 = .ok (.iload 4, 2) := by decide +kernel
theorem dX12_washes_44 : decode cX12_washes 44 = .ok (.iconst 0, 1) := by decide +kernel
theorem dX12_washes_45 : decode cX12_washes 45 = .ok (.invokevirtual 183, 3) := by decide +kernel
theorem dX12_washes_48 : decode cX12_washes 48 = .ok (.ifCond .eq 8, 3) := by decide +kernel
theorem dX12_washes_51 : decode cX12_washes 51 = .ok (.iload 4, 2) := by decide +kernel
theorem dX12_washes_53 : decode cX12_washes 53 = .ok (.goto 4, 3) := by decide +kernel
theorem dX12_washes_56 : decode cX12_washes 56 = .ok (.iconst 0, 1) := by decide +kernel
theorem dX12_washes_57 : decode cX12_washes 57 = .ok (.istore_n 3, 1) := by decide +kernel
theorem dX12_washes_58 : decode cX12_washes 58 = .ok (.iinc 4 1, 3) := by decide +kernel
theorem dX12_washes_61 : decode cX12_washes 61 = .ok (.goto (-33), 3) := by decide +kernel
theorem dX12_washes_64 : decode cX12_washes 64 = .ok (.iload_n 3, 1) := by decide +kernel
theorem dX12_washes_65 : decode cX12_washes 65 = .ok (.ifCond .ne 12, 3) := by decide +kernel
theorem dX12_washes_68 : decode cX12_washes 68 = .ok (.aload_n 0, 1) := by decide +kernel
theorem dX12_washes_69 : decode cX12_washes 69 = .ok (.ldc 187, 2) := by decide +kernel
theorem dX12_washes_71 : decode cX12_washes 71 = .ok (.invokevirtual 63, 3) := by decide +kernel
theorem dX12_washes_74 : decode cX12_washes 74 = .ok (.goto 4, 3) := by decide +kernel
theorem dX12_washes_77 : decode cX12_washes 77 = .ok (.iload_n 3, 1) := by decide +kernel
theorem dX12_washes_78 : decode cX12_washes 78 = .ok (.ireturn, 1) := by decide +kernel
theorem dX12_warmest_0 : decode cX12_warmest 0 = .ok (.aload_n 0, 1) := by decide +kernel
theorem dX12_warmest_1 : decode cX12_warmest 1 = .ok (.iload_n 1, 1) := by decide +kernel
theorem dX12_warmest_2 : decode cX12_warmest 2 = .ok (.invokevirtual 103, 3) := by decide +kernel
theorem dX12_warmest_5 : decode cX12_warmest 5 = .ok (.ifCond .eq 11, 3) := by decide +kernel
theorem dX12_warmest_8 : decode cX12_warmest 8 = .ok (.aload_n 0, 1) := by decide +kernel
theorem dX12_warmest_9 : decode cX12_warmest 9 = .ok (.iload_n 2, 1) := by decide +kernel
theorem dX12_warmest_10 : decode cX12_warmest 10 = .ok (.invokevirtual 150, 3) := by decide +kernel
theorem dX12_warmest_13 : decode cX12_warmest 13 = .ok (.ifCond .ne 10, 3) := by decide +kernel
theorem dX12_warmest_16 : decode cX12_warmest 16 = .ok (.aload_n 0, 1) := by decide +kernel
theorem dX12_warmest_17 : decode cX12_warmest 17 = .ok (.ldc 41, 2) := by decide +kernel
theorem dX12_warmest_19 : decode cX12_warmest 19 = .ok (.invokevirtual 63, 3) := by decide +kernel
theorem dX12_warmest_22 : decode cX12_warmest 22 = .ok (.ireturn, 1) := by decide +kernel
theorem dX12_warmest_23 : decode cX12_warmest 23 = .ok (.aload_n 0, 1) := by decide +kernel
theorem dX12_warmest_24 : decode cX12_warmest 24 = .ok (.getfield 7, 3) := by decide +kernel
theorem dX12_warmest_27 : decode cX12_warmest 27 = .ok (.iconst 3, 1) := by decide +kernel
theorem dX12_warmest_28 : decode cX12_warmest 28 = .ok (.iaload, 1) := by decide +kernel
theorem dX12_warmest_29 : decode cX12_warmest 29 = .ok (.istore_n 3, 1) := by decide +kernel
theorem dX12_warmest_30 : decode cX12_warmest 30 = .ok (.iconst 0, 1) := by decide +kernel
theorem dX12_warmest_31 : decode cX12_warmest 31 = .ok (.istore 4, 2) := by decide +kernel
theorem dX12_warmest_33 : decode cX12_warmest 33 = .ok (.bipush 95, 2) := by decide +kernel
theorem dX12_warmest_35 : decode cX12_warmest 35 = .ok (.istore 5, 2) := by decide +kernel
theorem dX12_warmest_37 : decode cX12_warmest 37 = .ok (.iload 5, 2) := by decide +kernel
theorem dX12_warmest_39 : decode cX12_warmest 39 = .ok (.bipush 20, 2) := by decide +kernel
theorem dX12_warmest_41 : decode cX12_warmest 41 = .ok (.if_icmp .lt 41, 3) := by decide +kernel
theorem dX12_warmest_44 : decode cX12_warmest 44 = .ok (.iload 4, 2) := by decide +kernel
theorem dX12_warmest_46 : decode cX12_warmest 46 = .ok (.ifCond .ne 36, 3) := by decide +kernel
theorem dX12_warmest_49 : decode cX12_warmest 49 = .ok (.aload_n 0, 1) := by decide +kernel
theorem dX12_warmest_50 : decode cX12_warmest 50 = .ok (.getfield 7, 3) := by decide +kernel
theorem dX12_warmest_53 : decode cX12_warmest 53 = .ok (.iconst 3, 1) := by decide +kernel
theorem dX12_warmest_54 : decode cX12_warmest 54 = .ok (.iload 5, 2) := by decide +kernel
theorem dX12_warmest_56 : decode cX12_warmest 56 = .ok (.iastore, 1) := by decide +kernel
theorem dX12_warmest_57 : decode cX12_warmest 57 = .ok (.aload_n 0, 1) := by decide +kernel
theorem dX12_warmest_58 : decode cX12_warmest 58 = .ok (.iload_n 1, 1) := by decide +kernel
theorem dX12_warmest_59 : decode cX12_warmest 59 = .ok (.iload_n 2, 1) := by decide +kernel
theorem dX12_warmest_60 : decode cX12_warmest 60 = .ok (.iconst 1, 1) := by decide +kernel
theorem dX12_warmest_61 : decode cX12_warmest 61 = .ok (.iconst 0, 1) := by decide +kernel
theorem dX12_warmest_62 : decode cX12_warmest 62 = .ok (.invokevirtual 183, 3) := by decide +kernel
theorem dX12_warmest_65 : decode cX12_warmest 65 = .ok (.ifCond .eq 8, 3) := by decide +kernel
theorem dX12_warmest_68 : decode cX12_warmest 68 = .ok (.iload 5, 2) := by decide +kernel
theorem dX12_warmest_70 : decode cX12_warmest 70 = .ok (.goto 4, 3) := by decide +kernel
theorem dX12_warmest_73 : decode cX12_warmest 73 = .ok (.iconst 0, 1) := by decide +kernel
theorem dX12_warmest_74 : decode cX12_warmest 74 = .ok (.istore 4, 2) := by decide +kernel
theorem dX12_warmest_76 : decode cX12_warmest 76 = .ok (.iinc 5 (-1), 3) := by decide +kernel
theorem dX12_warmest_79 : decode cX12_warmest 79 = .ok (.goto (-42), 3) := by decide +kernel
theorem dX12_warmest_82 : decode cX12_warmest 82 = .ok (.aload_n 0, 1) := by decide +kernel
theorem dX12_warmest_83 : decode cX12_warmest 83 = .ok (.getfield 7, 3) := by decide +kernel
theorem dX12_warmest_86 : decode cX12_warmest 86 = .ok (.iconst 3, 1) := by decide +kernel
theorem dX12_warmest_87 : decode cX12_warmest 87 = .ok (.iload_n 3, 1) := by decide +kernel
theorem dX12_warmest_88 : decode cX12_warmest 88 = .ok (.iastore, 1) := by decide +kernel
theorem dX12_warmest_89 : decode cX12_warmest 89 = .ok (.iload 4, 2) := by decide +kernel
theorem dX12_warmest_91 : decode cX12_warmest 91 = .ok (.ifCond .ne 12, 3) := by decide +kernel
theorem dX12_warmest_94 : decode cX12_warmest 94 = .ok (.aload_n 0, 1) := by decide +kernel
theorem dX12_warmest_95 : decode cX12_warmest 95 = .ok (.ldc 187, 2) := by decide +kernel
theorem dX12_warmest_97 : decode cX12_warmest 97 = .ok (.invokevirtual 63, 3) := by decide +kernel
theorem dX12_warmest_100 : decode cX12_warmest 100 = .ok (.goto 5, 3) := by decide +kernel
theorem dX12_warmest_103 : decode cX12_warmest 103 = .ok (.iload 4, 2) := by decide +kernel
theorem dX12_warmest_105 : decode cX12_warmest 105 = .ok (.ireturn, 1) := by decide +kernel
theorem dX12_pull_0 : decode cX12_pull 0 = .ok (.aload_n 0, 1) := by decide +kernel
theorem dX12_pull_1 : decode cX12_pull 1 = .ok (.iload_n 1, 1) := by decide +kernel
theorem dX12_pull_2 : decode cX12_pull 2 = .ok (.invokevirtual 103, 3) := by decide +kernel
theorem dX12_pull_5 : decode cX12_pull 5 = .ok (.ifCond .eq 11, 3) := by decide +kernel
theorem dX12_pull_8 : decode cX12_pull 8 = .ok (.aload_n 0, 1) := by decide +kernel
theorem dX12_pull_9 : decode cX12_pull 9 = .ok (.iload_n 2, 1) := by decide +kernel
theorem dX12_pull_10 : decode cX12_pull 10 = .ok (.invokevirtual 150, 3) := by decide +kernel
theorem dX12_pull_13 : decode cX12_pull 13 = .ok (.ifCond .ne 10, 3) := by decide +kernel
theorem dX12_pull_16 : decode cX12_pull 16 = .ok (.aload_n 0, 1) := by decide +kernel
theorem dX12_pull_17 : decode cX12_pull 17 = .ok (.ldc 41, 2) := by decide +kernel
theorem dX12_pull_19 : decode cX12_pull 19 = .ok (.invokevirtual 63, 3) := by decide +kernel
theorem dX12_pull_22 : decode cX12_pull 22 = .ok (.ireturn, 1) := by decide +kernel
theorem dX12_pull_23 : decode cX12_pull 23 = .ok (.iconst (-1), 1) := by decide +kernel
theorem dX12_pull_24 : decode cX12_pull 24 = .ok (.istore_n 3, 1) := by decide +kernel
theorem dX12_pull_25 : decode cX12_pull 25 = .ok (.iconst 0, 1) := by decide +kernel
theorem dX12_pull_26 : decode cX12_pull 26 = .ok (.istore 4, 2) := by decide +kernel
theorem dX12_pull_28 : decode cX12_pull 28 = .ok (.iload 4, 2) := by decide +kernel
theorem dX12_pull_30 : decode cX12_pull 30 = .ok (.bipush 50, 2) := by decide +kernel
theorem dX12_pull_32 : decode cX12_pull 32 = .ok (.if_icmp .gt 32, 3) := by decide +kernel
theorem dX12_pull_35 : decode cX12_pull 35 = .ok (.iload_n 3, 1) := by decide +kernel
theorem dX12_pull_36 : decode cX12_pull 36 = .ok (.ifCond .ge 28, 3) := by decide +kernel
theorem dX12_pull_39 : decode cX12_pull 39 = .ok (.aload_n 0, 1) := by decide +kernel
theorem dX12_pull_40 : decode cX12_pull 40 = .ok (.iload_n 1, 1) := by decide +kernel
theorem dX12_pull_41 : decode cX12_pull 41 = .ok (.iload_n 2, 1) := by decide +kernel
theorem dX12_pull_42 : decode cX12_pull 42 = .ok (.iconst 1, 1) := by decide +kernel
theorem dX12_pull_43 : decode cX12_pull 43 = .ok (.iload 4, 2) := by decide +kernel
theorem dX12_pull_45 : decode cX12_pull 45 = .ok (.invokevirtual 183, 3) := by decide +kernel
theorem dX12_pull_48 : decode cX12_pull 48 = .ok (.ifCond .eq 8, 3) := by decide +kernel
theorem dX12_pull_51 : decode cX12_pull 51 = .ok (.iload 4, 2) := by decide +kernel
theorem dX12_pull_53 : decode cX12_pull 53 = .ok (.goto 4, 3) := by decide +kernel
theorem dX12_pull_56 : decode cX12_pull 56 = .ok (.iconst (-1), 1) := by decide +kernel
theorem dX12_pull_57 : decode cX12_pull 57 = .ok (.istore_n 3, 1) := by decide +kernel
theorem dX12_pull_58 : decode cX12_pull 58 = .ok (.iinc 4 1, 3) := by decide +kernel
theorem dX12_pull_61 : decode cX12_pull 61 = .ok (.goto (-33), 3) := by decide +kernel
theorem dX12_pull_64 : decode cX12_pull 64 = .ok (.iload_n 3, 1) := by decide +kernel
theorem dX12_pull_65 : decode cX12_pull 65 = .ok (.ifCond .ge 12, 3) := by decide +kernel
theorem dX12_pull_68 : decode cX12_pull 68 = .ok (.aload_n 0, 1) := by decide +kernel
theorem dX12_pull_69 : decode cX12_pull 69 = .ok (.ldc 187, 2) := by decide +kernel
theorem dX12_pull_71 : decode cX12_pull 71 = .ok (.invokevirtual 63, 3) := by decide +kernel
theorem dX12_pull_74 : decode cX12_pull 74 = .ok (.goto 4, 3) := by decide +kernel
theorem dX12_pull_77 : decode cX12_pull 77 = .ok (.iload_n 3, 1) := by decide +kernel
theorem dX12_pull_78 : decode cX12_pull 78 = .ok (.ireturn, 1) := by decide +kernel
theorem dX12_kind_0 : decode cX12_kind 0 = .ok (.aload_n 0, 1) := by decide +kernel
theorem dX12_kind_1 : decode cX12_kind 1 = .ok (.iload_n 1, 1) := by decide +kernel
theorem dX12_kind_2 : decode cX12_kind 2 = .ok (.invokevirtual 103, 3) := by decide +kernel
theorem dX12_kind_5 : decode cX12_kind 5 = .ok (.ifCond .eq 15, 3) := by decide +kernel
theorem dX12_kind_8 : decode cX12_kind 8 = .ok (.iload_n 2, 1) := by decide +kernel
theorem dX12_kind_9 : decode cX12_kind 9 = .ok (.i2l, 1) := by decide +kernel
theorem dX12_kind_10 : decode cX12_kind 10 = .ok (.lconst 1, 1) := by decide +kernel
theorem dX12_kind_11 : decode cX12_kind 11 = .ok (.ldc2_w 178, 3) := by decide +kernel
theorem dX12_kind_14 : decode cX12_kind 14 = .ok (.invokestatic 46, 3) := by decide +kernel
theorem dX12_kind_17 : decode cX12_kind 17 = .ok (.ifCond .ne 10, 3) := by decide +kernel
theorem dX12_kind_20 : decode cX12_kind 20 = .ok (.aload_n 0, 1) := by decide +kernel
theorem dX12_kind_21 : decode cX12_kind 21 = .ok (.ldc 41, 2) := by decide +kernel
theorem dX12_kind_23 : decode cX12_kind 23 = .ok (.invokevirtual 63, 3) := by decide +kernel
theorem dX12_kind_26 : decode cX12_kind 26 = .ok (.ireturn, 1) := by decide +kernel
theorem dX12_kind_27 : decode cX12_kind 27 = .ok (.aload_n 0, 1) := by decide +kernel
theorem dX12_kind_28 : decode cX12_kind 28 = .ok (.iload_n 1, 1) := by decide +kernel
theorem dX12_kind_29 : decode cX12_kind 29 = .ok (.iconst 0, 1) := by decide +kernel
theorem dX12_kind_30 : decode cX12_kind 30 = .ok (.invokevirtual 67, 3) := by decide +kernel
theorem dX12_kind_33 : decode cX12_kind 33 = .ok (.istore_n 3, 1) := by decide +kernel
theorem dX12_kind_34 : decode cX12_kind 34 = .ok (.iconst 0, 1) := by decide +kernel
theorem dX12_kind_35 : decode cX12_kind 35 = .ok (.istore 4, 2) := by decide +kernel
theorem dX12_kind_37 : decode cX12_kind 37 = .ok (.iconst (-1), 1) := by decide +kernel
theorem dX12_kind_38 : decode cX12_kind 38 = .ok (.istore 5, 2) := by decide +kernel
theorem dX12_kind_40 : decode cX12_kind 40 = .ok (.iconst 0, 1) := by decide +kernel
theorem dX12_kind_41 : decode cX12_kind 41 = .ok (.istore 6, 2) := by decide +kernel
theorem dX12_kind_43 : decode cX12_kind 43 = .ok (.iload 6, 2) := by decide +kernel
theorem dX12_kind_45 : decode cX12_kind 45 = .ok (.iconst 5, 1) := by decide +kernel
theorem dX12_kind_46 : decode cX12_kind 46 = .ok (.if_icmp .gt 62, 3) := by decide +kernel
theorem dX12_kind_49 : decode cX12_kind 49 = .ok (.aload_n 0, 1) := by decide +kernel
theorem dX12_kind_50 : decode cX12_kind 50 = .ok (.getfield 7, 3) := by decide +kernel
theorem dX12_kind_53 : decode cX12_kind 53 = .ok (.iload_n 1, 1) := by decide +kernel
theorem dX12_kind_54 : decode cX12_kind 54 = .ok (.iconst 0, 1) := by decide +kernel
theorem dX12_kind_55 : decode cX12_kind 55 = .ok (.invokestatic 42, 3) := by decide +kernel
theorem dX12_kind_58 : decode cX12_kind 58 = .ok (.iload 6, 2) := by decide +kernel
theorem dX12_kind_60 : decode cX12_kind 60 = .ok (.iastore, 1) := by decide +kernel
theorem dX12_kind_61 : decode cX12_kind 61 = .ok (.aload_n 0, 1) := by decide +kernel
theorem dX12_kind_62 : decode cX12_kind 62 = .ok (.iload_n 1, 1) := by decide +kernel
theorem dX12_kind_63 : decode cX12_kind 63 = .ok (.iload_n 2, 1) := by decide +kernel
theorem dX12_kind_64 : decode cX12_kind 64 = .ok (.iconst 1, 1) := by decide +kernel
theorem dX12_kind_65 : decode cX12_kind 65 = .ok (.invokevirtual 180, 3) := by decide +kernel
theorem dX12_kind_68 : decode cX12_kind 68 = .ok (.istore 7, 2) := by decide +kernel
theorem dX12_kind_70 : decode cX12_kind 70 = .ok (.iload 7, 2) := by decide +kernel
theorem dX12_kind_72 : decode cX12_kind 72 = .ok (.iload 5, 2) := by decide +kernel
theorem dX12_kind_74 : decode cX12_kind 74 = .ok (.if_icmp .le 8, 3) := by decide +kernel
theorem dX12_kind_77 : decode cX12_kind 77 = .ok (.iload 6, 2) := by decide +kernel
theorem dX12_kind_79 : decode cX12_kind 79 = .ok (.goto 5, 3) := by decide +kernel
theorem dX12_kind_82 : decode cX12_kind 82 = .ok (.iload 4, 2) := by decide +kernel
theorem dX12_kind_84 : decode cX12_kind 84 = .ok (.istore 4, 2) := by decide +kernel
theorem dX12_kind_86 : decode cX12_kind 86 = .ok (.iload 7, 2) := by decide +kernel
theorem dX12_kind_88 : decode cX12_kind 88 = .ok (.iload 5, 2) := by decide +kernel
theorem dX12_kind_90 : decode cX12_kind 90 = .ok (.if_icmp .le 8, 3) := by decide +kernel
theorem dX12_kind_93 : decode cX12_kind 93 = .ok (.iload 7, 2) := by decide +kernel
theorem dX12_kind_95 : decode cX12_kind 95 = .ok (.goto 5, 3) := by decide +kernel
theorem dX12_kind_98 : decode cX12_kind 98 = .ok (.iload 5, 2) := by decide +kernel
theorem dX12_kind_100 : decode cX12_kind 100 = .ok (.istore 5, 2) := by decide +kernel
theorem dX12_kind_102 : decode cX12_kind 102 = .ok (.iinc 6 1, 3) := by decide +kernel
theorem dX12_kind_105 : decode cX12_kind 105 = .ok (.goto (-62), 3) := by decide +kernel
theorem dX12_kind_108 : decode cX12_kind 108 = .ok (.aload_n 0, 1) := by decide +kernel
theorem dX12_kind_109 : decode cX12_kind 109 = .ok (.getfield 7, 3) := by decide +kernel
theorem dX12_kind_112 : decode cX12_kind 112 = .ok (.iload_n 1, 1) := by decide +kernel
theorem dX12_kind_113 : decode cX12_kind 113 = .ok (.iconst 0, 1) := by decide +kernel
theorem dX12_kind_114 : decode cX12_kind 114 = .ok (.invokestatic 42, 3) := by decide +kernel
theorem dX12_kind_117 : decode cX12_kind 117 = .ok (.iload_n 3, 1) := by decide +kernel
theorem dX12_kind_118 : decode cX12_kind 118 = .ok (.iastore, 1) := by decide +kernel
theorem dX12_kind_119 : decode cX12_kind 119 = .ok (.iload 4, 2) := by decide +kernel
theorem dX12_kind_121 : decode cX12_kind 121 = .ok (.ireturn, 1) := by decide +kernel
theorem dX12_manyFitting_0 : decode cX12_manyFitting 0 = .ok (.iconst 0, 1) := by decide +kernel
theorem dX12_manyFitting_1 : decode cX12_manyFitting 1 = .ok (.istore_n 2, 1) := by decide +kernel
theorem dX12_manyFitting_2 : decode cX12_manyFitting 2 = .ok (.iconst 0, 1) := by decide +kernel
theorem dX12_manyFitting_3 : decode cX12_manyFitting 3 = .ok (.istore_n 3, 1) := by decide +kernel
theorem dX12_manyFitting_4 : decode cX12_manyFitting 4 = .ok (.iload_n 3, 1) := by decide +kernel
theorem dX12_manyFitting_5 : decode cX12_manyFitting 5 = .ok (.aload_n 0, 1) := by decide +kernel
theorem dX12_manyFitting_6 : decode cX12_manyFitting 6 = .ok (.getfield 7, 3) := by decide +kernel
theorem dX12_manyFitting_9 : decode cX12_manyFitting 9 = .ok (.iconst 1, 1) := by decide +kernel
theorem dX12_manyFitting_10 : decode cX12_manyFitting 10 = .ok (.iaload, 1) := by decide +kernel
theorem dX12_manyFitting_11 : decode cX12_manyFitting 11 = .ok (.if_icmp .ge 26, 3) := by decide +kernel
theorem dX12_manyFitting_14 : decode cX12_manyFitting 14 = .ok (.iload_n 2, 1) := by decide +kernel
theorem dX12_manyFitting_15 : decode cX12_manyFitting 15 = .ok (.aload_n 0, 1) := by decide +kernel
theorem dX12_manyFitting_16 : decode cX12_manyFitting 16 = .ok (.iload_n 3, 1) := by decide +kernel
theorem dX12_manyFitting_17 : decode cX12_manyFitting 17 = .ok (.iload_n 1, 1) := by decide +kernel
theorem dX12_manyFitting_18 : decode cX12_manyFitting 18 = .ok (.invokevirtual 75, 3) := by decide +kernel
theorem dX12_manyFitting_21 : decode cX12_manyFitting 21 = .ok (.ifCond .eq 7, 3) := by decide +kernel
theorem dX12_manyFitting_24 : decode cX12_manyFitting 24 = .ok (.iconst 1, 1) := by decide +kernel
theorem dX12_manyFitting_25 : decode cX12_manyFitting 25 = .ok (.goto 4, 3) := by decide +kernel
theorem dX12_manyFitting_28 : decode cX12_manyFitting 28 = .ok (.iconst 0, 1) := by decide +kernel
theorem dX12_manyFitting_29 : decode cX12_manyFitting 29 = .ok (.iadd, 1) := by decide +kernel
theorem dX12_manyFitting_30 : decode cX12_manyFitting 30 = .ok (.istore_n 2, 1) := by decide +kernel
theorem dX12_manyFitting_31 : decode cX12_manyFitting 31 = .ok (.iinc 3 1, 3) := by decide +kernel
theorem dX12_manyFitting_34 : decode cX12_manyFitting 34 = .ok (.goto (-30), 3) := by decide +kernel
theorem dX12_manyFitting_37 : decode cX12_manyFitting 37 = .ok (.iload_n 2, 1) := by decide +kernel
theorem dX12_manyFitting_38 : decode cX12_manyFitting 38 = .ok (.ireturn, 1) := by decide +kernel
theorem dX12_dressed_0 : decode cX12_dressed 0 = .ok (.iload_n 1, 1) := by decide +kernel
theorem dX12_dressed_1 : decode cX12_dressed 1 = .ok (.invokestatic 163, 3) := by decide +kernel
theorem dX12_dressed_4 : decode cX12_dressed 4 = .ok (.ifCond .ne 10, 3) := by decide +kernel
theorem dX12_dressed_7 : decode cX12_dressed 7 = .ok (.aload_n 0, 1) := by decide +kernel
theorem dX12_dressed_8 : decode cX12_dressed 8 = .ok (.ldc 41, 2) := by decide +kernel
theorem dX12_dressed_10 : decode cX12_dressed 10 = .ok (.invokevirtual 63, 3) := by decide +kernel
theorem dX12_dressed_13 : decode cX12_dressed 13 = .ok (.ireturn, 1) := by decide +kernel
theorem dX12_dressed_14 : decode cX12_dressed 14 = .ok (.aload_n 0, 1) := by decide +kernel
theorem dX12_dressed_15 : decode cX12_dressed 15 = .ok (.getfield 7, 3) := by decide +kernel
theorem dX12_dressed_18 : decode cX12_dressed 18 = .ok (.iconst 2, 1) := by decide +kernel
theorem dX12_dressed_19 : decode cX12_dressed 19 = .ok (.iaload, 1) := by decide +kernel
theorem dX12_dressed_20 : decode cX12_dressed 20 = .ok (.ifCond .ne 10, 3) := by decide +kernel
theorem dX12_dressed_23 : decode cX12_dressed 23 = .ok (.aload_n 0, 1) := by decide +kernel
theorem dX12_dressed_24 : decode cX12_dressed 24 = .ok (.ldc 187, 2) := by decide +kernel
theorem dX12_dressed_26 : decode cX12_dressed 26 = .ok (.invokevirtual 63, 3) := by decide +kernel
theorem dX12_dressed_29 : decode cX12_dressed 29 = .ok (.ireturn, 1) := by decide +kernel
theorem dX12_dressed_30 : decode cX12_dressed 30 = .ok (.aload_n 0, 1) := by decide +kernel
theorem dX12_dressed_31 : decode cX12_dressed 31 = .ok (.invokevirtual 168, 3) := by decide +kernel
theorem dX12_dressed_34 : decode cX12_dressed 34 = .ok (.aload_n 0, 1) := by decide +kernel
theorem dX12_dressed_35 : decode cX12_dressed 35 = .ok (.iload_n 1, 1) := by decide +kernel
theorem dX12_dressed_36 : decode cX12_dressed 36 = .ok (.invokevirtual 160, 3) := by decide +kernel
theorem dX12_dressed_39 : decode cX12_dressed 39 = .ok (.iconst 0, 1) := by decide +kernel
theorem dX12_dressed_40 : decode cX12_dressed 40 = .ok (.istore_n 2, 1) := by decide +kernel
theorem dX12_dressed_41 : decode cX12_dressed 41 = .ok (.iconst 1, 1) := by decide +kernel
theorem dX12_dressed_42 : decode cX12_dressed 42 = .ok (.istore_n 3, 1) := by decide +kernel
theorem dX12_dressed_43 : decode cX12_dressed 43 = .ok (.iload_n 3, 1) := by decide +kernel
theorem dX12_dressed_44 : decode cX12_dressed 44 = .ok (.aload_n 0, 1) := by decide +kernel
theorem dX12_dressed_45 : decode cX12_dressed 45 = .ok (.getfield 7, 3) := by decide +kernel
theorem dX12_dressed_48 : decode cX12_dressed 48 = .ok (.iconst 2, 1) := by decide +kernel
theorem dX12_dressed_49 : decode cX12_dressed 49 = .ok (.iaload, 1) := by decide +kernel
theorem dX12_dressed_50 : decode cX12_dressed 50 = .ok (.if_icmp .ge 28, 3) := by decide +kernel
theorem dX12_dressed_53 : decode cX12_dressed 53 = .ok (.aload_n 0, 1) := by decide +kernel
theorem dX12_dressed_54 : decode cX12_dressed 54 = .ok (.iload_n 3, 1) := by decide +kernel
theorem dX12_dressed_55 : decode cX12_dressed 55 = .ok (.invokevirtual 188, 3) := by decide +kernel
theorem dX12_dressed_58 : decode cX12_dressed 58 = .ok (.aload_n 0, 1) := by decide +kernel
theorem dX12_dressed_59 : decode cX12_dressed 59 = .ok (.iload_n 2, 1) := by decide +kernel
theorem dX12_dressed_60 : decode cX12_dressed 60 = .ok (.invokevirtual 188, 3) := by decide +kernel
theorem dX12_dressed_63 : decode cX12_dressed 63 = .ok (.if_icmp .le 7, 3) := by decide +kernel
theorem dX12_dressed_66 : decode cX12_dressed 66 = .ok (.iload_n 3, 1) := by decide +kernel
theorem dX12_dressed_67 : decode cX12_dressed 67 = .ok (.goto 4, 3) := by decide +kernel
theorem dX12_dressed_70 : decode cX12_dressed 70 = .ok (.iload_n 2, 1) := by decide +kernel
theorem dX12_dressed_71 : decode cX12_dressed 71 = .ok (.istore_n 2, 1) := by decide +kernel
theorem dX12_dressed_72 : decode cX12_dressed 72 = .ok (.iinc 3 1, 3) := by decide +kernel
theorem dX12_dressed_75 : decode cX12_dressed 75 = .ok (.goto (-32), 3) := by decide +kernel
theorem dX12_dressed_78 : decode cX12_dressed 78 = .ok (.aload_n 0, 1) := by decide +kernel
theorem dX12_dressed_79 : decode cX12_dressed 79 = .ok (.iload_n 2, 1) := by decide +kernel
theorem dX12_dressed_80 : decode cX12_dressed 80 = .ok (.invokevirtual 171, 3) := by decide +kernel
theorem dX12_dressed_83 : decode cX12_dressed 83 = .ok (.ireturn, 1) := by decide +kernel
theorem dX12_shortest_0 : decode cX12_shortest 0 = .ok (.iload_n 1, 1) := by decide +kernel
theorem dX12_shortest_1 : decode cX12_shortest 1 = .ok (.i2l, 1) := by decide +kernel
theorem dX12_shortest_2 : decode cX12_shortest 2 = .ok (.lconst 0, 1) := by decide +kernel
theorem dX12_shortest_3 : decode cX12_shortest 3 = .ok (.ldc2_w 178, 3) := by decide +kernel
theorem dX12_shortest_6 : decode cX12_shortest 6 = .ok (.invokestatic 46, 3) := by decide +kernel
theorem dX12_shortest_9 : decode cX12_shortest 9 = .ok (.ifCond .ne 10, 3) := by decide +kernel
theorem dX12_shortest_12 : decode cX12_shortest 12 = .ok (.aload_n 0, 1) := by decide +kernel
theorem dX12_shortest_13 : decode cX12_shortest 13 = .ok (.ldc 41, 2) := by decide +kernel
theorem dX12_shortest_15 : decode cX12_shortest 15 = .ok (.invokevirtual 63, 3) := by decide +kernel
theorem dX12_shortest_18 : decode cX12_shortest 18 = .ok (.ireturn, 1) := by decide +kernel
theorem dX12_shortest_19 : decode cX12_shortest 19 = .ok (.iconst (-1), 1) := by decide +kernel
theorem dX12_shortest_20 : decode cX12_shortest 20 = .ok (.istore_n 2, 1) := by decide +kernel
theorem dX12_shortest_21 : decode cX12_shortest 21 = .ok (.sipush 999, 3) := by decide +kernel
theorem dX12_shortest_24 : decode cX12_shortest 24 = .ok (.istore_n 3, 1) := by decide +kernel
theorem dX12_shortest_25 : decode cX12_shortest 25 = .ok (.iconst 0, 1) := by decide +kernel
theorem dX12_shortest_26 : decode cX12_shortest 26 = .ok (.istore 4, 2) := by decide +kernel
theorem dX12_shortest_28 : decode cX12_shortest 28 = .ok (.iload 4, 2) := by decide +kernel
theorem dX12_shortest_30 : decode cX12_shortest 30 = .ok (.aload_n 0, 1) := by decide +kernel
theorem dX12_shortest_31 : decode cX12_shortest 31 = .ok (.getfield 7, 3) := by decide +kernel
theorem dX12_shortest_34 : decode cX12_shortest 34 = .ok (.iconst 1, 1) := by decide +kernel
theorem dX12_shortest_35 : decode cX12_shortest 35 = .ok (.iaload, 1) := by decide +kernel
theorem dX12_shortest_36 : decode cX12_shortest 36 = .ok (.if_icmp .ge 45, 3) := by decide +kernel
theorem dX12_shortest_39 : decode cX12_shortest 39 = .ok (.aload_n 0, 1) := by decide +kernel
theorem dX12_shortest_40 : decode cX12_shortest 40 = .ok (.iload 4, 2) := by decide +kernel
theorem dX12_shortest_42 : decode cX12_shortest 42 = .ok (.iload_n 1, 1) := by decide +kernel
theorem dX12_shortest_43 : decode cX12_shortest 43 = .ok (.iconst 1, 1) := by decide +kernel
theorem dX12_shortest_44 : decode cX12_shortest 44 = .ok (.invokevirtual 180, 3) := by decide +kernel
theorem dX12_shortest_47 : decode cX12_shortest 47 = .ok (.istore 5, 2) := by decide +kernel
theorem dX12_shortest_49 : decode cX12_shortest 49 = .ok (.iload 5, 2) := by decide +kernel
theorem dX12_shortest_51 : decode cX12_shortest 51 = .ok (.iload_n 3, 1) := by decide +kernel
theorem dX12_shortest_52 : decode cX12_shortest 52 = .ok (.if_icmp .ge 8, 3) := by decide +kernel
theorem dX12_shortest_55 : decode cX12_shortest 55 = .ok (.iload 4, 2) := by decide +kernel
theorem dX12_shortest_57 : decode cX12_shortest 57 = .ok (.goto 4, 3) := by decide +kernel
theorem dX12_shortest_60 : decode cX12_shortest 60 = .ok (.iload_n 2, 1) := by decide +kernel
theorem dX12_shortest_61 : decode cX12_shortest 61 = .ok (.istore_n 2, 1) := by decide +kernel
theorem dX12_shortest_62 : decode cX12_shortest 62 = .ok (.iload 5, 2) := by decide +kernel
theorem dX12_shortest_64 : decode cX12_shortest 64 = .ok (.iload_n 3, 1) := by decide +kernel
theorem dX12_shortest_65 : decode cX12_shortest 65 = .ok (.if_icmp .ge 8, 3) := by decide +kernel
theorem dX12_shortest_68 : decode cX12_shortest 68 = .ok (.iload 5, 2) := by decide +kernel
theorem dX12_shortest_70 : decode cX12_shortest 70 = .ok (.goto 4, 3) := by decide +kernel
theorem dX12_shortest_73 : decode cX12_shortest 73 = .ok (.iload_n 3, 1) := by decide +kernel
theorem dX12_shortest_74 : decode cX12_shortest 74 = .ok (.istore_n 3, 1) := by decide +kernel
theorem dX12_shortest_75 : decode cX12_shortest 75 = .ok (.iinc 4 1, 3) := by decide +kernel
theorem dX12_shortest_78 : decode cX12_shortest 78 = .ok (.goto (-50), 3) := by decide +kernel
theorem dX12_shortest_81 : decode cX12_shortest 81 = .ok (.iload_n 2, 1) := by decide +kernel
theorem dX12_shortest_82 : decode cX12_shortest 82 = .ok (.ifCond .ge 12, 3) := by decide +kernel
theorem dX12_shortest_85 : decode cX12_shortest 85 = .ok (.aload_n 0, 1) := by decide +kernel
theorem dX12_shortest_86 : decode cX12_shortest 86 = .ok (.ldc 187, 2) := by decide +kernel
theorem dX12_shortest_88 : decode cX12_shortest 88 = .ok (.invokevirtual 63, 3) := by decide +kernel
theorem dX12_shortest_91 : decode cX12_shortest 91 = .ok (.goto 4, 3) := by decide +kernel
theorem dX12_shortest_94 : decode cX12_shortest 94 = .ok (.iload_n 2, 1) := by decide +kernel
theorem dX12_shortest_95 : decode cX12_shortest 95 = .ok (.ireturn, 1) := by decide +kernel
theorem dX12_feed_0 : decode cX12_feed 0 = .ok (.iload_n 2, 1) := by decide +kernel
theorem dX12_feed_1 : decode cX12_feed 1 = .ok (.i2l, 1) := by decide +kernel
theorem dX12_feed_2 : decode cX12_feed 2 = .ok (.lconst 1, 1) := by decide +kernel
theorem dX12_feed_3 : decode cX12_feed 3 = .ok (.ldc2_w 191, 3) := by decide +kernel
theorem dX12_feed_6 : decode cX12_feed 6 = .ok (.invokestatic 46, 3) := by decide +kernel
theorem dX12_feed_9 : decode cX12_feed 9 = .ok (.ifCond .ne 10, 3) := by decide +kernel
theorem dX12_feed_12 : decode cX12_feed 12 = .ok (.aload_n 0, 1) := by decide +kernel
theorem dX12_feed_13 : decode cX12_feed 13 = .ok (.ldc 41, 2) := by decide +kernel
theorem dX12_feed_15 : decode cX12_feed 15 = .ok (.invokevirtual 63, 3) := by decide +kernel
theorem dX12_feed_18 : decode cX12_feed 18 = .ok (.ireturn, 1) := by decide +kernel
theorem dX12_feed_19 : decode cX12_feed 19 = .ok (.aload_n 0, 1) := by decide +kernel
theorem dX12_feed_20 : decode cX12_feed 20 = .ok (.getfield 193, 3) := by decide +kernel
theorem dX12_feed_23 : decode cX12_feed 23 = .ok (.iload_n 2, 1) := by decide +kernel
theorem dX12_feed_24 : decode cX12_feed 24 = .ok (.iadd, 1) := by decide +kernel
theorem dX12_feed_25 : decode cX12_feed 25 = .ok (.bipush 120, 2) := by decide +kernel
theorem dX12_feed_27 : decode cX12_feed 27 = .ok (.if_icmp .le 10, 3) := by decide +kernel
theorem dX12_feed_30 : decode cX12_feed 30 = .ok (.aload_n 0, 1) := by decide +kernel
theorem dX12_feed_31 : decode cX12_feed 31 = .ok (.ldc 99, 2) := by decide +kernel
theorem dX12_feed_33 : decode cX12_feed 33 = .ok (.invokevirtual 63, 3) := by decide +kernel
theorem dX12_feed_36 : decode cX12_feed 36 = .ok (.ireturn, 1) := by decide +kernel
theorem dX12_feed_37 : decode cX12_feed 37 = .ok (.iload_n 2, 1) := by decide +kernel
theorem dX12_feed_38 : decode cX12_feed 38 = .ok (.iconst 1, 1) := by decide +kernel
theorem dX12_feed_39 : decode cX12_feed 39 = .ok (.isub, 1) := by decide +kernel
theorem dX12_feed_40 : decode cX12_feed 40 = .ok (.istore_n 3, 1) := by decide +kernel
theorem dX12_feed_41 : decode cX12_feed 41 = .ok (.iload_n 3, 1) := by decide +kernel
theorem dX12_feed_42 : decode cX12_feed 42 = .ok (.ifCond .lt 38, 3) := by decide +kernel
theorem dX12_feed_45 : decode cX12_feed 45 = .ok (.aload_n 0, 1) := by decide +kernel
theorem dX12_feed_46 : decode cX12_feed 46 = .ok (.getfield 25, 3) := by decide +kernel
theorem dX12_feed_49 : decode cX12_feed 49 = .ok (.aload_n 0, 1) := by decide +kernel
theorem dX12_feed_50 : decode cX12_feed 50 = .ok (.getfield 193, 3) := by decide +kernel
theorem dX12_feed_53 : decode cX12_feed 53 = .ok (.iload_n 1, 1) := by decide +kernel
theorem dX12_feed_54 : decode cX12_feed 54 = .ok (.bipush 8, 2) := by decide +kernel
theorem dX12_feed_56 : decode cX12_feed 56 = .ok (.iload_n 3, 1) := by decide +kernel
theorem dX12_feed_57 : decode cX12_feed 57 = .ok (.imul, 1) := by decide +kernel
theorem dX12_feed_58 : decode cX12_feed 58 = .ok (.ishr, 1) := by decide +kernel
theorem dX12_feed_59 : decode cX12_feed 59 = .ok (.sipush 255, 3) := by decide +kernel
theorem dX12_feed_62 : decode cX12_feed 62 = .ok (.iand, 1) := by decide +kernel
theorem dX12_feed_63 : decode cX12_feed 63 = .ok (.iastore, 1) := by decide +kernel
theorem dX12_feed_64 : decode cX12_feed 64 = .ok (.aload_n 0, 1) := by decide +kernel
theorem dX12_feed_65 : decode cX12_feed 65 = .ok (.dup, 1) := by decide +kernel
theorem dX12_feed_66 : decode cX12_feed 66 = .ok (.getfield 193, 3) := by decide +kernel
theorem dX12_feed_69 : decode cX12_feed 69 = .ok (.iconst 1, 1) := by decide +kernel
theorem dX12_feed_70 : decode cX12_feed 70 = .ok (.iadd, 1) := by decide +kernel
theorem dX12_feed_71 : decode cX12_feed 71 = .ok (.putfield 193, 3) := by decide +kernel
theorem dX12_feed_74 : decode cX12_feed 74 = .ok (.iinc 3 (-1), 3) := by decide +kernel
theorem dX12_feed_77 : decode cX12_feed 77 = .ok (.goto (-36), 3) := by decide +kernel
theorem dX12_feed_80 : decode cX12_feed 80 = .ok (.aload_n 0, 1) := by decide +kernel
theorem dX12_feed_81 : decode cX12_feed 81 = .ok (.getfield 193, 3) := by decide +kernel
theorem dX12_feed_84 : decode cX12_feed 84 = .ok (.ireturn, 1) := by decide +kernel
theorem dX12_wipe_0 : decode cX12_wipe 0 = .ok (.aload_n 0, 1) := by decide +kernel
theorem dX12_wipe_1 : decode cX12_wipe 1 = .ok (.getfield 193, 3) := by decide +kernel
theorem dX12_wipe_4 : decode cX12_wipe 4 = .ok (.istore_n 1, 1) := by decide +kernel
theorem dX12_wipe_5 : decode cX12_wipe 5 = .ok (.aload_n 0, 1) := by decide +kernel
theorem dX12_wipe_6 : decode cX12_wipe 6 = .ok (.iconst 0, 1) := by decide +kernel
theorem dX12_wipe_7 : decode cX12_wipe 7 = .ok (.putfield 193, 3) := by decide +kernel
theorem dX12_wipe_10 : decode cX12_wipe 10 = .ok (.iload_n 1, 1) := by decide +kernel
theorem dX12_wipe_11 : decode cX12_wipe 11 = .ok (.ireturn, 1) := by decide +kernel
theorem dX12_byteAt_0 : decode cX12_byteAt 0 = .ok (.iload_n 1, 1) := by decide +kernel
theorem dX12_byteAt_1 : decode cX12_byteAt 1 = .ok (.aload_n 0, 1) := by decide +kernel
theorem dX12_byteAt_2 : decode cX12_byteAt 2 = .ok (.getfield 193, 3) := by decide +kernel
theorem dX12_byteAt_5 : decode cX12_byteAt 5 = .ok (.if_icmp .ge 12, 3) := by decide +kernel
theorem dX12_byteAt_8 : decode cX12_byteAt 8 = .ok (.aload_n 0, 1) := by decide +kernel
theorem dX12_byteAt_9 : decode cX12_byteAt 9 = .ok (.getfield 25, 3) := by decide +kernel
theorem dX12_byteAt_12 : decode cX12_byteAt 12 = .ok (.iload_n 1, 1) := by decide +kernel
theorem dX12_byteAt_13 : decode cX12_byteAt 13 = .ok (.iaload, 1) := by decide +kernel
theorem dX12_byteAt_14 : decode cX12_byteAt 14 = .ok (.goto 4, 3) := by decide +kernel
theorem dX12_byteAt_17 : decode cX12_byteAt 17 = .ok (.iconst (-1), 1) := by decide +kernel
theorem dX12_byteAt_18 : decode cX12_byteAt 18 = .ok (.ireturn, 1) := by decide +kernel
theorem dX12_isLetter_0 : decode cX12_isLetter 0 = .ok (.iload_n 0, 1) := by decide +kernel
theorem dX12_isLetter_1 : decode cX12_isLetter 1 = .ok (.i2l, 1) := by decide +kernel
theorem dX12_isLetter_2 : decode cX12_isLetter 2 = .ok (.ldc2_w 197, 3) := by decide +kernel
theorem dX12_isLetter_5 : decode cX12_isLetter 5 = .ok (.ldc2_w 199, 3) := by decide +kernel
theorem dX12_isLetter_8 : decode cX12_isLetter 8 = .ok (.invokestatic 46, 3) := by decide +kernel
theorem dX12_isLetter_11 : decode cX12_isLetter 11 = .ok (.ireturn, 1) := by decide +kernel
theorem dX12_isDigit_0 : decode cX12_isDigit 0 = .ok (.iload_n 0, 1) := by decide +kernel
theorem dX12_isDigit_1 : decode cX12_isDigit 1 = .ok (.i2l, 1) := by decide +kernel
theorem dX12_isDigit_2 : decode cX12_isDigit 2 = .ok (.ldc2_w 201, 3) := by decide +kernel
theorem dX12_isDigit_5 : decode cX12_isDigit 5 = .ok (.ldc2_w 203, 3) := by decide +kernel
theorem dX12_isDigit_8 : decode cX12_isDigit 8 = .ok (.invokestatic 46, 3) := by decide +kernel
theorem dX12_isDigit_11 : decode cX12_isDigit 11 = .ok (.ireturn, 1) := by decide +kernel
theorem dX12_token_0 : decode cX12_token 0 = .ok (.aload_n 0, 1) := by decide +kernel
theorem dX12_token_1 : decode cX12_token 1 = .ok (.aload_n 0, 1) := by decide +kernel
theorem dX12_token_2 : decode cX12_token 2 = .ok (.getfield 205, 3) := by decide +kernel
theorem dX12_token_5 : decode cX12_token 5 = .ok (.putfield 208, 3) := by decide +kernel
theorem dX12_token_8 : decode cX12_token 8 = .ok (.aload_n 0, 1) := by decide +kernel
theorem dX12_token_9 : decode cX12_token 9 = .ok (.aload_n 0, 1) := by decide +kernel
theorem dX12_token_10 : decode cX12_token 10 = .ok (.getfield 208, 3) := by decide +kernel
theorem dX12_token_13 : decode cX12_token 13 = .ok (.invokevirtual 211, 3) := by decide +kernel
theorem dX12_token_16 : decode cX12_token 16 = .ok (.bipush 32, 2) := by decide +kernel
theorem dX12_token_18 : decode cX12_token 18 = .ok (.if_icmp .ne 16, 3) := by decide +kernel
theorem dX12_token_21 : decode cX12_token 21 = .ok (.aload_n 0, 1) := by decide +kernel
theorem dX12_token_22 : decode cX12_token 22 = .ok (.dup, 1) := by decide +kernel
theorem dX12_token_23 : decode cX12_token 23 = .ok (.getfield 208, 3) := by decide +kernel
theorem dX12_token_26 : decode cX12_token 26 = .ok (.iconst 1, 1) := by decide +kernel
theorem dX12_token_27 : decode cX12_token 27 = .ok (.iadd, 1) := by decide +kernel
theorem dX12_token_28 : decode cX12_token 28 = .ok (.putfield 208, 3) := by decide +kernel
theorem dX12_token_31 : decode cX12_token 31 = .ok (.goto (-23), 3) := by decide +kernel
theorem dX12_token_34 : decode cX12_token 34 = .ok (.aload_n 0, 1) := by decide +kernel
theorem dX12_token_35 : decode cX12_token 35 = .ok (.aload_n 0, 1) := by decide +kernel
theorem dX12_token_36 : decode cX12_token 36 = .ok (.getfield 208, 3) := by decide +kernel
theorem dX12_token_39 : decode cX12_token 39 = .ok (.invokevirtual 211, 3) := by decide +kernel
theorem dX12_token_42 : decode cX12_token 42 = .ok (.invokestatic 214, 3) := by decide +kernel
theorem dX12_token_45 : decode cX12_token 45 = .ok (.istore_n 1, 1) := by decide +kernel
theorem dX12_token_46 : decode cX12_token 46 = .ok (.aload_n 0, 1) := by decide +kernel
theorem dX12_token_47 : decode cX12_token 47 = .ok (.aload_n 0, 1) := by decide +kernel
theorem dX12_token_48 : decode cX12_token 48 = .ok (.getfield 208, 3) := by decide +kernel
theorem dX12_token_51 : decode cX12_token 51 = .ok (.invokevirtual 211, 3) := by decide +kernel
theorem dX12_token_54 : decode cX12_token 54 = .ok (.invokestatic 217, 3) := by decide +kernel
theorem dX12_token_57 : decode cX12_token 57 = .ok (.istore_n 2, 1) := by decide +kernel
theorem dX12_token_58 : decode cX12_token 58 = .ok (.aload_n 0, 1) := by decide +kernel
theorem dX12_token_59 : decode cX12_token 59 = .ok (.aload_n 0, 1) := by decide +kernel
theorem dX12_token_60 : decode cX12_token 60 = .ok (.getfield 208, 3) := by decide +kernel
theorem dX12_token_63 : decode cX12_token 63 = .ok (.aload_n 0, 1) := by decide +kernel
theorem dX12_token_64 : decode cX12_token 64 = .ok (.getfield 193, 3) := by decide +kernel
theorem dX12_token_67 : decode cX12_token 67 = .ok (.if_icmp .ge 12, 3) := by decide +kernel
theorem dX12_token_70 : decode cX12_token 70 = .ok (.aload_n 0, 1) := by decide +kernel
theorem dX12_token_71 : decode cX12_token 71 = .ok (.getfield 208, 3) := by decide +kernel
theorem dX12_token_74 : decode cX12_token 74 = .ok (.iconst 1, 1) := by decide +kernel
theorem dX12_token_75 : decode cX12_token 75 = .ok (.iadd, 1) := by decide +kernel
theorem dX12_token_76 : decode cX12_token 76 = .ok (.goto 7, 3) := by decide +kernel
theorem dX12_token_79 : decode cX12_token 79 = .ok (.aload_n 0, 1) := by decide +kernel
theorem dX12_token_80 : decode cX12_token 80 = .ok (.getfield 208, 3) := by decide +kernel
theorem dX12_token_83 : decode cX12_token 83 = .ok (.putfield 205, 3) := by decide +kernel
theorem dX12_token_86 : decode cX12_token 86 = .ok (.iload_n 1, 1) := by decide +kernel
theorem dX12_token_87 : decode cX12_token 87 = .ok (.ifCond .eq 17, 3) := by decide +kernel
theorem dX12_token_90 : decode cX12_token 90 = .ok (.aload_n 0, 1) := by decide +kernel
theorem dX12_token_91 : decode cX12_token 91 = .ok (.aload_n 0, 1) := by decide +kernel
theorem dX12_token_92 : decode cX12_token 92 = .ok (.getfield 205, 3) := by decide +kernel
theorem dX12_token_95 : decode cX12_token 95 = .ok (.invokevirtual 211, 3) := by decide +kernel
theorem dX12_token_98 : decode cX12_token 98 = .ok (.invokestatic 214, 3) := by decide +kernel
theorem dX12_token_101 : decode cX12_token 101 = .ok (.ifCond .ne 21, 3) := by decide +kernel
theorem dX12_token_104 : decode cX12_token 104 = .ok (.iload_n 2, 1) := by decide +kernel
theorem dX12_token_105 : decode cX12_token 105 = .ok (.ifCond .eq 30, 3) := by decide +kernel
theorem dX12_token_108 : decode cX12_token 108 = .ok (.aload_n 0, 1) := by decide +kernel
theorem dX12_token_109 : decode cX12_token 109 = .ok (.aload_n 0, 1) := by decide +kernel
theorem dX12_token_110 : decode cX12_token 110 = .ok (.getfield 205, 3) := by decide +kernel
theorem dX12_token_113 : decode cX12_token 113 = .ok (.invokevirtual 211, 3) := by decide +kernel
theorem dX12_token_116 : decode cX12_token 116 = .ok (.invokestatic 217, 3) := by decide +kernel
theorem dX12_token_119 : decode cX12_token 119 = .ok (.ifCond .eq 16, 3) := by decide +kernel
theorem dX12_token_122 : decode cX12_token 122 = .ok (.aload_n 0, 1) := by decide +kernel
theorem dX12_token_123 : decode cX12_token 123 = .ok (.dup, 1) := by decide +kernel
theorem dX12_token_124 : decode cX12_token 124 = .ok (.getfield 205, 3) := by decide +kernel
theorem dX12_token_127 : decode cX12_token 127 = .ok (.iconst 1, 1) := by decide +kernel
theorem dX12_token_128 : decode cX12_token 128 = .ok (.iadd, 1) := by decide +kernel
theorem dX12_token_129 : decode cX12_token 129 = .ok (.putfield 205, 3) := by decide +kernel
theorem dX12_token_132 : decode cX12_token 132 = .ok (.goto (-46), 3) := by decide +kernel
theorem dX12_token_135 : decode cX12_token 135 = .ok (.return_, 1) := by decide +kernel
theorem dX12_must_0 : decode cX12_must 0 = .ok (.aload_n 0, 1) := by decide +kernel
theorem dX12_must_1 : decode cX12_must 1 = .ok (.aload_n 0, 1) := by decide +kernel
theorem dX12_must_2 : decode cX12_must 2 = .ok (.getfield 220, 3) := by decide +kernel
theorem dX12_must_5 : decode cX12_must 5 = .ok (.ifCond .ne 7, 3) := by decide +kernel
theorem dX12_must_8 : decode cX12_must 8 = .ok (.iload_n 1, 1) := by decide +kernel
theorem dX12_must_9 : decode cX12_must 9 = .ok (.ifCond .ne 7, 3) := by decide +kernel
theorem dX12_must_12 : decode cX12_must 12 = .ok (.iconst 1, 1) := by decide +kernel
theorem dX12_must_13 : decode cX12_must 13 = .ok (.goto 4, 3) := by decide +kernel
theorem dX12_must_16 : decode cX12_must 16 = .ok (.iconst 0, 1) := by decide +kernel
theorem dX12_must_17 : decode cX12_must 17 = .ok (.putfield 220, 3) := by decide +kernel
theorem dX12_must_20 : decode cX12_must 20 = .ok (.aload_n 0, 1) := by decide +kernel
theorem dX12_must_21 : decode cX12_must 21 = .ok (.getfield 220, 3) := by decide +kernel
theorem dX12_must_24 : decode cX12_must 24 = .ok (.ifCond .ne 7, 3) := by decide +kernel
theorem dX12_must_27 : decode cX12_must 27 = .ok (.aload_n 0, 1) := by decide +kernel
theorem dX12_must_28 : decode cX12_must 28 = .ok (.invokevirtual 224, 3) := by decide +kernel
theorem dX12_must_31 : decode cX12_must 31 = .ok (.return_, 1) := by decide +kernel
theorem dX12_word_0 : decode cX12_word 0 = .ok (.lconst 0, 1) := by decide +kernel
theorem dX12_word_1 : decode cX12_word 1 = .ok (.lstore_n 1, 1) := by decide +kernel
theorem dX12_word_2 : decode cX12_word 2 = .ok (.aload_n 0, 1) := by decide +kernel
theorem dX12_word_3 : decode cX12_word 3 = .ok (.getfield 208, 3) := by decide +kernel
theorem dX12_word_6 : decode cX12_word 6 = .ok (.istore_n 3, 1) := by decide +kernel
theorem dX12_word_7 : decode cX12_word 7 = .ok (.iload_n 3, 1) := by decide +kernel
theorem dX12_word_8 : decode cX12_word 8 = .ok (.aload_n 0, 1) := by decide +kernel
theorem dX12_word_9 : decode cX12_word 9 = .ok (.getfield 205, 3) := by decide +kernel
theorem dX12_word_12 : decode cX12_word 12 = .ok (.if_icmp .ge 38, 3) := by decide +kernel
theorem dX12_word_15 : decode cX12_word 15 = .ok (.lload_n 1, 1) := by decide +kernel
theorem dX12_word_16 : decode cX12_word 16 = .ok (.ldc2_w 227, 3) := by decide +kernel
theorem dX12_word_19 : decode cX12_word 19 = .ok (.lcmp, 1) := by decide +kernel
theorem dX12_word_20 : decode cX12_word 20 = .ok (.ifCond .le 7, 3) := by decide +kernel
theorem dX12_word_23 : decode cX12_word 23 = .ok (.lload_n 1, 1) := by decide +kernel
theorem dX12_word_24 : decode cX12_word 24 = .ok (.goto 19, 3) := by decide +kernel
theorem dX12_word_27 : decode cX12_word 27 = .ok (.ldc2_w 229, 3) := by decide +kernel
theorem dX12_word_30 : decode cX12_word 30 = .ok (.lload_n 1, 1) := by decide +kernel
theorem dX12_word_31 : decode cX12_word 31 = .ok (.lmul, 1) := by decide +kernel
theorem dX12_word_32 : decode cX12_word 32 = .ok (.aload_n 0, 1) := by decide +kernel
theorem dX12_word_33 : decode cX12_word 33 = .ok (.getfield 25, 3) := by decide +kernel
theorem dX12_word_36 : decode cX12_word 36 = .ok (.iload_n 3, 1) := by decide +kernel
theorem dX12_word_37 : decode cX12_word 37 = .ok (.iaload, 1) := by decide +kernel
theorem dX12_word_38 : decode cX12_word 38 = .ok (.bipush 96, 2) := by decide +kernel
theorem dX12_word_40 : decode cX12_word 40 = .ok (.isub, 1) := by decide +kernel
theorem dX12_word_41 : decode cX12_word 41 = .ok (.i2l, 1) := by decide +kernel
theorem dX12_word_42 : decode cX12_word 42 = .ok (.ladd, 1) := by decide +kernel
theorem dX12_word_43 : decode cX12_word 43 = .ok (.lstore_n 1, 1) := by decide +kernel
theorem dX12_word_44 : decode cX12_word 44 = .ok (.iinc 3 1, 3) := by decide +kernel
theorem dX12_word_47 : decode cX12_word 47 = .ok (.goto (-40), 3) := by decide +kernel
theorem dX12_word_50 : decode cX12_word 50 = .ok (.aload_n 0, 1) := by decide +kernel
theorem dX12_word_51 : decode cX12_word 51 = .ok (.getfield 220, 3) := by decide +kernel
theorem dX12_word_54 : decode cX12_word 54 = .ok (.ifCond .ne 17, 3) := by decide +kernel
theorem dX12_word_57 : decode cX12_word 57 = .ok (.aload_n 0, 1) := by decide +kernel
theorem dX12_word_58 : decode cX12_word 58 = .ok (.aload_n 0, 1) := by decide +kernel
theorem dX12_word_59 : decode cX12_word 59 = .ok (.getfield 208, 3) := by decide +kernel
theorem dX12_word_62 : decode cX12_word 62 = .ok (.invokevirtual 211, 3) := by decide +kernel
theorem dX12_word_65 : decode cX12_word 65 = .ok (.invokestatic 214, 3) := by decide +kernel
theorem dX12_word_68 : decode cX12_word 68 = .ok (.ifCond .ne 7, 3) := by decide +kernel
theorem dX12_word_71 : decode cX12_word 71 = .ok (.lconst 0, 1) := by decide +kernel
theorem dX12_word_72 : decode cX12_word 72 = .ok (.goto 4, 3) := by decide +kernel
theorem dX12_word_75 : decode cX12_word 75 = .ok (.lload_n 1, 1) := by decide +kernel
theorem dX12_word_76 : decode cX12_word 76 = .ok (.lreturn, 1) := by decide +kernel
theorem dX12_number_0 : decode cX12_number 0 = .ok (.aload_n 0, 1) := by decide +kernel
theorem dX12_number_1 : decode cX12_number 1 = .ok (.getfield 220, 3) := by decide +kernel
theorem dX12_number_4 : decode cX12_number 4 = .ok (.ifCond .eq 4, 3) := by decide +kernel
theorem dX12_number_7 : decode cX12_number 7 = .ok (.return_, 1) := by decide +kernel
theorem dX12_number_8 : decode cX12_number 8 = .ok (.aload_n 0, 1) := by decide +kernel
theorem dX12_number_9 : decode cX12_number 9 = .ok (.aload_n 0, 1) := by decide +kernel
theorem dX12_number_10 : decode cX12_number 10 = .ok (.getfield 208, 3) := by decide +kernel
theorem dX12_number_13 : decode cX12_number 13 = .ok (.invokevirtual 211, 3) := by decide +kernel
theorem dX12_number_16 : decode cX12_number 16 = .ok (.invokestatic 217, 3) := by decide +kernel
theorem dX12_number_19 : decode cX12_number 19 = .ok (.istore_n 3, 1) := by decide +kernel
theorem dX12_number_20 : decode cX12_number 20 = .ok (.iconst 0, 1) := by decide +kernel
theorem dX12_number_21 : decode cX12_number 21 = .ok (.istore 4, 2) := by decide +kernel
theorem dX12_number_23 : decode cX12_number 23 = .ok (.aload_n 0, 1) := by decide +kernel
theorem dX12_number_24 : decode cX12_number 24 = .ok (.getfield 208, 3) := by decide +kernel
theorem dX12_number_27 : decode cX12_number 27 = .ok (.istore 5, 2) := by decide +kernel
theorem dX12_number_29 : decode cX12_number 29 = .ok (.iload 5, 2) := by decide +kernel
theorem dX12_number_31 : decode cX12_number 31 = .ok (.aload_n 0, 1) := by decide +kernel
theorem dX12_number_32 : decode cX12_number 32 = .ok (.getfield 205, 3) := by decide +kernel
theorem dX12_number_35 : decode cX12_number 35 = .ok (.if_icmp .ge 44, 3) := by decide +kernel
theorem dX12_number_38 : decode cX12_number 38 = .ok (.iload_n 3, 1) := by decide +kernel
theorem dX12_number_39 : decode cX12_number 39 = .ok (.ifCond .eq 40, 3) := by decide +kernel
theorem dX12_number_42 : decode cX12_number 42 = .ok (.iload 4, 2) := by decide +kernel
theorem dX12_number_44 : decode cX12_number 44 = .ok (.sipush 999, 3) := by decide +kernel
theorem dX12_number_47 : decode cX12_number 47 = .ok (.if_icmp .le 8, 3) := by decide +kernel
theorem dX12_number_50 : decode cX12_number 50 = .ok (.iload 4, 2) := by decide +kernel
theorem dX12_number_52 : decode cX12_number 52 = .ok (.goto 19, 3) := by decide +kernel
theorem dX12_number_55 : decode cX12_number 55 = .ok (.bipush 10, 2) := by decide +kernel
theorem dX12_number_57 : decode cX12_number 57 = .ok (.iload 4, 2) := by decide +kernel
theorem dX12_number_59 : decode cX12_number 59 = .ok (.imul, 1) := by decide +kernel
theorem dX12_number_60 : decode cX12_number 60 = .ok (.aload_n 0, 1) := by decide +kernel
theorem dX12_number_61 : decode cX12_number 61 = .ok (.getfield 25, 3) := by decide +kernel
theorem dX12_number_64 : decode cX12_number 64 = .ok (.iload 5, 2) := by decide +kernel
theorem dX12_number_66 : decode cX12_number 66 = .ok (.iaload, 1) := by decide +kernel
theorem dX12_number_67 : decode cX12_number 67 = .ok (.iadd, 1) := by decide +kernel
theorem dX12_number_68 : decode cX12_number 68 = .ok (.bipush 48, 2) := by decide +kernel
theorem dX12_number_70 : decode cX12_number 70 = .ok (.isub, 1) := by decide +kernel
theorem dX12_number_71 : decode cX12_number 71 = .ok (.istore 4, 2) := by decide +kernel
theorem dX12_number_73 : decode cX12_number 73 = .ok (.iinc 5 1, 3) := by decide +kernel
theorem dX12_number_76 : decode cX12_number 76 = .ok (.goto (-47), 3) := by decide +kernel
theorem dX12_number_79 : decode cX12_number 79 = .ok (.aload_n 0, 1) := by decide +kernel
theorem dX12_number_80 : decode cX12_number 80 = .ok (.iload 4, 2) := by decide +kernel
theorem dX12_number_82 : decode cX12_number 82 = .ok (.putfield 231, 3) := by decide +kernel
theorem dX12_number_85 : decode cX12_number 85 = .ok (.aload_n 0, 1) := by decide +kernel
theorem dX12_number_86 : decode cX12_number 86 = .ok (.iload_n 3, 1) := by decide +kernel
theorem dX12_number_87 : decode cX12_number 87 = .ok (.ifCond .eq 20, 3) := by decide +kernel
theorem dX12_number_90 : decode cX12_number 90 = .ok (.iload 4, 2) := by decide +kernel
theorem dX12_number_92 : decode cX12_number 92 = .ok (.i2l, 1) := by decide +kernel
theorem dX12_number_93 : decode cX12_number 93 = .ok (.iload_n 1, 1) := by decide +kernel
theorem dX12_number_94 : decode cX12_number 94 = .ok (.i2l, 1) := by decide +kernel
theorem dX12_number_95 : decode cX12_number 95 = .ok (.iload_n 2, 1) := by decide +kernel
theorem dX12_number_96 : decode cX12_number 96 = .ok (.i2l, 1) := by decide +kernel
theorem dX12_number_97 : decode cX12_number 97 = .ok (.invokestatic 46, 3) := by decide +kernel
theorem dX12_number_100 : decode cX12_number 100 = .ok (.ifCond .eq 7, 3) := by decide +kernel
theorem dX12_number_103 : decode cX12_number 103 = .ok (.iconst 1, 1) := by decide +kernel
theorem dX12_number_104 : decode cX12_number 104 = .ok (.goto 4, 3) := by decide +kernel
theorem dX12_number_107 : decode cX12_number 107 = .ok (.iconst 0, 1) := by decide +kernel
theorem dX12_number_108 : decode cX12_number 108 = .ok (.invokevirtual 234, 3) := by decide +kernel
theorem dX12_number_111 : decode cX12_number 111 = .ok (.return_, 1) := by decide +kernel
theorem dX12_kindHere_0 : decode cX12_kindHere 0 = .ok (.aload_n 0, 1) := by decide +kernel
theorem dX12_kindHere_1 : decode cX12_kindHere 1 = .ok (.invokevirtual 238, 3) := by decide +kernel
theorem dX12_kindHere_4 : decode cX12_kindHere 4 = .ok (.lstore_n 1, 1) := by decide +kernel
theorem dX12_kindHere_5 : decode cX12_kindHere 5 = .ok (.lload_n 1, 1) := by decide +kernel
theorem dX12_kindHere_6 : decode cX12_kindHere 6 = .ok (.ldc2_w 242, 3) := by decide +kernel
theorem dX12_kindHere_9 : decode cX12_kindHere 9 = .ok (.lcmp, 1) := by decide +kernel
theorem dX12_kindHere_10 : decode cX12_kindHere 10 = .ok (.ifCond .ne 7, 3) := by decide +kernel
theorem dX12_kindHere_13 : decode cX12_kindHere 13 = .ok (.iconst 0, 1) := by decide +kernel
theorem dX12_kindHere_14 : decode cX12_kindHere 14 = .ok (.goto 64, 3) := by decide +kernel
theorem dX12_kindHere_17 : decode cX12_kindHere 17 = .ok (.lload_n 1, 1) := by decide +kernel
theorem dX12_kindHere_18 : decode cX12_kindHere 18 = .ok (.ldc2_w 244, 3) := by decide +kernel
theorem dX12_kindHere_21 : decode cX12_kindHere 21 = .ok (.lcmp, 1) := by decide +kernel
theorem dX12_kindHere_22 : decode cX12_kindHere 22 = .ok (.ifCond .ne 7, 3) := by decide +kernel
theorem dX12_kindHere_25 : decode cX12_kindHere 25 = .ok (.iconst 1, 1) := by decide +kernel
theorem dX12_kindHere_26 : decode cX12_kindHere 26 = .ok (.goto 52, 3) := by decide +kernel
theorem dX12_kindHere_29 : decode cX12_kindHere 29 = .ok (.lload_n 1, 1) := by decide +kernel
theorem dX12_kindHere_30 : decode cX12_kindHere 30 = .ok (.ldc2_w 246, 3) := by decide +kernel
theorem dX12_kindHere_33 : decode cX12_kindHere 33 = .ok (.lcmp, 1) := by decide +kernel
theorem dX12_kindHere_34 : decode cX12_kindHere 34 = .ok (.ifCond .ne 7, 3) := by decide +kernel
theorem dX12_kindHere_37 : decode cX12_kindHere 37 = .ok (.iconst 2, 1) := by decide +kernel
theorem dX12_kindHere_38 : decode cX12_kindHere 38 = .ok (.goto 40, 3) := by decide +kernel
theorem dX12_kindHere_41 : decode cX12_kindHere 41 = .ok (.lload_n 1, 1) := by decide +kernel
theorem dX12_kindHere_42 : decode cX12_kindHere 42 = .ok (.ldc2_w 248, 3) := by decide +kernel
theorem dX12_kindHere_45 : decode cX12_kindHere 45 = .ok (.lcmp, 1) := by decide +kernel
theorem dX12_kindHere_46 : decode cX12_kindHere 46 = .ok (.ifCond .ne 7, 3) := by decide +kernel
theorem dX12_kindHere_49 : decode cX12_kindHere 49 = .ok (.iconst 3, 1) := by decide +kernel
theorem dX12_kindHere_50 : decode cX12_kindHere 50 = .ok (.goto 28, 3) := by decide +kernel
theorem dX12_kindHere_53 : decode cX12_kindHere 53 = .ok (.lload_n 1, 1) := by decide +kernel
theorem dX12_kindHere_54 : decode cX12_kindHere 54 = .ok (.ldc2_w 250, 3) := by decide +kernel
theorem dX12_kindHere_57 : decode cX12_kindHere 57 = .ok (.lcmp, 1) := by decide +kernel
theorem dX12_kindHere_58 : decode cX12_kindHere 58 = .ok (.ifCond .ne 7, 3) := by decide +kernel
theorem dX12_kindHere_61 : decode cX12_kindHere 61 = .ok (.iconst 4, 1) := by decide +kernel
theorem dX12_kindHere_62 : decode cX12_kindHere 62 = .ok (.goto 16, 3) := by decide +kernel
theorem dX12_kindHere_65 : decode cX12_kindHere 65 = .ok (.lload_n 1, 1) := by decide +kernel
theorem dX12_kindHere_66 : decode cX12_kindHere 66 = .ok (.ldc2_w 252, 3) := by decide +kernel
theorem dX12_kindHere_69 : decode cX12_kindHere 69 = .ok (.lcmp, 1) := by decide +kernel
theorem dX12_kindHere_70 : decode cX12_kindHere 70 = .ok (.ifCond .ne 7, 3) := by decide +kernel
theorem dX12_kindHere_73 : decode cX12_kindHere 73 = .ok (.iconst 5, 1) := by decide +kernel
theorem dX12_kindHere_74 : decode cX12_kindHere 74 = .ok (.goto 4, 3) := by decide +kernel
theorem dX12_kindHere_77 : decode cX12_kindHere 77 = .ok (.iconst (-1), 1) := by decide +kernel
theorem dX12_kindHere_78 : decode cX12_kindHere 78 = .ok (.ireturn, 1) := by decide +kernel
theorem dX12_garmentItem_0 : decode cX12_garmentItem 0 = .ok (.aload_n 0, 1) := by decide +kernel
theorem dX12_garmentItem_1 : decode cX12_garmentItem 1 = .ok (.aload_n 0, 1) := by decide +kernel
theorem dX12_garmentItem_2 : decode cX12_garmentItem 2 = .ok (.getfield 7, 3) := by decide +kernel
theorem dX12_garmentItem_5 : decode cX12_garmentItem 5 = .ok (.iconst 1, 1) := by decide +kernel
theorem dX12_garmentItem_6 : decode cX12_garmentItem 6 = .ok (.iaload, 1) := by decide +kernel
theorem dX12_garmentItem_7 : decode cX12_garmentItem 7 = .ok (.bipush 8, 2) := by decide +kernel
theorem dX12_garmentItem_9 : decode cX12_garmentItem 9 = .ok (.if_icmp .ge 7, 3) := by decide +kernel
theorem dX12_garmentItem_12 : decode cX12_garmentItem 12 = .ok (.iconst 1, 1) := by decide +kernel
theorem dX12_garmentItem_13 : decode cX12_garmentItem 13 = .ok (.goto 4, 3) := by decide +kernel
theorem dX12_garmentItem_16 : decode cX12_garmentItem 16 = .ok (.iconst 0, 1) := by decide +kernel
theorem dX12_garmentItem_17 : decode cX12_garmentItem 17 = .ok (.invokevirtual 234, 3) := by decide +kernel
theorem dX12_garmentItem_20 : decode cX12_garmentItem 20 = .ok (.aload_n 0, 1) := by decide +kernel
theorem dX12_garmentItem_21 : decode cX12_garmentItem 21 = .ok (.getfield 220, 3) := by decide +kernel
theorem dX12_garmentItem_24 : decode cX12_garmentItem 24 = .ok (.ifCond .eq 4, 3) := by decide +kernel
theorem dX12_garmentItem_27 : decode cX12_garmentItem 27 = .ok (.return_, 1) := by decide +kernel
theorem dX12_garmentItem_28 : decode cX12_garmentItem 28 = .ok (.aload_n 0, 1) := by decide +kernel
theorem dX12_garmentItem_29 : decode cX12_garmentItem 29 = .ok (.iload_n 1, 1) := by decide +kernel
theorem dX12_garmentItem_30 : decode cX12_garmentItem 30 = .ok (.invokevirtual 100, 3) := by decide +kernel
theorem dX12_garmentItem_33 : decode cX12_garmentItem 33 = .ok (.istore_n 2, 1) := by decide +kernel
theorem dX12_garmentItem_34 : decode cX12_garmentItem 34 = .ok (.aload_n 0, 1) := by decide +kernel
theorem dX12_garmentItem_35 : decode cX12_garmentItem 35 = .ok (.invokevirtual 238, 3) := by decide +kernel
theorem dX12_garmentItem_38 : decode cX12_garmentItem 38 = .ok (.ldc2_w 254, 3) := by decide +kernel
theorem dX12_garmentItem_41 : decode cX12_garmentItem 41 = .ok (.lcmp, 1) := by decide +kernel
theorem dX12_garmentItem_42 : decode cX12_garmentItem 42 = .ok (.ifCond .ne 54, 3) := by decide +kernel
theorem dX12_garmentItem_45 : decode cX12_garmentItem 45 = .ok (.aload_n 0, 1) := by decide +kernel
theorem dX12_garmentItem_46 : decode cX12_garmentItem 46 = .ok (.iconst 1, 1) := by decide +kernel
theorem dX12_garmentItem_47 : decode cX12_garmentItem 47 = .ok (.invokevirtual 234, 3) := by decide +kernel
theorem dX12_garmentItem_50 : decode cX12_garmentItem 50 = .ok (.aload_n 0, 1) := by decide +kernel
theorem dX12_garmentItem_51 : decode cX12_garmentItem 51 = .ok (.bipush 10, 2) := by decide +kernel
theorem dX12_garmentItem_53 : decode cX12_garmentItem 53 = .ok (.sipush 200, 3) := by decide +kernel
theorem dX12_garmentItem_56 : decode cX12_garmentItem 56 = .ok (.invokevirtual 256, 3) := by decide +kernel
theorem dX12_garmentItem_59 : decode cX12_garmentItem 59 = .ok (.aload_n 0, 1) := by decide +kernel
theorem dX12_garmentItem_60 : decode cX12_garmentItem 60 = .ok (.getfield 7, 3) := by decide +kernel
theorem dX12_garmentItem_63 : decode cX12_garmentItem 63 = .ok (.iload_n 2, 1) := by decide +kernel
theorem dX12_garmentItem_64 : decode cX12_garmentItem 64 = .ok (.iconst 1, 1) := by decide +kernel
theorem dX12_garmentItem_65 : decode cX12_garmentItem 65 = .ok (.invokestatic 42, 3) := by decide +kernel
theorem dX12_garmentItem_68 : decode cX12_garmentItem 68 = .ok (.aload_n 0, 1) := by decide +kernel
theorem dX12_garmentItem_69 : decode cX12_garmentItem 69 = .ok (.getfield 231, 3) := by decide +kernel
theorem dX12_garmentItem_72 : decode cX12_garmentItem 72 = .ok (.iastore, 1) := by decide +kernel
theorem dX12_garmentItem_73 : decode cX12_garmentItem 73 = .ok (.aload_n 0, 1) := by decide +kernel
theorem dX12_garmentItem_74 : decode cX12_garmentItem 74 = .ok (.bipush 10, 2) := by decide +kernel
theorem dX12_garmentItem_76 : decode cX12_garmentItem 76 = .ok (.sipush 200, 3) := by decide +kernel
theorem dX12_garmentItem_79 : decode cX12_garmentItem 79 = .ok (.invokevirtual 256, 3) := by decide +kernel
theorem dX12_garmentItem_82 : decode cX12_garmentItem 82 = .ok (.aload_n 0, 1) := by decide +kernel
theorem dX12_garmentItem_83 : decode cX12_garmentItem 83 = .ok (.getfield 7, 3) := by decide +kernel
theorem dX12_garmentItem_86 : decode cX12_garmentItem 86 = .ok (.iload_n 2, 1) := by decide +kernel
theorem dX12_garmentItem_87 : decode cX12_garmentItem 87 = .ok (.iconst 2, 1) := by decide +kernel
theorem dX12_garmentItem_88 : decode cX12_garmentItem 88 = .ok (.invokestatic 42, 3) := by decide +kernel
theorem dX12_garmentItem_91 : decode cX12_garmentItem 91 = .ok (.aload_n 0, 1) := by decide +kernel
theorem dX12_garmentItem_92 : decode cX12_garmentItem 92 = .ok (.getfield 231, 3) := by decide +kernel
theorem dX12_garmentItem_95 : decode cX12_garmentItem 95 = .ok (.iastore, 1) := by decide +kernel
theorem dX12_garmentItem_96 : decode cX12_garmentItem 96 = .ok (.aload_n 0, 1) := by decide +kernel
theorem dX12_garmentItem_97 : decode cX12_garmentItem 97 = .ok (.invokevirtual 238, 3) := by decide +kernel
theorem dX12_garmentItem_100 : decode cX12_garmentItem 100 = .ok (.ldc2_w 259, 3) := by decide +kernel
theorem dX12_garmentItem_103 : decode cX12_garmentItem 103 = .ok (.lcmp, 1) := by decide +kernel
theorem dX12_garmentItem_104 : decode cX12_garmentItem 104 = .ok (.ifCond .ne 29, 3) := by decide +kernel
theorem dX12_garmentItem_107 : decode cX12_garmentItem 107 = .ok (.aload_n 0, 1) := by decide +kernel
theorem dX12_garmentItem_108 : decode cX12_garmentItem 108 = .ok (.iconst 1, 1) := by decide +kernel
theorem dX12_garmentItem_109 : decode cX12_garmentItem 109 = .ok (.invokevirtual 234, 3) := by decide +kernel
theorem dX12_garmentItem_112 : decode cX12_garmentItem 112 = .ok (.aload_n 0, 1) := by decide +kernel
theorem dX12_garmentItem_113 : decode cX12_garmentItem 113 = .ok (.iconst 1, 1) := by decide +kernel
theorem dX12_garmentItem_114 : decode cX12_garmentItem 114 = .ok (.bipush 99, 2) := by decide +kernel
theorem dX12_garmentItem_116 : decode cX12_garmentItem 116 = .ok (.invokevirtual 256, 3) := by decide +kernel
theorem dX12_garmentItem_119 : decode cX12_garmentItem 119 = .ok (.aload_n 0, 1) := by decide +kernel
theorem dX12_garmentItem_120 : decode cX12_garmentItem 120 = .ok (.getfield 7, 3) := by decide +kernel
theorem dX12_garmentItem_123 : decode cX12_garmentItem 123 = .ok (.iload_n 2, 1) := by decide +kernel
theorem dX12_garmentItem_124 : decode cX12_garmentItem 124 = .ok (.iconst 3, 1) := by decide +kernel
theorem dX12_garmentItem_125 : decode cX12_garmentItem 125 = .ok (.invokestatic 42, 3) := by decide +kernel
theorem dX12_garmentItem_128 : decode cX12_garmentItem 128 = .ok (.aload_n 0, 1) := by decide +kernel
theorem dX12_garmentItem_129 : decode cX12_garmentItem 129 = .ok (.getfield 231, 3) := by decide +kernel
theorem dX12_garmentItem_132 : decode cX12_garmentItem 132 = .ok (.iastore, 1) := by decide +kernel
theorem dX12_garmentItem_133 : decode cX12_garmentItem 133 = .ok (.return_, 1) := by decide +kernel
theorem dX12_personItem_0 : decode cX12_personItem 0 = .ok (.aload_n 0, 1) := by decide +kernel
theorem dX12_personItem_1 : decode cX12_personItem 1 = .ok (.aload_n 0, 1) := by decide +kernel
theorem dX12_personItem_2 : decode cX12_personItem 2 = .ok (.getfield 7, 3) := by decide +kernel
theorem dX12_personItem_5 : decode cX12_personItem 5 = .ok (.iconst 2, 1) := by decide +kernel
theorem dX12_personItem_6 : decode cX12_personItem 6 = .ok (.iaload, 1) := by decide +kernel
theorem dX12_personItem_7 : decode cX12_personItem 7 = .ok (.bipush 6, 2) := by decide +kernel
theorem dX12_personItem_9 : decode cX12_personItem 9 = .ok (.if_icmp .ge 7, 3) := by decide +kernel
theorem dX12_personItem_12 : decode cX12_personItem 12 = .ok (.iconst 1, 1) := by decide +kernel
theorem dX12_personItem_13 : decode cX12_personItem 13 = .ok (.goto 4, 3) := by decide +kernel
theorem dX12_personItem_16 : decode cX12_personItem 16 = .ok (.iconst 0, 1) := by decide +kernel
theorem dX12_personItem_17 : decode cX12_personItem 17 = .ok (.invokevirtual 234, 3) := by decide +kernel
theorem dX12_personItem_20 : decode cX12_personItem 20 = .ok (.aload_n 0, 1) := by decide +kernel
theorem dX12_personItem_21 : decode cX12_personItem 21 = .ok (.bipush 10, 2) := by decide +kernel
theorem dX12_personItem_23 : decode cX12_personItem 23 = .ok (.sipush 200, 3) := by decide +kernel
theorem dX12_personItem_26 : decode cX12_personItem 26 = .ok (.invokevirtual 256, 3) := by decide +kernel
theorem dX12_personItem_29 : decode cX12_personItem 29 = .ok (.aload_n 0, 1) := by decide +kernel
theorem dX12_personItem_30 : decode cX12_personItem 30 = .ok (.getfield 231, 3) := by decide +kernel
theorem dX12_personItem_33 : decode cX12_personItem 33 = .ok (.istore_n 1, 1) := by decide +kernel
theorem dX12_personItem_34 : decode cX12_personItem 34 = .ok (.aload_n 0, 1) := by decide +kernel
theorem dX12_personItem_35 : decode cX12_personItem 35 = .ok (.bipush 10, 2) := by decide +kernel
theorem dX12_personItem_37 : decode cX12_personItem 37 = .ok (.sipush 200, 3) := by decide +kernel
theorem dX12_personItem_40 : decode cX12_personItem 40 = .ok (.invokevirtual 256, 3) := by decide +kernel
theorem dX12_personItem_43 : decode cX12_personItem 43 = .ok (.aload_n 0, 1) := by decide +kernel
theorem dX12_personItem_44 : decode cX12_personItem 44 = .ok (.getfield 220, 3) := by decide +kernel
theorem dX12_personItem_47 : decode cX12_personItem 47 = .ok (.ifCond .ne 13, 3) := by decide +kernel
theorem dX12_personItem_50 : decode cX12_personItem 50 = .ok (.aload_n 0, 1) := by decide +kernel
theorem dX12_personItem_51 : decode cX12_personItem 51 = .ok (.iload_n 1, 1) := by decide +kernel
theorem dX12_personItem_52 : decode cX12_personItem 52 = .ok (.aload_n 0, 1) := by decide +kernel
theorem dX12_personItem_53 : decode cX12_personItem 53 = .ok (.getfield 231, 3) := by decide +kernel
theorem dX12_personItem_56 : decode cX12_personItem 56 = .ok (.invokevirtual 147, 3) := by decide +kernel
theorem dX12_personItem_59 : decode cX12_personItem 59 = .ok (.pop, 1) := by decide +kernel
theorem dX12_personItem_60 : decode cX12_personItem 60 = .ok (.return_, 1) := by decide +kernel
theorem dX12_degreesItem_0 : decode cX12_degreesItem 0 = .ok (.aload_n 0, 1) := by decide +kernel
theorem dX12_degreesItem_1 : decode cX12_degreesItem 1 = .ok (.iconst 1, 1) := by decide +kernel
theorem dX12_degreesItem_2 : decode cX12_degreesItem 2 = .ok (.invokevirtual 234, 3) := by decide +kernel
theorem dX12_degreesItem_5 : decode cX12_degreesItem 5 = .ok (.aload_n 0, 1) := by decide +kernel
theorem dX12_degreesItem_6 : decode cX12_degreesItem 6 = .ok (.bipush 20, 2) := by decide +kernel
theorem dX12_degreesItem_8 : decode cX12_degreesItem 8 = .ok (.bipush 95, 2) := by decide +kernel
theorem dX12_degreesItem_10 : decode cX12_degreesItem 10 = .ok (.invokevirtual 256, 3) := by decide +kernel
theorem dX12_degreesItem_13 : decode cX12_degreesItem 13 = .ok (.aload_n 0, 1) := by decide +kernel
theorem dX12_degreesItem_14 : decode cX12_degreesItem 14 = .ok (.getfield 7, 3) := by decide +kernel
theorem dX12_degreesItem_17 : decode cX12_degreesItem 17 = .ok (.iconst 3, 1) := by decide +kernel
theorem dX12_degreesItem_18 : decode cX12_degreesItem 18 = .ok (.aload_n 0, 1) := by decide +kernel
theorem dX12_degreesItem_19 : decode cX12_degreesItem 19 = .ok (.getfield 220, 3) := by decide +kernel
theorem dX12_degreesItem_22 : decode cX12_degreesItem 22 = .ok (.ifCond .eq 12, 3) := by decide +kernel
theorem dX12_degreesItem_25 : decode cX12_degreesItem 25 = .ok (.aload_n 0, 1) := by decide +kernel
theorem dX12_degreesItem_26 : decode cX12_degreesItem 26 = .ok (.getfield 7, 3) := by decide +kernel
theorem dX12_degreesItem_29 : decode cX12_degreesItem 29 = .ok (.iconst 3, 1) := by decide +kernel
theorem dX12_degreesItem_30 : decode cX12_degreesItem 30 = .ok (.iaload, 1) := by decide +kernel
theorem dX12_degreesItem_31 : decode cX12_degreesItem 31 = .ok (.goto 7, 3) := by decide +kernel
theorem dX12_degreesItem_34 : decode cX12_degreesItem 34 = .ok (.aload_n 0, 1) := by decide +kernel
theorem dX12_degreesItem_35 : decode cX12_degreesItem 35 = .ok (.getfield 231, 3) := by decide +kernel
theorem dX12_degreesItem_38 : decode cX12_degreesItem 38 = .ok (.iastore, 1) := by decide +kernel
theorem dX12_degreesItem_39 : decode cX12_degreesItem 39 = .ok (.return_, 1) := by decide +kernel
theorem dX12_washItem_0 : decode cX12_washItem 0 = .ok (.aload_n 0, 1) := by decide +kernel
theorem dX12_washItem_1 : decode cX12_washItem 1 = .ok (.iconst 1, 1) := by decide +kernel
theorem dX12_washItem_2 : decode cX12_washItem 2 = .ok (.invokevirtual 234, 3) := by decide +kernel
theorem dX12_washItem_5 : decode cX12_washItem 5 = .ok (.aload_n 0, 1) := by decide +kernel
theorem dX12_washItem_6 : decode cX12_washItem 6 = .ok (.iconst 0, 1) := by decide +kernel
theorem dX12_washItem_7 : decode cX12_washItem 7 = .ok (.aload_n 0, 1) := by decide +kernel
theorem dX12_washItem_8 : decode cX12_washItem 8 = .ok (.getfield 7, 3) := by decide +kernel
theorem dX12_washItem_11 : decode cX12_washItem 11 = .ok (.iconst 1, 1) := by decide +kernel
theorem dX12_washItem_12 : decode cX12_washItem 12 = .ok (.iaload, 1) := by decide +kernel
theorem dX12_washItem_13 : decode cX12_washItem 13 = .ok (.iconst 1, 1) := by decide +kernel
theorem dX12_washItem_14 : decode cX12_washItem 14 = .ok (.isub, 1) := by decide +kernel
theorem dX12_washItem_15 : decode cX12_washItem 15 = .ok (.invokevirtual 256, 3) := by decide +kernel
theorem dX12_washItem_18 : decode cX12_washItem 18 = .ok (.aload_n 0, 1) := by decide +kernel
theorem dX12_washItem_19 : decode cX12_washItem 19 = .ok (.getfield 220, 3) := by decide +kernel
theorem dX12_washItem_22 : decode cX12_washItem 22 = .ok (.ifCond .ne 12, 3) := by decide +kernel
theorem dX12_washItem_25 : decode cX12_washItem 25 = .ok (.aload_n 0, 1) := by decide +kernel
theorem dX12_washItem_26 : decode cX12_washItem 26 = .ok (.aload_n 0, 1) := by decide +kernel
theorem dX12_washItem_27 : decode cX12_washItem 27 = .ok (.getfield 231, 3) := by decide +kernel
theorem dX12_washItem_30 : decode cX12_washItem 30 = .ok (.invokevirtual 134, 3) := by decide +kernel
theorem dX12_washItem_33 : decode cX12_washItem 33 = .ok (.pop, 1) := by decide +kernel
theorem dX12_washItem_34 : decode cX12_washItem 34 = .ok (.return_, 1) := by decide +kernel
theorem dX12_towelItem_0 : decode cX12_towelItem 0 = .ok (.aload_n 0, 1) := by decide +kernel
theorem dX12_towelItem_1 : decode cX12_towelItem 1 = .ok (.iconst 1, 1) := by decide +kernel
theorem dX12_towelItem_2 : decode cX12_towelItem 2 = .ok (.invokevirtual 234, 3) := by decide +kernel
theorem dX12_towelItem_5 : decode cX12_towelItem 5 = .ok (.aload_n 0, 1) := by decide +kernel
theorem dX12_towelItem_6 : decode cX12_towelItem 6 = .ok (.getfield 7, 3) := by decide +kernel
theorem dX12_towelItem_9 : decode cX12_towelItem 9 = .ok (.iconst 4, 1) := by decide +kernel
theorem dX12_towelItem_10 : decode cX12_towelItem 10 = .ok (.iload_n 1, 1) := by decide +kernel
theorem dX12_towelItem_11 : decode cX12_towelItem 11 = .ok (.ifCond .eq 7, 3) := by decide +kernel
theorem dX12_towelItem_14 : decode cX12_towelItem 14 = .ok (.iconst 1, 1) := by decide +kernel
theorem dX12_towelItem_15 : decode cX12_towelItem 15 = .ok (.goto 4, 3) := by decide +kernel
theorem dX12_towelItem_18 : decode cX12_towelItem 18 = .ok (.iconst 0, 1) := by decide +kernel
theorem dX12_towelItem_19 : decode cX12_towelItem 19 = .ok (.iastore, 1) := by decide +kernel
theorem dX12_towelItem_20 : decode cX12_towelItem 20 = .ok (.return_, 1) := by decide +kernel
theorem dX12_item_0 : decode cX12_item 0 = .ok (.aload_n 0, 1) := by decide +kernel
theorem dX12_item_1 : decode cX12_item 1 = .ok (.invokevirtual 261, 3) := by decide +kernel
theorem dX12_item_4 : decode cX12_item 4 = .ok (.istore_n 1, 1) := by decide +kernel
theorem dX12_item_5 : decode cX12_item 5 = .ok (.aload_n 0, 1) := by decide +kernel
theorem dX12_item_6 : decode cX12_item 6 = .ok (.invokevirtual 238, 3) := by decide +kernel
theorem dX12_item_9 : decode cX12_item 9 = .ok (.lstore_n 2, 1) := by decide +kernel
theorem dX12_item_10 : decode cX12_item 10 = .ok (.iload_n 1, 1) := by decide +kernel
theorem dX12_item_11 : decode cX12_item 11 = .ok (.ifCond .lt 11, 3) := by decide +kernel
theorem dX12_item_14 : decode cX12_item 14 = .ok (.aload_n 0, 1) := by decide +kernel
theorem dX12_item_15 : decode cX12_item 15 = .ok (.iload_n 1, 1) := by decide +kernel
theorem dX12_item_16 : decode cX12_item 16 = .ok (.invokevirtual 264, 3) := by decide +kernel
theorem dX12_item_19 : decode cX12_item 19 = .ok (.goto 89, 3) := by decide +kernel
theorem dX12_item_22 : decode cX12_item 22 = .ok (.lload_n 2, 1) := by decide +kernel
theorem dX12_item_23 : decode cX12_item 23 = .ok (.ldc2_w 267, 3) := by decide +kernel
theorem dX12_item_26 : decode cX12_item 26 = .ok (.lcmp, 1) := by decide +kernel
theorem dX12_item_27 : decode cX12_item 27 = .ok (.ifCond .ne 10, 3) := by decide +kernel
theorem dX12_item_30 : decode cX12_item 30 = .ok (.aload_n 0, 1) := by decide +kernel
theorem dX12_item_31 : decode cX12_item 31 = .ok (.invokevirtual 269, 3) := by decide +kernel
theorem dX12_item_34 : decode cX12_item 34 = .ok (.goto 74, 3) := by decide +kernel
theorem dX12_item_37 : decode cX12_item 37 = .ok (.lload_n 2, 1) := by decide +kernel
theorem dX12_item_38 : decode cX12_item 38 = .ok (.ldc2_w 272, 3) := by decide +kernel
theorem dX12_item_41 : decode cX12_item 41 = .ok (.lcmp, 1) := by decide +kernel
theorem dX12_item_42 : decode cX12_item 42 = .ok (.ifCond .ne 10, 3) := by decide +kernel
theorem dX12_item_45 : decode cX12_item 45 = .ok (.aload_n 0, 1) := by decide +kernel
theorem dX12_item_46 : decode cX12_item 46 = .ok (.invokevirtual 274, 3) := by decide +kernel
theorem dX12_item_49 : decode cX12_item 49 = .ok (.goto 59, 3) := by decide +kernel
theorem dX12_item_52 : decode cX12_item 52 = .ok (.lload_n 2, 1) := by decide +kernel
theorem dX12_item_53 : decode cX12_item 53 = .ok (.ldc2_w 277, 3) := by decide +kernel
theorem dX12_item_56 : decode cX12_item 56 = .ok (.lcmp, 1) := by decide +kernel
theorem dX12_item_57 : decode cX12_item 57 = .ok (.ifCond .eq 11, 3) := by decide +kernel
theorem dX12_item_60 : decode cX12_item 60 = .ok (.lload_n 2, 1) := by decide +kernel
theorem dX12_item_61 : decode cX12_item 61 = .ok (.ldc2_w 279, 3) := by decide +kernel
theorem dX12_item_64 : decode cX12_item 64 = .ok (.lcmp, 1) := by decide +kernel
theorem dX12_item_65 : decode cX12_item 65 = .ok (.ifCond .ne 23, 3) := by decide +kernel
theorem dX12_item_68 : decode cX12_item 68 = .ok (.aload_n 0, 1) := by decide +kernel
theorem dX12_item_69 : decode cX12_item 69 = .ok (.lload_n 2, 1) := by decide +kernel
theorem dX12_item_70 : decode cX12_item 70 = .ok (.ldc2_w 277, 3) := by decide +kernel
theorem dX12_item_73 : decode cX12_item 73 = .ok (.lcmp, 1) := by decide +kernel
theorem dX12_item_74 : decode cX12_item 74 = .ok (.ifCond .ne 7, 3) := by decide +kernel
theorem dX12_item_77 : decode cX12_item 77 = .ok (.iconst 1, 1) := by decide +kernel
theorem dX12_item_78 : decode cX12_item 78 = .ok (.goto 4, 3) := by decide +kernel
theorem dX12_item_81 : decode cX12_item 81 = .ok (.iconst 0, 1) := by decide +kernel
theorem dX12_item_82 : decode cX12_item 82 = .ok (.invokevirtual 281, 3) := by decide +kernel
theorem dX12_item_85 : decode cX12_item 85 = .ok (.goto 23, 3) := by decide +kernel
theorem dX12_item_88 : decode cX12_item 88 = .ok (.lload_n 2, 1) := by decide +kernel
theorem dX12_item_89 : decode cX12_item 89 = .ok (.ldc2_w 284, 3) := by decide +kernel
theorem dX12_item_92 : decode cX12_item 92 = .ok (.lcmp, 1) := by decide +kernel
theorem dX12_item_93 : decode cX12_item 93 = .ok (.ifCond .ne 10, 3) := by decide +kernel
theorem dX12_item_96 : decode cX12_item 96 = .ok (.aload_n 0, 1) := by decide +kernel
theorem dX12_item_97 : decode cX12_item 97 = .ok (.invokevirtual 286, 3) := by decide +kernel
theorem dX12_item_100 : decode cX12_item 100 = .ok (.goto 8, 3) := by decide +kernel
theorem dX12_item_103 : decode cX12_item 103 = .ok (.aload_n 0, 1) := by decide +kernel
theorem dX12_item_104 : decode cX12_item 104 = .ok (.iconst 0, 1) := by decide +kernel
theorem dX12_item_105 : decode cX12_item 105 = .ok (.invokevirtual 234, 3) := by decide +kernel
theorem dX12_item_108 : decode cX12_item 108 = .ok (.return_, 1) := by decide +kernel
theorem dX12_basket_0 : decode cX12_basket 0 = .ok (.aload_n 0, 1) := by decide +kernel
theorem dX12_basket_1 : decode cX12_basket 1 = .ok (.invokevirtual 289, 3) := by decide +kernel
theorem dX12_basket_4 : decode cX12_basket 4 = .ok (.aload_n 0, 1) := by decide +kernel
theorem dX12_basket_5 : decode cX12_basket 5 = .ok (.iconst 0, 1) := by decide +kernel
theorem dX12_basket_6 : decode cX12_basket 6 = .ok (.putfield 220, 3) := by decide +kernel
theorem dX12_basket_9 : decode cX12_basket 9 = .ok (.aload_n 0, 1) := by decide +kernel
theorem dX12_basket_10 : decode cX12_basket 10 = .ok (.iconst 0, 1) := by decide +kernel
theorem dX12_basket_11 : decode cX12_basket 11 = .ok (.putfield 205, 3) := by decide +kernel
theorem dX12_basket_14 : decode cX12_basket 14 = .ok (.aload_n 0, 1) := by decide +kernel
theorem dX12_basket_15 : decode cX12_basket 15 = .ok (.invokevirtual 224, 3) := by decide +kernel
theorem dX12_basket_18 : decode cX12_basket 18 = .ok (.iconst 1, 1) := by decide +kernel
theorem dX12_basket_19 : decode cX12_basket 19 = .ok (.istore_n 1, 1) := by decide +kernel
theorem dX12_basket_20 : decode cX12_basket 20 = .ok (.aload_n 0, 1) := by decide +kernel
theorem dX12_basket_21 : decode cX12_basket 21 = .ok (.invokevirtual 292, 3) := by decide +kernel
theorem dX12_basket_24 : decode cX12_basket 24 = .ok (.aload_n 0, 1) := by decide +kernel
theorem dX12_basket_25 : decode cX12_basket 25 = .ok (.getfield 220, 3) := by decide +kernel
theorem dX12_basket_28 : decode cX12_basket 28 = .ok (.ifCond .ne 31, 3) := by decide +kernel
theorem dX12_basket_31 : decode cX12_basket 31 = .ok (.aload_n 0, 1) := by decide +kernel
theorem dX12_basket_32 : decode cX12_basket 32 = .ok (.aload_n 0, 1) := by decide +kernel
theorem dX12_basket_33 : decode cX12_basket 33 = .ok (.getfield 208, 3) := by decide +kernel
theorem dX12_basket_36 : decode cX12_basket 36 = .ok (.invokevirtual 211, 3) := by decide +kernel
theorem dX12_basket_39 : decode cX12_basket 39 = .ok (.bipush 59, 2) := by decide +kernel
theorem dX12_basket_41 : decode cX12_basket 41 = .ok (.if_icmp .ne 18, 3) := by decide +kernel
theorem dX12_basket_44 : decode cX12_basket 44 = .ok (.aload_n 0, 1) := by decide +kernel
theorem dX12_basket_45 : decode cX12_basket 45 = .ok (.iconst 1, 1) := by decide +kernel
theorem dX12_basket_46 : decode cX12_basket 46 = .ok (.invokevirtual 234, 3) := by decide +kernel
theorem dX12_basket_49 : decode cX12_basket 49 = .ok (.aload_n 0, 1) := by decide +kernel
theorem dX12_basket_50 : decode cX12_basket 50 = .ok (.invokevirtual 292, 3) := by decide +kernel
theorem dX12_basket_53 : decode cX12_basket 53 = .ok (.iinc 1 1, 3) := by decide +kernel
theorem dX12_basket_56 : decode cX12_basket 56 = .ok (.goto (-32), 3) := by decide +kernel
theorem dX12_basket_59 : decode cX12_basket 59 = .ok (.aload_n 0, 1) := by decide +kernel
theorem dX12_basket_60 : decode cX12_basket 60 = .ok (.aload_n 0, 1) := by decide +kernel
theorem dX12_basket_61 : decode cX12_basket 61 = .ok (.getfield 220, 3) := by decide +kernel
theorem dX12_basket_64 : decode cX12_basket 64 = .ok (.ifCond .ne 14, 3) := by decide +kernel
theorem dX12_basket_67 : decode cX12_basket 67 = .ok (.aload_n 0, 1) := by decide +kernel
theorem dX12_basket_68 : decode cX12_basket 68 = .ok (.getfield 208, 3) := by decide +kernel
theorem dX12_basket_71 : decode cX12_basket 71 = .ok (.aload_n 0, 1) := by decide +kernel
theorem dX12_basket_72 : decode cX12_basket 72 = .ok (.getfield 193, 3) := by decide +kernel
theorem dX12_basket_75 : decode cX12_basket 75 = .ok (.if_icmp .ge 7, 3) := by decide +kernel
theorem dX12_basket_78 : decode cX12_basket 78 = .ok (.iconst 1, 1) := by decide +kernel
theorem dX12_basket_79 : decode cX12_basket 79 = .ok (.goto 4, 3) := by decide +kernel
theorem dX12_basket_82 : decode cX12_basket 82 = .ok (.iconst 0, 1) := by decide +kernel
theorem dX12_basket_83 : decode cX12_basket 83 = .ok (.putfield 220, 3) := by decide +kernel
theorem dX12_basket_86 : decode cX12_basket 86 = .ok (.aload_n 0, 1) := by decide +kernel
theorem dX12_basket_87 : decode cX12_basket 87 = .ok (.getfield 220, 3) := by decide +kernel
theorem dX12_basket_90 : decode cX12_basket 90 = .ok (.ifCond .eq 7, 3) := by decide +kernel
theorem dX12_basket_93 : decode cX12_basket 93 = .ok (.aload_n 0, 1) := by decide +kernel
theorem dX12_basket_94 : decode cX12_basket 94 = .ok (.invokevirtual 295, 3) := by decide +kernel
theorem dX12_basket_97 : decode cX12_basket 97 = .ok (.aload_n 0, 1) := by decide +kernel
theorem dX12_basket_98 : decode cX12_basket 98 = .ok (.iconst 0, 1) := by decide +kernel
theorem dX12_basket_99 : decode cX12_basket 99 = .ok (.putfield 193, 3) := by decide +kernel
theorem dX12_basket_102 : decode cX12_basket 102 = .ok (.aload_n 0, 1) := by decide +kernel
theorem dX12_basket_103 : decode cX12_basket 103 = .ok (.getfield 220, 3) := by decide +kernel
theorem dX12_basket_106 : decode cX12_basket 106 = .ok (.ifCond .eq 12, 3) := by decide +kernel
theorem dX12_basket_109 : decode cX12_basket 109 = .ok (.iconst (-1), 1) := by decide +kernel
theorem dX12_basket_110 : decode cX12_basket 110 = .ok (.aload_n 0, 1) := by decide +kernel
theorem dX12_basket_111 : decode cX12_basket 111 = .ok (.getfield 208, 3) := by decide +kernel
theorem dX12_basket_114 : decode cX12_basket 114 = .ok (.isub, 1) := by decide +kernel
theorem dX12_basket_115 : decode cX12_basket 115 = .ok (.goto 4, 3) := by decide +kernel
theorem dX12_basket_118 : decode cX12_basket 118 = .ok (.iload_n 1, 1) := by decide +kernel
theorem dX12_basket_119 : decode cX12_basket 119 = .ok (.ireturn, 1) := by decide +kernel
theorem dX12_isOne_0 : decode cX12_isOne 0 = .ok (.iload_n 0, 1) := by decide +kernel
theorem dX12_isOne_1 : decode cX12_isOne 1 = .ok (.i2l, 1) := by decide +kernel
theorem dX12_isOne_2 : decode cX12_isOne 2 = .ok (.lconst 0, 1) := by decide +kernel
theorem dX12_isOne_3 : decode cX12_isOne 3 = .ok (.ldc2_w 298, 3) := by decide +kernel
theorem dX12_isOne_6 : decode cX12_isOne 6 = .ok (.invokestatic 46, 3) := by decide +kernel
theorem dX12_isOne_9 : decode cX12_isOne 9 = .ok (.ireturn, 1) := by decide +kernel
theorem dX12_sheet_0 : decode cX12_sheet 0 = .ok (.iload_n 1, 1) := by decide +kernel
theorem dX12_sheet_1 : decode cX12_sheet 1 = .ok (.invokestatic 300, 3) := by decide +kernel
theorem dX12_sheet_4 : decode cX12_sheet 4 = .ok (.ifCond .eq 25, 3) := by decide +kernel
theorem dX12_sheet_7 : decode cX12_sheet 7 = .ok (.iload_n 2, 1) := by decide +kernel
theorem dX12_sheet_8 : decode cX12_sheet 8 = .ok (.ifCond .eq 28, 3) := by decide +kernel
theorem dX12_sheet_11 : decode cX12_sheet 11 = .ok (.iload_n 2, 1) := by decide +kernel
theorem dX12_sheet_12 : decode cX12_sheet 12 = .ok (.bipush 8, 2) := by decide +kernel
theorem dX12_sheet_14 : decode cX12_sheet 14 = .ok (.if_icmp .eq 22, 3) := by decide +kernel
theorem dX12_sheet_17 : decode cX12_sheet 17 = .ok (.iload_n 2, 1) := by decide +kernel
theorem dX12_sheet_18 : decode cX12_sheet 18 = .ok (.bipush 16, 2) := by decide +kernel
theorem dX12_sheet_20 : decode cX12_sheet 20 = .ok (.if_icmp .eq 16, 3) := by decide +kernel
theorem dX12_sheet_23 : decode cX12_sheet 23 = .ok (.iload_n 2, 1) := by decide +kernel
theorem dX12_sheet_24 : decode cX12_sheet 24 = .ok (.bipush 64, 2) := by decide +kernel
theorem dX12_sheet_26 : decode cX12_sheet 26 = .ok (.if_icmp .eq 10, 3) := by decide +kernel
theorem dX12_sheet_29 : decode cX12_sheet 29 = .ok (.aload_n 0, 1) := by decide +kernel
theorem dX12_sheet_30 : decode cX12_sheet 30 = .ok (.ldc 41, 2) := by decide +kernel
theorem dX12_sheet_32 : decode cX12_sheet 32 = .ok (.invokevirtual 63, 3) := by decide +kernel
theorem dX12_sheet_35 : decode cX12_sheet 35 = .ok (.ireturn, 1) := by decide +kernel
theorem dX12_sheet_36 : decode cX12_sheet 36 = .ok (.iload_n 3, 1) := by decide +kernel
theorem dX12_sheet_37 : decode cX12_sheet 37 = .ok (.ifCond .ge 11, 3) := by decide +kernel
theorem dX12_sheet_40 : decode cX12_sheet 40 = .ok (.aload_n 0, 1) := by decide +kernel
theorem dX12_sheet_41 : decode cX12_sheet 41 = .ok (.ldc_w 303, 3) := by decide +kernel
theorem dX12_sheet_44 : decode cX12_sheet 44 = .ok (.invokevirtual 63, 3) := by decide +kernel
theorem dX12_sheet_47 : decode cX12_sheet 47 = .ok (.ireturn, 1) := by decide +kernel
theorem dX12_sheet_48 : decode cX12_sheet 48 = .ok (.iload_n 3, 1) := by decide +kernel
theorem dX12_sheet_49 : decode cX12_sheet 49 = .ok (.bipush 40, 2) := by decide +kernel
theorem dX12_sheet_51 : decode cX12_sheet 51 = .ok (.if_icmp .le 10, 3) := by decide +kernel
theorem dX12_sheet_54 : decode cX12_sheet 54 = .ok (.aload_n 0, 1) := by decide +kernel
theorem dX12_sheet_55 : decode cX12_sheet 55 = .ok (.ldc 41, 2) := by decide +kernel
theorem dX12_sheet_57 : decode cX12_sheet 57 = .ok (.invokevirtual 63, 3) := by decide +kernel
theorem dX12_sheet_60 : decode cX12_sheet 60 = .ok (.ireturn, 1) := by decide +kernel
theorem dX12_sheet_61 : decode cX12_sheet 61 = .ok (.aload_n 0, 1) := by decide +kernel
theorem dX12_sheet_62 : decode cX12_sheet 62 = .ok (.getfield 28, 3) := by decide +kernel
theorem dX12_sheet_65 : decode cX12_sheet 65 = .ok (.iload_n 1, 1) := by decide +kernel
theorem dX12_sheet_66 : decode cX12_sheet 66 = .ok (.iload_n 2, 1) := by decide +kernel
theorem dX12_sheet_67 : decode cX12_sheet 67 = .ok (.iastore, 1) := by decide +kernel
theorem dX12_sheet_68 : decode cX12_sheet 68 = .ok (.aload_n 0, 1) := by decide +kernel
theorem dX12_sheet_69 : decode cX12_sheet 69 = .ok (.getfield 31, 3) := by decide +kernel
theorem dX12_sheet_72 : decode cX12_sheet 72 = .ok (.iload_n 1, 1) := by decide +kernel
theorem dX12_sheet_73 : decode cX12_sheet 73 = .ok (.iload_n 2, 1) := by decide +kernel
theorem dX12_sheet_74 : decode cX12_sheet 74 = .ok (.ifCond .ne 7, 3) := by decide +kernel
theorem dX12_sheet_77 : decode cX12_sheet 77 = .ok (.iconst 0, 1) := by decide +kernel
theorem dX12_sheet_78 : decode cX12_sheet 78 = .ok (.goto 4, 3) := by decide +kernel
theorem dX12_sheet_81 : decode cX12_sheet 81 = .ok (.iload_n 3, 1) := by decide +kernel
theorem dX12_sheet_82 : decode cX12_sheet 82 = .ok (.iastore, 1) := by decide +kernel
theorem dX12_sheet_83 : decode cX12_sheet 83 = .ok (.iconst 0, 1) := by decide +kernel
theorem dX12_sheet_84 : decode cX12_sheet 84 = .ok (.istore 4, 2) := by decide +kernel
theorem dX12_sheet_86 : decode cX12_sheet 86 = .ok (.iload 4, 2) := by decide +kernel
theorem dX12_sheet_88 : decode cX12_sheet 88 = .ok (.bipush 40, 2) := by decide +kernel
theorem dX12_sheet_90 : decode cX12_sheet 90 = .ok (.if_icmp .ge 22, 3) := by decide +kernel
theorem dX12_sheet_93 : decode cX12_sheet 93 = .ok (.aload_n 0, 1) := by decide +kernel
theorem dX12_sheet_94 : decode cX12_sheet 94 = .ok (.getfield 34, 3) := by decide +kernel
theorem dX12_sheet_97 : decode cX12_sheet 97 = .ok (.bipush 40, 2) := by decide +kernel
theorem dX12_sheet_99 : decode cX12_sheet 99 = .ok (.iload_n 1, 1) := by decide +kernel
theorem dX12_sheet_100 : decode cX12_sheet 100 = .ok (.imul, 1) := by decide +kernel
theorem dX12_sheet_101 : decode cX12_sheet 101 = .ok (.iload 4, 2) := by decide +kernel
theorem dX12_sheet_103 : decode cX12_sheet 103 = .ok (.iadd, 1) := by decide +kernel
theorem dX12_sheet_104 : decode cX12_sheet 104 = .ok (.lconst 0, 1) := by decide +kernel
theorem dX12_sheet_105 : decode cX12_sheet 105 = .ok (.lastore, 1) := by decide +kernel
theorem dX12_sheet_106 : decode cX12_sheet 106 = .ok (.iinc 4 1, 3) := by decide +kernel
theorem dX12_sheet_109 : decode cX12_sheet 109 = .ok (.goto (-23), 3) := by decide +kernel
theorem dX12_sheet_112 : decode cX12_sheet 112 = .ok (.aload_n 0, 1) := by decide +kernel
theorem dX12_sheet_113 : decode cX12_sheet 113 = .ok (.getfield 31, 3) := by decide +kernel
theorem dX12_sheet_116 : decode cX12_sheet 116 = .ok (.iload_n 1, 1) := by decide +kernel
theorem dX12_sheet_117 : decode cX12_sheet 117 = .ok (.iaload, 1) := by decide +kernel
theorem dX12_sheet_118 : decode cX12_sheet 118 = .ok (.ireturn, 1) := by decide +kernel
theorem dX12_narrowed_0 : decode cX12_narrowed 0 = .ok (.iload_n 0, 1) := by decide +kernel
theorem dX12_narrowed_1 : decode cX12_narrowed 1 = .ok (.bipush 8, 2) := by decide +kernel
theorem dX12_narrowed_3 : decode cX12_narrowed 3 = .ok (.if_icmp .ne 10, 3) := by decide +kernel
theorem dX12_narrowed_6 : decode cX12_narrowed 6 = .ok (.lload_n 1, 1) := by decide +kernel
theorem dX12_narrowed_7 : decode cX12_narrowed 7 = .ok (.l2i, 1) := by decide +kernel
theorem dX12_narrowed_8 : decode cX12_narrowed 8 = .ok (.i2b, 1) := by decide +kernel
theorem dX12_narrowed_9 : decode cX12_narrowed 9 = .ok (.i2l, 1) := by decide +kernel
theorem dX12_narrowed_10 : decode cX12_narrowed 10 = .ok (.goto 17, 3) := by decide +kernel
theorem dX12_narrowed_13 : decode cX12_narrowed 13 = .ok (.iload_n 0, 1) := by decide +kernel
theorem dX12_narrowed_14 : decode cX12_narrowed 14 = .ok (.bipush 16, 2) := by decide +kernel
theorem dX12_narrowed_16 : decode cX12_narrowed 16 = .ok (.if_icmp .ne 10, 3) := by decide +kernel
theorem dX12_narrowed_19 : decode cX12_narrowed 19 = .ok (.lload_n 1, 1) := by decide +kernel
theorem dX12_narrowed_20 : decode cX12_narrowed 20 = .ok (.l2i, 1) := by decide +kernel
theorem dX12_narrowed_21 : decode cX12_narrowed 21 = .ok (.i2s, 1) := by decide +kernel
theorem dX12_narrowed_22 : decode cX12_narrowed 22 = .ok (.i2l, 1) := by decide +kernel
theorem dX12_narrowed_23 : decode cX12_narrowed 23 = .ok (.goto 4, 3) := by decide +kernel
theorem dX12_narrowed_26 : decode cX12_narrowed 26 = .ok (.lload_n 1, 1) := by decide +kernel
theorem dX12_narrowed_27 : decode cX12_narrowed 27 = .ok (.lreturn, 1) := by decide +kernel
theorem dX12_wrongSheet_0 : decode cX12_wrongSheet 0 = .ok (.iload_n 1, 1) := by decide +kernel
theorem dX12_wrongSheet_1 : decode cX12_wrongSheet 1 = .ok (.invokestatic 300, 3) := by decide +kernel
theorem dX12_wrongSheet_4 : decode cX12_wrongSheet 4 = .ok (.ifCond .ne 8, 3) := by decide +kernel
theorem dX12_wrongSheet_7 : decode cX12_wrongSheet 7 = .ok (.ldc 41, 2) := by decide +kernel
theorem dX12_wrongSheet_9 : decode cX12_wrongSheet 9 = .ok (.goto 19, 3) := by decide +kernel
theorem dX12_wrongSheet_12 : decode cX12_wrongSheet 12 = .ok (.aload_n 0, 1) := by decide +kernel
theorem dX12_wrongSheet_13 : decode cX12_wrongSheet 13 = .ok (.getfield 28, 3) := by decide +kernel
theorem dX12_wrongSheet_16 : decode cX12_wrongSheet 16 = .ok (.iload_n 1, 1) := by decide +kernel
theorem dX12_wrongSheet_17 : decode cX12_wrongSheet 17 = .ok (.iaload, 1) := by decide +kernel
theorem dX12_wrongSheet_18 : decode cX12_wrongSheet 18 = .ok (.ifCond .ne 9, 3) := by decide +kernel
theorem dX12_wrongSheet_21 : decode cX12_wrongSheet 21 = .ok (.ldc_w 304, 3) := by decide +kernel
theorem dX12_wrongSheet_24 : decode cX12_wrongSheet 24 = .ok (.goto 4, 3) := by decide +kernel
theorem dX12_wrongSheet_27 : decode cX12_wrongSheet 27 = .ok (.iconst 0, 1) := by decide +kernel
theorem dX12_wrongSheet_28 : decode cX12_wrongSheet 28 = .ok (.ireturn, 1) := by decide +kernel
theorem dX12_write_0 : decode cX12_write 0 = .ok (.aload_n 0, 1) := by decide +kernel
theorem dX12_write_1 : decode cX12_write 1 = .ok (.iload_n 1, 1) := by decide +kernel
theorem dX12_write_2 : decode cX12_write 2 = .ok (.invokevirtual 305, 3) := by decide +kernel
theorem dX12_write_5 : decode cX12_write 5 = .ok (.istore 5, 2) := by decide +kernel
theorem dX12_write_7 : decode cX12_write 7 = .ok (.iload 5, 2) := by decide +kernel
theorem dX12_write_9 : decode cX12_write 9 = .ok (.ifCond .eq 11, 3) := by decide +kernel
theorem dX12_write_12 : decode cX12_write 12 = .ok (.aload_n 0, 1) := by decide +kernel
theorem dX12_write_13 : decode cX12_write 13 = .ok (.iload 5, 2) := by decide +kernel
theorem dX12_write_15 : decode cX12_write 15 = .ok (.invokevirtual 63, 3) := by decide +kernel
theorem dX12_write_18 : decode cX12_write 18 = .ok (.i2l, 1) := by decide +kernel
theorem dX12_write_19 : decode cX12_write 19 = .ok (.lreturn, 1) := by decide +kernel
theorem dX12_write_20 : decode cX12_write 20 = .ok (.iload_n 2, 1) := by decide +kernel
theorem dX12_write_21 : decode cX12_write 21 = .ok (.i2l, 1) := by decide +kernel
theorem dX12_write_22 : decode cX12_write 22 = .ok (.lconst 0, 1) := by decide +kernel
theorem dX12_write_23 : decode cX12_write 23 = .ok (.aload_n 0, 1) := by decide +kernel
theorem dX12_write_24 : decode cX12_write 24 = .ok (.getfield 31, 3) := by decide +kernel
theorem dX12_write_27 : decode cX12_write 27 = .ok (.iload_n 1, 1) := by decide +kernel
theorem dX12_write_28 : decode cX12_write 28 = .ok (.iaload, 1) := by decide +kernel
theorem dX12_write_29 : decode cX12_write 29 = .ok (.iconst 1, 1) := by decide +kernel
theorem dX12_write_30 : decode cX12_write 30 = .ok (.isub, 1) := by decide +kernel
theorem dX12_write_31 : decode cX12_write 31 = .ok (.i2l, 1) := by decide +kernel
theorem dX12_write_32 : decode cX12_write 32 = .ok (.invokestatic 46, 3) := by decide +kernel
theorem dX12_write_35 : decode cX12_write 35 = .ok (.ifCond .ne 11, 3) := by decide +kernel
theorem dX12_write_38 : decode cX12_write 38 = .ok (.aload_n 0, 1) := by decide +kernel
theorem dX12_write_39 : decode cX12_write 39 = .ok (.ldc 41, 2) := by decide +kernel
theorem dX12_write_41 : decode cX12_write 41 = .ok (.invokevirtual 63, 3) := by decide +kernel
theorem dX12_write_44 : decode cX12_write 44 = .ok (.i2l, 1) := by decide +kernel
theorem dX12_write_45 : decode cX12_write 45 = .ok (.lreturn, 1) := by decide +kernel
theorem dX12_write_46 : decode cX12_write 46 = .ok (.aload_n 0, 1) := by decide +kernel
theorem dX12_write_47 : decode cX12_write 47 = .ok (.getfield 34, 3) := by decide +kernel
theorem dX12_write_50 : decode cX12_write 50 = .ok (.bipush 40, 2) := by decide +kernel
theorem dX12_write_52 : decode cX12_write 52 = .ok (.iload_n 1, 1) := by decide +kernel
theorem dX12_write_53 : decode cX12_write 53 = .ok (.imul, 1) := by decide +kernel
theorem dX12_write_54 : decode cX12_write 54 = .ok (.iload_n 2, 1) := by decide +kernel
theorem dX12_write_55 : decode cX12_write 55 = .ok (.iadd, 1) := by decide +kernel
theorem dX12_write_56 : decode cX12_write 56 = .ok (.laload, 1) := by decide +kernel
theorem dX12_write_57 : decode cX12_write 57 = .ok (.lstore 6, 2) := by decide +kernel
theorem dX12_write_59 : decode cX12_write 59 = .ok (.aload_n 0, 1) := by decide +kernel
theorem dX12_write_60 : decode cX12_write 60 = .ok (.getfield 34, 3) := by decide +kernel
theorem dX12_write_63 : decode cX12_write 63 = .ok (.bipush 40, 2) := by decide +kernel
theorem dX12_write_65 : decode cX12_write 65 = .ok (.iload_n 1, 1) := by decide +kernel
theorem dX12_write_66 : decode cX12_write 66 = .ok (.imul, 1) := by decide +kernel
theorem dX12_write_67 : decode cX12_write 67 = .ok (.iload_n 2, 1) := by decide +kernel
theorem dX12_write_68 : decode cX12_write 68 = .ok (.iadd, 1) := by decide +kernel
theorem dX12_write_69 : decode cX12_write 69 = .ok (.aload_n 0, 1) := by decide +kernel
theorem dX12_write_70 : decode cX12_write 70 = .ok (.getfield 28, 3) := by decide +kernel
theorem dX12_write_73 : decode cX12_write 73 = .ok (.iload_n 1, 1) := by decide +kernel
theorem dX12_write_74 : decode cX12_write 74 = .ok (.iaload, 1) := by decide +kernel
theorem dX12_write_75 : decode cX12_write 75 = .ok (.lload_n 3, 1) := by decide +kernel
theorem dX12_write_76 : decode cX12_write 76 = .ok (.invokestatic 308, 3) := by decide +kernel
theorem dX12_write_79 : decode cX12_write 79 = .ok (.lastore, 1) := by decide +kernel
theorem dX12_write_80 : decode cX12_write 80 = .ok (.lload 6, 2) := by decide +kernel
theorem dX12_write_82 : decode cX12_write 82 = .ok (.lreturn, 1) := by decide +kernel
theorem dX12_copy_0 : decode cX12_copy 0 = .ok (.iload_n 1, 1) := by decide +kernel
theorem dX12_copy_1 : decode cX12_copy 1 = .ok (.invokestatic 300, 3) := by decide +kernel
theorem dX12_copy_4 : decode cX12_copy 4 = .ok (.ifCond .eq 10, 3) := by decide +kernel
theorem dX12_copy_7 : decode cX12_copy 7 = .ok (.iload_n 3, 1) := by decide +kernel
theorem dX12_copy_8 : decode cX12_copy 8 = .ok (.invokestatic 300, 3) := by decide +kernel
theorem dX12_copy_11 : decode cX12_copy 11 = .ok (.ifCond .ne 10, 3) := by decide +kernel
theorem dX12_copy_14 : decode cX12_copy 14 = .ok (.aload_n 0, 1) := by decide +kernel
theorem dX12_copy_15 : decode cX12_copy 15 = .ok (.ldc 41, 2) := by decide +kernel
theorem dX12_copy_17 : decode cX12_copy 17 = .ok (.invokevirtual 63, 3) := by decide +kernel
theorem dX12_copy_20 : decode cX12_copy 20 = .ok (.ireturn, 1) := by decide +kernel
theorem dX12_copy_21 : decode cX12_copy 21 = .ok (.aload_n 0, 1) := by decide +kernel
theorem dX12_copy_22 : decode cX12_copy 22 = .ok (.getfield 28, 3) := by decide +kernel
theorem dX12_copy_25 : decode cX12_copy 25 = .ok (.iload_n 1, 1) := by decide +kernel
theorem dX12_copy_26 : decode cX12_copy 26 = .ok (.iaload, 1) := by decide +kernel
theorem dX12_copy_27 : decode cX12_copy 27 = .ok (.ifCond .eq 12, 3) := by decide +kernel
theorem dX12_copy_30 : decode cX12_copy 30 = .ok (.aload_n 0, 1) := by decide +kernel
theorem dX12_copy_31 : decode cX12_copy 31 = .ok (.getfield 28, 3) := by decide +kernel
theorem dX12_copy_34 : decode cX12_copy 34 = .ok (.iload_n 3, 1) := by decide +kernel
theorem dX12_copy_35 : decode cX12_copy 35 = .ok (.iaload, 1) := by decide +kernel
theorem dX12_copy_36 : decode cX12_copy 36 = .ok (.ifCond .ne 11, 3) := by decide +kernel
theorem dX12_copy_39 : decode cX12_copy 39 = .ok (.aload_n 0, 1) := by decide +kernel
theorem dX12_copy_40 : decode cX12_copy 40 = .ok (.ldc_w 304, 3) := by decide +kernel
theorem dX12_copy_43 : decode cX12_copy 43 = .ok (.invokevirtual 63, 3) := by decide +kernel
theorem dX12_copy_46 : decode cX12_copy 46 = .ok (.ireturn, 1) := by decide +kernel
theorem dX12_copy_47 : decode cX12_copy 47 = .ok (.aload_n 0, 1) := by decide +kernel
theorem dX12_copy_48 : decode cX12_copy 48 = .ok (.getfield 28, 3) := by decide +kernel
theorem dX12_copy_51 : decode cX12_copy 51 = .ok (.iload_n 1, 1) := by decide +kernel
theorem dX12_copy_52 : decode cX12_copy 52 = .ok (.iaload, 1) := by decide +kernel
theorem dX12_copy_53 : decode cX12_copy 53 = .ok (.aload_n 0, 1) := by decide +kernel
theorem dX12_copy_54 : decode cX12_copy 54 = .ok (.getfield 28, 3) := by decide +kernel
theorem dX12_copy_57 : decode cX12_copy 57 = .ok (.iload_n 3, 1) := by decide +kernel
theorem dX12_copy_58 : decode cX12_copy 58 = .ok (.iaload, 1) := by decide +kernel
theorem dX12_copy_59 : decode cX12_copy 59 = .ok (.if_icmp .eq 10, 3) := by decide +kernel
theorem dX12_copy_62 : decode cX12_copy 62 = .ok (.aload_n 0, 1) := by decide +kernel
theorem dX12_copy_63 : decode cX12_copy 63 = .ok (.ldc 146, 2) := by decide +kernel
theorem dX12_copy_65 : decode cX12_copy 65 = .ok (.invokevirtual 63, 3) := by decide +kernel
theorem dX12_copy_68 : decode cX12_copy 68 = .ok (.ireturn, 1) := by decide +kernel
theorem dX12_copy_69 : decode cX12_copy 69 = .ok (.iload_n 2, 1) := by decide +kernel
theorem dX12_copy_70 : decode cX12_copy 70 = .ok (.ifCond .lt 40, 3) := by decide +kernel
theorem dX12_copy_73 : decode cX12_copy 73 = .ok (.iload 4, 2) := by decide +kernel
theorem dX12_copy_75 : decode cX12_copy 75 = .ok (.ifCond .lt 35, 3) := by decide +kernel
theorem dX12_copy_78 : decode cX12_copy 78 = .ok (.iload 5, 2) := by decide +kernel
theorem dX12_copy_80 : decode cX12_copy 80 = .ok (.ifCond .lt 30, 3) := by decide +kernel
theorem dX12_copy_83 : decode cX12_copy 83 = .ok (.iload 5, 2) := by decide +kernel
theorem dX12_copy_85 : decode cX12_copy 85 = .ok (.aload_n 0, 1) := by decide +kernel
theorem dX12_copy_86 : decode cX12_copy 86 = .ok (.getfield 31, 3) := by decide +kernel
theorem dX12_copy_89 : decode cX12_copy 89 = .ok (.iload_n 1, 1) := by decide +kernel
theorem dX12_copy_90 : decode cX12_copy 90 = .ok (.iaload, 1) := by decide +kernel
theorem dX12_copy_91 : decode cX12_copy 91 = .ok (.iload_n 2, 1) := by decide +kernel
theorem dX12_copy_92 : decode cX12_copy 92 = .ok (.isub, 1) := by decide +kernel
theorem dX12_copy_93 : decode cX12_copy 93 = .ok (.if_icmp .gt 17, 3) := by decide +kernel
theorem dX12_copy_96 : decode cX12_copy 96 = .ok (.iload 5, 2) := by decide +kernel
theorem dX12_copy_98 : decode cX12_copy 98 = .ok (.aload_n 0, 1) := by decide +kernel
theorem dX12_copy_99 : decode cX12_copy 99 = .ok (.getfield 31, 3) := by decide +kernel
theorem dX12_copy_102 : decode cX12_copy 102 = .ok (.iload_n 3, 1) := by decide +kernel
theorem dX12_copy_103 : decode cX12_copy 103 = .ok (.iaload, 1) := by decide +kernel
theorem dX12_copy_104 : decode cX12_copy 104 = .ok (.iload 4, 2) := by decide +kernel
theorem dX12_copy_106 : decode cX12_copy 106 = .ok (.isub, 1) := by decide +kernel
theorem dX12_copy_107 : decode cX12_copy 107 = .ok (.if_icmp .le 10, 3) := by decide +kernel
theorem dX12_copy_110 : decode cX12_copy 110 = .ok (.aload_n 0, 1) := by decide +kernel
theorem dX12_copy_111 : decode cX12_copy 111 = .ok (.ldc 41, 2) := by decide +kernel
theorem dX12_copy_113 : decode cX12_copy 113 = .ok (.invokevirtual 63, 3) := by decide +kernel
theorem dX12_copy_116 : decode cX12_copy 116 = .ok (.ireturn, 1) := by decide +kernel
theorem dX12_copy_117 : decode cX12_copy 117 = .ok (.iconst 0, 1) := by decide +kernel
theorem dX12_copy_118 : decode cX12_copy 118 = .ok (.istore 6, 2) := by decide +kernel
theorem dX12_copy_120 : decode cX12_copy 120 = .ok (.iload 6, 2) := by decide +kernel
theorem dX12_copy_122 : decode cX12_copy 122 = .ok (.iload 5, 2) := by decide +kernel
theorem dX12_copy_124 : decode cX12_copy 124 = .ok (.if_icmp .ge 30, 3) := by decide +kernel
theorem dX12_copy_127 : decode cX12_copy 127 = .ok (.aload_n 0, 1) := by decide +kernel
theorem dX12_copy_128 : decode cX12_copy 128 = .ok (.getfield 38, 3) := by decide +kernel
theorem dX12_copy_131 : decode cX12_copy 131 = .ok (.iload 6, 2) := by decide +kernel
theorem dX12_copy_133 : decode cX12_copy 133 = .ok (.aload_n 0, 1) := by decide +kernel
theorem dX12_copy_134 : decode cX12_copy 134 = .ok (.getfield 34, 3) := by decide +kernel
theorem dX12_copy_137 : decode cX12_copy 137 = .ok (.bipush 40, 2) := by decide +kernel
theorem dX12_copy_139 : decode cX12_copy 139 = .ok (.iload_n 1, 1) := by decide +kernel
theorem dX12_copy_140 : decode cX12_copy 140 = .ok (.imul, 1) := by decide +kernel
theorem dX12_copy_141 : decode cX12_copy 141 = .ok (.iload_n 2, 1) := by decide +kernel
theorem dX12_copy_142 : decode cX12_copy 142 = .ok (.iadd, 1) := by decide +kernel
theorem dX12_copy_143 : decode cX12_copy 143 = .ok (.iload 6, 2) := by decide +kernel
theorem dX12_copy_145 : decode cX12_copy 145 = .ok (.iadd, 1) := by decide +kernel
theorem dX12_copy_146 : decode cX12_copy 146 = .ok (.laload, 1) := by decide +kernel
theorem dX12_copy_147 : decode cX12_copy 147 = .ok (.lastore, 1) := by decide +kernel
theorem dX12_copy_148 : decode cX12_copy 148 = .ok (.iinc 6 1, 3) := by decide +kernel
theorem dX12_copy_151 : decode cX12_copy 151 = .ok (.goto (-31), 3) := by decide +kernel
theorem dX12_copy_154 : decode cX12_copy 154 = .ok (.iconst 0, 1) := by decide +kernel
theorem dX12_copy_155 : decode cX12_copy 155 = .ok (.istore 6, 2) := by decide +kernel
theorem dX12_copy_157 : decode cX12_copy 157 = .ok (.iload 6, 2) := by decide +kernel
theorem dX12_copy_159 : decode cX12_copy 159 = .ok (.iload 5, 2) := by decide +kernel
theorem dX12_copy_161 : decode cX12_copy 161 = .ok (.if_icmp .ge 31, 3) := by decide +kernel
theorem dX12_copy_164 : decode cX12_copy 164 = .ok (.aload_n 0, 1) := by decide +kernel
theorem dX12_copy_165 : decode cX12_copy 165 = .ok (.getfield 34, 3) := by decide +kernel
theorem dX12_copy_168 : decode cX12_copy 168 = .ok (.bipush 40, 2) := by decide +kernel
theorem dX12_copy_170 : decode cX12_copy 170 = .ok (.iload_n 3, 1) := by decide +kernel
theorem dX12_copy_171 : decode cX12_copy 171 = .ok (.imul, 1) := by decide +kernel
theorem dX12_copy_172 : decode cX12_copy 172 = .ok (.iload 4, 2) := by decide +kernel
theorem dX12_copy_174 : decode cX12_copy 174 = .ok (.iadd, 1) := by decide +kernel
theorem dX12_copy_175 : decode cX12_copy 175 = .ok (.iload 6, 2) := by decide +kernel
theorem dX12_copy_177 : decode cX12_copy 177 = .ok (.iadd, 1) := by decide +kernel
theorem dX12_copy_178 : decode cX12_copy 178 = .ok (.aload_n 0, 1) := by decide +kernel
theorem dX12_copy_179 : decode cX12_copy 179 = .ok (.getfield 38, 3) := by decide +kernel
theorem dX12_copy_182 : decode cX12_copy 182 = .ok (.iload 6, 2) := by decide +kernel
theorem dX12_copy_184 : decode cX12_copy 184 = .ok (.laload, 1) := by decide +kernel
theorem dX12_copy_185 : decode cX12_copy 185 = .ok (.lastore, 1) := by decide +kernel
theorem dX12_copy_186 : decode cX12_copy 186 = .ok (.iinc 6 1, 3) := by decide +kernel
theorem dX12_copy_189 : decode cX12_copy 189 = .ok (.goto (-32), 3) := by decide +kernel
theorem dX12_copy_192 : decode cX12_copy 192 = .ok (.iload 5, 2) := by decide +kernel
theorem dX12_copy_194 : decode cX12_copy 194 = .ok (.ireturn, 1) := by decide +kernel
theorem dX12_lays_0 : decode cX12_lays 0 = .ok (.aload_n 0, 1) := by decide +kernel
theorem dX12_lays_1 : decode cX12_lays 1 = .ok (.iload_n 1, 1) := by decide +kernel
theorem dX12_lays_2 : decode cX12_lays 2 = .ok (.invokevirtual 305, 3) := by decide +kernel
theorem dX12_lays_5 : decode cX12_lays 5 = .ok (.istore_n 2, 1) := by decide +kernel
theorem dX12_lays_6 : decode cX12_lays 6 = .ok (.iload_n 2, 1) := by decide +kernel
theorem dX12_lays_7 : decode cX12_lays 7 = .ok (.ifCond .eq 9, 3) := by decide +kernel
theorem dX12_lays_10 : decode cX12_lays 10 = .ok (.aload_n 0, 1) := by decide +kernel
theorem dX12_lays_11 : decode cX12_lays 11 = .ok (.iload_n 2, 1) := by decide +kernel
theorem dX12_lays_12 : decode cX12_lays 12 = .ok (.invokevirtual 63, 3) := by decide +kernel
theorem dX12_lays_15 : decode cX12_lays 15 = .ok (.ireturn, 1) := by decide +kernel
theorem dX12_lays_16 : decode cX12_lays 16 = .ok (.iconst 0, 1) := by decide +kernel
theorem dX12_lays_17 : decode cX12_lays 17 = .ok (.istore_n 3, 1) := by decide +kernel
theorem dX12_lays_18 : decode cX12_lays 18 = .ok (.iconst 0, 1) := by decide +kernel
theorem dX12_lays_19 : decode cX12_lays 19 = .ok (.istore 4, 2) := by decide +kernel
theorem dX12_lays_21 : decode cX12_lays 21 = .ok (.iload 4, 2) := by decide +kernel
theorem dX12_lays_23 : decode cX12_lays 23 = .ok (.aload_n 0, 1) := by decide +kernel
theorem dX12_lays_24 : decode cX12_lays 24 = .ok (.getfield 31, 3) := by decide +kernel
theorem dX12_lays_27 : decode cX12_lays 27 = .ok (.iload_n 1, 1) := by decide +kernel
theorem dX12_lays_28 : decode cX12_lays 28 = .ok (.iaload, 1) := by decide +kernel
theorem dX12_lays_29 : decode cX12_lays 29 = .ok (.if_icmp .ge 89, 3) := by decide +kernel
theorem dX12_lays_32 : decode cX12_lays 32 = .ok (.iload 4, 2) := by decide +kernel
theorem dX12_lays_34 : decode cX12_lays 34 = .ok (.aload_n 0, 1) := by decide +kernel
theorem dX12_lays_35 : decode cX12_lays 35 = .ok (.getfield 7, 3) := by decide +kernel
theorem dX12_lays_38 : decode cX12_lays 38 = .ok (.iconst 1, 1) := by decide +kernel
theorem dX12_lays_39 : decode cX12_lays 39 = .ok (.iaload, 1) := by decide +kernel
theorem dX12_lays_40 : decode cX12_lays 40 = .ok (.if_icmp .ge 78, 3) := by decide +kernel
theorem dX12_lays_43 : decode cX12_lays 43 = .ok (.aload_n 0, 1) := by decide +kernel
theorem dX12_lays_44 : decode cX12_lays 44 = .ok (.getfield 34, 3) := by decide +kernel
theorem dX12_lays_47 : decode cX12_lays 47 = .ok (.bipush 40, 2) := by decide +kernel
theorem dX12_lays_49 : decode cX12_lays 49 = .ok (.iload_n 1, 1) := by decide +kernel
theorem dX12_lays_50 : decode cX12_lays 50 = .ok (.imul, 1) := by decide +kernel
theorem dX12_lays_51 : decode cX12_lays 51 = .ok (.iload 4, 2) := by decide +kernel
theorem dX12_lays_53 : decode cX12_lays 53 = .ok (.iadd, 1) := by decide +kernel
theorem dX12_lays_54 : decode cX12_lays 54 = .ok (.laload, 1) := by decide +kernel
theorem dX12_lays_55 : decode cX12_lays 55 = .ok (.invokestatic 115, 3) := by decide +kernel
theorem dX12_lays_58 : decode cX12_lays 58 = .ok (.istore 5, 2) := by decide +kernel
theorem dX12_lays_60 : decode cX12_lays 60 = .ok (.aload_n 0, 1) := by decide +kernel
theorem dX12_lays_61 : decode cX12_lays 61 = .ok (.getfield 7, 3) := by decide +kernel
theorem dX12_lays_64 : decode cX12_lays 64 = .ok (.iload 4, 2) := by decide +kernel
theorem dX12_lays_66 : decode cX12_lays 66 = .ok (.iconst 1, 1) := by decide +kernel
theorem dX12_lays_67 : decode cX12_lays 67 = .ok (.invokestatic 42, 3) := by decide +kernel
theorem dX12_lays_70 : decode cX12_lays 70 = .ok (.iload 5, 2) := by decide +kernel
theorem dX12_lays_72 : decode cX12_lays 72 = .ok (.ifCond .eq 19, 3) := by decide +kernel
theorem dX12_lays_75 : decode cX12_lays 75 = .ok (.aload_n 0, 1) := by decide +kernel
theorem dX12_lays_76 : decode cX12_lays 76 = .ok (.getfield 34, 3) := by decide +kernel
theorem dX12_lays_79 : decode cX12_lays 79 = .ok (.bipush 40, 2) := by decide +kernel
theorem dX12_lays_81 : decode cX12_lays 81 = .ok (.iload_n 1, 1) := by decide +kernel
theorem dX12_lays_82 : decode cX12_lays 82 = .ok (.imul, 1) := by decide +kernel
theorem dX12_lays_83 : decode cX12_lays 83 = .ok (.iload 4, 2) := by decide +kernel
theorem dX12_lays_85 : decode cX12_lays 85 = .ok (.iadd, 1) := by decide +kernel
theorem dX12_lays_86 : decode cX12_lays 86 = .ok (.laload, 1) := by decide +kernel
theorem dX12_lays_87 : decode cX12_lays 87 = .ok (.l2i, 1) := by decide +kernel
theorem dX12_lays_88 : decode cX12_lays 88 = .ok (.goto 10, 3) := by decide +kernel
theorem dX12_lays_91 : decode cX12_lays 91 = .ok (.aload_n 0, 1) := by decide +kernel
theorem dX12_lays_92 : decode cX12_lays 92 = .ok (.iload 4, 2) := by decide +kernel
theorem dX12_lays_94 : decode cX12_lays 94 = .ok (.iconst 1, 1) := by decide +kernel
theorem dX12_lays_95 : decode cX12_lays 95 = .ok (.invokevirtual 67, 3) := by decide +kernel
theorem dX12_lays_98 : decode cX12_lays 98 = .ok (.iastore, 1) := by decide +kernel
theorem dX12_lays_99 : decode cX12_lays 99 = .ok (.iload_n 3, 1) := by decide +kernel
theorem dX12_lays_100 : decode cX12_lays 100 = .ok (.iload 5, 2) := by decide +kernel
theorem dX12_lays_102 : decode cX12_lays 102 = .ok (.ifCond .eq 7, 3) := by decide +kernel
theorem dX12_lays_105 : decode cX12_lays 105 = .ok (.iconst 1, 1) := by decide +kernel
theorem dX12_lays_106 : decode cX12_lays 106 = .ok (.goto 4, 3) := by decide +kernel
theorem dX12_lays_109 : decode cX12_lays 109 = .ok (.iconst 0, 1) := by decide +kernel
theorem dX12_lays_110 : decode cX12_lays 110 = .ok (.iadd, 1) := by decide +kernel
theorem dX12_lays_111 : decode cX12_lays 111 = .ok (.istore_n 3, 1) := by decide +kernel
theorem dX12_lays_112 : decode cX12_lays 112 = .ok (.iinc 4 1, 3) := by decide +kernel
theorem dX12_lays_115 : decode cX12_lays 115 = .ok (.goto (-94), 3) := by decide +kernel
theorem dX12_lays_118 : decode cX12_lays 118 = .ok (.iload_n 3, 1) := by decide +kernel
theorem dX12_lays_119 : decode cX12_lays 119 = .ok (.ireturn, 1) := by decide +kernel
theorem dX12_book_0 : decode cX12_book 0 = .ok (.aload_n 0, 1) := by decide +kernel
theorem dX12_book_1 : decode cX12_book 1 = .ok (.iload_n 1, 1) := by decide +kernel
theorem dX12_book_2 : decode cX12_book 2 = .ok (.invokevirtual 305, 3) := by decide +kernel
theorem dX12_book_5 : decode cX12_book 5 = .ok (.istore_n 3, 1) := by decide +kernel
theorem dX12_book_6 : decode cX12_book 6 = .ok (.iload_n 3, 1) := by decide +kernel
theorem dX12_book_7 : decode cX12_book 7 = .ok (.ifCond .eq 9, 3) := by decide +kernel
theorem dX12_book_10 : decode cX12_book 10 = .ok (.aload_n 0, 1) := by decide +kernel
theorem dX12_book_11 : decode cX12_book 11 = .ok (.iload_n 3, 1) := by decide +kernel
theorem dX12_book_12 : decode cX12_book 12 = .ok (.invokevirtual 63, 3) := by decide +kernel
theorem dX12_book_15 : decode cX12_book 15 = .ok (.ireturn, 1) := by decide +kernel
theorem dX12_book_16 : decode cX12_book 16 = .ok (.aload_n 0, 1) := by decide +kernel
theorem dX12_book_17 : decode cX12_book 17 = .ok (.iload_n 2, 1) := by decide +kernel
theorem dX12_book_18 : decode cX12_book 18 = .ok (.invokevirtual 103, 3) := by decide +kernel
theorem dX12_book_21 : decode cX12_book 21 = .ok (.ifCond .ne 10, 3) := by decide +kernel
theorem dX12_book_24 : decode cX12_book 24 = .ok (.aload_n 0, 1) := by decide +kernel
theorem dX12_book_25 : decode cX12_book 25 = .ok (.ldc 41, 2) := by decide +kernel
theorem dX12_book_27 : decode cX12_book 27 = .ok (.invokevirtual 63, 3) := by decide +kernel
theorem dX12_book_30 : decode cX12_book 30 = .ok (.ireturn, 1) := by decide +kernel
theorem dX12_book_31 : decode cX12_book 31 = .ok (.aload_n 0, 1) := by decide +kernel
theorem dX12_book_32 : decode cX12_book 32 = .ok (.invokevirtual 168, 3) := by decide +kernel
theorem dX12_book_35 : decode cX12_book 35 = .ok (.iconst 0, 1) := by decide +kernel
theorem dX12_book_36 : decode cX12_book 36 = .ok (.istore 4, 2) := by decide +kernel
theorem dX12_book_38 : decode cX12_book 38 = .ok (.iload 4, 2) := by decide +kernel
theorem dX12_book_40 : decode cX12_book 40 = .ok (.aload_n 0, 1) := by decide +kernel
theorem dX12_book_41 : decode cX12_book 41 = .ok (.getfield 31, 3) := by decide +kernel
theorem dX12_book_44 : decode cX12_book 44 = .ok (.iload_n 1, 1) := by decide +kernel
theorem dX12_book_45 : decode cX12_book 45 = .ok (.iaload, 1) := by decide +kernel
theorem dX12_book_46 : decode cX12_book 46 = .ok (.if_icmp .ge 43, 3) := by decide +kernel
theorem dX12_book_49 : decode cX12_book 49 = .ok (.aload_n 0, 1) := by decide +kernel
theorem dX12_book_50 : decode cX12_book 50 = .ok (.getfield 34, 3) := by decide +kernel
theorem dX12_book_53 : decode cX12_book 53 = .ok (.bipush 40, 2) := by decide +kernel
theorem dX12_book_55 : decode cX12_book 55 = .ok (.iload_n 1, 1) := by decide +kernel
theorem dX12_book_56 : decode cX12_book 56 = .ok (.imul, 1) := by decide +kernel
theorem dX12_book_57 : decode cX12_book 57 = .ok (.iload 4, 2) := by decide +kernel
theorem dX12_book_59 : decode cX12_book 59 = .ok (.iadd, 1) := by decide +kernel
theorem dX12_book_60 : decode cX12_book 60 = .ok (.aload_n 0, 1) := by decide +kernel
theorem dX12_book_61 : decode cX12_book 61 = .ok (.getfield 28, 3) := by decide +kernel
theorem dX12_book_64 : decode cX12_book 64 = .ok (.iload_n 1, 1) := by decide +kernel
theorem dX12_book_65 : decode cX12_book 65 = .ok (.iaload, 1) := by decide +kernel
theorem dX12_book_66 : decode cX12_book 66 = .ok (.aload_n 0, 1) := by decide +kernel
theorem dX12_book_67 : decode cX12_book 67 = .ok (.iload_n 2, 1) := by decide +kernel
theorem dX12_book_68 : decode cX12_book 68 = .ok (.iconst 1, 1) := by decide +kernel
theorem dX12_book_69 : decode cX12_book 69 = .ok (.invokevirtual 67, 3) := by decide +kernel
theorem dX12_book_72 : decode cX12_book 72 = .ok (.i2l, 1) := by decide +kernel
theorem dX12_book_73 : decode cX12_book 73 = .ok (.invokestatic 308, 3) := by decide +kernel
theorem dX12_book_76 : decode cX12_book 76 = .ok (.lastore, 1) := by decide +kernel
theorem dX12_book_77 : decode cX12_book 77 = .ok (.aload_n 0, 1) := by decide +kernel
theorem dX12_book_78 : decode cX12_book 78 = .ok (.iload_n 2, 1) := by decide +kernel
theorem dX12_book_79 : decode cX12_book 79 = .ok (.invokevirtual 134, 3) := by decide +kernel
theorem dX12_book_82 : decode cX12_book 82 = .ok (.pop, 1) := by decide +kernel
theorem dX12_book_83 : decode cX12_book 83 = .ok (.iinc 4 1, 3) := by decide +kernel
theorem dX12_book_86 : decode cX12_book 86 = .ok (.goto (-48), 3) := by decide +kernel
theorem dX12_book_89 : decode cX12_book 89 = .ok (.aload_n 0, 1) := by decide +kernel
theorem dX12_book_90 : decode cX12_book 90 = .ok (.aload_n 0, 1) := by decide +kernel
theorem dX12_book_91 : decode cX12_book 91 = .ok (.getfield 31, 3) := by decide +kernel
theorem dX12_book_94 : decode cX12_book 94 = .ok (.iload_n 1, 1) := by decide +kernel
theorem dX12_book_95 : decode cX12_book 95 = .ok (.iaload, 1) := by decide +kernel
theorem dX12_book_96 : decode cX12_book 96 = .ok (.invokevirtual 171, 3) := by decide +kernel
theorem dX12_book_99 : decode cX12_book 99 = .ok (.ireturn, 1) := by decide +kernel
theorem dX12_isBook_0 : decode cX12_isBook 0 = .ok (.iconst 0, 1) := by decide +kernel
theorem dX12_isBook_1 : decode cX12_isBook 1 = .ok (.istore_n 3, 1) := by decide +kernel
theorem dX12_isBook_2 : decode cX12_isBook 2 = .ok (.iload_n 3, 1) := by decide +kernel
theorem dX12_isBook_3 : decode cX12_isBook 3 = .ok (.aload_n 0, 1) := by decide +kernel
theorem dX12_isBook_4 : decode cX12_isBook 4 = .ok (.getfield 31, 3) := by decide +kernel
theorem dX12_isBook_7 : decode cX12_isBook 7 = .ok (.iload_n 1, 1) := by decide +kernel
theorem dX12_isBook_8 : decode cX12_isBook 8 = .ok (.iaload, 1) := by decide +kernel
theorem dX12_isBook_9 : decode cX12_isBook 9 = .ok (.if_icmp .ge 39, 3) := by decide +kernel
theorem dX12_isBook_12 : decode cX12_isBook 12 = .ok (.aload_n 0, 1) := by decide +kernel
theorem dX12_isBook_13 : decode cX12_isBook 13 = .ok (.getfield 34, 3) := by decide +kernel
theorem dX12_isBook_16 : decode cX12_isBook 16 = .ok (.bipush 40, 2) := by decide +kernel
theorem dX12_isBook_18 : decode cX12_isBook 18 = .ok (.iload_n 1, 1) := by decide +kernel
theorem dX12_isBook_19 : decode cX12_isBook 19 = .ok (.imul, 1) := by decide +kernel
theorem dX12_isBook_20 : decode cX12_isBook 20 = .ok (.iload_n 3, 1) := by decide +kernel
theorem dX12_isBook_21 : decode cX12_isBook 21 = .ok (.iadd, 1) := by decide +kernel
theorem dX12_isBook_22 : decode cX12_isBook 22 = .ok (.laload, 1) := by decide +kernel
theorem dX12_isBook_23 : decode cX12_isBook 23 = .ok (.aload_n 0, 1) := by decide +kernel
theorem dX12_isBook_24 : decode cX12_isBook 24 = .ok (.iload_n 2, 1) := by decide +kernel
theorem dX12_isBook_25 : decode cX12_isBook 25 = .ok (.iconst 1, 1) := by decide +kernel
theorem dX12_isBook_26 : decode cX12_isBook 26 = .ok (.invokevirtual 67, 3) := by decide +kernel
theorem dX12_isBook_29 : decode cX12_isBook 29 = .ok (.i2l, 1) := by decide +kernel
theorem dX12_isBook_30 : decode cX12_isBook 30 = .ok (.lcmp, 1) := by decide +kernel
theorem dX12_isBook_31 : decode cX12_isBook 31 = .ok (.ifCond .eq 5, 3) := by decide +kernel
theorem dX12_isBook_34 : decode cX12_isBook 34 = .ok (.iconst 0, 1) := by decide +kernel
theorem dX12_isBook_35 : decode cX12_isBook 35 = .ok (.ireturn, 1) := by decide +kernel
theorem dX12_isBook_36 : decode cX12_isBook 36 = .ok (.aload_n 0, 1) := by decide +kernel
theorem dX12_isBook_37 : decode cX12_isBook 37 = .ok (.iload_n 2, 1) := by decide +kernel
theorem dX12_isBook_38 : decode cX12_isBook 38 = .ok (.invokevirtual 134, 3) := by decide +kernel
theorem dX12_isBook_41 : decode cX12_isBook 41 = .ok (.pop, 1) := by decide +kernel
theorem dX12_isBook_42 : decode cX12_isBook 42 = .ok (.iinc 3 1, 3) := by decide +kernel
theorem dX12_isBook_45 : decode cX12_isBook 45 = .ok (.goto (-43), 3) := by decide +kernel
theorem dX12_isBook_48 : decode cX12_isBook 48 = .ok (.iconst 1, 1) := by decide +kernel
theorem dX12_isBook_49 : decode cX12_isBook 49 = .ok (.ireturn, 1) := by decide +kernel
theorem dX12_read_0 : decode cX12_read 0 = .ok (.aload_n 0, 1) := by decide +kernel
theorem dX12_read_1 : decode cX12_read 1 = .ok (.iload_n 1, 1) := by decide +kernel
theorem dX12_read_2 : decode cX12_read 2 = .ok (.invokevirtual 305, 3) := by decide +kernel
theorem dX12_read_5 : decode cX12_read 5 = .ok (.istore_n 3, 1) := by decide +kernel
theorem dX12_read_6 : decode cX12_read 6 = .ok (.iload_n 3, 1) := by decide +kernel
theorem dX12_read_7 : decode cX12_read 7 = .ok (.ifCond .eq 9, 3) := by decide +kernel
theorem dX12_read_10 : decode cX12_read 10 = .ok (.aload_n 0, 1) := by decide +kernel
theorem dX12_read_11 : decode cX12_read 11 = .ok (.iload_n 3, 1) := by decide +kernel
theorem dX12_read_12 : decode cX12_read 12 = .ok (.invokevirtual 63, 3) := by decide +kernel
theorem dX12_read_15 : decode cX12_read 15 = .ok (.ireturn, 1) := by decide +kernel
theorem dX12_read_16 : decode cX12_read 16 = .ok (.aload_n 0, 1) := by decide +kernel
theorem dX12_read_17 : decode cX12_read 17 = .ok (.iload_n 2, 1) := by decide +kernel
theorem dX12_read_18 : decode cX12_read 18 = .ok (.invokevirtual 103, 3) := by decide +kernel
theorem dX12_read_21 : decode cX12_read 21 = .ok (.ifCond .ne 10, 3) := by decide +kernel
theorem dX12_read_24 : decode cX12_read 24 = .ok (.aload_n 0, 1) := by decide +kernel
theorem dX12_read_25 : decode cX12_read 25 = .ok (.ldc 41, 2) := by decide +kernel
theorem dX12_read_27 : decode cX12_read 27 = .ok (.invokevirtual 63, 3) := by decide +kernel
theorem dX12_read_30 : decode cX12_read 30 = .ok (.ireturn, 1) := by decide +kernel
theorem dX12_read_31 : decode cX12_read 31 = .ok (.aload_n 0, 1) := by decide +kernel
theorem dX12_read_32 : decode cX12_read 32 = .ok (.invokevirtual 168, 3) := by decide +kernel
theorem dX12_read_35 : decode cX12_read 35 = .ok (.iconst 0, 1) := by decide +kernel
theorem dX12_read_36 : decode cX12_read 36 = .ok (.istore 4, 2) := by decide +kernel
theorem dX12_read_38 : decode cX12_read 38 = .ok (.iconst 0, 1) := by decide +kernel
theorem dX12_read_39 : decode cX12_read 39 = .ok (.istore 5, 2) := by decide +kernel
theorem dX12_read_41 : decode cX12_read 41 = .ok (.iload 5, 2) := by decide +kernel
theorem dX12_read_43 : decode cX12_read 43 = .ok (.sipush 456, 3) := by decide +kernel
theorem dX12_read_46 : decode cX12_read 46 = .ok (.if_icmp .ge 61, 3) := by decide +kernel
theorem dX12_read_49 : decode cX12_read 49 = .ok (.aload_n 0, 1) := by decide +kernel
theorem dX12_read_50 : decode cX12_read 50 = .ok (.getfield 7, 3) := by decide +kernel
theorem dX12_read_53 : decode cX12_read 53 = .ok (.iload_n 2, 1) := by decide +kernel
theorem dX12_read_54 : decode cX12_read 54 = .ok (.iconst 0, 1) := by decide +kernel
theorem dX12_read_55 : decode cX12_read 55 = .ok (.invokestatic 42, 3) := by decide +kernel
theorem dX12_read_58 : decode cX12_read 58 = .ok (.iload 5, 2) := by decide +kernel
theorem dX12_read_60 : decode cX12_read 60 = .ok (.bipush 76, 2) := by decide +kernel
theorem dX12_read_62 : decode cX12_read 62 = .ok (.idiv, 1) := by decide +kernel
theorem dX12_read_63 : decode cX12_read 63 = .ok (.iastore, 1) := by decide +kernel
theorem dX12_read_64 : decode cX12_read 64 = .ok (.aload_n 0, 1) := by decide +kernel
theorem dX12_read_65 : decode cX12_read 65 = .ok (.getfield 7, 3) := by decide +kernel
theorem dX12_read_68 : decode cX12_read 68 = .ok (.iconst 3, 1) := by decide +kernel
theorem dX12_read_69 : decode cX12_read 69 = .ok (.iload 5, 2) := by decide +kernel
theorem dX12_read_71 : decode cX12_read 71 = .ok (.bipush 76, 2) := by decide +kernel
theorem dX12_read_73 : decode cX12_read 73 = .ok (.irem, 1) := by decide +kernel
theorem dX12_read_74 : decode cX12_read 74 = .ok (.bipush 20, 2) := by decide +kernel
theorem dX12_read_76 : decode cX12_read 76 = .ok (.iadd, 1) := by decide +kernel
theorem dX12_read_77 : decode cX12_read 77 = .ok (.iastore, 1) := by decide +kernel
theorem dX12_read_78 : decode cX12_read 78 = .ok (.aload_n 0, 1) := by decide +kernel
theorem dX12_read_79 : decode cX12_read 79 = .ok (.iload 4, 2) := by decide +kernel
theorem dX12_read_81 : decode cX12_read 81 = .ok (.aload_n 0, 1) := by decide +kernel
theorem dX12_read_82 : decode cX12_read 82 = .ok (.iload_n 1, 1) := by decide +kernel
theorem dX12_read_83 : decode cX12_read 83 = .ok (.iload_n 2, 1) := by decide +kernel
theorem dX12_read_84 : decode cX12_read 84 = .ok (.invokevirtual 312, 3) := by decide +kernel
theorem dX12_read_87 : decode cX12_read 87 = .ok (.ifCond .eq 7, 3) := by decide +kernel
theorem dX12_read_90 : decode cX12_read 90 = .ok (.iconst 1, 1) := by decide +kernel
theorem dX12_read_91 : decode cX12_read 91 = .ok (.goto 4, 3) := by decide +kernel
theorem dX12_read_94 : decode cX12_read 94 = .ok (.iconst 0, 1) := by decide +kernel
theorem dX12_read_95 : decode cX12_read 95 = .ok (.iadd, 1) := by decide +kernel
theorem dX12_read_96 : decode cX12_read 96 = .ok (.invokevirtual 171, 3) := by decide +kernel
theorem dX12_read_99 : decode cX12_read 99 = .ok (.istore 4, 2) := by decide +kernel
theorem dX12_read_101 : decode cX12_read 101 = .ok (.iinc 5 1, 3) := by decide +kernel
theorem dX12_read_104 : decode cX12_read 104 = .ok (.goto (-63), 3) := by decide +kernel
theorem dX12_read_107 : decode cX12_read 107 = .ok (.iload 4, 2) := by decide +kernel
theorem dX12_read_109 : decode cX12_read 109 = .ok (.ireturn, 1) := by decide +kernel
theorem dX12_image_0 : decode cX12_image 0 = .ok (.iconst 0, 1) := by decide +kernel
theorem dX12_image_1 : decode cX12_image 1 = .ok (.istore_n 1, 1) := by decide +kernel
theorem dX12_image_2 : decode cX12_image 2 = .ok (.iload_n 1, 1) := by decide +kernel
theorem dX12_image_3 : decode cX12_image 3 = .ok (.bipush 73, 2) := by decide +kernel
theorem dX12_image_5 : decode cX12_image 5 = .ok (.if_icmp .ge 21, 3) := by decide +kernel
theorem dX12_image_8 : decode cX12_image 8 = .ok (.aload_n 0, 1) := by decide +kernel
theorem dX12_image_9 : decode cX12_image 9 = .ok (.getfield 13, 3) := by decide +kernel
theorem dX12_image_12 : decode cX12_image 12 = .ok (.iload_n 1, 1) := by decide +kernel
theorem dX12_image_13 : decode cX12_image 13 = .ok (.aload_n 0, 1) := by decide +kernel
theorem dX12_image_14 : decode cX12_image 14 = .ok (.getfield 7, 3) := by decide +kernel
theorem dX12_image_17 : decode cX12_image 17 = .ok (.iload_n 1, 1) := by decide +kernel
theorem dX12_image_18 : decode cX12_image 18 = .ok (.iaload, 1) := by decide +kernel
theorem dX12_image_19 : decode cX12_image 19 = .ok (.iastore, 1) := by decide +kernel
theorem dX12_image_20 : decode cX12_image 20 = .ok (.iinc 1 1, 3) := by decide +kernel
theorem dX12_image_23 : decode cX12_image 23 = .ok (.goto (-21), 3) := by decide +kernel
theorem dX12_image_26 : decode cX12_image 26 = .ok (.aload_n 0, 1) := by decide +kernel
theorem dX12_image_27 : decode cX12_image 27 = .ok (.iconst 1, 1) := by decide +kernel
theorem dX12_image_28 : decode cX12_image 28 = .ok (.putfield 315, 3) := by decide +kernel
theorem dX12_image_31 : decode cX12_image 31 = .ok (.iconst 1, 1) := by decide +kernel
theorem dX12_image_32 : decode cX12_image 32 = .ok (.ireturn, 1) := by decide +kernel
theorem dX12_undo_0 : decode cX12_undo 0 = .ok (.aload_n 0, 1) := by decide +kernel
theorem dX12_undo_1 : decode cX12_undo 1 = .ok (.getfield 315, 3) := by decide +kernel
theorem dX12_undo_4 : decode cX12_undo 4 = .ok (.ifCond .ne 10, 3) := by decide +kernel
theorem dX12_undo_7 : decode cX12_undo 7 = .ok (.aload_n 0, 1) := by decide +kernel
theorem dX12_undo_8 : decode cX12_undo 8 = .ok (.ldc 187, 2) := by decide +kernel
theorem dX12_undo_10 : decode cX12_undo 10 = .ok (.invokevirtual 63, 3) := by decide +kernel
theorem dX12_undo_13 : decode cX12_undo 13 = .ok (.ireturn, 1) := by decide +kernel
theorem dX12_undo_14 : decode cX12_undo 14 = .ok (.iconst 0, 1) := by decide +kernel
theorem dX12_undo_15 : decode cX12_undo 15 = .ok (.istore_n 1, 1) := by decide +kernel
theorem dX12_undo_16 : decode cX12_undo 16 = .ok (.iload_n 1, 1) := by decide +kernel
theorem dX12_undo_17 : decode cX12_undo 17 = .ok (.bipush 73, 2) := by decide +kernel
theorem dX12_undo_19 : decode cX12_undo 19 = .ok (.if_icmp .ge 21, 3) := by decide +kernel
theorem dX12_undo_22 : decode cX12_undo 22 = .ok (.aload_n 0, 1) := by decide +kernel
theorem dX12_undo_23 : decode cX12_undo 23 = .ok (.getfield 7, 3) := by decide +kernel
theorem dX12_undo_26 : decode cX12_undo 26 = .ok (.iload_n 1, 1) := by decide +kernel
theorem dX12_undo_27 : decode cX12_undo 27 = .ok (.aload_n 0, 1) := by decide +kernel
theorem dX12_undo_28 : decode cX12_undo 28 = .ok (.getfield 13, 3) := by decide +kernel
theorem dX12_undo_31 : decode cX12_undo 31 = .ok (.iload_n 1, 1) := by decide +kernel
theorem dX12_undo_32 : decode cX12_undo 32 = .ok (.iaload, 1) := by decide +kernel
theorem dX12_undo_33 : decode cX12_undo 33 = .ok (.iastore, 1) := by decide +kernel
theorem dX12_undo_34 : decode cX12_undo 34 = .ok (.iinc 1 1, 3) := by decide +kernel
theorem dX12_undo_37 : decode cX12_undo 37 = .ok (.goto (-21), 3) := by decide +kernel
theorem dX12_undo_40 : decode cX12_undo 40 = .ok (.aload_n 0, 1) := by decide +kernel
theorem dX12_undo_41 : decode cX12_undo 41 = .ok (.getfield 7, 3) := by decide +kernel
theorem dX12_undo_44 : decode cX12_undo 44 = .ok (.iconst 1, 1) := by decide +kernel
theorem dX12_undo_45 : decode cX12_undo 45 = .ok (.iaload, 1) := by decide +kernel
theorem dX12_undo_46 : decode cX12_undo 46 = .ok (.ireturn, 1) := by decide +kernel
theorem dX12_tear_0 : decode cX12_tear 0 = .ok (.aload_n 0, 1) := by decide +kernel
theorem dX12_tear_1 : decode cX12_tear 1 = .ok (.getfield 315, 3) := by decide +kernel
theorem dX12_tear_4 : decode cX12_tear 4 = .ok (.ifCond .eq 7, 3) := by decide +kernel
theorem dX12_tear_7 : decode cX12_tear 7 = .ok (.iconst 1, 1) := by decide +kernel
theorem dX12_tear_8 : decode cX12_tear 8 = .ok (.goto 4, 3) := by decide +kernel
theorem dX12_tear_11 : decode cX12_tear 11 = .ok (.iconst 0, 1) := by decide +kernel
theorem dX12_tear_12 : decode cX12_tear 12 = .ok (.istore_n 1, 1) := by decide +kernel
theorem dX12_tear_13 : decode cX12_tear 13 = .ok (.aload_n 0, 1) := by decide +kernel
theorem dX12_tear_14 : decode cX12_tear 14 = .ok (.iconst 0, 1) := by decide +kernel
theorem dX12_tear_15 : decode cX12_tear 15 = .ok (.putfield 315, 3) := by decide +kernel
theorem dX12_tear_18 : decode cX12_tear 18 = .ok (.iload_n 1, 1) := by decide +kernel
theorem dX12_tear_19 : decode cX12_tear 19 = .ok (.ireturn, 1) := by decide +kernel
theorem dX12_holes_0 : decode cX12_holes 0 = .ok (.iconst 0, 1) := by decide +kernel
theorem dX12_holes_1 : decode cX12_holes 1 = .ok (.istore_n 1, 1) := by decide +kernel
theorem dX12_holes_2 : decode cX12_holes 2 = .ok (.iconst 0, 1) := by decide +kernel
theorem dX12_holes_3 : decode cX12_holes 3 = .ok (.istore_n 2, 1) := by decide +kernel
theorem dX12_holes_4 : decode cX12_holes 4 = .ok (.iload_n 2, 1) := by decide +kernel
theorem dX12_holes_5 : decode cX12_holes 5 = .ok (.aload_n 0, 1) := by decide +kernel
theorem dX12_holes_6 : decode cX12_holes 6 = .ok (.getfield 7, 3) := by decide +kernel
theorem dX12_holes_9 : decode cX12_holes 9 = .ok (.iconst 1, 1) := by decide +kernel
theorem dX12_holes_10 : decode cX12_holes 10 = .ok (.iaload, 1) := by decide +kernel
theorem dX12_holes_11 : decode cX12_holes 11 = .ok (.if_icmp .ge 19, 3) := by decide +kernel
theorem dX12_holes_14 : decode cX12_holes 14 = .ok (.iload_n 1, 1) := by decide +kernel
theorem dX12_holes_15 : decode cX12_holes 15 = .ok (.aload_n 0, 1) := by decide +kernel
theorem dX12_holes_16 : decode cX12_holes 16 = .ok (.iload_n 2, 1) := by decide +kernel
theorem dX12_holes_17 : decode cX12_holes 17 = .ok (.bipush 6, 2) := by decide +kernel
theorem dX12_holes_19 : decode cX12_holes 19 = .ok (.invokevirtual 67, 3) := by decide +kernel
theorem dX12_holes_22 : decode cX12_holes 22 = .ok (.iadd, 1) := by decide +kernel
theorem dX12_holes_23 : decode cX12_holes 23 = .ok (.istore_n 1, 1) := by decide +kernel
theorem dX12_holes_24 : decode cX12_holes 24 = .ok (.iinc 2 1, 3) := by decide +kernel
theorem dX12_holes_27 : decode cX12_holes 27 = .ok (.goto (-23), 3) := by decide +kernel
theorem dX12_holes_30 : decode cX12_holes 30 = .ok (.iload_n 1, 1) := by decide +kernel
theorem dX12_holes_31 : decode cX12_holes 31 = .ok (.ireturn, 1) := by decide +kernel
theorem dX12_count_0 : decode cX12_count 0 = .ok (.iload_n 1, 1) := by decide +kernel
theorem dX12_count_1 : decode cX12_count 1 = .ok (.tableswitch 55 0 3 #[31, 38, 45, 50], 31) := by decide +kernel
theorem dX12_count_32 : decode cX12_count 32 = .ok (.aload_n 0, 1) := by decide +kernel
theorem dX12_count_33 : decode cX12_count 33 = .ok (.getfield 7, 3) := by decide +kernel
theorem dX12_count_36 : decode cX12_count 36 = .ok (.iconst 1, 1) := by decide +kernel
theorem dX12_count_37 : decode cX12_count 37 = .ok (.iaload, 1) := by decide +kernel
theorem dX12_count_38 : decode cX12_count 38 = .ok (.ireturn, 1) := by decide +kernel
theorem dX12_count_39 : decode cX12_count 39 = .ok (.aload_n 0, 1) := by decide +kernel
theorem dX12_count_40 : decode cX12_count 40 = .ok (.getfield 7, 3) := by decide +kernel
theorem dX12_count_43 : decode cX12_count 43 = .ok (.iconst 2, 1) := by decide +kernel
theorem dX12_count_44 : decode cX12_count 44 = .ok (.iaload, 1) := by decide +kernel
theorem dX12_count_45 : decode cX12_count 45 = .ok (.ireturn, 1) := by decide +kernel
theorem dX12_count_46 : decode cX12_count 46 = .ok (.aload_n 0, 1) := by decide +kernel
theorem dX12_count_47 : decode cX12_count 47 = .ok (.getfield 193, 3) := by decide +kernel
theorem dX12_count_50 : decode cX12_count 50 = .ok (.ireturn, 1) := by decide +kernel
theorem dX12_count_51 : decode cX12_count 51 = .ok (.aload_n 0, 1) := by decide +kernel
theorem dX12_count_52 : decode cX12_count 52 = .ok (.invokevirtual 318, 3) := by decide +kernel
theorem dX12_count_55 : decode cX12_count 55 = .ok (.ireturn, 1) := by decide +kernel
theorem dX12_count_56 : decode cX12_count 56 = .ok (.aload_n 0, 1) := by decide +kernel
theorem dX12_count_57 : decode cX12_count 57 = .ok (.ldc 41, 2) := by decide +kernel
theorem dX12_count_59 : decode cX12_count 59 = .ok (.invokevirtual 63, 3) := by decide +kernel
theorem dX12_count_62 : decode cX12_count 62 = .ok (.ireturn, 1) := by decide +kernel
theorem dX12_status_0 : decode cX12_status 0 = .ok (.iload_n 1, 1) := by decide +kernel
theorem dX12_status_1 : decode cX12_status 1 = .ok (.i2l, 1) := by decide +kernel
theorem dX12_status_2 : decode cX12_status 2 = .ok (.ldc2_w 321, 3) := by decide +kernel
theorem dX12_status_5 : decode cX12_status 5 = .ok (.ldc2_w 323, 3) := by decide +kernel
theorem dX12_status_8 : decode cX12_status 8 = .ok (.invokestatic 46, 3) := by decide +kernel
theorem dX12_status_11 : decode cX12_status 11 = .ok (.ifCond .ne 10, 3) := by decide +kernel
theorem dX12_status_14 : decode cX12_status 14 = .ok (.aload_n 0, 1) := by decide +kernel
theorem dX12_status_15 : decode cX12_status 15 = .ok (.ldc 41, 2) := by decide +kernel
theorem dX12_status_17 : decode cX12_status 17 = .ok (.invokevirtual 63, 3) := by decide +kernel
theorem dX12_status_20 : decode cX12_status 20 = .ok (.ireturn, 1) := by decide +kernel
theorem dX12_status_21 : decode cX12_status 21 = .ok (.iconst 0, 1) := by decide +kernel
theorem dX12_status_22 : decode cX12_status 22 = .ok (.istore_n 2, 1) := by decide +kernel
theorem dX12_status_23 : decode cX12_status 23 = .ok (.iconst 0, 1) := by decide +kernel
theorem dX12_status_24 : decode cX12_status 24 = .ok (.istore_n 3, 1) := by decide +kernel
theorem dX12_status_25 : decode cX12_status 25 = .ok (.iload_n 3, 1) := by decide +kernel
theorem dX12_status_26 : decode cX12_status 26 = .ok (.bipush 7, 2) := by decide +kernel
theorem dX12_status_28 : decode cX12_status 28 = .ok (.if_icmp .ge 31, 3) := by decide +kernel
theorem dX12_status_31 : decode cX12_status 31 = .ok (.iload_n 2, 1) := by decide +kernel
theorem dX12_status_32 : decode cX12_status 32 = .ok (.iload_n 1, 1) := by decide +kernel
theorem dX12_status_33 : decode cX12_status 33 = .ok (.ifCond .lt 8, 3) := by decide +kernel
theorem dX12_status_36 : decode cX12_status 36 = .ok (.iload_n 3, 1) := by decide +kernel
theorem dX12_status_37 : decode cX12_status 37 = .ok (.iload_n 1, 1) := by decide +kernel
theorem dX12_status_38 : decode cX12_status 38 = .ok (.if_icmp .ne 12, 3) := by decide +kernel
theorem dX12_status_41 : decode cX12_status 41 = .ok (.aload_n 0, 1) := by decide +kernel
theorem dX12_status_42 : decode cX12_status 42 = .ok (.getfield 22, 3) := by decide +kernel
theorem dX12_status_45 : decode cX12_status 45 = .ok (.iload_n 3, 1) := by decide +kernel
theorem dX12_status_46 : decode cX12_status 46 = .ok (.iaload, 1) := by decide +kernel
theorem dX12_status_47 : decode cX12_status 47 = .ok (.goto 4, 3) := by decide +kernel
theorem dX12_status_50 : decode cX12_status 50 = .ok (.iconst 0, 1) := by decide +kernel
theorem dX12_status_51 : decode cX12_status 51 = .ok (.iadd, 1) := by decide +kernel
theorem dX12_status_52 : decode cX12_status 52 = .ok (.istore_n 2, 1) := by decide +kernel
theorem dX12_status_53 : decode cX12_status 53 = .ok (.iinc 3 1, 3) := by decide +kernel
theorem dX12_status_56 : decode cX12_status 56 = .ok (.goto (-31), 3) := by decide +kernel
theorem dX12_status_59 : decode cX12_status 59 = .ok (.iload_n 2, 1) := by decide +kernel
theorem dX12_status_60 : decode cX12_status 60 = .ok (.ireturn, 1) := by decide +kernel
end
section
theorem dL_law_0 : decode cL_law 0 = .ok (.new 7, 3) := by decide +kernel
theorem dL_law_3 : decode cL_law 3 = .ok (.dup, 1) := by decide +kernel
theorem dL_law_4 : decode cL_law 4 = .ok (.invokespecial 9, 3) := by decide +kernel
theorem dL_law_7 : decode cL_law 7 = .ok (.astore_n 1, 1) := by decide +kernel
theorem dL_law_8 : decode cL_law 8 = .ok (.new 10, 3) := by decide +kernel
theorem dL_law_11 : decode cL_law 11 = .ok (.dup, 1) := by decide +kernel
theorem dL_law_12 : decode cL_law 12 = .ok (.invokespecial 12, 3) := by decide +kernel
theorem dL_law_15 : decode cL_law 15 = .ok (.astore_n 2, 1) := by decide +kernel
theorem dL_law_16 : decode cL_law 16 = .ok (.iconst 0, 1) := by decide +kernel
theorem dL_law_17 : decode cL_law 17 = .ok (.istore_n 3, 1) := by decide +kernel
theorem dL_law_18 : decode cL_law 18 = .ok (.iload_n 3, 1) := by decide +kernel
theorem dL_law_19 : decode cL_law 19 = .ok (.aload_n 0, 1) := by decide +kernel
theorem dL_law_20 : decode cL_law 20 = .ok (.arraylength, 1) := by decide +kernel
theorem dL_law_21 : decode cL_law 21 = .ok (.bipush 6, 2) := by decide +kernel
theorem dL_law_23 : decode cL_law 23 = .ok (.isub, 1) := by decide +kernel
theorem dL_law_24 : decode cL_law 24 = .ok (.if_icmp .gt 1236, 3) := by decide +kernel
theorem dL_law_27 : decode cL_law 27 = .ok (.aload_n 0, 1) := by decide +kernel
theorem dL_law_28 : decode cL_law 28 = .ok (.iload_n 3, 1) := by decide +kernel
theorem dL_law_29 : decode cL_law 29 = .ok (.iaload, 1) := by decide +kernel
theorem dL_law_30 : decode cL_law 30 = .ok (.bipush 63, 2) := by decide +kernel
theorem dL_law_32 : decode cL_law 32 = .ok (.iand, 1) := by decide +kernel
theorem dL_law_33 : decode cL_law 33 = .ok (.tableswitch 1221 0 34 #[155, 188, 211, 234, 267, 310, 333, 366, 399, 432, 465, 498, 521, 544, 587, 630, 663, 696, 729, 762, 785, 808, 841, 854, 867, 910, 984, 1047, 1070, 1103, 1136, 1149, 1162, 1175, 1198], 155) := by decide +kernel
theorem dL_law_188 : decode cL_law 188 = .ok (.aload_n 1, 1) := by decide +kernel
theorem dL_law_189 : decode cL_law 189 = .ok (.aload_n 0, 1) := by decide +kernel
theorem dL_law_190 : decode cL_law 190 = .ok (.iload_n 3, 1) := by decide +kernel
theorem dL_law_191 : decode cL_law 191 = .ok (.iconst 1, 1) := by decide +kernel
theorem dL_law_192 : decode cL_law 192 = .ok (.iadd, 1) := by decide +kernel
theorem dL_law_193 : decode cL_law 193 = .ok (.iaload, 1) := by decide +kernel
theorem dL_law_194 : decode cL_law 194 = .ok (.aload_n 0, 1) := by decide +kernel
theorem dL_law_195 : decode cL_law 195 = .ok (.iload_n 3, 1) := by decide +kernel
theorem dL_law_196 : decode cL_law 196 = .ok (.iconst 2, 1) := by decide +kernel
theorem dL_law_197 : decode cL_law 197 = .ok (.iadd, 1) := by decide +kernel
theorem dL_law_198 : decode cL_law 198 = .ok (.iaload, 1) := by decide +kernel
theorem dL_law_199 : decode cL_law 199 = .ok (.invokevirtual 13, 3) := by decide +kernel
theorem dL_law_202 : decode cL_law 202 = .ok (.aload_n 2, 1) := by decide +kernel
theorem dL_law_203 : decode cL_law 203 = .ok (.aload_n 0, 1) := by decide +kernel
theorem dL_law_204 : decode cL_law 204 = .ok (.iload_n 3, 1) := by decide +kernel
theorem dL_law_205 : decode cL_law 205 = .ok (.iconst 1, 1) := by decide +kernel
theorem dL_law_206 : decode cL_law 206 = .ok (.iadd, 1) := by decide +kernel
theorem dL_law_207 : decode cL_law 207 = .ok (.iaload, 1) := by decide +kernel
theorem dL_law_208 : decode cL_law 208 = .ok (.aload_n 0, 1) := by decide +kernel
theorem dL_law_209 : decode cL_law 209 = .ok (.iload_n 3, 1) := by decide +kernel
theorem dL_law_210 : decode cL_law 210 = .ok (.iconst 2, 1) := by decide +kernel
theorem dL_law_211 : decode cL_law 211 = .ok (.iadd, 1) := by decide +kernel
theorem dL_law_212 : decode cL_law 212 = .ok (.iaload, 1) := by decide +kernel
theorem dL_law_213 : decode cL_law 213 = .ok (.invokevirtual 17, 3) := by decide +kernel
theorem dL_law_216 : decode cL_law 216 = .ok (.if_icmp .eq 1038, 3) := by decide +kernel
theorem dL_law_219 : decode cL_law 219 = .ok (.iconst 0, 1) := by decide +kernel
theorem dL_law_220 : decode cL_law 220 = .ok (.ireturn, 1) := by decide +kernel
theorem dL_law_221 : decode cL_law 221 = .ok (.aload_n 1, 1) := by decide +kernel
theorem dL_law_222 : decode cL_law 222 = .ok (.aload_n 0, 1) := by decide +kernel
theorem dL_law_223 : decode cL_law 223 = .ok (.iload_n 3, 1) := by decide +kernel
theorem dL_law_224 : decode cL_law 224 = .ok (.iconst 1, 1) := by decide +kernel
theorem dL_law_225 : decode cL_law 225 = .ok (.iadd, 1) := by decide +kernel
theorem dL_law_226 : decode cL_law 226 = .ok (.iaload, 1) := by decide +kernel
theorem dL_law_227 : decode cL_law 227 = .ok (.invokevirtual 18, 3) := by decide +kernel
theorem dL_law_230 : decode cL_law 230 = .ok (.aload_n 2, 1) := by decide +kernel
theorem dL_law_231 : decode cL_law 231 = .ok (.aload_n 0, 1) := by decide +kernel
theorem dL_law_232 : decode cL_law 232 = .ok (.iload_n 3, 1) := by decide +kernel
theorem dL_law_233 : decode cL_law 233 = .ok (.iconst 1, 1) := by decide +kernel
theorem dL_law_234 : decode cL_law 234 = .ok (.iadd, 1) := by decide +kernel
theorem dL_law_235 : decode cL_law 235 = .ok (.iaload, 1) := by decide +kernel
theorem dL_law_236 : decode cL_law 236 = .ok (.invokevirtual 22, 3) := by decide +kernel
theorem dL_law_239 : decode cL_law 239 = .ok (.if_icmp .eq 1015, 3) := by decide +kernel
theorem dL_law_242 : decode cL_law 242 = .ok (.iconst 0, 1) := by decide +kernel
theorem dL_law_243 : decode cL_law 243 = .ok (.ireturn, 1) := by decide +kernel
theorem dL_law_244 : decode cL_law 244 = .ok (.aload_n 1, 1) := by decide +kernel
theorem dL_law_245 : decode cL_law 245 = .ok (.aload_n 0, 1) := by decide +kernel
theorem dL_law_246 : decode cL_law 246 = .ok (.iload_n 3, 1) := by decide +kernel
theorem dL_law_247 : decode cL_law 247 = .ok (.iconst 1, 1) := by decide +kernel
theorem dL_law_248 : decode cL_law 248 = .ok (.iadd, 1) := by decide +kernel
theorem dL_law_249 : decode cL_law 249 = .ok (.iaload, 1) := by decide +kernel
theorem dL_law_250 : decode cL_law 250 = .ok (.invokevirtual 23, 3) := by decide +kernel
theorem dL_law_253 : decode cL_law 253 = .ok (.aload_n 2, 1) := by decide +kernel
theorem dL_law_254 : decode cL_law 254 = .ok (.aload_n 0, 1) := by decide +kernel
theorem dL_law_255 : decode cL_law 255 = .ok (.iload_n 3, 1) := by decide +kernel
theorem dL_law_256 : decode cL_law 256 = .ok (.iconst 1, 1) := by decide +kernel
theorem dL_law_257 : decode cL_law 257 = .ok (.iadd, 1) := by decide +kernel
theorem dL_law_258 : decode cL_law 258 = .ok (.iaload, 1) := by decide +kernel
theorem dL_law_259 : decode cL_law 259 = .ok (.invokevirtual 26, 3) := by decide +kernel
theorem dL_law_262 : decode cL_law 262 = .ok (.if_icmp .eq 992, 3) := by decide +kernel
theorem dL_law_265 : decode cL_law 265 = .ok (.iconst 0, 1) := by decide +kernel
theorem dL_law_266 : decode cL_law 266 = .ok (.ireturn, 1) := by decide +kernel
theorem dL_law_267 : decode cL_law 267 = .ok (.aload_n 1, 1) := by decide +kernel
theorem dL_law_268 : decode cL_law 268 = .ok (.aload_n 0, 1) := by decide +kernel
theorem dL_law_269 : decode cL_law 269 = .ok (.iload_n 3, 1) := by decide +kernel
theorem dL_law_270 : decode cL_law 270 = .ok (.iconst 1, 1) := by decide +kernel
theorem dL_law_271 : decode cL_law 271 = .ok (.iadd, 1) := by decide +kernel
theorem dL_law_272 : decode cL_law 272 = .ok (.iaload, 1) := by decide +kernel
theorem dL_law_273 : decode cL_law 273 = .ok (.aload_n 0, 1) := by decide +kernel
theorem dL_law_274 : decode cL_law 274 = .ok (.iload_n 3, 1) := by decide +kernel
theorem dL_law_275 : decode cL_law 275 = .ok (.iconst 2, 1) := by decide +kernel
theorem dL_law_276 : decode cL_law 276 = .ok (.iadd, 1) := by decide +kernel
theorem dL_law_277 : decode cL_law 277 = .ok (.iaload, 1) := by decide +kernel
theorem dL_law_278 : decode cL_law 278 = .ok (.invokevirtual 27, 3) := by decide +kernel
theorem dL_law_281 : decode cL_law 281 = .ok (.aload_n 2, 1) := by decide +kernel
theorem dL_law_282 : decode cL_law 282 = .ok (.aload_n 0, 1) := by decide +kernel
theorem dL_law_283 : decode cL_law 283 = .ok (.iload_n 3, 1) := by decide +kernel
theorem dL_law_284 : decode cL_law 284 = .ok (.iconst 1, 1) := by decide +kernel
theorem dL_law_285 : decode cL_law 285 = .ok (.iadd, 1) := by decide +kernel
theorem dL_law_286 : decode cL_law 286 = .ok (.iaload, 1) := by decide +kernel
theorem dL_law_287 : decode cL_law 287 = .ok (.aload_n 0, 1) := by decide +kernel
theorem dL_law_288 : decode cL_law 288 = .ok (.iload_n 3, 1) := by decide +kernel
theorem dL_law_289 : decode cL_law 289 = .ok (.iconst 2, 1) := by decide +kernel
theorem dL_law_290 : decode cL_law 290 = .ok (.iadd, 1) := by decide +kernel
theorem dL_law_291 : decode cL_law 291 = .ok (.iaload, 1) := by decide +kernel
theorem dL_law_292 : decode cL_law 292 = .ok (.invokevirtual 30, 3) := by decide +kernel
theorem dL_law_295 : decode cL_law 295 = .ok (.if_icmp .eq 959, 3) := by decide +kernel
theorem dL_law_298 : decode cL_law 298 = .ok (.iconst 0, 1) := by decide +kernel
theorem dL_law_299 : decode cL_law 299 = .ok (.ireturn, 1) := by decide +kernel
theorem dL_law_300 : decode cL_law 300 = .ok (.aload_n 1, 1) := by decide +kernel
theorem dL_law_301 : decode cL_law 301 = .ok (.aload_n 0, 1) := by decide +kernel
theorem dL_law_302 : decode cL_law 302 = .ok (.iload_n 3, 1) := by decide +kernel
theorem dL_law_303 : decode cL_law 303 = .ok (.iconst 1, 1) := by decide +kernel
theorem dL_law_304 : decode cL_law 304 = .ok (.iadd, 1) := by decide +kernel
theorem dL_law_305 : decode cL_law 305 = .ok (.iaload, 1) := by decide +kernel
theorem dL_law_306 : decode cL_law 306 = .ok (.aload_n 0, 1) := by decide +kernel
theorem dL_law_307 : decode cL_law 307 = .ok (.iload_n 3, 1) := by decide +kernel
theorem dL_law_308 : decode cL_law 308 = .ok (.iconst 2, 1) := by decide +kernel
theorem dL_law_309 : decode cL_law 309 = .ok (.iadd, 1) := by decide +kernel
theorem dL_law_310 : decode cL_law 310 = .ok (.iaload, 1) := by decide +kernel
theorem dL_law_311 : decode cL_law 311 = .ok (.aload_n 0, 1) := by decide +kernel
theorem dL_law_312 : decode cL_law 312 = .ok (.iload_n 3, 1) := by decide +kernel
theorem dL_law_313 : decode cL_law 313 = .ok (.iconst 3, 1) := by decide +kernel
theorem dL_law_314 : decode cL_law 314 = .ok (.iadd, 1) := by decide +kernel
theorem dL_law_315 : decode cL_law 315 = .ok (.iaload, 1) := by decide +kernel
theorem dL_law_316 : decode cL_law 316 = .ok (.invokevirtual 31, 3) := by decide +kernel
theorem dL_law_319 : decode cL_law 319 = .ok (.aload_n 2, 1) := by decide +kernel
theorem dL_law_320 : decode cL_law 320 = .ok (.aload_n 0, 1) := by decide +kernel
theorem dL_law_321 : decode cL_law 321 = .ok (.iload_n 3, 1) := by decide +kernel
theorem dL_law_322 : decode cL_law 322 = .ok (.iconst 1, 1) := by decide +kernel
theorem dL_law_323 : decode cL_law 323 = .ok (.iadd, 1) := by decide +kernel
theorem dL_law_324 : decode cL_law 324 = .ok (.iaload, 1) := by decide +kernel
theorem dL_law_325 : decode cL_law 325 = .ok (.aload_n 0, 1) := by decide +kernel
theorem dL_law_326 : decode cL_law 326 = .ok (.iload_n 3, 1) := by decide +kernel
theorem dL_law_327 : decode cL_law 327 = .ok (.iconst 2, 1) := by decide +kernel
theorem dL_law_328 : decode cL_law 328 = .ok (.iadd, 1) := by decide +kernel
theorem dL_law_329 : decode cL_law 329 = .ok (.iaload, 1) := by decide +kernel
theorem dL_law_330 : decode cL_law 330 = .ok (.aload_n 0, 1) := by decide +kernel
theorem dL_law_331 : decode cL_law 331 = .ok (.iload_n 3, 1) := by decide +kernel
theorem dL_law_332 : decode cL_law 332 = .ok (.iconst 3, 1) := by decide +kernel
theorem dL_law_333 : decode cL_law 333 = .ok (.iadd, 1) := by decide +kernel
theorem dL_law_334 : decode cL_law 334 = .ok (.iaload, 1) := by decide +kernel
theorem dL_law_335 : decode cL_law 335 = .ok (.invokevirtual 35, 3) := by decide +kernel
theorem dL_law_338 : decode cL_law 338 = .ok (.if_icmp .eq 916, 3) := by decide +kernel
theorem dL_law_341 : decode cL_law 341 = .ok (.iconst 0, 1) := by decide +kernel
theorem dL_law_342 : decode cL_law 342 = .ok (.ireturn, 1) := by decide +kernel
theorem dL_law_343 : decode cL_law 343 = .ok (.aload_n 1, 1) := by decide +kernel
theorem dL_law_344 : decode cL_law 344 = .ok (.aload_n 0, 1) := by decide +kernel
theorem dL_law_345 : decode cL_law 345 = .ok (.iload_n 3, 1) := by decide +kernel
theorem dL_law_346 : decode cL_law 346 = .ok (.iconst 1, 1) := by decide +kernel
theorem dL_law_347 : decode cL_law 347 = .ok (.iadd, 1) := by decide +kernel
theorem dL_law_348 : decode cL_law 348 = .ok (.iaload, 1) := by decide +kernel
theorem dL_law_349 : decode cL_law 349 = .ok (.invokevirtual 36, 3) := by decide +kernel
theorem dL_law_352 : decode cL_law 352 = .ok (.aload_n 2, 1) := by decide +kernel
theorem dL_law_353 : decode cL_law 353 = .ok (.aload_n 0, 1) := by decide +kernel
theorem dL_law_354 : decode cL_law 354 = .ok (.iload_n 3, 1) := by decide +kernel
theorem dL_law_355 : decode cL_law 355 = .ok (.iconst 1, 1) := by decide +kernel
theorem dL_law_356 : decode cL_law 356 = .ok (.iadd, 1) := by decide +kernel
theorem dL_law_357 : decode cL_law 357 = .ok (.iaload, 1) := by decide +kernel
theorem dL_law_358 : decode cL_law 358 = .ok (.invokevirtual 39, 3) := by decide +kernel
theorem dL_law_361 : decode cL_law 361 = .ok (.if_icmp .eq 893, 3) := by decide +kernel
theorem dL_law_364 : decode cL_law 364 = .ok (.iconst 0, 1) := by decide +kernel
theorem dL_law_365 : decode cL_law 365 = .ok (.ireturn, 1) := by decide +kernel
theorem dL_law_366 : decode cL_law 366 = .ok (.aload_n 1, 1) := by decide +kernel
theorem dL_law_367 : decode cL_law 367 = .ok (.aload_n 0, 1) := by decide +kernel
theorem dL_law_368 : decode cL_law 368 = .ok (.iload_n 3, 1) := by decide +kernel
theorem dL_law_369 : decode cL_law 369 = .ok (.iconst 1, 1) := by decide +kernel
theorem dL_law_370 : decode cL_law 370 = .ok (.iadd, 1) := by decide +kernel
theorem dL_law_371 : decode cL_law 371 = .ok (.iaload, 1) := by decide +kernel
theorem dL_law_372 : decode cL_law 372 = .ok (.aload_n 0, 1) := by decide +kernel
theorem dL_law_373 : decode cL_law 373 = .ok (.iload_n 3, 1) := by decide +kernel
theorem dL_law_374 : decode cL_law 374 = .ok (.iconst 2, 1) := by decide +kernel
theorem dL_law_375 : decode cL_law 375 = .ok (.iadd, 1) := by decide +kernel
theorem dL_law_376 : decode cL_law 376 = .ok (.iaload, 1) := by decide +kernel
theorem dL_law_377 : decode cL_law 377 = .ok (.invokevirtual 40, 3) := by decide +kernel
theorem dL_law_380 : decode cL_law 380 = .ok (.aload_n 2, 1) := by decide +kernel
theorem dL_law_381 : decode cL_law 381 = .ok (.aload_n 0, 1) := by decide +kernel
theorem dL_law_382 : decode cL_law 382 = .ok (.iload_n 3, 1) := by decide +kernel
theorem dL_law_383 : decode cL_law 383 = .ok (.iconst 1, 1) := by decide +kernel
theorem dL_law_384 : decode cL_law 384 = .ok (.iadd, 1) := by decide +kernel
theorem dL_law_385 : decode cL_law 385 = .ok (.iaload, 1) := by decide +kernel
theorem dL_law_386 : decode cL_law 386 = .ok (.aload_n 0, 1) := by decide +kernel
theorem dL_law_387 : decode cL_law 387 = .ok (.iload_n 3, 1) := by decide +kernel
theorem dL_law_388 : decode cL_law 388 = .ok (.iconst 2, 1) := by decide +kernel
theorem dL_law_389 : decode cL_law 389 = .ok (.iadd, 1) := by decide +kernel
theorem dL_law_390 : decode cL_law 390 = .ok (.iaload, 1) := by decide +kernel
theorem dL_law_391 : decode cL_law 391 = .ok (.invokevirtual 43, 3) := by decide +kernel
theorem dL_law_394 : decode cL_law 394 = .ok (.if_icmp .eq 860, 3) := by decide +kernel
theorem dL_law_397 : decode cL_law 397 = .ok (.iconst 0, 1) := by decide +kernel
theorem dL_law_398 : decode cL_law 398 = .ok (.ireturn, 1) := by decide +kernel
theorem dL_law_399 : decode cL_law 399 = .ok (.aload_n 1, 1) := by decide +kernel
theorem dL_law_400 : decode cL_law 400 = .ok (.aload_n 0, 1) := by decide +kernel
theorem dL_law_401 : decode cL_law 401 = .ok (.iload_n 3, 1) := by decide +kernel
theorem dL_law_402 : decode cL_law 402 = .ok (.iconst 1, 1) := by decide +kernel
theorem dL_law_403 : decode cL_law 403 = .ok (.iadd, 1) := by decide +kernel
theorem dL_law_404 : decode cL_law 404 = .ok (.iaload, 1) := by decide +kernel
theorem dL_law_405 : decode cL_law 405 = .ok (.aload_n 0, 1) := by decide +kernel
theorem dL_law_406 : decode cL_law 406 = .ok (.iload_n 3, 1) := by decide +kernel
theorem dL_law_407 : decode cL_law 407 = .ok (.iconst 2, 1) := by decide +kernel
theorem dL_law_408 : decode cL_law 408 = .ok (.iadd, 1) := by decide +kernel
theorem dL_law_409 : decode cL_law 409 = .ok (.iaload, 1) := by decide +kernel
theorem dL_law_410 : decode cL_law 410 = .ok (.invokevirtual 44, 3) := by decide +kernel
theorem dL_law_413 : decode cL_law 413 = .ok (.aload_n 2, 1) := by decide +kernel
theorem dL_law_414 : decode cL_law 414 = .ok (.aload_n 0, 1) := by decide +kernel
theorem dL_law_415 : decode cL_law 415 = .ok (.iload_n 3, 1) := by decide +kernel
theorem dL_law_416 : decode cL_law 416 = .ok (.iconst 1, 1) := by decide +kernel
theorem dL_law_417 : decode cL_law 417 = .ok (.iadd, 1) := by decide +kernel
theorem dL_law_418 : decode cL_law 418 = .ok (.iaload, 1) := by decide +kernel
theorem dL_law_419 : decode cL_law 419 = .ok (.aload_n 0, 1) := by decide +kernel
theorem dL_law_420 : decode cL_law 420 = .ok (.iload_n 3, 1) := by decide +kernel
theorem dL_law_421 : decode cL_law 421 = .ok (.iconst 2, 1) := by decide +kernel
theorem dL_law_422 : decode cL_law 422 = .ok (.iadd, 1) := by decide +kernel
theorem dL_law_423 : decode cL_law 423 = .ok (.iaload, 1) := by decide +kernel
theorem dL_law_424 : decode cL_law 424 = .ok (.invokevirtual 47, 3) := by decide +kernel
theorem dL_law_427 : decode cL_law 427 = .ok (.if_icmp .eq 827, 3) := by decide +kernel
theorem dL_law_430 : decode cL_law 430 = .ok (.iconst 0, 1) := by decide +kernel
theorem dL_law_431 : decode cL_law 431 = .ok (.ireturn, 1) := by decide +kernel
theorem dL_law_432 : decode cL_law 432 = .ok (.aload_n 1, 1) := by decide +kernel
theorem dL_law_433 : decode cL_law 433 = .ok (.aload_n 0, 1) := by decide +kernel
theorem dL_law_434 : decode cL_law 434 = .ok (.iload_n 3, 1) := by decide +kernel
theorem dL_law_435 : decode cL_law 435 = .ok (.iconst 1, 1) := by decide +kernel
theorem dL_law_436 : decode cL_law 436 = .ok (.iadd, 1) := by decide +kernel
theorem dL_law_437 : decode cL_law 437 = .ok (.iaload, 1) := by decide +kernel
theorem dL_law_438 : decode cL_law 438 = .ok (.aload_n 0, 1) := by decide +kernel
theorem dL_law_439 : decode cL_law 439 = .ok (.iload_n 3, 1) := by decide +kernel
theorem dL_law_440 : decode cL_law 440 = .ok (.iconst 2, 1) := by decide +kernel
theorem dL_law_441 : decode cL_law 441 = .ok (.iadd, 1) := by decide +kernel
theorem dL_law_442 : decode cL_law 442 = .ok (.iaload, 1) := by decide +kernel
theorem dL_law_443 : decode cL_law 443 = .ok (.invokevirtual 48, 3) := by decide +kernel
theorem dL_law_446 : decode cL_law 446 = .ok (.aload_n 2, 1) := by decide +kernel
theorem dL_law_447 : decode cL_law 447 = .ok (.aload_n 0, 1) := by decide +kernel
theorem dL_law_448 : decode cL_law 448 = .ok (.iload_n 3, 1) := by decide +kernel
theorem dL_law_449 : decode cL_law 449 = .ok (.iconst 1, 1) := by decide +kernel
theorem dL_law_450 : decode cL_law 450 = .ok (.iadd, 1) := by decide +kernel
theorem dL_law_451 : decode cL_law 451 = .ok (.iaload, 1) := by decide +kernel
theorem dL_law_452 : decode cL_law 452 = .ok (.aload_n 0, 1) := by decide +kernel
theorem dL_law_453 : decode cL_law 453 = .ok (.iload_n 3, 1) := by decide +kernel
theorem dL_law_454 : decode cL_law 454 = .ok (.iconst 2, 1) := by decide +kernel
theorem dL_law_455 : decode cL_law 455 = .ok (.iadd, 1) := by decide +kernel
theorem dL_law_456 : decode cL_law 456 = .ok (.iaload, 1) := by decide +kernel
theorem dL_law_457 : decode cL_law 457 = .ok (.invokevirtual 51, 3) := by decide +kernel
theorem dL_law_460 : decode cL_law 460 = .ok (.if_icmp .eq 794, 3) := by decide +kernel
theorem dL_law_463 : decode cL_law 463 = .ok (.iconst 0, 1) := by decide +kernel
theorem dL_law_464 : decode cL_law 464 = .ok (.ireturn, 1) := by decide +kernel
theorem dL_law_465 : decode cL_law 465 = .ok (.aload_n 1, 1) := by decide +kernel
theorem dL_law_466 : decode cL_law 466 = .ok (.aload_n 0, 1) := by decide +kernel
theorem dL_law_467 : decode cL_law 467 = .ok (.iload_n 3, 1) := by decide +kernel
theorem dL_law_468 : decode cL_law 468 = .ok (.iconst 1, 1) := by decide +kernel
theorem dL_law_469 : decode cL_law 469 = .ok (.iadd, 1) := by decide +kernel
theorem dL_law_470 : decode cL_law 470 = .ok (.iaload, 1) := by decide +kernel
theorem dL_law_471 : decode cL_law 471 = .ok (.aload_n 0, 1) := by decide +kernel
theorem dL_law_472 : decode cL_law 472 = .ok (.iload_n 3, 1) := by decide +kernel
theorem dL_law_473 : decode cL_law 473 = .ok (.iconst 2, 1) := by decide +kernel
theorem dL_law_474 : decode cL_law 474 = .ok (.iadd, 1) := by decide +kernel
theorem dL_law_475 : decode cL_law 475 = .ok (.iaload, 1) := by decide +kernel
theorem dL_law_476 : decode cL_law 476 = .ok (.invokevirtual 52, 3) := by decide +kernel
theorem dL_law_479 : decode cL_law 479 = .ok (.aload_n 2, 1) := by decide +kernel
theorem dL_law_480 : decode cL_law 480 = .ok (.aload_n 0, 1) := by decide +kernel
theorem dL_law_481 : decode cL_law 481 = .ok (.iload_n 3, 1) := by decide +kernel
theorem dL_law_482 : decode cL_law 482 = .ok (.iconst 1, 1) := by decide +kernel
theorem dL_law_483 : decode cL_law 483 = .ok (.iadd, 1) := by decide +kernel
theorem dL_law_484 : decode cL_law 484 = .ok (.iaload, 1) := by decide +kernel
theorem dL_law_485 : decode cL_law 485 = .ok (.aload_n 0, 1) := by decide +kernel
theorem dL_law_486 : decode cL_law 486 = .ok (.iload_n 3, 1) := by decide +kernel
theorem dL_law_487 : decode cL_law 487 = .ok (.iconst 2, 1) := by decide +kernel
theorem dL_law_488 : decode cL_law 488 = .ok (.iadd, 1) := by decide +kernel
theorem dL_law_489 : decode cL_law 489 = .ok (.iaload, 1) := by decide +kernel
theorem dL_law_490 : decode cL_law 490 = .ok (.invokevirtual 55, 3) := by decide +kernel
theorem dL_law_493 : decode cL_law 493 = .ok (.if_icmp .eq 761, 3) := by decide +kernel
theorem dL_law_496 : decode cL_law 496 = .ok (.iconst 0, 1) := by decide +kernel
theorem dL_law_497 : decode cL_law 497 = .ok (.ireturn, 1) := by decide +kernel
theorem dL_law_498 : decode cL_law 498 = .ok (.aload_n 1, 1) := by decide +kernel
theorem dL_law_499 : decode cL_law 499 = .ok (.aload_n 0, 1) := by decide +kernel
theorem dL_law_500 : decode cL_law 500 = .ok (.iload_n 3, 1) := by decide +kernel
theorem dL_law_501 : decode cL_law 501 = .ok (.iconst 1, 1) := by decide +kernel
theorem dL_law_502 : decode cL_law 502 = .ok (.iadd, 1) := by decide +kernel
theorem dL_law_503 : decode cL_law 503 = .ok (.iaload, 1) := by decide +kernel
theorem dL_law_504 : decode cL_law 504 = .ok (.aload_n 0, 1) := by decide +kernel
theorem dL_law_505 : decode cL_law 505 = .ok (.iload_n 3, 1) := by decide +kernel
theorem dL_law_506 : decode cL_law 506 = .ok (.iconst 2, 1) := by decide +kernel
theorem dL_law_507 : decode cL_law 507 = .ok (.iadd, 1) := by decide +kernel
theorem dL_law_508 : decode cL_law 508 = .ok (.iaload, 1) := by decide +kernel
theorem dL_law_509 : decode cL_law 509 = .ok (.invokevirtual 56, 3) := by decide +kernel
theorem dL_law_512 : decode cL_law 512 = .ok (.aload_n 2, 1) := by decide +kernel
theorem dL_law_513 : decode cL_law 513 = .ok (.aload_n 0, 1) := by decide +kernel
theorem dL_law_514 : decode cL_law 514 = .ok (.iload_n 3, 1) := by decide +kernel
theorem dL_law_515 : decode cL_law 515 = .ok (.iconst 1, 1) := by decide +kernel
theorem dL_law_516 : decode cL_law 516 = .ok (.iadd, 1) := by decide +kernel
theorem dL_law_517 : decode cL_law 517 = .ok (.iaload, 1) := by decide +kernel
theorem dL_law_518 : decode cL_law 518 = .ok (.aload_n 0, 1) := by decide +kernel
theorem dL_law_519 : decode cL_law 519 = .ok (.iload_n 3, 1) := by decide +kernel
theorem dL_law_520 : decode cL_law 520 = .ok (.iconst 2, 1) := by decide +kernel
theorem dL_law_521 : decode cL_law 521 = .ok (.iadd, 1) := by decide +kernel
theorem dL_law_522 : decode cL_law 522 = .ok (.iaload, 1) := by decide +kernel
theorem dL_law_523 : decode cL_law 523 = .ok (.invokevirtual 59, 3) := by decide +kernel
theorem dL_law_526 : decode cL_law 526 = .ok (.if_icmp .eq 728, 3) := by decide +kernel
theorem dL_law_529 : decode cL_law 529 = .ok (.iconst 0, 1) := by decide +kernel
theorem dL_law_530 : decode cL_law 530 = .ok (.ireturn, 1) := by decide +kernel
theorem dL_law_531 : decode cL_law 531 = .ok (.aload_n 1, 1) := by decide +kernel
theorem dL_law_532 : decode cL_law 532 = .ok (.aload_n 0, 1) := by decide +kernel
theorem dL_law_533 : decode cL_law 533 = .ok (.iload_n 3, 1) := by decide +kernel
theorem dL_law_534 : decode cL_law 534 = .ok (.iconst 1, 1) := by decide +kernel
theorem dL_law_535 : decode cL_law 535 = .ok (.iadd, 1) := by decide +kernel
theorem dL_law_536 : decode cL_law 536 = .ok (.iaload, 1) := by decide +kernel
theorem dL_law_537 : decode cL_law 537 = .ok (.invokevirtual 60, 3) := by decide +kernel
theorem dL_law_540 : decode cL_law 540 = .ok (.aload_n 2, 1) := by decide +kernel
theorem dL_law_541 : decode cL_law 541 = .ok (.aload_n 0, 1) := by decide +kernel
theorem dL_law_542 : decode cL_law 542 = .ok (.iload_n 3, 1) := by decide +kernel
theorem dL_law_543 : decode cL_law 543 = .ok (.iconst 1, 1) := by decide +kernel
theorem dL_law_544 : decode cL_law 544 = .ok (.iadd, 1) := by decide +kernel
theorem dL_law_545 : decode cL_law 545 = .ok (.iaload, 1) := by decide +kernel
theorem dL_law_546 : decode cL_law 546 = .ok (.invokevirtual 63, 3) := by decide +kernel
theorem dL_law_549 : decode cL_law 549 = .ok (.if_icmp .eq 705, 3) := by decide +kernel
theorem dL_law_552 : decode cL_law 552 = .ok (.iconst 0, 1) := by decide +kernel
theorem dL_law_553 : decode cL_law 553 = .ok (.ireturn, 1) := by decide +kernel
theorem dL_law_554 : decode cL_law 554 = .ok (.aload_n 1, 1) := by decide +kernel
theorem dL_law_555 : decode cL_law 555 = .ok (.aload_n 0, 1) := by decide +kernel
theorem dL_law_556 : decode cL_law 556 = .ok (.iload_n 3, 1) := by decide +kernel
theorem dL_law_557 : decode cL_law 557 = .ok (.iconst 1, 1) := by decide +kernel
theorem dL_law_558 : decode cL_law 558 = .ok (.iadd, 1) := by decide +kernel
theorem dL_law_559 : decode cL_law 559 = .ok (.iaload, 1) := by decide +kernel
theorem dL_law_560 : decode cL_law 560 = .ok (.invokevirtual 64, 3) := by decide +kernel
theorem dL_law_563 : decode cL_law 563 = .ok (.aload_n 2, 1) := by decide +kernel
theorem dL_law_564 : decode cL_law 564 = .ok (.aload_n 0, 1) := by decide +kernel
theorem dL_law_565 : decode cL_law 565 = .ok (.iload_n 3, 1) := by decide +kernel
theorem dL_law_566 : decode cL_law 566 = .ok (.iconst 1, 1) := by decide +kernel
theorem dL_law_567 : decode cL_law 567 = .ok (.iadd, 1) := by decide +kernel
theorem dL_law_568 : decode cL_law 568 = .ok (.iaload, 1) := by decide +kernel
theorem dL_law_569 : decode cL_law 569 = .ok (.invokevirtual 67, 3) := by decide +kernel
theorem dL_law_572 : decode cL_law 572 = .ok (.if_icmp .eq 682, 3) := by decide +kernel
theorem dL_law_575 : decode cL_law 575 = .ok (.iconst 0, 1) := by decide +kernel
theorem dL_law_576 : decode cL_law 576 = .ok (.ireturn, 1) := by decide +kernel
theorem dL_law_577 : decode cL_law 577 = .ok (.aload_n 1, 1) := by decide +kernel
theorem dL_law_578 : decode cL_law 578 = .ok (.aload_n 0, 1) := by decide +kernel
theorem dL_law_579 : decode cL_law 579 = .ok (.iload_n 3, 1) := by decide +kernel
theorem dL_law_580 : decode cL_law 580 = .ok (.iconst 1, 1) := by decide +kernel
theorem dL_law_581 : decode cL_law 581 = .ok (.iadd, 1) := by decide +kernel
theorem dL_law_582 : decode cL_law 582 = .ok (.iaload, 1) := by decide +kernel
theorem dL_law_583 : decode cL_law 583 = .ok (.aload_n 0, 1) := by decide +kernel
theorem dL_law_584 : decode cL_law 584 = .ok (.iload_n 3, 1) := by decide +kernel
theorem dL_law_585 : decode cL_law 585 = .ok (.iconst 2, 1) := by decide +kernel
theorem dL_law_586 : decode cL_law 586 = .ok (.iadd, 1) := by decide +kernel
theorem dL_law_587 : decode cL_law 587 = .ok (.iaload, 1) := by decide +kernel
theorem dL_law_588 : decode cL_law 588 = .ok (.aload_n 0, 1) := by decide +kernel
theorem dL_law_589 : decode cL_law 589 = .ok (.iload_n 3, 1) := by decide +kernel
theorem dL_law_590 : decode cL_law 590 = .ok (.iconst 3, 1) := by decide +kernel
theorem dL_law_591 : decode cL_law 591 = .ok (.iadd, 1) := by decide +kernel
theorem dL_law_592 : decode cL_law 592 = .ok (.iaload, 1) := by decide +kernel
theorem dL_law_593 : decode cL_law 593 = .ok (.invokevirtual 68, 3) := by decide +kernel
theorem dL_law_596 : decode cL_law 596 = .ok (.aload_n 2, 1) := by decide +kernel
theorem dL_law_597 : decode cL_law 597 = .ok (.aload_n 0, 1) := by decide +kernel
theorem dL_law_598 : decode cL_law 598 = .ok (.iload_n 3, 1) := by decide +kernel
theorem dL_law_599 : decode cL_law 599 = .ok (.iconst 1, 1) := by decide +kernel
theorem dL_law_600 : decode cL_law 600 = .ok (.iadd, 1) := by decide +kernel
theorem dL_law_601 : decode cL_law 601 = .ok (.iaload, 1) := by decide +kernel
theorem dL_law_602 : decode cL_law 602 = .ok (.aload_n 0, 1) := by decide +kernel
theorem dL_law_603 : decode cL_law 603 = .ok (.iload_n 3, 1) := by decide +kernel
theorem dL_law_604 : decode cL_law 604 = .ok (.iconst 2, 1) := by decide +kernel
theorem dL_law_605 : decode cL_law 605 = .ok (.iadd, 1) := by decide +kernel
theorem dL_law_606 : decode cL_law 606 = .ok (.iaload, 1) := by decide +kernel
theorem dL_law_607 : decode cL_law 607 = .ok (.aload_n 0, 1) := by decide +kernel
theorem dL_law_608 : decode cL_law 608 = .ok (.iload_n 3, 1) := by decide +kernel
theorem dL_law_609 : decode cL_law 609 = .ok (.iconst 3, 1) := by decide +kernel
theorem dL_law_610 : decode cL_law 610 = .ok (.iadd, 1) := by decide +kernel
theorem dL_law_611 : decode cL_law 611 = .ok (.iaload, 1) := by decide +kernel
theorem dL_law_612 : decode cL_law 612 = .ok (.invokevirtual 71, 3) := by decide +kernel
theorem dL_law_615 : decode cL_law 615 = .ok (.if_icmp .eq 639, 3) := by decide +kernel
theorem dL_law_618 : decode cL_law 618 = .ok (.iconst 0, 1) := by decide +kernel
theorem dL_law_619 : decode cL_law 619 = .ok (.ireturn, 1) := by decide +kernel
theorem dL_law_620 : decode cL_law 620 = .ok (.aload_n 1, 1) := by decide +kernel
theorem dL_law_621 : decode cL_law 621 = .ok (.aload_n 0, 1) := by decide +kernel
theorem dL_law_622 : decode cL_law 622 = .ok (.iload_n 3, 1) := by decide +kernel
theorem dL_law_623 : decode cL_law 623 = .ok (.iconst 1, 1) := by decide +kernel
theorem dL_law_624 : decode cL_law 624 = .ok (.iadd, 1) := by decide +kernel
theorem dL_law_625 : decode cL_law 625 = .ok (.iaload, 1) := by decide +kernel
theorem dL_law_626 : decode cL_law 626 = .ok (.aload_n 0, 1) := by decide +kernel
theorem dL_law_627 : decode cL_law 627 = .ok (.iload_n 3, 1) := by decide +kernel
theorem dL_law_628 : decode cL_law 628 = .ok (.iconst 2, 1) := by decide +kernel
theorem dL_law_629 : decode cL_law 629 = .ok (.iadd, 1) := by decide +kernel
theorem dL_law_630 : decode cL_law 630 = .ok (.iaload, 1) := by decide +kernel
theorem dL_law_631 : decode cL_law 631 = .ok (.aload_n 0, 1) := by decide +kernel
theorem dL_law_632 : decode cL_law 632 = .ok (.iload_n 3, 1) := by decide +kernel
theorem dL_law_633 : decode cL_law 633 = .ok (.iconst 3, 1) := by decide +kernel
theorem dL_law_634 : decode cL_law 634 = .ok (.iadd, 1) := by decide +kernel
theorem dL_law_635 : decode cL_law 635 = .ok (.iaload, 1) := by decide +kernel
theorem dL_law_636 : decode cL_law 636 = .ok (.invokevirtual 72, 3) := by decide +kernel
theorem dL_law_639 : decode cL_law 639 = .ok (.aload_n 2, 1) := by decide +kernel
theorem dL_law_640 : decode cL_law 640 = .ok (.aload_n 0, 1) := by decide +kernel
theorem dL_law_641 : decode cL_law 641 = .ok (.iload_n 3, 1) := by decide +kernel
theorem dL_law_642 : decode cL_law 642 = .ok (.iconst 1, 1) := by decide +kernel
theorem dL_law_643 : decode cL_law 643 = .ok (.iadd, 1) := by decide +kernel
theorem dL_law_644 : decode cL_law 644 = .ok (.iaload, 1) := by decide +kernel
theorem dL_law_645 : decode cL_law 645 = .ok (.aload_n 0, 1) := by decide +kernel
theorem dL_law_646 : decode cL_law 646 = .ok (.iload_n 3, 1) := by decide +kernel
theorem dL_law_647 : decode cL_law 647 = .ok (.iconst 2, 1) := by decide +kernel
theorem dL_law_648 : decode cL_law 648 = .ok (.iadd, 1) := by decide +kernel
theorem dL_law_649 : decode cL_law 649 = .ok (.iaload, 1) := by decide +kernel
theorem dL_law_650 : decode cL_law 650 = .ok (.aload_n 0, 1) := by decide +kernel
theorem dL_law_651 : decode cL_law 651 = .ok (.iload_n 3, 1) := by decide +kernel
theorem dL_law_652 : decode cL_law 652 = .ok (.iconst 3, 1) := by decide +kernel
theorem dL_law_653 : decode cL_law 653 = .ok (.iadd, 1) := by decide +kernel
theorem dL_law_654 : decode cL_law 654 = .ok (.iaload, 1) := by decide +kernel
theorem dL_law_655 : decode cL_law 655 = .ok (.invokevirtual 75, 3) := by decide +kernel
theorem dL_law_658 : decode cL_law 658 = .ok (.if_icmp .eq 596, 3) := by decide +kernel
theorem dL_law_661 : decode cL_law 661 = .ok (.iconst 0, 1) := by decide +kernel
theorem dL_law_662 : decode cL_law 662 = .ok (.ireturn, 1) := by decide +kernel
theorem dL_law_663 : decode cL_law 663 = .ok (.aload_n 1, 1) := by decide +kernel
theorem dL_law_664 : decode cL_law 664 = .ok (.aload_n 0, 1) := by decide +kernel
theorem dL_law_665 : decode cL_law 665 = .ok (.iload_n 3, 1) := by decide +kernel
theorem dL_law_666 : decode cL_law 666 = .ok (.iconst 1, 1) := by decide +kernel
theorem dL_law_667 : decode cL_law 667 = .ok (.iadd, 1) := by decide +kernel
theorem dL_law_668 : decode cL_law 668 = .ok (.iaload, 1) := by decide +kernel
theorem dL_law_669 : decode cL_law 669 = .ok (.aload_n 0, 1) := by decide +kernel
theorem dL_law_670 : decode cL_law 670 = .ok (.iload_n 3, 1) := by decide +kernel
theorem dL_law_671 : decode cL_law 671 = .ok (.iconst 2, 1) := by decide +kernel
theorem dL_law_672 : decode cL_law 672 = .ok (.iadd, 1) := by decide +kernel
theorem dL_law_673 : decode cL_law 673 = .ok (.iaload, 1) := by decide +kernel
theorem dL_law_674 : decode cL_law 674 = .ok (.invokevirtual 76, 3) := by decide +kernel
theorem dL_law_677 : decode cL_law 677 = .ok (.aload_n 2, 1) := by decide +kernel
theorem dL_law_678 : decode cL_law 678 = .ok (.aload_n 0, 1) := by decide +kernel
theorem dL_law_679 : decode cL_law 679 = .ok (.iload_n 3, 1) := by decide +kernel
theorem dL_law_680 : decode cL_law 680 = .ok (.iconst 1, 1) := by decide +kernel
theorem dL_law_681 : decode cL_law 681 = .ok (.iadd, 1) := by decide +kernel
theorem dL_law_682 : decode cL_law 682 = .ok (.iaload, 1) := by decide +kernel
theorem dL_law_683 : decode cL_law 683 = .ok (.aload_n 0, 1) := by decide +kernel
theorem dL_law_684 : decode cL_law 684 = .ok (.iload_n 3, 1) := by decide +kernel
theorem dL_law_685 : decode cL_law 685 = .ok (.iconst 2, 1) := by decide +kernel
theorem dL_law_686 : decode cL_law 686 = .ok (.iadd, 1) := by decide +kernel
theorem dL_law_687 : decode cL_law 687 = .ok (.iaload, 1) := by decide +kernel
theorem dL_law_688 : decode cL_law 688 = .ok (.invokevirtual 79, 3) := by decide +kernel
theorem dL_law_691 : decode cL_law 691 = .ok (.if_icmp .eq 563, 3) := by decide +kernel
theorem dL_law_694 : decode cL_law 694 = .ok (.iconst 0, 1) := by decide +kernel
theorem dL_law_695 : decode cL_law 695 = .ok (.ireturn, 1) := by decide +kernel
theorem dL_law_696 : decode cL_law 696 = .ok (.aload_n 1, 1) := by decide +kernel
theorem dL_law_697 : decode cL_law 697 = .ok (.aload_n 0, 1) := by decide +kernel
theorem dL_law_698 : decode cL_law 698 = .ok (.iload_n 3, 1) := by decide +kernel
theorem dL_law_699 : decode cL_law 699 = .ok (.iconst 1, 1) := by decide +kernel
theorem dL_law_700 : decode cL_law 700 = .ok (.iadd, 1) := by decide +kernel
theorem dL_law_701 : decode cL_law 701 = .ok (.iaload, 1) := by decide +kernel
theorem dL_law_702 : decode cL_law 702 = .ok (.aload_n 0, 1) := by decide +kernel
theorem dL_law_703 : decode cL_law 703 = .ok (.iload_n 3, 1) := by decide +kernel
theorem dL_law_704 : decode cL_law 704 = .ok (.iconst 2, 1) := by decide +kernel
theorem dL_law_705 : decode cL_law 705 = .ok (.iadd, 1) := by decide +kernel
theorem dL_law_706 : decode cL_law 706 = .ok (.iaload, 1) := by decide +kernel
theorem dL_law_707 : decode cL_law 707 = .ok (.invokevirtual 80, 3) := by decide +kernel
theorem dL_law_710 : decode cL_law 710 = .ok (.aload_n 2, 1) := by decide +kernel
theorem dL_law_711 : decode cL_law 711 = .ok (.aload_n 0, 1) := by decide +kernel
theorem dL_law_712 : decode cL_law 712 = .ok (.iload_n 3, 1) := by decide +kernel
theorem dL_law_713 : decode cL_law 713 = .ok (.iconst 1, 1) := by decide +kernel
theorem dL_law_714 : decode cL_law 714 = .ok (.iadd, 1) := by decide +kernel
theorem dL_law_715 : decode cL_law 715 = .ok (.iaload, 1) := by decide +kernel
theorem dL_law_716 : decode cL_law 716 = .ok (.aload_n 0, 1) := by decide +kernel
theorem dL_law_717 : decode cL_law 717 = .ok (.iload_n 3, 1) := by decide +kernel
theorem dL_law_718 : decode cL_law 718 = .ok (.iconst 2, 1) := by decide +kernel
theorem dL_law_719 : decode cL_law 719 = .ok (.iadd, 1) := by decide +kernel
theorem dL_law_720 : decode cL_law 720 = .ok (.iaload, 1) := by decide +kernel
theorem dL_law_721 : decode cL_law 721 = .ok (.invokevirtual 83, 3) := by decide +kernel
theorem dL_law_724 : decode cL_law 724 = .ok (.if_icmp .eq 530, 3) := by decide +kernel
theorem dL_law_727 : decode cL_law 727 = .ok (.iconst 0, 1) := by decide +kernel
theorem dL_law_728 : decode cL_law 728 = .ok (.ireturn, 1) := by decide +kernel
theorem dL_law_729 : decode cL_law 729 = .ok (.aload_n 1, 1) := by decide +kernel
theorem dL_law_730 : decode cL_law 730 = .ok (.aload_n 0, 1) := by decide +kernel
theorem dL_law_731 : decode cL_law 731 = .ok (.iload_n 3, 1) := by decide +kernel
theorem dL_law_732 : decode cL_law 732 = .ok (.iconst 1, 1) := by decide +kernel
theorem dL_law_733 : decode cL_law 733 = .ok (.iadd, 1) := by decide +kernel
theorem dL_law_734 : decode cL_law 734 = .ok (.iaload, 1) := by decide +kernel
theorem dL_law_735 : decode cL_law 735 = .ok (.aload_n 0, 1) := by decide +kernel
theorem dL_law_736 : decode cL_law 736 = .ok (.iload_n 3, 1) := by decide +kernel
theorem dL_law_737 : decode cL_law 737 = .ok (.iconst 2, 1) := by decide +kernel
theorem dL_law_738 : decode cL_law 738 = .ok (.iadd, 1) := by decide +kernel
theorem dL_law_739 : decode cL_law 739 = .ok (.iaload, 1) := by decide +kernel
theorem dL_law_740 : decode cL_law 740 = .ok (.invokevirtual 84, 3) := by decide +kernel
theorem dL_law_743 : decode cL_law 743 = .ok (.aload_n 2, 1) := by decide +kernel
theorem dL_law_744 : decode cL_law 744 = .ok (.aload_n 0, 1) := by decide +kernel
theorem dL_law_745 : decode cL_law 745 = .ok (.iload_n 3, 1) := by decide +kernel
theorem dL_law_746 : decode cL_law 746 = .ok (.iconst 1, 1) := by decide +kernel
theorem dL_law_747 : decode cL_law 747 = .ok (.iadd, 1) := by decide +kernel
theorem dL_law_748 : decode cL_law 748 = .ok (.iaload, 1) := by decide +kernel
theorem dL_law_749 : decode cL_law 749 = .ok (.aload_n 0, 1) := by decide +kernel
theorem dL_law_750 : decode cL_law 750 = .ok (.iload_n 3, 1) := by decide +kernel
theorem dL_law_751 : decode cL_law 751 = .ok (.iconst 2, 1) := by decide +kernel
theorem dL_law_752 : decode cL_law 752 = .ok (.iadd, 1) := by decide +kernel
theorem dL_law_753 : decode cL_law 753 = .ok (.iaload, 1) := by decide +kernel
theorem dL_law_754 : decode cL_law 754 = .ok (.invokevirtual 87, 3) := by decide +kernel
theorem dL_law_757 : decode cL_law 757 = .ok (.if_icmp .eq 497, 3) := by decide +kernel
theorem dL_law_760 : decode cL_law 760 = .ok (.iconst 0, 1) := by decide +kernel
theorem dL_law_761 : decode cL_law 761 = .ok (.ireturn, 1) := by decide +kernel
theorem dL_law_762 : decode cL_law 762 = .ok (.aload_n 1, 1) := by decide +kernel
theorem dL_law_763 : decode cL_law 763 = .ok (.aload_n 0, 1) := by decide +kernel
theorem dL_law_764 : decode cL_law 764 = .ok (.iload_n 3, 1) := by decide +kernel
theorem dL_law_765 : decode cL_law 765 = .ok (.iconst 1, 1) := by decide +kernel
theorem dL_law_766 : decode cL_law 766 = .ok (.iadd, 1) := by decide +kernel
theorem dL_law_767 : decode cL_law 767 = .ok (.iaload, 1) := by decide +kernel
theorem dL_law_768 : decode cL_law 768 = .ok (.aload_n 0, 1) := by decide +kernel
theorem dL_law_769 : decode cL_law 769 = .ok (.iload_n 3, 1) := by decide +kernel
theorem dL_law_770 : decode cL_law 770 = .ok (.iconst 2, 1) := by decide +kernel
theorem dL_law_771 : decode cL_law 771 = .ok (.iadd, 1) := by decide +kernel
theorem dL_law_772 : decode cL_law 772 = .ok (.iaload, 1) := by decide +kernel
theorem dL_law_773 : decode cL_law 773 = .ok (.invokevirtual 88, 3) := by decide +kernel
theorem dL_law_776 : decode cL_law 776 = .ok (.aload_n 2, 1) := by decide +kernel
theorem dL_law_777 : decode cL_law 777 = .ok (.aload_n 0, 1) := by decide +kernel
theorem dL_law_778 : decode cL_law 778 = .ok (.iload_n 3, 1) := by decide +kernel
theorem dL_law_779 : decode cL_law 779 = .ok (.iconst 1, 1) := by decide +kernel
theorem dL_law_780 : decode cL_law 780 = .ok (.iadd, 1) := by decide +kernel
theorem dL_law_781 : decode cL_law 781 = .ok (.iaload, 1) := by decide +kernel
theorem dL_law_782 : decode cL_law 782 = .ok (.aload_n 0, 1) := by decide +kernel
theorem dL_law_783 : decode cL_law 783 = .ok (.iload_n 3, 1) := by decide +kernel
theorem dL_law_784 : decode cL_law 784 = .ok (.iconst 2, 1) := by decide +kernel
theorem dL_law_785 : decode cL_law 785 = .ok (.iadd, 1) := by decide +kernel
theorem dL_law_786 : decode cL_law 786 = .ok (.iaload, 1) := by decide +kernel
theorem dL_law_787 : decode cL_law 787 = .ok (.invokevirtual 91, 3) := by decide +kernel
theorem dL_law_790 : decode cL_law 790 = .ok (.if_icmp .eq 464, 3) := by decide +kernel
theorem dL_law_793 : decode cL_law 793 = .ok (.iconst 0, 1) := by decide +kernel
theorem dL_law_794 : decode cL_law 794 = .ok (.ireturn, 1) := by decide +kernel
theorem dL_law_795 : decode cL_law 795 = .ok (.aload_n 1, 1) := by decide +kernel
theorem dL_law_796 : decode cL_law 796 = .ok (.aload_n 0, 1) := by decide +kernel
theorem dL_law_797 : decode cL_law 797 = .ok (.iload_n 3, 1) := by decide +kernel
theorem dL_law_798 : decode cL_law 798 = .ok (.iconst 1, 1) := by decide +kernel
theorem dL_law_799 : decode cL_law 799 = .ok (.iadd, 1) := by decide +kernel
theorem dL_law_800 : decode cL_law 800 = .ok (.iaload, 1) := by decide +kernel
theorem dL_law_801 : decode cL_law 801 = .ok (.invokevirtual 92, 3) := by decide +kernel
theorem dL_law_804 : decode cL_law 804 = .ok (.aload_n 2, 1) := by decide +kernel
theorem dL_law_805 : decode cL_law 805 = .ok (.aload_n 0, 1) := by decide +kernel
theorem dL_law_806 : decode cL_law 806 = .ok (.iload_n 3, 1) := by decide +kernel
theorem dL_law_807 : decode cL_law 807 = .ok (.iconst 1, 1) := by decide +kernel
theorem dL_law_808 : decode cL_law 808 = .ok (.iadd, 1) := by decide +kernel
theorem dL_law_809 : decode cL_law 809 = .ok (.iaload, 1) := by decide +kernel
theorem dL_law_810 : decode cL_law 810 = .ok (.invokevirtual 95, 3) := by decide +kernel
theorem dL_law_813 : decode cL_law 813 = .ok (.if_icmp .eq 441, 3) := by decide +kernel
theorem dL_law_816 : decode cL_law 816 = .ok (.iconst 0, 1) := by decide +kernel
theorem dL_law_817 : decode cL_law 817 = .ok (.ireturn, 1) := by decide +kernel
theorem dL_law_818 : decode cL_law 818 = .ok (.aload_n 1, 1) := by decide +kernel
theorem dL_law_819 : decode cL_law 819 = .ok (.aload_n 0, 1) := by decide +kernel
theorem dL_law_820 : decode cL_law 820 = .ok (.iload_n 3, 1) := by decide +kernel
theorem dL_law_821 : decode cL_law 821 = .ok (.iconst 1, 1) := by decide +kernel
theorem dL_law_822 : decode cL_law 822 = .ok (.iadd, 1) := by decide +kernel
theorem dL_law_823 : decode cL_law 823 = .ok (.iaload, 1) := by decide +kernel
theorem dL_law_824 : decode cL_law 824 = .ok (.invokevirtual 96, 3) := by decide +kernel
theorem dL_law_827 : decode cL_law 827 = .ok (.aload_n 2, 1) := by decide +kernel
theorem dL_law_828 : decode cL_law 828 = .ok (.aload_n 0, 1) := by decide +kernel
theorem dL_law_829 : decode cL_law 829 = .ok (.iload_n 3, 1) := by decide +kernel
theorem dL_law_830 : decode cL_law 830 = .ok (.iconst 1, 1) := by decide +kernel
theorem dL_law_831 : decode cL_law 831 = .ok (.iadd, 1) := by decide +kernel
theorem dL_law_832 : decode cL_law 832 = .ok (.iaload, 1) := by decide +kernel
theorem dL_law_833 : decode cL_law 833 = .ok (.invokevirtual 99, 3) := by decide +kernel
theorem dL_law_836 : decode cL_law 836 = .ok (.if_icmp .eq 418, 3) := by decide +kernel
theorem dL_law_839 : decode cL_law 839 = .ok (.iconst 0, 1) := by decide +kernel
theorem dL_law_840 : decode cL_law 840 = .ok (.ireturn, 1) := by decide +kernel
theorem dL_law_841 : decode cL_law 841 = .ok (.aload_n 1, 1) := by decide +kernel
theorem dL_law_842 : decode cL_law 842 = .ok (.aload_n 0, 1) := by decide +kernel
theorem dL_law_843 : decode cL_law 843 = .ok (.iload_n 3, 1) := by decide +kernel
theorem dL_law_844 : decode cL_law 844 = .ok (.iconst 1, 1) := by decide +kernel
theorem dL_law_845 : decode cL_law 845 = .ok (.iadd, 1) := by decide +kernel
theorem dL_law_846 : decode cL_law 846 = .ok (.iaload, 1) := by decide +kernel
theorem dL_law_847 : decode cL_law 847 = .ok (.aload_n 0, 1) := by decide +kernel
theorem dL_law_848 : decode cL_law 848 = .ok (.iload_n 3, 1) := by decide +kernel
theorem dL_law_849 : decode cL_law 849 = .ok (.iconst 2, 1) := by decide +kernel
theorem dL_law_850 : decode cL_law 850 = .ok (.iadd, 1) := by decide +kernel
theorem dL_law_851 : decode cL_law 851 = .ok (.iaload, 1) := by decide +kernel
theorem dL_law_852 : decode cL_law 852 = .ok (.invokevirtual 100, 3) := by decide +kernel
theorem dL_law_855 : decode cL_law 855 = .ok (.aload_n 2, 1) := by decide +kernel
theorem dL_law_856 : decode cL_law 856 = .ok (.aload_n 0, 1) := by decide +kernel
theorem dL_law_857 : decode cL_law 857 = .ok (.iload_n 3, 1) := by decide +kernel
theorem dL_law_858 : decode cL_law 858 = .ok (.iconst 1, 1) := by decide +kernel
theorem dL_law_859 : decode cL_law 859 = .ok (.iadd, 1) := by decide +kernel
theorem dL_law_860 : decode cL_law 860 = .ok (.iaload, 1) := by decide +kernel
theorem dL_law_861 : decode cL_law 861 = .ok (.aload_n 0, 1) := by decide +kernel
theorem dL_law_862 : decode cL_law 862 = .ok (.iload_n 3, 1) := by decide +kernel
theorem dL_law_863 : decode cL_law 863 = .ok (.iconst 2, 1) := by decide +kernel
theorem dL_law_864 : decode cL_law 864 = .ok (.iadd, 1) := by decide +kernel
theorem dL_law_865 : decode cL_law 865 = .ok (.iaload, 1) := by decide +kernel
theorem dL_law_866 : decode cL_law 866 = .ok (.invokevirtual 103, 3) := by decide +kernel
theorem dL_law_869 : decode cL_law 869 = .ok (.if_icmp .eq 385, 3) := by decide +kernel
theorem dL_law_872 : decode cL_law 872 = .ok (.iconst 0, 1) := by decide +kernel
theorem dL_law_873 : decode cL_law 873 = .ok (.ireturn, 1) := by decide +kernel
theorem dL_law_874 : decode cL_law 874 = .ok (.aload_n 1, 1) := by decide +kernel
theorem dL_law_875 : decode cL_law 875 = .ok (.invokevirtual 104, 3) := by decide +kernel
theorem dL_law_878 : decode cL_law 878 = .ok (.aload_n 2, 1) := by decide +kernel
theorem dL_law_879 : decode cL_law 879 = .ok (.invokevirtual 108, 3) := by decide +kernel
theorem dL_law_882 : decode cL_law 882 = .ok (.if_icmp .eq 372, 3) := by decide +kernel
theorem dL_law_885 : decode cL_law 885 = .ok (.iconst 0, 1) := by decide +kernel
theorem dL_law_886 : decode cL_law 886 = .ok (.ireturn, 1) := by decide +kernel
theorem dL_law_887 : decode cL_law 887 = .ok (.aload_n 1, 1) := by decide +kernel
theorem dL_law_888 : decode cL_law 888 = .ok (.invokevirtual 109, 3) := by decide +kernel
theorem dL_law_891 : decode cL_law 891 = .ok (.aload_n 2, 1) := by decide +kernel
theorem dL_law_892 : decode cL_law 892 = .ok (.invokevirtual 112, 3) := by decide +kernel
theorem dL_law_895 : decode cL_law 895 = .ok (.if_icmp .eq 359, 3) := by decide +kernel
theorem dL_law_898 : decode cL_law 898 = .ok (.iconst 0, 1) := by decide +kernel
theorem dL_law_899 : decode cL_law 899 = .ok (.ireturn, 1) := by decide +kernel
theorem dL_law_900 : decode cL_law 900 = .ok (.aload_n 1, 1) := by decide +kernel
theorem dL_law_901 : decode cL_law 901 = .ok (.aload_n 0, 1) := by decide +kernel
theorem dL_law_902 : decode cL_law 902 = .ok (.iload_n 3, 1) := by decide +kernel
theorem dL_law_903 : decode cL_law 903 = .ok (.iconst 1, 1) := by decide +kernel
theorem dL_law_904 : decode cL_law 904 = .ok (.iadd, 1) := by decide +kernel
theorem dL_law_905 : decode cL_law 905 = .ok (.iaload, 1) := by decide +kernel
theorem dL_law_906 : decode cL_law 906 = .ok (.aload_n 0, 1) := by decide +kernel
theorem dL_law_907 : decode cL_law 907 = .ok (.iload_n 3, 1) := by decide +kernel
theorem dL_law_908 : decode cL_law 908 = .ok (.iconst 2, 1) := by decide +kernel
theorem dL_law_909 : decode cL_law 909 = .ok (.iadd, 1) := by decide +kernel
theorem dL_law_910 : decode cL_law 910 = .ok (.iaload, 1) := by decide +kernel
theorem dL_law_911 : decode cL_law 911 = .ok (.aload_n 0, 1) := by decide +kernel
theorem dL_law_912 : decode cL_law 912 = .ok (.iload_n 3, 1) := by decide +kernel
theorem dL_law_913 : decode cL_law 913 = .ok (.iconst 3, 1) := by decide +kernel
theorem dL_law_914 : decode cL_law 914 = .ok (.iadd, 1) := by decide +kernel
theorem dL_law_915 : decode cL_law 915 = .ok (.iaload, 1) := by decide +kernel
theorem dL_law_916 : decode cL_law 916 = .ok (.invokevirtual 113, 3) := by decide +kernel
theorem dL_law_919 : decode cL_law 919 = .ok (.aload_n 2, 1) := by decide +kernel
theorem dL_law_920 : decode cL_law 920 = .ok (.aload_n 0, 1) := by decide +kernel
theorem dL_law_921 : decode cL_law 921 = .ok (.iload_n 3, 1) := by decide +kernel
theorem dL_law_922 : decode cL_law 922 = .ok (.iconst 1, 1) := by decide +kernel
theorem dL_law_923 : decode cL_law 923 = .ok (.iadd, 1) := by decide +kernel
theorem dL_law_924 : decode cL_law 924 = .ok (.iaload, 1) := by decide +kernel
theorem dL_law_925 : decode cL_law 925 = .ok (.aload_n 0, 1) := by decide +kernel
theorem dL_law_926 : decode cL_law 926 = .ok (.iload_n 3, 1) := by decide +kernel
theorem dL_law_927 : decode cL_law 927 = .ok (.iconst 2, 1) := by decide +kernel
theorem dL_law_928 : decode cL_law 928 = .ok (.iadd, 1) := by decide +kernel
theorem dL_law_929 : decode cL_law 929 = .ok (.iaload, 1) := by decide +kernel
theorem dL_law_930 : decode cL_law 930 = .ok (.aload_n 0, 1) := by decide +kernel
theorem dL_law_931 : decode cL_law 931 = .ok (.iload_n 3, 1) := by decide +kernel
theorem dL_law_932 : decode cL_law 932 = .ok (.iconst 3, 1) := by decide +kernel
theorem dL_law_933 : decode cL_law 933 = .ok (.iadd, 1) := by decide +kernel
theorem dL_law_934 : decode cL_law 934 = .ok (.iaload, 1) := by decide +kernel
theorem dL_law_935 : decode cL_law 935 = .ok (.invokevirtual 116, 3) := by decide +kernel
theorem dL_law_938 : decode cL_law 938 = .ok (.if_icmp .eq 316, 3) := by decide +kernel
theorem dL_law_941 : decode cL_law 941 = .ok (.iconst 0, 1) := by decide +kernel
theorem dL_law_942 : decode cL_law 942 = .ok (.ireturn, 1) := by decide +kernel
theorem dL_law_943 : decode cL_law 943 = .ok (.aload_n 1, 1) := by decide +kernel
theorem dL_law_944 : decode cL_law 944 = .ok (.aload_n 0, 1) := by decide +kernel
theorem dL_law_945 : decode cL_law 945 = .ok (.iload_n 3, 1) := by decide +kernel
theorem dL_law_946 : decode cL_law 946 = .ok (.iconst 1, 1) := by decide +kernel
theorem dL_law_947 : decode cL_law 947 = .ok (.iadd, 1) := by decide +kernel
theorem dL_law_948 : decode cL_law 948 = .ok (.iaload, 1) := by decide +kernel
theorem dL_law_949 : decode cL_law 949 = .ok (.aload_n 0, 1) := by decide +kernel
theorem dL_law_950 : decode cL_law 950 = .ok (.iload_n 3, 1) := by decide +kernel
theorem dL_law_951 : decode cL_law 951 = .ok (.iconst 2, 1) := by decide +kernel
theorem dL_law_952 : decode cL_law 952 = .ok (.iadd, 1) := by decide +kernel
theorem dL_law_953 : decode cL_law 953 = .ok (.iaload, 1) := by decide +kernel
theorem dL_law_954 : decode cL_law 954 = .ok (.aload_n 0, 1) := by decide +kernel
theorem dL_law_955 : decode cL_law 955 = .ok (.iload_n 3, 1) := by decide +kernel
theorem dL_law_956 : decode cL_law 956 = .ok (.iconst 3, 1) := by decide +kernel
theorem dL_law_957 : decode cL_law 957 = .ok (.iadd, 1) := by decide +kernel
theorem dL_law_958 : decode cL_law 958 = .ok (.iaload, 1) := by decide +kernel
theorem dL_law_959 : decode cL_law 959 = .ok (.i2l, 1) := by decide +kernel
theorem dL_law_960 : decode cL_law 960 = .ok (.bipush 32, 2) := by decide +kernel
theorem dL_law_962 : decode cL_law 962 = .ok (.lshl, 1) := by decide +kernel
theorem dL_law_963 : decode cL_law 963 = .ok (.aload_n 0, 1) := by decide +kernel
theorem dL_law_964 : decode cL_law 964 = .ok (.iload_n 3, 1) := by decide +kernel
theorem dL_law_965 : decode cL_law 965 = .ok (.iconst 4, 1) := by decide +kernel
theorem dL_law_966 : decode cL_law 966 = .ok (.iadd, 1) := by decide +kernel
theorem dL_law_967 : decode cL_law 967 = .ok (.iaload, 1) := by decide +kernel
theorem dL_law_968 : decode cL_law 968 = .ok (.i2l, 1) := by decide +kernel
theorem dL_law_969 : decode cL_law 969 = .ok (.ldc2_w 117, 3) := by decide +kernel
theorem dL_law_972 : decode cL_law 972 = .ok (.land, 1) := by decide +kernel
theorem dL_law_973 : decode cL_law 973 = .ok (.lor, 1) := by decide +kernel
theorem dL_law_974 : decode cL_law 974 = .ok (.invokevirtual 119, 3) := by decide +kernel
theorem dL_law_977 : decode cL_law 977 = .ok (.aload_n 2, 1) := by decide +kernel
theorem dL_law_978 : decode cL_law 978 = .ok (.aload_n 0, 1) := by decide +kernel
theorem dL_law_979 : decode cL_law 979 = .ok (.iload_n 3, 1) := by decide +kernel
theorem dL_law_980 : decode cL_law 980 = .ok (.iconst 1, 1) := by decide +kernel
theorem dL_law_981 : decode cL_law 981 = .ok (.iadd, 1) := by decide +kernel
theorem dL_law_982 : decode cL_law 982 = .ok (.iaload, 1) := by decide +kernel
theorem dL_law_983 : decode cL_law 983 = .ok (.aload_n 0, 1) := by decide +kernel
theorem dL_law_984 : decode cL_law 984 = .ok (.iload_n 3, 1) := by decide +kernel
theorem dL_law_985 : decode cL_law 985 = .ok (.iconst 2, 1) := by decide +kernel
theorem dL_law_986 : decode cL_law 986 = .ok (.iadd, 1) := by decide +kernel
theorem dL_law_987 : decode cL_law 987 = .ok (.iaload, 1) := by decide +kernel
theorem dL_law_988 : decode cL_law 988 = .ok (.aload_n 0, 1) := by decide +kernel
theorem dL_law_989 : decode cL_law 989 = .ok (.iload_n 3, 1) := by decide +kernel
theorem dL_law_990 : decode cL_law 990 = .ok (.iconst 3, 1) := by decide +kernel
theorem dL_law_991 : decode cL_law 991 = .ok (.iadd, 1) := by decide +kernel
theorem dL_law_992 : decode cL_law 992 = .ok (.iaload, 1) := by decide +kernel
theorem dL_law_993 : decode cL_law 993 = .ok (.i2l, 1) := by decide +kernel
theorem dL_law_994 : decode cL_law 994 = .ok (.bipush 32, 2) := by decide +kernel
theorem dL_law_996 : decode cL_law 996 = .ok (.lshl, 1) := by decide +kernel
theorem dL_law_997 : decode cL_law 997 = .ok (.aload_n 0, 1) := by decide +kernel
theorem dL_law_998 : decode cL_law 998 = .ok (.iload_n 3, 1) := by decide +kernel
theorem dL_law_999 : decode cL_law 999 = .ok (.iconst 4, 1) := by decide +kernel
theorem dL_law_1000 : decode cL_law 1000 = .ok (.iadd, 1) := by decide +kernel
theorem dL_law_1001 : decode cL_law 1001 = .ok (.iaload, 1) := by decide +kernel
theorem dL_law_1002 : decode cL_law 1002 = .ok (.i2l, 1) := by decide +kernel
theorem dL_law_1003 : decode cL_law 1003 = .ok (.ldc2_w 117, 3) := by decide +kernel
theorem dL_law_1006 : decode cL_law 1006 = .ok (.land, 1) := by decide +kernel
theorem dL_law_1007 : decode cL_law 1007 = .ok (.lor, 1) := by decide +kernel
theorem dL_law_1008 : decode cL_law 1008 = .ok (.invokevirtual 123, 3) := by decide +kernel
theorem dL_law_1011 : decode cL_law 1011 = .ok (.lcmp, 1) := by decide +kernel
theorem dL_law_1012 : decode cL_law 1012 = .ok (.ifCond .eq 242, 3) := by decide +kernel
theorem dL_law_1015 : decode cL_law 1015 = .ok (.iconst 0, 1) := by decide +kernel
theorem dL_law_1016 : decode cL_law 1016 = .ok (.ireturn, 1) := by decide +kernel
theorem dL_law_1017 : decode cL_law 1017 = .ok (.aload_n 1, 1) := by decide +kernel
theorem dL_law_1018 : decode cL_law 1018 = .ok (.aload_n 0, 1) := by decide +kernel
theorem dL_law_1019 : decode cL_law 1019 = .ok (.iload_n 3, 1) := by decide +kernel
theorem dL_law_1020 : decode cL_law 1020 = .ok (.iconst 1, 1) := by decide +kernel
theorem dL_law_1021 : decode cL_law 1021 = .ok (.iadd, 1) := by decide +kernel
theorem dL_law_1022 : decode cL_law 1022 = .ok (.iaload, 1) := by decide +kernel
theorem dL_law_1023 : decode cL_law 1023 = .ok (.aload_n 0, 1) := by decide +kernel
theorem dL_law_1024 : decode cL_law 1024 = .ok (.iload_n 3, 1) := by decide +kernel
theorem dL_law_1025 : decode cL_law 1025 = .ok (.iconst 2, 1) := by decide +kernel
theorem dL_law_1026 : decode cL_law 1026 = .ok (.iadd, 1) := by decide +kernel
theorem dL_law_1027 : decode cL_law 1027 = .ok (.iaload, 1) := by decide +kernel
theorem dL_law_1028 : decode cL_law 1028 = .ok (.aload_n 0, 1) := by decide +kernel
theorem dL_law_1029 : decode cL_law 1029 = .ok (.iload_n 3, 1) := by decide +kernel
theorem dL_law_1030 : decode cL_law 1030 = .ok (.iconst 3, 1) := by decide +kernel
theorem dL_law_1031 : decode cL_law 1031 = .ok (.iadd, 1) := by decide +kernel
theorem dL_law_1032 : decode cL_law 1032 = .ok (.iaload, 1) := by decide +kernel
theorem dL_law_1033 : decode cL_law 1033 = .ok (.aload_n 0, 1) := by decide +kernel
theorem dL_law_1034 : decode cL_law 1034 = .ok (.iload_n 3, 1) := by decide +kernel
theorem dL_law_1035 : decode cL_law 1035 = .ok (.iconst 4, 1) := by decide +kernel
theorem dL_law_1036 : decode cL_law 1036 = .ok (.iadd, 1) := by decide +kernel
theorem dL_law_1037 : decode cL_law 1037 = .ok (.iaload, 1) := by decide +kernel
theorem dL_law_1038 : decode cL_law 1038 = .ok (.aload_n 0, 1) := by decide +kernel
theorem dL_law_1039 : decode cL_law 1039 = .ok (.iload_n 3, 1) := by decide +kernel
theorem dL_law_1040 : decode cL_law 1040 = .ok (.iconst 5, 1) := by decide +kernel
theorem dL_law_1041 : decode cL_law 1041 = .ok (.iadd, 1) := by decide +kernel
theorem dL_law_1042 : decode cL_law 1042 = .ok (.iaload, 1) := by decide +kernel
theorem dL_law_1043 : decode cL_law 1043 = .ok (.invokevirtual 124, 3) := by decide +kernel
theorem dL_law_1046 : decode cL_law 1046 = .ok (.aload_n 2, 1) := by decide +kernel
theorem dL_law_1047 : decode cL_law 1047 = .ok (.aload_n 0, 1) := by decide +kernel
theorem dL_law_1048 : decode cL_law 1048 = .ok (.iload_n 3, 1) := by decide +kernel
theorem dL_law_1049 : decode cL_law 1049 = .ok (.iconst 1, 1) := by decide +kernel
theorem dL_law_1050 : decode cL_law 1050 = .ok (.iadd, 1) := by decide +kernel
theorem dL_law_1051 : decode cL_law 1051 = .ok (.iaload, 1) := by decide +kernel
theorem dL_law_1052 : decode cL_law 1052 = .ok (.aload_n 0, 1) := by decide +kernel
theorem dL_law_1053 : decode cL_law 1053 = .ok (.iload_n 3, 1) := by decide +kernel
theorem dL_law_1054 : decode cL_law 1054 = .ok (.iconst 2, 1) := by decide +kernel
theorem dL_law_1055 : decode cL_law 1055 = .ok (.iadd, 1) := by decide +kernel
theorem dL_law_1056 : decode cL_law 1056 = .ok (.iaload, 1) := by decide +kernel
theorem dL_law_1057 : decode cL_law 1057 = .ok (.aload_n 0, 1) := by decide +kernel
theorem dL_law_1058 : decode cL_law 1058 = .ok (.iload_n 3, 1) := by decide +kernel
theorem dL_law_1059 : decode cL_law 1059 = .ok (.iconst 3, 1) := by decide +kernel
theorem dL_law_1060 : decode cL_law 1060 = .ok (.iadd, 1) := by decide +kernel
theorem dL_law_1061 : decode cL_law 1061 = .ok (.iaload, 1) := by decide +kernel
theorem dL_law_1062 : decode cL_law 1062 = .ok (.aload_n 0, 1) := by decide +kernel
theorem dL_law_1063 : decode cL_law 1063 = .ok (.iload_n 3, 1) := by decide +kernel
theorem dL_law_1064 : decode cL_law 1064 = .ok (.iconst 4, 1) := by decide +kernel
theorem dL_law_1065 : decode cL_law 1065 = .ok (.iadd, 1) := by decide +kernel
theorem dL_law_1066 : decode cL_law 1066 = .ok (.iaload, 1) := by decide +kernel
theorem dL_law_1067 : decode cL_law 1067 = .ok (.aload_n 0, 1) := by decide +kernel
theorem dL_law_1068 : decode cL_law 1068 = .ok (.iload_n 3, 1) := by decide +kernel
theorem dL_law_1069 : decode cL_law 1069 = .ok (.iconst 5, 1) := by decide +kernel
theorem dL_law_1070 : decode cL_law 1070 = .ok (.iadd, 1) := by decide +kernel
theorem dL_law_1071 : decode cL_law 1071 = .ok (.iaload, 1) := by decide +kernel
theorem dL_law_1072 : decode cL_law 1072 = .ok (.invokevirtual 128, 3) := by decide +kernel
theorem dL_law_1075 : decode cL_law 1075 = .ok (.if_icmp .eq 179, 3) := by decide +kernel
theorem dL_law_1078 : decode cL_law 1078 = .ok (.iconst 0, 1) := by decide +kernel
theorem dL_law_1079 : decode cL_law 1079 = .ok (.ireturn, 1) := by decide +kernel
theorem dL_law_1080 : decode cL_law 1080 = .ok (.aload_n 1, 1) := by decide +kernel
theorem dL_law_1081 : decode cL_law 1081 = .ok (.aload_n 0, 1) := by decide +kernel
theorem dL_law_1082 : decode cL_law 1082 = .ok (.iload_n 3, 1) := by decide +kernel
theorem dL_law_1083 : decode cL_law 1083 = .ok (.iconst 1, 1) := by decide +kernel
theorem dL_law_1084 : decode cL_law 1084 = .ok (.iadd, 1) := by decide +kernel
theorem dL_law_1085 : decode cL_law 1085 = .ok (.iaload, 1) := by decide +kernel
theorem dL_law_1086 : decode cL_law 1086 = .ok (.invokevirtual 129, 3) := by decide +kernel
theorem dL_law_1089 : decode cL_law 1089 = .ok (.aload_n 2, 1) := by decide +kernel
theorem dL_law_1090 : decode cL_law 1090 = .ok (.aload_n 0, 1) := by decide +kernel
theorem dL_law_1091 : decode cL_law 1091 = .ok (.iload_n 3, 1) := by decide +kernel
theorem dL_law_1092 : decode cL_law 1092 = .ok (.iconst 1, 1) := by decide +kernel
theorem dL_law_1093 : decode cL_law 1093 = .ok (.iadd, 1) := by decide +kernel
theorem dL_law_1094 : decode cL_law 1094 = .ok (.iaload, 1) := by decide +kernel
theorem dL_law_1095 : decode cL_law 1095 = .ok (.invokevirtual 132, 3) := by decide +kernel
theorem dL_law_1098 : decode cL_law 1098 = .ok (.if_icmp .eq 156, 3) := by decide +kernel
theorem dL_law_1101 : decode cL_law 1101 = .ok (.iconst 0, 1) := by decide +kernel
theorem dL_law_1102 : decode cL_law 1102 = .ok (.ireturn, 1) := by decide +kernel
theorem dL_law_1103 : decode cL_law 1103 = .ok (.aload_n 1, 1) := by decide +kernel
theorem dL_law_1104 : decode cL_law 1104 = .ok (.aload_n 0, 1) := by decide +kernel
theorem dL_law_1105 : decode cL_law 1105 = .ok (.iload_n 3, 1) := by decide +kernel
theorem dL_law_1106 : decode cL_law 1106 = .ok (.iconst 1, 1) := by decide +kernel
theorem dL_law_1107 : decode cL_law 1107 = .ok (.iadd, 1) := by decide +kernel
theorem dL_law_1108 : decode cL_law 1108 = .ok (.iaload, 1) := by decide +kernel
theorem dL_law_1109 : decode cL_law 1109 = .ok (.aload_n 0, 1) := by decide +kernel
theorem dL_law_1110 : decode cL_law 1110 = .ok (.iload_n 3, 1) := by decide +kernel
theorem dL_law_1111 : decode cL_law 1111 = .ok (.iconst 2, 1) := by decide +kernel
theorem dL_law_1112 : decode cL_law 1112 = .ok (.iadd, 1) := by decide +kernel
theorem dL_law_1113 : decode cL_law 1113 = .ok (.iaload, 1) := by decide +kernel
theorem dL_law_1114 : decode cL_law 1114 = .ok (.invokevirtual 133, 3) := by decide +kernel
theorem dL_law_1117 : decode cL_law 1117 = .ok (.aload_n 2, 1) := by decide +kernel
theorem dL_law_1118 : decode cL_law 1118 = .ok (.aload_n 0, 1) := by decide +kernel
theorem dL_law_1119 : decode cL_law 1119 = .ok (.iload_n 3, 1) := by decide +kernel
theorem dL_law_1120 : decode cL_law 1120 = .ok (.iconst 1, 1) := by decide +kernel
theorem dL_law_1121 : decode cL_law 1121 = .ok (.iadd, 1) := by decide +kernel
theorem dL_law_1122 : decode cL_law 1122 = .ok (.iaload, 1) := by decide +kernel
theorem dL_law_1123 : decode cL_law 1123 = .ok (.aload_n 0, 1) := by decide +kernel
theorem dL_law_1124 : decode cL_law 1124 = .ok (.iload_n 3, 1) := by decide +kernel
theorem dL_law_1125 : decode cL_law 1125 = .ok (.iconst 2, 1) := by decide +kernel
theorem dL_law_1126 : decode cL_law 1126 = .ok (.iadd, 1) := by decide +kernel
theorem dL_law_1127 : decode cL_law 1127 = .ok (.iaload, 1) := by decide +kernel
theorem dL_law_1128 : decode cL_law 1128 = .ok (.invokevirtual 136, 3) := by decide +kernel
theorem dL_law_1131 : decode cL_law 1131 = .ok (.if_icmp .eq 123, 3) := by decide +kernel
theorem dL_law_1134 : decode cL_law 1134 = .ok (.iconst 0, 1) := by decide +kernel
theorem dL_law_1135 : decode cL_law 1135 = .ok (.ireturn, 1) := by decide +kernel
theorem dL_law_1136 : decode cL_law 1136 = .ok (.aload_n 1, 1) := by decide +kernel
theorem dL_law_1137 : decode cL_law 1137 = .ok (.aload_n 0, 1) := by decide +kernel
theorem dL_law_1138 : decode cL_law 1138 = .ok (.iload_n 3, 1) := by decide +kernel
theorem dL_law_1139 : decode cL_law 1139 = .ok (.iconst 1, 1) := by decide +kernel
theorem dL_law_1140 : decode cL_law 1140 = .ok (.iadd, 1) := by decide +kernel
theorem dL_law_1141 : decode cL_law 1141 = .ok (.iaload, 1) := by decide +kernel
theorem dL_law_1142 : decode cL_law 1142 = .ok (.aload_n 0, 1) := by decide +kernel
theorem dL_law_1143 : decode cL_law 1143 = .ok (.iload_n 3, 1) := by decide +kernel
theorem dL_law_1144 : decode cL_law 1144 = .ok (.iconst 2, 1) := by decide +kernel
theorem dL_law_1145 : decode cL_law 1145 = .ok (.iadd, 1) := by decide +kernel
theorem dL_law_1146 : decode cL_law 1146 = .ok (.iaload, 1) := by decide +kernel
theorem dL_law_1147 : decode cL_law 1147 = .ok (.invokevirtual 137, 3) := by decide +kernel
theorem dL_law_1150 : decode cL_law 1150 = .ok (.aload_n 2, 1) := by decide +kernel
theorem dL_law_1151 : decode cL_law 1151 = .ok (.aload_n 0, 1) := by decide +kernel
theorem dL_law_1152 : decode cL_law 1152 = .ok (.iload_n 3, 1) := by decide +kernel
theorem dL_law_1153 : decode cL_law 1153 = .ok (.iconst 1, 1) := by decide +kernel
theorem dL_law_1154 : decode cL_law 1154 = .ok (.iadd, 1) := by decide +kernel
theorem dL_law_1155 : decode cL_law 1155 = .ok (.iaload, 1) := by decide +kernel
theorem dL_law_1156 : decode cL_law 1156 = .ok (.aload_n 0, 1) := by decide +kernel
theorem dL_law_1157 : decode cL_law 1157 = .ok (.iload_n 3, 1) := by decide +kernel
theorem dL_law_1158 : decode cL_law 1158 = .ok (.iconst 2, 1) := by decide +kernel
theorem dL_law_1159 : decode cL_law 1159 = .ok (.iadd, 1) := by decide +kernel
theorem dL_law_1160 : decode cL_law 1160 = .ok (.iaload, 1) := by decide +kernel
theorem dL_law_1161 : decode cL_law 1161 = .ok (.invokevirtual 140, 3) := by decide +kernel
theorem dL_law_1164 : decode cL_law 1164 = .ok (.if_icmp .eq 90, 3) := by decide +kernel
theorem dL_law_1167 : decode cL_law 1167 = .ok (.iconst 0, 1) := by decide +kernel
theorem dL_law_1168 : decode cL_law 1168 = .ok (.ireturn, 1) := by decide +kernel
theorem dL_law_1169 : decode cL_law 1169 = .ok (.aload_n 1, 1) := by decide +kernel
theorem dL_law_1170 : decode cL_law 1170 = .ok (.invokevirtual 141, 3) := by decide +kernel
theorem dL_law_1173 : decode cL_law 1173 = .ok (.aload_n 2, 1) := by decide +kernel
theorem dL_law_1174 : decode cL_law 1174 = .ok (.invokevirtual 144, 3) := by decide +kernel
theorem dL_law_1177 : decode cL_law 1177 = .ok (.if_icmp .eq 77, 3) := by decide +kernel
theorem dL_law_1180 : decode cL_law 1180 = .ok (.iconst 0, 1) := by decide +kernel
theorem dL_law_1181 : decode cL_law 1181 = .ok (.ireturn, 1) := by decide +kernel
theorem dL_law_1182 : decode cL_law 1182 = .ok (.aload_n 1, 1) := by decide +kernel
theorem dL_law_1183 : decode cL_law 1183 = .ok (.invokevirtual 145, 3) := by decide +kernel
theorem dL_law_1186 : decode cL_law 1186 = .ok (.aload_n 2, 1) := by decide +kernel
theorem dL_law_1187 : decode cL_law 1187 = .ok (.invokevirtual 148, 3) := by decide +kernel
theorem dL_law_1190 : decode cL_law 1190 = .ok (.if_icmp .eq 64, 3) := by decide +kernel
theorem dL_law_1193 : decode cL_law 1193 = .ok (.iconst 0, 1) := by decide +kernel
theorem dL_law_1194 : decode cL_law 1194 = .ok (.ireturn, 1) := by decide +kernel
theorem dL_law_1195 : decode cL_law 1195 = .ok (.aload_n 1, 1) := by decide +kernel
theorem dL_law_1196 : decode cL_law 1196 = .ok (.invokevirtual 149, 3) := by decide +kernel
theorem dL_law_1199 : decode cL_law 1199 = .ok (.aload_n 2, 1) := by decide +kernel
theorem dL_law_1200 : decode cL_law 1200 = .ok (.invokevirtual 152, 3) := by decide +kernel
theorem dL_law_1203 : decode cL_law 1203 = .ok (.if_icmp .eq 51, 3) := by decide +kernel
theorem dL_law_1206 : decode cL_law 1206 = .ok (.iconst 0, 1) := by decide +kernel
theorem dL_law_1207 : decode cL_law 1207 = .ok (.ireturn, 1) := by decide +kernel
theorem dL_law_1208 : decode cL_law 1208 = .ok (.aload_n 1, 1) := by decide +kernel
theorem dL_law_1209 : decode cL_law 1209 = .ok (.aload_n 0, 1) := by decide +kernel
theorem dL_law_1210 : decode cL_law 1210 = .ok (.iload_n 3, 1) := by decide +kernel
theorem dL_law_1211 : decode cL_law 1211 = .ok (.iconst 1, 1) := by decide +kernel
theorem dL_law_1212 : decode cL_law 1212 = .ok (.iadd, 1) := by decide +kernel
theorem dL_law_1213 : decode cL_law 1213 = .ok (.iaload, 1) := by decide +kernel
theorem dL_law_1214 : decode cL_law 1214 = .ok (.invokevirtual 153, 3) := by decide +kernel
theorem dL_law_1217 : decode cL_law 1217 = .ok (.aload_n 2, 1) := by decide +kernel
theorem dL_law_1218 : decode cL_law 1218 = .ok (.aload_n 0, 1) := by decide +kernel
theorem dL_law_1219 : decode cL_law 1219 = .ok (.iload_n 3, 1) := by decide +kernel
theorem dL_law_1220 : decode cL_law 1220 = .ok (.iconst 1, 1) := by decide +kernel
theorem dL_law_1221 : decode cL_law 1221 = .ok (.iadd, 1) := by decide +kernel
theorem dL_law_1222 : decode cL_law 1222 = .ok (.iaload, 1) := by decide +kernel
theorem dL_law_1223 : decode cL_law 1223 = .ok (.invokevirtual 156, 3) := by decide +kernel
theorem dL_law_1226 : decode cL_law 1226 = .ok (.if_icmp .eq 28, 3) := by decide +kernel
theorem dL_law_1229 : decode cL_law 1229 = .ok (.iconst 0, 1) := by decide +kernel
theorem dL_law_1230 : decode cL_law 1230 = .ok (.ireturn, 1) := by decide +kernel
theorem dL_law_1231 : decode cL_law 1231 = .ok (.aload_n 1, 1) := by decide +kernel
theorem dL_law_1232 : decode cL_law 1232 = .ok (.aload_n 0, 1) := by decide +kernel
theorem dL_law_1233 : decode cL_law 1233 = .ok (.iload_n 3, 1) := by decide +kernel
theorem dL_law_1234 : decode cL_law 1234 = .ok (.iconst 1, 1) := by decide +kernel
theorem dL_law_1235 : decode cL_law 1235 = .ok (.iadd, 1) := by decide +kernel
theorem dL_law_1236 : decode cL_law 1236 = .ok (.iaload, 1) := by decide +kernel
theorem dL_law_1237 : decode cL_law 1237 = .ok (.invokevirtual 157, 3) := by decide +kernel
theorem dL_law_1240 : decode cL_law 1240 = .ok (.aload_n 2, 1) := by decide +kernel
theorem dL_law_1241 : decode cL_law 1241 = .ok (.aload_n 0, 1) := by decide +kernel
theorem dL_law_1242 : decode cL_law 1242 = .ok (.iload_n 3, 1) := by decide +kernel
theorem dL_law_1243 : decode cL_law 1243 = .ok (.iconst 1, 1) := by decide +kernel
theorem dL_law_1244 : decode cL_law 1244 = .ok (.iadd, 1) := by decide +kernel
theorem dL_law_1245 : decode cL_law 1245 = .ok (.iaload, 1) := by decide +kernel
theorem dL_law_1246 : decode cL_law 1246 = .ok (.invokevirtual 160, 3) := by decide +kernel
theorem dL_law_1249 : decode cL_law 1249 = .ok (.if_icmp .eq 5, 3) := by decide +kernel
theorem dL_law_1252 : decode cL_law 1252 = .ok (.iconst 0, 1) := by decide +kernel
theorem dL_law_1253 : decode cL_law 1253 = .ok (.ireturn, 1) := by decide +kernel
theorem dL_law_1254 : decode cL_law 1254 = .ok (.iinc 3 6, 3) := by decide +kernel
theorem dL_law_1257 : decode cL_law 1257 = .ok (.goto (-1239), 3) := by decide +kernel
theorem dL_law_1260 : decode cL_law 1260 = .ok (.iconst 1, 1) := by decide +kernel
theorem dL_law_1261 : decode cL_law 1261 = .ok (.ireturn, 1) := by decide +kernel
end
section
/-! the abstract walk: AW (a walk at a pc over an abstract heap) and CT (a method's contract), both over the kit's W and Met -/
abbrev AHt : Type := Nat → va_E
abbrev MDt : Type := MethodName × ByteArray × Nat × Option FieldType
abbrev EVt : Type := Launch × va_G × (Nat → ClassId) × Nat × (Nat → Nat) × (Nat → Nat) × Nat × Nat × (Nat → Int32)
def ev_l (E : EVt) : Launch := E.1
def ev_D (E : EVt) : va_G := E.2.1
def ev_cy (E : EVt) : Nat → ClassId := E.2.2.1
def ev_z (E : EVt) : Nat := E.2.2.2.1
def ev_K (E : EVt) : Nat → Nat := E.2.2.2.2.1
def ev_V (E : EVt) : Nat → Nat := E.2.2.2.2.2.1
def ev_b (E : EVt) : Nat := E.2.2.2.2.2.2.1
def ev_L (E : EVt) : Nat := E.2.2.2.2.2.2.2.1
def ev_x (E : EVt) : Nat → Int32 := E.2.2.2.2.2.2.2.2
def gtbl : List Cond := lw_tbl.filter goodWord
theorem gt_in {w : Cond} {i : Nat} (h : tables_1[i]? = some w) (hg : goodWord w = true) : w ∈ gtbl :=
  List.mem_filter.mpr ⟨List.mem_append_right _ (List.mem_of_getElem? h), hg⟩
theorem gt_sel {q : MethodName × Nat} {w : Cond} (h : w ∈ k2_sels lw_privs) (hg : goodWord w = true) : w ∈ gtbl :=
  List.mem_filter.mpr ⟨List.mem_append_left _ h, hg⟩
theorem gt_good : GoodIn gtbl gtbl := fun w hw => ⟨hw, good_of_word (List.mem_filter.mp hw).2⟩
def wsOf (M : MDt) : List Cond := Cond.code M.1 M.2.1 M.2.2.1 M.2.2.2 :: gtbl
theorem wsOf_good {M : MDt} (h : Cond.code M.1 M.2.1 M.2.2.1 M.2.2.2 ∈ gtbl) : GoodIn gtbl (wsOf M) := by
  intro w hw
  rcases List.mem_cons.mp hw with rfl | hw
  · exact gt_good _ h
  · exact gt_good w hw
def tysOf (cy : Nat → ClassId) : List (ClassId × FieldType) := [(cy 0, .int), (cy 1, .long), (cy 2, .byte), (cy 3, .object RX4), (cy 4, .object RX2), (cy 5, .object RX5), (cy 6, .object RX6)]
def wl (z n : Nat) (h : AHt) : va_W := (List.range n).map (fun k => (z + k, h k))
theorem wl_get {z n k : Nat} {h : AHt} (hk : k < n) : (wl z n h)[k]? = some (z + k, h k) := by
  simp [wl, hk]
theorem wl_get' {z n k : Nat} {h : AHt} {e : va_E} (hk : k < n) (he : h k = e) : (wl z n h)[k]? = some (z + k, e) := by
  rw [wl_get hk, he]
theorem wl_of {z n k : Nat} {h : AHt} {q : Nat × va_E} (hq : (wl z n h)[k]? = some q) : k < n ∧ q = (z + k, h k) := by
  have hk : k < n := by
    have := (List.getElem?_eq_some_iff.mp hq).1
    simpa [wl] using this
  rw [wl_get hk] at hq
  exact ⟨hk, (Option.some.inj hq).symm⟩
theorem wl_set {z n k : Nat} {h : AHt} {e : va_E} (hk : k < n) : (wl z n h).set k (z + k, e) = wl z n (va_up h k e) := by
  apply List.ext_getElem?
  intro i
  rw [List.getElem?_set]
  by_cases hi : i < n
  · rw [wl_get hi, wl_get hi]
    by_cases hik : k = i
    · subst hik
      simp [wl, hk, va_up]
    · simp [hik, va_up, Ne.symm hik]
  · have e1 : (wl z n h)[i]? = none := by simp [wl]; omega
    have e2 : (wl z n (va_up h k e))[i]? = none := by simp [wl]; omega
    rw [e1, e2, if_neg (by omega)]
theorem wl_push {z n : Nat} {h : AHt} {e : va_E} : wl z n h ++ [(z + n, e)] = wl z (n + 1) (va_up h n e) := by
  apply List.ext_getElem?
  intro i
  have hl : (wl z n h).length = n := by simp [wl]
  rcases Nat.lt_trichotomy i n with hi | hi | hi
  · rw [List.getElem?_append_left (by omega), wl_get hi, wl_get (by omega)]
    simp [va_up, Nat.ne_of_lt hi]
  · subst hi
    rw [List.getElem?_append_right (by omega), wl_get (by omega), hl]
    simp [va_up]
  · have e2 : (wl z (n + 1) (va_up h n e))[i]? = none := by simp [wl]; omega
    rw [e2, List.getElem?_append_right (by omega), hl]
    rw [List.getElem?_eq_none]
    simp
    omega
theorem wl_D (z n : Nat) (h : AHt) : va_D (fun q => z ≤ q) (wl z n h) := by
  refine ⟨fun i j p q hp hq e => ?_, fun k q hq => ?_⟩
  · obtain ⟨-, rfl⟩ := wl_of hp
    obtain ⟨-, rfl⟩ := wl_of hq
    have e : z + i = z + j := e
    omega
  · obtain ⟨-, rfl⟩ := wl_of hq
    exact Nat.le_add_right z k
/-- the words that are not tables' words of the steady sort: nest mates, declared, castable -/
def nw_tbl : List Cond := [.methodLinkNest RX0 30 yX5_init RX11, .methodLinkNest RX11 41 yX9_init RX11, .methodLinkNest RX11 52 yX6_init RX11, .methodLinkNest RX2 69 yX11_within RX11, .methodLinkNest RX9 136 yX11_within RX11, .declares yX4_felts, .declares yX4_keeps, .castable RX10 RX4, .castable RX1 RX4, .castable RX7 RX4, .castable RX3 RX4, .castable RX8 RX4]
/-- the String constants of the Tape: pool entry and text -/
def sk_ix : List Nat := [77, 79, 81, 83, 85, 87, 89, 109, 52, 61, 66, 71, 75]
def sk_tx : List String := ["garment", "wool", "cotton", "silk", "jumper", "sock", "size", "thick", "person", "degrees", "wash", "towels", "none"]
def sk_by : List (List Int32) := [[103, 97, 114, 109, 101, 110, 116], [119, 111, 111, 108], [99, 111, 116, 116, 111, 110], [115, 105, 108, 107], [106, 117, 109, 112, 101, 114], [115, 111, 99, 107], [115, 105, 122, 101], [116, 104, 105, 99, 107], [112, 101, 114, 115, 111, 110], [100, 101, 103, 114, 101, 101, 115], [119, 97, 115, 104], [116, 111, 119, 101, 108, 115], [110, 111, 110, 101]]
def sk_ln : List Nat := [7, 4, 6, 4, 6, 4, 4, 5, 6, 7, 4, 6, 4]
def aw_A (E : EVt) : Nat → Prop := fun q => ev_z E ≤ q
/-- what holds of the tables and of the old cells, at any state of the run -/
def aw_K (E : EVt) (U : State) : Prop :=
  va_K (ev_D E) vwCl (tysOf (ev_cy E)) U ∧ (∀ w ∈ nw_tbl, va_Nw w U) ∧ (∀ C ∈ [RX4, RX2, RX5, RX6], va_AO C U) ∧ (∀ i : Nat, i < 13 → vk_R RX9 (sk_ix.getD i 0) (sk_tx.getD i "") (ev_K E i) U) ∧ ev_b E < ev_z E ∧ ev_z E ≤ U.heap.size ∧
  vk_S 13 sk_ln sk_by (ev_K E) (ev_V E) (aw_A E) U U.heap ∧ va_Z RJ0 "COMPACT_STRINGS" "Z" (.int 1) (aw_A E) U U.heap ∧ va_Zq RJ3 "SIOOBE_FORMATTER" "Ljava/util/function/BiFunction;" (aw_A E) U U.heap ∧ va_X (ev_b E) (ev_L E) (ev_x E) U U.heap
theorem nw_warm {s U : State} (hW : s.WarmedH U.vm) : ∀ w ∈ nw_tbl, va_Nw w s → va_Nw w U := by
  intro w hw h
  simp only [nw_tbl, List.mem_cons, List.not_mem_nil, or_false] at hw
  rcases hw with rfl | rfl | rfl | rfl | rfl | rfl | rfl | rfl | rfl | rfl | rfl | rfl
  · exact va_Nw.warmM hW h
  · exact va_Nw.warmM hW h
  · exact va_Nw.warmM hW h
  · exact va_Nw.warmM hW h
  · exact va_Nw.warmM hW h
  · exact va_Nw.warmD hW h
  · exact va_Nw.warmD hW h
  · exact va_Nw.warmC hW h
  · exact va_Nw.warmC hW h
  · exact va_Nw.warmC hW h
  · exact va_Nw.warmC hW h
  · exact va_Nw.warmC hW h
theorem aw_K.at {E : EVt} {s U : State} {locs : List Loc} (h : aw_K E s) (hW : s.WarmedH U.vm) (hS : va_S (aw_A E) s.heap U.heap locs) : aw_K E U := by
  obtain ⟨h1, h2, h3, h4, h5, h6, h7, h8, h9, h10⟩ := h
  refine ⟨va_K.moved hW.alike h1, fun w hw => nw_warm hW w hw (h2 w hw), fun C hC => va_AO.moved hW.alike (h3 C hC), fun i hi => (h4 i hi).warm hW, h5, Nat.le_trans h6 hS.1, (vk_S.moved hW.alike h7).kept hS.2.1, (va_Z.moved hW.alike h8).kept hS.2.1, (va_Zq.moved hW.alike h9).kept hS.2.1, (va_X.moved hW.alike h10).kept (hS.2.1 _ (Nat.lt_of_lt_of_le h5 h6) (fun q => absurd q (Nat.not_le.mpr h5)))⟩
theorem aw_K.calling {E : EVt} {U : State} {g : JFrame} {mk : MethodId} {a : Array Value} (h : aw_K E U) : aw_K E (U.calling g mk a) := by
  obtain ⟨h1, h2, h3, h4, h5, h6, h7, h8, h9, h10⟩ := h
  have hv : U.vm = (U.calling g mk a).vm := rfl
  have hh : U.heap = (U.calling g mk a).heap := rfl
  have hal : U.vm.Alike (U.calling g mk a).vm := Vm.Alike.refl U.vm
  refine ⟨va_K.moved hal h1, fun w hw => ?_, fun C hC => va_AO.moved hal (h3 C hC), fun i hi => vk_R.same rfl (h4 i hi), h5, h6, vk_S.moved hal h7, va_Z.moved hal h8, va_Zq.moved hal h9, va_X.moved hal h10⟩
  have h := h2 w hw
  simp only [nw_tbl, List.mem_cons, List.not_mem_nil, or_false] at hw
  rcases hw with rfl | rfl | rfl | rfl | rfl | rfl | rfl | rfl | rfl | rfl | rfl | rfl <;> exact va_Nw.same rfl hv h
def rmOf (d mc ms : Nat) : Room := { frames := d, cells := mc, slots := ms, locals := 36 * d + 4 }
def aw_C (M : MDt) (p : Program) (s : State) (m : MethodId) (args : Array Value) (meth : Method) (c : Code) : Prop :=
  p.tables.exec = Jvm.exec ∧ c.code = M.2.1 ∧ c.maxLocals = M.2.2.1 ∧ s.vm.findClass M.1.cls = some m.cls ∧ (∀ w ∈ gtbl, w.before args s = true) ∧ meth.sig.returnType = M.2.2.2 ∧ meth.locks = false ∧ meth.name = M.1.name
def aw_Q (E : EVt) (M : MDt) (n : Nat) (Q : Value → AHt → Prop) : Array Value → State → Outcome → State → Prop := fun _ st o t =>
  (∃ (v : Value) (h : AHt), Q v h ∧ o = .returned (M.2.2.2.map (fun _ => v)) ∧ va_P (ev_D E) vwCl (wl (ev_z E) n h) t.heap) ∧ va_F (aw_A E) st t
def aw_P (E : EVt) (n : Nat) (h : AHt) (U : State) : Prop := aw_K E U ∧ va_P (ev_D E) vwCl (wl (ev_z E) n h) U.heap ∧ U.heap.size = ev_z E + n
/-- the method's contract: from av and the heap h (of B.1 cells) it comes to a value and a heap with Q, having made B.2.1 cells of B.2.2 slots, its calls d deep -/
def CT (E : EVt) (d : Nat) (M : MDt) (B : Nat × Nat × Nat) (av : List Value) (h : AHt) (Q : Value → AHt → Prop) : Prop :=
  Met (ev_l E) M.1 (wsOf M) (rmOf d B.2.1 B.2.2) (va_Pc av (aw_P E B.1 h)) (aw_Q E M (B.1 + B.2.1) Q) B.2.1 B.2.2 (aw_A E)
/-- the walk at pc -/
def AW (E : EVt) (d : Nat) (M : MDt) (B : Nat × Nat × Nat) (cells slots pc : Nat) (lv : List (Nat × Value)) (st : List Value) (h : AHt) (Q : Value → AHt → Prop) : Prop :=
  ∀ (p : Program) (e : Env) (s : State) (m : MethodId) (args : Array Value) (below : List Frame) (meth : Method) (c : Code) (H : Heap) (locs : List Loc) (ls : Array Slot),
    aw_C M p s m args meth c → aw_K E s → va_P (ev_D E) vwCl (wl (ev_z E) (B.1 + cells) h) H → s.heap.size = ev_z E + B.1 → va_S (aw_A E) s.heap H locs → lv_has ls M.2.2.1 lv →
    W p (ev_l E) e (rmOf d B.2.1 B.2.2) s m args below meth c H locs cells slots (MQ below (aw_Q E M (B.1 + B.2.1) Q) args s B.2.1 B.2.2 (aw_A E)) (F0 m pc ls st)
theorem CT.of {E : EVt} {d : Nat} {M : MDt} {B : Nat × Nat × Nat} {av : List Value} {h : AHt} {Q : Value → AHt → Prop} {lv : List (Nat × Value)} (hy : plainName M.1.cls = true) (hlen : (lg_sl av).length ≤ M.2.2.1) (hlv : lv_args 0 av = lv)
    (k : AW E d M B 0 0 0 lv [] h Q) : CT E d M B av h Q := by
  refine Met.ofW (cc := M.2.1) (maxL := M.2.2.1) (ret := M.2.2.2) hy rfl ?_
  intro p e s m args below meth c s₁ Bd hml hv
  obtain ⟨rfl, hK, hP, hz⟩ := hv
  have hts := atoms_spec (ws := wsOf M) Bd.pre
  have hown : s.vm.findClass M.1.cls = some m.cls := findClass_of_methodNamed Bd.named
  have hl := lv_entry av (n := M.2.2.1) hlen
  rw [hlv] at hl
  rw [lg_entry_eq]
  exact k p e s m _ below meth c s.heap [] _ ⟨Bd.exec, Bd.bytes, hml, hown, fun w hw => hts w (List.mem_cons_of_mem _ hw), Bd.returns, Bd.notSynchronized, (name_of_methodNamed Bd.named Bd.method).1⟩ hK hP hz va_S.rf hl
/-- how many cells there are, wherever the walk stands -/
theorem aw_sz {p : Program} {l : Launch} {e : Env} {R : Room} {s : State} {m : MethodId} {args : Array Value} {below : List Frame} {meth : Method} {c : Code} {H : Heap} {locs : List Loc} {cells slots : Nat} {Q : State → Prop} {g : JFrame} {D : va_G} {cl : List vw_C} {z n : Nat} {h : AHt} {A : Nat → Prop} (hs0 : s.heap.size = z + n) (hP : va_P D cl (wl z (n + cells) h) H) (hS : va_S A s.heap H locs)
    (kk : H.size = z + (n + cells) → W p l e R s m args below meth c H locs cells slots Q g) : W p l e R s m args below meth c H locs cells slots Q g := by
  intro T hT X
  have h1 := X.heapSize
  rw [hT, hs0] at h1
  have h2 : z + (n + cells) ≤ H.size := by
    rcases Nat.eq_zero_or_pos cells with h0 | h0
    · have := hS.1
      omega
    · have := (hP (n + cells - 1) _ (wl_get (by omega))).lt
      dsimp at this
      omega
  exact kk (by omega) T hT X
end
section
section AWR
variable {E : EVt} {d : Nat} {M : MDt} {B : Nat × Nat × Nat} {cells slots pc q : Nat} {lv : List (Nat × Value)} {st : List Value} {h : AHt} {Q : Value → AHt → Prop}
theorem aw_iadd {x y : Int32} (hd : decode M.2.1 pc = .ok (.iadd, 1)) (hq : pc + 1 = q) (k : AW E d M B cells slots q lv (.int (x + y) :: st) h Q) : AW E d M B cells slots pc lv (.int y :: .int x :: st) h Q := by
  intro p e s m args below meth c H locs ls hC hK hP hz hS hl
  subst hq
  exact lv_iadd hC.1 hC.2.1 hd (k p e s m args below meth c H locs ls hC hK hP hz hS hl)
theorem aw_isub {x y : Int32} (hd : decode M.2.1 pc = .ok (.isub, 1)) (hq : pc + 1 = q) (k : AW E d M B cells slots q lv (.int (x - y) :: st) h Q) : AW E d M B cells slots pc lv (.int y :: .int x :: st) h Q := by
  intro p e s m args below meth c H locs ls hC hK hP hz hS hl
  subst hq
  exact lv_isub hC.1 hC.2.1 hd (k p e s m args below meth c H locs ls hC hK hP hz hS hl)
theorem aw_imul {x y : Int32} (hd : decode M.2.1 pc = .ok (.imul, 1)) (hq : pc + 1 = q) (k : AW E d M B cells slots q lv (.int (x * y) :: st) h Q) : AW E d M B cells slots pc lv (.int y :: .int x :: st) h Q := by
  intro p e s m args below meth c H locs ls hC hK hP hz hS hl
  subst hq
  exact lv_imul hC.1 hC.2.1 hd (k p e s m args below meth c H locs ls hC hK hP hz hS hl)
theorem aw_iand {x y : Int32} (hd : decode M.2.1 pc = .ok (.iand, 1)) (hq : pc + 1 = q) (k : AW E d M B cells slots q lv (.int (x &&& y) :: st) h Q) : AW E d M B cells slots pc lv (.int y :: .int x :: st) h Q := by
  intro p e s m args below meth c H locs ls hC hK hP hz hS hl
  subst hq
  exact lv_iand hC.1 hC.2.1 hd (k p e s m args below meth c H locs ls hC hK hP hz hS hl)
theorem aw_ior {x y : Int32} (hd : decode M.2.1 pc = .ok (.ior, 1)) (hq : pc + 1 = q) (k : AW E d M B cells slots q lv (.int (x ||| y) :: st) h Q) : AW E d M B cells slots pc lv (.int y :: .int x :: st) h Q := by
  intro p e s m args below meth c H locs ls hC hK hP hz hS hl
  subst hq
  exact lv_ior hC.1 hC.2.1 hd (k p e s m args below meth c H locs ls hC hK hP hz hS hl)
theorem aw_ixor {x y : Int32} (hd : decode M.2.1 pc = .ok (.ixor, 1)) (hq : pc + 1 = q) (k : AW E d M B cells slots q lv (.int (x ^^^ y) :: st) h Q) : AW E d M B cells slots pc lv (.int y :: .int x :: st) h Q := by
  intro p e s m args below meth c H locs ls hC hK hP hz hS hl
  subst hq
  exact lv_ixor hC.1 hC.2.1 hd (k p e s m args below meth c H locs ls hC hK hP hz hS hl)
theorem aw_ishl {x y : Int32} (hd : decode M.2.1 pc = .ok (.ishl, 1)) (hq : pc + 1 = q) (k : AW E d M B cells slots q lv (.int (x <<< (y &&& 31)) :: st) h Q) : AW E d M B cells slots pc lv (.int y :: .int x :: st) h Q := by
  intro p e s m args below meth c H locs ls hC hK hP hz hS hl
  subst hq
  exact lv_ishl hC.1 hC.2.1 hd (k p e s m args below meth c H locs ls hC hK hP hz hS hl)
theorem aw_ishr {x y : Int32} (hd : decode M.2.1 pc = .ok (.ishr, 1)) (hq : pc + 1 = q) (k : AW E d M B cells slots q lv (.int (x >>> (y &&& 31)) :: st) h Q) : AW E d M B cells slots pc lv (.int y :: .int x :: st) h Q := by
  intro p e s m args below meth c H locs ls hC hK hP hz hS hl
  subst hq
  exact lv_ishr hC.1 hC.2.1 hd (k p e s m args below meth c H locs ls hC hK hP hz hS hl)
theorem aw_iushr {x y : Int32} (hd : decode M.2.1 pc = .ok (.iushr, 1)) (hq : pc + 1 = q) (k : AW E d M B cells slots q lv (.int (x.toUInt32 >>> (y.toUInt32 &&& Int32.toUInt32 31)).toInt32 :: st) h Q) : AW E d M B cells slots pc lv (.int y :: .int x :: st) h Q := by
  intro p e s m args below meth c H locs ls hC hK hP hz hS hl
  subst hq
  exact lv_iushr hC.1 hC.2.1 hd rfl (k p e s m args below meth c H locs ls hC hK hP hz hS hl)
theorem aw_idiv {x y : Int32} (hd : decode M.2.1 pc = .ok (.idiv, 1)) (hne : ¬ y = 0) (hq : pc + 1 = q) (k : AW E d M B cells slots q lv (.int (x / y) :: st) h Q) : AW E d M B cells slots pc lv (.int y :: .int x :: st) h Q := by
  intro p e s m args below meth c H locs ls hC hK hP hz hS hl
  subst hq
  exact lv_idiv hC.1 hC.2.1 hd hne (k p e s m args below meth c H locs ls hC hK hP hz hS hl)
theorem aw_irem {x y : Int32} (hd : decode M.2.1 pc = .ok (.irem, 1)) (hne : ¬ y = 0) (hq : pc + 1 = q) (k : AW E d M B cells slots q lv (.int (x - x / y * y) :: st) h Q) : AW E d M B cells slots pc lv (.int y :: .int x :: st) h Q := by
  intro p e s m args below meth c H locs ls hC hK hP hz hS hl
  subst hq
  exact lv_irem hC.1 hC.2.1 hd hne (k p e s m args below meth c H locs ls hC hK hP hz hS hl)
theorem aw_ladd {x y : Int64} (hd : decode M.2.1 pc = .ok (.ladd, 1)) (hq : pc + 1 = q) (k : AW E d M B cells slots q lv (.long (x + y) :: st) h Q) : AW E d M B cells slots pc lv (.long y :: .long x :: st) h Q := by
  intro p e s m args below meth c H locs ls hC hK hP hz hS hl
  subst hq
  exact lv_ladd hC.1 hC.2.1 hd (k p e s m args below meth c H locs ls hC hK hP hz hS hl)
theorem aw_lsub {x y : Int64} (hd : decode M.2.1 pc = .ok (.lsub, 1)) (hq : pc + 1 = q) (k : AW E d M B cells slots q lv (.long (x - y) :: st) h Q) : AW E d M B cells slots pc lv (.long y :: .long x :: st) h Q := by
  intro p e s m args below meth c H locs ls hC hK hP hz hS hl
  subst hq
  exact lv_lsub hC.1 hC.2.1 hd (k p e s m args below meth c H locs ls hC hK hP hz hS hl)
theorem aw_lmul {x y : Int64} (hd : decode M.2.1 pc = .ok (.lmul, 1)) (hq : pc + 1 = q) (k : AW E d M B cells slots q lv (.long (x * y) :: st) h Q) : AW E d M B cells slots pc lv (.long y :: .long x :: st) h Q := by
  intro p e s m args below meth c H locs ls hC hK hP hz hS hl
  subst hq
  exact lv_lmul hC.1 hC.2.1 hd (k p e s m args below meth c H locs ls hC hK hP hz hS hl)
theorem aw_land {x y : Int64} (hd : decode M.2.1 pc = .ok (.land, 1)) (hq : pc + 1 = q) (k : AW E d M B cells slots q lv (.long (x &&& y) :: st) h Q) : AW E d M B cells slots pc lv (.long y :: .long x :: st) h Q := by
  intro p e s m args below meth c H locs ls hC hK hP hz hS hl
  subst hq
  exact lv_land hC.1 hC.2.1 hd (k p e s m args below meth c H locs ls hC hK hP hz hS hl)
theorem aw_lor {x y : Int64} (hd : decode M.2.1 pc = .ok (.lor, 1)) (hq : pc + 1 = q) (k : AW E d M B cells slots q lv (.long (x ||| y) :: st) h Q) : AW E d M B cells slots pc lv (.long y :: .long x :: st) h Q := by
  intro p e s m args below meth c H locs ls hC hK hP hz hS hl
  subst hq
  exact lv_lor hC.1 hC.2.1 hd (k p e s m args below meth c H locs ls hC hK hP hz hS hl)
theorem aw_lshl {x : Int64} {y : Int32} (hd : decode M.2.1 pc = .ok (.lshl, 1)) (hq : pc + 1 = q) (k : AW E d M B cells slots q lv (.long (x <<< (y.toInt64 &&& 63)) :: st) h Q) : AW E d M B cells slots pc lv (.int y :: .long x :: st) h Q := by
  intro p e s m args below meth c H locs ls hC hK hP hz hS hl
  subst hq
  exact lv_lshl hC.1 hC.2.1 hd rfl (k p e s m args below meth c H locs ls hC hK hP hz hS hl)
theorem aw_i2l {x : Int32} (hd : decode M.2.1 pc = .ok (.i2l, 1)) (hq : pc + 1 = q) (k : AW E d M B cells slots q lv (.long x.toInt64 :: st) h Q) : AW E d M B cells slots pc lv (.int x :: st) h Q := by
  intro p e s m args below meth c H locs ls hC hK hP hz hS hl
  subst hq
  exact lv_i2l hC.1 hC.2.1 hd rfl (k p e s m args below meth c H locs ls hC hK hP hz hS hl)
theorem aw_l2i {x : Int64} (hd : decode M.2.1 pc = .ok (.l2i, 1)) (hq : pc + 1 = q) (k : AW E d M B cells slots q lv (.int x.toInt32 :: st) h Q) : AW E d M B cells slots pc lv (.long x :: st) h Q := by
  intro p e s m args below meth c H locs ls hC hK hP hz hS hl
  subst hq
  exact lv_l2i hC.1 hC.2.1 hd rfl (k p e s m args below meth c H locs ls hC hK hP hz hS hl)
theorem aw_i2b {x : Int32} (hd : decode M.2.1 pc = .ok (.i2b, 1)) (hq : pc + 1 = q) (k : AW E d M B cells slots q lv (.int x.toInt8.toInt32 :: st) h Q) : AW E d M B cells slots pc lv (.int x :: st) h Q := by
  intro p e s m args below meth c H locs ls hC hK hP hz hS hl
  subst hq
  exact lv_i2b hC.1 hC.2.1 hd rfl (k p e s m args below meth c H locs ls hC hK hP hz hS hl)
theorem aw_i2s {x : Int32} (hd : decode M.2.1 pc = .ok (.i2s, 1)) (hq : pc + 1 = q) (k : AW E d M B cells slots q lv (.int x.toInt16.toInt32 :: st) h Q) : AW E d M B cells slots pc lv (.int x :: st) h Q := by
  intro p e s m args below meth c H locs ls hC hK hP hz hS hl
  subst hq
  exact lv_i2s hC.1 hC.2.1 hd rfl (k p e s m args below meth c H locs ls hC hK hP hz hS hl)
theorem aw_i2c {x : Int32} (hd : decode M.2.1 pc = .ok (.i2c, 1)) (hq : pc + 1 = q) (k : AW E d M B cells slots q lv (.int (x.toUInt32 % 65536).toInt32 :: st) h Q) : AW E d M B cells slots pc lv (.int x :: st) h Q := by
  intro p e s m args below meth c H locs ls hC hK hP hz hS hl
  subst hq
  exact lv_i2c hC.1 hC.2.1 hd rfl (k p e s m args below meth c H locs ls hC hK hP hz hS hl)
theorem aw_iconst {n : Int} {v : Int32} (hd : decode M.2.1 pc = .ok (.iconst n, 1)) (hv : Int32.ofInt n = v) (hq : pc + 1 = q) (k : AW E d M B cells slots q lv (.int v :: st) h Q) : AW E d M B cells slots pc lv st h Q := by
  intro p e s m args below meth c H locs ls hC hK hP hz hS hl
  subst hq
  exact lv_iconst hC.1 hC.2.1 hd hv (k p e s m args below meth c H locs ls hC hK hP hz hS hl)
theorem aw_bipush {n : Int} {v : Int32} (hd : decode M.2.1 pc = .ok (.bipush n, 2)) (hv : (Int8.ofInt n).toInt32 = v) (hq : pc + 2 = q) (k : AW E d M B cells slots q lv (.int v :: st) h Q) : AW E d M B cells slots pc lv st h Q := by
  intro p e s m args below meth c H locs ls hC hK hP hz hS hl
  subst hq
  exact lv_bipush hC.1 hC.2.1 hd hv (k p e s m args below meth c H locs ls hC hK hP hz hS hl)
theorem aw_sipush {n : Int} {v : Int32} (hd : decode M.2.1 pc = .ok (.sipush n, 3)) (hv : (Int16.ofInt n).toInt32 = v) (hq : pc + 3 = q) (k : AW E d M B cells slots q lv (.int v :: st) h Q) : AW E d M B cells slots pc lv st h Q := by
  intro p e s m args below meth c H locs ls hC hK hP hz hS hl
  subst hq
  exact lv_sipush hC.1 hC.2.1 hd hv (k p e s m args below meth c H locs ls hC hK hP hz hS hl)
theorem aw_lconst {n : Fin 2} {v : Int64} (hd : decode M.2.1 pc = .ok (.lconst n, 1)) (hv : Int64.ofNat (n : Nat) = v) (hq : pc + 1 = q) (k : AW E d M B cells slots q lv (.long v :: st) h Q) : AW E d M B cells slots pc lv st h Q := by
  intro p e s m args below meth c H locs ls hC hK hP hz hS hl
  subst hq
  exact lv_lconst hC.1 hC.2.1 hd hv (k p e s m args below meth c H locs ls hC hK hP hz hS hl)
theorem aw_dup {a : Value} (hd : decode M.2.1 pc = .ok (.dup, 1)) (ha : a.category = 1) (hq : pc + 1 = q) (k : AW E d M B cells slots q lv (a :: a :: st) h Q) : AW E d M B cells slots pc lv (a :: st) h Q := by
  intro p e s m args below meth c H locs ls hC hK hP hz hS hl
  subst hq
  exact lv_dup hC.1 hC.2.1 hd ha (k p e s m args below meth c H locs ls hC hK hP hz hS hl)
theorem aw_pop {a : Value} (hd : decode M.2.1 pc = .ok (.pop, 1)) (ha : a.category = 1) (hq : pc + 1 = q) (k : AW E d M B cells slots q lv st h Q) : AW E d M B cells slots pc lv (a :: st) h Q := by
  intro p e s m args below meth c H locs ls hC hK hP hz hS hl
  subst hq
  exact lv_pop hC.1 hC.2.1 hd ha (k p e s m args below meth c H locs ls hC hK hP hz hS hl)
theorem aw_dup2 {a b : Value} (hd : decode M.2.1 pc = .ok (.dup2, 1)) (ha : a.category = 1) (hb : b.category = 1) (hq : pc + 1 = q) (k : AW E d M B cells slots q lv (a :: b :: a :: b :: st) h Q) : AW E d M B cells slots pc lv (a :: b :: st) h Q := by
  intro p e s m args below meth c H locs ls hC hK hP hz hS hl
  subst hq
  exact lv_dup2_11 hC.1 hC.2.1 hd ha hb (k p e s m args below meth c H locs ls hC hK hP hz hS hl)
theorem aw_null (hd : decode M.2.1 pc = .ok (.aconst_null, 1)) (hq : pc + 1 = q) (k : AW E d M B cells slots q lv (.null :: st) h Q) : AW E d M B cells slots pc lv st h Q := by
  intro p e s m args below meth c H locs ls hC hK hP hz hS hl
  subst hq
  exact lv_null hC.1 hC.2.1 hd (k p e s m args below meth c H locs ls hC hK hP hz hS hl)
theorem aw_ldc {ix : Nat} {v : Int32} (hd : decode M.2.1 pc = .ok (.ldc ix, 2)) (hw : Cond.constant M.1.cls ix v ∈ gtbl) (hq : pc + 2 = q) (k : AW E d M B cells slots q lv (.int v :: st) h Q) : AW E d M B cells slots pc lv st h Q := by
  intro p e s m args below meth c H locs ls hC hK hP hz hS hl
  subst hq
  exact lv_ldc hC.1 hC.2.1 hC.2.2.2.1 (hC.2.2.2.2.1 _ hw) hd (k p e s m args below meth c H locs ls hC hK hP hz hS hl)
theorem aw_ldcw {ix : Nat} {v : Int32} (hd : decode M.2.1 pc = .ok (.ldc_w ix, 3)) (hw : Cond.constant M.1.cls ix v ∈ gtbl) (hq : pc + 3 = q) (k : AW E d M B cells slots q lv (.int v :: st) h Q) : AW E d M B cells slots pc lv st h Q := by
  intro p e s m args below meth c H locs ls hC hK hP hz hS hl
  subst hq
  exact lv_ldcw hC.1 hC.2.1 hC.2.2.2.1 (hC.2.2.2.2.1 _ hw) hd (k p e s m args below meth c H locs ls hC hK hP hz hS hl)
theorem aw_ldc2 {ix : Nat} {v : Int64} (hd : decode M.2.1 pc = .ok (.ldc2_w ix, 3)) (hw : Cond.constantLong M.1.cls ix v ∈ gtbl) (hq : pc + 3 = q) (k : AW E d M B cells slots q lv (.long v :: st) h Q) : AW E d M B cells slots pc lv st h Q := by
  intro p e s m args below meth c H locs ls hC hK hP hz hS hl
  subst hq
  exact lv_ldc2 hC.1 hC.2.1 hC.2.2.2.1 (hC.2.2.2.2.1 _ hw) hd (k p e s m args below meth c H locs ls hC hK hP hz hS hl)
end AWR
def lvg : List (Nat × Value) → Nat → Option Value
  | [], _ => none
  | (j, v) :: t, i => match Nat.beq j i with
    | true => some v
    | false => lvg t i
theorem lvg_at {ls : Array Slot} {nL : Nat} {l : List (Nat × Value)} (h : lv_has ls nL l) {i : Nat} {v : Value} (hk : lvg l i = some v) : ls[i]? = some (.val v) := by
  have hm : (i, v) ∈ l := by
    clear h
    induction l with
    | nil => simp [lvg] at hk
    | cons a t ih =>
      obtain ⟨j, w⟩ := a
      simp only [lvg] at hk
      split at hk
      · rename_i hb
        have := Nat.eq_of_beq_eq_true hb
        subst this
        cases hk
        exact List.mem_cons_self
      · exact List.mem_cons_of_mem _ (ih hk)
  exact h.2.2 (i, v) hm
section AWR2
variable {E : EVt} {d : Nat} {M : MDt} {B : Nat × Nat × Nat} {cells slots pc q : Nat} {lv : List (Nat × Value)} {st : List Value} {h : AHt} {Q : Value → AHt → Prop}
theorem aw_iload_n {x : Int32} {j : Fin 4} {i : Nat} (hd : decode M.2.1 pc = .ok (.iload_n j, 1)) (hi : (j : Nat) = i) (hv : lvg lv i = some (.int x)) (hq : pc + 1 = q) (k : AW E d M B cells slots q lv (.int x :: st) h Q) : AW E d M B cells slots pc lv st h Q := by
  intro p e s m args below meth c H locs ls hC hK hP hz hS hl
  subst hq
  exact lv_iload_n hC.1 hC.2.1 hd hi (lvg_at hl hv) (k p e s m args below meth c H locs ls hC hK hP hz hS hl)
theorem aw_iload {x : Int32} {i : Nat} (hd : decode M.2.1 pc = .ok (.iload i, 2)) (hv : lvg lv i = some (.int x)) (hq : pc + 2 = q) (k : AW E d M B cells slots q lv (.int x :: st) h Q) : AW E d M B cells slots pc lv st h Q := by
  intro p e s m args below meth c H locs ls hC hK hP hz hS hl
  subst hq
  exact lv_iload hC.1 hC.2.1 hd (lvg_at hl hv) (k p e s m args below meth c H locs ls hC hK hP hz hS hl)
theorem aw_lload_n {x : Int64} {j : Fin 4} {i : Nat} (hd : decode M.2.1 pc = .ok (.lload_n j, 1)) (hi : (j : Nat) = i) (hv : lvg lv i = some (.long x)) (hq : pc + 1 = q) (k : AW E d M B cells slots q lv (.long x :: st) h Q) : AW E d M B cells slots pc lv st h Q := by
  intro p e s m args below meth c H locs ls hC hK hP hz hS hl
  subst hq
  exact lv_lload_n hC.1 hC.2.1 hd hi (lvg_at hl hv) (k p e s m args below meth c H locs ls hC hK hP hz hS hl)
theorem aw_lload {x : Int64} {i : Nat} (hd : decode M.2.1 pc = .ok (.lload i, 2)) (hv : lvg lv i = some (.long x)) (hq : pc + 2 = q) (k : AW E d M B cells slots q lv (.long x :: st) h Q) : AW E d M B cells slots pc lv st h Q := by
  intro p e s m args below meth c H locs ls hC hK hP hz hS hl
  subst hq
  exact lv_lload hC.1 hC.2.1 hd (lvg_at hl hv) (k p e s m args below meth c H locs ls hC hK hP hz hS hl)
theorem aw_aload_n {x : Nat} {j : Fin 4} {i : Nat} (hd : decode M.2.1 pc = .ok (.aload_n j, 1)) (hi : (j : Nat) = i) (hv : lvg lv i = some (.ref x)) (hq : pc + 1 = q) (k : AW E d M B cells slots q lv (.ref x :: st) h Q) : AW E d M B cells slots pc lv st h Q := by
  intro p e s m args below meth c H locs ls hC hK hP hz hS hl
  subst hq
  exact lv_aload_n hC.1 hC.2.1 hd hi (lvg_at hl hv) (k p e s m args below meth c H locs ls hC hK hP hz hS hl)
theorem aw_aload {x : Nat} {i : Nat} (hd : decode M.2.1 pc = .ok (.aload i, 2)) (hv : lvg lv i = some (.ref x)) (hq : pc + 2 = q) (k : AW E d M B cells slots q lv (.ref x :: st) h Q) : AW E d M B cells slots pc lv st h Q := by
  intro p e s m args below meth c H locs ls hC hK hP hz hS hl
  subst hq
  exact lv_aload hC.1 hC.2.1 hd (lvg_at hl hv) (k p e s m args below meth c H locs ls hC hK hP hz hS hl)
theorem aw_aload_nN {j : Fin 4} {i : Nat} (hd : decode M.2.1 pc = .ok (.aload_n j, 1)) (hi : (j : Nat) = i) (hv : lvg lv i = some .null) (hq : pc + 1 = q) (k : AW E d M B cells slots q lv (.null :: st) h Q) : AW E d M B cells slots pc lv st h Q := by
  intro p e s m args below meth c H locs ls hC hK hP hz hS hl
  subst hq
  exact lv_aload_nN hC.1 hC.2.1 hd hi (lvg_at hl hv) (k p e s m args below meth c H locs ls hC hK hP hz hS hl)
theorem aw_aloadN {i : Nat} (hd : decode M.2.1 pc = .ok (.aload i, 2)) (hv : lvg lv i = some .null) (hq : pc + 2 = q) (k : AW E d M B cells slots q lv (.null :: st) h Q) : AW E d M B cells slots pc lv st h Q := by
  intro p e s m args below meth c H locs ls hC hK hP hz hS hl
  subst hq
  exact lv_aloadN hC.1 hC.2.1 hd (lvg_at hl hv) (k p e s m args below meth c H locs ls hC hK hP hz hS hl)
theorem aw_istore_n {x : Int32} {j : Fin 4} {i : Nat} {lv' : List (Nat × Value)} (hd : decode M.2.1 pc = .ok (.istore_n j, 1)) (hi : (j : Nat) = i) (hn : i < M.2.2.1) (hv : (i, Value.int x) :: lv.filter (fun q => !(q.1 == i) && !(q.1 + 1 == i && q.2.category == 2)) = lv') (hq : pc + 1 = q) (k : AW E d M B cells slots q lv' st h Q) : AW E d M B cells slots pc lv (.int x :: st) h Q := by
  intro p e s m args below meth c H locs ls hC hK hP hz hS hl
  subst hq
  exact lv_istore_n hC.1 hC.2.1 hd hi hl hn hv (fun ls' hl' => k p e s m args below meth c H locs ls' hC hK hP hz hS hl')
theorem aw_istore {x : Int32} {i : Nat} {lv' : List (Nat × Value)} (hd : decode M.2.1 pc = .ok (.istore i, 2)) (hn : i < M.2.2.1) (hv : (i, Value.int x) :: lv.filter (fun q => !(q.1 == i) && !(q.1 + 1 == i && q.2.category == 2)) = lv') (hq : pc + 2 = q) (k : AW E d M B cells slots q lv' st h Q) : AW E d M B cells slots pc lv (.int x :: st) h Q := by
  intro p e s m args below meth c H locs ls hC hK hP hz hS hl
  subst hq
  exact lv_istore hC.1 hC.2.1 hd hl hn hv (fun ls' hl' => k p e s m args below meth c H locs ls' hC hK hP hz hS hl')
theorem aw_lstore_n {x : Int64} {j : Fin 4} {i : Nat} {lv' : List (Nat × Value)} (hd : decode M.2.1 pc = .ok (.lstore_n j, 1)) (hi : (j : Nat) = i) (hn : i + 1 < M.2.2.1) (hv : (i, Value.long x) :: lv.filter (fun q => !(q.1 == i) && (!(q.1 == i + 1) && !(q.1 + 1 == i && q.2.category == 2))) = lv') (hq : pc + 1 = q) (k : AW E d M B cells slots q lv' st h Q) : AW E d M B cells slots pc lv (.long x :: st) h Q := by
  intro p e s m args below meth c H locs ls hC hK hP hz hS hl
  subst hq
  exact lv_lstore_n hC.1 hC.2.1 hd hi hl hn hv (fun ls' hl' => k p e s m args below meth c H locs ls' hC hK hP hz hS hl')
theorem aw_lstore {x : Int64} {i : Nat} {lv' : List (Nat × Value)} (hd : decode M.2.1 pc = .ok (.lstore i, 2)) (hn : i + 1 < M.2.2.1) (hv : (i, Value.long x) :: lv.filter (fun q => !(q.1 == i) && (!(q.1 == i + 1) && !(q.1 + 1 == i && q.2.category == 2))) = lv') (hq : pc + 2 = q) (k : AW E d M B cells slots q lv' st h Q) : AW E d M B cells slots pc lv (.long x :: st) h Q := by
  intro p e s m args below meth c H locs ls hC hK hP hz hS hl
  subst hq
  exact lv_lstore hC.1 hC.2.1 hd hl hn hv (fun ls' hl' => k p e s m args below meth c H locs ls' hC hK hP hz hS hl')
theorem aw_astore_n {x : Nat} {j : Fin 4} {i : Nat} {lv' : List (Nat × Value)} (hd : decode M.2.1 pc = .ok (.astore_n j, 1)) (hi : (j : Nat) = i) (hn : i < M.2.2.1) (hv : (i, Value.ref x) :: lv.filter (fun q => !(q.1 == i) && !(q.1 + 1 == i && q.2.category == 2)) = lv') (hq : pc + 1 = q) (k : AW E d M B cells slots q lv' st h Q) : AW E d M B cells slots pc lv (.ref x :: st) h Q := by
  intro p e s m args below meth c H locs ls hC hK hP hz hS hl
  subst hq
  exact lv_astore_n hC.1 hC.2.1 hd hi hl hn hv (fun ls' hl' => k p e s m args below meth c H locs ls' hC hK hP hz hS hl')
theorem aw_astore {x : Nat} {i : Nat} {lv' : List (Nat × Value)} (hd : decode M.2.1 pc = .ok (.astore i, 2)) (hn : i < M.2.2.1) (hv : (i, Value.ref x) :: lv.filter (fun q => !(q.1 == i) && !(q.1 + 1 == i && q.2.category == 2)) = lv') (hq : pc + 2 = q) (k : AW E d M B cells slots q lv' st h Q) : AW E d M B cells slots pc lv (.ref x :: st) h Q := by
  intro p e s m args below meth c H locs ls hC hK hP hz hS hl
  subst hq
  exact lv_astore hC.1 hC.2.1 hd hl hn hv (fun ls' hl' => k p e s m args below meth c H locs ls' hC hK hP hz hS hl')
theorem aw_astore_nN {j : Fin 4} {i : Nat} {lv' : List (Nat × Value)} (hd : decode M.2.1 pc = .ok (.astore_n j, 1)) (hi : (j : Nat) = i) (hn : i < M.2.2.1) (hv : (i, Value.null) :: lv.filter (fun q => !(q.1 == i) && !(q.1 + 1 == i && q.2.category == 2)) = lv') (hq : pc + 1 = q) (k : AW E d M B cells slots q lv' st h Q) : AW E d M B cells slots pc lv (.null :: st) h Q := by
  intro p e s m args below meth c H locs ls hC hK hP hz hS hl
  subst hq
  exact lv_astore_nN hC.1 hC.2.1 hd hi hl hn hv (fun ls' hl' => k p e s m args below meth c H locs ls' hC hK hP hz hS hl')
theorem aw_astoreN {i : Nat} {lv' : List (Nat × Value)} (hd : decode M.2.1 pc = .ok (.astore i, 2)) (hn : i < M.2.2.1) (hv : (i, Value.null) :: lv.filter (fun q => !(q.1 == i) && !(q.1 + 1 == i && q.2.category == 2)) = lv') (hq : pc + 2 = q) (k : AW E d M B cells slots q lv' st h Q) : AW E d M B cells slots pc lv (.null :: st) h Q := by
  intro p e s m args below meth c H locs ls hC hK hP hz hS hl
  subst hq
  exact lv_astoreN hC.1 hC.2.1 hd hl hn hv (fun ls' hl' => k p e s m args below meth c H locs ls' hC hK hP hz hS hl')
theorem lvg_mem : ∀ {l : List (Nat × Value)} {i : Nat} {v : Value}, lvg l i = some v → ∃ k : Nat, l[k]? = some (i, v)
  | [], i, v, h => by simp [lvg] at h
  | (j, w) :: t, i, v, h => by
    simp only [lvg] at h
    split at h
    · rename_i hb
      have := Nat.eq_of_beq_eq_true hb
      subst this
      cases h
      exact ⟨0, rfl⟩
    · obtain ⟨k, hk⟩ := lvg_mem h
      exact ⟨k + 1, hk⟩
theorem aw_iinc {x w : Int32} {i : Nat} {n : Int} {lv' : List (Nat × Value)} (hd : decode M.2.1 pc = .ok (.iinc i n, 3)) (hx : lvg lv i = some (.int x)) (hw : Int32.ofInt n = w) (hn : i < M.2.2.1) (hv : (i, Value.int (x + w)) :: lv.filter (fun q => !(q.1 == i) && !(q.1 + 1 == i && q.2.category == 2)) = lv') (hq : pc + 3 = q) (k : AW E d M B cells slots q lv' st h Q) : AW E d M B cells slots pc lv st h Q := by
  intro p e s m args below meth c H locs ls hC hK hP hz hS hl
  subst hq
  obtain ⟨k0, hk0⟩ := lvg_mem hx
  exact lv_iinc hC.1 hC.2.1 hd hl hk0 (by rw [hw]) hn hv (fun ls' hl' => k p e s m args below meth c H locs ls' hC hK hP hz hS hl')
theorem aw_if_eq {x : Int32} {off : Int} {t : Nat} (hd : decode M.2.1 pc = .ok (.ifCond .eq off, 3)) (ht : (pc : Int) + off = (t : Int)) (hq : pc + 3 = q) (kt : x = 0 → AW E d M B cells slots t lv st h Q) (kf : ¬ x = 0 → AW E d M B cells slots q lv st h Q) : AW E d M B cells slots pc lv (.int x :: st) h Q := by
  intro p e s m args below meth c H locs ls hC hK hP hz hS hl
  subst hq
  exact lv_if_eq hC.1 hC.2.1 hd ht (fun g => kt g p e s m args below meth c H locs ls hC hK hP hz hS hl) (fun g => kf g p e s m args below meth c H locs ls hC hK hP hz hS hl)
theorem aw_icmp_eq {x y : Int32} {off : Int} {t : Nat} (hd : decode M.2.1 pc = .ok (.if_icmp .eq off, 3)) (ht : (pc : Int) + off = (t : Int)) (hq : pc + 3 = q) (kt : x = y → AW E d M B cells slots t lv st h Q) (kf : ¬ x = y → AW E d M B cells slots q lv st h Q) : AW E d M B cells slots pc lv (.int y :: .int x :: st) h Q := by
  intro p e s m args below meth c H locs ls hC hK hP hz hS hl
  subst hq
  exact lv_icmp_eq hC.1 hC.2.1 hd ht (fun g => kt g p e s m args below meth c H locs ls hC hK hP hz hS hl) (fun g => kf g p e s m args below meth c H locs ls hC hK hP hz hS hl)
theorem aw_if_ne {x : Int32} {off : Int} {t : Nat} (hd : decode M.2.1 pc = .ok (.ifCond .ne off, 3)) (ht : (pc : Int) + off = (t : Int)) (hq : pc + 3 = q) (kt : ¬ x = 0 → AW E d M B cells slots t lv st h Q) (kf : x = 0 → AW E d M B cells slots q lv st h Q) : AW E d M B cells slots pc lv (.int x :: st) h Q := by
  intro p e s m args below meth c H locs ls hC hK hP hz hS hl
  subst hq
  exact lv_if_ne hC.1 hC.2.1 hd ht (fun g => kt g p e s m args below meth c H locs ls hC hK hP hz hS hl) (fun g => kf g p e s m args below meth c H locs ls hC hK hP hz hS hl)
theorem aw_icmp_ne {x y : Int32} {off : Int} {t : Nat} (hd : decode M.2.1 pc = .ok (.if_icmp .ne off, 3)) (ht : (pc : Int) + off = (t : Int)) (hq : pc + 3 = q) (kt : ¬ x = y → AW E d M B cells slots t lv st h Q) (kf : x = y → AW E d M B cells slots q lv st h Q) : AW E d M B cells slots pc lv (.int y :: .int x :: st) h Q := by
  intro p e s m args below meth c H locs ls hC hK hP hz hS hl
  subst hq
  exact lv_icmp_ne hC.1 hC.2.1 hd ht (fun g => kt g p e s m args below meth c H locs ls hC hK hP hz hS hl) (fun g => kf g p e s m args below meth c H locs ls hC hK hP hz hS hl)
theorem aw_if_lt {x : Int32} {off : Int} {t : Nat} (hd : decode M.2.1 pc = .ok (.ifCond .lt off, 3)) (ht : (pc : Int) + off = (t : Int)) (hq : pc + 3 = q) (kt : x < 0 → AW E d M B cells slots t lv st h Q) (kf : ¬ x < 0 → AW E d M B cells slots q lv st h Q) : AW E d M B cells slots pc lv (.int x :: st) h Q := by
  intro p e s m args below meth c H locs ls hC hK hP hz hS hl
  subst hq
  exact lv_if_lt hC.1 hC.2.1 hd ht (fun g => kt g p e s m args below meth c H locs ls hC hK hP hz hS hl) (fun g => kf g p e s m args below meth c H locs ls hC hK hP hz hS hl)
theorem aw_icmp_lt {x y : Int32} {off : Int} {t : Nat} (hd : decode M.2.1 pc = .ok (.if_icmp .lt off, 3)) (ht : (pc : Int) + off = (t : Int)) (hq : pc + 3 = q) (kt : x < y → AW E d M B cells slots t lv st h Q) (kf : ¬ x < y → AW E d M B cells slots q lv st h Q) : AW E d M B cells slots pc lv (.int y :: .int x :: st) h Q := by
  intro p e s m args below meth c H locs ls hC hK hP hz hS hl
  subst hq
  exact lv_icmp_lt hC.1 hC.2.1 hd ht (fun g => kt g p e s m args below meth c H locs ls hC hK hP hz hS hl) (fun g => kf g p e s m args below meth c H locs ls hC hK hP hz hS hl)
theorem aw_if_ge {x : Int32} {off : Int} {t : Nat} (hd : decode M.2.1 pc = .ok (.ifCond .ge off, 3)) (ht : (pc : Int) + off = (t : Int)) (hq : pc + 3 = q) (kt : 0 ≤ x → AW E d M B cells slots t lv st h Q) (kf : ¬ 0 ≤ x → AW E d M B cells slots q lv st h Q) : AW E d M B cells slots pc lv (.int x :: st) h Q := by
  intro p e s m args below meth c H locs ls hC hK hP hz hS hl
  subst hq
  exact lv_if_ge hC.1 hC.2.1 hd ht (fun g => kt g p e s m args below meth c H locs ls hC hK hP hz hS hl) (fun g => kf g p e s m args below meth c H locs ls hC hK hP hz hS hl)
theorem aw_icmp_ge {x y : Int32} {off : Int} {t : Nat} (hd : decode M.2.1 pc = .ok (.if_icmp .ge off, 3)) (ht : (pc : Int) + off = (t : Int)) (hq : pc + 3 = q) (kt : y ≤ x → AW E d M B cells slots t lv st h Q) (kf : ¬ y ≤ x → AW E d M B cells slots q lv st h Q) : AW E d M B cells slots pc lv (.int y :: .int x :: st) h Q := by
  intro p e s m args below meth c H locs ls hC hK hP hz hS hl
  subst hq
  exact lv_icmp_ge hC.1 hC.2.1 hd ht (fun g => kt g p e s m args below meth c H locs ls hC hK hP hz hS hl) (fun g => kf g p e s m args below meth c H locs ls hC hK hP hz hS hl)
theorem aw_if_gt {x : Int32} {off : Int} {t : Nat} (hd : decode M.2.1 pc = .ok (.ifCond .gt off, 3)) (ht : (pc : Int) + off = (t : Int)) (hq : pc + 3 = q) (kt : 0 < x → AW E d M B cells slots t lv st h Q) (kf : ¬ 0 < x → AW E d M B cells slots q lv st h Q) : AW E d M B cells slots pc lv (.int x :: st) h Q := by
  intro p e s m args below meth c H locs ls hC hK hP hz hS hl
  subst hq
  exact lv_if_gt hC.1 hC.2.1 hd ht (fun g => kt g p e s m args below meth c H locs ls hC hK hP hz hS hl) (fun g => kf g p e s m args below meth c H locs ls hC hK hP hz hS hl)
theorem aw_icmp_gt {x y : Int32} {off : Int} {t : Nat} (hd : decode M.2.1 pc = .ok (.if_icmp .gt off, 3)) (ht : (pc : Int) + off = (t : Int)) (hq : pc + 3 = q) (kt : y < x → AW E d M B cells slots t lv st h Q) (kf : ¬ y < x → AW E d M B cells slots q lv st h Q) : AW E d M B cells slots pc lv (.int y :: .int x :: st) h Q := by
  intro p e s m args below meth c H locs ls hC hK hP hz hS hl
  subst hq
  exact lv_icmp_gt hC.1 hC.2.1 hd ht (fun g => kt g p e s m args below meth c H locs ls hC hK hP hz hS hl) (fun g => kf g p e s m args below meth c H locs ls hC hK hP hz hS hl)
theorem aw_if_le {x : Int32} {off : Int} {t : Nat} (hd : decode M.2.1 pc = .ok (.ifCond .le off, 3)) (ht : (pc : Int) + off = (t : Int)) (hq : pc + 3 = q) (kt : x ≤ 0 → AW E d M B cells slots t lv st h Q) (kf : ¬ x ≤ 0 → AW E d M B cells slots q lv st h Q) : AW E d M B cells slots pc lv (.int x :: st) h Q := by
  intro p e s m args below meth c H locs ls hC hK hP hz hS hl
  subst hq
  exact lv_if_le hC.1 hC.2.1 hd ht (fun g => kt g p e s m args below meth c H locs ls hC hK hP hz hS hl) (fun g => kf g p e s m args below meth c H locs ls hC hK hP hz hS hl)
theorem aw_icmp_le {x y : Int32} {off : Int} {t : Nat} (hd : decode M.2.1 pc = .ok (.if_icmp .le off, 3)) (ht : (pc : Int) + off = (t : Int)) (hq : pc + 3 = q) (kt : x ≤ y → AW E d M B cells slots t lv st h Q) (kf : ¬ x ≤ y → AW E d M B cells slots q lv st h Q) : AW E d M B cells slots pc lv (.int y :: .int x :: st) h Q := by
  intro p e s m args below meth c H locs ls hC hK hP hz hS hl
  subst hq
  exact lv_icmp_le hC.1 hC.2.1 hd ht (fun g => kt g p e s m args below meth c H locs ls hC hK hP hz hS hl) (fun g => kf g p e s m args below meth c H locs ls hC hK hP hz hS hl)
theorem aw_goto {off : Int} {t : Nat} (hd : decode M.2.1 pc = .ok (.goto off, 3)) (ht : (pc : Int) + off = (t : Int)) (k : AW E d M B cells slots t lv st h Q) : AW E d M B cells slots pc lv st h Q := by
  intro p e s m args below meth c H locs ls hC hK hP hz hS hl
  exact lv_goto hC.1 hC.2.1 hd ht (k p e s m args below meth c H locs ls hC hK hP hz hS hl)
theorem aw_ifnull {x : Nat} {off : Int} (hd : decode M.2.1 pc = .ok (.ifnull off, 3)) (hq : pc + 3 = q) (k : AW E d M B cells slots q lv st h Q) : AW E d M B cells slots pc lv (.ref x :: st) h Q := by
  intro p e s m args below meth c H locs ls hC hK hP hz hS hl
  subst hq
  exact lv_ifnull hC.1 hC.2.1 hd (k p e s m args below meth c H locs ls hC hK hP hz hS hl)
theorem aw_ifnullN {off : Int} {t : Nat} (hd : decode M.2.1 pc = .ok (.ifnull off, 3)) (ht : (pc : Int) + off = (t : Int)) (k : AW E d M B cells slots t lv st h Q) : AW E d M B cells slots pc lv (.null :: st) h Q := by
  intro p e s m args below meth c H locs ls hC hK hP hz hS hl
  exact lv_ifnullN hC.1 hC.2.1 hd ht (k p e s m args below meth c H locs ls hC hK hP hz hS hl)
theorem aw_ifnonnull {x : Nat} {off : Int} {t : Nat} (hd : decode M.2.1 pc = .ok (.ifnonnull off, 3)) (ht : (pc : Int) + off = (t : Int)) (k : AW E d M B cells slots t lv st h Q) : AW E d M B cells slots pc lv (.ref x :: st) h Q := by
  intro p e s m args below meth c H locs ls hC hK hP hz hS hl
  exact lv_ifnonnull hC.1 hC.2.1 hd ht (k p e s m args below meth c H locs ls hC hK hP hz hS hl)
theorem aw_ifnonnullN {off : Int} (hd : decode M.2.1 pc = .ok (.ifnonnull off, 3)) (hq : pc + 3 = q) (k : AW E d M B cells slots q lv st h Q) : AW E d M B cells slots pc lv (.null :: st) h Q := by
  intro p e s m args below meth c H locs ls hC hK hP hz hS hl
  subst hq
  exact lv_ifnonnullN hC.1 hC.2.1 hd (k p e s m args below meth c H locs ls hC hK hP hz hS hl)
theorem aw_tableIn {dflt lo hi : Int} {offs : Array Int} {len t : Nat} {x : Int32} {off : Int} (hd : decode M.2.1 pc = .ok (.tableswitch dflt lo hi offs, len)) (h1 : ¬ x.toInt < lo) (h2 : ¬ hi < x.toInt) (ho : offs[(x.toInt - lo).toNat]? = some off) (ht : (pc : Int) + off = (t : Int)) (k : AW E d M B cells slots t lv st h Q) : AW E d M B cells slots pc lv (.int x :: st) h Q := by
  intro p e s m args below meth c H locs ls hC hK hP hz hS hl
  exact lv_tableIn hC.1 hC.2.1 hd h1 h2 ho ht (k p e s m args below meth c H locs ls hC hK hP hz hS hl)
theorem aw_tableOut {dflt lo hi : Int} {offs : Array Int} {len t : Nat} {x : Int32} (hd : decode M.2.1 pc = .ok (.tableswitch dflt lo hi offs, len)) (h1 : x.toInt < lo ∨ hi < x.toInt) (ht : (pc : Int) + dflt = (t : Int)) (k : AW E d M B cells slots t lv st h Q) : AW E d M B cells slots pc lv (.int x :: st) h Q := by
  intro p e s m args below meth c H locs ls hC hK hP hz hS hl
  exact lv_tableOut hC.1 hC.2.1 hd h1 ht (k p e s m args below meth c H locs ls hC hK hP hz hS hl)
theorem aw_lookup {dflt : Int} {ps : Array (Int × Int)} {len t : Nat} {x : Int32} {off : Int} (hd : decode M.2.1 pc = .ok (.lookupswitch dflt ps, len)) (hp : (ps.toList.zip (ps.toList.drop 1)).all (fun (a, next) => a.1 < next.1) = true) (ho : Op.lookupswitch.offset ps.toList dflt x.toInt = off) (ht : (pc : Int) + off = (t : Int)) (k : AW E d M B cells slots t lv st h Q) : AW E d M B cells slots pc lv (.int x :: st) h Q := by
  intro p e s m args below meth c H locs ls hC hK hP hz hS hl
  exact lv_lookup hC.1 hC.2.1 hd hp ho ht (k p e s m args below meth c H locs ls hC hK hP hz hS hl)
end AWR2
section AWR3
variable {E : EVt} {d : Nat} {M : MDt} {B : Nat × Nat × Nat} {cells slots pc q : Nat} {lv : List (Nat × Value)} {st : List Value} {h : AHt} {Q : Value → AHt → Prop}
theorem aw_lcmp {x y : Int64} (hd : decode M.2.1 pc = .ok (.lcmp, 1)) (hq : pc + 1 = q) (k : AW E d M B cells slots q lv (.int (lg_cmp x y) :: st) h Q) : AW E d M B cells slots pc lv (.long y :: .long x :: st) h Q := by
  intro p e s m args below meth c H locs ls hC hK hP hz hS hl
  subst hq
  exact W.lcmp hC.1 hC.2.1 hd (k p e s m args below meth c H locs ls hC hK hP hz hS hl)
/-- the ends -/
theorem aw_ireturn {v : Int32} {ty : FieldType} (hd : decode M.2.1 pc = .ok (.ireturn, 1)) (hr : M.2.2.2 = some ty) (hn : narrow ty (.int v) = .int v) (hc : cells ≤ B.2.1) (hs : slots ≤ B.2.2) (hcn : cells = B.2.1) (hq : Q (.int v) h) : AW E d M B cells slots pc lv [.int v] h Q := by
  intro p e s m args below meth c H locs ls hC hK hP hz hS hl
  subst hcn
  refine W.widen (Nat.le_refl _) hs ?_
  exact W.zret hC.1 hC.2.1 (hC.2.2.2.2.2.1.trans hr) hn (fun t ht hW => ⟨⟨.int v, h, hq, by rw [hr]; rfl, by rw [ht]; exact hP⟩, hS.F ht⟩) hS.2.2 hd hC.2.2.2.2.2.2.1
theorem aw_lreturn {v : Int64} (hd : decode M.2.1 pc = .ok (.lreturn, 1)) (hr : M.2.2.2 = some .long) (hs : slots ≤ B.2.2) (hcn : cells = B.2.1) (hq : Q (.long v) h) : AW E d M B cells slots pc lv [.long v] h Q := by
  intro p e s m args below meth c H locs ls hC hK hP hz hS hl
  subst hcn
  refine W.widen (Nat.le_refl _) hs ?_
  exact W.lret hC.1 hC.2.1 (hC.2.2.2.2.2.1.trans hr) (fun t ht hW => ⟨⟨.long v, h, hq, by rw [hr]; rfl, by rw [ht]; exact hP⟩, hS.F ht⟩) hS.2.2 hd hC.2.2.2.2.2.2.1
theorem aw_areturn {v : Value} {rt : FieldType} (hd : decode M.2.1 pc = .ok (.areturn, 1)) (hr : M.2.2.2 = some rt) (hrt : (∃ n, rt = .object n) ∨ ∃ t, rt = .array t) (hv : v = .null ∨ ∃ a, v = .ref a) (hs : slots ≤ B.2.2) (hcn : cells = B.2.1) (hq : Q v h) : AW E d M B cells slots pc lv [v] h Q := by
  intro p e s m args below meth c H locs ls hC hK hP hz hS hl
  subst hcn
  refine W.widen (Nat.le_refl _) hs ?_
  exact W.aret hC.1 hC.2.1 (hC.2.2.2.2.2.1.trans hr) hrt hv (fun t ht hW => ⟨⟨v, h, hq, by rw [hr]; rfl, by rw [ht]; exact hP⟩, hS.F ht⟩) hS.2.2 hd hC.2.2.2.2.2.2.1
theorem aw_return (hd : decode M.2.1 pc = .ok (.return_, 1)) (hr : M.2.2.2 = none) (hs : slots ≤ B.2.2) (hcn : cells = B.2.1) (hq : Q .null h) : AW E d M B cells slots pc lv [] h Q := by
  intro p e s m args below meth c H locs ls hC hK hP hz hS hl
  subst hcn
  refine W.widen (Nat.le_refl _) hs ?_
  exact W.vret hC.1 hC.2.1 (hC.2.2.2.2.2.1.trans hr) (fun t ht hW => ⟨⟨.null, h, hq, by rw [hr]; rfl, by rw [ht]; exact hP⟩, hS.F ht⟩) hS.2.2 hd hC.2.2.2.2.2.2.1
/-- fields: class ci's table, its place k, the link's word -/
def CKp (ci : Nat) (C : String) (T : u_T) (N : Nat) (ty : Nat → FieldType) : Prop := vwCl[ci]? = some (C, T, N) ∧ (∀ w ∈ u_ws C T N, w ∈ gtbl) ∧ (∀ k, k < N → parseFieldDescriptor (T k).2.2.1 = some (ty k)) ∧ (∀ a, a < N → ∀ b, b < N → a ≠ b → (T a).2.1 ≠ (T b).2.1)
def FG (own : String) (ix ci k : Nat) : Prop := ∃ (C : String) (T : u_T) (N : Nat) (ty : Nat → FieldType), CKp ci C T N ty ∧ k < N ∧ Cond.fieldLink own ix (T k).1 (T k).2.1 (T k).2.2.1 ∈ gtbl
def FP (own : String) (ix ci k : Nat) (ft : FieldType) : Prop := ∃ (C : String) (T : u_T) (N : Nat) (ty : Nat → FieldType), CKp ci C T N ty ∧ k < N ∧ Cond.fieldLink own ix (T k).1 (T k).2.1 (T k).2.2.1 ∈ gtbl ∧ (T k).2.2.2 = false ∧ ty k = ft
def FF (own : String) (ix ci k : Nat) (ft : FieldType) : Prop := ∃ (C : String) (T : u_T) (N : Nat) (ty : Nat → FieldType), CKp ci C T N ty ∧ k < N ∧ Cond.fieldLink own ix (T k).1 (T k).2.1 (T k).2.2.1 ∈ gtbl ∧ (T k).2.2.2 = true ∧ (T k).1 = own ∧ ty k = ft
theorem aw_getfield {ix ci k a : Nat} {fs : List Value} {v : Value} (hF : FG M.1.cls ix ci k) (hd : decode M.2.1 pc = .ok (.getfield ix, 3)) (ha : a < B.1 + cells) (hh : h a = .inr (ci, fs)) (hv : fs[k]? = some v) (hq : pc + 3 = q) (kk : AW E d M B cells slots q lv (v :: st) h Q) : AW E d M B cells slots pc lv (.ref (ev_z E + a) :: st) h Q := by
  intro p e s m args below meth c H locs ls hC hK hP hz hS hl
  subst hq
  obtain ⟨C, T, N, ty, ⟨c1, c2, c3, c4⟩, hk, hw⟩ := hF
  exact va_get (D := ev_D E) (cl := vwCl) hC.1 hC.2.1 hC.2.2.2.2.1 c2 hC.2.2.2.1 hK.1 hP a (wl_get' ha hh) c1 k hk (hC.2.2.2.2.1 _ hw) (fun _ h9 => h9) hv hd (kk p e s m args below meth c H locs ls hC hK hP hz hS hl)
theorem aw_putfield {ix ci k a : Nat} {ft : FieldType} {fs : List Value} {v : Value} (hF : FP M.1.cls ix ci k ft) (hd : decode M.2.1 pc = .ok (.putfield ix, 3)) (ha : a < B.1 + cells) (hh : h a = .inr (ci, fs)) (hk2 : k < fs.length) (hn : narrow ft v = v) (hf : fits ft v = true) (hq : pc + 3 = q) (kk : AW E d M B cells slots q lv st (va_up h a (.inr (ci, fs.set k v))) Q) : AW E d M B cells slots pc lv (v :: .ref (ev_z E + a) :: st) h Q := by
  intro p e s m args below meth c H locs ls hC hK hP hz hS hl
  subst hq
  obtain ⟨C, T, N, ty, ⟨c1, c2, c3, c4⟩, hk, hw, hfin, hty⟩ := hF
  refine va_put (D := ev_D E) (cl := vwCl) hC.1 hC.2.1 hC.2.2.2.2.1 c2 ty c3 c4 hC.2.2.2.1 hK.1 hP (wl_D _ _ _) hS a (wl_get' ha hh) c1 k hk (hC.2.2.2.2.1 _ hw) (fun _ h9 => h9) hfin (ty := ft) (by rw [c3 k hk, hty]) hn hf hk2 hd (fun H1 locs1 hP1 hD1 hS1 => ?_)
  rw [wl_set ha] at hP1
  exact kk p e s m args below meth c H1 locs1 ls hC hK hP1 hz hS1 hl
end AWR3
section AWR4
variable {E : EVt} {d : Nat} {M : MDt} {B : Nat × Nat × Nat} {cells slots pc q : Nat} {lv : List (Nat × Value)} {st : List Value} {h : AHt} {Q : Value → AHt → Prop}
theorem aw_putfieldF {ix ci k a : Nat} {ft : FieldType} {fs : List Value} {v : Value} (hF : FF M.1.cls ix ci k ft) (hin : M.1.name = "<init>") (hd : decode M.2.1 pc = .ok (.putfield ix, 3)) (ha : a < B.1 + cells) (hh : h a = .inr (ci, fs)) (hk2 : k < fs.length) (hn : narrow ft v = v) (hf : fits ft v = true) (hq : pc + 3 = q) (kk : AW E d M B cells slots q lv st (va_up h a (.inr (ci, fs.set k v))) Q) : AW E d M B cells slots pc lv (v :: .ref (ev_z E + a) :: st) h Q := by
  intro p e s m args below meth c H locs ls hC hK hP hz hS hl
  subst hq
  obtain ⟨C, T, N, ty, ⟨c1, c2, c3, c4⟩, hk, hw, hfin, hown, hty⟩ := hF
  refine va_putF (D := ev_D E) (cl := vwCl) hC.1 hC.2.1 hC.2.2.2.2.1 c2 ty c3 c4 hC.2.2.2.1 hK.1 hP (wl_D _ _ _) hS a (wl_get' ha hh) c1 k hk (hC.2.2.2.2.1 _ hw) (fun _ h9 => h9) hfin (hC.2.2.2.2.2.2.2.trans hin) hown (ty := ft) (by rw [c3 k hk, hty]) hn hf hk2 hd (fun H1 locs1 hP1 hD1 hS1 => ?_)
  rw [wl_set ha] at hP1
  exact kk p e s m args below meth c H1 locs1 ls hC hK hP1 hz hS1 hl
/-- arrays -/
abbrev aI (cA : ClassId) (n : Nat) (f : Nat → Int32) : va_E := .inl (cA, n, .inl f)
abbrev aL (cA : ClassId) (n : Nat) (f : Nat → Int64) : va_E := .inl (cA, n, .inr (.inl f))
abbrev aR (cA : ClassId) (n : Nat) (f : Nat → Option Nat) : va_E := .inl (cA, n, .inr (.inr (.inr (.inr f))))
theorem aw_iaload {a n : Nat} {f : Nat → Int32} {i v : Int32} (hd : decode M.2.1 pc = .ok (.iaload, 1)) (ha : a < B.1 + cells) (hh : h a = aI (ev_cy E 0) n f) (hi : vp_in i n) (hv : f i.toNatClampNeg = v) (hq : pc + 1 = q) (kk : AW E d M B cells slots q lv (.int v :: st) h Q) : AW E d M B cells slots pc lv (.int i :: .ref (ev_z E + a) :: st) h Q := by
  intro p e s m args below meth c H locs ls hC hK hP hz hS hl
  subst hq; subst hv
  exact va_iald (D := ev_D E) (cl := vwCl) hC.1 hC.2.1 hK.1 hP a 0 (wl_get' ha hh) rfl hi hd (kk p e s m args below meth c H locs ls hC hK hP hz hS hl)
theorem aw_baload {a n : Nat} {f : Nat → Int32} {i v : Int32} (hd : decode M.2.1 pc = .ok (.baload, 1)) (ha : a < B.1 + cells) (hh : h a = aI (ev_cy E 2) n f) (hi : vp_in i n) (hv : f i.toNatClampNeg = v) (hq : pc + 1 = q) (kk : AW E d M B cells slots q lv (.int v :: st) h Q) : AW E d M B cells slots pc lv (.int i :: .ref (ev_z E + a) :: st) h Q := by
  intro p e s m args below meth c H locs ls hC hK hP hz hS hl
  subst hq; subst hv
  exact va_bald (D := ev_D E) (cl := vwCl) hC.1 hC.2.1 hK.1 hP a 2 (wl_get' ha hh) rfl hi hd (kk p e s m args below meth c H locs ls hC hK hP hz hS hl)
theorem aw_laload {a n : Nat} {f : Nat → Int64} {i : Int32} {v : Int64} (hd : decode M.2.1 pc = .ok (.laload, 1)) (ha : a < B.1 + cells) (hh : h a = aL (ev_cy E 1) n f) (hi : vp_in i n) (hv : f i.toNatClampNeg = v) (hq : pc + 1 = q) (kk : AW E d M B cells slots q lv (.long v :: st) h Q) : AW E d M B cells slots pc lv (.int i :: .ref (ev_z E + a) :: st) h Q := by
  intro p e s m args below meth c H locs ls hC hK hP hz hS hl
  subst hq; subst hv
  exact va_lald (D := ev_D E) (cl := vwCl) hC.1 hC.2.1 hK.1 hP a 1 (wl_get' ha hh) rfl hi hd (kk p e s m args below meth c H locs ls hC hK hP hz hS hl)
theorem aw_aaload {a n t : Nat} {C : String} {cA : ClassId} {f : Nat → Option Nat} {i : Int32} {r : Nat} (ht : (tysOf (ev_cy E))[t]? = some (cA, .object C)) (hd : decode M.2.1 pc = .ok (.aaload, 1)) (ha : a < B.1 + cells) (hh : h a = aR cA n f) (hi : vp_in i n) (hv : f i.toNatClampNeg = some r) (hq : pc + 1 = q) (kk : AW E d M B cells slots q lv (.ref r :: st) h Q) : AW E d M B cells slots pc lv (.int i :: .ref (ev_z E + a) :: st) h Q := by
  intro p e s m args below meth c H locs ls hC hK hP hz hS hl
  subst hq
  refine va_aldq (D := ev_D E) (cl := vwCl) hC.1 hC.2.1 hK.1 hP a t (wl_get' ha hh) ht hi hd ?_
  rw [hv]
  exact kk p e s m args below meth c H locs ls hC hK hP hz hS hl
theorem aw_iastore {a n : Nat} {f : Nat → Int32} {i x : Int32} (hd : decode M.2.1 pc = .ok (.iastore, 1)) (ha : a < B.1 + cells) (hh : h a = aI (ev_cy E 0) n f) (hi : vp_in i n) (hq : pc + 1 = q) (kk : AW E d M B cells slots q lv st (va_up h a (aI (ev_cy E 0) n (upd f i.toNatClampNeg x))) Q) : AW E d M B cells slots pc lv (.int x :: .int i :: .ref (ev_z E + a) :: st) h Q := by
  intro p e s m args below meth c H locs ls hC hK hP hz hS hl
  subst hq
  refine va_iast (D := ev_D E) (cl := vwCl) hC.1 hC.2.1 hK.1 hP (wl_D _ _ _) hS a 0 (wl_get' ha hh) rfl hi hd (fun H1 locs1 hP1 hD1 hS1 => ?_)
  rw [wl_set ha] at hP1
  exact kk p e s m args below meth c H1 locs1 ls hC hK hP1 hz hS1 hl
theorem aw_lastore {a n : Nat} {f : Nat → Int64} {i : Int32} {x : Int64} (hd : decode M.2.1 pc = .ok (.lastore, 1)) (ha : a < B.1 + cells) (hh : h a = aL (ev_cy E 1) n f) (hi : vp_in i n) (hq : pc + 1 = q) (kk : AW E d M B cells slots q lv st (va_up h a (aL (ev_cy E 1) n (vp_updL f i.toNatClampNeg x))) Q) : AW E d M B cells slots pc lv (.long x :: .int i :: .ref (ev_z E + a) :: st) h Q := by
  intro p e s m args below meth c H locs ls hC hK hP hz hS hl
  subst hq
  refine va_last (D := ev_D E) (cl := vwCl) hC.1 hC.2.1 hK.1 hP (wl_D _ _ _) hS a 1 (wl_get' ha hh) rfl hi hd (fun H1 locs1 hP1 hD1 hS1 => ?_)
  rw [wl_set ha] at hP1
  exact kk p e s m args below meth c H1 locs1 ls hC hK hP1 hz hS1 hl
theorem aw_alen {a t : Nat} {cA : ClassId} {x : vp_A} {ty : FieldType} {v : Int32} (ht : (tysOf (ev_cy E))[t]? = some (cA, ty)) (hd : decode M.2.1 pc = .ok (.arraylength, 1)) (ha : a < B.1 + cells) (hh : h a = .inl (cA, x)) (hv : Int32.ofNat x.1 = v) (hq : pc + 1 = q) (kk : AW E d M B cells slots q lv (.int v :: st) h Q) : AW E d M B cells slots pc lv (.ref (ev_z E + a) :: st) h Q := by
  intro p e s m args below meth c H locs ls hC hK hP hz hS hl
  subst hq
  exact va_alen (D := ev_D E) (cl := vwCl) hC.1 hC.2.1 hK.1 hP a t (wl_get' ha hh) ht hv hd (kk p e s m args below meth c H locs ls hC hK hP hz hS hl)
/-- the script -/
theorem aw_sld {i v : Int32} (hd : decode M.2.1 pc = .ok (.iaload, 1)) (hi : vp_in i (ev_L E)) (hv : ev_x E i.toNatClampNeg = v) (hq : pc + 1 = q) (kk : AW E d M B cells slots q lv (.int v :: st) h Q) : AW E d M B cells slots pc lv (.int i :: .ref (ev_b E) :: st) h Q := by
  intro p e s m args below meth c H locs ls hC hK hP hz hS hl
  subst hq; subst hv
  obtain ⟨k1, k2, k3, k4, k5, k6, k7, k8, k9, k10⟩ := id hK
  exact va_sld hC.1 hC.2.1 k10 (Nat.lt_of_lt_of_le k5 k6) (fun z => absurd z (Nat.not_le.mpr k5)) hS hi hd (kk p e s m args below meth c H locs ls hC hK hP hz hS hl)
theorem aw_slen (hd : decode M.2.1 pc = .ok (.arraylength, 1)) (hq : pc + 1 = q) (kk : AW E d M B cells slots q lv (.int (Int32.ofNat (ev_L E)) :: st) h Q) : AW E d M B cells slots pc lv (.ref (ev_b E) :: st) h Q := by
  intro p e s m args below meth c H locs ls hC hK hP hz hS hl
  subst hq
  obtain ⟨k1, k2, k3, k4, k5, k6, k7, k8, k9, k10⟩ := id hK
  exact va_slen hC.1 hC.2.1 k10 (Nat.lt_of_lt_of_le k5 k6) (fun z => absurd z (Nat.not_le.mpr k5)) hS hd (kk p e s m args below meth c H locs ls hC hK hP hz hS hl)
end AWR4
end
section
section AWC
variable {p : Program} {l : Launch} {e : Env} {R : Room} {s : State} {m : MethodId} {args : Array Value} {below : List Frame} {meth : Method} {c : Code} {H : Heap} {locs : List Loc} {cells slots : Nat} {Qw : State → Prop}
theorem aw_run {E : EVt} {M' : MDt} {n mc ms pc : Nat} {ls : Array Slot} {st0 rest : List Value} {a : Array Value} {Q : Value → AHt → Prop}
    (hr : va_Run p l e R s m args below meth c H locs cells slots mc ms (F0 m pc ls st0) rest (aw_Q E M' n Q a) (aw_A E)) (hS : va_S (aw_A E) s.heap H locs)
    (kk : ∀ (v : Value) (h : AHt) (H1 : Heap) (locs1 : List Loc), Q v h → va_P (ev_D E) vwCl (wl (ev_z E) n h) H1 → va_S (aw_A E) s.heap H1 locs1 → W p l e R s m args below meth c H1 locs1 (cells + mc) (slots + ms) Qw (F0 m (pc + 3) ls ((M'.2.2.2.map (fun _ => v)).toList ++ rest))) : W p l e R s m args below meth c H locs cells slots Qw (F0 m pc ls st0) := by
  intro T hT X
  obtain ⟨v, st₀, t, T', L, h0, X', hL, e1, e2, ⟨⟨r, h, hq, hv, hp⟩, hz, hk⟩, st⟩ := hr T hT X
  cases hv
  rw [h0] at hz hk
  obtain ⟨t2, a1, b1⟩ := kk r h T'.heap (locs ++ L) hq (by rw [e1]; exact hp)
    ⟨Nat.le_trans hS.1 (by rw [e1]; exact hz), fun q h1 h2 => by rw [e1, hk q (Nat.lt_of_lt_of_le h1 hS.1) h2]; exact hS.2.1 q h1 h2, fun q hq => by
      rcases List.mem_append.mp hq with h | h
      · exact hS.2.2 q h
      · exact hL q h⟩ T' rfl X'
  exact ⟨t2, st t2 a1, b1⟩
theorem aw_blind {E : EVt} {n : Nat} {h : AHt} {av : List Value} : FrameBlind (va_Pc av (aw_P E n h)) := fun _ _ _ _ q => ⟨q.1, q.2.1.calling, q.2.2.1, q.2.2.2⟩
theorem aw_preU {E : EVt} {n : Nat} {h : AHt} {av : List Value} (hK : aw_K E s) (hS : va_S (aw_A E) s.heap H locs) (hP : va_P (ev_D E) vwCl (wl (ev_z E) n h) H) (hz : H.size = ev_z E + n) : ∀ U : State, U.heap = H → s.WarmedH U.vm → va_Pc av (aw_P E n h) av.toArray U := by
  intro U hU hW
  subst hU
  exact ⟨rfl, hK.at hW hS, hP, hz⟩
end AWC
def rOK (d' d mL : Nat) : Prop := d' + 1 ≤ d ∧ mL ≤ 17
theorem rOK.to {d' d mL mc ms mc' ms' : Nat} (h : rOK d' d mL) : (rmOf d' mc ms).frames + 1 ≤ (rmOf d mc' ms').frames ∧ 8 + (mL + 11) + (rmOf d' mc ms).locals ≤ (rmOf d mc' ms').locals := by
  have h1 := h.1
  have h2 := h.2
  refine ⟨h.1, ?_⟩
  show 8 + (mL + 11) + (36 * d' + 4) ≤ 36 * d + 4
  omega
def nMH (y : MethodName) (n : Nat) : Prop := y.cls ≠ "java/lang/invoke/MethodHandle" ∧ y.cls ≠ "java/lang/invoke/VarHandle" ∧ (parseMethodDescriptor y.desc).map (fun d => d.parameters.length) = some n
/-- a virtual call's words: the receiver is of the class that has the method -/
def MLV (own : String) (ix : Nat) (M' : MDt) (n : Nat) : Prop := (Cond.methodLink own ix M'.1 ∈ gtbl ∧ Cond.instanceMethod M'.1 ∈ gtbl ∧ Cond.selects M'.1.cls M'.1 M'.1 ∈ gtbl ∧ Cond.initialized M'.1.cls ∈ gtbl ∧ Cond.code M'.1 M'.2.1 M'.2.2.1 M'.2.2.2 ∈ gtbl) ∧ nMH M'.1 n ∧ M'.2.2.1 ≤ 17
theorem MLV.good {own : String} {ix : Nat} {M' : MDt} {n : Nat} (h : MLV own ix M' n) : GoodIn gtbl (wsV own ix M'.1.cls M'.1 (wsOf M')) := by
  obtain ⟨⟨h1, h2, h3, h4, h5⟩, -⟩ := h
  intro w hw
  unfold wsV at hw
  rcases List.mem_append.mp hw with hw | hw
  · simp only [List.mem_cons, List.not_mem_nil, or_false] at hw
    rcases hw with rfl | rfl | rfl | rfl
    · exact gt_good _ h1
    · exact gt_good _ h2
    · exact gt_good _ h3
    · exact gt_good _ h4
  · exact wsOf_good h5 w hw
section AWD
variable {E : EVt} {d d' : Nat} {M M' : MDt} {B : Nat × Nat × Nat} {cells slots pc q : Nat} {lv : List (Nat × Value)} {st : List Value} {h : AHt} {Q : Value → AHt → Prop}
theorem aw_callV {ix n ci a mc ms : Nat} {r : vw_C} {fs : List Value} {As rest : List Value} (hM : MLV M.1.cls ix M' n) (hd : decode M.2.1 pc = .ok (.invokevirtual ix, 3)) (ha : a < B.1 + cells) (hh : h a = .inr (ci, fs)) (hr : vwCl[ci]? = some r) (hr2 : r.1 = M'.1.cls) (hdd : d' + 1 ≤ d) (hn : As.length = n) (hst : As.reverse ++ .ref (ev_z E + a) :: rest = st) (hrm : (rest.map fun v => v.category).sum ≤ 8) (hc : cells + mc ≤ B.2.1) (hs : slots + ms ≤ B.2.2) (hq : pc + 3 = q)
    (k : CT E d' M' (B.1 + cells, mc, ms) (.ref (ev_z E + a) :: As) h (fun v h' => AW E d M B (cells + mc) (slots + ms) q lv ((M'.2.2.2.map (fun _ => v)).toList ++ rest) h' Q)) : AW E d M B cells slots pc lv st h Q := by
  intro p e s m args below meth c H locs ls hC hK hP hz hS hl
  subst hq; subst hst
  refine aw_sz hz hP hS (fun hsz => ?_)
  have cw : CallW (rmOf d B.2.1 B.2.2) s args M.1.cls M'.1.cls ix M'.1 M'.2.1 M'.2.2.1 M'.2.2.2 (wsOf M') (rmOf d' mc ms) mc ms n := cwV n hC.2.2.2.2.1 hM.good rfl rfl rfl ⟨rfl, hM.2.1⟩ (rOK.to ⟨hdd, hM.2.2⟩)
  have hrec := va_recv hK.1 hP hr (wl_get' ha hh)
  rw [hr2] at hrec
  refine aw_run (va_runV (As := As) (rest := rest) ⟨hC.1, hC.2.1, hC.2.2.1, hC.2.2.2.1, hC.2.2.2.2.1⟩ k cw ⟨aw_blind, hrec, aw_preU hK hS hP hsz⟩ rfl hn hl.1 rfl (by show 2 * 0 + _ ≤ 8; omega) hd ⟨hc, hs⟩) hS (fun v h1 H1 locs1 hv hP1 hS1 => ?_)
  exact hv p e s m args below meth c H1 locs1 ls hC hK (by rw [show B.1 + (cells + mc) = (B.1 + cells) + mc from (Nat.add_assoc _ _ _).symm]; exact hP1) hz hS1 hl
/-- a static call's words -/
def MLS (own : String) (ix : Nat) (M' : MDt) (n : Nat) : Prop := (Cond.methodLink own ix M'.1 ∈ gtbl ∧ Cond.static M'.1 ∈ gtbl ∧ Cond.initialized M'.1.cls ∈ gtbl ∧ Cond.code M'.1 M'.2.1 M'.2.2.1 M'.2.2.2 ∈ gtbl) ∧ nMH M'.1 n ∧ M'.2.2.1 ≤ 17
theorem aw_callS {ix n mc ms : Nat} {As rest : List Value} (hM : MLS M.1.cls ix M' n) (hd : decode M.2.1 pc = .ok (.invokestatic ix, 3)) (hdd : d' + 1 ≤ d) (hn : As.length = n) (hst : As.reverse ++ rest = st) (hrm : (rest.map fun v => v.category).sum ≤ 8) (hc : cells + mc ≤ B.2.1) (hs : slots + ms ≤ B.2.2) (hq : pc + 3 = q)
    (k : CT E d' M' (B.1 + cells, mc, ms) As h (fun v h' => AW E d M B (cells + mc) (slots + ms) q lv ((M'.2.2.2.map (fun _ => v)).toList ++ rest) h' Q)) : AW E d M B cells slots pc lv st h Q := by
  intro p e s m args below meth c H locs ls hC hK hP hz hS hl
  subst hq; subst hst
  refine aw_sz hz hP hS (fun hsz => ?_)
  have hts := hC.2.2.2.2.1
  have cb : CallB (rmOf d B.2.1 B.2.2) s args M.1.cls ix M'.1 M'.2.1 M'.2.2.1 M'.2.2.2 (wsOf M') (rmOf d' mc ms) mc ms n := callB_of n hts (wsOf_good hM.1.2.2.2) rfl rfl rfl (hts _ hM.1.2.2.1) (hts _ hM.1.1) hM.2.1 (rOK.to ⟨hdd, hM.2.2⟩)
  refine aw_run (va_runS (As := As) (rest := rest) ⟨hC.1, hC.2.1, hC.2.2.1, hC.2.2.2.1, hC.2.2.2.2.1⟩ k ⟨cb, hts _ hM.1.2.1⟩ ⟨aw_blind, aw_preU hK hS hP hsz⟩ rfl hn hl.1 rfl (by show 2 * 0 + _ ≤ 8; omega) hd ⟨hc, hs⟩) hS (fun v h1 H1 locs1 hv hP1 hS1 => ?_)
  exact hv p e s m args below meth c H1 locs1 ls hC hK (by rw [show B.1 + (cells + mc) = (B.1 + cells) + mc from (Nat.add_assoc _ _ _).symm]; exact hP1) hz hS1 hl
/-- a nest mate's static method -/
def MLN (own : String) (ix : Nat) (M' : MDt) (n : Nat) : Prop := (Cond.methodLinkNest own ix M'.1 RX11 ∈ nw_tbl ∧ Cond.static M'.1 ∈ gtbl ∧ Cond.initialized M'.1.cls ∈ gtbl ∧ Cond.code M'.1 M'.2.1 M'.2.2.1 M'.2.2.2 ∈ gtbl) ∧ nMH M'.1 n ∧ M'.2.2.1 ≤ 17
theorem aw_callSN {ix n mc ms : Nat} {As rest : List Value} (hM : MLN M.1.cls ix M' n) (hd : decode M.2.1 pc = .ok (.invokestatic ix, 3)) (hdd : d' + 1 ≤ d) (hn : As.length = n) (hst : As.reverse ++ rest = st) (hrm : (rest.map fun v => v.category).sum ≤ 8) (hc : cells + mc ≤ B.2.1) (hs : slots + ms ≤ B.2.2) (hq : pc + 3 = q)
    (k : CT E d' M' (B.1 + cells, mc, ms) As h (fun v h' => AW E d M B (cells + mc) (slots + ms) q lv ((M'.2.2.2.map (fun _ => v)).toList ++ rest) h' Q)) : AW E d M B cells slots pc lv st h Q := by
  intro p e s m args below meth c H locs ls hC hK hP hz hS hl
  subst hq; subst hst
  refine aw_sz hz hP hS (fun hsz => ?_)
  have hts := hC.2.2.2.2.1
  have cb : va_CN (rmOf d B.2.1 B.2.2) s args M.1.cls ix M'.1 RX11 M'.2.1 M'.2.2.1 M'.2.2.2 (wsOf M') (rmOf d' mc ms) mc ms n := va_cnB n hts (wsOf_good hM.1.2.2.2) rfl rfl rfl (hK.2.1 _ hM.1.1) (hts _ hM.1.2.2.1) hM.2.1 (rOK.to ⟨hdd, hM.2.2⟩)
  refine aw_run (va_runSN (As := As) (rest := rest) ⟨hC.1, hC.2.1, hC.2.2.1, hC.2.2.2.1, hC.2.2.2.2.1⟩ k ⟨cb, hts _ hM.1.2.1, trivial⟩ ⟨aw_blind, aw_preU hK hS hP hsz⟩ rfl hn hl.1 rfl (by show 2 * 0 + _ ≤ 8; omega) hd ⟨hc, hs⟩) hS (fun v h1 H1 locs1 hv hP1 hS1 => ?_)
  exact hv p e s m args below meth c H1 locs1 ls hC hK (by rw [show B.1 + (cells + mc) = (B.1 + cells) + mc from (Nat.add_assoc _ _ _).symm]; exact hP1) hz hS1 hl
/-- a method of a kind: named in owner, taken from the receiver's class C -/
def MLO (own : String) (ix : Nat) (C owner : String) (x : MethodName) (M' : MDt) (n : Nat) : Prop := (Cond.methodLink own ix x ∈ gtbl ∧ Cond.sameMethod x.cls owner x.name x.desc ∈ gtbl ∧ Cond.instanceMethod ⟨owner, x.name, x.desc⟩ ∈ gtbl ∧ (∃ b0 m0 r0, Cond.code ⟨owner, x.name, x.desc⟩ b0 m0 r0 ∈ gtbl) ∧ Cond.selects C x M'.1 ∈ gtbl ∧ Cond.instanceMethod M'.1 ∈ gtbl ∧ Cond.initialized M'.1.cls ∈ gtbl ∧ Cond.code M'.1 M'.2.1 M'.2.2.1 M'.2.2.2 ∈ gtbl) ∧ nMH ⟨owner, x.name, x.desc⟩ n ∧ M'.2.2.1 ≤ 17
theorem MLO.good {own : String} {ix : Nat} {C owner : String} {x : MethodName} {M' : MDt} {n : Nat} (h : MLO own ix C owner x M' n) : GoodIn gtbl (va_wsO own ix C owner x M'.1 (wsOf M')) := by
  obtain ⟨⟨h1, h2, h3, -, h4, h5, h6, h7⟩, -⟩ := h
  intro w hw
  unfold va_wsO at hw
  rcases List.mem_append.mp hw with hw | hw
  · simp only [List.mem_cons, List.not_mem_nil, or_false] at hw
    rcases hw with rfl | rfl | rfl | rfl | rfl | rfl
    · exact gt_good _ h1
    · exact gt_good _ h2
    · exact gt_good _ h3
    · exact gt_good _ h4
    · exact gt_good _ h5
    · exact gt_good _ h6
  · exact wsOf_good h7 w hw
theorem aw_callO {ix n ci a mc ms : Nat} {owner : String} {x : MethodName} {r : vw_C} {fs : List Value} {As rest : List Value} (hM : MLO M.1.cls ix r.1 owner x M' n) (hd : decode M.2.1 pc = .ok (.invokevirtual ix, 3)) (ha : a < B.1 + cells) (hh : h a = .inr (ci, fs)) (hr : vwCl[ci]? = some r) (hdd : d' + 1 ≤ d) (hn : As.length = n) (hst : As.reverse ++ .ref (ev_z E + a) :: rest = st) (hrm : (rest.map fun v => v.category).sum ≤ 8) (hc : cells + mc ≤ B.2.1) (hs : slots + ms ≤ B.2.2) (hq : pc + 3 = q)
    (k : CT E d' M' (B.1 + cells, mc, ms) (.ref (ev_z E + a) :: As) h (fun v h' => AW E d M B (cells + mc) (slots + ms) q lv ((M'.2.2.2.map (fun _ => v)).toList ++ rest) h' Q)) : AW E d M B cells slots pc lv st h Q := by
  intro p e s m args below meth c H locs ls hC hK hP hz hS hl
  subst hq; subst hst
  refine aw_sz hz hP hS (fun hsz => ?_)
  obtain ⟨b0, m0, r0, h0⟩ := hM.1.2.2.2.1
  have cw : va_CU (rmOf d B.2.1 B.2.2) s args M.1.cls r.1 owner ix x M'.1 M'.2.1 M'.2.2.1 M'.2.2.2 (wsOf M') (rmOf d' mc ms) mc ms n := va_cwO n hC.2.2.2.2.1 hM.good rfl rfl rfl h0 hM.2.1 (rOK.to ⟨hdd, hM.2.2⟩)
  have hrec := va_recv hK.1 hP hr (wl_get' ha hh)
  refine aw_run (va_runU (As := As) (rest := rest) ⟨hC.1, hC.2.1, hC.2.2.1, hC.2.2.2.1, hC.2.2.2.2.1⟩ k cw ⟨aw_blind, hrec, aw_preU hK hS hP hsz⟩ rfl hn hl.1 rfl (by show 2 * 0 + _ ≤ 8; omega) hd ⟨hc, hs⟩) hS (fun v h1 H1 locs1 hv hP1 hS1 => ?_)
  exact hv p e s m args below meth c H1 locs1 ls hC hK (by rw [show B.1 + (cells + mc) = (B.1 + cells) + mc from (Nat.add_assoc _ _ _).symm]; exact hP1) hz hS1 hl
/-- a constructor -/
def MLI (own : String) (ix : Nat) (M' : MDt) (n : Nat) : Prop := (Cond.methodLink own ix M'.1 ∈ gtbl ∧ Cond.instanceMethod M'.1 ∈ gtbl ∧ Cond.initialized M'.1.cls ∈ gtbl ∧ Cond.code M'.1 M'.2.1 M'.2.2.1 M'.2.2.2 ∈ gtbl) ∧ nMH M'.1 n ∧ M'.2.2.1 ≤ 17 ∧ M'.1.name = "<init>" ∧ M'.2.2.2 = none
theorem aw_callI {ix n a mc ms : Nat} {As rest : List Value} (hM : MLI M.1.cls ix M' n) (hd : decode M.2.1 pc = .ok (.invokespecial ix, 3)) (hdd : d' + 1 ≤ d) (hn : As.length = n) (hst : As.reverse ++ .ref (ev_z E + a) :: rest = st) (hrm : (rest.map fun v => v.category).sum ≤ 8) (hc : cells + mc ≤ B.2.1) (hs : slots + ms ≤ B.2.2) (hq : pc + 3 = q)
    (k : CT E d' M' (B.1 + cells, mc, ms) (.ref (ev_z E + a) :: As) h (fun v h' => AW E d M B (cells + mc) (slots + ms) q lv rest h' Q)) : AW E d M B cells slots pc lv st h Q := by
  intro p e s m args below meth c H locs ls hC hK hP hz hS hl
  subst hq; subst hst
  refine aw_sz hz hP hS (fun hsz => ?_)
  have hts := hC.2.2.2.2.1
  have cb : CallB (rmOf d B.2.1 B.2.2) s args M.1.cls ix M'.1 M'.2.1 M'.2.2.1 M'.2.2.2 (wsOf M') (rmOf d' mc ms) mc ms n := callB_of n hts (wsOf_good hM.1.2.2.2) rfl rfl rfl (hts _ hM.1.2.2.1) (hts _ hM.1.1) hM.2.1 (rOK.to ⟨hdd, hM.2.2.1⟩)
  rw [hM.2.2.2.2] at cb
  refine aw_run (va_runI (b := ev_z E + a) (As := As) (rest := rest) ⟨hC.1, hC.2.1, hC.2.2.1, hC.2.2.2.1, hC.2.2.2.2.1⟩ k ⟨cb, hM.2.2.2.1, hts _ hM.1.2.1⟩ ⟨aw_blind, aw_preU hK hS hP hsz⟩ rfl hn hl.1 rfl (by show 2 * 0 + _ ≤ 8; omega) hd ⟨hc, hs⟩) hS (fun v h1 H1 locs1 hv hP1 hS1 => ?_)
  rw [hM.2.2.2.2]
  exact hv p e s m args below meth c H1 locs1 ls hC hK (by rw [show B.1 + (cells + mc) = (B.1 + cells) + mc from (Nat.add_assoc _ _ _).symm]; exact hP1) hz hS1 hl
def MLJ (own : String) (ix : Nat) (M' : MDt) (n : Nat) : Prop := (Cond.methodLinkNest own ix M'.1 RX11 ∈ nw_tbl ∧ Cond.instanceMethod M'.1 ∈ gtbl ∧ Cond.initialized M'.1.cls ∈ gtbl ∧ Cond.code M'.1 M'.2.1 M'.2.2.1 M'.2.2.2 ∈ gtbl) ∧ nMH M'.1 n ∧ M'.2.2.1 ≤ 17 ∧ M'.1.name = "<init>" ∧ M'.2.2.2 = none
theorem aw_callIN {ix n a mc ms : Nat} {As rest : List Value} (hM : MLJ M.1.cls ix M' n) (hd : decode M.2.1 pc = .ok (.invokespecial ix, 3)) (hdd : d' + 1 ≤ d) (hn : As.length = n) (hst : As.reverse ++ .ref (ev_z E + a) :: rest = st) (hrm : (rest.map fun v => v.category).sum ≤ 8) (hc : cells + mc ≤ B.2.1) (hs : slots + ms ≤ B.2.2) (hq : pc + 3 = q)
    (k : CT E d' M' (B.1 + cells, mc, ms) (.ref (ev_z E + a) :: As) h (fun v h' => AW E d M B (cells + mc) (slots + ms) q lv rest h' Q)) : AW E d M B cells slots pc lv st h Q := by
  intro p e s m args below meth c H locs ls hC hK hP hz hS hl
  subst hq; subst hst
  refine aw_sz hz hP hS (fun hsz => ?_)
  have hts := hC.2.2.2.2.1
  have cb : va_CN (rmOf d B.2.1 B.2.2) s args M.1.cls ix M'.1 RX11 M'.2.1 M'.2.2.1 M'.2.2.2 (wsOf M') (rmOf d' mc ms) mc ms n := va_cnB n hts (wsOf_good hM.1.2.2.2) rfl rfl rfl (hK.2.1 _ hM.1.1) (hts _ hM.1.2.2.1) hM.2.1 (rOK.to ⟨hdd, hM.2.2.1⟩)
  rw [hM.2.2.2.2] at cb
  refine aw_run (va_runIN (b := ev_z E + a) (As := As) (rest := rest) ⟨hC.1, hC.2.1, hC.2.2.1, hC.2.2.2.1, hC.2.2.2.2.1⟩ k ⟨cb, hM.2.2.2.1, hts _ hM.1.2.1⟩ ⟨aw_blind, aw_preU hK hS hP hsz⟩ rfl hn hl.1 rfl (by show 2 * 0 + _ ≤ 8; omega) hd ⟨hc, hs⟩) hS (fun v h1 H1 locs1 hv hP1 hS1 => ?_)
  rw [hM.2.2.2.2]
  exact hv p e s m args below meth c H1 locs1 ls hC hK (by rw [show B.1 + (cells + mc) = (B.1 + cells) + mc from (Nat.add_assoc _ _ _).symm]; exact hP1) hz hS1 hl
theorem aw_objInit {ix a : Nat} (hM : Cond.methodLink M.1.cls ix Lib.objectInit ∈ gtbl ∧ Cond.instanceMethod Lib.objectInit ∈ gtbl ∧ Cond.code Lib.objectInit ⟨#[0xb1]⟩ 1 none ∈ gtbl) (hd : decode M.2.1 pc = .ok (.invokespecial ix, 3)) (hdd : 1 ≤ d) (hrm : (st.map fun v => v.category).sum ≤ 8) (hq : pc + 3 = q) (k : AW E d M B cells slots q lv st h Q) : AW E d M B cells slots pc lv (.ref a :: st) h Q := by
  intro p e s m args below meth c H locs ls hC hK hP hz hS hl
  subst hq
  have hts := hC.2.2.2.2.1
  refine W.objInit hC.1 hC.2.1 hC.2.2.2.1 (hts _ hM.1) (hts _ hM.2.1) (hts _ hM.2.2) (g := F0 m pc ls (.ref a :: st)) rfl (hl.1.trans hC.2.2.1.symm) rfl hd hdd ?_ (k p e s m args below meth c H locs ls hC hK hP hz hS hl)
  show 2 * 0 + _ + 12 ≤ 36 * d + 4
  omega
end AWD
end
section
/-- a call of super: named in x.cls, the code is owner's -/
def MLU (own : String) (ix : Nat) (x : MethodName) (M' : MDt) (n : Nat) : Prop := (Cond.methodLink own ix x ∈ gtbl ∧ Cond.sameMethod x.cls M'.1.cls x.name x.desc ∈ gtbl ∧ Cond.superclass own x.cls ∈ gtbl ∧ (x.cls = M'.1.cls ∨ Cond.superclass x.cls M'.1.cls ∈ gtbl) ∧ Cond.instanceMethod M'.1 ∈ gtbl ∧ Cond.initialized M'.1.cls ∈ gtbl ∧ Cond.code M'.1 M'.2.1 M'.2.2.1 M'.2.2.2 ∈ gtbl) ∧ nMH M'.1 n ∧ M'.2.2.1 ≤ 17 ∧ x.name ≠ "<init>" ∧ M'.1 = ⟨M'.1.cls, x.name, x.desc⟩
section AWSU
variable {p : Program} {l : Launch} {e : Env} {R : Room} {s : State} {m : MethodId} {args : Array Value} {below : List Frame} {meth : Method} {c : Code}
theorem aw_subOne {x o : ClassId} {dk : Class} (hdk : s.vm.classes[x]? = some dk) (hs : dk.super = some o) : s.vm.isSubclass x o = true := by
  have hsz : 0 < s.vm.classes.size := Nat.lt_of_le_of_lt (Nat.zero_le _) (Array.getElem?_eq_some_iff.mp hdk).1
  unfold Vm.isSubclass
  obtain ⟨n, hn⟩ : ∃ n, s.vm.classes.size = n + 1 := ⟨s.vm.classes.size - 1, by omega⟩
  rw [hn]
  simp [Vm.isSubclassAux, hdk, hs]
variable {H : Heap} {locs : List Loc} {cells slots : Nat}
theorem aw_runSU {E : EVt} {x : MethodName} {M M' : MDt} {d d' mc ms nB mB n ix nL : Nat} {Pc : Array Value → State → Prop} {Qc : Array Value → State → Outcome → State → Prop} {free : Addr → Prop} {C : String} {cC : ClassId} {b : Addr} {As rest : List Value} {g : JFrame}
    (hat : ClassAt s C cC) (S : CallFix p m c M.2.1 nL s args gtbl M.1.cls) (hM : Met l M'.1 (wsOf M') (rmOf d' mc ms) Pc Qc mc ms free) (cw : MLU M.1.cls ix x M' n) (hdd : d' + 1 ≤ d) (hp : PreV s H C b Pc As)
    (hg : g.method = m) (hn : As.length = n) (hsize : g.locals.size = nL) (hstack : g.stack = As.reverse ++ .ref b :: rest) (hW : 2 * g.monitorRoom + (rest.map fun v => v.category).sum ≤ 8) (hdg : decode M.2.1 g.pc = .ok (.invokespecial ix, 3)) (hf : cells + mc ≤ (rmOf d nB mB).cells ∧ slots + ms ≤ (rmOf d nB mB).slots) :
    va_Run p l e (rmOf d nB mB) s m args below meth c H locs cells slots mc ms g rest (Qc (Value.ref b :: As).toArray) (free) := by
  obtain ⟨⟨w1, w2, w3, w4, w5, w6, w7⟩, hnm, hml17, hno, hy⟩ := cw
  obtain ⟨hx, hb, hml, ho, hts⟩ := S
  have hR := rOK.to (mc := mc) (ms := ms) (mc' := nB) (ms' := mB) ⟨hdd, hml17⟩
  have hK : Back l (rmOf d nB mB) p e below s args M'.1 3 8 (PreOf (rmOf d nB mB) mc ms Pc) (PostOf Qc mc ms free) := back_of (bytes := M'.2.1) (maxL := M'.2.2.1) (ret := M'.2.2.2) hM hp.1 rfl rfl hR.1 hR.2 (pay_in hts (wsOf_good w7)) List.mem_cons_self (fun a' U hW => word_at hW (Or.inl (by first | rfl | simp [Cond.onTables, Cond.keeps, Cond.steady])) (hts _ w6))
  obtain ⟨-, ⟨cellB, hcB, hoB, hclB⟩, hPc⟩ := hp
  obtain ⟨hfc, kB, hkB, -⟩ := hat
  cases hfc.symm.trans hclB
  intro T hT X
  obtain ⟨mk, methM, hnamed, hmethM, hstM, habM⟩ := Cond.instanceMethod_spec (hts _ w5)
  obtain ⟨methM', cM, hmethM', -, -, -, -, -, -, hsigM⟩ := Cond.code_spec hnamed (hts _ w7)
  cases hmethM.symm.trans hmethM'
  obtain ⟨ps, dk, kp, hps, hdk, hkp, hsuper, -, -, hnid⟩ := Cond.superclass_spec ho (hts _ w3)
  have hn' : s.methodNamed? ⟨M'.1.cls, x.name, x.desc⟩ = some mk := by rw [← hy]; exact hnamed
  have hfM : s.vm.findClass M'.1.cls = some mk.cls := findClass_of_methodNamed hnamed
  have hsub : s.vm.isSubclass ps mk.cls = true := by
    rcases w4 with w4 | w4
    · have hpm : ps = mk.cls := Option.some.inj (hps.symm.trans (by rw [w4]; exact hfM))
      rw [hpm]
      simp [Vm.isSubclass, Vm.isSubclassAux]
    · obtain ⟨po, dk2, kp2, hpo, hdk2, -, hsuper2, -⟩ := Cond.superclass_spec hps (hts _ w4)
      have hpm : po = mk.cls := Option.some.inj (hpo.symm.trans hfM)
      rw [hpm] at hsuper2
      exact aw_subOne hdk2 hsuper2
  have hlen : As.length = methM.sig.parameters.length := by
    have h2 := hnm.2.2
    rw [hsigM] at h2
    exact hn.trans (Option.some.inj h2).symm
  obtain ⟨vm₁, X₁, hstep₁⟩ := X.invokespecialUp hx ho (hts _ w1) (hts _ w2) hn' hmethM hstM habM hno hdk hnid hps hsuper hsub (a := b) (cell := cellB) (by rw [hT]; exact hcB)
    (fun z h => by rw [h] at hoB; cases hoB) hkB (g := g) hg (argsL := As) (rest := rest) hlen hstack (by rw [hb]; exact hdg)
  obtain ⟨v, ⟨U', l2, c2, s2⟩, X', ⟨g', mk2, t, L, e1, e2, hq, h1, hL, h2, h3⟩, hsteps⟩ := hK m meth c ⟨T.setVm vm₁, locs, cells, slots⟩ { g with stack := rest } (.invokespecial ix) mk (Value.ref b :: As).toArray X₁ hg (hsize.trans hml.symm) (by rw [hb]; exact hdg) hW (X₁.named hnamed) ⟨hf.1, hf.2, hPc (T.setVm vm₁) hT X₁.warmed⟩
  dsimp only [Pt.U, Pt.locs, Pt.cells, Pt.slots] at X' e1 e2 h1 h2 h3 hsteps
  subst h1; subst h2; subst h3
  exact ⟨v, (T.setVm vm₁).calling g' mk2 (Value.ref b :: As).toArray, t, U', L, hT, X', hL, e1, e2, hq, fun target h => hstep₁ _ (by rw [doInvoke_state]; exact hsteps.trans h)⟩
end AWSU
section AWD2
variable {E : EVt} {d d' : Nat} {M M' : MDt} {B : Nat × Nat × Nat} {cells slots pc q : Nat} {lv : List (Nat × Value)} {st : List Value} {h : AHt} {Q : Value → AHt → Prop}
theorem aw_callU {ix n ci a mc ms : Nat} {x : MethodName} {r : vw_C} {fs : List Value} {As rest : List Value} (hM : MLU M.1.cls ix x M' n) (hd : decode M.2.1 pc = .ok (.invokespecial ix, 3)) (ha : a < B.1 + cells) (hh : h a = .inr (ci, fs)) (hr : vwCl[ci]? = some r) (hdd : d' + 1 ≤ d) (hn : As.length = n) (hst : As.reverse ++ .ref (ev_z E + a) :: rest = st) (hrm : (rest.map fun v => v.category).sum ≤ 8) (hc : cells + mc ≤ B.2.1) (hs : slots + ms ≤ B.2.2) (hq : pc + 3 = q)
    (k : CT E d' M' (B.1 + cells, mc, ms) (.ref (ev_z E + a) :: As) h (fun v h' => AW E d M B (cells + mc) (slots + ms) q lv ((M'.2.2.2.map (fun _ => v)).toList ++ rest) h' Q)) : AW E d M B cells slots pc lv st h Q := by
  intro p e s m args below meth c H locs ls hC hK hP hz hS hl
  subst hq; subst hst
  refine aw_sz hz hP hS (fun hsz => ?_)
  have hrec := va_recv hK.1 hP hr (wl_get' ha hh)
  refine aw_run (aw_runSU (E := E) (As := As) (rest := rest) (hK.1.1 ci r hr).2 ⟨hC.1, hC.2.1, hC.2.2.1, hC.2.2.2.1, hC.2.2.2.2.1⟩ k hM hdd ⟨aw_blind, hrec, aw_preU hK hS hP hsz⟩ rfl hn hl.1 rfl (by show 2 * 0 + _ ≤ 8; omega) hd ⟨hc, hs⟩) hS (fun v h1 H1 locs1 hv hP1 hS1 => ?_)
  exact hv p e s m args below meth c H1 locs1 ls hC hK (by rw [show B.1 + (cells + mc) = (B.1 + cells) + mc from (Nat.add_assoc _ _ _).symm]; exact hP1) hz hS1 hl
/-- Math.max, Math.min -/
def i_max (x y : Int32) : Int32 := if x < y then y else x
def i_min (x y : Int32) : Int32 := if y < x then y else x
theorem aw_mmax {ix : Nat} {x y : Int32} (hM : Cond.methodLink M.1.cls ix Lib.Math.max.name ∈ gtbl ∧ Cond.static Lib.Math.max.name ∈ gtbl ∧ Cond.initialized "java/lang/Math" ∈ gtbl ∧ Cond.code Lib.Math.max.name Lib.Math.max.code 2 (some .int) ∈ gtbl) (hd : decode M.2.1 pc = .ok (.invokestatic ix, 3)) (hdd : 1 ≤ d) (hrm : (st.map fun v => v.category).sum ≤ 8) (hc : cells ≤ B.2.1) (hs : slots ≤ B.2.2) (hq : pc + 3 = q) (k : AW E d M B cells slots q lv (.int (i_max x y) :: st) h Q) : AW E d M B cells slots pc lv (.int y :: .int x :: st) h Q := by
  intro p e s m args below meth c H locs ls hC hK hP hz hS hl
  subst hq
  have hts := hC.2.2.2.2.1
  exact va_mmax hC.1 hC.2.1 (hC.2.2.1.trans hl.1.symm) hC.2.2.2.1 (hts _ hM.1) (hts _ hM.2.1) (hts _ hM.2.2.1) (hts _ hM.2.2.2) hdd (by show _ + 13 ≤ 36 * d + 4; omega) hc hs hd (k p e s m args below meth c H locs ls hC hK hP hz hS hl)
theorem aw_mmin {ix : Nat} {x y : Int32} (hM : Cond.methodLink M.1.cls ix Lib.Math.min.name ∈ gtbl ∧ Cond.static Lib.Math.min.name ∈ gtbl ∧ Cond.initialized "java/lang/Math" ∈ gtbl ∧ Cond.code Lib.Math.min.name Lib.Math.min.code 2 (some .int) ∈ gtbl) (hd : decode M.2.1 pc = .ok (.invokestatic ix, 3)) (hdd : 1 ≤ d) (hrm : (st.map fun v => v.category).sum ≤ 8) (hc : cells ≤ B.2.1) (hs : slots ≤ B.2.2) (hq : pc + 3 = q) (k : AW E d M B cells slots q lv (.int (i_min x y) :: st) h Q) : AW E d M B cells slots pc lv (.int y :: .int x :: st) h Q := by
  intro p e s m args below meth c H locs ls hC hK hP hz hS hl
  subst hq
  have hts := hC.2.2.2.2.1
  exact va_mmin hC.1 hC.2.1 (hC.2.2.1.trans hl.1.symm) hC.2.2.2.1 (hts _ hM.1) (hts _ hM.2.1) (hts _ hM.2.2.1) (hts _ hM.2.2.2) hdd (by show _ + 13 ≤ 36 * d + 4; omega) hc hs hd (k p e s m args below meth c H locs ls hC hK hP hz hS hl)
/-- System.arraycopy over two rows of longs -/
theorem aw_copyl {ix a0 a1 n0 n1 : Nat} {f g : Nat → Int64} {sp dp n : Int32} (hM : Cond.methodLink M.1.cls ix arraycopyName ∈ gtbl ∧ Cond.native arraycopyName ∈ gtbl ∧ Cond.static arraycopyName ∈ gtbl ∧ Cond.initialized "java/lang/System" ∈ gtbl) (hd : decode M.2.1 pc = .ok (.invokestatic ix, 3)) (ha0 : a0 < B.1 + cells) (hh0 : h a0 = aL (ev_cy E 1) n0 f) (ha1 : a1 < B.1 + cells) (hh1 : h a1 = aL (ev_cy E 1) n1 g) (h1 : ¬ sp < 0) (h2 : ¬ dp < 0) (h3 : ¬ n < 0) (h4 : sp.toNatClampNeg + n.toNatClampNeg ≤ n0) (h5 : dp.toNatClampNeg + n.toNatClampNeg ≤ n1) (hdd : 1 ≤ d) (hrm : (st.map fun v => v.category).sum + (nativeFrameWords "java/lang/System" "arraycopy" 5 + 11) ≤ 40) (hq : pc + 3 = q) (k : AW E d M B cells slots q lv st (va_up h a1 (aL (ev_cy E 1) n1 (va_cpy f g sp.toNatClampNeg dp.toNatClampNeg n.toNatClampNeg))) Q) : AW E d M B cells slots pc lv (.int n :: .int dp :: .ref (ev_z E + a1) :: .int sp :: .ref (ev_z E + a0) :: st) h Q := by
  intro p e s m args below meth c H locs ls hC hK hP hz hS hl
  subst hq
  have hts := hC.2.2.2.2.1
  refine va_copyl (D := ev_D E) (cl := vwCl) hC.1 hC.2.1 (hC.2.2.1.trans hl.1.symm) hC.2.2.2.1 (hts _ hM.1) (hts _ hM.2.1) (hts _ hM.2.2.1) (hts _ hM.2.2.2) hK.1 hP (wl_D _ _ _) hS a0 a1 1 1 (wl_get' ha0 hh0) (wl_get' ha1 hh1) rfl rfl rfl h1 h2 h3 h4 h5 (fun _ _ => rfl) hdd (by show _ ≤ 36 * d + 4; omega) hd (fun H1 locs1 hP1 hD1 hS1 => ?_)
  rw [wl_set ha1] at hP1
  exact k p e s m args below meth c H1 locs1 ls hC hK hP1 hz hS1 hl
theorem aw_bastore {a n : Nat} {f : Nat → Int32} {i x : Int32} (hd : decode M.2.1 pc = .ok (.bastore, 1)) (ha : a < B.1 + cells) (hh : h a = aI (ev_cy E 2) n f) (hi : vp_in i n) (hq : pc + 1 = q) (kk : AW E d M B cells slots q lv st (va_up h a (aI (ev_cy E 2) n (upd f i.toNatClampNeg (vp_nar .byte x)))) Q) : AW E d M B cells slots pc lv (.int x :: .int i :: .ref (ev_z E + a) :: st) h Q := by
  intro p e s m args below meth c H locs ls hC hK hP hz hS hl
  subst hq
  refine va_bast (D := ev_D E) (cl := vwCl) hC.1 hC.2.1 hK.1 hP (wl_D _ _ _) hS a 2 (wl_get' ha hh) rfl hi hd (fun H1 locs1 hP1 hD1 hS1 => ?_)
  rw [wl_set ha] at hP1
  exact kk p e s m args below meth c H1 locs1 ls hC hK hP1 hz hS1 hl
/-- String constants -/
theorem aw_ldcS {ix i : Nat} (hd : decode M.2.1 pc = .ok (.ldc ix, 2)) (hM : M.1.cls = RX9) (hi : i < 13) (hix : sk_ix.getD i 0 = ix) (hq : pc + 2 = q) (k : AW E d M B cells slots q lv (.ref (ev_K E i) :: st) h Q) : AW E d M B cells slots pc lv st h Q := by
  intro p e s m args below meth c H locs ls hC hK hP hz hS hl
  subst hq; subst hix
  obtain ⟨k1, k2, k3, k4, k5, k6, k7, k8, k9, k10⟩ := id hK
  exact va_ldcS (own := RX9) hC.1 hC.2.1 (by rw [← hM]; exact hC.2.2.2.1) (k4 i hi) hd (k p e s m args below meth c H locs ls hC hK hP hz hS hl)
theorem aw_getsI {ix : Nat} (hd : decode M.2.1 pc = .ok (.getstatic ix, 3)) (hw : Cond.fieldLink M.1.cls ix RJ0 "COMPACT_STRINGS" "Z" ∈ gtbl) (hq : pc + 3 = q) (k : AW E d M B cells slots q lv (.int 1 :: st) h Q) : AW E d M B cells slots pc lv st h Q := by
  intro p e s m args below meth c H locs ls hC hK hP hz hS hl
  subst hq
  obtain ⟨k1, k2, k3, k4, k5, k6, k7, k8, k9, k10⟩ := id hK
  exact va_gets hC.1 hC.2.1 k8 hS hC.2.2.2.1 (hC.2.2.2.2.1 _ hw) (fun _ h9 => h9) hd (k p e s m args below meth c H locs ls hC hK hP hz hS hl)
theorem aw_getsQ {ix : Nat} (hd : decode M.2.1 pc = .ok (.getstatic ix, 3)) (hw : Cond.fieldLink M.1.cls ix RJ3 "SIOOBE_FORMATTER" "Ljava/util/function/BiFunction;" ∈ gtbl) (hq : pc + 3 = q) (k : ∀ v : Value, (v = .null ∨ ∃ a, v = .ref a) → AW E d M B cells slots q lv (v :: st) h Q) : AW E d M B cells slots pc lv st h Q := by
  intro p e s m args below meth c H locs ls hC hK hP hz hS hl
  subst hq
  obtain ⟨k1, k2, k3, k4, k5, k6, k7, k8, k9, k10⟩ := id hK
  rcases k9 with k9 | ⟨t, k9⟩
  · exact va_gets hC.1 hC.2.1 k9 hS hC.2.2.2.1 (hC.2.2.2.2.1 _ hw) (fun _ h9 => h9) hd (k .null (Or.inl rfl) p e s m args below meth c H locs ls hC hK hP hz hS hl)
  · exact va_gets hC.1 hC.2.1 k9 hS hC.2.2.2.1 (hC.2.2.2.2.1 _ hw) (fun _ h9 => h9) hd (k (.ref t) (Or.inr ⟨t, rfl⟩) p e s m args below meth c H locs ls hC hK hP hz hS hl)
theorem aw_skcoder {ix i : Nat} (hd : decode M.2.1 pc = .ok (.getfield ix, 3)) (hw : Cond.fieldLink M.1.cls ix RJ0 "coder" "B" ∈ gtbl) (hi : i < 13) (hq : pc + 3 = q) (k : AW E d M B cells slots q lv (.int 0 :: st) h Q) : AW E d M B cells slots pc lv (.ref (ev_K E i) :: st) h Q := by
  intro p e s m args below meth c H locs ls hC hK hP hz hS hl
  subst hq
  obtain ⟨k1, k2, k3, k4, k5, k6, k7, k8, k9, k10⟩ := id hK
  exact vk_getf hC.1 hC.2.1 (k7.1 i hi).2.1 hS hC.2.2.2.1 (hC.2.2.2.2.1 _ hw) (fun _ h9 => h9) hd (k p e s m args below meth c H locs ls hC hK hP hz hS hl)
theorem aw_skvalue {ix i : Nat} (hd : decode M.2.1 pc = .ok (.getfield ix, 3)) (hw : Cond.fieldLink M.1.cls ix RJ0 "value" "[B" ∈ gtbl) (hi : i < 13) (hq : pc + 3 = q) (k : AW E d M B cells slots q lv (.ref (ev_V E i) :: st) h Q) : AW E d M B cells slots pc lv (.ref (ev_K E i) :: st) h Q := by
  intro p e s m args below meth c H locs ls hC hK hP hz hS hl
  subst hq
  obtain ⟨k1, k2, k3, k4, k5, k6, k7, k8, k9, k10⟩ := id hK
  exact vk_getf hC.1 hC.2.1 (k7.1 i hi).2.2.1 hS hC.2.2.2.1 (hC.2.2.2.2.1 _ hw) (fun _ h9 => h9) hd (k p e s m args below meth c H locs ls hC hK hP hz hS hl)
theorem aw_sklen {i : Nat} (hd : decode M.2.1 pc = .ok (.arraylength, 1)) (hi : i < 13) (hq : pc + 1 = q) (k : AW E d M B cells slots q lv (.int (Int32.ofNat (sk_ln.getD i 0)) :: st) h Q) : AW E d M B cells slots pc lv (.ref (ev_V E i) :: st) h Q := by
  intro p e s m args below meth c H locs ls hC hK hP hz hS hl
  subst hq
  obtain ⟨k1, k2, k3, k4, k5, k6, k7, k8, k9, k10⟩ := id hK
  exact va_tlen hC.1 hC.2.1 (k7.1 i hi).2.2.2 hS rfl hd (k p e s m args below meth c H locs ls hC hK hP hz hS hl)
theorem aw_skbyte {i : Nat} {j : Int32} (hd : decode M.2.1 pc = .ok (.baload, 1)) (hi : i < 13) (hj : vp_in j (sk_ln.getD i 0)) (hq : pc + 1 = q) (k : AW E d M B cells slots q lv (.int ((sk_by.getD i []).getD j.toNatClampNeg 0) :: st) h Q) : AW E d M B cells slots pc lv (.int j :: .ref (ev_V E i) :: st) h Q := by
  intro p e s m args below meth c H locs ls hC hK hP hz hS hl
  subst hq
  obtain ⟨k1, k2, k3, k4, k5, k6, k7, k8, k9, k10⟩ := id hK
  exact va_tb hC.1 hC.2.1 (k7.1 i hi).2.2.2 hS hj rfl hd (k p e s m args below meth c H locs ls hC hK hP hz hS hl)
/-- a call of a String constant's own method -/
theorem aw_callK {ix n i : Nat} {As rest : List Value} (hM : MLV M.1.cls ix M' n) (hcl : M'.1.cls = RJ0) (hd : decode M.2.1 pc = .ok (.invokevirtual ix, 3)) (hi : i < 13) (hdd : d' + 1 ≤ d) (hn : As.length = n) (hst : As.reverse ++ .ref (ev_K E i) :: rest = st) (hrm : (rest.map fun v => v.category).sum ≤ 8) (hc : cells ≤ B.2.1) (hs : slots ≤ B.2.2) (hq : pc + 3 = q)
    (k : CT E d' M' (B.1 + cells, 0, 0) (.ref (ev_K E i) :: As) h (fun v h' => AW E d M B cells slots q lv ((M'.2.2.2.map (fun _ => v)).toList ++ rest) h' Q)) : AW E d M B cells slots pc lv st h Q := by
  intro p e s m args below meth c H locs ls hC hK hP hz hS hl
  subst hq; subst hst
  refine aw_sz hz hP hS (fun hsz => ?_)
  obtain ⟨k1, k2, k3, k4, k5, k6, k7, k8, k9, k10⟩ := id hK
  have cw : CallW (rmOf d B.2.1 B.2.2) s args M.1.cls M'.1.cls ix M'.1 M'.2.1 M'.2.2.1 M'.2.2.2 (wsOf M') (rmOf d' 0 0) 0 0 n := cwV n hC.2.2.2.2.1 hM.good rfl rfl rfl ⟨rfl, hM.2.1⟩ (rOK.to ⟨hdd, hM.2.2⟩)
  have hrec := vk_recv k7 hi hS
  have hcl2 : M'.1.cls = "java/lang/String" := hcl
  rw [← hcl2] at hrec
  refine aw_run (va_runV (As := As) (rest := rest) ⟨hC.1, hC.2.1, hC.2.2.1, hC.2.2.2.1, hC.2.2.2.2.1⟩ k cw ⟨aw_blind, hrec, aw_preU hK hS hP hsz⟩ rfl hn hl.1 rfl (by show 2 * 0 + _ ≤ 8; omega) hd ⟨hc, hs⟩) hS (fun v h1 H1 locs1 hv hP1 hS1 => ?_)
  exact hv p e s m args below meth c H1 locs1 ls hC hK hP1 hz hS1 hl
/-- making: an object, a row of numbers, a row of references -/
theorem aw_new {ix ci : Nat} {C : String} {T : u_T} {N : Nat} {ty : Nat → FieldType} {fs : List Value} (hd : decode M.2.1 pc = .ok (.new ix, 3)) (hci : CKp ci C T N ty) (hw : Cond.classLink M.1.cls ix C ∈ gtbl ∧ Cond.instantiable C N ∈ gtbl ∧ Cond.initialized C ∈ gtbl) (hfs : ∀ j, j < N → defaultValue (ty j) = vp_V fs j) (hc : cells + 1 ≤ B.2.1) (hs : slots + N ≤ B.2.2) (hq : pc + 3 = q)
    (k : AW E d M B (cells + 1) (slots + N) q lv (.ref (ev_z E + (B.1 + cells)) :: st) (va_up h (B.1 + cells) (.inr (ci, fs))) Q) : AW E d M B cells slots pc lv st h Q := by
  intro p e s m args below meth c H locs ls hC hK hP hz hS hl
  subst hq
  refine aw_sz hz hP hS (fun hsz => ?_)
  have hts := hC.2.2.2.2.1
  obtain ⟨c1, c2, c3, c4⟩ := hci
  have hKn := hK.1.1 ci _ c1
  refine W.newcK hC.1 hC.2.1 hC.2.2.2.1 (hts _ hw.1) (hts _ hw.2.1) (hts _ hw.2.2) rfl hd hc hs hKn.2.1 rfl fun H1 kC hkC e1 z1 o1 => ?_
  have hkp : ∀ (k : Nat) (x : Nat × va_E), (wl (ev_z E) (B.1 + cells) h)[k]? = some x → H1[x.1]? = H[x.1]? := fun k x hx => o1 x.1 ((hP k x hx).lt)
  have hP1 : va_P (ev_D E) vwCl (wl (ev_z E) (B.1 + cells) h ++ [(ev_z E + (B.1 + cells), .inr (ci, fs))]) H1 := (hP.kept hkp).app (fun k x hx => by
    have hz : k < 1 := (List.getElem?_eq_some_iff.mp hx).1
    rw [show k = 0 by omega] at hx
    cases hx
    rw [hsz] at e1
    exact ⟨_, c1, (u_born ty hts c2 hKn hkC e1 c3).to hfs⟩)
  rw [wl_push] at hP1
  have hS1 : va_S (aw_A E) s.heap H1 locs := ⟨Nat.le_trans hS.1 (by omega), fun x h1 h2 => (o1 x (Nat.lt_of_lt_of_le h1 hS.1)).trans (hS.2.1 x h1 h2), hS.2.2⟩
  have := k p e s m args below meth c H1 locs ls hC hK hP1 hz hS1 hl
  rw [hsz]
  exact this
theorem aw_newa {atype : ArrayType} {t : Nat} {ty : FieldType} {n : Int32} {N' : Nat} {a0 : vp_A} (hd : decode M.2.1 pc = .ok (.newarray atype, 2)) (hty : newarray.typeOf atype = ty) (ht : (tysOf (ev_cy E))[t]? = some (ev_cy E t, ty)) (hob : ∀ C, ty ≠ .object C) (hw : Cond.arrayClass ty ∈ gtbl) (ha : ∀ cA : ClassId, vp_cell cA a0 = arrV cA N' (fun _ => defaultValue ty)) (hn : ¬ n < 0) (hN : n.toNatClampNeg = N') (hbytes : N' * componentBytes ty ≤ 536870912) (hc : cells + 1 ≤ B.2.1) (hs : slots + N' ≤ B.2.2) (hq : pc + 2 = q)
    (k : AW E d M B (cells + 1) (slots + N') q lv (.ref (ev_z E + (B.1 + cells)) :: st) (va_up h (B.1 + cells) (.inl (ev_cy E t, a0))) Q) : AW E d M B cells slots pc lv (.int n :: st) h Q := by
  intro p e s m args below meth c H locs ls hC hK hP hz hS hl
  subst hq; subst hty
  refine aw_sz hz hP hS (fun hsz => ?_)
  have hts := hC.2.2.2.2.1
  refine va_newaK hC.1 hC.2.1 (hts _ hw) rfl hd rfl hn hN hbytes hc hs hsz fun H1 cA e1 z1 o1 hAr hNm => ?_
  have hcA : cA = ev_cy E t := by
    have h1 := (hK.1.2 t _ ht).2
    have h2 : s.vm.findClass ("[" ++ (newarray.typeOf atype).toString) = some (ev_cy E t) := by
      cases atype <;> exact h1
    exact Option.some.inj (hNm.symm.trans h2)
  subst hcA
  have hkp : ∀ (k : Nat) (x : Nat × va_E), (wl (ev_z E) (B.1 + cells) h)[k]? = some x → H1[x.1]? = H[x.1]? := fun k x hx => o1 x.1 (by have := (hP k x hx).lt; omega)
  have hP1 : va_P (ev_D E) vwCl (wl (ev_z E) (B.1 + cells) h ++ [(ev_z E + (B.1 + cells), .inl (ev_cy E t, a0))]) H1 := (hP.kept hkp).app (fun k x hx => by
    have hz : k < 1 := (List.getElem?_eq_some_iff.mp hx).1
    rw [show k = 0 by omega] at hx
    cases hx
    show H1[_]? = some (vp_cell _ _)
    rw [ha]
    exact e1)
  rw [wl_push] at hP1
  have hS1 : va_S (aw_A E) s.heap H1 locs := ⟨Nat.le_trans hS.1 (by omega), fun x h1 h2 => (o1 x (by have := hS.1; omega)).trans (hS.2.1 x h1 h2), hS.2.2⟩
  exact k p e s m args below meth c H1 locs ls hC hK hP1 hz hS1 hl
end AWD2
end
