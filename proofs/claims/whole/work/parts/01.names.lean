-- ===== PART A: goes FIRST, ahead of the names: the tables' words, and 'selects' of the private methods out of them =====
/-- a private method of a class that the tables say can be made, by its rows of tables_1 -/
def lw_okq (q : MethodName × Nat) : Prop := (q.1.cls ≠ "java/lang/invoke/MethodHandle" ∧ q.1.cls ≠ "java/lang/invoke/VarHandle") ∧ Cond.instantiable q.1.cls q.2 ∈ tables_1 ∧ Cond.privateMethod q.1 ∈ tables_1 ∧ Cond.instanceMethod q.1 ∈ tables_1
theorem lw_p0 : lw_okq (⟨"NineBooks", "textOf", "(I)LNineBooks$Entries;"⟩, 11) := ⟨⟨by decide +kernel, by decide +kernel⟩, List.mem_of_getElem? (i := 14) (by decide +kernel), List.mem_of_getElem? (i := 164) (by decide +kernel), List.mem_of_getElem? (i := 165) (by decide +kernel)⟩
theorem lw_p1 : lw_okq (⟨"NineBooks", "isKing", "(I)Z"⟩, 11) := ⟨⟨by decide +kernel, by decide +kernel⟩, List.mem_of_getElem? (i := 14) (by decide +kernel), List.mem_of_getElem? (i := 271) (by decide +kernel), List.mem_of_getElem? (i := 272) (by decide +kernel)⟩
theorem lw_p2 : lw_okq (⟨"NineBooks", "sheetOf", "(I)LNineBooks$Sheet;"⟩, 11) := ⟨⟨by decide +kernel, by decide +kernel⟩, List.mem_of_getElem? (i := 14) (by decide +kernel), List.mem_of_getElem? (i := 314) (by decide +kernel), List.mem_of_getElem? (i := 315) (by decide +kernel)⟩
theorem lw_p3 : lw_okq (⟨"NineBooks", "found", "(I)I"⟩, 11) := ⟨⟨by decide +kernel, by decide +kernel⟩, List.mem_of_getElem? (i := 14) (by decide +kernel), List.mem_of_getElem? (i := 322) (by decide +kernel), List.mem_of_getElem? (i := 323) (by decide +kernel)⟩
theorem lw_p4 : lw_okq (⟨"NineBooks", "gainOf", "(II)I"⟩, 11) := ⟨⟨by decide +kernel, by decide +kernel⟩, List.mem_of_getElem? (i := 14) (by decide +kernel), List.mem_of_getElem? (i := 369) (by decide +kernel), List.mem_of_getElem? (i := 370) (by decide +kernel)⟩
theorem lw_p5 : lw_okq (⟨"NineBooks", "actAt", "(III)I"⟩, 11) := ⟨⟨by decide +kernel, by decide +kernel⟩, List.mem_of_getElem? (i := 14) (by decide +kernel), List.mem_of_getElem? (i := 397) (by decide +kernel), List.mem_of_getElem? (i := 398) (by decide +kernel)⟩
theorem lw_p6 : lw_okq (⟨"NineBooks", "mostPaid", "(II)I"⟩, 11) := ⟨⟨by decide +kernel, by decide +kernel⟩, List.mem_of_getElem? (i := 14) (by decide +kernel), List.mem_of_getElem? (i := 401) (by decide +kernel), List.mem_of_getElem? (i := 402) (by decide +kernel)⟩
theorem lw_p7 : lw_okq (⟨"NineBooks", "burnByLots", "(ILNineBooks$Lots;)I"⟩, 11) := ⟨⟨by decide +kernel, by decide +kernel⟩, List.mem_of_getElem? (i := 14) (by decide +kernel), List.mem_of_getElem? (i := 513) (by decide +kernel), List.mem_of_getElem? (i := 514) (by decide +kernel)⟩
theorem lw_p8 : lw_okq (⟨"NineBooks", "itemRefusal", "(III)I"⟩, 11) := ⟨⟨by decide +kernel, by decide +kernel⟩, List.mem_of_getElem? (i := 14) (by decide +kernel), List.mem_of_getElem? (i := 544) (by decide +kernel), List.mem_of_getElem? (i := 545) (by decide +kernel)⟩
theorem lw_p9 : lw_okq (⟨"NineBooks$Sheet", "narrowed", "(I)I"⟩, 3) := ⟨⟨by decide +kernel, by decide +kernel⟩, List.mem_of_getElem? (i := 110) (by decide +kernel), List.mem_of_getElem? (i := 557) (by decide +kernel), List.mem_of_getElem? (i := 558) (by decide +kernel)⟩
theorem lw_p10 : lw_okq (⟨"NineBooksModel", "faultOf", "(I)I"⟩, 31) := ⟨⟨by decide +kernel, by decide +kernel⟩, List.mem_of_getElem? (i := 635) (by decide +kernel), List.mem_of_getElem? (i := 765) (by decide +kernel), List.mem_of_getElem? (i := 766) (by decide +kernel)⟩
theorem lw_p11 : lw_okq (⟨"NineBooksModel", "readsText", "(I)I"⟩, 31) := ⟨⟨by decide +kernel, by decide +kernel⟩, List.mem_of_getElem? (i := 635) (by decide +kernel), List.mem_of_getElem? (i := 769) (by decide +kernel), List.mem_of_getElem? (i := 770) (by decide +kernel)⟩
theorem lw_p12 : lw_okq (⟨"NineBooksModel", "readsOne", "(III)I"⟩, 31) := ⟨⟨by decide +kernel, by decide +kernel⟩, List.mem_of_getElem? (i := 635) (by decide +kernel), List.mem_of_getElem? (i := 773) (by decide +kernel), List.mem_of_getElem? (i := 774) (by decide +kernel)⟩
theorem lw_p13 : lw_okq (⟨"NineBooksModel", "byteAt", "(II)I"⟩, 31) := ⟨⟨by decide +kernel, by decide +kernel⟩, List.mem_of_getElem? (i := 635) (by decide +kernel), List.mem_of_getElem? (i := 777) (by decide +kernel), List.mem_of_getElem? (i := 778) (by decide +kernel)⟩
theorem lw_p14 : lw_okq (⟨"NineBooksModel", "figureAt", "(II)I"⟩, 31) := ⟨⟨by decide +kernel, by decide +kernel⟩, List.mem_of_getElem? (i := 635) (by decide +kernel), List.mem_of_getElem? (i := 781) (by decide +kernel), List.mem_of_getElem? (i := 782) (by decide +kernel)⟩
theorem lw_p15 : lw_okq (⟨"NineBooksModel", "reads", "()V"⟩, 31) := ⟨⟨by decide +kernel, by decide +kernel⟩, List.mem_of_getElem? (i := 635) (by decide +kernel), List.mem_of_getElem? (i := 789) (by decide +kernel), List.mem_of_getElem? (i := 790) (by decide +kernel)⟩
def lw_privs_1 : List (MethodName × Nat) := [(⟨"NineBooks", "textOf", "(I)LNineBooks$Entries;"⟩, 11), (⟨"NineBooks", "isKing", "(I)Z"⟩, 11), (⟨"NineBooks", "sheetOf", "(I)LNineBooks$Sheet;"⟩, 11), (⟨"NineBooks", "found", "(I)I"⟩, 11), (⟨"NineBooks", "gainOf", "(II)I"⟩, 11), (⟨"NineBooks", "actAt", "(III)I"⟩, 11), (⟨"NineBooks", "mostPaid", "(II)I"⟩, 11), (⟨"NineBooks", "burnByLots", "(ILNineBooks$Lots;)I"⟩, 11), (⟨"NineBooks", "itemRefusal", "(III)I"⟩, 11), (⟨"NineBooks$Sheet", "narrowed", "(I)I"⟩, 3), (⟨"NineBooksModel", "faultOf", "(I)I"⟩, 31), (⟨"NineBooksModel", "readsText", "(I)I"⟩, 31), (⟨"NineBooksModel", "readsOne", "(III)I"⟩, 31), (⟨"NineBooksModel", "byteAt", "(II)I"⟩, 31), (⟨"NineBooksModel", "figureAt", "(II)I"⟩, 31), (⟨"NineBooksModel", "reads", "()V"⟩, 31)]
theorem lw_r1 : ∀ q ∈ lw_privs_1, lw_okq q := List.forall_mem_cons.mpr ⟨lw_p0, List.forall_mem_cons.mpr ⟨lw_p1, List.forall_mem_cons.mpr ⟨lw_p2, List.forall_mem_cons.mpr ⟨lw_p3, List.forall_mem_cons.mpr ⟨lw_p4, List.forall_mem_cons.mpr ⟨lw_p5, List.forall_mem_cons.mpr ⟨lw_p6, List.forall_mem_cons.mpr ⟨lw_p7, List.forall_mem_cons.mpr ⟨lw_p8, List.forall_mem_cons.mpr ⟨lw_p9, List.forall_mem_cons.mpr ⟨lw_p10, List.forall_mem_cons.mpr ⟨lw_p11, List.forall_mem_cons.mpr ⟨lw_p12, List.forall_mem_cons.mpr ⟨lw_p13, List.forall_mem_cons.mpr ⟨lw_p14, List.forall_mem_cons.mpr ⟨lw_p15, fun _ h => absurd h List.not_mem_nil⟩⟩⟩⟩⟩⟩⟩⟩⟩⟩⟩⟩⟩⟩⟩⟩
theorem lw_p16 : lw_okq (⟨"NineBooksModel", "bookOf", "(II)I"⟩, 31) := ⟨⟨by decide +kernel, by decide +kernel⟩, List.mem_of_getElem? (i := 635) (by decide +kernel), List.mem_of_getElem? (i := 793) (by decide +kernel), List.mem_of_getElem? (i := 794) (by decide +kernel)⟩
theorem lw_p17 : lw_okq (⟨"NineBooksModel", "isKing", "(I)Z"⟩, 31) := ⟨⟨by decide +kernel, by decide +kernel⟩, List.mem_of_getElem? (i := 635) (by decide +kernel), List.mem_of_getElem? (i := 801) (by decide +kernel), List.mem_of_getElem? (i := 802) (by decide +kernel)⟩
theorem lw_p18 : lw_okq (⟨"NineBooksModel", "meets", "(I)I"⟩, 31) := ⟨⟨by decide +kernel, by decide +kernel⟩, List.mem_of_getElem? (i := 635) (by decide +kernel), List.mem_of_getElem? (i := 827) (by decide +kernel), List.mem_of_getElem? (i := 828) (by decide +kernel)⟩
theorem lw_p19 : lw_okq (⟨"NineBooksModel", "leftNow", "()I"⟩, 31) := ⟨⟨by decide +kernel, by decide +kernel⟩, List.mem_of_getElem? (i := 635) (by decide +kernel), List.mem_of_getElem? (i := 836) (by decide +kernel), List.mem_of_getElem? (i := 837) (by decide +kernel)⟩
theorem lw_p20 : lw_okq (⟨"NineBooksModel", "allBooks", "()I"⟩, 31) := ⟨⟨by decide +kernel, by decide +kernel⟩, List.mem_of_getElem? (i := 635) (by decide +kernel), List.mem_of_getElem? (i := 840) (by decide +kernel), List.mem_of_getElem? (i := 841) (by decide +kernel)⟩
theorem lw_p21 : lw_okq (⟨"NineBooksModel", "useOf", "(I)I"⟩, 31) := ⟨⟨by decide +kernel, by decide +kernel⟩, List.mem_of_getElem? (i := 635) (by decide +kernel), List.mem_of_getElem? (i := 851) (by decide +kernel), List.mem_of_getElem? (i := 852) (by decide +kernel)⟩
theorem lw_p22 : lw_okq (⟨"NineBooksModel", "useBy", "(I)I"⟩, 31) := ⟨⟨by decide +kernel, by decide +kernel⟩, List.mem_of_getElem? (i := 635) (by decide +kernel), List.mem_of_getElem? (i := 855) (by decide +kernel), List.mem_of_getElem? (i := 856) (by decide +kernel)⟩
theorem lw_p23 : lw_okq (⟨"NineBooksModel", "gainOf", "(II)I"⟩, 31) := ⟨⟨by decide +kernel, by decide +kernel⟩, List.mem_of_getElem? (i := 635) (by decide +kernel), List.mem_of_getElem? (i := 863) (by decide +kernel), List.mem_of_getElem? (i := 864) (by decide +kernel)⟩
theorem lw_p24 : lw_okq (⟨"NineBooksModel", "lossNow", "()I"⟩, 31) := ⟨⟨by decide +kernel, by decide +kernel⟩, List.mem_of_getElem? (i := 635) (by decide +kernel), List.mem_of_getElem? (i := 871) (by decide +kernel), List.mem_of_getElem? (i := 872) (by decide +kernel)⟩
theorem lw_p25 : lw_okq (⟨"NineBooksModel", "enoughOf", "(I)I"⟩, 31) := ⟨⟨by decide +kernel, by decide +kernel⟩, List.mem_of_getElem? (i := 635) (by decide +kernel), List.mem_of_getElem? (i := 879) (by decide +kernel), List.mem_of_getElem? (i := 880) (by decide +kernel)⟩
theorem lw_p26 : lw_okq (⟨"NineBooksModel", "dearestNow", "()I"⟩, 31) := ⟨⟨by decide +kernel, by decide +kernel⟩, List.mem_of_getElem? (i := 635) (by decide +kernel), List.mem_of_getElem? (i := 887) (by decide +kernel), List.mem_of_getElem? (i := 888) (by decide +kernel)⟩
theorem lw_p27 : lw_okq (⟨"NineBooksModel", "actOf", "(III)I"⟩, 31) := ⟨⟨by decide +kernel, by decide +kernel⟩, List.mem_of_getElem? (i := 635) (by decide +kernel), List.mem_of_getElem? (i := 895) (by decide +kernel), List.mem_of_getElem? (i := 896) (by decide +kernel)⟩
theorem lw_p28 : lw_okq (⟨"NineBooksModel", "laysOffers", "(III)V"⟩, 31) := ⟨⟨by decide +kernel, by decide +kernel⟩, List.mem_of_getElem? (i := 635) (by decide +kernel), List.mem_of_getElem? (i := 899) (by decide +kernel), List.mem_of_getElem? (i := 900) (by decide +kernel)⟩
theorem lw_p29 : lw_okq (⟨"NineBooksModel", "laysWays", "(I)V"⟩, 31) := ⟨⟨by decide +kernel, by decide +kernel⟩, List.mem_of_getElem? (i := 635) (by decide +kernel), List.mem_of_getElem? (i := 903) (by decide +kernel), List.mem_of_getElem? (i := 904) (by decide +kernel)⟩
theorem lw_p30 : lw_okq (⟨"NineBooksModel", "valueOf", "(III)J"⟩, 31) := ⟨⟨by decide +kernel, by decide +kernel⟩, List.mem_of_getElem? (i := 635) (by decide +kernel), List.mem_of_getElem? (i := 911) (by decide +kernel), List.mem_of_getElem? (i := 912) (by decide +kernel)⟩
theorem lw_p31 : lw_okq (⟨"NineBooksModel", "takeOf", "(IIII)J"⟩, 31) := ⟨⟨by decide +kernel, by decide +kernel⟩, List.mem_of_getElem? (i := 635) (by decide +kernel), List.mem_of_getElem? (i := 926) (by decide +kernel), List.mem_of_getElem? (i := 927) (by decide +kernel)⟩
def lw_privs_2 : List (MethodName × Nat) := [(⟨"NineBooksModel", "bookOf", "(II)I"⟩, 31), (⟨"NineBooksModel", "isKing", "(I)Z"⟩, 31), (⟨"NineBooksModel", "meets", "(I)I"⟩, 31), (⟨"NineBooksModel", "leftNow", "()I"⟩, 31), (⟨"NineBooksModel", "allBooks", "()I"⟩, 31), (⟨"NineBooksModel", "useOf", "(I)I"⟩, 31), (⟨"NineBooksModel", "useBy", "(I)I"⟩, 31), (⟨"NineBooksModel", "gainOf", "(II)I"⟩, 31), (⟨"NineBooksModel", "lossNow", "()I"⟩, 31), (⟨"NineBooksModel", "enoughOf", "(I)I"⟩, 31), (⟨"NineBooksModel", "dearestNow", "()I"⟩, 31), (⟨"NineBooksModel", "actOf", "(III)I"⟩, 31), (⟨"NineBooksModel", "laysOffers", "(III)V"⟩, 31), (⟨"NineBooksModel", "laysWays", "(I)V"⟩, 31), (⟨"NineBooksModel", "valueOf", "(III)J"⟩, 31), (⟨"NineBooksModel", "takeOf", "(IIII)J"⟩, 31)]
theorem lw_r2 : ∀ q ∈ lw_privs_2, lw_okq q := List.forall_mem_cons.mpr ⟨lw_p16, List.forall_mem_cons.mpr ⟨lw_p17, List.forall_mem_cons.mpr ⟨lw_p18, List.forall_mem_cons.mpr ⟨lw_p19, List.forall_mem_cons.mpr ⟨lw_p20, List.forall_mem_cons.mpr ⟨lw_p21, List.forall_mem_cons.mpr ⟨lw_p22, List.forall_mem_cons.mpr ⟨lw_p23, List.forall_mem_cons.mpr ⟨lw_p24, List.forall_mem_cons.mpr ⟨lw_p25, List.forall_mem_cons.mpr ⟨lw_p26, List.forall_mem_cons.mpr ⟨lw_p27, List.forall_mem_cons.mpr ⟨lw_p28, List.forall_mem_cons.mpr ⟨lw_p29, List.forall_mem_cons.mpr ⟨lw_p30, List.forall_mem_cons.mpr ⟨lw_p31, fun _ h => absurd h List.not_mem_nil⟩⟩⟩⟩⟩⟩⟩⟩⟩⟩⟩⟩⟩⟩⟩⟩
theorem lw_p32 : lw_okq (⟨"NineBooksModel", "priceOf", "(I)I"⟩, 31) := ⟨⟨by decide +kernel, by decide +kernel⟩, List.mem_of_getElem? (i := 635) (by decide +kernel), List.mem_of_getElem? (i := 938) (by decide +kernel), List.mem_of_getElem? (i := 939) (by decide +kernel)⟩
theorem lw_p33 : lw_okq (⟨"NineBooksModel", "burnsOf", "(I)I"⟩, 31) := ⟨⟨by decide +kernel, by decide +kernel⟩, List.mem_of_getElem? (i := 635) (by decide +kernel), List.mem_of_getElem? (i := 946) (by decide +kernel), List.mem_of_getElem? (i := 947) (by decide +kernel)⟩
theorem lw_p34 : lw_okq (⟨"NineBooksModel", "shareOf", "(IIII)I"⟩, 31) := ⟨⟨by decide +kernel, by decide +kernel⟩, List.mem_of_getElem? (i := 635) (by decide +kernel), List.mem_of_getElem? (i := 954) (by decide +kernel), List.mem_of_getElem? (i := 955) (by decide +kernel)⟩
theorem lw_p35 : lw_okq (⟨"NineBooksModel", "trustOf", "(I)J"⟩, 31) := ⟨⟨by decide +kernel, by decide +kernel⟩, List.mem_of_getElem? (i := 635) (by decide +kernel), List.mem_of_getElem? (i := 969) (by decide +kernel), List.mem_of_getElem? (i := 970) (by decide +kernel)⟩
theorem lw_p36 : lw_okq (⟨"NineBooksModel", "blanksNow", "()I"⟩, 31) := ⟨⟨by decide +kernel, by decide +kernel⟩, List.mem_of_getElem? (i := 635) (by decide +kernel), List.mem_of_getElem? (i := 973) (by decide +kernel), List.mem_of_getElem? (i := 974) (by decide +kernel)⟩
theorem lw_p37 : lw_okq (⟨"NineBooksModel", "fourthNow", "()I"⟩, 31) := ⟨⟨by decide +kernel, by decide +kernel⟩, List.mem_of_getElem? (i := 635) (by decide +kernel), List.mem_of_getElem? (i := 992) (by decide +kernel), List.mem_of_getElem? (i := 993) (by decide +kernel)⟩
theorem lw_p38 : lw_okq (⟨"NineBooksModel", "comingOf", "(II)I"⟩, 31) := ⟨⟨by decide +kernel, by decide +kernel⟩, List.mem_of_getElem? (i := 635) (by decide +kernel), List.mem_of_getElem? (i := 1000) (by decide +kernel), List.mem_of_getElem? (i := 1001) (by decide +kernel)⟩
theorem lw_p39 : lw_okq (⟨"NineBooksModel", "lacks", "(III)I"⟩, 31) := ⟨⟨by decide +kernel, by decide +kernel⟩, List.mem_of_getElem? (i := 635) (by decide +kernel), List.mem_of_getElem? (i := 1017) (by decide +kernel), List.mem_of_getElem? (i := 1018) (by decide +kernel)⟩
theorem lw_p40 : lw_okq (⟨"NineBooksModel", "keep", "(III)V"⟩, 31) := ⟨⟨by decide +kernel, by decide +kernel⟩, List.mem_of_getElem? (i := 635) (by decide +kernel), List.mem_of_getElem? (i := 1021) (by decide +kernel), List.mem_of_getElem? (i := 1022) (by decide +kernel)⟩
theorem lw_p41 : lw_okq (⟨"NineBooksModel", "sumOf", "(I)I"⟩, 31) := ⟨⟨by decide +kernel, by decide +kernel⟩, List.mem_of_getElem? (i := 635) (by decide +kernel), List.mem_of_getElem? (i := 1042) (by decide +kernel), List.mem_of_getElem? (i := 1043) (by decide +kernel)⟩
theorem lw_p42 : lw_okq (⟨"NineBooksModel", "kingDigest", "(JI)J"⟩, 31) := ⟨⟨by decide +kernel, by decide +kernel⟩, List.mem_of_getElem? (i := 635) (by decide +kernel), List.mem_of_getElem? (i := 1053) (by decide +kernel), List.mem_of_getElem? (i := 1054) (by decide +kernel)⟩
def lw_privs_3 : List (MethodName × Nat) := [(⟨"NineBooksModel", "priceOf", "(I)I"⟩, 31), (⟨"NineBooksModel", "burnsOf", "(I)I"⟩, 31), (⟨"NineBooksModel", "shareOf", "(IIII)I"⟩, 31), (⟨"NineBooksModel", "trustOf", "(I)J"⟩, 31), (⟨"NineBooksModel", "blanksNow", "()I"⟩, 31), (⟨"NineBooksModel", "fourthNow", "()I"⟩, 31), (⟨"NineBooksModel", "comingOf", "(II)I"⟩, 31), (⟨"NineBooksModel", "lacks", "(III)I"⟩, 31), (⟨"NineBooksModel", "keep", "(III)V"⟩, 31), (⟨"NineBooksModel", "sumOf", "(I)I"⟩, 31), (⟨"NineBooksModel", "kingDigest", "(JI)J"⟩, 31)]
theorem lw_r3 : ∀ q ∈ lw_privs_3, lw_okq q := List.forall_mem_cons.mpr ⟨lw_p32, List.forall_mem_cons.mpr ⟨lw_p33, List.forall_mem_cons.mpr ⟨lw_p34, List.forall_mem_cons.mpr ⟨lw_p35, List.forall_mem_cons.mpr ⟨lw_p36, List.forall_mem_cons.mpr ⟨lw_p37, List.forall_mem_cons.mpr ⟨lw_p38, List.forall_mem_cons.mpr ⟨lw_p39, List.forall_mem_cons.mpr ⟨lw_p40, List.forall_mem_cons.mpr ⟨lw_p41, List.forall_mem_cons.mpr ⟨lw_p42, fun _ h => absurd h List.not_mem_nil⟩⟩⟩⟩⟩⟩⟩⟩⟩⟩⟩
def lw_privs : List (MethodName × Nat) := lw_privs_1 ++ (lw_privs_2 ++ (lw_privs_3))
def lw_tbl : List Cond := k2_sels lw_privs ++ tables_1
theorem lw_privs_ok : ∀ q ∈ lw_privs, lw_okq q := by
  show ∀ q ∈ lw_privs_1 ++ (lw_privs_2 ++ (lw_privs_3)), lw_okq q
  exact List.forall_mem_append.mpr ⟨lw_r1, List.forall_mem_append.mpr ⟨lw_r2, lw_r3⟩⟩
-- ===== end of PART A; then your names; then what follows =====
def z_xs : List Cond := [.selects "NineBooks$Books" ⟨"NineBooks$Entries", "reread", "()V"⟩ ⟨"NineBooks$Entries", "reread", "()V"⟩, .selects "NineBooks$Kings" ⟨"NineBooks$Entries", "reread", "()V"⟩ ⟨"NineBooks$Entries", "reread", "()V"⟩, .selects "NineBooks$Books" ⟨"NineBooks$Entries", "firstFault", "()I"⟩ ⟨"NineBooks$Entries", "firstFault", "()I"⟩, .selects "NineBooks$Kings" ⟨"NineBooks$Entries", "firstFault", "()I"⟩ ⟨"NineBooks$Entries", "firstFault", "()I"⟩]
def lw_g : List Cond := z_xs ++ lw_tbl.filter goodWord
theorem lw_g_good {w : Cond} (h : w ∈ lw_g) : goodWord w = true := by
  rcases List.mem_append.mp h with h | h
  · exact List.all_eq_true.mp (by decide +kernel : z_xs.all goodWord = true) w h
  · exact (List.mem_filter.mp h).2
theorem z_x {w : Cond} (i : Nat) (h : z_xs[i]? = some w) : w ∈ lw_g := List.mem_append_left _ (List.mem_of_getElem? h)
def z_isN : Cond → Bool
  | .methodLinkNest .. => true
  | .declares _ => true
  | _ => false
def z_nw : List Cond := lw_tbl.filter z_isN
theorem z_g {w : Cond} (i : Nat) (h : lw_tbl[i]? = some w) (hg : goodWord w = true) : w ∈ lw_g := List.mem_append_right _ (List.mem_filter.mpr ⟨List.mem_of_getElem? h, hg⟩)
theorem z_gn {w : Cond} (i : Nat) (h : lw_tbl[i]? = some w) (hg : z_isN w = true) : w ∈ z_nw := List.mem_filter.mpr ⟨List.mem_of_getElem? h, hg⟩
def RX0 : String := "NineBooks$Books"
def TX0 : u_T := fun k => match k with
  | 0 => ("NineBooks$Entries", "bytes", "[I", true)
  | 1 => ("NineBooks$Entries", "length", "I", false)
  | 2 => ("NineBooks$Entries", "faultPlace", "I", false)
  | 3 => ("NineBooks$Entries", "number", "I", false)
  | 4 => ("NineBooks$Books", "worths", "[I", true)
  | 5 => ("NineBooks$Books", "kinds", "[I", true)
  | 6 => ("NineBooks$Books", "props", "[I", true)
  | _ => ("NineBooks$Books", "usesAlone", "[I", true)
def tyX0 : Nat → FieldType := fun k => match k with
  | 0 => .array .int
  | 1 => .int
  | 2 => .int
  | 3 => .int
  | 4 => .array .int
  | 5 => .array .int
  | 6 => .array .int
  | _ => .array .int
theorem nmX0 : ∀ a, a < 8 → ∀ b, b < 8 → a ≠ b → (TX0 a).2.1 ≠ (TX0 b).2.1 := by decide +kernel
theorem tyX0_ok : ∀ k, k < 8 → parseFieldDescriptor (TX0 k).2.2.1 = some (tyX0 k) := by decide +kernel
abbrev cX0_init : ByteArray := prog_2_method_1_code
def yX0_init : MethodName := ⟨RX0, "<init>", "()V"⟩
abbrev cX0_fits : ByteArray := prog_2_method_2_code
def yX0_fits : MethodName := ⟨RX0, "fits", "(II)Z"⟩
abbrev cX0_keep : ByteArray := prog_2_method_3_code
def yX0_keep : MethodName := ⟨RX0, "keep", "(IIII)V"⟩
abbrev cX0_useAlone : ByteArray := prog_2_method_4_code
def yX0_useAlone : MethodName := ⟨RX0, "useAlone", "(II)I"⟩
abbrev cX0_worth : ByteArray := prog_2_method_5_code
def yX0_worth : MethodName := ⟨RX0, "worth", "(I)I"⟩
abbrev cX0_kind : ByteArray := prog_2_method_6_code
def yX0_kind : MethodName := ⟨RX0, "kind", "(I)I"⟩
abbrev cX0_leansOn : ByteArray := prog_2_method_7_code
def yX0_leansOn : MethodName := ⟨RX0, "leansOn", "(I)I"⟩
abbrev cX0_useOf : ByteArray := prog_2_method_8_code
def yX0_useOf : MethodName := ⟨RX0, "useOf", "(I)I"⟩
abbrev cX0_blanksOf : ByteArray := prog_2_method_9_code
def yX0_blanksOf : MethodName := ⟨RX0, "blanksOf", "(I)I"⟩
def RX1 : String := "NineBooks$Burnt"
def TX1 : u_T := fun k => match k with
  | 0 => ("NineBooks$Burnt", "order", "[I", true)
  | 1 => ("NineBooks$Burnt", "size", "I", false)
  | _ => ("NineBooks$Burnt", "bits", "I", false)
def tyX1 : Nat → FieldType := fun k => match k with
  | 0 => .array .int
  | 1 => .int
  | _ => .int
theorem nmX1 : ∀ a, a < 3 → ∀ b, b < 3 → a ≠ b → (TX1 a).2.1 ≠ (TX1 b).2.1 := by decide +kernel
theorem tyX1_ok : ∀ k, k < 3 → parseFieldDescriptor (TX1 k).2.2.1 = some (tyX1 k) := by decide +kernel
abbrev cX1_init : ByteArray := prog_3_method_1_code
def yX1_init : MethodName := ⟨RX1, "<init>", "()V"⟩
abbrev cX1_append : ByteArray := prog_3_method_2_code
def yX1_append : MethodName := ⟨RX1, "append", "(I)I"⟩
abbrev cX1_dropLast : ByteArray := prog_3_method_3_code
def yX1_dropLast : MethodName := ⟨RX1, "dropLast", "()I"⟩
abbrev cX1_size : ByteArray := prog_3_method_4_code
def yX1_size : MethodName := ⟨RX1, "size", "()I"⟩
abbrev cX1_bits : ByteArray := prog_3_method_5_code
def yX1_bits : MethodName := ⟨RX1, "bits", "()I"⟩
def RX2 : String := "NineBooks$Entries"
def TX2 : u_T := fun k => match k with
  | _ => ("", "", "", false)
def tyX2 : Nat → FieldType := fun k => match k with
  | _ => .int
theorem nmX2 : ∀ a, a < 0 → ∀ b, b < 0 → a ≠ b → (TX2 a).2.1 ≠ (TX2 b).2.1 := by decide +kernel
theorem tyX2_ok : ∀ k, k < 0 → parseFieldDescriptor (TX2 k).2.2.1 = some (tyX2 k) := by decide +kernel
abbrev cX2_init : ByteArray := prog_4_method_1_code
def yX2_init : MethodName := ⟨RX2, "<init>", "([I)V"⟩
abbrev cX2_append : ByteArray := prog_4_method_4_code
def yX2_append : MethodName := ⟨RX2, "append", "(I)I"⟩
abbrev cX2_clear : ByteArray := prog_4_method_5_code
def yX2_clear : MethodName := ⟨RX2, "clear", "()I"⟩
abbrev cX2_dropLast : ByteArray := prog_4_method_6_code
def yX2_dropLast : MethodName := ⟨RX2, "dropLast", "()I"⟩
abbrev cX2_length : ByteArray := prog_4_method_7_code
def yX2_length : MethodName := ⟨RX2, "length", "()I"⟩
abbrev cX2_faultPlace : ByteArray := prog_4_method_8_code
def yX2_faultPlace : MethodName := ⟨RX2, "faultPlace", "()I"⟩
abbrev cX2_number : ByteArray := prog_4_method_9_code
def yX2_number : MethodName := ⟨RX2, "number", "()I"⟩
abbrev cX2_every : ByteArray := prog_4_method_10_code
def yX2_every : MethodName := ⟨RX2, "every", "()I"⟩
abbrev cX2_isFigure : ByteArray := prog_4_method_11_code
def yX2_isFigure : MethodName := ⟨RX2, "isFigure", "(IC)Z"⟩
abbrev cX2_reread : ByteArray := prog_4_method_12_code
def yX2_reread : MethodName := ⟨RX2, "reread", "()V"⟩
abbrev cX2_firstFault : ByteArray := prog_4_method_13_code
def yX2_firstFault : MethodName := ⟨RX2, "firstFault", "()I"⟩
def RX3 : String := "NineBooks$Kings"
def TX3 : u_T := fun k => match k with
  | 0 => ("NineBooks$Entries", "bytes", "[I", true)
  | 1 => ("NineBooks$Entries", "length", "I", false)
  | 2 => ("NineBooks$Entries", "faultPlace", "I", false)
  | 3 => ("NineBooks$Entries", "number", "I", false)
  | 4 => ("NineBooks$Kings", "purses", "[I", true)
  | _ => ("NineBooks$Kings", "needs", "[I", true)
def tyX3 : Nat → FieldType := fun k => match k with
  | 0 => .array .int
  | 1 => .int
  | 2 => .int
  | 3 => .int
  | 4 => .array .int
  | _ => .array .int
theorem nmX3 : ∀ a, a < 6 → ∀ b, b < 6 → a ≠ b → (TX3 a).2.1 ≠ (TX3 b).2.1 := by decide +kernel
theorem tyX3_ok : ∀ k, k < 6 → parseFieldDescriptor (TX3 k).2.2.1 = some (tyX3 k) := by decide +kernel
abbrev cX3_init : ByteArray := prog_5_method_1_code
def yX3_init : MethodName := ⟨RX3, "<init>", "()V"⟩
abbrev cX3_fits : ByteArray := prog_5_method_2_code
def yX3_fits : MethodName := ⟨RX3, "fits", "(II)Z"⟩
abbrev cX3_keep : ByteArray := prog_5_method_3_code
def yX3_keep : MethodName := ⟨RX3, "keep", "(IIII)V"⟩
abbrev cX3_has : ByteArray := prog_5_method_4_code
def yX3_has : MethodName := ⟨RX3, "has", "(I)I"⟩
abbrev cX3_need : ByteArray := prog_5_method_5_code
def yX3_need : MethodName := ⟨RX3, "need", "(I)I"⟩
def RX4 : String := "NineBooks$Lots"
def TX4 : u_T := fun k => match k with
  | _ => ("NineBooks$Lots", "seed", "I", false)
def tyX4 : Nat → FieldType := fun k => match k with
  | _ => .int
theorem nmX4 : ∀ a, a < 1 → ∀ b, b < 1 → a ≠ b → (TX4 a).2.1 ≠ (TX4 b).2.1 := by decide +kernel
theorem tyX4_ok : ∀ k, k < 1 → parseFieldDescriptor (TX4 k).2.2.1 = some (tyX4 k) := by decide +kernel
abbrev cX4_init : ByteArray := prog_6_method_1_code
def yX4_init : MethodName := ⟨RX4, "<init>", "(I)V"⟩
abbrev cX4_draw : ByteArray := prog_6_method_2_code
def yX4_draw : MethodName := ⟨RX4, "draw", "(I)I"⟩
def RX5 : String := "NineBooks$Sayings"
def TX5 : u_T := fun k => match k with
  | 0 => ("NineBooks$Sayings", "what", "[I", true)
  | 1 => ("NineBooks$Sayings", "v", "[I", true)
  | 2 => ("NineBooks$Sayings", "is", "[I", true)
  | _ => ("NineBooks$Sayings", "size", "I", false)
def tyX5 : Nat → FieldType := fun k => match k with
  | 0 => .array .int
  | 1 => .array .int
  | 2 => .array .int
  | _ => .int
theorem nmX5 : ∀ a, a < 4 → ∀ b, b < 4 → a ≠ b → (TX5 a).2.1 ≠ (TX5 b).2.1 := by decide +kernel
theorem tyX5_ok : ∀ k, k < 4 → parseFieldDescriptor (TX5 k).2.2.1 = some (tyX5 k) := by decide +kernel
abbrev cX5_init : ByteArray := prog_7_method_1_code
def yX5_init : MethodName := ⟨RX5, "<init>", "()V"⟩
abbrev cX5_append : ByteArray := prog_7_method_2_code
def yX5_append : MethodName := ⟨RX5, "append", "(III)I"⟩
abbrev cX5_clear : ByteArray := prog_7_method_3_code
def yX5_clear : MethodName := ⟨RX5, "clear", "()I"⟩
abbrev cX5_size : ByteArray := prog_7_method_4_code
def yX5_size : MethodName := ⟨RX5, "size", "()I"⟩
abbrev cX5_allow : ByteArray := prog_7_method_5_code
def yX5_allow : MethodName := ⟨RX5, "allow", "(LNineBooks$Books;I)Z"⟩
abbrev cX5_isSo : ByteArray := prog_7_method_6_code
def yX5_isSo : MethodName := ⟨RX5, "isSo", "(LNineBooks$Books;III)Z"⟩
def RX6 : String := "NineBooks$Sheet"
def TX6 : u_T := fun k => match k with
  | 0 => ("NineBooks$Sheet", "items", "[I", true)
  | 1 => ("NineBooks$Sheet", "form", "I", false)
  | _ => ("NineBooks$Sheet", "size", "I", false)
def tyX6 : Nat → FieldType := fun k => match k with
  | 0 => .array .int
  | 1 => .int
  | _ => .int
theorem nmX6 : ∀ a, a < 3 → ∀ b, b < 3 → a ≠ b → (TX6 a).2.1 ≠ (TX6 b).2.1 := by decide +kernel
theorem tyX6_ok : ∀ k, k < 3 → parseFieldDescriptor (TX6 k).2.2.1 = some (tyX6 k) := by decide +kernel
abbrev cX6_init : ByteArray := prog_8_method_1_code
def yX6_init : MethodName := ⟨RX6, "<init>", "()V"⟩
abbrev cX6_renew : ByteArray := prog_8_method_2_code
def yX6_renew : MethodName := ⟨RX6, "renew", "(II)V"⟩
abbrev cX6_drop : ByteArray := prog_8_method_3_code
def yX6_drop : MethodName := ⟨RX6, "drop", "()I"⟩
abbrev cX6_isLost : ByteArray := prog_8_method_4_code
def yX6_isLost : MethodName := ⟨RX6, "isLost", "()Z"⟩
abbrev cX6_form : ByteArray := prog_8_method_5_code
def yX6_form : MethodName := ⟨RX6, "form", "()I"⟩
abbrev cX6_size : ByteArray := prog_8_method_6_code
def yX6_size : MethodName := ⟨RX6, "size", "()I"⟩
abbrev cX6_hasItem : ByteArray := prog_8_method_7_code
def yX6_hasItem : MethodName := ⟨RX6, "hasItem", "(I)Z"⟩
abbrev cX6_hasItems : ByteArray := prog_8_method_8_code
def yX6_hasItems : MethodName := ⟨RX6, "hasItems", "(II)Z"⟩
abbrev cX6_item : ByteArray := prog_8_method_9_code
def yX6_item : MethodName := ⟨RX6, "item", "(I)I"⟩
abbrev cX6_change : ByteArray := prog_8_method_10_code
def yX6_change : MethodName := ⟨RX6, "change", "(II)V"⟩
abbrev cX6_fill : ByteArray := prog_8_method_11_code
def yX6_fill : MethodName := ⟨RX6, "fill", "(ILNineBooks$Sheet;II)V"⟩
abbrev cX6_narrowed : ByteArray := prog_8_method_12_code
def yX6_narrowed : MethodName := ⟨RX6, "narrowed", "(I)I"⟩
def RX7 : String := "NineBooks"
def TX7 : u_T := fun k => match k with
  | 0 => ("NineBooks", "books", "LNineBooks$Books;", true)
  | 1 => ("NineBooks", "kings", "LNineBooks$Kings;", true)
  | 2 => ("NineBooks", "burnt", "LNineBooks$Burnt;", true)
  | 3 => ("NineBooks", "sayings", "LNineBooks$Sayings;", true)
  | 4 => ("NineBooks", "sheets", "[LNineBooks$Sheet;", true)
  | 5 => ("NineBooks", "askedPrice", "I", false)
  | 6 => ("NineBooks", "burnsEachTime", "I", false)
  | 7 => ("NineBooks", "doubt", "I", false)
  | 8 => ("NineBooks", "blankPages", "I", false)
  | 9 => ("NineBooks", "otherPages", "I", false)
  | _ => ("NineBooks", "latestFinding", "I", false)
def tyX7 : Nat → FieldType := fun k => match k with
  | 0 => .object "NineBooks$Books"
  | 1 => .object "NineBooks$Kings"
  | 2 => .object "NineBooks$Burnt"
  | 3 => .object "NineBooks$Sayings"
  | 4 => .array (.object "NineBooks$Sheet")
  | 5 => .int
  | 6 => .int
  | 7 => .int
  | 8 => .int
  | 9 => .int
  | _ => .int
theorem nmX7 : ∀ a, a < 11 → ∀ b, b < 11 → a ≠ b → (TX7 a).2.1 ≠ (TX7 b).2.1 := by decide +kernel
theorem tyX7_ok : ∀ k, k < 11 → parseFieldDescriptor (TX7 k).2.2.1 = some (tyX7 k) := by decide +kernel
abbrev cX7_init : ByteArray := prog_1_method_1_code
def yX7_init : MethodName := ⟨RX7, "<init>", "()V"⟩
abbrev cX7_type : ByteArray := prog_1_method_2_code
def yX7_type : MethodName := ⟨RX7, "type", "(II)I"⟩
abbrev cX7_wipe : ByteArray := prog_1_method_3_code
def yX7_wipe : MethodName := ⟨RX7, "wipe", "(I)I"⟩
abbrev cX7_undo : ByteArray := prog_1_method_4_code
def yX7_undo : MethodName := ⟨RX7, "undo", "(I)I"⟩
abbrev cX7_fault : ByteArray := prog_1_method_5_code
def yX7_fault : MethodName := ⟨RX7, "fault", "(I)I"⟩
abbrev cX7_book : ByteArray := prog_1_method_6_code
def yX7_book : MethodName := ⟨RX7, "book", "(II)I"⟩
abbrev cX7_king : ByteArray := prog_1_method_7_code
def yX7_king : MethodName := ⟨RX7, "king", "(II)I"⟩
abbrev cX7_set : ByteArray := prog_1_method_8_code
def yX7_set : MethodName := ⟨RX7, "set", "(II)I"⟩
abbrev cX7_burn : ByteArray := prog_1_method_9_code
def yX7_burn : MethodName := ⟨RX7, "burn", "(I)I"⟩
abbrev cX7_back : ByteArray := prog_1_method_10_code
def yX7_back : MethodName := ⟨RX7, "back", "()I"⟩
abbrev cX7_read : ByteArray := prog_1_method_11_code
def yX7_read : MethodName := ⟨RX7, "read", "(I)I"⟩
abbrev cX7_left : ByteArray := prog_1_method_12_code
def yX7_left : MethodName := ⟨RX7, "left", "()I"⟩
abbrev cX7_use : ByteArray := prog_1_method_13_code
def yX7_use : MethodName := ⟨RX7, "use", "(I)I"⟩
abbrev cX7_gain : ByteArray := prog_1_method_14_code
def yX7_gain : MethodName := ⟨RX7, "gain", "(II)I"⟩
abbrev cX7_loss : ByteArray := prog_1_method_15_code
def yX7_loss : MethodName := ⟨RX7, "loss", "()I"⟩
abbrev cX7_enough : ByteArray := prog_1_method_16_code
def yX7_enough : MethodName := ⟨RX7, "enough", "(I)I"⟩
abbrev cX7_dearest : ByteArray := prog_1_method_17_code
def yX7_dearest : MethodName := ⟨RX7, "dearest", "()I"⟩
abbrev cX7_act : ByteArray := prog_1_method_18_code
def yX7_act : MethodName := ⟨RX7, "act", "(II)I"⟩
abbrev cX7_value : ByteArray := prog_1_method_19_code
def yX7_value : MethodName := ⟨RX7, "value", "(III)J"⟩
abbrev cX7_buys : ByteArray := prog_1_method_20_code
def yX7_buys : MethodName := ⟨RX7, "buys", "(II)J"⟩
abbrev cX7_take : ByteArray := prog_1_method_21_code
def yX7_take : MethodName := ⟨RX7, "take", "(III)J"⟩
abbrev cX7_price : ByteArray := prog_1_method_22_code
def yX7_price : MethodName := ⟨RX7, "price", "(I)I"⟩
abbrev cX7_burns : ByteArray := prog_1_method_23_code
def yX7_burns : MethodName := ⟨RX7, "burns", "(I)I"⟩
abbrev cX7_share : ByteArray := prog_1_method_24_code
def yX7_share : MethodName := ⟨RX7, "share", "(IIII)I"⟩
abbrev cX7_page : ByteArray := prog_1_method_25_code
def yX7_page : MethodName := ⟨RX7, "page", "(I)I"⟩
abbrev cX7_trust : ByteArray := prog_1_method_26_code
def yX7_trust : MethodName := ⟨RX7, "trust", "(I)J"⟩
abbrev cX7_said : ByteArray := prog_1_method_27_code
def yX7_said : MethodName := ⟨RX7, "said", "(III)I"⟩
abbrev cX7_forget : ByteArray := prog_1_method_28_code
def yX7_forget : MethodName := ⟨RX7, "forget", "(I)I"⟩
abbrev cX7_fourth : ByteArray := prog_1_method_29_code
def yX7_fourth : MethodName := ⟨RX7, "fourth", "()I"⟩
abbrev cX7_coming : ByteArray := prog_1_method_30_code
def yX7_coming : MethodName := ⟨RX7, "coming", "(II)I"⟩
abbrev cX7_sheet : ByteArray := prog_1_method_31_code
def yX7_sheet : MethodName := ⟨RX7, "sheet", "(III)I"⟩
abbrev cX7_lose : ByteArray := prog_1_method_32_code
def yX7_lose : MethodName := ⟨RX7, "lose", "(I)I"⟩
abbrev cX7_put : ByteArray := prog_1_method_33_code
def yX7_put : MethodName := ⟨RX7, "put", "(IIII)I"⟩
abbrev cX7_get : ByteArray := prog_1_method_34_code
def yX7_get : MethodName := ⟨RX7, "get", "(III)I"⟩
abbrev cX7_copy : ByteArray := prog_1_method_35_code
def yX7_copy : MethodName := ⟨RX7, "copy", "(IIIII)I"⟩
abbrev cX7_write : ByteArray := prog_1_method_36_code
def yX7_write : MethodName := ⟨RX7, "write", "(II)I"⟩
abbrev cX7_count : ByteArray := prog_1_method_37_code
def yX7_count : MethodName := ⟨RX7, "count", "(I)I"⟩
abbrev cX7_digest : ByteArray := prog_1_method_38_code
def yX7_digest : MethodName := ⟨RX7, "digest", "()J"⟩
abbrev cX7_with : ByteArray := prog_1_method_39_code
def yX7_with : MethodName := ⟨RX7, "with", "(JJ)J"⟩
abbrev cX7_within : ByteArray := prog_1_method_40_code
def yX7_within : MethodName := ⟨RX7, "within", "(III)Z"⟩
abbrev cX7_isSet : ByteArray := prog_1_method_41_code
def yX7_isSet : MethodName := ⟨RX7, "isSet", "(I)Z"⟩
abbrev cX7_holds : ByteArray := prog_1_method_42_code
def yX7_holds : MethodName := ⟨RX7, "holds", "(II)Z"⟩
abbrev cX7_isKing : ByteArray := prog_1_method_43_code
def yX7_isKing : MethodName := ⟨RX7, "isKing", "(I)Z"⟩
abbrev cX7_textOf : ByteArray := prog_1_method_44_code
def yX7_textOf : MethodName := ⟨RX7, "textOf", "(I)LNineBooks$Entries;"⟩
abbrev cX7_sheetOf : ByteArray := prog_1_method_45_code
def yX7_sheetOf : MethodName := ⟨RX7, "sheetOf", "(I)LNineBooks$Sheet;"⟩
abbrev cX7_gainOf : ByteArray := prog_1_method_46_code
def yX7_gainOf : MethodName := ⟨RX7, "gainOf", "(II)I"⟩
abbrev cX7_mostPaid : ByteArray := prog_1_method_47_code
def yX7_mostPaid : MethodName := ⟨RX7, "mostPaid", "(II)I"⟩
abbrev cX7_actAt : ByteArray := prog_1_method_48_code
def yX7_actAt : MethodName := ⟨RX7, "actAt", "(III)I"⟩
abbrev cX7_burnByLots : ByteArray := prog_1_method_49_code
def yX7_burnByLots : MethodName := ⟨RX7, "burnByLots", "(ILNineBooks$Lots;)I"⟩
abbrev cX7_bookAt : ByteArray := prog_1_method_50_code
def yX7_bookAt : MethodName := ⟨RX7, "bookAt", "(II)I"⟩
abbrev cX7_power : ByteArray := prog_1_method_51_code
def yX7_power : MethodName := ⟨RX7, "power", "(II)J"⟩
abbrev cX7_refused : ByteArray := prog_1_method_52_code
def yX7_refused : MethodName := ⟨RX7, "refused", "(I)J"⟩
abbrev cX7_whole : ByteArray := prog_1_method_53_code
def yX7_whole : MethodName := ⟨RX7, "whole", "(JI)J"⟩
abbrev cX7_inLowestTerms : ByteArray := prog_1_method_54_code
def yX7_inLowestTerms : MethodName := ⟨RX7, "inLowestTerms", "(JJI)J"⟩
abbrev cX7_commonDivisor : ByteArray := prog_1_method_55_code
def yX7_commonDivisor : MethodName := ⟨RX7, "commonDivisor", "(JJ)J"⟩
abbrev cX7_found : ByteArray := prog_1_method_56_code
def yX7_found : MethodName := ⟨RX7, "found", "(I)I"⟩
abbrev cX7_itemRefusal : ByteArray := prog_1_method_57_code
def yX7_itemRefusal : MethodName := ⟨RX7, "itemRefusal", "(III)I"⟩
def RX8 : String := "NineBooksModel"
def TX8 : u_T := fun k => match k with
  | 0 => ("NineBooksModel", "typed", "[I", true)
  | 1 => ("NineBooksModel", "texts", "[I", true)
  | 2 => ("NineBooksModel", "books", "I", false)
  | 3 => ("NineBooksModel", "worths", "[I", true)
  | 4 => ("NineBooksModel", "kinds", "[I", true)
  | 5 => ("NineBooksModel", "leans", "[I", true)
  | 6 => ("NineBooksModel", "kings", "I", false)
  | 7 => ("NineBooksModel", "hases", "[I", true)
  | 8 => ("NineBooksModel", "needs", "[I", true)
  | 9 => ("NineBooksModel", "price", "I", false)
  | 10 => ("NineBooksModel", "burns", "I", false)
  | 11 => ("NineBooksModel", "doubt", "I", false)
  | 12 => ("NineBooksModel", "burnts", "I", false)
  | 13 => ("NineBooksModel", "burntOf", "[I", true)
  | 14 => ("NineBooksModel", "burntBits", "I", false)
  | 15 => ("NineBooksModel", "values", "[J", true)
  | 16 => ("NineBooksModel", "chances", "[J", true)
  | 17 => ("NineBooksModel", "acts", "[I", true)
  | 18 => ("NineBooksModel", "many", "[I", true)
  | 19 => ("NineBooksModel", "ways", "[J", true)
  | 20 => ("NineBooksModel", "pages", "[I", true)
  | 21 => ("NineBooksModel", "saids", "I", false)
  | 22 => ("NineBooksModel", "saidWhat", "[I", true)
  | 23 => ("NineBooksModel", "saidV", "[I", true)
  | 24 => ("NineBooksModel", "saidIs", "[I", true)
  | 25 => ("NineBooksModel", "isThere", "[Z", true)
  | 26 => ("NineBooksModel", "forms", "[I", true)
  | 27 => ("NineBooksModel", "sizes", "[I", true)
  | 28 => ("NineBooksModel", "items", "[I", true)
  | 29 => ("NineBooksModel", "moved", "[I", true)
  | _ => ("NineBooksModel", "finding", "I", false)
def tyX8 : Nat → FieldType := fun k => match k with
  | 0 => .array .int
  | 1 => .array .int
  | 2 => .int
  | 3 => .array .int
  | 4 => .array .int
  | 5 => .array .int
  | 6 => .int
  | 7 => .array .int
  | 8 => .array .int
  | 9 => .int
  | 10 => .int
  | 11 => .int
  | 12 => .int
  | 13 => .array .int
  | 14 => .int
  | 15 => .array .long
  | 16 => .array .long
  | 17 => .array .int
  | 18 => .array .int
  | 19 => .array .long
  | 20 => .array .int
  | 21 => .int
  | 22 => .array .int
  | 23 => .array .int
  | 24 => .array .int
  | 25 => .array .boolean
  | 26 => .array .int
  | 27 => .array .int
  | 28 => .array .int
  | 29 => .array .int
  | _ => .int
theorem nmX8 : ∀ a, a < 31 → ∀ b, b < 31 → a ≠ b → (TX8 a).2.1 ≠ (TX8 b).2.1 := by decide +kernel
theorem tyX8_ok : ∀ k, k < 31 → parseFieldDescriptor (TX8 k).2.2.1 = some (tyX8 k) := by decide +kernel
abbrev cX8_init : ByteArray := prog_10_method_1_code
def yX8_init : MethodName := ⟨RX8, "<init>", "()V"⟩
abbrev cX8_in : ByteArray := prog_10_method_3_code
def yX8_in : MethodName := ⟨RX8, "in", "(III)Z"⟩
abbrev cX8_isIn : ByteArray := prog_10_method_4_code
def yX8_isIn : MethodName := ⟨RX8, "isIn", "(II)Z"⟩
abbrev cX8_ones : ByteArray := prog_10_method_5_code
def yX8_ones : MethodName := ⟨RX8, "ones", "(I)I"⟩
abbrev cX8_no : ByteArray := prog_10_method_6_code
def yX8_no : MethodName := ⟨RX8, "no", "(I)J"⟩
abbrev cX8_lowest : ByteArray := prog_10_method_7_code
def yX8_lowest : MethodName := ⟨RX8, "lowest", "(JJI)J"⟩
abbrev cX8_isText : ByteArray := prog_10_method_8_code
def yX8_isText : MethodName := ⟨RX8, "isText", "(I)Z"⟩
abbrev cX8_roomOf : ByteArray := prog_10_method_9_code
def yX8_roomOf : MethodName := ⟨RX8, "roomOf", "(I)I"⟩
abbrev cX8_type : ByteArray := prog_10_method_10_code
def yX8_type : MethodName := ⟨RX8, "type", "(II)I"⟩
abbrev cX8_wipe : ByteArray := prog_10_method_11_code
def yX8_wipe : MethodName := ⟨RX8, "wipe", "(I)I"⟩
abbrev cX8_undo : ByteArray := prog_10_method_12_code
def yX8_undo : MethodName := ⟨RX8, "undo", "(I)I"⟩
abbrev cX8_byteAt : ByteArray := prog_10_method_13_code
def yX8_byteAt : MethodName := ⟨RX8, "byteAt", "(II)I"⟩
abbrev cX8_figureAt : ByteArray := prog_10_method_14_code
def yX8_figureAt : MethodName := ⟨RX8, "figureAt", "(II)I"⟩
abbrev cX8_readsOne : ByteArray := prog_10_method_15_code
def yX8_readsOne : MethodName := ⟨RX8, "readsOne", "(III)I"⟩
abbrev cX8_readsText : ByteArray := prog_10_method_16_code
def yX8_readsText : MethodName := ⟨RX8, "readsText", "(I)I"⟩
abbrev cX8_faultOf : ByteArray := prog_10_method_17_code
def yX8_faultOf : MethodName := ⟨RX8, "faultOf", "(I)I"⟩
abbrev cX8_reads : ByteArray := prog_10_method_18_code
def yX8_reads : MethodName := ⟨RX8, "reads", "()V"⟩
abbrev cX8_fault : ByteArray := prog_10_method_19_code
def yX8_fault : MethodName := ⟨RX8, "fault", "(I)I"⟩
abbrev cX8_isKing : ByteArray := prog_10_method_20_code
def yX8_isKing : MethodName := ⟨RX8, "isKing", "(I)Z"⟩
abbrev cX8_bookOf : ByteArray := prog_10_method_21_code
def yX8_bookOf : MethodName := ⟨RX8, "bookOf", "(II)I"⟩
abbrev cX8_book : ByteArray := prog_10_method_22_code
def yX8_book : MethodName := ⟨RX8, "book", "(II)I"⟩
abbrev cX8_king : ByteArray := prog_10_method_23_code
def yX8_king : MethodName := ⟨RX8, "king", "(II)I"⟩
abbrev cX8_set : ByteArray := prog_10_method_24_code
def yX8_set : MethodName := ⟨RX8, "set", "(II)I"⟩
abbrev cX8_burn : ByteArray := prog_10_method_25_code
def yX8_burn : MethodName := ⟨RX8, "burn", "(I)I"⟩
abbrev cX8_back : ByteArray := prog_10_method_26_code
def yX8_back : MethodName := ⟨RX8, "back", "()I"⟩
abbrev cX8_read : ByteArray := prog_10_method_27_code
def yX8_read : MethodName := ⟨RX8, "read", "(I)I"⟩
abbrev cX8_allBooks : ByteArray := prog_10_method_28_code
def yX8_allBooks : MethodName := ⟨RX8, "allBooks", "()I"⟩
abbrev cX8_leftNow : ByteArray := prog_10_method_29_code
def yX8_leftNow : MethodName := ⟨RX8, "leftNow", "()I"⟩
abbrev cX8_left : ByteArray := prog_10_method_30_code
def yX8_left : MethodName := ⟨RX8, "left", "()I"⟩
abbrev cX8_useBy : ByteArray := prog_10_method_31_code
def yX8_useBy : MethodName := ⟨RX8, "useBy", "(I)I"⟩
abbrev cX8_isSet : ByteArray := prog_10_method_32_code
def yX8_isSet : MethodName := ⟨RX8, "isSet", "(I)Z"⟩
abbrev cX8_useOf : ByteArray := prog_10_method_33_code
def yX8_useOf : MethodName := ⟨RX8, "useOf", "(I)I"⟩
abbrev cX8_use : ByteArray := prog_10_method_34_code
def yX8_use : MethodName := ⟨RX8, "use", "(I)I"⟩
abbrev cX8_gainOf : ByteArray := prog_10_method_35_code
def yX8_gainOf : MethodName := ⟨RX8, "gainOf", "(II)I"⟩
abbrev cX8_gain : ByteArray := prog_10_method_36_code
def yX8_gain : MethodName := ⟨RX8, "gain", "(II)I"⟩
abbrev cX8_lossNow : ByteArray := prog_10_method_37_code
def yX8_lossNow : MethodName := ⟨RX8, "lossNow", "()I"⟩
abbrev cX8_loss : ByteArray := prog_10_method_38_code
def yX8_loss : MethodName := ⟨RX8, "loss", "()I"⟩
abbrev cX8_enoughOf : ByteArray := prog_10_method_39_code
def yX8_enoughOf : MethodName := ⟨RX8, "enoughOf", "(I)I"⟩
abbrev cX8_enough : ByteArray := prog_10_method_40_code
def yX8_enough : MethodName := ⟨RX8, "enough", "(I)I"⟩
abbrev cX8_dearestNow : ByteArray := prog_10_method_41_code
def yX8_dearestNow : MethodName := ⟨RX8, "dearestNow", "()I"⟩
abbrev cX8_dearest : ByteArray := prog_10_method_42_code
def yX8_dearest : MethodName := ⟨RX8, "dearest", "()I"⟩
abbrev cX8_laysWays : ByteArray := prog_10_method_43_code
def yX8_laysWays : MethodName := ⟨RX8, "laysWays", "(I)V"⟩
abbrev cX8_laysOffers : ByteArray := prog_10_method_44_code
def yX8_laysOffers : MethodName := ⟨RX8, "laysOffers", "(III)V"⟩
abbrev cX8_actOf : ByteArray := prog_10_method_45_code
def yX8_actOf : MethodName := ⟨RX8, "actOf", "(III)I"⟩
abbrev cX8_act : ByteArray := prog_10_method_46_code
def yX8_act : MethodName := ⟨RX8, "act", "(II)I"⟩
abbrev cX8_valueOf : ByteArray := prog_10_method_47_code
def yX8_valueOf : MethodName := ⟨RX8, "valueOf", "(III)J"⟩
abbrev cX8_value : ByteArray := prog_10_method_48_code
def yX8_value : MethodName := ⟨RX8, "value", "(III)J"⟩
abbrev cX8_takeOf : ByteArray := prog_10_method_49_code
def yX8_takeOf : MethodName := ⟨RX8, "takeOf", "(IIII)J"⟩
abbrev cX8_buys : ByteArray := prog_10_method_50_code
def yX8_buys : MethodName := ⟨RX8, "buys", "(II)J"⟩
abbrev cX8_take : ByteArray := prog_10_method_51_code
def yX8_take : MethodName := ⟨RX8, "take", "(III)J"⟩
abbrev cX8_priceOf : ByteArray := prog_10_method_52_code
def yX8_priceOf : MethodName := ⟨RX8, "priceOf", "(I)I"⟩
abbrev cX8_price : ByteArray := prog_10_method_53_code
def yX8_price : MethodName := ⟨RX8, "price", "(I)I"⟩
abbrev cX8_burnsOf : ByteArray := prog_10_method_54_code
def yX8_burnsOf : MethodName := ⟨RX8, "burnsOf", "(I)I"⟩
abbrev cX8_burns : ByteArray := prog_10_method_55_code
def yX8_burns : MethodName := ⟨RX8, "burns", "(I)I"⟩
abbrev cX8_lesser : ByteArray := prog_10_method_56_code
def yX8_lesser : MethodName := ⟨RX8, "lesser", "(II)I"⟩
abbrev cX8_shareOf : ByteArray := prog_10_method_57_code
def yX8_shareOf : MethodName := ⟨RX8, "shareOf", "(IIII)I"⟩
abbrev cX8_share : ByteArray := prog_10_method_58_code
def yX8_share : MethodName := ⟨RX8, "share", "(IIII)I"⟩
abbrev cX8_page : ByteArray := prog_10_method_59_code
def yX8_page : MethodName := ⟨RX8, "page", "(I)I"⟩
abbrev cX8_blanksNow : ByteArray := prog_10_method_60_code
def yX8_blanksNow : MethodName := ⟨RX8, "blanksNow", "()I"⟩
abbrev cX8_power : ByteArray := prog_10_method_61_code
def yX8_power : MethodName := ⟨RX8, "power", "(II)J"⟩
abbrev cX8_trustOf : ByteArray := prog_10_method_62_code
def yX8_trustOf : MethodName := ⟨RX8, "trustOf", "(I)J"⟩
abbrev cX8_trust : ByteArray := prog_10_method_63_code
def yX8_trust : MethodName := ⟨RX8, "trust", "(I)J"⟩
abbrev cX8_said : ByteArray := prog_10_method_64_code
def yX8_said : MethodName := ⟨RX8, "said", "(III)I"⟩
abbrev cX8_forget : ByteArray := prog_10_method_65_code
def yX8_forget : MethodName := ⟨RX8, "forget", "(I)I"⟩
abbrev cX8_fourthNow : ByteArray := prog_10_method_66_code
def yX8_fourthNow : MethodName := ⟨RX8, "fourthNow", "()I"⟩
abbrev cX8_fourth : ByteArray := prog_10_method_67_code
def yX8_fourth : MethodName := ⟨RX8, "fourth", "()I"⟩
abbrev cX8_comingOf : ByteArray := prog_10_method_68_code
def yX8_comingOf : MethodName := ⟨RX8, "comingOf", "(II)I"⟩
abbrev cX8_coming : ByteArray := prog_10_method_69_code
def yX8_coming : MethodName := ⟨RX8, "coming", "(II)I"⟩
abbrev cX8_meets : ByteArray := prog_10_method_70_code
def yX8_meets : MethodName := ⟨RX8, "meets", "(I)I"⟩
abbrev cX8_isSheet : ByteArray := prog_10_method_71_code
def yX8_isSheet : MethodName := ⟨RX8, "isSheet", "(I)Z"⟩
abbrev cX8_sheet : ByteArray := prog_10_method_72_code
def yX8_sheet : MethodName := ⟨RX8, "sheet", "(III)I"⟩
abbrev cX8_lose : ByteArray := prog_10_method_73_code
def yX8_lose : MethodName := ⟨RX8, "lose", "(I)I"⟩
abbrev cX8_lacks : ByteArray := prog_10_method_74_code
def yX8_lacks : MethodName := ⟨RX8, "lacks", "(III)I"⟩
abbrev cX8_keep : ByteArray := prog_10_method_75_code
def yX8_keep : MethodName := ⟨RX8, "keep", "(III)V"⟩
abbrev cX8_put : ByteArray := prog_10_method_76_code
def yX8_put : MethodName := ⟨RX8, "put", "(IIII)I"⟩
abbrev cX8_get : ByteArray := prog_10_method_77_code
def yX8_get : MethodName := ⟨RX8, "get", "(III)I"⟩
abbrev cX8_copy : ByteArray := prog_10_method_78_code
def yX8_copy : MethodName := ⟨RX8, "copy", "(IIIII)I"⟩
abbrev cX8_write : ByteArray := prog_10_method_79_code
def yX8_write : MethodName := ⟨RX8, "write", "(II)I"⟩
abbrev cX8_sumOf : ByteArray := prog_10_method_80_code
def yX8_sumOf : MethodName := ⟨RX8, "sumOf", "(I)I"⟩
abbrev cX8_count : ByteArray := prog_10_method_81_code
def yX8_count : MethodName := ⟨RX8, "count", "(I)I"⟩
abbrev cX8_kingDigest : ByteArray := prog_10_method_82_code
def yX8_kingDigest : MethodName := ⟨RX8, "kingDigest", "(JI)J"⟩
abbrev cX8_digest : ByteArray := prog_10_method_83_code
def yX8_digest : MethodName := ⟨RX8, "digest", "()J"⟩
def RJ6 : String := "java/lang/Integer"
def TJ6 : u_T := fun k => match k with
  | _ => ("", "", "", false)
def tyJ6 : Nat → FieldType := fun k => match k with
  | _ => .int
theorem nmJ6 : ∀ a, a < 0 → ∀ b, b < 0 → a ≠ b → (TJ6 a).2.1 ≠ (TJ6 b).2.1 := by decide +kernel
theorem tyJ6_ok : ∀ k, k < 0 → parseFieldDescriptor (TJ6 k).2.2.1 = some (tyJ6 k) := by decide +kernel
abbrev cJ6_numberOfTrailingZeros_0f7a4 : ByteArray := prog_11_method_48_code
def yJ6_numberOfTrailingZeros_0f7a4 : MethodName := ⟨RJ6, "numberOfTrailingZeros", "(I)I"⟩
abbrev cJ6_bitCount_0f7a4 : ByteArray := prog_11_method_49_code
def yJ6_bitCount_0f7a4 : MethodName := ⟨RJ6, "bitCount", "(I)I"⟩
def RJ9 : String := "java/lang/Math"
def TJ9 : u_T := fun k => match k with
  | _ => ("", "", "", false)
def tyJ9 : Nat → FieldType := fun k => match k with
  | _ => .int
theorem nmJ9 : ∀ a, a < 0 → ∀ b, b < 0 → a ≠ b → (TJ9 a).2.1 ≠ (TJ9 b).2.1 := by decide +kernel
theorem tyJ9_ok : ∀ k, k < 0 → parseFieldDescriptor (TJ9 k).2.2.1 = some (tyJ9 k) := by decide +kernel
abbrev cJ9_max_7cf53 : ByteArray := prog_12_method_65_code
def yJ9_max_7cf53 : MethodName := ⟨RJ9, "max", "(II)I"⟩
abbrev cJ9_min_7cf53 : ByteArray := prog_12_method_69_code
def yJ9_min_7cf53 : MethodName := ⟨RJ9, "min", "(II)I"⟩
def RJ10 : String := "java/lang/System"
def TJ10 : u_T := fun k => match k with
  | _ => ("", "", "", false)
def tyJ10 : Nat → FieldType := fun k => match k with
  | _ => .int
theorem nmJ10 : ∀ a, a < 0 → ∀ b, b < 0 → a ≠ b → (TJ10 a).2.1 ≠ (TJ10 b).2.1 := by decide +kernel
theorem tyJ10_ok : ∀ k, k < 0 → parseFieldDescriptor (TJ10 k).2.2.1 = some (tyJ10 k) := by decide +kernel
def RL : String := "NineBooksLaw"
abbrev cL_law : ByteArray := code
def yL_law : MethodName := ⟨RL, "law", "([I)Z"⟩
