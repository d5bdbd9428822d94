-- ===== PART A: goes FIRST, ahead of the names: the tables' words, and 'selects' of the private methods out of them =====
/-- a private method of a class that the tables say can be made, by its rows of tables_1 -/
def lw_okq (q : MethodName × Nat) : Prop := (q.1.cls ≠ "java/lang/invoke/MethodHandle" ∧ q.1.cls ≠ "java/lang/invoke/VarHandle") ∧ Cond.instantiable q.1.cls q.2 ∈ tables_1 ∧ Cond.privateMethod q.1 ∈ tables_1 ∧ Cond.instanceMethod q.1 ∈ tables_1
theorem lw_p0 : lw_okq (⟨"TopSheet", "found", "(I)I"⟩, 10) := ⟨⟨by decide +kernel, by decide +kernel⟩, List.mem_of_getElem? (i := 19) (by decide +kernel), List.mem_of_getElem? (i := 275) (by decide +kernel), List.mem_of_getElem? (i := 276) (by decide +kernel)⟩
theorem lw_p1 : lw_okq (⟨"TopSheet", "well", "(I)I"⟩, 10) := ⟨⟨by decide +kernel, by decide +kernel⟩, List.mem_of_getElem? (i := 19) (by decide +kernel), List.mem_of_getElem? (i := 284) (by decide +kernel), List.mem_of_getElem? (i := 285) (by decide +kernel)⟩
theorem lw_p2 : lw_okq (⟨"TopSheet$Reader", "step", "()V"⟩, 8) := ⟨⟨by decide +kernel, by decide +kernel⟩, List.mem_of_getElem? (i := 29) (by decide +kernel), List.mem_of_getElem? (i := 344) (by decide +kernel), List.mem_of_getElem? (i := 345) (by decide +kernel)⟩
theorem lw_p3 : lw_okq (⟨"TopSheet$Reader", "readWind", "()Z"⟩, 8) := ⟨⟨by decide +kernel, by decide +kernel⟩, List.mem_of_getElem? (i := 29) (by decide +kernel), List.mem_of_getElem? (i := 361) (by decide +kernel), List.mem_of_getElem? (i := 362) (by decide +kernel)⟩
theorem lw_p4 : lw_okq (⟨"TopSheet$Reader", "isWord", "(Ljava/lang/String;)Z"⟩, 8) := ⟨⟨by decide +kernel, by decide +kernel⟩, List.mem_of_getElem? (i := 29) (by decide +kernel), List.mem_of_getElem? (i := 366) (by decide +kernel), List.mem_of_getElem? (i := 367) (by decide +kernel)⟩
theorem lw_p5 : lw_okq (⟨"TopSheet$Reader", "fail", "(I)Z"⟩, 8) := ⟨⟨by decide +kernel, by decide +kernel⟩, List.mem_of_getElem? (i := 29) (by decide +kernel), List.mem_of_getElem? (i := 418) (by decide +kernel), List.mem_of_getElem? (i := 419) (by decide +kernel)⟩
theorem lw_p6 : lw_okq (⟨"TopSheet$Reader", "takeNumber", "(II)Z"⟩, 8) := ⟨⟨by decide +kernel, by decide +kernel⟩, List.mem_of_getElem? (i := 29) (by decide +kernel), List.mem_of_getElem? (i := 422) (by decide +kernel), List.mem_of_getElem? (i := 423) (by decide +kernel)⟩
theorem lw_p7 : lw_okq (⟨"TopSheet$Reader", "takeSemicolon", "()Z"⟩, 8) := ⟨⟨by decide +kernel, by decide +kernel⟩, List.mem_of_getElem? (i := 29) (by decide +kernel), List.mem_of_getElem? (i := 426) (by decide +kernel), List.mem_of_getElem? (i := 427) (by decide +kernel)⟩
theorem lw_p8 : lw_okq (⟨"TopSheet$Reader", "readDesks", "()Z"⟩, 8) := ⟨⟨by decide +kernel, by decide +kernel⟩, List.mem_of_getElem? (i := 29) (by decide +kernel), List.mem_of_getElem? (i := 430) (by decide +kernel), List.mem_of_getElem? (i := 431) (by decide +kernel)⟩
theorem lw_p9 : lw_okq (⟨"TopSheet$Reader", "readDesk", "()Z"⟩, 8) := ⟨⟨by decide +kernel, by decide +kernel⟩, List.mem_of_getElem? (i := 29) (by decide +kernel), List.mem_of_getElem? (i := 435) (by decide +kernel), List.mem_of_getElem? (i := 436) (by decide +kernel)⟩
theorem lw_p10 : lw_okq (⟨"TopSheet$Reader", "readSheets", "()Z"⟩, 8) := ⟨⟨by decide +kernel, by decide +kernel⟩, List.mem_of_getElem? (i := 29) (by decide +kernel), List.mem_of_getElem? (i := 443) (by decide +kernel), List.mem_of_getElem? (i := 444) (by decide +kernel)⟩
theorem lw_p11 : lw_okq (⟨"TopSheet$Reader", "readSheet", "()Z"⟩, 8) := ⟨⟨by decide +kernel, by decide +kernel⟩, List.mem_of_getElem? (i := 29) (by decide +kernel), List.mem_of_getElem? (i := 448) (by decide +kernel), List.mem_of_getElem? (i := 449) (by decide +kernel)⟩
theorem lw_p12 : lw_okq (⟨"TopSheet$Reader", "sortTold", "()I"⟩, 8) := ⟨⟨by decide +kernel, by decide +kernel⟩, List.mem_of_getElem? (i := 29) (by decide +kernel), List.mem_of_getElem? (i := 452) (by decide +kernel), List.mem_of_getElem? (i := 453) (by decide +kernel)⟩
theorem lw_p13 : lw_okq (⟨"TopSheet$Means", "weigh", "(LTopSheet$Office;I)V"⟩, 3) := ⟨⟨by decide +kernel, by decide +kernel⟩, List.mem_of_getElem? (i := 169) (by decide +kernel), List.mem_of_getElem? (i := 622) (by decide +kernel), List.mem_of_getElem? (i := 623) (by decide +kernel)⟩
theorem lw_p14 : lw_okq (⟨"TopSheet$Sorter", "leastLost", "(LTopSheet$Office;III)I"⟩, 2) := ⟨⟨by decide +kernel, by decide +kernel⟩, List.mem_of_getElem? (i := 188) (by decide +kernel), List.mem_of_getElem? (i := 645) (by decide +kernel), List.mem_of_getElem? (i := 646) (by decide +kernel)⟩
theorem lw_p15 : lw_okq (⟨"TopSheet$Sorter", "firstThatKeepsLost", "(LTopSheet$Office;III)I"⟩, 2) := ⟨⟨by decide +kernel, by decide +kernel⟩, List.mem_of_getElem? (i := 188) (by decide +kernel), List.mem_of_getElem? (i := 652) (by decide +kernel), List.mem_of_getElem? (i := 653) (by decide +kernel)⟩
def lw_privs_1 : List (MethodName × Nat) := [(⟨"TopSheet", "found", "(I)I"⟩, 10), (⟨"TopSheet", "well", "(I)I"⟩, 10), (⟨"TopSheet$Reader", "step", "()V"⟩, 8), (⟨"TopSheet$Reader", "readWind", "()Z"⟩, 8), (⟨"TopSheet$Reader", "isWord", "(Ljava/lang/String;)Z"⟩, 8), (⟨"TopSheet$Reader", "fail", "(I)Z"⟩, 8), (⟨"TopSheet$Reader", "takeNumber", "(II)Z"⟩, 8), (⟨"TopSheet$Reader", "takeSemicolon", "()Z"⟩, 8), (⟨"TopSheet$Reader", "readDesks", "()Z"⟩, 8), (⟨"TopSheet$Reader", "readDesk", "()Z"⟩, 8), (⟨"TopSheet$Reader", "readSheets", "()Z"⟩, 8), (⟨"TopSheet$Reader", "readSheet", "()Z"⟩, 8), (⟨"TopSheet$Reader", "sortTold", "()I"⟩, 8), (⟨"TopSheet$Means", "weigh", "(LTopSheet$Office;I)V"⟩, 3), (⟨"TopSheet$Sorter", "leastLost", "(LTopSheet$Office;III)I"⟩, 2), (⟨"TopSheet$Sorter", "firstThatKeepsLost", "(LTopSheet$Office;III)I"⟩, 2)]
theorem lw_r1 : ∀ q ∈ lw_privs_1, lw_okq q := List.forall_mem_cons.mpr ⟨lw_p0, List.forall_mem_cons.mpr ⟨lw_p1, List.forall_mem_cons.mpr ⟨lw_p2, List.forall_mem_cons.mpr ⟨lw_p3, List.forall_mem_cons.mpr ⟨lw_p4, List.forall_mem_cons.mpr ⟨lw_p5, List.forall_mem_cons.mpr ⟨lw_p6, List.forall_mem_cons.mpr ⟨lw_p7, List.forall_mem_cons.mpr ⟨lw_p8, List.forall_mem_cons.mpr ⟨lw_p9, List.forall_mem_cons.mpr ⟨lw_p10, List.forall_mem_cons.mpr ⟨lw_p11, List.forall_mem_cons.mpr ⟨lw_p12, List.forall_mem_cons.mpr ⟨lw_p13, List.forall_mem_cons.mpr ⟨lw_p14, List.forall_mem_cons.mpr ⟨lw_p15, fun _ h => absurd h List.not_mem_nil⟩⟩⟩⟩⟩⟩⟩⟩⟩⟩⟩⟩⟩⟩⟩⟩
theorem lw_p16 : lw_okq (⟨"TopSheet", "fits", "(LTopSheet$Row;III)Z"⟩, 10) := ⟨⟨by decide +kernel, by decide +kernel⟩, List.mem_of_getElem? (i := 19) (by decide +kernel), List.mem_of_getElem? (i := 681) (by decide +kernel), List.mem_of_getElem? (i := 682) (by decide +kernel)⟩
theorem lw_p17 : lw_okq (⟨"TopSheet$Asker", "leave", "(I)V"⟩, 2) := ⟨⟨by decide +kernel, by decide +kernel⟩, List.mem_of_getElem? (i := 203) (by decide +kernel), List.mem_of_getElem? (i := 759) (by decide +kernel), List.mem_of_getElem? (i := 760) (by decide +kernel)⟩
theorem lw_p18 : lw_okq (⟨"TopSheet", "standingRows", "()I"⟩, 10) := ⟨⟨by decide +kernel, by decide +kernel⟩, List.mem_of_getElem? (i := 19) (by decide +kernel), List.mem_of_getElem? (i := 771) (by decide +kernel), List.mem_of_getElem? (i := 772) (by decide +kernel)⟩
theorem lw_p19 : lw_okq (⟨"TopSheetModel", "finding", "(I)I"⟩, 28) := ⟨⟨by decide +kernel, by decide +kernel⟩, List.mem_of_getElem? (i := 779) (by decide +kernel), List.mem_of_getElem? (i := 884) (by decide +kernel), List.mem_of_getElem? (i := 885) (by decide +kernel)⟩
theorem lw_p20 : lw_okq (⟨"TopSheetModel", "begin", "()V"⟩, 28) := ⟨⟨by decide +kernel, by decide +kernel⟩, List.mem_of_getElem? (i := 779) (by decide +kernel), List.mem_of_getElem? (i := 912) (by decide +kernel), List.mem_of_getElem? (i := 913) (by decide +kernel)⟩
theorem lw_p21 : lw_okq (⟨"TopSheetModel", "next", "()V"⟩, 28) := ⟨⟨by decide +kernel, by decide +kernel⟩, List.mem_of_getElem? (i := 779) (by decide +kernel), List.mem_of_getElem? (i := 916) (by decide +kernel), List.mem_of_getElem? (i := 917) (by decide +kernel)⟩
theorem lw_p22 : lw_okq (⟨"TopSheetModel", "byteAt", "(I)I"⟩, 28) := ⟨⟨by decide +kernel, by decide +kernel⟩, List.mem_of_getElem? (i := 779) (by decide +kernel), List.mem_of_getElem? (i := 920) (by decide +kernel), List.mem_of_getElem? (i := 921) (by decide +kernel)⟩
theorem lw_p23 : lw_okq (⟨"TopSheetModel", "readWind", "()V"⟩, 28) := ⟨⟨by decide +kernel, by decide +kernel⟩, List.mem_of_getElem? (i := 779) (by decide +kernel), List.mem_of_getElem? (i := 931) (by decide +kernel), List.mem_of_getElem? (i := 932) (by decide +kernel)⟩
theorem lw_p24 : lw_okq (⟨"TopSheetModel", "name", "()J"⟩, 28) := ⟨⟨by decide +kernel, by decide +kernel⟩, List.mem_of_getElem? (i := 779) (by decide +kernel), List.mem_of_getElem? (i := 935) (by decide +kernel), List.mem_of_getElem? (i := 936) (by decide +kernel)⟩
theorem lw_p25 : lw_okq (⟨"TopSheetModel", "must", "(Z)V"⟩, 28) := ⟨⟨by decide +kernel, by decide +kernel⟩, List.mem_of_getElem? (i := 779) (by decide +kernel), List.mem_of_getElem? (i := 940) (by decide +kernel), List.mem_of_getElem? (i := 941) (by decide +kernel)⟩
theorem lw_p26 : lw_okq (⟨"TopSheetModel", "bad", "(I)V"⟩, 28) := ⟨⟨by decide +kernel, by decide +kernel⟩, List.mem_of_getElem? (i := 779) (by decide +kernel), List.mem_of_getElem? (i := 944) (by decide +kernel), List.mem_of_getElem? (i := 945) (by decide +kernel)⟩
theorem lw_p27 : lw_okq (⟨"TopSheetModel", "number", "(II)I"⟩, 28) := ⟨⟨by decide +kernel, by decide +kernel⟩, List.mem_of_getElem? (i := 779) (by decide +kernel), List.mem_of_getElem? (i := 948) (by decide +kernel), List.mem_of_getElem? (i := 949) (by decide +kernel)⟩
theorem lw_p28 : lw_okq (⟨"TopSheetModel", "figures", "()I"⟩, 28) := ⟨⟨by decide +kernel, by decide +kernel⟩, List.mem_of_getElem? (i := 779) (by decide +kernel), List.mem_of_getElem? (i := 952) (by decide +kernel), List.mem_of_getElem? (i := 953) (by decide +kernel)⟩
theorem lw_p29 : lw_okq (⟨"TopSheetModel", "mustEnd", "()V"⟩, 28) := ⟨⟨by decide +kernel, by decide +kernel⟩, List.mem_of_getElem? (i := 779) (by decide +kernel), List.mem_of_getElem? (i := 956) (by decide +kernel), List.mem_of_getElem? (i := 957) (by decide +kernel)⟩
theorem lw_p30 : lw_okq (⟨"TopSheetModel", "readDesk", "()V"⟩, 28) := ⟨⟨by decide +kernel, by decide +kernel⟩, List.mem_of_getElem? (i := 779) (by decide +kernel), List.mem_of_getElem? (i := 961) (by decide +kernel), List.mem_of_getElem? (i := 962) (by decide +kernel)⟩
theorem lw_p31 : lw_okq (⟨"TopSheetModel", "begins", "(II)V"⟩, 28) := ⟨⟨by decide +kernel, by decide +kernel⟩, List.mem_of_getElem? (i := 779) (by decide +kernel), List.mem_of_getElem? (i := 965) (by decide +kernel), List.mem_of_getElem? (i := 966) (by decide +kernel)⟩
def lw_privs_2 : List (MethodName × Nat) := [(⟨"TopSheet", "fits", "(LTopSheet$Row;III)Z"⟩, 10), (⟨"TopSheet$Asker", "leave", "(I)V"⟩, 2), (⟨"TopSheet", "standingRows", "()I"⟩, 10), (⟨"TopSheetModel", "finding", "(I)I"⟩, 28), (⟨"TopSheetModel", "begin", "()V"⟩, 28), (⟨"TopSheetModel", "next", "()V"⟩, 28), (⟨"TopSheetModel", "byteAt", "(I)I"⟩, 28), (⟨"TopSheetModel", "readWind", "()V"⟩, 28), (⟨"TopSheetModel", "name", "()J"⟩, 28), (⟨"TopSheetModel", "must", "(Z)V"⟩, 28), (⟨"TopSheetModel", "bad", "(I)V"⟩, 28), (⟨"TopSheetModel", "number", "(II)I"⟩, 28), (⟨"TopSheetModel", "figures", "()I"⟩, 28), (⟨"TopSheetModel", "mustEnd", "()V"⟩, 28), (⟨"TopSheetModel", "readDesk", "()V"⟩, 28), (⟨"TopSheetModel", "begins", "(II)V"⟩, 28)]
theorem lw_r2 : ∀ q ∈ lw_privs_2, lw_okq q := List.forall_mem_cons.mpr ⟨lw_p16, List.forall_mem_cons.mpr ⟨lw_p17, List.forall_mem_cons.mpr ⟨lw_p18, List.forall_mem_cons.mpr ⟨lw_p19, List.forall_mem_cons.mpr ⟨lw_p20, List.forall_mem_cons.mpr ⟨lw_p21, List.forall_mem_cons.mpr ⟨lw_p22, List.forall_mem_cons.mpr ⟨lw_p23, List.forall_mem_cons.mpr ⟨lw_p24, List.forall_mem_cons.mpr ⟨lw_p25, List.forall_mem_cons.mpr ⟨lw_p26, List.forall_mem_cons.mpr ⟨lw_p27, List.forall_mem_cons.mpr ⟨lw_p28, List.forall_mem_cons.mpr ⟨lw_p29, List.forall_mem_cons.mpr ⟨lw_p30, List.forall_mem_cons.mpr ⟨lw_p31, fun _ h => absurd h List.not_mem_nil⟩⟩⟩⟩⟩⟩⟩⟩⟩⟩⟩⟩⟩⟩⟩⟩
theorem lw_p32 : lw_okq (⟨"TopSheetModel", "readSheet", "()V"⟩, 28) := ⟨⟨by decide +kernel, by decide +kernel⟩, List.mem_of_getElem? (i := 779) (by decide +kernel), List.mem_of_getElem? (i := 970) (by decide +kernel), List.mem_of_getElem? (i := 971) (by decide +kernel)⟩
theorem lw_p33 : lw_okq (⟨"TopSheetModel", "isSheet", "(I)Z"⟩, 28) := ⟨⟨by decide +kernel, by decide +kernel⟩, List.mem_of_getElem? (i := 779) (by decide +kernel), List.mem_of_getElem? (i := 991) (by decide +kernel), List.mem_of_getElem? (i := 992) (by decide +kernel)⟩
theorem lw_p34 : lw_okq (⟨"TopSheetModel", "deskOf", "(I)I"⟩, 28) := ⟨⟨by decide +kernel, by decide +kernel⟩, List.mem_of_getElem? (i := 779) (by decide +kernel), List.mem_of_getElem? (i := 995) (by decide +kernel), List.mem_of_getElem? (i := 996) (by decide +kernel)⟩
theorem lw_p35 : lw_okq (⟨"TopSheetModel", "manyOn", "(I)I"⟩, 28) := ⟨⟨by decide +kernel, by decide +kernel⟩, List.mem_of_getElem? (i := 779) (by decide +kernel), List.mem_of_getElem? (i := 999) (by decide +kernel), List.mem_of_getElem? (i := 1000) (by decide +kernel)⟩
theorem lw_p36 : lw_okq (⟨"TopSheetModel", "lies", "(II)I"⟩, 28) := ⟨⟨by decide +kernel, by decide +kernel⟩, List.mem_of_getElem? (i := 779) (by decide +kernel), List.mem_of_getElem? (i := 1003) (by decide +kernel), List.mem_of_getElem? (i := 1004) (by decide +kernel)⟩
theorem lw_p37 : lw_okq (⟨"TopSheetModel", "keep", "()V"⟩, 28) := ⟨⟨by decide +kernel, by decide +kernel⟩, List.mem_of_getElem? (i := 779) (by decide +kernel), List.mem_of_getElem? (i := 1008) (by decide +kernel), List.mem_of_getElem? (i := 1009) (by decide +kernel)⟩
theorem lw_p38 : lw_okq (⟨"TopSheetModel", "placeOf", "(II)I"⟩, 28) := ⟨⟨by decide +kernel, by decide +kernel⟩, List.mem_of_getElem? (i := 779) (by decide +kernel), List.mem_of_getElem? (i := 1012) (by decide +kernel), List.mem_of_getElem? (i := 1013) (by decide +kernel)⟩
theorem lw_p39 : lw_okq (⟨"TopSheetModel", "leaves", "(II)V"⟩, 28) := ⟨⟨by decide +kernel, by decide +kernel⟩, List.mem_of_getElem? (i := 779) (by decide +kernel), List.mem_of_getElem? (i := 1016) (by decide +kernel), List.mem_of_getElem? (i := 1017) (by decide +kernel)⟩
theorem lw_p40 : lw_okq (⟨"TopSheetModel", "comes", "(II)V"⟩, 28) := ⟨⟨by decide +kernel, by decide +kernel⟩, List.mem_of_getElem? (i := 779) (by decide +kernel), List.mem_of_getElem? (i := 1020) (by decide +kernel), List.mem_of_getElem? (i := 1021) (by decide +kernel)⟩
theorem lw_p41 : lw_okq (⟨"TopSheetModel", "of", "(II)I"⟩, 28) := ⟨⟨by decide +kernel, by decide +kernel⟩, List.mem_of_getElem? (i := 779) (by decide +kernel), List.mem_of_getElem? (i := 1024) (by decide +kernel), List.mem_of_getElem? (i := 1025) (by decide +kernel)⟩
theorem lw_p42 : lw_okq (⟨"TopSheetModel", "isDesk", "(I)Z"⟩, 28) := ⟨⟨by decide +kernel, by decide +kernel⟩, List.mem_of_getElem? (i := 779) (by decide +kernel), List.mem_of_getElem? (i := 1032) (by decide +kernel), List.mem_of_getElem? (i := 1033) (by decide +kernel)⟩
theorem lw_p43 : lw_okq (⟨"TopSheetModel", "hasRoom", "(I)Z"⟩, 28) := ⟨⟨by decide +kernel, by decide +kernel⟩, List.mem_of_getElem? (i := 779) (by decide +kernel), List.mem_of_getElem? (i := 1036) (by decide +kernel), List.mem_of_getElem? (i := 1037) (by decide +kernel)⟩
theorem lw_p44 : lw_okq (⟨"TopSheetModel", "layLeft", "()V"⟩, 28) := ⟨⟨by decide +kernel, by decide +kernel⟩, List.mem_of_getElem? (i := 779) (by decide +kernel), List.mem_of_getElem? (i := 1052) (by decide +kernel), List.mem_of_getElem? (i := 1053) (by decide +kernel)⟩
theorem lw_p45 : lw_okq (⟨"TopSheetModel", "gust", "()I"⟩, 28) := ⟨⟨by decide +kernel, by decide +kernel⟩, List.mem_of_getElem? (i := 779) (by decide +kernel), List.mem_of_getElem? (i := 1056) (by decide +kernel), List.mem_of_getElem? (i := 1057) (by decide +kernel)⟩
theorem lw_p46 : lw_okq (⟨"TopSheetModel", "topOf", "(I)I"⟩, 28) := ⟨⟨by decide +kernel, by decide +kernel⟩, List.mem_of_getElem? (i := 779) (by decide +kernel), List.mem_of_getElem? (i := 1060) (by decide +kernel), List.mem_of_getElem? (i := 1061) (by decide +kernel)⟩
theorem lw_p47 : lw_okq (⟨"TopSheetModel", "isMissed", "(I)Z"⟩, 28) := ⟨⟨by decide +kernel, by decide +kernel⟩, List.mem_of_getElem? (i := 779) (by decide +kernel), List.mem_of_getElem? (i := 1073) (by decide +kernel), List.mem_of_getElem? (i := 1074) (by decide +kernel)⟩
def lw_privs_3 : List (MethodName × Nat) := [(⟨"TopSheetModel", "readSheet", "()V"⟩, 28), (⟨"TopSheetModel", "isSheet", "(I)Z"⟩, 28), (⟨"TopSheetModel", "deskOf", "(I)I"⟩, 28), (⟨"TopSheetModel", "manyOn", "(I)I"⟩, 28), (⟨"TopSheetModel", "lies", "(II)I"⟩, 28), (⟨"TopSheetModel", "keep", "()V"⟩, 28), (⟨"TopSheetModel", "placeOf", "(II)I"⟩, 28), (⟨"TopSheetModel", "leaves", "(II)V"⟩, 28), (⟨"TopSheetModel", "comes", "(II)V"⟩, 28), (⟨"TopSheetModel", "of", "(II)I"⟩, 28), (⟨"TopSheetModel", "isDesk", "(I)Z"⟩, 28), (⟨"TopSheetModel", "hasRoom", "(I)Z"⟩, 28), (⟨"TopSheetModel", "layLeft", "()V"⟩, 28), (⟨"TopSheetModel", "gust", "()I"⟩, 28), (⟨"TopSheetModel", "topOf", "(I)I"⟩, 28), (⟨"TopSheetModel", "isMissed", "(I)Z"⟩, 28)]
theorem lw_r3 : ∀ q ∈ lw_privs_3, lw_okq q := List.forall_mem_cons.mpr ⟨lw_p32, List.forall_mem_cons.mpr ⟨lw_p33, List.forall_mem_cons.mpr ⟨lw_p34, List.forall_mem_cons.mpr ⟨lw_p35, List.forall_mem_cons.mpr ⟨lw_p36, List.forall_mem_cons.mpr ⟨lw_p37, List.forall_mem_cons.mpr ⟨lw_p38, List.forall_mem_cons.mpr ⟨lw_p39, List.forall_mem_cons.mpr ⟨lw_p40, List.forall_mem_cons.mpr ⟨lw_p41, List.forall_mem_cons.mpr ⟨lw_p42, List.forall_mem_cons.mpr ⟨lw_p43, List.forall_mem_cons.mpr ⟨lw_p44, List.forall_mem_cons.mpr ⟨lw_p45, List.forall_mem_cons.mpr ⟨lw_p46, List.forall_mem_cons.mpr ⟨lw_p47, fun _ h => absurd h List.not_mem_nil⟩⟩⟩⟩⟩⟩⟩⟩⟩⟩⟩⟩⟩⟩⟩⟩
theorem lw_p48 : lw_okq (⟨"TopSheetModel", "takenBy", "(I)I"⟩, 28) := ⟨⟨by decide +kernel, by decide +kernel⟩, List.mem_of_getElem? (i := 779) (by decide +kernel), List.mem_of_getElem? (i := 1086) (by decide +kernel), List.mem_of_getElem? (i := 1087) (by decide +kernel)⟩
theorem lw_p49 : lw_okq (⟨"TopSheetModel", "worthOf", "(I)I"⟩, 28) := ⟨⟨by decide +kernel, by decide +kernel⟩, List.mem_of_getElem? (i := 779) (by decide +kernel), List.mem_of_getElem? (i := 1090) (by decide +kernel), List.mem_of_getElem? (i := 1091) (by decide +kernel)⟩
theorem lw_p50 : lw_okq (⟨"TopSheetModel", "layFirst", "(I)V"⟩, 28) := ⟨⟨by decide +kernel, by decide +kernel⟩, List.mem_of_getElem? (i := 779) (by decide +kernel), List.mem_of_getElem? (i := 1103) (by decide +kernel), List.mem_of_getElem? (i := 1104) (by decide +kernel)⟩
theorem lw_p51 : lw_okq (⟨"TopSheetModel", "lostBy", "(III)I"⟩, 28) := ⟨⟨by decide +kernel, by decide +kernel⟩, List.mem_of_getElem? (i := 779) (by decide +kernel), List.mem_of_getElem? (i := 1107) (by decide +kernel), List.mem_of_getElem? (i := 1108) (by decide +kernel)⟩
theorem lw_p52 : lw_okq (⟨"TopSheetModel", "nextOrder", "(I)Z"⟩, 28) := ⟨⟨by decide +kernel, by decide +kernel⟩, List.mem_of_getElem? (i := 779) (by decide +kernel), List.mem_of_getElem? (i := 1111) (by decide +kernel), List.mem_of_getElem? (i := 1112) (by decide +kernel)⟩
theorem lw_p53 : lw_okq (⟨"TopSheetModel", "isCovered", "(III)Z"⟩, 28) := ⟨⟨by decide +kernel, by decide +kernel⟩, List.mem_of_getElem? (i := 779) (by decide +kernel), List.mem_of_getElem? (i := 1119) (by decide +kernel), List.mem_of_getElem? (i := 1120) (by decide +kernel)⟩
theorem lw_p54 : lw_okq (⟨"TopSheetModel", "lostOn", "(II)I"⟩, 28) := ⟨⟨by decide +kernel, by decide +kernel⟩, List.mem_of_getElem? (i := 779) (by decide +kernel), List.mem_of_getElem? (i := 1127) (by decide +kernel), List.mem_of_getElem? (i := 1128) (by decide +kernel)⟩
theorem lw_p55 : lw_okq (⟨"TopSheetModel", "leastOn", "(I)I"⟩, 28) := ⟨⟨by decide +kernel, by decide +kernel⟩, List.mem_of_getElem? (i := 779) (by decide +kernel), List.mem_of_getElem? (i := 1131) (by decide +kernel), List.mem_of_getElem? (i := 1132) (by decide +kernel)⟩
theorem lw_p56 : lw_okq (⟨"TopSheetModel", "sizeOf", "(I)I"⟩, 28) := ⟨⟨by decide +kernel, by decide +kernel⟩, List.mem_of_getElem? (i := 779) (by decide +kernel), List.mem_of_getElem? (i := 1171) (by decide +kernel), List.mem_of_getElem? (i := 1172) (by decide +kernel)⟩
theorem lw_p57 : lw_okq (⟨"TopSheetModel", "slateSize", "(I)I"⟩, 28) := ⟨⟨by decide +kernel, by decide +kernel⟩, List.mem_of_getElem? (i := 779) (by decide +kernel), List.mem_of_getElem? (i := 1175) (by decide +kernel), List.mem_of_getElem? (i := 1176) (by decide +kernel)⟩
theorem lw_p58 : lw_okq (⟨"TopSheetModel", "began", "(I)V"⟩, 28) := ⟨⟨by decide +kernel, by decide +kernel⟩, List.mem_of_getElem? (i := 779) (by decide +kernel), List.mem_of_getElem? (i := 1179) (by decide +kernel), List.mem_of_getElem? (i := 1180) (by decide +kernel)⟩
theorem lw_p59 : lw_okq (⟨"TopSheetModel", "plainSize", "(I)I"⟩, 28) := ⟨⟨by decide +kernel, by decide +kernel⟩, List.mem_of_getElem? (i := 779) (by decide +kernel), List.mem_of_getElem? (i := 1183) (by decide +kernel), List.mem_of_getElem? (i := 1184) (by decide +kernel)⟩
theorem lw_p60 : lw_okq (⟨"TopSheetModel", "markOf", "(I)I"⟩, 28) := ⟨⟨by decide +kernel, by decide +kernel⟩, List.mem_of_getElem? (i := 779) (by decide +kernel), List.mem_of_getElem? (i := 1187) (by decide +kernel), List.mem_of_getElem? (i := 1188) (by decide +kernel)⟩
def lw_privs_4 : List (MethodName × Nat) := [(⟨"TopSheetModel", "takenBy", "(I)I"⟩, 28), (⟨"TopSheetModel", "worthOf", "(I)I"⟩, 28), (⟨"TopSheetModel", "layFirst", "(I)V"⟩, 28), (⟨"TopSheetModel", "lostBy", "(III)I"⟩, 28), (⟨"TopSheetModel", "nextOrder", "(I)Z"⟩, 28), (⟨"TopSheetModel", "isCovered", "(III)Z"⟩, 28), (⟨"TopSheetModel", "lostOn", "(II)I"⟩, 28), (⟨"TopSheetModel", "leastOn", "(I)I"⟩, 28), (⟨"TopSheetModel", "sizeOf", "(I)I"⟩, 28), (⟨"TopSheetModel", "slateSize", "(I)I"⟩, 28), (⟨"TopSheetModel", "began", "(I)V"⟩, 28), (⟨"TopSheetModel", "plainSize", "(I)I"⟩, 28), (⟨"TopSheetModel", "markOf", "(I)I"⟩, 28)]
theorem lw_r4 : ∀ q ∈ lw_privs_4, lw_okq q := List.forall_mem_cons.mpr ⟨lw_p48, List.forall_mem_cons.mpr ⟨lw_p49, List.forall_mem_cons.mpr ⟨lw_p50, List.forall_mem_cons.mpr ⟨lw_p51, List.forall_mem_cons.mpr ⟨lw_p52, List.forall_mem_cons.mpr ⟨lw_p53, List.forall_mem_cons.mpr ⟨lw_p54, List.forall_mem_cons.mpr ⟨lw_p55, List.forall_mem_cons.mpr ⟨lw_p56, List.forall_mem_cons.mpr ⟨lw_p57, List.forall_mem_cons.mpr ⟨lw_p58, List.forall_mem_cons.mpr ⟨lw_p59, List.forall_mem_cons.mpr ⟨lw_p60, fun _ h => absurd h List.not_mem_nil⟩⟩⟩⟩⟩⟩⟩⟩⟩⟩⟩⟩⟩
def lw_privs : List (MethodName × Nat) := lw_privs_1 ++ (lw_privs_2 ++ (lw_privs_3 ++ (lw_privs_4)))
def lw_tbl : List Cond := k2_sels lw_privs ++ tables_1
theorem lw_privs_ok : ∀ q ∈ lw_privs, lw_okq q := by
  show ∀ q ∈ lw_privs_1 ++ (lw_privs_2 ++ (lw_privs_3 ++ (lw_privs_4))), lw_okq q
  exact List.forall_mem_append.mpr ⟨lw_r1, List.forall_mem_append.mpr ⟨lw_r2, List.forall_mem_append.mpr ⟨lw_r3, lw_r4⟩⟩⟩
/-! ===== BEGIN words of one list among another's, by their places ===== -/
/-! ===== END ===== -/

/-! ===== BEGIN printed: names, fields, word lists, decode rows ===== -/
def RX0 : String := "TopSheet$Acts"
def TX0 : u_T := fun k => match k with
  | 0 => ("TopSheet$Acts", "before", "[LTopSheet$Office;", true)
  | 1 => ("TopSheet$Acts", "oldest", "I", false)
  | _ => ("TopSheet$Acts", "kept", "I", false)
def tyX0 : Nat → FieldType := fun k => match k with
  | 0 => .array (.object "TopSheet$Office")
  | 1 => .int
  | _ => .int
abbrev wsX00 : List Cond := u_ws RX0 TX0 3
theorem nmX0 : ∀ a, a < 3 → ∀ b, b < 3 → a ≠ b → (TX0 a).2.1 ≠ (TX0 b).2.1 := by decide +kernel
theorem tyX0_ok : ∀ k, k < 3 → parseFieldDescriptor (TX0 k).2.2.1 = some (tyX0 k) := by decide +kernel
abbrev cX0_init : ByteArray := prog_2_method_1_code
def yX0_init : MethodName := ⟨RX0, "<init>", "()V"⟩
abbrev cX0_keep : ByteArray := prog_2_method_2_code
def yX0_keep : MethodName := ⟨RX0, "keep", "(LTopSheet$Office;)V"⟩
abbrev cX0_takeBack : ByteArray := prog_2_method_3_code
def yX0_takeBack : MethodName := ⟨RX0, "takeBack", "(LTopSheet$Office;)V"⟩
abbrev cX0_forget : ByteArray := prog_2_method_4_code
def yX0_forget : MethodName := ⟨RX0, "forget", "()V"⟩
def RX1 : String := "TopSheet$Asker"
def TX1 : u_T := fun k => match k with
  | 0 => ("TopSheet$Asker", "bodies", "[I", true)
  | _ => ("TopSheet$Asker", "left", "I", false)
def tyX1 : Nat → FieldType := fun k => match k with
  | 0 => .array .int
  | _ => .int
abbrev wsX10 : List Cond := u_ws RX1 TX1 2
theorem nmX1 : ∀ a, a < 2 → ∀ b, b < 2 → a ≠ b → (TX1 a).2.1 ≠ (TX1 b).2.1 := by decide +kernel
theorem tyX1_ok : ∀ k, k < 2 → parseFieldDescriptor (TX1 k).2.2.1 = some (tyX1 k) := by decide +kernel
abbrev cX1_init : ByteArray := prog_3_method_1_code
def yX1_init : MethodName := ⟨RX1, "<init>", "()V"⟩
abbrev cX1_isKind : ByteArray := prog_3_method_2_code
def yX1_isKind : MethodName := ⟨RX1, "isKind", "(I)Z"⟩
abbrev cX1_isOneOf : ByteArray := prog_3_method_3_code
def yX1_isOneOf : MethodName := ⟨RX1, "isOneOf", "(II)Z"⟩
abbrev cX1_begin : ByteArray := prog_3_method_4_code
def yX1_begin : MethodName := ⟨RX1, "begin", "(LTopSheet$Office;II)I"⟩
abbrev cX1_bodyFor : ByteArray := prog_3_method_5_code
def yX1_bodyFor : MethodName := ⟨RX1, "bodyFor", "(LTopSheet$Office;II)I"⟩
abbrev cX1_leave : ByteArray := prog_3_method_6_code
def yX1_leave : MethodName := ⟨RX1, "leave", "(I)V"⟩
abbrev cX1_gives : ByteArray := prog_3_method_7_code
def yX1_gives : MethodName := ⟨RX1, "gives", "(LTopSheet$Asker;LTopSheet$Office;III)I"⟩
def RX2 : String := "TopSheet$Means"
def TX2 : u_T := fun k => match k with
  | 0 => ("TopSheet$Means", "cases", "[J", true)
  | 1 => ("TopSheet$Means", "numerator", "I", false)
  | _ => ("TopSheet$Means", "denominator", "I", false)
def tyX2 : Nat → FieldType := fun k => match k with
  | 0 => .array .long
  | 1 => .int
  | _ => .int
abbrev wsX20 : List Cond := u_ws RX2 TX2 3
theorem nmX2 : ∀ a, a < 3 → ∀ b, b < 3 → a ≠ b → (TX2 a).2.1 ≠ (TX2 b).2.1 := by decide +kernel
theorem tyX2_ok : ∀ k, k < 3 → parseFieldDescriptor (TX2 k).2.2.1 = some (tyX2 k) := by decide +kernel
abbrev cX2_init : ByteArray := prog_4_method_1_code
def yX2_init : MethodName := ⟨RX2, "<init>", "()V"⟩
abbrev cX2_foresee : ByteArray := prog_4_method_2_code
def yX2_foresee : MethodName := ⟨RX2, "foresee", "(LTopSheet$Office;I)V"⟩
abbrev cX2_weigh : ByteArray := prog_4_method_3_code
def yX2_weigh : MethodName := ⟨RX2, "weigh", "(LTopSheet$Office;I)V"⟩
abbrev cX2_commonDivisor : ByteArray := prog_4_method_4_code
def yX2_commonDivisor : MethodName := ⟨RX2, "commonDivisor", "(JJ)J"⟩
def RX3 : String := "TopSheet$Office"
def TX3 : u_T := fun k => match k with
  | 0 => ("TopSheet$Office", "wind", "[I", true)
  | 1 => ("TopSheet$Office", "room", "[I", true)
  | 2 => ("TopSheet$Office", "stones", "[I", true)
  | 3 => ("TopSheet$Office", "height", "[I", true)
  | 4 => ("TopSheet$Office", "piles", "[I", true)
  | 5 => ("TopSheet$Office", "sort", "[I", true)
  | 6 => ("TopSheet$Office", "worth", "[I", true)
  | 7 => ("TopSheet$Office", "need", "[I", true)
  | 8 => ("TopSheet$Office", "desks", "I", false)
  | 9 => ("TopSheet$Office", "sheets", "I", false)
  | 10 => ("TopSheet$Office", "quarter", "I", false)
  | _ => ("TopSheet$Office", "met", "I", false)
def tyX3 : Nat → FieldType := fun k => match k with
  | 0 => .array .int
  | 1 => .array .int
  | 2 => .array .int
  | 3 => .array .int
  | 4 => .array .int
  | 5 => .array .int
  | 6 => .array .int
  | 7 => .array .int
  | 8 => .int
  | 9 => .int
  | 10 => .int
  | _ => .int
abbrev wsX30 : List Cond := u_ws RX3 TX3 12
theorem nmX3 : ∀ a, a < 12 → ∀ b, b < 12 → a ≠ b → (TX3 a).2.1 ≠ (TX3 b).2.1 := by decide +kernel
theorem tyX3_ok : ∀ k, k < 12 → parseFieldDescriptor (TX3 k).2.2.1 = some (tyX3 k) := by decide +kernel
abbrev cX3_init : ByteArray := prog_5_method_1_code
def yX3_init : MethodName := ⟨RX3, "<init>", "()V"⟩
abbrev cX3_clear : ByteArray := prog_5_method_2_code
def yX3_clear : MethodName := ⟨RX3, "clear", "()V"⟩
abbrev cX3_takeOver : ByteArray := prog_5_method_3_code
def yX3_takeOver : MethodName := ⟨RX3, "takeOver", "(LTopSheet$Office;)V"⟩
abbrev cX3_isThere : ByteArray := prog_5_method_4_code
def yX3_isThere : MethodName := ⟨RX3, "isThere", "()Z"⟩
abbrev cX3_hasDesk : ByteArray := prog_5_method_5_code
def yX3_hasDesk : MethodName := ⟨RX3, "hasDesk", "(I)Z"⟩
abbrev cX3_hasSheet : ByteArray := prog_5_method_6_code
def yX3_hasSheet : MethodName := ⟨RX3, "hasSheet", "(I)Z"⟩
abbrev cX3_hasRoom : ByteArray := prog_5_method_7_code
def yX3_hasRoom : MethodName := ⟨RX3, "hasRoom", "(I)Z"⟩
abbrev cX3_furnish : ByteArray := prog_5_method_8_code
def yX3_furnish : MethodName := ⟨RX3, "furnish", "(II)V"⟩
abbrev cX3_bring : ByteArray := prog_5_method_9_code
def yX3_bring : MethodName := ⟨RX3, "bring", "(IIII)I"⟩
abbrev cX3_at : ByteArray := prog_5_method_10_code
def yX3_at : MethodName := ⟨RX3, "at", "(II)I"⟩
abbrev cX3_putOn : ByteArray := prog_5_method_11_code
def yX3_putOn : MethodName := ⟨RX3, "putOn", "(II)V"⟩
abbrev cX3_takeOff : ByteArray := prog_5_method_12_code
def yX3_takeOff : MethodName := ⟨RX3, "takeOff", "(I)V"⟩
abbrev cX3_deskOf : ByteArray := prog_5_method_13_code
def yX3_deskOf : MethodName := ⟨RX3, "deskOf", "(I)I"⟩
abbrev cX3_above : ByteArray := prog_5_method_14_code
def yX3_above : MethodName := ⟨RX3, "above", "(I)I"⟩
abbrev cX3_setOn : ByteArray := prog_5_method_15_code
def yX3_setOn : MethodName := ⟨RX3, "setOn", "(I)I"⟩
abbrev cX3_isGone : ByteArray := prog_5_method_16_code
def yX3_isGone : MethodName := ⟨RX3, "isGone", "(I)Z"⟩
abbrev cX3_isMet : ByteArray := prog_5_method_17_code
def yX3_isMet : MethodName := ⟨RX3, "isMet", "(I)Z"⟩
abbrev cX3_isMissed : ByteArray := prog_5_method_18_code
def yX3_isMissed : MethodName := ⟨RX3, "isMissed", "(I)Z"⟩
abbrev cX3_missedSet : ByteArray := prog_5_method_19_code
def yX3_missedSet : MethodName := ⟨RX3, "missedSet", "()I"⟩
abbrev cX3_goneSet : ByteArray := prog_5_method_20_code
def yX3_goneSet : MethodName := ⟨RX3, "goneSet", "()I"⟩
abbrev cX3_worthOf : ByteArray := prog_5_method_21_code
def yX3_worthOf : MethodName := ⟨RX3, "worthOf", "(I)I"⟩
abbrev cX3_takenFrom : ByteArray := prog_5_method_22_code
def yX3_takenFrom : MethodName := ⟨RX3, "takenFrom", "(II)I"⟩
abbrev cX3_lostFrom : ByteArray := prog_5_method_23_code
def yX3_lostFrom : MethodName := ⟨RX3, "lostFrom", "(II)I"⟩
abbrev cX3_takenByGust : ByteArray := prog_5_method_24_code
def yX3_takenByGust : MethodName := ⟨RX3, "takenByGust", "(I)I"⟩
abbrev cX3_takenBy : ByteArray := prog_5_method_25_code
def yX3_takenBy : MethodName := ⟨RX3, "takenBy", "(I)I"⟩
abbrev cX3_blow : ByteArray := prog_5_method_26_code
def yX3_blow : MethodName := ⟨RX3, "blow", "()I"⟩
abbrev cX3_lostIfUppermost : ByteArray := prog_5_method_27_code
def yX3_lostIfUppermost : MethodName := ⟨RX3, "lostIfUppermost", "(II)I"⟩
abbrev cX3_lostThrough : ByteArray := prog_5_method_28_code
def yX3_lostThrough : MethodName := ⟨RX3, "lostThrough", "(I)I"⟩
abbrev cX3_leastOn : ByteArray := prog_5_method_29_code
def yX3_leastOn : MethodName := ⟨RX3, "leastOn", "(I)I"⟩
def RX4 : String := "TopSheet$Reader"
def TX4 : u_T := fun k => match k with
  | 0 => ("TopSheet$Reader", "tape", "LTopSheet$Tape;", true)
  | 1 => ("TopSheet$Reader", "draft", "LTopSheet$Office;", true)
  | 2 => ("TopSheet$Reader", "type", "I", false)
  | 3 => ("TopSheet$Reader", "first", "I", false)
  | 4 => ("TopSheet$Reader", "next", "I", false)
  | 5 => ("TopSheet$Reader", "value", "I", false)
  | 6 => ("TopSheet$Reader", "told", "I", false)
  | _ => ("TopSheet$Reader", "faultNumber", "I", false)
def tyX4 : Nat → FieldType := fun k => match k with
  | 0 => .object "TopSheet$Tape"
  | 1 => .object "TopSheet$Office"
  | 2 => .int
  | 3 => .int
  | 4 => .int
  | 5 => .int
  | 6 => .int
  | _ => .int
abbrev wsX40 : List Cond := u_ws RX4 TX4 8
theorem nmX4 : ∀ a, a < 8 → ∀ b, b < 8 → a ≠ b → (TX4 a).2.1 ≠ (TX4 b).2.1 := by decide +kernel
theorem tyX4_ok : ∀ k, k < 8 → parseFieldDescriptor (TX4 k).2.2.1 = some (tyX4 k) := by decide +kernel
abbrev cX4_init : ByteArray := prog_6_method_1_code
def yX4_init : MethodName := ⟨RX4, "<init>", "()V"⟩
abbrev cX4_read : ByteArray := prog_6_method_2_code
def yX4_read : MethodName := ⟨RX4, "read", "()Z"⟩
abbrev cX4_readWind : ByteArray := prog_6_method_3_code
def yX4_readWind : MethodName := ⟨RX4, "readWind", "()Z"⟩
abbrev cX4_readDesks : ByteArray := prog_6_method_4_code
def yX4_readDesks : MethodName := ⟨RX4, "readDesks", "()Z"⟩
abbrev cX4_readDesk : ByteArray := prog_6_method_5_code
def yX4_readDesk : MethodName := ⟨RX4, "readDesk", "()Z"⟩
abbrev cX4_readSheets : ByteArray := prog_6_method_6_code
def yX4_readSheets : MethodName := ⟨RX4, "readSheets", "()Z"⟩
abbrev cX4_readSheet : ByteArray := prog_6_method_7_code
def yX4_readSheet : MethodName := ⟨RX4, "readSheet", "()Z"⟩
abbrev cX4_sortTold : ByteArray := prog_6_method_8_code
def yX4_sortTold : MethodName := ⟨RX4, "sortTold", "()I"⟩
abbrev cX4_takeNumber : ByteArray := prog_6_method_9_code
def yX4_takeNumber : MethodName := ⟨RX4, "takeNumber", "(II)Z"⟩
abbrev cX4_takeSemicolon : ByteArray := prog_6_method_10_code
def yX4_takeSemicolon : MethodName := ⟨RX4, "takeSemicolon", "()Z"⟩
abbrev cX4_fail : ByteArray := prog_6_method_11_code
def yX4_fail : MethodName := ⟨RX4, "fail", "(I)Z"⟩
abbrev cX4_isWord : ByteArray := prog_6_method_12_code
def yX4_isWord : MethodName := ⟨RX4, "isWord", "(Ljava/lang/String;)Z"⟩
abbrev cX4_step : ByteArray := prog_6_method_13_code
def yX4_step : MethodName := ⟨RX4, "step", "()V"⟩
abbrev cX4_isBlank : ByteArray := prog_6_method_14_code
def yX4_isBlank : MethodName := ⟨RX4, "isBlank", "(I)Z"⟩
abbrev cX4_isLetter : ByteArray := prog_6_method_15_code
def yX4_isLetter : MethodName := ⟨RX4, "isLetter", "(I)Z"⟩
abbrev cX4_isFigure : ByteArray := prog_6_method_16_code
def yX4_isFigure : MethodName := ⟨RX4, "isFigure", "(I)Z"⟩
def RX5 : String := "TopSheet$Row"
def TX5 : u_T := fun k => match k with
  | 0 => ("TopSheet$Row", "items", "[I", true)
  | 1 => ("TopSheet$Row", "lane", "I", false)
  | _ => ("TopSheet$Row", "length", "I", false)
def tyX5 : Nat → FieldType := fun k => match k with
  | 0 => .array .int
  | 1 => .int
  | _ => .int
abbrev wsX50 : List Cond := u_ws RX5 TX5 3
theorem nmX5 : ∀ a, a < 3 → ∀ b, b < 3 → a ≠ b → (TX5 a).2.1 ≠ (TX5 b).2.1 := by decide +kernel
theorem tyX5_ok : ∀ k, k < 3 → parseFieldDescriptor (TX5 k).2.2.1 = some (tyX5 k) := by decide +kernel
abbrev cX5_init : ByteArray := prog_7_method_1_code
def yX5_init : MethodName := ⟨RX5, "<init>", "()V"⟩
abbrev cX5_isMissing : ByteArray := prog_7_method_2_code
def yX5_isMissing : MethodName := ⟨RX5, "isMissing", "()Z"⟩
abbrev cX5_begin : ByteArray := prog_7_method_3_code
def yX5_begin : MethodName := ⟨RX5, "begin", "(II)V"⟩
abbrev cX5_end : ByteArray := prog_7_method_4_code
def yX5_end : MethodName := ⟨RX5, "end", "()V"⟩
abbrev cX5_hasPlaces : ByteArray := prog_7_method_5_code
def yX5_hasPlaces : MethodName := ⟨RX5, "hasPlaces", "(II)Z"⟩
abbrev cX5_put : ByteArray := prog_7_method_6_code
def yX5_put : MethodName := ⟨RX5, "put", "(II)I"⟩
def RX6 : String := "TopSheet$Sorter"
def TX6 : u_T := fun k => match k with
  | 0 => ("TopSheet$Sorter", "line", "[I", true)
  | _ => ("TopSheet$Sorter", "lost", "I", false)
def tyX6 : Nat → FieldType := fun k => match k with
  | 0 => .array .int
  | _ => .int
abbrev wsX60 : List Cond := u_ws RX6 TX6 2
theorem nmX6 : ∀ a, a < 2 → ∀ b, b < 2 → a ≠ b → (TX6 a).2.1 ≠ (TX6 b).2.1 := by decide +kernel
theorem tyX6_ok : ∀ k, k < 2 → parseFieldDescriptor (TX6 k).2.2.1 = some (tyX6 k) := by decide +kernel
abbrev cX6_init : ByteArray := prog_8_method_1_code
def yX6_init : MethodName := ⟨RX6, "<init>", "()V"⟩
abbrev cX6_arrange : ByteArray := prog_8_method_2_code
def yX6_arrange : MethodName := ⟨RX6, "arrange", "(LTopSheet$Office;II)V"⟩
abbrev cX6_firstThatKeepsLost : ByteArray := prog_8_method_3_code
def yX6_firstThatKeepsLost : MethodName := ⟨RX6, "firstThatKeepsLost", "(LTopSheet$Office;III)I"⟩
abbrev cX6_leastLost : ByteArray := prog_8_method_4_code
def yX6_leastLost : MethodName := ⟨RX6, "leastLost", "(LTopSheet$Office;III)I"⟩
abbrev cX6_cheapest : ByteArray := prog_8_method_5_code
def yX6_cheapest : MethodName := ⟨RX6, "cheapest", "(LTopSheet$Office;I)I"⟩
def RX7 : String := "TopSheet$Tape"
def TX7 : u_T := fun k => match k with
  | 0 => ("TopSheet$Tape", "bytes", "[B", true)
  | _ => ("TopSheet$Tape", "length", "I", false)
def tyX7 : Nat → FieldType := fun k => match k with
  | 0 => .array .byte
  | _ => .int
abbrev wsX70 : List Cond := u_ws RX7 TX7 2
theorem nmX7 : ∀ a, a < 2 → ∀ b, b < 2 → a ≠ b → (TX7 a).2.1 ≠ (TX7 b).2.1 := by decide +kernel
theorem tyX7_ok : ∀ k, k < 2 → parseFieldDescriptor (TX7 k).2.2.1 = some (tyX7 k) := by decide +kernel
abbrev cX7_init : ByteArray := prog_9_method_1_code
def yX7_init : MethodName := ⟨RX7, "<init>", "()V"⟩
abbrev cX7_hasRoom : ByteArray := prog_9_method_2_code
def yX7_hasRoom : MethodName := ⟨RX7, "hasRoom", "(I)Z"⟩
abbrev cX7_join : ByteArray := prog_9_method_3_code
def yX7_join : MethodName := ⟨RX7, "join", "(JI)V"⟩
abbrev cX7_at : ByteArray := prog_9_method_4_code
def yX7_at : MethodName := ⟨RX7, "at", "(I)I"⟩
def RX8 : String := "TopSheet"
def TX8 : u_T := fun k => match k with
  | 0 => ("TopSheet", "rows", "[LTopSheet$Row;", true)
  | 1 => ("TopSheet", "reader", "LTopSheet$Reader;", true)
  | 2 => ("TopSheet", "now", "LTopSheet$Office;", true)
  | 3 => ("TopSheet", "acts", "LTopSheet$Acts;", true)
  | 4 => ("TopSheet", "images", "[LTopSheet$Office;", true)
  | 5 => ("TopSheet", "means", "LTopSheet$Means;", true)
  | 6 => ("TopSheet", "sorter", "LTopSheet$Sorter;", true)
  | 7 => ("TopSheet", "asker", "LTopSheet$Asker;", true)
  | 8 => ("TopSheet", "latestFault", "I", false)
  | _ => ("TopSheet", "latestFinding", "I", false)
def tyX8 : Nat → FieldType := fun k => match k with
  | 0 => .array (.object "TopSheet$Row")
  | 1 => .object "TopSheet$Reader"
  | 2 => .object "TopSheet$Office"
  | 3 => .object "TopSheet$Acts"
  | 4 => .array (.object "TopSheet$Office")
  | 5 => .object "TopSheet$Means"
  | 6 => .object "TopSheet$Sorter"
  | 7 => .object "TopSheet$Asker"
  | 8 => .int
  | _ => .int
abbrev wsX80 : List Cond := u_ws RX8 TX8 10
theorem nmX8 : ∀ a, a < 10 → ∀ b, b < 10 → a ≠ b → (TX8 a).2.1 ≠ (TX8 b).2.1 := by decide +kernel
theorem tyX8_ok : ∀ k, k < 10 → parseFieldDescriptor (TX8 k).2.2.1 = some (tyX8 k) := by decide +kernel
abbrev cX8_init : ByteArray := prog_1_method_1_code
def yX8_init : MethodName := ⟨RX8, "<init>", "()V"⟩
abbrev cX8_row : ByteArray := prog_1_method_2_code
def yX8_row : MethodName := ⟨RX8, "row", "(III)I"⟩
abbrev cX8_set : ByteArray := prog_1_method_3_code
def yX8_set : MethodName := ⟨RX8, "set", "(III)I"⟩
abbrev cX8_copy : ByteArray := prog_1_method_4_code
def yX8_copy : MethodName := ⟨RX8, "copy", "(IIIII)I"⟩
abbrev cX8_drop : ByteArray := prog_1_method_5_code
def yX8_drop : MethodName := ⟨RX8, "drop", "(I)I"⟩
abbrev cX8_feed : ByteArray := prog_1_method_6_code
def yX8_feed : MethodName := ⟨RX8, "feed", "(JI)I"⟩
abbrev cX8_office : ByteArray := prog_1_method_7_code
def yX8_office : MethodName := ⟨RX8, "office", "()I"⟩
abbrev cX8_fault : ByteArray := prog_1_method_8_code
def yX8_fault : MethodName := ⟨RX8, "fault", "()I"⟩
abbrev cX8_lift : ByteArray := prog_1_method_9_code
def yX8_lift : MethodName := ⟨RX8, "lift", "(I)I"⟩
abbrev cX8_lay : ByteArray := prog_1_method_10_code
def yX8_lay : MethodName := ⟨RX8, "lay", "(II)I"⟩
abbrev cX8_blank : ByteArray := prog_1_method_11_code
def yX8_blank : MethodName := ⟨RX8, "blank", "(I)I"⟩
abbrev cX8_quarter : ByteArray := prog_1_method_12_code
def yX8_quarter : MethodName := ⟨RX8, "quarter", "(I)I"⟩
abbrev cX8_undo : ByteArray := prog_1_method_13_code
def yX8_undo : MethodName := ⟨RX8, "undo", "()I"⟩
abbrev cX8_sheet : ByteArray := prog_1_method_14_code
def yX8_sheet : MethodName := ⟨RX8, "sheet", "(II)I"⟩
abbrev cX8_desk : ByteArray := prog_1_method_15_code
def yX8_desk : MethodName := ⟨RX8, "desk", "(II)I"⟩
abbrev cX8_taken : ByteArray := prog_1_method_16_code
def yX8_taken : MethodName := ⟨RX8, "taken", "(II)I"⟩
abbrev cX8_mean : ByteArray := prog_1_method_17_code
def yX8_mean : MethodName := ⟨RX8, "mean", "(II)I"⟩
abbrev cX8_order : ByteArray := prog_1_method_18_code
def yX8_order : MethodName := ⟨RX8, "order", "(III)I"⟩
abbrev cX8_cover : ByteArray := prog_1_method_19_code
def yX8_cover : MethodName := ⟨RX8, "cover", "(II)I"⟩
abbrev cX8_lend : ByteArray := prog_1_method_20_code
def yX8_lend : MethodName := ⟨RX8, "lend", "(II)I"⟩
abbrev cX8_beach : ByteArray := prog_1_method_21_code
def yX8_beach : MethodName := ⟨RX8, "beach", "(IIII)I"⟩
abbrev cX8_window : ByteArray := prog_1_method_22_code
def yX8_window : MethodName := ⟨RX8, "window", "()I"⟩
abbrev cX8_missed : ByteArray := prog_1_method_23_code
def yX8_missed : MethodName := ⟨RX8, "missed", "(I)I"⟩
abbrev cX8_image : ByteArray := prog_1_method_24_code
def yX8_image : MethodName := ⟨RX8, "image", "(I)I"⟩
abbrev cX8_restore : ByteArray := prog_1_method_25_code
def yX8_restore : MethodName := ⟨RX8, "restore", "(I)I"⟩
abbrev cX8_kind : ByteArray := prog_1_method_26_code
def yX8_kind : MethodName := ⟨RX8, "kind", "(I)I"⟩
abbrev cX8_as : ByteArray := prog_1_method_27_code
def yX8_as : MethodName := ⟨RX8, "as", "(II)I"⟩
abbrev cX8_ask : ByteArray := prog_1_method_28_code
def yX8_ask : MethodName := ⟨RX8, "ask", "(II)I"⟩
abbrev cX8_trace : ByteArray := prog_1_method_29_code
def yX8_trace : MethodName := ⟨RX8, "trace", "(I)I"⟩
abbrev cX8_count : ByteArray := prog_1_method_30_code
def yX8_count : MethodName := ⟨RX8, "count", "(I)I"⟩
abbrev cX8_status : ByteArray := prog_1_method_31_code
def yX8_status : MethodName := ⟨RX8, "status", "()I"⟩
abbrev cX8_isRow : ByteArray := prog_1_method_32_code
def yX8_isRow : MethodName := ⟨RX8, "isRow", "(I)Z"⟩
abbrev cX8_isGusts : ByteArray := prog_1_method_33_code
def yX8_isGusts : MethodName := ⟨RX8, "isGusts", "(I)Z"⟩
abbrev cX8_isImage : ByteArray := prog_1_method_34_code
def yX8_isImage : MethodName := ⟨RX8, "isImage", "(I)Z"⟩
abbrev cX8_found : ByteArray := prog_1_method_35_code
def yX8_found : MethodName := ⟨RX8, "found", "(I)I"⟩
abbrev cX8_well : ByteArray := prog_1_method_36_code
def yX8_well : MethodName := ⟨RX8, "well", "(I)I"⟩
abbrev cX8_standingRows : ByteArray := prog_1_method_37_code
def yX8_standingRows : MethodName := ⟨RX8, "standingRows", "()I"⟩
abbrev cX8_fits : ByteArray := prog_1_method_38_code
def yX8_fits : MethodName := ⟨RX8, "fits", "(LTopSheet$Row;III)Z"⟩
def RX9 : String := "TopSheetModel"
def TX9 : u_T := fun k => match k with
  | 0 => ("TopSheetModel", "thrown", "I", false)
  | 1 => ("TopSheetModel", "status", "I", false)
  | 2 => ("TopSheetModel", "lane", "[I", true)
  | 3 => ("TopSheetModel", "many", "[I", true)
  | 4 => ("TopSheetModel", "item", "[I", true)
  | 5 => ("TopSheetModel", "office", "[I", true)
  | 6 => ("TopSheetModel", "fresh", "[I", true)
  | 7 => ("TopSheetModel", "isThere", "Z", false)
  | 8 => ("TopSheetModel", "was", "[I", true)
  | 9 => ("TopSheetModel", "acts", "I", false)
  | 10 => ("TopSheetModel", "tape", "[I", true)
  | 11 => ("TopSheetModel", "taped", "I", false)
  | 12 => ("TopSheetModel", "latest", "I", false)
  | 13 => ("TopSheetModel", "length", "I", false)
  | 14 => ("TopSheetModel", "cursor", "I", false)
  | 15 => ("TopSheetModel", "token", "I", false)
  | 16 => ("TopSheetModel", "start", "I", false)
  | 17 => ("TopSheetModel", "till", "I", false)
  | 18 => ("TopSheetModel", "fault", "I", false)
  | 19 => ("TopSheetModel", "faultAt", "I", false)
  | 20 => ("TopSheetModel", "left", "[I", true)
  | 21 => ("TopSheetModel", "odds", "[J", true)
  | 22 => ("TopSheetModel", "tried", "[I", true)
  | 23 => ("TopSheetModel", "best", "[I", true)
  | 24 => ("TopSheetModel", "isKept", "[Z", true)
  | 25 => ("TopSheetModel", "kept", "[I", true)
  | 26 => ("TopSheetModel", "trace", "[I", true)
  | _ => ("TopSheetModel", "traced", "I", false)
def tyX9 : Nat → FieldType := fun k => match k with
  | 0 => .int
  | 1 => .int
  | 2 => .array .int
  | 3 => .array .int
  | 4 => .array .int
  | 5 => .array .int
  | 6 => .array .int
  | 7 => .boolean
  | 8 => .array .int
  | 9 => .int
  | 10 => .array .int
  | 11 => .int
  | 12 => .int
  | 13 => .int
  | 14 => .int
  | 15 => .int
  | 16 => .int
  | 17 => .int
  | 18 => .int
  | 19 => .int
  | 20 => .array .int
  | 21 => .array .long
  | 22 => .array .int
  | 23 => .array .int
  | 24 => .array .boolean
  | 25 => .array .int
  | 26 => .array .int
  | _ => .int
abbrev wsX90 : List Cond := u_ws RX9 TX9 28
theorem nmX9 : ∀ a, a < 28 → ∀ b, b < 28 → a ≠ b → (TX9 a).2.1 ≠ (TX9 b).2.1 := by decide +kernel
theorem tyX9_ok : ∀ k, k < 28 → parseFieldDescriptor (TX9 k).2.2.1 = some (tyX9 k) := by decide +kernel
abbrev cX9_init : ByteArray := prog_11_method_1_code
def yX9_init : MethodName := ⟨RX9, "<init>", "()V"⟩
abbrev cX9_in : ByteArray := prog_11_method_3_code
def yX9_in : MethodName := ⟨RX9, "in", "(JJJ)Z"⟩
abbrev cX9_finding : ByteArray := prog_11_method_4_code
def yX9_finding : MethodName := ⟨RX9, "finding", "(I)I"⟩
abbrev cX9_isRow : ByteArray := prog_11_method_5_code
def yX9_isRow : MethodName := ⟨RX9, "isRow", "(I)Z"⟩
abbrev cX9_row : ByteArray := prog_11_method_6_code
def yX9_row : MethodName := ⟨RX9, "row", "(III)I"⟩
abbrev cX9_set : ByteArray := prog_11_method_7_code
def yX9_set : MethodName := ⟨RX9, "set", "(III)I"⟩
abbrev cX9_copy : ByteArray := prog_11_method_8_code
def yX9_copy : MethodName := ⟨RX9, "copy", "(IIIII)I"⟩
abbrev cX9_drop : ByteArray := prog_11_method_9_code
def yX9_drop : MethodName := ⟨RX9, "drop", "(I)I"⟩
abbrev cX9_feed : ByteArray := prog_11_method_10_code
def yX9_feed : MethodName := ⟨RX9, "feed", "(JI)I"⟩
abbrev cX9_byteAt : ByteArray := prog_11_method_11_code
def yX9_byteAt : MethodName := ⟨RX9, "byteAt", "(I)I"⟩
abbrev cX9_isLetter : ByteArray := prog_11_method_12_code
def yX9_isLetter : MethodName := ⟨RX9, "isLetter", "(I)Z"⟩
abbrev cX9_isFigure : ByteArray := prog_11_method_13_code
def yX9_isFigure : MethodName := ⟨RX9, "isFigure", "(I)Z"⟩
abbrev cX9_next : ByteArray := prog_11_method_14_code
def yX9_next : MethodName := ⟨RX9, "next", "()V"⟩
abbrev cX9_begin : ByteArray := prog_11_method_15_code
def yX9_begin : MethodName := ⟨RX9, "begin", "()V"⟩
abbrev cX9_bad : ByteArray := prog_11_method_16_code
def yX9_bad : MethodName := ⟨RX9, "bad", "(I)V"⟩
abbrev cX9_must : ByteArray := prog_11_method_17_code
def yX9_must : MethodName := ⟨RX9, "must", "(Z)V"⟩
abbrev cX9_name : ByteArray := prog_11_method_18_code
def yX9_name : MethodName := ⟨RX9, "name", "()J"⟩
abbrev cX9_figures : ByteArray := prog_11_method_19_code
def yX9_figures : MethodName := ⟨RX9, "figures", "()I"⟩
abbrev cX9_number : ByteArray := prog_11_method_20_code
def yX9_number : MethodName := ⟨RX9, "number", "(II)I"⟩
abbrev cX9_kindBy : ByteArray := prog_11_method_21_code
def yX9_kindBy : MethodName := ⟨RX9, "kindBy", "(J)I"⟩
abbrev cX9_mustEnd : ByteArray := prog_11_method_22_code
def yX9_mustEnd : MethodName := ⟨RX9, "mustEnd", "()V"⟩
abbrev cX9_begins : ByteArray := prog_11_method_23_code
def yX9_begins : MethodName := ⟨RX9, "begins", "(II)V"⟩
abbrev cX9_readWind : ByteArray := prog_11_method_24_code
def yX9_readWind : MethodName := ⟨RX9, "readWind", "()V"⟩
abbrev cX9_readDesk : ByteArray := prog_11_method_25_code
def yX9_readDesk : MethodName := ⟨RX9, "readDesk", "()V"⟩
abbrev cX9_readSheet : ByteArray := prog_11_method_26_code
def yX9_readSheet : MethodName := ⟨RX9, "readSheet", "()V"⟩
abbrev cX9_office : ByteArray := prog_11_method_27_code
def yX9_office : MethodName := ⟨RX9, "office", "()I"⟩
abbrev cX9_fault : ByteArray := prog_11_method_28_code
def yX9_fault : MethodName := ⟨RX9, "fault", "()I"⟩
abbrev cX9_isDesk : ByteArray := prog_11_method_29_code
def yX9_isDesk : MethodName := ⟨RX9, "isDesk", "(I)Z"⟩
abbrev cX9_isSheet : ByteArray := prog_11_method_30_code
def yX9_isSheet : MethodName := ⟨RX9, "isSheet", "(I)Z"⟩
abbrev cX9_of : ByteArray := prog_11_method_31_code
def yX9_of : MethodName := ⟨RX9, "of", "(II)I"⟩
abbrev cX9_manyOn : ByteArray := prog_11_method_32_code
def yX9_manyOn : MethodName := ⟨RX9, "manyOn", "(I)I"⟩
abbrev cX9_lies : ByteArray := prog_11_method_33_code
def yX9_lies : MethodName := ⟨RX9, "lies", "(II)I"⟩
abbrev cX9_deskOf : ByteArray := prog_11_method_34_code
def yX9_deskOf : MethodName := ⟨RX9, "deskOf", "(I)I"⟩
abbrev cX9_placeOf : ByteArray := prog_11_method_35_code
def yX9_placeOf : MethodName := ⟨RX9, "placeOf", "(II)I"⟩
abbrev cX9_hasRoom : ByteArray := prog_11_method_36_code
def yX9_hasRoom : MethodName := ⟨RX9, "hasRoom", "(I)Z"⟩
abbrev cX9_leaves : ByteArray := prog_11_method_37_code
def yX9_leaves : MethodName := ⟨RX9, "leaves", "(II)V"⟩
abbrev cX9_comes : ByteArray := prog_11_method_38_code
def yX9_comes : MethodName := ⟨RX9, "comes", "(II)V"⟩
abbrev cX9_keep : ByteArray := prog_11_method_39_code
def yX9_keep : MethodName := ⟨RX9, "keep", "()V"⟩
abbrev cX9_lift : ByteArray := prog_11_method_40_code
def yX9_lift : MethodName := ⟨RX9, "lift", "(I)I"⟩
abbrev cX9_lay : ByteArray := prog_11_method_41_code
def yX9_lay : MethodName := ⟨RX9, "lay", "(II)I"⟩
abbrev cX9_blank : ByteArray := prog_11_method_42_code
def yX9_blank : MethodName := ⟨RX9, "blank", "(I)I"⟩
abbrev cX9_layLeft : ByteArray := prog_11_method_43_code
def yX9_layLeft : MethodName := ⟨RX9, "layLeft", "()V"⟩
abbrev cX9_topOf : ByteArray := prog_11_method_44_code
def yX9_topOf : MethodName := ⟨RX9, "topOf", "(I)I"⟩
abbrev cX9_gust : ByteArray := prog_11_method_45_code
def yX9_gust : MethodName := ⟨RX9, "gust", "()I"⟩
abbrev cX9_quarter : ByteArray := prog_11_method_46_code
def yX9_quarter : MethodName := ⟨RX9, "quarter", "(I)I"⟩
abbrev cX9_undo : ByteArray := prog_11_method_47_code
def yX9_undo : MethodName := ⟨RX9, "undo", "()I"⟩
abbrev cX9_isMissed : ByteArray := prog_11_method_48_code
def yX9_isMissed : MethodName := ⟨RX9, "isMissed", "(I)Z"⟩
abbrev cX9_sheet : ByteArray := prog_11_method_49_code
def yX9_sheet : MethodName := ⟨RX9, "sheet", "(II)I"⟩
abbrev cX9_desk : ByteArray := prog_11_method_50_code
def yX9_desk : MethodName := ⟨RX9, "desk", "(II)I"⟩
abbrev cX9_worthOf : ByteArray := prog_11_method_51_code
def yX9_worthOf : MethodName := ⟨RX9, "worthOf", "(I)I"⟩
abbrev cX9_takenBy : ByteArray := prog_11_method_52_code
def yX9_takenBy : MethodName := ⟨RX9, "takenBy", "(I)I"⟩
abbrev cX9_taken : ByteArray := prog_11_method_53_code
def yX9_taken : MethodName := ⟨RX9, "taken", "(II)I"⟩
abbrev cX9_mean : ByteArray := prog_11_method_54_code
def yX9_mean : MethodName := ⟨RX9, "mean", "(II)I"⟩
abbrev cX9_lostBy : ByteArray := prog_11_method_55_code
def yX9_lostBy : MethodName := ⟨RX9, "lostBy", "(III)I"⟩
abbrev cX9_nextOrder : ByteArray := prog_11_method_56_code
def yX9_nextOrder : MethodName := ⟨RX9, "nextOrder", "(I)Z"⟩
abbrev cX9_layFirst : ByteArray := prog_11_method_57_code
def yX9_layFirst : MethodName := ⟨RX9, "layFirst", "(I)V"⟩
abbrev cX9_order : ByteArray := prog_11_method_58_code
def yX9_order : MethodName := ⟨RX9, "order", "(III)I"⟩
abbrev cX9_isCovered : ByteArray := prog_11_method_59_code
def yX9_isCovered : MethodName := ⟨RX9, "isCovered", "(III)Z"⟩
abbrev cX9_cover : ByteArray := prog_11_method_60_code
def yX9_cover : MethodName := ⟨RX9, "cover", "(II)I"⟩
abbrev cX9_leastOn : ByteArray := prog_11_method_61_code
def yX9_leastOn : MethodName := ⟨RX9, "leastOn", "(I)I"⟩
abbrev cX9_lostOn : ByteArray := prog_11_method_62_code
def yX9_lostOn : MethodName := ⟨RX9, "lostOn", "(II)I"⟩
abbrev cX9_lend : ByteArray := prog_11_method_63_code
def yX9_lend : MethodName := ⟨RX9, "lend", "(II)I"⟩
abbrev cX9_beach : ByteArray := prog_11_method_64_code
def yX9_beach : MethodName := ⟨RX9, "beach", "(IIII)I"⟩
abbrev cX9_window : ByteArray := prog_11_method_65_code
def yX9_window : MethodName := ⟨RX9, "window", "()I"⟩
abbrev cX9_missed : ByteArray := prog_11_method_66_code
def yX9_missed : MethodName := ⟨RX9, "missed", "(I)I"⟩
abbrev cX9_image : ByteArray := prog_11_method_67_code
def yX9_image : MethodName := ⟨RX9, "image", "(I)I"⟩
abbrev cX9_restore : ByteArray := prog_11_method_68_code
def yX9_restore : MethodName := ⟨RX9, "restore", "(I)I"⟩
abbrev cX9_isOf : ByteArray := prog_11_method_69_code
def yX9_isOf : MethodName := ⟨RX9, "isOf", "(II)Z"⟩
abbrev cX9_kind : ByteArray := prog_11_method_70_code
def yX9_kind : MethodName := ⟨RX9, "kind", "(I)I"⟩
abbrev cX9_as : ByteArray := prog_11_method_71_code
def yX9_as : MethodName := ⟨RX9, "as", "(II)I"⟩
abbrev cX9_began : ByteArray := prog_11_method_72_code
def yX9_began : MethodName := ⟨RX9, "began", "(I)V"⟩
abbrev cX9_plainSize : ByteArray := prog_11_method_73_code
def yX9_plainSize : MethodName := ⟨RX9, "plainSize", "(I)I"⟩
abbrev cX9_slateSize : ByteArray := prog_11_method_74_code
def yX9_slateSize : MethodName := ⟨RX9, "slateSize", "(I)I"⟩
abbrev cX9_markOf : ByteArray := prog_11_method_75_code
def yX9_markOf : MethodName := ⟨RX9, "markOf", "(I)I"⟩
abbrev cX9_sizeOf : ByteArray := prog_11_method_76_code
def yX9_sizeOf : MethodName := ⟨RX9, "sizeOf", "(I)I"⟩
abbrev cX9_ask : ByteArray := prog_11_method_77_code
def yX9_ask : MethodName := ⟨RX9, "ask", "(II)I"⟩
abbrev cX9_trace : ByteArray := prog_11_method_78_code
def yX9_trace : MethodName := ⟨RX9, "trace", "(I)I"⟩
abbrev cX9_count : ByteArray := prog_11_method_79_code
def yX9_count : MethodName := ⟨RX9, "count", "(I)I"⟩
abbrev cX9_status : ByteArray := prog_11_method_80_code
def yX9_status : MethodName := ⟨RX9, "status", "()I"⟩
def RJ6 : String := "java/lang/Integer"
def TJ6 : u_T := fun k => match k with
  | _ => ("", "", "", false)
def tyJ6 : Nat → FieldType := fun k => match k with
  | _ => .int
abbrev wsJ60 : List Cond := u_ws RJ6 TJ6 0
theorem nmJ6 : ∀ a, a < 0 → ∀ b, b < 0 → a ≠ b → (TJ6 a).2.1 ≠ (TJ6 b).2.1 := by decide +kernel
theorem tyJ6_ok : ∀ k, k < 0 → parseFieldDescriptor (TJ6 k).2.2.1 = some (tyJ6 k) := by decide +kernel
abbrev cJ6_bitCount_0f7a4 : ByteArray := prog_12_method_49_code
def yJ6_bitCount_0f7a4 : MethodName := ⟨RJ6, "bitCount", "(I)I"⟩
def RJ9 : String := "java/lang/Math"
def TJ9 : u_T := fun k => match k with
  | _ => ("", "", "", false)
def tyJ9 : Nat → FieldType := fun k => match k with
  | _ => .int
abbrev wsJ90 : List Cond := u_ws RJ9 TJ9 0
theorem nmJ9 : ∀ a, a < 0 → ∀ b, b < 0 → a ≠ b → (TJ9 a).2.1 ≠ (TJ9 b).2.1 := by decide +kernel
theorem tyJ9_ok : ∀ k, k < 0 → parseFieldDescriptor (TJ9 k).2.2.1 = some (tyJ9 k) := by decide +kernel
abbrev cJ9_max_7cf53 : ByteArray := prog_13_method_65_code
def yJ9_max_7cf53 : MethodName := ⟨RJ9, "max", "(II)I"⟩
abbrev cJ9_min_7cf53 : ByteArray := prog_13_method_69_code
def yJ9_min_7cf53 : MethodName := ⟨RJ9, "min", "(II)I"⟩
def RJ0 : String := "java/lang/String"
def TJ0 : u_T := fun k => match k with
  | _ => ("", "", "", false)
def tyJ0 : Nat → FieldType := fun k => match k with
  | _ => .int
abbrev wsJ00 : List Cond := u_ws RJ0 TJ0 0
theorem nmJ0 : ∀ a, a < 0 → ∀ b, b < 0 → a ≠ b → (TJ0 a).2.1 ≠ (TJ0 b).2.1 := by decide +kernel
theorem tyJ0_ok : ∀ k, k < 0 → parseFieldDescriptor (TJ0 k).2.2.1 = some (tyJ0 k) := by decide +kernel
abbrev cJ0_length_8abf5 : ByteArray := prog_14_method_54_code
def yJ0_length_8abf5 : MethodName := ⟨RJ0, "length", "()I"⟩
abbrev cJ0_charAt_5068e : ByteArray := prog_14_method_56_code
def yJ0_charAt_5068e : MethodName := ⟨RJ0, "charAt", "(I)C"⟩
abbrev cJ0_coder_7d493 : ByteArray := prog_14_method_152_code
def yJ0_coder_7d493 : MethodName := ⟨RJ0, "coder", "()B"⟩
abbrev cJ0_isLatin1_aae02 : ByteArray := prog_14_method_154_code
def yJ0_isLatin1_aae02 : MethodName := ⟨RJ0, "isLatin1", "()Z"⟩
abbrev cJ0_checkIndex_df160 : ByteArray := prog_14_method_155_code
def yJ0_checkIndex_df160 : MethodName := ⟨RJ0, "checkIndex", "(II)V"⟩
def RJ1 : String := "java/lang/StringLatin1"
def TJ1 : u_T := fun k => match k with
  | _ => ("", "", "", false)
def tyJ1 : Nat → FieldType := fun k => match k with
  | _ => .int
abbrev wsJ10 : List Cond := u_ws RJ1 TJ1 0
theorem nmJ1 : ∀ a, a < 0 → ∀ b, b < 0 → a ≠ b → (TJ1 a).2.1 ≠ (TJ1 b).2.1 := by decide +kernel
theorem tyJ1_ok : ∀ k, k < 0 → parseFieldDescriptor (TJ1 k).2.2.1 = some (tyJ1 k) := by decide +kernel
abbrev cJ1_charAt_3b067 : ByteArray := prog_15_method_2_code
def yJ1_charAt_3b067 : MethodName := ⟨RJ1, "charAt", "([BI)C"⟩
def RJ2 : String := "java/lang/StringUTF16"
def TJ2 : u_T := fun k => match k with
  | _ => ("", "", "", false)
def tyJ2 : Nat → FieldType := fun k => match k with
  | _ => .int
abbrev wsJ20 : List Cond := u_ws RJ2 TJ2 0
theorem nmJ2 : ∀ a, a < 0 → ∀ b, b < 0 → a ≠ b → (TJ2 a).2.1 ≠ (TJ2 b).2.1 := by decide +kernel
theorem tyJ2_ok : ∀ k, k < 0 → parseFieldDescriptor (TJ2 k).2.2.1 = some (tyJ2 k) := by decide +kernel
abbrev cJ2_getChar_3b067 : ByteArray := prog_16_method_5_code
def yJ2_getChar_3b067 : MethodName := ⟨RJ2, "getChar", "([BI)C"⟩
abbrev cJ2_length_9d52b : ByteArray := prog_16_method_6_code
def yJ2_length_9d52b : MethodName := ⟨RJ2, "length", "([B)I"⟩
abbrev cJ2_charAt_3b067 : ByteArray := prog_16_method_83_code
def yJ2_charAt_3b067 : MethodName := ⟨RJ2, "charAt", "([BI)C"⟩
abbrev cJ2_checkIndex_2214a : ByteArray := prog_16_method_91_code
def yJ2_checkIndex_2214a : MethodName := ⟨RJ2, "checkIndex", "(I[B)V"⟩
def RJ10 : String := "java/lang/System"
def TJ10 : u_T := fun k => match k with
  | _ => ("", "", "", false)
def tyJ10 : Nat → FieldType := fun k => match k with
  | _ => .int
abbrev wsJ100 : List Cond := u_ws RJ10 TJ10 0
theorem nmJ10 : ∀ a, a < 0 → ∀ b, b < 0 → a ≠ b → (TJ10 a).2.1 ≠ (TJ10 b).2.1 := by decide +kernel
theorem tyJ10_ok : ∀ k, k < 0 → parseFieldDescriptor (TJ10 k).2.2.1 = some (tyJ10 k) := by decide +kernel
def RJ3 : String := "jdk/internal/util/Preconditions"
def TJ3 : u_T := fun k => match k with
  | _ => ("", "", "", false)
def tyJ3 : Nat → FieldType := fun k => match k with
  | _ => .int
abbrev wsJ30 : List Cond := u_ws RJ3 TJ3 0
theorem nmJ3 : ∀ a, a < 0 → ∀ b, b < 0 → a ≠ b → (TJ3 a).2.1 ≠ (TJ3 b).2.1 := by decide +kernel
theorem tyJ3_ok : ∀ k, k < 0 → parseFieldDescriptor (TJ3 k).2.2.1 = some (tyJ3 k) := by decide +kernel
abbrev cJ3_checkIndex_8e157 : ByteArray := prog_18_method_11_code
def yJ3_checkIndex_8e157 : MethodName := ⟨RJ3, "checkIndex", "(IILjava/util/function/BiFunction;)I"⟩
def RL : String := "TopSheetLaw"
abbrev cL_law : ByteArray := code
def yL_law : MethodName := ⟨RL, "law", "([I)Z"⟩
abbrev vwCl : List vw_C := [(RX0, TX0, 3), (RX1, TX1, 2), (RX2, TX2, 3), (RX3, TX3, 12), (RX4, TX4, 8), (RX5, TX5, 3), (RX6, TX6, 2), (RX7, TX7, 2), (RX8, TX8, 10), (RX9, TX9, 28)]
