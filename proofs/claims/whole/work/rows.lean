section
-- ===== PART A: goes FIRST, ahead of the names: the tables' words, and 'selects' of the private methods out of them =====
/-- a private method of a class that the tables say can be made, by its rows of tables_1 -/
def lw_okq (q : MethodName × Nat) : Prop := (q.1.cls ≠ "java/lang/invoke/MethodHandle" ∧ q.1.cls ≠ "java/lang/invoke/VarHandle") ∧ Cond.instantiable q.1.cls q.2 ∈ tables_1 ∧ Cond.privateMethod q.1 ∈ tables_1 ∧ Cond.instanceMethod q.1 ∈ tables_1
theorem lw_p0 : lw_okq (⟨"TopSheet", "found", "(I)I"⟩, 10) := ⟨⟨by decide +kernel, by decide +kernel⟩, List.mem_of_getElem? (i := 19) (by decide +kernel), List.mem_of_getElem? (i := 275) (by decide +kernel), List.mem_of_getElem? (i := 276) (by decide +kernel)⟩
theorem lw_p1 : lw_okq (⟨"TopSheet", "well", "(I)I"⟩, 10) := ⟨⟨by decide +kernel, by decide +kernel⟩, List.mem_of_getElem? (i := 19) (by decide +kernel), List.mem_of_getElem? (i := 284) (by decide +kernel), List.mem_of_getElem? (i := 285) (by decide +kernel)⟩
theorem lw_p2 : lw_okq (⟨"TopSheet$Reader", "step", "()V"⟩, 8) := ⟨⟨by decide +kernel, by decide +kernel⟩, List.mem_of_getElem? (i := 29) (by decide +kernel), List.mem_of_getElem? (i := 344) (by decide +kernel), List.mem_of_getElem? (i := 345) (by decide +kernel)⟩
theorem lw_p3 : lw_okq (⟨"TopSheet$Reader", "readWind", "()Z"⟩, 8) := ⟨⟨by decide +kernel, by decide +kernel⟩, List.mem_of_getElem? (i := 29) (by decide +kernel), List.mem_of_getElem? (i := 361) (by decide +kernel), List.mem_of_getElem? (i := 362) (by decide +kernel)⟩
theorem lw_p4 : lw_okq (⟨"TopSheet$Reader", "isWord", "(Ljava/lang/String;)Z"⟩, 8) := ⟨⟨by decide +kernel, by decide +kernel⟩, List.mem_of_getElem? (i := 29) (by decide +kernel), List.mem_of_getElem? (i := 366) (by decide +kernel), List.mem_of_getElem? (i := 367) (by decide +kernel)⟩
theorem lw_p5 : lw_okq (⟨"TopSheet$Reader", "fail", "(I)Z"⟩, 8) := ⟨⟨by decide +kernel, by decide +kernel⟩, List.mem_of_getElem? (i := 29) (by decide +kernel), List.mem_of_getElem? (i := 418) (by decide +kernel), List.mem_of_getElem? (i := 419) (by decide +kernel)⟩
theorem lw_p6 : lw_okq (⟨"TopSheet$Reader", "takeNumber", "(II)Z"⟩, 8) := ⟨⟨by decide +kernel, by decide +kernel⟩, List.mem_of_getElem? (i := 29) (by decide +kernel), List.mem_of_getElem? (i := 422) (by decide +kernel), List.mem_of_getElem? (i := 423) (by decide +kernel)⟩
theorem lw_p7 : lw_okq (⟨"TopSheet$Reader", "takeSemicolon", "()Z"⟩, 8) := ⟨⟨by decide +kernel, by decide +kernel⟩, List.mem_of_getElem? (i := 29) (by decide +kernel), List.mem_of_getElem? (i := 426) (by decide +kernel), List.mem_of_getElem? (i := 427) (by decide +kernel)⟩
theorem lw_p8 : lw_okq (⟨"TopSheet$Reader", "readDesks", "()Z"⟩, 8) := ⟨⟨by decide +kernel, by decide +kernel⟩, List.mem_of_getElem? (i := 29) (by decide +kernel), List.mem_of_getElem? (i := 430) (by decide +kernel), List.mem_of_getElem? (i := 431) (by decide +kernel)⟩
theorem lw_p9 : lw_okq (⟨"TopSheet$Reader", "readDesk", "()Z"⟩, 8) := ⟨⟨by decide +kernel, by decide +kernel⟩, List.mem_of_getElem? (i := 29) (by decide +kernel), List.mem_of_getElem? (i := 435) (by decide +kernel), List.mem_of_getElem? (i := 436) (by decide +kernel)⟩
theorem lw_p10 : lw_okq (⟨"TopSheet$Reader", "readSheets", "()Z"⟩, 8) := ⟨⟨by decide +kernel, by decide +kernel⟩, List.mem_of_getElem? (i := 29) (by decide +kernel), List.mem_of_getElem? (i := 443) (by decide +kernel), List.mem_of_getElem? (i := 444) (by decide +kernel)⟩
theorem lw_p11 : lw_okq (⟨"TopSheet$Reader", "readSheet", "()Z"⟩, 8) := ⟨⟨by decide +kernel, by decide +kernel⟩, List.mem_of_getElem? (i := 29) (by decide +kernel), List.mem_of_getElem? (i := 448) (by decide +kernel), List.mem_of_getElem? (i := 449) (by decide +kernel)⟩
theorem lw_p12 : lw_okq (⟨"TopSheet$Reader", "sortTold", "()I"⟩, 8) := ⟨⟨by decide +kernel, by decide +kernel⟩, List.mem_of_getElem? (i := 29) (by decide +kernel), List.mem_of_getElem? (i := 452) (by decide +kernel), List.mem_of_getElem? (i := 453) (by decide +kernel)⟩
theorem lw_p13 : lw_okq (⟨"TopSheet$Means", "weigh", "(LTopSheet$Office;I)V"⟩, 3) := ⟨⟨by decide +kernel, by decide +kernel⟩, List.mem_of_getElem? (i := 169) (by decide +kernel), List.mem_of_getElem? (i := 622) (by decide +kernel), List.mem_of_getElem? (i := 623) (by decide +kernel)⟩
theorem lw_p14 : lw_okq (⟨"TopSheet$Sorter", "leastLost", "(LTopSheet$Office;III)I"⟩, 2) := ⟨⟨by decide +kernel, by decide +kernel⟩, List.mem_of_getElem? (i := 188) (by decide +kernel), List.mem_of_getElem? (i := 645) (by decide +kernel), List.mem_of_getElem? (i := 646) (by decide +kernel)⟩
theorem lw_p15 : lw_okq (⟨"TopSheet$Sorter", "firstThatKeepsLost", "(LTopSheet$Office;III)I"⟩, 2) := ⟨⟨by decide +kernel, by decide +kernel⟩, List.mem_of_getElem? (i := 188) (by decide +kernel), List.mem_of_getElem? (i := 652) (by decide +kernel), List.mem_of_getElem? (i := 653) (by decide +kernel)⟩
def lw_privs_1 : List (MethodName × Nat) := [(⟨"TopSheet", "found", "(I)I"⟩, 10), (⟨"TopSheet", "well", "(I)I"⟩, 10), (⟨"TopSheet$Reader", "step", "()V"⟩, 8), (⟨"TopSheet$Reader", "readWind", "()Z"⟩, 8), (⟨"TopSheet$Reader", "isWord", "(Ljava/lang/String;)Z"⟩, 8), (⟨"TopSheet$Reader", "fail", "(I)Z"⟩, 8), (⟨"TopSheet$Reader", "takeNumber", "(II)Z"⟩, 8), (⟨"TopSheet$Reader", "takeSemicolon", "()Z"⟩, 8), (⟨"TopSheet$Reader", "readDesks", "()Z"⟩, 8), (⟨"TopSheet$Reader", "readDesk", "()Z"⟩, 8), (⟨"TopSheet$Reader", "readSheets", "()Z"⟩, 8), (⟨"TopSheet$Reader", "readSheet", "()Z"⟩, 8), (⟨"TopSheet$Reader", "sortTold", "()I"⟩, 8), (⟨"TopSheet$Means", "weigh", "(LTopSheet$Office;I)V"⟩, 3), (⟨"TopSheet$Sorter", "leastLost", "(LTopSheet$Office;III)I"⟩, 2), (⟨"TopSheet$Sorter", "firstThatKeepsLost", "(LTopSheet$Office;III)I"⟩, 2)]
theorem lw_r1 : ∀ q ∈ lw_privs_1, lw_okq q := List.forall_mem_cons.mpr ⟨lw_p0, List.forall_mem_cons.mpr ⟨lw_p1, List.forall_mem_cons.mpr ⟨lw_p2, List.forall_mem_cons.mpr ⟨lw_p3, List.forall_mem_cons.mpr ⟨lw_p4, List.forall_mem_cons.mpr ⟨lw_p5, List.forall_mem_cons.mpr ⟨lw_p6, List.forall_mem_cons.mpr ⟨lw_p7, List.forall_mem_cons.mpr ⟨lw_p8, List.forall_mem_cons.mpr ⟨lw_p9, List.forall_mem_cons.mpr ⟨lw_p10, List.forall_mem_cons.mpr ⟨lw_p11, List.forall_mem_cons.mpr ⟨lw_p12, List.forall_mem_cons.mpr ⟨lw_p13, List.forall_mem_cons.mpr ⟨lw_p14, List.forall_mem_cons.mpr ⟨lw_p15, fun _ h => absurd h List.not_mem_nil⟩⟩⟩⟩⟩⟩⟩⟩⟩⟩⟩⟩⟩⟩⟩⟩
theorem lw_p16 : lw_okq (⟨"TopSheet", "fits", "(LTopSheet$Row;III)Z"⟩, 10) := ⟨⟨by decide +kernel, by decide +kernel⟩, List.mem_of_getElem? (i := 19) (by decide +kernel), List.mem_of_getElem? (i := 681) (by decide +kernel), List.mem_of_getElem? (i := 682) (by decide +kernel)⟩
theorem lw_p17 : lw_okq (⟨"TopSheet$Asker", "leave", "(I)V"⟩, 2) := ⟨⟨by decide +kernel, by decide +kernel⟩, List.mem_of_getElem? (i := 203) (by decide +kernel), List.mem_of_getElem? (i := 759) (by decide +kernel), List.mem_of_getElem? (i := 760) (by decide +kernel)⟩
theorem lw_p18 : lw_okq (⟨"TopSheet", "standingRows", "()I"⟩, 10) := ⟨⟨by decide +kernel, by decide +kernel⟩, List.mem_of_getElem? (i := 19) (by decide +kernel), List.mem_of_getElem? (i := 771) (by decide +kernel), List.mem_of_getElem? (i := 772) (by decide +kernel)⟩
theorem lw_p19 : lw_okq (⟨"TopSheetModel", "finding", "(I)I"⟩, 28) := ⟨⟨by decide +kernel, by decide +kernel⟩, List.mem_of_getElem? (i := 779) (by decide +kernel), List.mem_of_getElem? (i := 884) (by decide +kernel), List.mem_of_getElem? (i := 885) (by decide +kernel)⟩
theorem lw_p20 : lw_okq (⟨"TopSheetModel", "begin", "()V"⟩, 28) := ⟨⟨by decide +kernel, by decide +kernel⟩, List.mem_of_getElem? (i := 779) (by decide +kernel), List.mem_of_getElem? (i := 912) (by decide +kernel), List.mem_of_getElem? (i := 913) (by decide +kernel)⟩
theorem lw_p21 : lw_okq (⟨"TopSheetModel", "next", "()V"⟩, 28) := ⟨⟨by decide +kernel, by decide +kernel⟩, List.mem_of_getElem? (i := 779) (by decide +kernel), List.mem_of_getElem? (i := 916) (by decide +kernel), List.mem_of_getElem? (i := 917) (by decide +kernel)⟩
theorem lw_p22 : lw_okq (⟨"TopSheetModel", "byteAt", "(I)I"⟩, 28) := ⟨⟨by decide +kernel, by decide +kernel⟩, List.mem_of_getElem? (i := 779) (by decide +kernel), List.mem_of_getElem? (i := 920) (by decide +kernel), List.mem_of_getElem? (i := 921) (by decide +kernel)⟩
theorem lw_p23 : lw_okq (⟨"TopSheetModel", "readWind", "()V"⟩, 28) := ⟨⟨by decide +kernel, by decide +kernel⟩, List.mem_of_getElem? (i := 779) (by decide +kernel), List.mem_of_getElem? (i := 931) (by decide +kernel), List.mem_of_getElem? (i := 932) (by decide +kernel)⟩
theorem lw_p24 : lw_okq (⟨"TopSheetModel", "name", "()J"⟩, 28) := ⟨⟨by decide +kernel, by decide +kernel⟩, List.mem_of_getElem? (i := 779) (by decide +kernel), List.mem_of_getElem? (i := 935) (by decide +kernel), List.mem_of_getElem? (i := 936) (by decide +kernel)⟩
theorem lw_p25 : lw_okq (⟨"TopSheetModel", "must", "(Z)V"⟩, 28) := ⟨⟨by decide +kernel, by decide +kernel⟩, List.mem_of_getElem? (i := 779) (by decide +kernel), List.mem_of_getElem? (i := 940) (by decide +kernel), List.mem_of_getElem? (i := 941) (by decide +kernel)⟩
theorem lw_p26 : lw_okq (⟨"TopSheetModel", "bad", "(I)V"⟩, 28) := ⟨⟨by decide +kernel, by decide +kernel⟩, List.mem_of_getElem? (i := 779) (by decide +kernel), List.mem_of_getElem? (i := 944) (by decide +kernel), List.mem_of_getElem? (i := 945) (by decide +kernel)⟩
theorem lw_p27 : lw_okq (⟨"TopSheetModel", "number", "(II)I"⟩, 28) := ⟨⟨by decide +kernel, by decide +kernel⟩, List.mem_of_getElem? (i := 779) (by decide +kernel), List.mem_of_getElem? (i := 948) (by decide +kernel), List.mem_of_getElem? (i := 949) (by decide +kernel)⟩
theorem lw_p28 : lw_okq (⟨"TopSheetModel", "figures", "()I"⟩, 28) := ⟨⟨by decide +kernel, by decide +kernel⟩, List.mem_of_getElem? (i := 779) (by decide +kernel), List.mem_of_getElem? (i := 952) (by decide +kernel), List.mem_of_getElem? (i := 953) (by decide +kernel)⟩
theorem lw_p29 : lw_okq (⟨"TopSheetModel", "mustEnd", "()V"⟩, 28) := ⟨⟨by decide +kernel, by decide +kernel⟩, List.mem_of_getElem? (i := 779) (by decide +kernel), List.mem_of_getElem? (i := 956) (by decide +kernel), List.mem_of_getElem? (i := 957) (by decide +kernel)⟩
theorem lw_p30 : lw_okq (⟨"TopSheetModel", "readDesk", "()V"⟩, 28) := ⟨⟨by decide +kernel, by decide +kernel⟩, List.mem_of_getElem? (i := 779) (by decide +kernel), List.mem_of_getElem? (i := 961) (by decide +kernel), List.mem_of_getElem? (i := 962) (by decide +kernel)⟩
theorem lw_p31 : lw_okq (⟨"TopSheetModel", "begins", "(II)V"⟩, 28) := ⟨⟨by decide +kernel, by decide +kernel⟩, List.mem_of_getElem? (i := 779) (by decide +kernel), List.mem_of_getElem? (i := 965) (by decide +kernel), List.mem_of_getElem? (i := 966) (by decide +kernel)⟩
def lw_privs_2 : List (MethodName × Nat) := [(⟨"TopSheet", "fits", "(LTopSheet$Row;III)Z"⟩, 10), (⟨"TopSheet$Asker", "leave", "(I)V"⟩, 2), (⟨"TopSheet", "standingRows", "()I"⟩, 10), (⟨"TopSheetModel", "finding", "(I)I"⟩, 28), (⟨"TopSheetModel", "begin", "()V"⟩, 28), (⟨"TopSheetModel", "next", "()V"⟩, 28), (⟨"TopSheetModel", "byteAt", "(I)I"⟩, 28), (⟨"TopSheetModel", "readWind", "()V"⟩, 28), (⟨"TopSheetModel", "name", "()J"⟩, 28), (⟨"TopSheetModel", "must", "(Z)V"⟩, 28), (⟨"TopSheetModel", "bad", "(I)V"⟩, 28), (⟨"TopSheetModel", "number", "(II)I"⟩, 28), (⟨"TopSheetModel", "figures", "()I"⟩, 28), (⟨"TopSheetModel", "mustEnd", "()V"⟩, 28), (⟨"TopSheetModel", "readDesk", "()V"⟩, 28), (⟨"TopSheetModel", "begins", "(II)V"⟩, 28)]
theorem lw_r2 : ∀ q ∈ lw_privs_2, lw_okq q := List.forall_mem_cons.mpr ⟨lw_p16, List.forall_mem_cons.mpr ⟨lw_p17, List.forall_mem_cons.mpr ⟨lw_p18, List.forall_mem_cons.mpr ⟨lw_p19, List.forall_mem_cons.mpr ⟨lw_p20, List.forall_mem_cons.mpr ⟨lw_p21, List.forall_mem_cons.mpr ⟨lw_p22, List.forall_mem_cons.mpr ⟨lw_p23, List.forall_mem_cons.mpr ⟨lw_p24, List.forall_mem_cons.mpr ⟨lw_p25, List.forall_mem_cons.mpr ⟨lw_p26, List.forall_mem_cons.mpr ⟨lw_p27, List.forall_mem_cons.mpr ⟨lw_p28, List.forall_mem_cons.mpr ⟨lw_p29, List.forall_mem_cons.mpr ⟨lw_p30, List.forall_mem_cons.mpr ⟨lw_p31, fun _ h => absurd h List.not_mem_nil⟩⟩⟩⟩⟩⟩⟩⟩⟩⟩⟩⟩⟩⟩⟩⟩
theorem lw_p32 : lw_okq (⟨"TopSheetModel", "readSheet", "()V"⟩, 28) := ⟨⟨by decide +kernel, by decide +kernel⟩, List.mem_of_getElem? (i := 779) (by decide +kernel), List.mem_of_getElem? (i := 970) (by decide +kernel), List.mem_of_getElem? (i := 971) (by decide +kernel)⟩
theorem lw_p33 : lw_okq (⟨"TopSheetModel", "isSheet", "(I)Z"⟩, 28) := ⟨⟨by decide +kernel, by decide +kernel⟩, List.mem_of_getElem? (i := 779) (by decide +kernel), List.mem_of_getElem? (i := 991) (by decide +kernel), List.mem_of_getElem? (i := 992) (by decide +kernel)⟩
theorem lw_p34 : lw_okq (⟨"TopSheetModel", "deskOf", "(I)I"⟩, 28) := ⟨⟨by decide +kernel, by decide +kernel⟩, List.mem_of_getElem? (i := 779) (by decide +kernel), List.mem_of_getElem? (i := 995) (by decide +kernel), List.mem_of_getElem? (i := 996) (by decide +kernel)⟩
theorem lw_p35 : lw_okq (⟨"TopSheetModel", "manyOn", "(I)I"⟩, 28) := ⟨⟨by decide +kernel, by decide +kernel⟩, List.mem_of_getElem? (i := 779) (by decide +kernel), List.mem_of_getElem? (i := 999) (by decide +kernel), List.mem_of_getElem? (i := 1000) (by decide +kernel)⟩
theorem lw_p36 : lw_okq (⟨"TopSheetModel", "lies", "(II)I"⟩, 28) := ⟨⟨by decide +kernel, by decide +kernel⟩, List.mem_of_getElem? (i := 779) (by decide +kernel), List.mem_of_getElem? (i := 1003) (by decide +kernel), List.mem_of_getElem? (i := 1004) (by decide +kernel)⟩
theorem lw_p37 : lw_okq (⟨"TopSheetModel", "keep", "()V"⟩, 28) := ⟨⟨by decide +kernel, by decide +kernel⟩, List.mem_of_getElem? (i := 779) (by decide +kernel), List.mem_of_getElem? (i := 1008) (by decide +kernel), List.mem_of_getElem? (i := 1009) (by decide +kernel)⟩
theorem lw_p38 : lw_okq (⟨"TopSheetModel", "placeOf", "(II)I"⟩, 28) := ⟨⟨by decide +kernel, by decide +kernel⟩, List.mem_of_getElem? (i := 779) (by decide +kernel), List.mem_of_getElem? (i := 1012) (by decide +kernel), List.mem_of_getElem? (i := 1013) (by decide +kernel)⟩
theorem lw_p39 : lw_okq (⟨"TopSheetModel", "leaves", "(II)V"⟩, 28) := ⟨⟨by decide +kernel, by decide +kernel⟩, List.mem_of_getElem? (i := 779) (by decide +kernel), List.mem_of_getElem? (i := 1016) (by decide +kernel), List.mem_of_getElem? (i := 1017) (by decide +kernel)⟩
theorem lw_p40 : lw_okq (⟨"TopSheetModel", "comes", "(II)V"⟩, 28) := ⟨⟨by decide +kernel, by decide +kernel⟩, List.mem_of_getElem? (i := 779) (by decide +kernel), List.mem_of_getElem? (i := 1020) (by decide +kernel), List.mem_of_getElem? (i := 1021) (by decide +kernel)⟩
theorem lw_p41 : lw_okq (⟨"TopSheetModel", "of", "(II)I"⟩, 28) := ⟨⟨by decide +kernel, by decide +kernel⟩, List.mem_of_getElem? (i := 779) (by decide +kernel), List.mem_of_getElem? (i := 1024) (by decide +kernel), List.mem_of_getElem? (i := 1025) (by decide +kernel)⟩
theorem lw_p42 : lw_okq (⟨"TopSheetModel", "isDesk", "(I)Z"⟩, 28) := ⟨⟨by decide +kernel, by decide +kernel⟩, List.mem_of_getElem? (i := 779) (by decide +kernel), List.mem_of_getElem? (i := 1032) (by decide +kernel), List.mem_of_getElem? (i := 1033) (by decide +kernel)⟩
theorem lw_p43 : lw_okq (⟨"TopSheetModel", "hasRoom", "(I)Z"⟩, 28) := ⟨⟨by decide +kernel, by decide +kernel⟩, List.mem_of_getElem? (i := 779) (by decide +kernel), List.mem_of_getElem? (i := 1036) (by decide +kernel), List.mem_of_getElem? (i := 1037) (by decide +kernel)⟩
theorem lw_p44 : lw_okq (⟨"TopSheetModel", "layLeft", "()V"⟩, 28) := ⟨⟨by decide +kernel, by decide +kernel⟩, List.mem_of_getElem? (i := 779) (by decide +kernel), List.mem_of_getElem? (i := 1052) (by decide +kernel), List.mem_of_getElem? (i := 1053) (by decide +kernel)⟩
theorem lw_p45 : lw_okq (⟨"TopSheetModel", "gust", "()I"⟩, 28) := ⟨⟨by decide +kernel, by decide +kernel⟩, List.mem_of_getElem? (i := 779) (by decide +kernel), List.mem_of_getElem? (i := 1056) (by decide +kernel), List.mem_of_getElem? (i := 1057) (by decide +kernel)⟩
theorem lw_p46 : lw_okq (⟨"TopSheetModel", "topOf", "(I)I"⟩, 28) := ⟨⟨by decide +kernel, by decide +kernel⟩, List.mem_of_getElem? (i := 779) (by decide +kernel), List.mem_of_getElem? (i := 1060) (by decide +kernel), List.mem_of_getElem? (i := 1061) (by decide +kernel)⟩
theorem lw_p47 : lw_okq (⟨"TopSheetModel", "isMissed", "(I)Z"⟩, 28) := ⟨⟨by decide +kernel, by decide +kernel⟩, List.mem_of_getElem? (i := 779) (by decide +kernel), List.mem_of_getElem? (i := 1073) (by decide +kernel), List.mem_of_getElem? (i := 1074) (by decide +kernel)⟩
def lw_privs_3 : List (MethodName × Nat) := [(⟨"TopSheetModel", "readSheet", "()V"⟩, 28), (⟨"TopSheetModel", "isSheet", "(I)Z"⟩, 28), (⟨"TopSheetModel", "deskOf", "(I)I"⟩, 28), (⟨"TopSheetModel", "manyOn", "(I)I"⟩, 28), (⟨"TopSheetModel", "lies", "(II)I"⟩, 28), (⟨"TopSheetModel", "keep", "()V"⟩, 28), (⟨"TopSheetModel", "placeOf", "(II)I"⟩, 28), (⟨"TopSheetModel", "leaves", "(II)V"⟩, 28), (⟨"TopSheetModel", "comes", "(II)V"⟩, 28), (⟨"TopSheetModel", "of", "(II)I"⟩, 28), (⟨"TopSheetModel", "isDesk", "(I)Z"⟩, 28), (⟨"TopSheetModel", "hasRoom", "(I)Z"⟩, 28), (⟨"TopSheetModel", "layLeft", "()V"⟩, 28), (⟨"TopSheetModel", "gust", "()I"⟩, 28), (⟨"TopSheetModel", "topOf", "(I)I"⟩, 28), (⟨"TopSheetModel", "isMissed", "(I)Z"⟩, 28)]
theorem lw_r3 : ∀ q ∈ lw_privs_3, lw_okq q := List.forall_mem_cons.mpr ⟨lw_p32, List.forall_mem_cons.mpr ⟨lw_p33, List.forall_mem_cons.mpr ⟨lw_p34, List.forall_mem_cons.mpr ⟨lw_p35, List.forall_mem_cons.mpr ⟨lw_p36, List.forall_mem_cons.mpr ⟨lw_p37, List.forall_mem_cons.mpr ⟨lw_p38, List.forall_mem_cons.mpr ⟨lw_p39, List.forall_mem_cons.mpr ⟨lw_p40, List.forall_mem_cons.mpr ⟨lw_p41, List.forall_mem_cons.mpr ⟨lw_p42, List.forall_mem_cons.mpr ⟨lw_p43, List.forall_mem_cons.mpr ⟨lw_p44, List.forall_mem_cons.mpr ⟨lw_p45, List.forall_mem_cons.mpr ⟨lw_p46, List.forall_mem_cons.mpr ⟨lw_p47, fun _ h => absurd h List.not_mem_nil⟩⟩⟩⟩⟩⟩⟩⟩⟩⟩⟩⟩⟩⟩⟩⟩
theorem lw_p48 : lw_okq (⟨"TopSheetModel", "takenBy", "(I)I"⟩, 28) := ⟨⟨by decide +kernel, by decide +kernel⟩, List.mem_of_getElem? (i := 779) (by decide +kernel), List.mem_of_getElem? (i := 1086) (by decide +kernel), List.mem_of_getElem? (i := 1087) (by decide +kernel)⟩
theorem lw_p49 : lw_okq (⟨"TopSheetModel", "worthOf", "(I)I"⟩, 28) := ⟨⟨by decide +kernel, by decide +kernel⟩, List.mem_of_getElem? (i := 779) (by decide +kernel), List.mem_of_getElem? (i := 1090) (by decide +kernel), List.mem_of_getElem? (i := 1091) (by decide +kernel)⟩
theorem lw_p50 : lw_okq (⟨"TopSheetModel", "layFirst", "(I)V"⟩, 28) := ⟨⟨by decide +kernel, by decide +kernel⟩, List.mem_of_getElem? (i := 779) (by decide +kernel), List.mem_of_getElem? (i := 1103) (by decide +kernel), List.mem_of_getElem? (i := 1104) (by decide +kernel)⟩
theorem lw_p51 : lw_okq (⟨"TopSheetModel", "lostBy", "(III)I"⟩, 28) := ⟨⟨by decide +kernel, by decide +kernel⟩, List.mem_of_getElem? (i := 779) (by decide +kernel), List.mem_of_getElem? (i := 1107) (by decide +kernel), List.mem_of_getElem? (i := 1108) (by decide +kernel)⟩
theorem lw_p52 : lw_okq (⟨"TopSheetModel", "nextOrder", "(I)Z"⟩, 28) := ⟨⟨by decide +kernel, by decide +kernel⟩, List.mem_of_getElem? (i := 779) (by decide +kernel), List.mem_of_getElem? (i := 1111) (by decide +kernel), List.mem_of_getElem? (i := 1112) (by decide +kernel)⟩
theorem lw_p53 : lw_okq (⟨"TopSheetModel", "isCovered", "(III)Z"⟩, 28) := ⟨⟨by decide +kernel, by decide +kernel⟩, List.mem_of_getElem? (i := 779) (by decide +kernel), List.mem_of_getElem? (i := 1119) (by decide +kernel), List.mem_of_getElem? (i := 1120) (by decide +kernel)⟩
theorem lw_p54 : lw_okq (⟨"TopSheetModel", "lostOn", "(II)I"⟩, 28) := ⟨⟨by decide +kernel, by decide +kernel⟩, List.mem_of_getElem? (i := 779) (by decide +kernel), List.mem_of_getElem? (i := 1127) (by decide +kernel), List.mem_of_getElem? (i := 1128) (by decide +kernel)⟩
theorem lw_p55 : lw_okq (⟨"TopSheetModel", "leastOn", "(I)I"⟩, 28) := ⟨⟨by decide +kernel, by decide +kernel⟩, List.mem_of_getElem? (i := 779) (by decide +kernel), List.mem_of_getElem? (i := 1131) (by decide +kernel), List.mem_of_getElem? (i := 1132) (by decide +kernel)⟩
theorem lw_p56 : lw_okq (⟨"TopSheetModel", "sizeOf", "(I)I"⟩, 28) := ⟨⟨by decide +kernel, by decide +kernel⟩, List.mem_of_getElem? (i := 779) (by decide +kernel), List.mem_of_getElem? (i := 1171) (by decide +kernel), List.mem_of_getElem? (i := 1172) (by decide +kernel)⟩
theorem lw_p57 : lw_okq (⟨"TopSheetModel", "slateSize", "(I)I"⟩, 28) := ⟨⟨by decide +kernel, by decide +kernel⟩, List.mem_of_getElem? (i := 779) (by decide +kernel), List.mem_of_getElem? (i := 1175) (by decide +kernel), List.mem_of_getElem? (i := 1176) (by decide +kernel)⟩
theorem lw_p58 : lw_okq (⟨"TopSheetModel", "began", "(I)V"⟩, 28) := ⟨⟨by decide +kernel, by decide +kernel⟩, List.mem_of_getElem? (i := 779) (by decide +kernel), List.mem_of_getElem? (i := 1179) (by decide +kernel), List.mem_of_getElem? (i := 1180) (by decide +kernel)⟩
theorem lw_p59 : lw_okq (⟨"TopSheetModel", "plainSize", "(I)I"⟩, 28) := ⟨⟨by decide +kernel, by decide +kernel⟩, List.mem_of_getElem? (i := 779) (by decide +kernel), List.mem_of_getElem? (i := 1183) (by decide +kernel), List.mem_of_getElem? (i := 1184) (by decide +kernel)⟩
theorem lw_p60 : lw_okq (⟨"TopSheetModel", "markOf", "(I)I"⟩, 28) := ⟨⟨by decide +kernel, by decide +kernel⟩, List.mem_of_getElem? (i := 779) (by decide +kernel), List.mem_of_getElem? (i := 1187) (by decide +kernel), List.mem_of_getElem? (i := 1188) (by decide +kernel)⟩
def lw_privs_4 : List (MethodName × Nat) := [(⟨"TopSheetModel", "takenBy", "(I)I"⟩, 28), (⟨"TopSheetModel", "worthOf", "(I)I"⟩, 28), (⟨"TopSheetModel", "layFirst", "(I)V"⟩, 28), (⟨"TopSheetModel", "lostBy", "(III)I"⟩, 28), (⟨"TopSheetModel", "nextOrder", "(I)Z"⟩, 28), (⟨"TopSheetModel", "isCovered", "(III)Z"⟩, 28), (⟨"TopSheetModel", "lostOn", "(II)I"⟩, 28), (⟨"TopSheetModel", "leastOn", "(I)I"⟩, 28), (⟨"TopSheetModel", "sizeOf", "(I)I"⟩, 28), (⟨"TopSheetModel", "slateSize", "(I)I"⟩, 28), (⟨"TopSheetModel", "began", "(I)V"⟩, 28), (⟨"TopSheetModel", "plainSize", "(I)I"⟩, 28), (⟨"TopSheetModel", "markOf", "(I)I"⟩, 28)]
theorem lw_r4 : ∀ q ∈ lw_privs_4, lw_okq q := List.forall_mem_cons.mpr ⟨lw_p48, List.forall_mem_cons.mpr ⟨lw_p49, List.forall_mem_cons.mpr ⟨lw_p50, List.forall_mem_cons.mpr ⟨lw_p51, List.forall_mem_cons.mpr ⟨lw_p52, List.forall_mem_cons.mpr ⟨lw_p53, List.forall_mem_cons.mpr ⟨lw_p54, List.forall_mem_cons.mpr ⟨lw_p55, List.forall_mem_cons.mpr ⟨lw_p56, List.forall_mem_cons.mpr ⟨lw_p57, List.forall_mem_cons.mpr ⟨lw_p58, List.forall_mem_cons.mpr ⟨lw_p59, List.forall_mem_cons.mpr ⟨lw_p60, fun _ h => absurd h List.not_mem_nil⟩⟩⟩⟩⟩⟩⟩⟩⟩⟩⟩⟩⟩
def lw_privs : List (MethodName × Nat) := lw_privs_1 ++ (lw_privs_2 ++ (lw_privs_3 ++ (lw_privs_4)))
def lw_tbl : List Cond := k2_sels lw_privs ++ tables_1
theorem lw_privs_ok : ∀ q ∈ lw_privs, lw_okq q := by
  show ∀ q ∈ lw_privs_1 ++ (lw_privs_2 ++ (lw_privs_3 ++ (lw_privs_4))), lw_okq q
  exact List.forall_mem_append.mpr ⟨lw_r1, List.forall_mem_append.mpr ⟨lw_r2, List.forall_mem_append.mpr ⟨lw_r3, lw_r4⟩⟩⟩
/-! ===== BEGIN words of one list among another's, by their places ===== -/
/-! ===== END ===== -/

/-! ===== BEGIN printed: names, fields, word lists, decode rows ===== -/
def RX0 : String := "TopSheet$Acts"
def TX0 : u_T := fun k => match k with
  | 0 => ("TopSheet$Acts", "before", "[LTopSheet$Office;", true)
  | 1 => ("TopSheet$Acts", "oldest", "I", false)
  | _ => ("TopSheet$Acts", "kept", "I", false)
def tyX0 : Nat → FieldType := fun k => match k with
  | 0 => .array (.object "TopSheet$Office")
  | 1 => .int
  | _ => .int
abbrev wsX00 : List Cond := u_ws RX0 TX0 3
theorem nmX0 : ∀ a, a < 3 → ∀ b, b < 3 → a ≠ b → (TX0 a).2.1 ≠ (TX0 b).2.1 := by decide +kernel
theorem tyX0_ok : ∀ k, k < 3 → parseFieldDescriptor (TX0 k).2.2.1 = some (tyX0 k) := by decide +kernel
abbrev cX0_init : ByteArray := prog_2_method_1_code
def yX0_init : MethodName := ⟨RX0, "<init>", "()V"⟩
abbrev cX0_keep : ByteArray := prog_2_method_2_code
def yX0_keep : MethodName := ⟨RX0, "keep", "(LTopSheet$Office;)V"⟩
abbrev cX0_takeBack : ByteArray := prog_2_method_3_code
def yX0_takeBack : MethodName := ⟨RX0, "takeBack", "(LTopSheet$Office;)V"⟩
abbrev cX0_forget : ByteArray := prog_2_method_4_code
def yX0_forget : MethodName := ⟨RX0, "forget", "()V"⟩
def RX1 : String := "TopSheet$Asker"
def TX1 : u_T := fun k => match k with
  | 0 => ("TopSheet$Asker", "bodies", "[I", true)
  | _ => ("TopSheet$Asker", "left", "I", false)
def tyX1 : Nat → FieldType := fun k => match k with
  | 0 => .array .int
  | _ => .int
abbrev wsX10 : List Cond := u_ws RX1 TX1 2
theorem nmX1 : ∀ a, a < 2 → ∀ b, b < 2 → a ≠ b → (TX1 a).2.1 ≠ (TX1 b).2.1 := by decide +kernel
theorem tyX1_ok : ∀ k, k < 2 → parseFieldDescriptor (TX1 k).2.2.1 = some (tyX1 k) := by decide +kernel
abbrev cX1_init : ByteArray := prog_3_method_1_code
def yX1_init : MethodName := ⟨RX1, "<init>", "()V"⟩
abbrev cX1_isKind : ByteArray := prog_3_method_2_code
def yX1_isKind : MethodName := ⟨RX1, "isKind", "(I)Z"⟩
abbrev cX1_isOneOf : ByteArray := prog_3_method_3_code
def yX1_isOneOf : MethodName := ⟨RX1, "isOneOf", "(II)Z"⟩
abbrev cX1_begin : ByteArray := prog_3_method_4_code
def yX1_begin : MethodName := ⟨RX1, "begin", "(LTopSheet$Office;II)I"⟩
abbrev cX1_bodyFor : ByteArray := prog_3_method_5_code
def yX1_bodyFor : MethodName := ⟨RX1, "bodyFor", "(LTopSheet$Office;II)I"⟩
abbrev cX1_leave : ByteArray := prog_3_method_6_code
def yX1_leave : MethodName := ⟨RX1, "leave", "(I)V"⟩
abbrev cX1_gives : ByteArray := prog_3_method_7_code
def yX1_gives : MethodName := ⟨RX1, "gives", "(LTopSheet$Asker;LTopSheet$Office;III)I"⟩
def RX2 : String := "TopSheet$Means"
def TX2 : u_T := fun k => match k with
  | 0 => ("TopSheet$Means", "cases", "[J", true)
  | 1 => ("TopSheet$Means", "numerator", "I", false)
  | _ => ("TopSheet$Means", "denominator", "I", false)
def tyX2 : Nat → FieldType := fun k => match k with
  | 0 => .array .long
  | 1 => .int
  | _ => .int
abbrev wsX20 : List Cond := u_ws RX2 TX2 3
theorem nmX2 : ∀ a, a < 3 → ∀ b, b < 3 → a ≠ b → (TX2 a).2.1 ≠ (TX2 b).2.1 := by decide +kernel
theorem tyX2_ok : ∀ k, k < 3 → parseFieldDescriptor (TX2 k).2.2.1 = some (tyX2 k) := by decide +kernel
abbrev cX2_init : ByteArray := prog_4_method_1_code
def yX2_init : MethodName := ⟨RX2, "<init>", "()V"⟩
abbrev cX2_foresee : ByteArray := prog_4_method_2_code
def yX2_foresee : MethodName := ⟨RX2, "foresee", "(LTopSheet$Office;I)V"⟩
abbrev cX2_weigh : ByteArray := prog_4_method_3_code
def yX2_weigh : MethodName := ⟨RX2, "weigh", "(LTopSheet$Office;I)V"⟩
abbrev cX2_commonDivisor : ByteArray := prog_4_method_4_code
def yX2_commonDivisor : MethodName := ⟨RX2, "commonDivisor", "(JJ)J"⟩
def RX3 : String := "TopSheet$Office"
def TX3 : u_T := fun k => match k with
  | 0 => ("TopSheet$Office", "wind", "[I", true)
  | 1 => ("TopSheet$Office", "room", "[I", true)
  | 2 => ("TopSheet$Office", "stones", "[I", true)
  | 3 => ("TopSheet$Office", "height", "[I", true)
  | 4 => ("TopSheet$Office", "piles", "[I", true)
  | 5 => ("TopSheet$Office", "sort", "[I", true)
  | 6 => ("TopSheet$Office", "worth", "[I", true)
  | 7 => ("TopSheet$Office", "need", "[I", true)
  | 8 => ("TopSheet$Office", "desks", "I", false)
  | 9 => ("TopSheet$Office", "sheets", "I", false)
  | 10 => ("TopSheet$Office", "quarter", "I", false)
  | _ => ("TopSheet$Office", "met", "I", false)
def tyX3 : Nat → FieldType := fun k => match k with
  | 0 => .array .int
  | 1 => .array .int
  | 2 => .array .int
  | 3 => .array .int
  | 4 => .array .int
  | 5 => .array .int
  | 6 => .array .int
  | 7 => .array .int
  | 8 => .int
  | 9 => .int
  | 10 => .int
  | _ => .int
abbrev wsX30 : List Cond := u_ws RX3 TX3 12
theorem nmX3 : ∀ a, a < 12 → ∀ b, b < 12 → a ≠ b → (TX3 a).2.1 ≠ (TX3 b).2.1 := by decide +kernel
theorem tyX3_ok : ∀ k, k < 12 → parseFieldDescriptor (TX3 k).2.2.1 = some (tyX3 k) := by decide +kernel
abbrev cX3_init : ByteArray := prog_5_method_1_code
def yX3_init : MethodName := ⟨RX3, "<init>", "()V"⟩
abbrev cX3_clear : ByteArray := prog_5_method_2_code
def yX3_clear : MethodName := ⟨RX3, "clear", "()V"⟩
abbrev cX3_takeOver : ByteArray := prog_5_method_3_code
def yX3_takeOver : MethodName := ⟨RX3, "takeOver", "(LTopSheet$Office;)V"⟩
abbrev cX3_isThere : ByteArray := prog_5_method_4_code
def yX3_isThere : MethodName := ⟨RX3, "isThere", "()Z"⟩
abbrev cX3_hasDesk : ByteArray := prog_5_method_5_code
def yX3_hasDesk : MethodName := ⟨RX3, "hasDesk", "(I)Z"⟩
abbrev cX3_hasSheet : ByteArray := prog_5_method_6_code
def yX3_hasSheet : MethodName := ⟨RX3, "hasSheet", "(I)Z"⟩
abbrev cX3_hasRoom : ByteArray := prog_5_method_7_code
def yX3_hasRoom : MethodName := ⟨RX3, "hasRoom", "(I)Z"⟩
abbrev cX3_furnish : ByteArray := prog_5_method_8_code
def yX3_furnish : MethodName := ⟨RX3, "furnish", "(II)V"⟩
abbrev cX3_bring : ByteArray := prog_5_method_9_code
def yX3_bring : MethodName := ⟨RX3, "bring", "(IIII)I"⟩
abbrev cX3_at : ByteArray := prog_5_method_10_code
def yX3_at : MethodName := ⟨RX3, "at", "(II)I"⟩
abbrev cX3_putOn : ByteArray := prog_5_method_11_code
def yX3_putOn : MethodName := ⟨RX3, "putOn", "(II)V"⟩
abbrev cX3_takeOff : ByteArray := prog_5_method_12_code
def yX3_takeOff : MethodName := ⟨RX3, "takeOff", "(I)V"⟩
abbrev cX3_deskOf : ByteArray := prog_5_method_13_code
def yX3_deskOf : MethodName := ⟨RX3, "deskOf", "(I)I"⟩
abbrev cX3_above : ByteArray := prog_5_method_14_code
def yX3_above : MethodName := ⟨RX3, "above", "(I)I"⟩
abbrev cX3_setOn : ByteArray := prog_5_method_15_code
def yX3_setOn : MethodName := ⟨RX3, "setOn", "(I)I"⟩
abbrev cX3_isGone : ByteArray := prog_5_method_16_code
def yX3_isGone : MethodName := ⟨RX3, "isGone", "(I)Z"⟩
abbrev cX3_isMet : ByteArray := prog_5_method_17_code
def yX3_isMet : MethodName := ⟨RX3, "isMet", "(I)Z"⟩
abbrev cX3_isMissed : ByteArray := prog_5_method_18_code
def yX3_isMissed : MethodName := ⟨RX3, "isMissed", "(I)Z"⟩
abbrev cX3_missedSet : ByteArray := prog_5_method_19_code
def yX3_missedSet : MethodName := ⟨RX3, "missedSet", "()I"⟩
abbrev cX3_goneSet : ByteArray := prog_5_method_20_code
def yX3_goneSet : MethodName := ⟨RX3, "goneSet", "()I"⟩
abbrev cX3_worthOf : ByteArray := prog_5_method_21_code
def yX3_worthOf : MethodName := ⟨RX3, "worthOf", "(I)I"⟩
abbrev cX3_takenFrom : ByteArray := prog_5_method_22_code
def yX3_takenFrom : MethodName := ⟨RX3, "takenFrom", "(II)I"⟩
abbrev cX3_lostFrom : ByteArray := prog_5_method_23_code
def yX3_lostFrom : MethodName := ⟨RX3, "lostFrom", "(II)I"⟩
abbrev cX3_takenByGust : ByteArray := prog_5_method_24_code
def yX3_takenByGust : MethodName := ⟨RX3, "takenByGust", "(I)I"⟩
abbrev cX3_takenBy : ByteArray := prog_5_method_25_code
def yX3_takenBy : MethodName := ⟨RX3, "takenBy", "(I)I"⟩
abbrev cX3_blow : ByteArray := prog_5_method_26_code
def yX3_blow : MethodName := ⟨RX3, "blow", "()I"⟩
abbrev cX3_lostIfUppermost : ByteArray := prog_5_method_27_code
def yX3_lostIfUppermost : MethodName := ⟨RX3, "lostIfUppermost", "(II)I"⟩
abbrev cX3_lostThrough : ByteArray := prog_5_method_28_code
def yX3_lostThrough : MethodName := ⟨RX3, "lostThrough", "(I)I"⟩
abbrev cX3_leastOn : ByteArray := prog_5_method_29_code
def yX3_leastOn : MethodName := ⟨RX3, "leastOn", "(I)I"⟩
def RX4 : String := "TopSheet$Reader"
def TX4 : u_T := fun k => match k with
  | 0 => ("TopSheet$Reader", "tape", "LTopSheet$Tape;", true)
  | 1 => ("TopSheet$Reader", "draft", "LTopSheet$Office;", true)
  | 2 => ("TopSheet$Reader", "type", "I", false)
  | 3 => ("TopSheet$Reader", "first", "I", false)
  | 4 => ("TopSheet$Reader", "next", "I", false)
  | 5 => ("TopSheet$Reader", "value", "I", false)
  | 6 => ("TopSheet$Reader", "told", "I", false)
  | _ => ("TopSheet$Reader", "faultNumber", "I", false)
def tyX4 : Nat → FieldType := fun k => match k with
  | 0 => .object "TopSheet$Tape"
  | 1 => .object "TopSheet$Office"
  | 2 => .int
  | 3 => .int
  | 4 => .int
  | 5 => .int
  | 6 => .int
  | _ => .int
abbrev wsX40 : List Cond := u_ws RX4 TX4 8
theorem nmX4 : ∀ a, a < 8 → ∀ b, b < 8 → a ≠ b → (TX4 a).2.1 ≠ (TX4 b).2.1 := by decide +kernel
theorem tyX4_ok : ∀ k, k < 8 → parseFieldDescriptor (TX4 k).2.2.1 = some (tyX4 k) := by decide +kernel
abbrev cX4_init : ByteArray := prog_6_method_1_code
def yX4_init : MethodName := ⟨RX4, "<init>", "()V"⟩
abbrev cX4_read : ByteArray := prog_6_method_2_code
def yX4_read : MethodName := ⟨RX4, "read", "()Z"⟩
abbrev cX4_readWind : ByteArray := prog_6_method_3_code
def yX4_readWind : MethodName := ⟨RX4, "readWind", "()Z"⟩
abbrev cX4_readDesks : ByteArray := prog_6_method_4_code
def yX4_readDesks : MethodName := ⟨RX4, "readDesks", "()Z"⟩
abbrev cX4_readDesk : ByteArray := prog_6_method_5_code
def yX4_readDesk : MethodName := ⟨RX4, "readDesk", "()Z"⟩
abbrev cX4_readSheets : ByteArray := prog_6_method_6_code
def yX4_readSheets : MethodName := ⟨RX4, "readSheets", "()Z"⟩
abbrev cX4_readSheet : ByteArray := prog_6_method_7_code
def yX4_readSheet : MethodName := ⟨RX4, "readSheet", "()Z"⟩
abbrev cX4_sortTold : ByteArray := prog_6_method_8_code
def yX4_sortTold : MethodName := ⟨RX4, "sortTold", "()I"⟩
abbrev cX4_takeNumber : ByteArray := prog_6_method_9_code
def yX4_takeNumber : MethodName := ⟨RX4, "takeNumber", "(II)Z"⟩
abbrev cX4_takeSemicolon : ByteArray := prog_6_method_10_code
def yX4_takeSemicolon : MethodName := ⟨RX4, "takeSemicolon", "()Z"⟩
abbrev cX4_fail : ByteArray := prog_6_method_11_code
def yX4_fail : MethodName := ⟨RX4, "fail", "(I)Z"⟩
abbrev cX4_isWord : ByteArray := prog_6_method_12_code
def yX4_isWord : MethodName := ⟨RX4, "isWord", "(Ljava/lang/String;)Z"⟩
abbrev cX4_step : ByteArray := prog_6_method_13_code
def yX4_step : MethodName := ⟨RX4, "step", "()V"⟩
abbrev cX4_isBlank : ByteArray := prog_6_method_14_code
def yX4_isBlank : MethodName := ⟨RX4, "isBlank", "(I)Z"⟩
abbrev cX4_isLetter : ByteArray := prog_6_method_15_code
def yX4_isLetter : MethodName := ⟨RX4, "isLetter", "(I)Z"⟩
abbrev cX4_isFigure : ByteArray := prog_6_method_16_code
def yX4_isFigure : MethodName := ⟨RX4, "isFigure", "(I)Z"⟩
def RX5 : String := "TopSheet$Row"
def TX5 : u_T := fun k => match k with
  | 0 => ("TopSheet$Row", "items", "[I", true)
  | 1 => ("TopSheet$Row", "lane", "I", false)
  | _ => ("TopSheet$Row", "length", "I", false)
def tyX5 : Nat → FieldType := fun k => match k with
  | 0 => .array .int
  | 1 => .int
  | _ => .int
abbrev wsX50 : List Cond := u_ws RX5 TX5 3
theorem nmX5 : ∀ a, a < 3 → ∀ b, b < 3 → a ≠ b → (TX5 a).2.1 ≠ (TX5 b).2.1 := by decide +kernel
theorem tyX5_ok : ∀ k, k < 3 → parseFieldDescriptor (TX5 k).2.2.1 = some (tyX5 k) := by decide +kernel
abbrev cX5_init : ByteArray := prog_7_method_1_code
def yX5_init : MethodName := ⟨RX5, "<init>", "()V"⟩
abbrev cX5_isMissing : ByteArray := prog_7_method_2_code
def yX5_isMissing : MethodName := ⟨RX5, "isMissing", "()Z"⟩
abbrev cX5_begin : ByteArray := prog_7_method_3_code
def yX5_begin : MethodName := ⟨RX5, "begin", "(II)V"⟩
abbrev cX5_end : ByteArray := prog_7_method_4_code
def yX5_end : MethodName := ⟨RX5, "end", "()V"⟩
abbrev cX5_hasPlaces : ByteArray := prog_7_method_5_code
def yX5_hasPlaces : MethodName := ⟨RX5, "hasPlaces", "(II)Z"⟩
abbrev cX5_put : ByteArray := prog_7_method_6_code
def yX5_put : MethodName := ⟨RX5, "put", "(II)I"⟩
def RX6 : String := "TopSheet$Sorter"
def TX6 : u_T := fun k => match k with
  | 0 => ("TopSheet$Sorter", "line", "[I", true)
  | _ => ("TopSheet$Sorter", "lost", "I", false)
def tyX6 : Nat → FieldType := fun k => match k with
  | 0 => .array .int
  | _ => .int
abbrev wsX60 : List Cond := u_ws RX6 TX6 2
theorem nmX6 : ∀ a, a < 2 → ∀ b, b < 2 → a ≠ b → (TX6 a).2.1 ≠ (TX6 b).2.1 := by decide +kernel
theorem tyX6_ok : ∀ k, k < 2 → parseFieldDescriptor (TX6 k).2.2.1 = some (tyX6 k) := by decide +kernel
abbrev cX6_init : ByteArray := prog_8_method_1_code
def yX6_init : MethodName := ⟨RX6, "<init>", "()V"⟩
abbrev cX6_arrange : ByteArray := prog_8_method_2_code
def yX6_arrange : MethodName := ⟨RX6, "arrange", "(LTopSheet$Office;II)V"⟩
abbrev cX6_firstThatKeepsLost : ByteArray := prog_8_method_3_code
def yX6_firstThatKeepsLost : MethodName := ⟨RX6, "firstThatKeepsLost", "(LTopSheet$Office;III)I"⟩
abbrev cX6_leastLost : ByteArray := prog_8_method_4_code
def yX6_leastLost : MethodName := ⟨RX6, "leastLost", "(LTopSheet$Office;III)I"⟩
abbrev cX6_cheapest : ByteArray := prog_8_method_5_code
def yX6_cheapest : MethodName := ⟨RX6, "cheapest", "(LTopSheet$Office;I)I"⟩
def RX7 : String := "TopSheet$Tape"
def TX7 : u_T := fun k => match k with
  | 0 => ("TopSheet$Tape", "bytes", "[B", true)
  | _ => ("TopSheet$Tape", "length", "I", false)
def tyX7 : Nat → FieldType := fun k => match k with
  | 0 => .array .byte
  | _ => .int
abbrev wsX70 : List Cond := u_ws RX7 TX7 2
theorem nmX7 : ∀ a, a < 2 → ∀ b, b < 2 → a ≠ b → (TX7 a).2.1 ≠ (TX7 b).2.1 := by decide +kernel
theorem tyX7_ok : ∀ k, k < 2 → parseFieldDescriptor (TX7 k).2.2.1 = some (tyX7 k) := by decide +kernel
abbrev cX7_init : ByteArray := prog_9_method_1_code
def yX7_init : MethodName := ⟨RX7, "<init>", "()V"⟩
abbrev cX7_hasRoom : ByteArray := prog_9_method_2_code
def yX7_hasRoom : MethodName := ⟨RX7, "hasRoom", "(I)Z"⟩
abbrev cX7_join : ByteArray := prog_9_method_3_code
def yX7_join : MethodName := ⟨RX7, "join", "(JI)V"⟩
abbrev cX7_at : ByteArray := prog_9_method_4_code
def yX7_at : MethodName := ⟨RX7, "at", "(I)I"⟩
def RX8 : String := "TopSheet"
def TX8 : u_T := fun k => match k with
  | 0 => ("TopSheet", "rows", "[LTopSheet$Row;", true)
  | 1 => ("TopSheet", "reader", "LTopSheet$Reader;", true)
  | 2 => ("TopSheet", "now", "LTopSheet$Office;", true)
  | 3 => ("TopSheet", "acts", "LTopSheet$Acts;", true)
  | 4 => ("TopSheet", "images", "[LTopSheet$Office;", true)
  | 5 => ("TopSheet", "means", "LTopSheet$Means;", true)
  | 6 => ("TopSheet", "sorter", "LTopSheet$Sorter;", true)
  | 7 => ("TopSheet", "asker", "LTopSheet$Asker;", true)
  | 8 => ("TopSheet", "latestFault", "I", false)
  | _ => ("TopSheet", "latestFinding", "I", false)
def tyX8 : Nat → FieldType := fun k => match k with
  | 0 => .array (.object "TopSheet$Row")
  | 1 => .object "TopSheet$Reader"
  | 2 => .object "TopSheet$Office"
  | 3 => .object "TopSheet$Acts"
  | 4 => .array (.object "TopSheet$Office")
  | 5 => .object "TopSheet$Means"
  | 6 => .object "TopSheet$Sorter"
  | 7 => .object "TopSheet$Asker"
  | 8 => .int
  | _ => .int
abbrev wsX80 : List Cond := u_ws RX8 TX8 10
theorem nmX8 : ∀ a, a < 10 → ∀ b, b < 10 → a ≠ b → (TX8 a).2.1 ≠ (TX8 b).2.1 := by decide +kernel
theorem tyX8_ok : ∀ k, k < 10 → parseFieldDescriptor (TX8 k).2.2.1 = some (tyX8 k) := by decide +kernel
abbrev cX8_init : ByteArray := prog_1_method_1_code
def yX8_init : MethodName := ⟨RX8, "<init>", "()V"⟩
abbrev cX8_row : ByteArray := prog_1_method_2_code
def yX8_row : MethodName := ⟨RX8, "row", "(III)I"⟩
abbrev cX8_set : ByteArray := prog_1_method_3_code
def yX8_set : MethodName := ⟨RX8, "set", "(III)I"⟩
abbrev cX8_copy : ByteArray := prog_1_method_4_code
def yX8_copy : MethodName := ⟨RX8, "copy", "(IIIII)I"⟩
abbrev cX8_drop : ByteArray := prog_1_method_5_code
def yX8_drop : MethodName := ⟨RX8, "drop", "(I)I"⟩
abbrev cX8_feed : ByteArray := prog_1_method_6_code
def yX8_feed : MethodName := ⟨RX8, "feed", "(JI)I"⟩
abbrev cX8_office : ByteArray := prog_1_method_7_code
def yX8_office : MethodName := ⟨RX8, "office", "()I"⟩
abbrev cX8_fault : ByteArray := prog_1_method_8_code
def yX8_fault : MethodName := ⟨RX8, "fault", "()I"⟩
abbrev cX8_lift : ByteArray := prog_1_method_9_code
def yX8_lift : MethodName := ⟨RX8, "lift", "(I)I"⟩
abbrev cX8_lay : ByteArray := prog_1_method_10_code
def yX8_lay : MethodName := ⟨RX8, "lay", "(II)I"⟩
abbrev cX8_blank : ByteArray := prog_1_method_11_code
def yX8_blank : MethodName := ⟨RX8, "blank", "(I)I"⟩
abbrev cX8_quarter : ByteArray := prog_1_method_12_code
def yX8_quarter : MethodName := ⟨RX8, "quarter", "(I)I"⟩
abbrev cX8_undo : ByteArray := prog_1_method_13_code
def yX8_undo : MethodName := ⟨RX8, "undo", "()I"⟩
abbrev cX8_sheet : ByteArray := prog_1_method_14_code
def yX8_sheet : MethodName := ⟨RX8, "sheet", "(II)I"⟩
abbrev cX8_desk : ByteArray := prog_1_method_15_code
def yX8_desk : MethodName := ⟨RX8, "desk", "(II)I"⟩
abbrev cX8_taken : ByteArray := prog_1_method_16_code
def yX8_taken : MethodName := ⟨RX8, "taken", "(II)I"⟩
abbrev cX8_mean : ByteArray := prog_1_method_17_code
def yX8_mean : MethodName := ⟨RX8, "mean", "(II)I"⟩
abbrev cX8_order : ByteArray := prog_1_method_18_code
def yX8_order : MethodName := ⟨RX8, "order", "(III)I"⟩
abbrev cX8_cover : ByteArray := prog_1_method_19_code
def yX8_cover : MethodName := ⟨RX8, "cover", "(II)I"⟩
abbrev cX8_lend : ByteArray := prog_1_method_20_code
def yX8_lend : MethodName := ⟨RX8, "lend", "(II)I"⟩
abbrev cX8_beach : ByteArray := prog_1_method_21_code
def yX8_beach : MethodName := ⟨RX8, "beach", "(IIII)I"⟩
abbrev cX8_window : ByteArray := prog_1_method_22_code
def yX8_window : MethodName := ⟨RX8, "window", "()I"⟩
abbrev cX8_missed : ByteArray := prog_1_method_23_code
def yX8_missed : MethodName := ⟨RX8, "missed", "(I)I"⟩
abbrev cX8_image : ByteArray := prog_1_method_24_code
def yX8_image : MethodName := ⟨RX8, "image", "(I)I"⟩
abbrev cX8_restore : ByteArray := prog_1_method_25_code
def yX8_restore : MethodName := ⟨RX8, "restore", "(I)I"⟩
abbrev cX8_kind : ByteArray := prog_1_method_26_code
def yX8_kind : MethodName := ⟨RX8, "kind", "(I)I"⟩
abbrev cX8_as : ByteArray := prog_1_method_27_code
def yX8_as : MethodName := ⟨RX8, "as", "(II)I"⟩
abbrev cX8_ask : ByteArray := prog_1_method_28_code
def yX8_ask : MethodName := ⟨RX8, "ask", "(II)I"⟩
abbrev cX8_trace : ByteArray := prog_1_method_29_code
def yX8_trace : MethodName := ⟨RX8, "trace", "(I)I"⟩
abbrev cX8_count : ByteArray := prog_1_method_30_code
def yX8_count : MethodName := ⟨RX8, "count", "(I)I"⟩
abbrev cX8_status : ByteArray := prog_1_method_31_code
def yX8_status : MethodName := ⟨RX8, "status", "()I"⟩
abbrev cX8_isRow : ByteArray := prog_1_method_32_code
def yX8_isRow : MethodName := ⟨RX8, "isRow", "(I)Z"⟩
abbrev cX8_isGusts : ByteArray := prog_1_method_33_code
def yX8_isGusts : MethodName := ⟨RX8, "isGusts", "(I)Z"⟩
abbrev cX8_isImage : ByteArray := prog_1_method_34_code
def yX8_isImage : MethodName := ⟨RX8, "isImage", "(I)Z"⟩
abbrev cX8_found : ByteArray := prog_1_method_35_code
def yX8_found : MethodName := ⟨RX8, "found", "(I)I"⟩
abbrev cX8_well : ByteArray := prog_1_method_36_code
def yX8_well : MethodName := ⟨RX8, "well", "(I)I"⟩
abbrev cX8_standingRows : ByteArray := prog_1_method_37_code
def yX8_standingRows : MethodName := ⟨RX8, "standingRows", "()I"⟩
abbrev cX8_fits : ByteArray := prog_1_method_38_code
def yX8_fits : MethodName := ⟨RX8, "fits", "(LTopSheet$Row;III)Z"⟩
def RX9 : String := "TopSheetModel"
def TX9 : u_T := fun k => match k with
  | 0 => ("TopSheetModel", "thrown", "I", false)
  | 1 => ("TopSheetModel", "status", "I", false)
  | 2 => ("TopSheetModel", "lane", "[I", true)
  | 3 => ("TopSheetModel", "many", "[I", true)
  | 4 => ("TopSheetModel", "item", "[I", true)
  | 5 => ("TopSheetModel", "office", "[I", true)
  | 6 => ("TopSheetModel", "fresh", "[I", true)
  | 7 => ("TopSheetModel", "isThere", "Z", false)
  | 8 => ("TopSheetModel", "was", "[I", true)
  | 9 => ("TopSheetModel", "acts", "I", false)
  | 10 => ("TopSheetModel", "tape", "[I", true)
  | 11 => ("TopSheetModel", "taped", "I", false)
  | 12 => ("TopSheetModel", "latest", "I", false)
  | 13 => ("TopSheetModel", "length", "I", false)
  | 14 => ("TopSheetModel", "cursor", "I", false)
  | 15 => ("TopSheetModel", "token", "I", false)
  | 16 => ("TopSheetModel", "start", "I", false)
  | 17 => ("TopSheetModel", "till", "I", false)
  | 18 => ("TopSheetModel", "fault", "I", false)
  | 19 => ("TopSheetModel", "faultAt", "I", false)
  | 20 => ("TopSheetModel", "left", "[I", true)
  | 21 => ("TopSheetModel", "odds", "[J", true)
  | 22 => ("TopSheetModel", "tried", "[I", true)
  | 23 => ("TopSheetModel", "best", "[I", true)
  | 24 => ("TopSheetModel", "isKept", "[Z", true)
  | 25 => ("TopSheetModel", "kept", "[I", true)
  | 26 => ("TopSheetModel", "trace", "[I", true)
  | _ => ("TopSheetModel", "traced", "I", false)
def tyX9 : Nat → FieldType := fun k => match k with
  | 0 => .int
  | 1 => .int
  | 2 => .array .int
  | 3 => .array .int
  | 4 => .array .int
  | 5 => .array .int
  | 6 => .array .int
  | 7 => .boolean
  | 8 => .array .int
  | 9 => .int
  | 10 => .array .int
  | 11 => .int
  | 12 => .int
  | 13 => .int
  | 14 => .int
  | 15 => .int
  | 16 => .int
  | 17 => .int
  | 18 => .int
  | 19 => .int
  | 20 => .array .int
  | 21 => .array .long
  | 22 => .array .int
  | 23 => .array .int
  | 24 => .array .boolean
  | 25 => .array .int
  | 26 => .array .int
  | _ => .int
abbrev wsX90 : List Cond := u_ws RX9 TX9 28
theorem nmX9 : ∀ a, a < 28 → ∀ b, b < 28 → a ≠ b → (TX9 a).2.1 ≠ (TX9 b).2.1 := by decide +kernel
theorem tyX9_ok : ∀ k, k < 28 → parseFieldDescriptor (TX9 k).2.2.1 = some (tyX9 k) := by decide +kernel
abbrev cX9_init : ByteArray := prog_11_method_1_code
def yX9_init : MethodName := ⟨RX9, "<init>", "()V"⟩
abbrev cX9_in : ByteArray := prog_11_method_3_code
def yX9_in : MethodName := ⟨RX9, "in", "(JJJ)Z"⟩
abbrev cX9_finding : ByteArray := prog_11_method_4_code
def yX9_finding : MethodName := ⟨RX9, "finding", "(I)I"⟩
abbrev cX9_isRow : ByteArray := prog_11_method_5_code
def yX9_isRow : MethodName := ⟨RX9, "isRow", "(I)Z"⟩
abbrev cX9_row : ByteArray := prog_11_method_6_code
def yX9_row : MethodName := ⟨RX9, "row", "(III)I"⟩
abbrev cX9_set : ByteArray := prog_11_method_7_code
def yX9_set : MethodName := ⟨RX9, "set", "(III)I"⟩
abbrev cX9_copy : ByteArray := prog_11_method_8_code
def yX9_copy : MethodName := ⟨RX9, "copy", "(IIIII)I"⟩
abbrev cX9_drop : ByteArray := prog_11_method_9_code
def yX9_drop : MethodName := ⟨RX9, "drop", "(I)I"⟩
abbrev cX9_feed : ByteArray := prog_11_method_10_code
def yX9_feed : MethodName := ⟨RX9, "feed", "(JI)I"⟩
abbrev cX9_byteAt : ByteArray := prog_11_method_11_code
def yX9_byteAt : MethodName := ⟨RX9, "byteAt", "(I)I"⟩
abbrev cX9_isLetter : ByteArray := prog_11_method_12_code
def yX9_isLetter : MethodName := ⟨RX9, "isLetter", "(I)Z"⟩
abbrev cX9_isFigure : ByteArray := prog_11_method_13_code
def yX9_isFigure : MethodName := ⟨RX9, "isFigure", "(I)Z"⟩
abbrev cX9_next : ByteArray := prog_11_method_14_code
def yX9_next : MethodName := ⟨RX9, "next", "()V"⟩
abbrev cX9_begin : ByteArray := prog_11_method_15_code
def yX9_begin : MethodName := ⟨RX9, "begin", "()V"⟩
abbrev cX9_bad : ByteArray := prog_11_method_16_code
def yX9_bad : MethodName := ⟨RX9, "bad", "(I)V"⟩
abbrev cX9_must : ByteArray := prog_11_method_17_code
def yX9_must : MethodName := ⟨RX9, "must", "(Z)V"⟩
abbrev cX9_name : ByteArray := prog_11_method_18_code
def yX9_name : MethodName := ⟨RX9, "name", "()J"⟩
abbrev cX9_figures : ByteArray := prog_11_method_19_code
def yX9_figures : MethodName := ⟨RX9, "figures", "()I"⟩
abbrev cX9_number : ByteArray := prog_11_method_20_code
def yX9_number : MethodName := ⟨RX9, "number", "(II)I"⟩
abbrev cX9_kindBy : ByteArray := prog_11_method_21_code
def yX9_kindBy : MethodName := ⟨RX9, "kindBy", "(J)I"⟩
abbrev cX9_mustEnd : ByteArray := prog_11_method_22_code
def yX9_mustEnd : MethodName := ⟨RX9, "mustEnd", "()V"⟩
abbrev cX9_begins : ByteArray := prog_11_method_23_code
def yX9_begins : MethodName := ⟨RX9, "begins", "(II)V"⟩
abbrev cX9_readWind : ByteArray := prog_11_method_24_code
def yX9_readWind : MethodName := ⟨RX9, "readWind", "()V"⟩
abbrev cX9_readDesk : ByteArray := prog_11_method_25_code
def yX9_readDesk : MethodName := ⟨RX9, "readDesk", "()V"⟩
abbrev cX9_readSheet : ByteArray := prog_11_method_26_code
def yX9_readSheet : MethodName := ⟨RX9, "readSheet", "()V"⟩
abbrev cX9_office : ByteArray := prog_11_method_27_code
def yX9_office : MethodName := ⟨RX9, "office", "()I"⟩
abbrev cX9_fault : ByteArray := prog_11_method_28_code
def yX9_fault : MethodName := ⟨RX9, "fault", "()I"⟩
abbrev cX9_isDesk : ByteArray := prog_11_method_29_code
def yX9_isDesk : MethodName := ⟨RX9, "isDesk", "(I)Z"⟩
abbrev cX9_isSheet : ByteArray := prog_11_method_30_code
def yX9_isSheet : MethodName := ⟨RX9, "isSheet", "(I)Z"⟩
abbrev cX9_of : ByteArray := prog_11_method_31_code
def yX9_of : MethodName := ⟨RX9, "of", "(II)I"⟩
abbrev cX9_manyOn : ByteArray := prog_11_method_32_code
def yX9_manyOn : MethodName := ⟨RX9, "manyOn", "(I)I"⟩
abbrev cX9_lies : ByteArray := prog_11_method_33_code
def yX9_lies : MethodName := ⟨RX9, "lies", "(II)I"⟩
abbrev cX9_deskOf : ByteArray := prog_11_method_34_code
def yX9_deskOf : MethodName := ⟨RX9, "deskOf", "(I)I"⟩
abbrev cX9_placeOf : ByteArray := prog_11_method_35_code
def yX9_placeOf : MethodName := ⟨RX9, "placeOf", "(II)I"⟩
abbrev cX9_hasRoom : ByteArray := prog_11_method_36_code
def yX9_hasRoom : MethodName := ⟨RX9, "hasRoom", "(I)Z"⟩
abbrev cX9_leaves : ByteArray := prog_11_method_37_code
def yX9_leaves : MethodName := ⟨RX9, "leaves", "(II)V"⟩
abbrev cX9_comes : ByteArray := prog_11_method_38_code
def yX9_comes : MethodName := ⟨RX9, "comes", "(II)V"⟩
abbrev cX9_keep : ByteArray := prog_11_method_39_code
def yX9_keep : MethodName := ⟨RX9, "keep", "()V"⟩
abbrev cX9_lift : ByteArray := prog_11_method_40_code
def yX9_lift : MethodName := ⟨RX9, "lift", "(I)I"⟩
abbrev cX9_lay : ByteArray := prog_11_method_41_code
def yX9_lay : MethodName := ⟨RX9, "lay", "(II)I"⟩
abbrev cX9_blank : ByteArray := prog_11_method_42_code
def yX9_blank : MethodName := ⟨RX9, "blank", "(I)I"⟩
abbrev cX9_layLeft : ByteArray := prog_11_method_43_code
def yX9_layLeft : MethodName := ⟨RX9, "layLeft", "()V"⟩
abbrev cX9_topOf : ByteArray := prog_11_method_44_code
def yX9_topOf : MethodName := ⟨RX9, "topOf", "(I)I"⟩
abbrev cX9_gust : ByteArray := prog_11_method_45_code
def yX9_gust : MethodName := ⟨RX9, "gust", "()I"⟩
abbrev cX9_quarter : ByteArray := prog_11_method_46_code
def yX9_quarter : MethodName := ⟨RX9, "quarter", "(I)I"⟩
abbrev cX9_undo : ByteArray := prog_11_method_47_code
def yX9_undo : MethodName := ⟨RX9, "undo", "()I"⟩
abbrev cX9_isMissed : ByteArray := prog_11_method_48_code
def yX9_isMissed : MethodName := ⟨RX9, "isMissed", "(I)Z"⟩
abbrev cX9_sheet : ByteArray := prog_11_method_49_code
def yX9_sheet : MethodName := ⟨RX9, "sheet", "(II)I"⟩
abbrev cX9_desk : ByteArray := prog_11_method_50_code
def yX9_desk : MethodName := ⟨RX9, "desk", "(II)I"⟩
abbrev cX9_worthOf : ByteArray := prog_11_method_51_code
def yX9_worthOf : MethodName := ⟨RX9, "worthOf", "(I)I"⟩
abbrev cX9_takenBy : ByteArray := prog_11_method_52_code
def yX9_takenBy : MethodName := ⟨RX9, "takenBy", "(I)I"⟩
abbrev cX9_taken : ByteArray := prog_11_method_53_code
def yX9_taken : MethodName := ⟨RX9, "taken", "(II)I"⟩
abbrev cX9_mean : ByteArray := prog_11_method_54_code
def yX9_mean : MethodName := ⟨RX9, "mean", "(II)I"⟩
abbrev cX9_lostBy : ByteArray := prog_11_method_55_code
def yX9_lostBy : MethodName := ⟨RX9, "lostBy", "(III)I"⟩
abbrev cX9_nextOrder : ByteArray := prog_11_method_56_code
def yX9_nextOrder : MethodName := ⟨RX9, "nextOrder", "(I)Z"⟩
abbrev cX9_layFirst : ByteArray := prog_11_method_57_code
def yX9_layFirst : MethodName := ⟨RX9, "layFirst", "(I)V"⟩
abbrev cX9_order : ByteArray := prog_11_method_58_code
def yX9_order : MethodName := ⟨RX9, "order", "(III)I"⟩
abbrev cX9_isCovered : ByteArray := prog_11_method_59_code
def yX9_isCovered : MethodName := ⟨RX9, "isCovered", "(III)Z"⟩
abbrev cX9_cover : ByteArray := prog_11_method_60_code
def yX9_cover : MethodName := ⟨RX9, "cover", "(II)I"⟩
abbrev cX9_leastOn : ByteArray := prog_11_method_61_code
def yX9_leastOn : MethodName := ⟨RX9, "leastOn", "(I)I"⟩
abbrev cX9_lostOn : ByteArray := prog_11_method_62_code
def yX9_lostOn : MethodName := ⟨RX9, "lostOn", "(II)I"⟩
abbrev cX9_lend : ByteArray := prog_11_method_63_code
def yX9_lend : MethodName := ⟨RX9, "lend", "(II)I"⟩
abbrev cX9_beach : ByteArray := prog_11_method_64_code
def yX9_beach : MethodName := ⟨RX9, "beach", "(IIII)I"⟩
abbrev cX9_window : ByteArray := prog_11_method_65_code
def yX9_window : MethodName := ⟨RX9, "window", "()I"⟩
abbrev cX9_missed : ByteArray := prog_11_method_66_code
def yX9_missed : MethodName := ⟨RX9, "missed", "(I)I"⟩
abbrev cX9_image : ByteArray := prog_11_method_67_code
def yX9_image : MethodName := ⟨RX9, "image", "(I)I"⟩
abbrev cX9_restore : ByteArray := prog_11_method_68_code
def yX9_restore : MethodName := ⟨RX9, "restore", "(I)I"⟩
abbrev cX9_isOf : ByteArray := prog_11_method_69_code
def yX9_isOf : MethodName := ⟨RX9, "isOf", "(II)Z"⟩
abbrev cX9_kind : ByteArray := prog_11_method_70_code
def yX9_kind : MethodName := ⟨RX9, "kind", "(I)I"⟩
abbrev cX9_as : ByteArray := prog_11_method_71_code
def yX9_as : MethodName := ⟨RX9, "as", "(II)I"⟩
abbrev cX9_began : ByteArray := prog_11_method_72_code
def yX9_began : MethodName := ⟨RX9, "began", "(I)V"⟩
abbrev cX9_plainSize : ByteArray := prog_11_method_73_code
def yX9_plainSize : MethodName := ⟨RX9, "plainSize", "(I)I"⟩
abbrev cX9_slateSize : ByteArray := prog_11_method_74_code
def yX9_slateSize : MethodName := ⟨RX9, "slateSize", "(I)I"⟩
abbrev cX9_markOf : ByteArray := prog_11_method_75_code
def yX9_markOf : MethodName := ⟨RX9, "markOf", "(I)I"⟩
abbrev cX9_sizeOf : ByteArray := prog_11_method_76_code
def yX9_sizeOf : MethodName := ⟨RX9, "sizeOf", "(I)I"⟩
abbrev cX9_ask : ByteArray := prog_11_method_77_code
def yX9_ask : MethodName := ⟨RX9, "ask", "(II)I"⟩
abbrev cX9_trace : ByteArray := prog_11_method_78_code
def yX9_trace : MethodName := ⟨RX9, "trace", "(I)I"⟩
abbrev cX9_count : ByteArray := prog_11_method_79_code
def yX9_count : MethodName := ⟨RX9, "count", "(I)I"⟩
abbrev cX9_status : ByteArray := prog_11_method_80_code
def yX9_status : MethodName := ⟨RX9, "status", "()I"⟩
def RJ6 : String := "java/lang/Integer"
def TJ6 : u_T := fun k => match k with
  | _ => ("", "", "", false)
def tyJ6 : Nat → FieldType := fun k => match k with
  | _ => .int
abbrev wsJ60 : List Cond := u_ws RJ6 TJ6 0
theorem nmJ6 : ∀ a, a < 0 → ∀ b, b < 0 → a ≠ b → (TJ6 a).2.1 ≠ (TJ6 b).2.1 := by decide +kernel
theorem tyJ6_ok : ∀ k, k < 0 → parseFieldDescriptor (TJ6 k).2.2.1 = some (tyJ6 k) := by decide +kernel
abbrev cJ6_bitCount_0f7a4 : ByteArray := prog_12_method_49_code
def yJ6_bitCount_0f7a4 : MethodName := ⟨RJ6, "bitCount", "(I)I"⟩
def RJ9 : String := "java/lang/Math"
def TJ9 : u_T := fun k => match k with
  | _ => ("", "", "", false)
def tyJ9 : Nat → FieldType := fun k => match k with
  | _ => .int
abbrev wsJ90 : List Cond := u_ws RJ9 TJ9 0
theorem nmJ9 : ∀ a, a < 0 → ∀ b, b < 0 → a ≠ b → (TJ9 a).2.1 ≠ (TJ9 b).2.1 := by decide +kernel
theorem tyJ9_ok : ∀ k, k < 0 → parseFieldDescriptor (TJ9 k).2.2.1 = some (tyJ9 k) := by decide +kernel
abbrev cJ9_max_7cf53 : ByteArray := prog_13_method_65_code
def yJ9_max_7cf53 : MethodName := ⟨RJ9, "max", "(II)I"⟩
abbrev cJ9_min_7cf53 : ByteArray := prog_13_method_69_code
def yJ9_min_7cf53 : MethodName := ⟨RJ9, "min", "(II)I"⟩
def RJ0 : String := "java/lang/String"
def TJ0 : u_T := fun k => match k with
  | _ => ("", "", "", false)
def tyJ0 : Nat → FieldType := fun k => match k with
  | _ => .int
abbrev wsJ00 : List Cond := u_ws RJ0 TJ0 0
theorem nmJ0 : ∀ a, a < 0 → ∀ b, b < 0 → a ≠ b → (TJ0 a).2.1 ≠ (TJ0 b).2.1 := by decide +kernel
theorem tyJ0_ok : ∀ k, k < 0 → parseFieldDescriptor (TJ0 k).2.2.1 = some (tyJ0 k) := by decide +kernel
abbrev cJ0_length_8abf5 : ByteArray := prog_14_method_54_code
def yJ0_length_8abf5 : MethodName := ⟨RJ0, "length", "()I"⟩
abbrev cJ0_charAt_5068e : ByteArray := prog_14_method_56_code
def yJ0_charAt_5068e : MethodName := ⟨RJ0, "charAt", "(I)C"⟩
abbrev cJ0_coder_7d493 : ByteArray := prog_14_method_152_code
def yJ0_coder_7d493 : MethodName := ⟨RJ0, "coder", "()B"⟩
abbrev cJ0_isLatin1_aae02 : ByteArray := prog_14_method_154_code
def yJ0_isLatin1_aae02 : MethodName := ⟨RJ0, "isLatin1", "()Z"⟩
abbrev cJ0_checkIndex_df160 : ByteArray := prog_14_method_155_code
def yJ0_checkIndex_df160 : MethodName := ⟨RJ0, "checkIndex", "(II)V"⟩
def RJ1 : String := "java/lang/StringLatin1"
def TJ1 : u_T := fun k => match k with
  | _ => ("", "", "", false)
def tyJ1 : Nat → FieldType := fun k => match k with
  | _ => .int
abbrev wsJ10 : List Cond := u_ws RJ1 TJ1 0
theorem nmJ1 : ∀ a, a < 0 → ∀ b, b < 0 → a ≠ b → (TJ1 a).2.1 ≠ (TJ1 b).2.1 := by decide +kernel
theorem tyJ1_ok : ∀ k, k < 0 → parseFieldDescriptor (TJ1 k).2.2.1 = some (tyJ1 k) := by decide +kernel
abbrev cJ1_charAt_3b067 : ByteArray := prog_15_method_2_code
def yJ1_charAt_3b067 : MethodName := ⟨RJ1, "charAt", "([BI)C"⟩
def RJ2 : String := "java/lang/StringUTF16"
def TJ2 : u_T := fun k => match k with
  | _ => ("", "", "", false)
def tyJ2 : Nat → FieldType := fun k => match k with
  | _ => .int
abbrev wsJ20 : List Cond := u_ws RJ2 TJ2 0
theorem nmJ2 : ∀ a, a < 0 → ∀ b, b < 0 → a ≠ b → (TJ2 a).2.1 ≠ (TJ2 b).2.1 := by decide +kernel
theorem tyJ2_ok : ∀ k, k < 0 → parseFieldDescriptor (TJ2 k).2.2.1 = some (tyJ2 k) := by decide +kernel
abbrev cJ2_getChar_3b067 : ByteArray := prog_16_method_5_code
def yJ2_getChar_3b067 : MethodName := ⟨RJ2, "getChar", "([BI)C"⟩
abbrev cJ2_length_9d52b : ByteArray := prog_16_method_6_code
def yJ2_length_9d52b : MethodName := ⟨RJ2, "length", "([B)I"⟩
abbrev cJ2_charAt_3b067 : ByteArray := prog_16_method_83_code
def yJ2_charAt_3b067 : MethodName := ⟨RJ2, "charAt", "([BI)C"⟩
abbrev cJ2_checkIndex_2214a : ByteArray := prog_16_method_91_code
def yJ2_checkIndex_2214a : MethodName := ⟨RJ2, "checkIndex", "(I[B)V"⟩
def RJ10 : String := "java/lang/System"
def TJ10 : u_T := fun k => match k with
  | _ => ("", "", "", false)
def tyJ10 : Nat → FieldType := fun k => match k with
  | _ => .int
abbrev wsJ100 : List Cond := u_ws RJ10 TJ10 0
theorem nmJ10 : ∀ a, a < 0 → ∀ b, b < 0 → a ≠ b → (TJ10 a).2.1 ≠ (TJ10 b).2.1 := by decide +kernel
theorem tyJ10_ok : ∀ k, k < 0 → parseFieldDescriptor (TJ10 k).2.2.1 = some (tyJ10 k) := by decide +kernel
def RJ3 : String := "jdk/internal/util/Preconditions"
def TJ3 : u_T := fun k => match k with
  | _ => ("", "", "", false)
def tyJ3 : Nat → FieldType := fun k => match k with
  | _ => .int
abbrev wsJ30 : List Cond := u_ws RJ3 TJ3 0
theorem nmJ3 : ∀ a, a < 0 → ∀ b, b < 0 → a ≠ b → (TJ3 a).2.1 ≠ (TJ3 b).2.1 := by decide +kernel
theorem tyJ3_ok : ∀ k, k < 0 → parseFieldDescriptor (TJ3 k).2.2.1 = some (tyJ3 k) := by decide +kernel
abbrev cJ3_checkIndex_8e157 : ByteArray := prog_18_method_11_code
def yJ3_checkIndex_8e157 : MethodName := ⟨RJ3, "checkIndex", "(IILjava/util/function/BiFunction;)I"⟩
def RL : String := "TopSheetLaw"
abbrev cL_law : ByteArray := code
def yL_law : MethodName := ⟨RL, "law", "([I)Z"⟩
abbrev vwCl : List vw_C := [(RX0, TX0, 3), (RX1, TX1, 2), (RX2, TX2, 3), (RX3, TX3, 12), (RX4, TX4, 8), (RX5, TX5, 3), (RX6, TX6, 2), (RX7, TX7, 2), (RX8, TX8, 10), (RX9, TX9, 28)]
end
section
/-! ===== the base: data of all the cells by handles, a method's run and contract in words of them ===== -/
abbrev HD : Type := Nat → Int → Int
abbrev XC : Type := Launch × va_G × (Nat → Nat) × (Nat → ClassId)
abbrev MR : Type := MethodName × ByteArray × Nat × Option FieldType
abbrev iI (z : Int) : Int32 := Int32.ofInt z
abbrev iL (z : Int) : Int64 := Int64.ofInt z
abbrev iv (z : Int) : Value := .int (Int32.ofInt z)
abbrev jv (z : Int) : Value := .long (Int64.ofInt z)
abbrev rv (X : XC) (h : Nat) : Value := .ref (X.2.2.1 h)
def rg (z : Int) : Prop := -2147483648 ≤ z ∧ z < 2147483648
theorem rg_of {z : Int} (h : rg z) : (iI z).toInt = z := by
  rw [Int32.toInt_ofInt]
  unfold rg at h
  have e : (Int32.size : Int) = 4294967296 := rfl
  rw [Int.bmod_eq_of_le] <;> omega
theorem rg_le {a b : Int} (ha : rg a) (hb : rg b) : iI a ≤ iI b ↔ a ≤ b := by
  rw [Int32.le_iff_toInt_le, rg_of ha, rg_of hb]
theorem rg_lt {a b : Int} (ha : rg a) (hb : rg b) : iI a < iI b ↔ a < b := by
  rw [Int32.lt_iff_toInt_lt, rg_of ha, rg_of hb]
theorem rg_eq {a b : Int} (ha : rg a) (hb : rg b) : iI a = iI b ↔ a = b := by
  rw [← Int32.toInt_inj, rg_of ha, rg_of hb]
theorem rg_0 : rg 0 := by unfold rg; omega
theorem iI_0 : (0 : Int32) = iI 0 := rfl
theorem rg_cl {z : Int} (h : rg z) (h0 : 0 ≤ z) : (iI z).toNatClampNeg = z.toNat := by
  show (iI z).toInt.toNat = z.toNat
  rw [rg_of h]
theorem rg_in {z : Int} {n : Nat} (h0 : 0 ≤ z) (h1 : z < n) (hn : n < 2147483648) : vp_in (iI z) n := by
  have hr : rg z := by unfold rg; omega
  rw [vp_in_iff, rg_of hr]
  omega
theorem iI_to (x : Int32) : iI x.toInt = x := Int32.ofInt_toInt x
theorem rg_to (x : Int32) : rg x.toInt := ⟨Int32.le_toInt x, Int32.toInt_lt x⟩
def up (I : HD) (h : Nat) (i z : Int) : HD := fun a b => if a = h ∧ b = i then z else I a b
theorem up_s {I : HD} {h : Nat} {i z : Int} : up I h i z h i = z := by simp [up]
theorem up_h {I : HD} {h : Nat} {i z : Int} {a : Nat} {b : Int} (n : a ≠ h) : up I h i z a b = I a b := by simp [up, n]
theorem up_i {I : HD} {h : Nat} {i z : Int} {a : Nat} {b : Int} (n : b ≠ i) : up I h i z a b = I a b := by simp [up, n]
def lw_good : List Cond := lw_tbl.filter goodWord
def lw_nest : List Cond := lw_tbl.filter (fun w => match w with
  | .fieldLinkNest .. => true
  | .methodLinkNest .. => true
  | _ => false)
theorem lw_gd {w : Cond} (h : w ∈ lw_tbl) (g : goodWord w = true) : w ∈ lw_good := List.mem_filter.mpr ⟨h, g⟩
abbrev NN : Nat := 297
def oiv (X : XC) (I : HD) (h t n : Nat) : va_E := .inl (X.2.2.2 t, n, .inl (fun i => iI (I h i)))
/-- the cell of a handle: what it is, and what it holds -/
def cell (X : XC) (I : HD) (h : Nat) : va_E :=
  if h < 2 then
    if h = 0 then .inr (8, [rv X 1, rv X 18, rv X 45, rv X 21, rv X 23, rv X 24, rv X 26, rv X 28, iv (I 0 8), iv (I 0 9)])
    else .inl (X.2.2.2 5, 8, .inr (.inr (.inr (.inr (fun i => some (X.2.2.1 (2 + i)))))))
  else if h < 10 then .inr (5, [rv X (h + 8), iv (I h 1), iv (I h 2)])
  else if h < 18 then oiv X I h 0 40
  else if h < 45 then
    match h with
    | 18 => .inr (4, [rv X 19, rv X 54, iv (I 18 2), iv (I 18 3), iv (I 18 4), iv (I 18 5), iv (I 18 6), iv (I 18 7)])
    | 19 => .inr (7, [rv X 20, iv (I 19 1)])
    | 20 => oiv X I 20 1 500
    | 21 => .inr (0, [rv X 22, iv (I 21 1), iv (I 21 2)])
    | 22 => .inl (X.2.2.2 4, 24, .inr (.inr (.inr (.inr (fun i => some (X.2.2.1 (45 + 9 * (4 + i))))))))
    | 23 => .inl (X.2.2.2 4, 2, .inr (.inr (.inr (.inr (fun i => some (X.2.2.1 (45 + 9 * (2 + i))))))))
    | 24 => .inr (2, [rv X 25, iv (I 24 1), iv (I 24 2)])
    | 25 => .inl (X.2.2.2 2, 4, .inr (.inl (fun i => iL (I 25 i))))
    | 26 => .inr (6, [rv X 27, iv (I 26 1)])
    | 27 => oiv X I 27 0 7
    | 28 => .inr (1, [rv X 29, iv (I 28 1)])
    | 29 => oiv X I 29 0 16
    | 30 => .inr (9, [iv (I 30 0), iv (I 30 1), rv X 31, rv X 32, rv X 33, rv X 34, rv X 35, iv (I 30 7), rv X 36, iv (I 30 9), rv X 37, iv (I 30 11), iv (I 30 12), iv (I 30 13), iv (I 30 14), iv (I 30 15), iv (I 30 16), iv (I 30 17), iv (I 30 18), iv (I 30 19), rv X 38, rv X 39, rv X 40, rv X 41, rv X 42, rv X 43, rv X 44, iv (I 30 27)])
    | 31 => oiv X I 31 0 8
    | 32 => oiv X I 32 0 8
    | 33 => oiv X I 33 0 320
    | 34 => oiv X I 34 0 127
    | 35 => oiv X I 35 0 127
    | 36 => oiv X I 36 0 3048
    | 37 => oiv X I 37 0 500
    | 38 => oiv X I 38 0 4
    | 39 => .inl (X.2.2.2 2, 4, .inr (.inl (fun i => iL (I 39 i))))
    | 40 => oiv X I 40 0 7
    | 41 => oiv X I 41 0 7
    | 42 => oiv X I 42 3 2
    | 43 => oiv X I 43 0 254
    | _ => oiv X I h 0 16
  else match (h - 45) % 9 with
    | 0 => .inr (3, [rv X (h + 1), rv X (h + 2), rv X (h + 3), rv X (h + 4), rv X (h + 5), rv X (h + 6), rv X (h + 7), rv X (h + 8), iv (I h 8), iv (I h 9), iv (I h 10), iv (I h 11)])
    | 1 => oiv X I h 0 12
    | 2 => oiv X I h 0 4
    | 3 => oiv X I h 0 4
    | 4 => oiv X I h 0 4
    | 5 => oiv X I h 0 36
    | _ => oiv X I h 0 16
def wl (X : XC) (I : HD) : va_W := (List.range NN).map (fun h => (X.2.2.1 h, cell X I h))
abbrev tysX (X : XC) : List (ClassId × FieldType) := [(X.2.2.2 0, .int), (X.2.2.2 1, .byte), (X.2.2.2 2, .long), (X.2.2.2 3, .boolean), (X.2.2.2 4, .object RX3), (X.2.2.2 5, .object RX5)]
def AA (X : XC) : Nat → Prop := fun q => ∃ h, h < NN ∧ q = X.2.2.1 h
theorem cell_c {X : XC} {I I2 : HD} {h : Nat} (e : ∀ i, I2 h i = I h i) : cell X I2 h = cell X I h := by
  have e' : I2 h = I h := funext e
  unfold cell
  repeat' split
  all_goals first | rfl | (subst_vars; simp only [oiv, e']; done) | simp only [oiv, e']
theorem wl_get {X : XC} {I : HD} {h : Nat} (hh : h < NN) : (wl X I)[h]? = some (X.2.2.1 h, cell X I h) := by
  simp [wl, hh]
theorem wl_set {X : XC} {I : HD} {h : Nat} {i z : Int} {e : va_E} (hh : h < NN) (he : cell X (up I h i z) h = e) : (wl X I).set h (X.2.2.1 h, e) = wl X (up I h i z) := by
  apply List.ext_getElem?
  intro k
  rw [List.getElem?_set]
  by_cases hk : h = k
  · subst hk
    rw [if_pos rfl, wl_get hh, he]
    simp [wl, hh]
  · rw [if_neg hk]
    simp only [wl, List.getElem?_map]
    cases hr : (List.range NN)[k]? with
    | none => rfl
    | some v =>
      have hv : v = k := by
        rw [List.getElem?_range] at hr
        · exact (Option.some.inj hr).symm
        · by_cases q : k < NN
          · exact q
          · rw [List.getElem?_eq_none (by simp; omega)] at hr; cases hr
      subst hv
      simp only [Option.map_some, Option.some.injEq, Prod.mk.injEq, true_and]
      exact (cell_c (fun j => up_h (fun q => hk q.symm))).symm
/-- what a state has, as long as nothing but the cells of the handles is written -/
def Cx (X : XC) (U : State) : Prop := va_K X.2.1 vwCl (tysX X) U ∧ (∀ w ∈ lw_nest, va_Nw w U) ∧ (∀ i j, i < NN → j < NN → X.2.2.1 i = X.2.2.1 j → i = j)
theorem wl_D {X : XC} {I : HD} (h : ∀ i j, i < NN → j < NN → X.2.2.1 i = X.2.2.1 j → i = j) : va_D (AA X) (wl X I) := by
  have key : ∀ (k : Nat) (q : Nat × va_E), (wl X I)[k]? = some q → k < NN ∧ q.1 = X.2.2.1 k := by
    intro k q hk
    have hl : k < (wl X I).length := (List.getElem?_eq_some_iff.mp hk).1
    have hk2 : k < NN := by simpa [wl] using hl
    rw [wl_get hk2] at hk
    cases hk
    exact ⟨hk2, rfl⟩
  refine ⟨fun i j p q hi hj e => ?_, fun k q hk => ?_⟩
  · obtain ⟨a1, a2⟩ := key i p hi
    obtain ⟨b1, b2⟩ := key j q hj
    exact h i j a1 b1 (by rw [← a2, ← b2, e])
  · obtain ⟨a1, a2⟩ := key k q hk
    exact ⟨k, a1, a2⟩
/-! ===== a run inside a method, and a method's contract ===== -/
abbrev rmD (D : Nat) : Room := { frames := D, cells := 0, slots := 0, locals := 40 * D }
def wsM (M : MR) : List Cond := Cond.code M.1 M.2.1 M.2.2.1 M.2.2.2 :: lw_good
abbrev KP : Type := Option Value → HD → Prop
def QK (X : XC) (K : KP) : Array Value → State → Outcome → State → Prop := fun _ st oc t => (∃ (r : Option Value) (I : HD), oc = .returned r ∧ K r I ∧ va_P X.2.1 vwCl (wl X I) t.heap) ∧ va_F (AA X) st t
def Cl (X : XC) (D : Nat) (M : MR) (av : List Value) (I : HD) (K : KP) : Prop :=
  Met X.1 M.1 (wsM M) (rmD D) (va_Pc av (fun U => va_P X.2.1 vwCl (wl X I) U.heap ∧ Cx X U)) (QK X K) 0 0 (AA X)
def Rn (X : XC) (D : Nat) (M : MR) (K : KP) (pc : Nat) (lv : List (Nat × Value)) (st : List Value) (I : HD) : Prop :=
  ∀ (p : Program) (e : Env) (s : State) (m : MethodId) (args : Array Value) (below : List Frame) (meth : Method) (c : Code) (H : Heap) (locs : List Loc) (ls : Array Slot),
    p.tables.exec = Jvm.exec → c.code = M.2.1 → c.maxLocals = M.2.2.1 → meth.sig.returnType = M.2.2.2 → meth.locks = false → s.vm.findClass M.1.cls = some m.cls → (∀ w ∈ wsM M, w.before args s = true) → Cx X s → va_P X.2.1 vwCl (wl X I) H → va_S (AA X) s.heap H locs → lv_has ls M.2.2.1 lv →
    W p X.1 e (rmD D) s m args below meth c H locs 0 0 (MQ below (QK X K) args s 0 0 (AA X)) (F0 m pc ls st)
theorem Cx.moved {X : XC} {u U : State} (hW : u.WarmedH U.vm) (h : Cx X u) : Cx X U := by
  refine ⟨va_K.moved hW.alike h.1, fun w hw => ?_, h.2.2⟩
  have h2 := h.2.1 w hw
  have h3 := (List.mem_filter.mp hw).2
  cases w <;> first | (cases h3; done) | exact va_Nw.warmF hW h2 | exact va_Nw.warmM hW h2
theorem Cx.blind {X : XC} {U : State} {g : JFrame} {mk : MethodId} {a : Array Value} (h : Cx X U) : Cx X (U.calling g mk a) :=
  ⟨va_K.moved (u := U) (U := U.calling g mk a) (Vm.Alike.refl U.vm) h.1, fun w hw => va_Nw.same (by
    have h3 := (List.mem_filter.mp hw).2
    cases w <;> first | (cases h3; done) | rfl) (rfl : U.vm = (U.calling g mk a).vm) (h.2.1 w hw), h.2.2⟩
theorem Cl.of {X : XC} {D : Nat} {M : MR} {av : List Value} {I : HD} {K : KP} (hy : plainName M.1.cls = true) (hl : (lg_sl av).length ≤ M.2.2.1) (h : Rn X D M K 0 (lv_args 0 av) [] I) : Cl X D M av I K := by
  refine Met.ofW (cc := M.2.1) (maxL := M.2.2.1) (ret := M.2.2.2) hy rfl ?_
  intro p e s m args below meth c s₁ B hml hv
  obtain ⟨rfl, hP, hC⟩ := hv
  have hts := atoms_spec (ws := wsM M) B.pre
  have hl := lv_entry av (n := M.2.2.1) hl
  rw [lg_entry_eq]
  exact h p e s m _ below meth c s.heap [] _ B.exec B.bytes hml B.returns B.notSynchronized (findClass_of_methodNamed B.named) hts hC hP va_S.rf hl
end
section
/-! ===== rows: an instruction each ===== -/
def rl (z : Int) : Prop := -9223372036854775808 ≤ z ∧ z < 9223372036854775808
theorem rl_of {z : Int} (h : rl z) : (iL z).toInt = z := by
  rw [Int64.toInt_ofInt]
  unfold rl at h
  have e : (Int64.size : Int) = 18446744073709551616 := rfl
  rw [Int.bmod_eq_of_le] <;> omega
theorem rl_rg {z : Int} (h : rg z) : rl z := by unfold rg at h; unfold rl; omega
theorem rl_eq {a b : Int} (ha : rl a) (hb : rl b) : iL a = iL b ↔ a = b := by
  rw [← Int64.toInt_inj, rl_of ha, rl_of hb]
theorem rl_lt {a b : Int} (ha : rl a) (hb : rl b) : iL a < iL b ↔ a < b := by
  rw [Int64.lt_iff_toInt_lt, rl_of ha, rl_of hb]
theorem r_iconst {X : XC} {D : Nat} {M : MR} {K : KP} {pc : Nat} {lv : List (Nat × Value)} {st : List Value} {I : HD} {z : Int} (hd : decode M.2.1 pc = .ok (.iconst z, 1)) (k : Rn X D M K (pc + 1) lv (iv z :: st) I) : Rn X D M K pc lv (st) I := by
  intro p e s m args below meth c H locs ls hx hb hml hr hlk hown hts hC hP hS hl
  refine lv_iconst hx hb hd rfl ?_
  exact k p e s m args below meth c H locs ls hx hb hml hr hlk hown hts hC hP hS hl
theorem r_bipush {X : XC} {D : Nat} {M : MR} {K : KP} {pc : Nat} {lv : List (Nat × Value)} {st : List Value} {I : HD} {z : Int} (hz : (Int8.ofInt z).toInt32 = iI z) (hd : decode M.2.1 pc = .ok (.bipush z, 2)) (k : Rn X D M K (pc + 2) lv (iv z :: st) I) : Rn X D M K pc lv (st) I := by
  intro p e s m args below meth c H locs ls hx hb hml hr hlk hown hts hC hP hS hl
  refine lv_bipush hx hb hd hz ?_
  exact k p e s m args below meth c H locs ls hx hb hml hr hlk hown hts hC hP hS hl
theorem r_sipush {X : XC} {D : Nat} {M : MR} {K : KP} {pc : Nat} {lv : List (Nat × Value)} {st : List Value} {I : HD} {z : Int} (hz : (Int16.ofInt z).toInt32 = iI z) (hd : decode M.2.1 pc = .ok (.sipush z, 3)) (k : Rn X D M K (pc + 3) lv (iv z :: st) I) : Rn X D M K pc lv (st) I := by
  intro p e s m args below meth c H locs ls hx hb hml hr hlk hown hts hC hP hS hl
  refine lv_sipush hx hb hd hz ?_
  exact k p e s m args below meth c H locs ls hx hb hml hr hlk hown hts hC hP hS hl
theorem r_lconst {X : XC} {D : Nat} {M : MR} {K : KP} {pc : Nat} {lv : List (Nat × Value)} {st : List Value} {I : HD} {n : Fin 2} {z : Int} (hz : Int64.ofNat (n : Nat) = iL z) (hd : decode M.2.1 pc = .ok (.lconst n, 1)) (k : Rn X D M K (pc + 1) lv (jv z :: st) I) : Rn X D M K pc lv (st) I := by
  intro p e s m args below meth c H locs ls hx hb hml hr hlk hown hts hC hP hS hl
  refine lv_lconst hx hb hd hz ?_
  exact k p e s m args below meth c H locs ls hx hb hml hr hlk hown hts hC hP hS hl
theorem r_ldc {X : XC} {D : Nat} {M : MR} {K : KP} {pc : Nat} {lv : List (Nat × Value)} {st : List Value} {I : HD} {i : Nat} {z : Int} (hk : Cond.constant M.1.cls i (iI z) ∈ lw_good) (hd : decode M.2.1 pc = .ok (.ldc i, 2)) (k : Rn X D M K (pc + 2) lv (iv z :: st) I) : Rn X D M K pc lv (st) I := by
  intro p e s m args below meth c H locs ls hx hb hml hr hlk hown hts hC hP hS hl
  refine lv_ldc hx hb hown (hts _ (List.mem_cons_of_mem _ hk)) hd ?_
  exact k p e s m args below meth c H locs ls hx hb hml hr hlk hown hts hC hP hS hl
theorem r_ldcw {X : XC} {D : Nat} {M : MR} {K : KP} {pc : Nat} {lv : List (Nat × Value)} {st : List Value} {I : HD} {i : Nat} {z : Int} (hk : Cond.constant M.1.cls i (iI z) ∈ lw_good) (hd : decode M.2.1 pc = .ok (.ldc_w i, 3)) (k : Rn X D M K (pc + 3) lv (iv z :: st) I) : Rn X D M K pc lv (st) I := by
  intro p e s m args below meth c H locs ls hx hb hml hr hlk hown hts hC hP hS hl
  refine lv_ldcw hx hb hown (hts _ (List.mem_cons_of_mem _ hk)) hd ?_
  exact k p e s m args below meth c H locs ls hx hb hml hr hlk hown hts hC hP hS hl
theorem r_ldc2 {X : XC} {D : Nat} {M : MR} {K : KP} {pc : Nat} {lv : List (Nat × Value)} {st : List Value} {I : HD} {i : Nat} {z : Int} (hk : Cond.constantLong M.1.cls i (iL z) ∈ lw_good) (hd : decode M.2.1 pc = .ok (.ldc2_w i, 3)) (k : Rn X D M K (pc + 3) lv (jv z :: st) I) : Rn X D M K pc lv (st) I := by
  intro p e s m args below meth c H locs ls hx hb hml hr hlk hown hts hC hP hS hl
  refine lv_ldc2 hx hb hown (hts _ (List.mem_cons_of_mem _ hk)) hd ?_
  exact k p e s m args below meth c H locs ls hx hb hml hr hlk hown hts hC hP hS hl
theorem r_iload_n {X : XC} {D : Nat} {M : MR} {K : KP} {pc : Nat} {lv : List (Nat × Value)} {st : List Value} {I : HD} {a : Fin 4} {i : Nat} {z : Int} (q : Nat) (hi : (a : Nat) = i) (hq : lv[q]? = some (i, iv z)) (hd : decode M.2.1 pc = .ok (.iload_n a, 1)) (k : Rn X D M K (pc + 1) lv (iv z :: st) I) : Rn X D M K pc lv (st) I := by
  intro p e s m args below meth c H locs ls hx hb hml hr hlk hown hts hC hP hS hl
  refine lv_iload_n hx hb hd hi (lv_at hl q hq) ?_
  exact k p e s m args below meth c H locs ls hx hb hml hr hlk hown hts hC hP hS hl
theorem r_iload {X : XC} {D : Nat} {M : MR} {K : KP} {pc : Nat} {lv : List (Nat × Value)} {st : List Value} {I : HD} {i : Nat} {z : Int} (q : Nat) (hq : lv[q]? = some (i, iv z)) (hd : decode M.2.1 pc = .ok (.iload i, 2)) (k : Rn X D M K (pc + 2) lv (iv z :: st) I) : Rn X D M K pc lv (st) I := by
  intro p e s m args below meth c H locs ls hx hb hml hr hlk hown hts hC hP hS hl
  refine lv_iload hx hb hd (lv_at hl q hq) ?_
  exact k p e s m args below meth c H locs ls hx hb hml hr hlk hown hts hC hP hS hl
theorem r_lload_n {X : XC} {D : Nat} {M : MR} {K : KP} {pc : Nat} {lv : List (Nat × Value)} {st : List Value} {I : HD} {a : Fin 4} {i : Nat} {z : Int} (q : Nat) (hi : (a : Nat) = i) (hq : lv[q]? = some (i, jv z)) (hd : decode M.2.1 pc = .ok (.lload_n a, 1)) (k : Rn X D M K (pc + 1) lv (jv z :: st) I) : Rn X D M K pc lv (st) I := by
  intro p e s m args below meth c H locs ls hx hb hml hr hlk hown hts hC hP hS hl
  refine lv_lload_n hx hb hd hi (lv_at hl q hq) ?_
  exact k p e s m args below meth c H locs ls hx hb hml hr hlk hown hts hC hP hS hl
theorem r_lload {X : XC} {D : Nat} {M : MR} {K : KP} {pc : Nat} {lv : List (Nat × Value)} {st : List Value} {I : HD} {i : Nat} {z : Int} (q : Nat) (hq : lv[q]? = some (i, jv z)) (hd : decode M.2.1 pc = .ok (.lload i, 2)) (k : Rn X D M K (pc + 2) lv (jv z :: st) I) : Rn X D M K pc lv (st) I := by
  intro p e s m args below meth c H locs ls hx hb hml hr hlk hown hts hC hP hS hl
  refine lv_lload hx hb hd (lv_at hl q hq) ?_
  exact k p e s m args below meth c H locs ls hx hb hml hr hlk hown hts hC hP hS hl
theorem r_aload_n {X : XC} {D : Nat} {M : MR} {K : KP} {pc : Nat} {lv : List (Nat × Value)} {st : List Value} {I : HD} {a : Fin 4} {i : Nat} {x : Nat} (q : Nat) (hi : (a : Nat) = i) (hq : lv[q]? = some (i, .ref x)) (hd : decode M.2.1 pc = .ok (.aload_n a, 1)) (k : Rn X D M K (pc + 1) lv (.ref x :: st) I) : Rn X D M K pc lv (st) I := by
  intro p e s m args below meth c H locs ls hx hb hml hr hlk hown hts hC hP hS hl
  refine lv_aload_n hx hb hd hi (lv_at hl q hq) ?_
  exact k p e s m args below meth c H locs ls hx hb hml hr hlk hown hts hC hP hS hl
theorem r_aload {X : XC} {D : Nat} {M : MR} {K : KP} {pc : Nat} {lv : List (Nat × Value)} {st : List Value} {I : HD} {i : Nat} {x : Nat} (q : Nat) (hq : lv[q]? = some (i, .ref x)) (hd : decode M.2.1 pc = .ok (.aload i, 2)) (k : Rn X D M K (pc + 2) lv (.ref x :: st) I) : Rn X D M K pc lv (st) I := by
  intro p e s m args below meth c H locs ls hx hb hml hr hlk hown hts hC hP hS hl
  refine lv_aload hx hb hd (lv_at hl q hq) ?_
  exact k p e s m args below meth c H locs ls hx hb hml hr hlk hown hts hC hP hS hl
theorem r_istore_n {X : XC} {D : Nat} {M : MR} {K : KP} {pc : Nat} {lv : List (Nat × Value)} {st : List Value} {I : HD} {z : Int} {a : Fin 4} {i : Nat} (ha : (a : Nat) = i) (lv2 : List (Nat × Value)) (hi : i < M.2.2.1) (hl2 : (i, iv z) :: lv.filter (fun q => !(q.1 == i) && !(q.1 + 1 == i && q.2.category == 2)) = lv2) (hd : decode M.2.1 pc = .ok (.istore_n a, 1)) (k : Rn X D M K (pc + 1) lv2 st I) : Rn X D M K pc lv (iv z :: st) I := by
  intro p e s m args below meth c H locs ls hx hb hml hr hlk hown hts hC hP hS hl
  refine lv_istore_n hx hb hd ha hl hi hl2 (fun ls2 h2 => ?_)
  exact k p e s m args below meth c H locs ls2 hx hb hml hr hlk hown hts hC hP hS h2
theorem r_istore {X : XC} {D : Nat} {M : MR} {K : KP} {pc : Nat} {lv : List (Nat × Value)} {st : List Value} {I : HD} {z : Int} {i : Nat} (lv2 : List (Nat × Value)) (hi : i < M.2.2.1) (hl2 : (i, iv z) :: lv.filter (fun q => !(q.1 == i) && !(q.1 + 1 == i && q.2.category == 2)) = lv2) (hd : decode M.2.1 pc = .ok (.istore i, 2)) (k : Rn X D M K (pc + 2) lv2 st I) : Rn X D M K pc lv (iv z :: st) I := by
  intro p e s m args below meth c H locs ls hx hb hml hr hlk hown hts hC hP hS hl
  refine lv_istore hx hb hd hl hi hl2 (fun ls2 h2 => ?_)
  exact k p e s m args below meth c H locs ls2 hx hb hml hr hlk hown hts hC hP hS h2
theorem r_lstore_n {X : XC} {D : Nat} {M : MR} {K : KP} {pc : Nat} {lv : List (Nat × Value)} {st : List Value} {I : HD} {z : Int} {a : Fin 4} {i : Nat} (ha : (a : Nat) = i) (lv2 : List (Nat × Value)) (hi : i + 1 < M.2.2.1) (hl2 : (i, jv z) :: lv.filter (fun q => !(q.1 == i) && (!(q.1 == i + 1) && !(q.1 + 1 == i && q.2.category == 2))) = lv2) (hd : decode M.2.1 pc = .ok (.lstore_n a, 1)) (k : Rn X D M K (pc + 1) lv2 st I) : Rn X D M K pc lv (jv z :: st) I := by
  intro p e s m args below meth c H locs ls hx hb hml hr hlk hown hts hC hP hS hl
  refine lv_lstore_n hx hb hd ha hl hi hl2 (fun ls2 h2 => ?_)
  exact k p e s m args below meth c H locs ls2 hx hb hml hr hlk hown hts hC hP hS h2
theorem r_lstore {X : XC} {D : Nat} {M : MR} {K : KP} {pc : Nat} {lv : List (Nat × Value)} {st : List Value} {I : HD} {z : Int} {i : Nat} (lv2 : List (Nat × Value)) (hi : i + 1 < M.2.2.1) (hl2 : (i, jv z) :: lv.filter (fun q => !(q.1 == i) && (!(q.1 == i + 1) && !(q.1 + 1 == i && q.2.category == 2))) = lv2) (hd : decode M.2.1 pc = .ok (.lstore i, 2)) (k : Rn X D M K (pc + 2) lv2 st I) : Rn X D M K pc lv (jv z :: st) I := by
  intro p e s m args below meth c H locs ls hx hb hml hr hlk hown hts hC hP hS hl
  refine lv_lstore hx hb hd hl hi hl2 (fun ls2 h2 => ?_)
  exact k p e s m args below meth c H locs ls2 hx hb hml hr hlk hown hts hC hP hS h2
theorem r_astore_n {X : XC} {D : Nat} {M : MR} {K : KP} {pc : Nat} {lv : List (Nat × Value)} {st : List Value} {I : HD} {x : Nat} {a : Fin 4} {i : Nat} (ha : (a : Nat) = i) (lv2 : List (Nat × Value)) (hi : i < M.2.2.1) (hl2 : (i, .ref x) :: lv.filter (fun q => !(q.1 == i) && !(q.1 + 1 == i && q.2.category == 2)) = lv2) (hd : decode M.2.1 pc = .ok (.astore_n a, 1)) (k : Rn X D M K (pc + 1) lv2 st I) : Rn X D M K pc lv (.ref x :: st) I := by
  intro p e s m args below meth c H locs ls hx hb hml hr hlk hown hts hC hP hS hl
  refine lv_astore_n hx hb hd ha hl hi hl2 (fun ls2 h2 => ?_)
  exact k p e s m args below meth c H locs ls2 hx hb hml hr hlk hown hts hC hP hS h2
theorem r_astore {X : XC} {D : Nat} {M : MR} {K : KP} {pc : Nat} {lv : List (Nat × Value)} {st : List Value} {I : HD} {x : Nat} {i : Nat} (lv2 : List (Nat × Value)) (hi : i < M.2.2.1) (hl2 : (i, .ref x) :: lv.filter (fun q => !(q.1 == i) && !(q.1 + 1 == i && q.2.category == 2)) = lv2) (hd : decode M.2.1 pc = .ok (.astore i, 2)) (k : Rn X D M K (pc + 2) lv2 st I) : Rn X D M K pc lv (.ref x :: st) I := by
  intro p e s m args below meth c H locs ls hx hb hml hr hlk hown hts hC hP hS hl
  refine lv_astore hx hb hd hl hi hl2 (fun ls2 h2 => ?_)
  exact k p e s m args below meth c H locs ls2 hx hb hml hr hlk hown hts hC hP hS h2
theorem r_iinc {X : XC} {D : Nat} {M : MR} {K : KP} {pc : Nat} {lv : List (Nat × Value)} {st : List Value} {I : HD} {z n : Int} {i : Nat} (q : Nat) (lv2 : List (Nat × Value)) (hq : lv[q]? = some (i, iv z)) (hi : i < M.2.2.1) (hl2 : (i, iv (z + n)) :: lv.filter (fun q => !(q.1 == i) && !(q.1 + 1 == i && q.2.category == 2)) = lv2) (hd : decode M.2.1 pc = .ok (.iinc i n, 3)) (k : Rn X D M K (pc + 3) lv2 st I) : Rn X D M K pc lv st I := by
  intro p e s m args below meth c H locs ls hx hb hml hr hlk hown hts hC hP hS hl
  refine lv_iinc (v := iI (z + n)) hx hb hd hl hq (Int32.ofInt_add z n).symm hi hl2 (fun ls2 h2 => ?_)
  exact k p e s m args below meth c H locs ls2 hx hb hml hr hlk hown hts hC hP hS h2
theorem r_iadd {X : XC} {D : Nat} {M : MR} {K : KP} {pc : Nat} {lv : List (Nat × Value)} {st : List Value} {I : HD} {a b : Int} (hd : decode M.2.1 pc = .ok (.iadd, 1)) (k : Rn X D M K (pc + 1) lv (iv (a + b) :: st) I) : Rn X D M K pc lv (iv b :: iv a :: st) I := by
  intro p e s m args below meth c H locs ls hx hb hml hr hlk hown hts hC hP hS hl
  refine lv_iadd hx hb hd ?_
  rw [show iI a + iI b = iI (a + b) from (Int32.ofInt_add a b).symm]
  exact k p e s m args below meth c H locs ls hx hb hml hr hlk hown hts hC hP hS hl
theorem r_isub {X : XC} {D : Nat} {M : MR} {K : KP} {pc : Nat} {lv : List (Nat × Value)} {st : List Value} {I : HD} {a b : Int} (hd : decode M.2.1 pc = .ok (.isub, 1)) (k : Rn X D M K (pc + 1) lv (iv (a - b) :: st) I) : Rn X D M K pc lv (iv b :: iv a :: st) I := by
  intro p e s m args below meth c H locs ls hx hb hml hr hlk hown hts hC hP hS hl
  refine lv_isub hx hb hd ?_
  rw [show iI a - iI b = iI (a - b) from (Int32.ofInt_sub a b).symm]
  exact k p e s m args below meth c H locs ls hx hb hml hr hlk hown hts hC hP hS hl
theorem r_imul {X : XC} {D : Nat} {M : MR} {K : KP} {pc : Nat} {lv : List (Nat × Value)} {st : List Value} {I : HD} {a b : Int} (hd : decode M.2.1 pc = .ok (.imul, 1)) (k : Rn X D M K (pc + 1) lv (iv (a * b) :: st) I) : Rn X D M K pc lv (iv b :: iv a :: st) I := by
  intro p e s m args below meth c H locs ls hx hb hml hr hlk hown hts hC hP hS hl
  refine lv_imul hx hb hd ?_
  rw [show iI a * iI b = iI (a * b) from (Int32.ofInt_mul a b).symm]
  exact k p e s m args below meth c H locs ls hx hb hml hr hlk hown hts hC hP hS hl
theorem r_iand {X : XC} {D : Nat} {M : MR} {K : KP} {pc : Nat} {lv : List (Nat × Value)} {st : List Value} {I : HD} {a b z : Int} (hz : iI a &&& iI b = iI z) (hd : decode M.2.1 pc = .ok (.iand, 1)) (k : Rn X D M K (pc + 1) lv (iv z :: st) I) : Rn X D M K pc lv (iv b :: iv a :: st) I := by
  intro p e s m args below meth c H locs ls hx hb hml hr hlk hown hts hC hP hS hl
  refine lv_iand hx hb hd ?_
  rw [hz]
  exact k p e s m args below meth c H locs ls hx hb hml hr hlk hown hts hC hP hS hl
theorem r_ior {X : XC} {D : Nat} {M : MR} {K : KP} {pc : Nat} {lv : List (Nat × Value)} {st : List Value} {I : HD} {a b z : Int} (hz : iI a ||| iI b = iI z) (hd : decode M.2.1 pc = .ok (.ior, 1)) (k : Rn X D M K (pc + 1) lv (iv z :: st) I) : Rn X D M K pc lv (iv b :: iv a :: st) I := by
  intro p e s m args below meth c H locs ls hx hb hml hr hlk hown hts hC hP hS hl
  refine lv_ior hx hb hd ?_
  rw [hz]
  exact k p e s m args below meth c H locs ls hx hb hml hr hlk hown hts hC hP hS hl
theorem r_ixor {X : XC} {D : Nat} {M : MR} {K : KP} {pc : Nat} {lv : List (Nat × Value)} {st : List Value} {I : HD} {a b z : Int} (hz : iI a ^^^ iI b = iI z) (hd : decode M.2.1 pc = .ok (.ixor, 1)) (k : Rn X D M K (pc + 1) lv (iv z :: st) I) : Rn X D M K pc lv (iv b :: iv a :: st) I := by
  intro p e s m args below meth c H locs ls hx hb hml hr hlk hown hts hC hP hS hl
  refine lv_ixor hx hb hd ?_
  rw [hz]
  exact k p e s m args below meth c H locs ls hx hb hml hr hlk hown hts hC hP hS hl
theorem r_ishl {X : XC} {D : Nat} {M : MR} {K : KP} {pc : Nat} {lv : List (Nat × Value)} {st : List Value} {I : HD} {a b z : Int} (hz : iI a <<< (iI b &&& 31) = iI z) (hd : decode M.2.1 pc = .ok (.ishl, 1)) (k : Rn X D M K (pc + 1) lv (iv z :: st) I) : Rn X D M K pc lv (iv b :: iv a :: st) I := by
  intro p e s m args below meth c H locs ls hx hb hml hr hlk hown hts hC hP hS hl
  refine lv_ishl hx hb hd ?_
  rw [hz]
  exact k p e s m args below meth c H locs ls hx hb hml hr hlk hown hts hC hP hS hl
theorem r_ishr {X : XC} {D : Nat} {M : MR} {K : KP} {pc : Nat} {lv : List (Nat × Value)} {st : List Value} {I : HD} {a b z : Int} (hz : iI a >>> (iI b &&& 31) = iI z) (hd : decode M.2.1 pc = .ok (.ishr, 1)) (k : Rn X D M K (pc + 1) lv (iv z :: st) I) : Rn X D M K pc lv (iv b :: iv a :: st) I := by
  intro p e s m args below meth c H locs ls hx hb hml hr hlk hown hts hC hP hS hl
  refine lv_ishr hx hb hd ?_
  rw [hz]
  exact k p e s m args below meth c H locs ls hx hb hml hr hlk hown hts hC hP hS hl
theorem r_irem {X : XC} {D : Nat} {M : MR} {K : KP} {pc : Nat} {lv : List (Nat × Value)} {st : List Value} {I : HD} {a b z : Int} (hne : ¬ iI b = 0) (hz : iI a - iI a / iI b * iI b = iI z) (hd : decode M.2.1 pc = .ok (.irem, 1)) (k : Rn X D M K (pc + 1) lv (iv z :: st) I) : Rn X D M K pc lv (iv b :: iv a :: st) I := by
  intro p e s m args below meth c H locs ls hx hb hml hr hlk hown hts hC hP hS hl
  refine lv_irem hx hb hd hne ?_
  rw [hz]
  exact k p e s m args below meth c H locs ls hx hb hml hr hlk hown hts hC hP hS hl
theorem r_ineg {X : XC} {D : Nat} {M : MR} {K : KP} {pc : Nat} {lv : List (Nat × Value)} {st : List Value} {I : HD} {a : Int} (hd : decode M.2.1 pc = .ok (.ineg, 1)) (k : Rn X D M K (pc + 1) lv (iv (-a) :: st) I) : Rn X D M K pc lv (iv a :: st) I := by
  intro p e s m args below meth c H locs ls hx hb hml hr hlk hown hts hC hP hS hl
  refine lv_ineg hx hb hd ?_
  rw [show -iI a = iI (-a) from (Int32.ofInt_neg a).symm]
  exact k p e s m args below meth c H locs ls hx hb hml hr hlk hown hts hC hP hS hl
theorem r_ladd {X : XC} {D : Nat} {M : MR} {K : KP} {pc : Nat} {lv : List (Nat × Value)} {st : List Value} {I : HD} {a b : Int} (hd : decode M.2.1 pc = .ok (.ladd, 1)) (k : Rn X D M K (pc + 1) lv (jv (a + b) :: st) I) : Rn X D M K pc lv (jv b :: jv a :: st) I := by
  intro p e s m args below meth c H locs ls hx hb hml hr hlk hown hts hC hP hS hl
  refine lv_ladd hx hb hd ?_
  rw [show iL a + iL b = iL (a + b) from (Int64.ofInt_add a b).symm]
  exact k p e s m args below meth c H locs ls hx hb hml hr hlk hown hts hC hP hS hl
theorem r_lsub {X : XC} {D : Nat} {M : MR} {K : KP} {pc : Nat} {lv : List (Nat × Value)} {st : List Value} {I : HD} {a b : Int} (hd : decode M.2.1 pc = .ok (.lsub, 1)) (k : Rn X D M K (pc + 1) lv (jv (a - b) :: st) I) : Rn X D M K pc lv (jv b :: jv a :: st) I := by
  intro p e s m args below meth c H locs ls hx hb hml hr hlk hown hts hC hP hS hl
  refine lv_lsub hx hb hd ?_
  rw [show iL a - iL b = iL (a - b) from (Int64.ofInt_sub a b).symm]
  exact k p e s m args below meth c H locs ls hx hb hml hr hlk hown hts hC hP hS hl
theorem r_lmul {X : XC} {D : Nat} {M : MR} {K : KP} {pc : Nat} {lv : List (Nat × Value)} {st : List Value} {I : HD} {a b : Int} (hd : decode M.2.1 pc = .ok (.lmul, 1)) (k : Rn X D M K (pc + 1) lv (jv (a * b) :: st) I) : Rn X D M K pc lv (jv b :: jv a :: st) I := by
  intro p e s m args below meth c H locs ls hx hb hml hr hlk hown hts hC hP hS hl
  refine lv_lmul hx hb hd ?_
  rw [show iL a * iL b = iL (a * b) from (Int64.ofInt_mul a b).symm]
  exact k p e s m args below meth c H locs ls hx hb hml hr hlk hown hts hC hP hS hl
theorem r_ldiv {X : XC} {D : Nat} {M : MR} {K : KP} {pc : Nat} {lv : List (Nat × Value)} {st : List Value} {I : HD} {a b z : Int} (hne : ¬ iL b = 0) (hz : iL a / iL b = iL z) (hd : decode M.2.1 pc = .ok (.ldiv, 1)) (k : Rn X D M K (pc + 1) lv (jv z :: st) I) : Rn X D M K pc lv (jv b :: jv a :: st) I := by
  intro p e s m args below meth c H locs ls hx hb hml hr hlk hown hts hC hP hS hl
  refine lv_ldiv hx hb hd hne ?_
  rw [hz]
  exact k p e s m args below meth c H locs ls hx hb hml hr hlk hown hts hC hP hS hl
theorem r_lrem {X : XC} {D : Nat} {M : MR} {K : KP} {pc : Nat} {lv : List (Nat × Value)} {st : List Value} {I : HD} {a b z : Int} (hne : ¬ iL b = 0) (hz : iL a - iL a / iL b * iL b = iL z) (hd : decode M.2.1 pc = .ok (.lrem, 1)) (k : Rn X D M K (pc + 1) lv (jv z :: st) I) : Rn X D M K pc lv (jv b :: jv a :: st) I := by
  intro p e s m args below meth c H locs ls hx hb hml hr hlk hown hts hC hP hS hl
  refine lv_lrem hx hb hd hne ?_
  rw [hz]
  exact k p e s m args below meth c H locs ls hx hb hml hr hlk hown hts hC hP hS hl
theorem r_land {X : XC} {D : Nat} {M : MR} {K : KP} {pc : Nat} {lv : List (Nat × Value)} {st : List Value} {I : HD} {a b z : Int} (hz : iL a &&& iL b = iL z) (hd : decode M.2.1 pc = .ok (.land, 1)) (k : Rn X D M K (pc + 1) lv (jv z :: st) I) : Rn X D M K pc lv (jv b :: jv a :: st) I := by
  intro p e s m args below meth c H locs ls hx hb hml hr hlk hown hts hC hP hS hl
  refine lv_land hx hb hd ?_
  rw [hz]
  exact k p e s m args below meth c H locs ls hx hb hml hr hlk hown hts hC hP hS hl
theorem r_lor {X : XC} {D : Nat} {M : MR} {K : KP} {pc : Nat} {lv : List (Nat × Value)} {st : List Value} {I : HD} {a b z : Int} (hz : iL a ||| iL b = iL z) (hd : decode M.2.1 pc = .ok (.lor, 1)) (k : Rn X D M K (pc + 1) lv (jv z :: st) I) : Rn X D M K pc lv (jv b :: jv a :: st) I := by
  intro p e s m args below meth c H locs ls hx hb hml hr hlk hown hts hC hP hS hl
  refine lv_lor hx hb hd ?_
  rw [hz]
  exact k p e s m args below meth c H locs ls hx hb hml hr hlk hown hts hC hP hS hl
theorem r_lshr {X : XC} {D : Nat} {M : MR} {K : KP} {pc : Nat} {lv : List (Nat × Value)} {st : List Value} {I : HD} {a b z : Int} (hz : iL a >>> ((iI b).toInt64 &&& 63) = iL z) (hd : decode M.2.1 pc = .ok (.lshr, 1)) (k : Rn X D M K (pc + 1) lv (jv z :: st) I) : Rn X D M K pc lv (iv b :: jv a :: st) I := by
  intro p e s m args below meth c H locs ls hx hb hml hr hlk hown hts hC hP hS hl
  refine lv_lshr hx hb hd hz ?_
  exact k p e s m args below meth c H locs ls hx hb hml hr hlk hown hts hC hP hS hl
theorem r_lshl {X : XC} {D : Nat} {M : MR} {K : KP} {pc : Nat} {lv : List (Nat × Value)} {st : List Value} {I : HD} {a b z : Int} (hz : iL a <<< ((iI b).toInt64 &&& 63) = iL z) (hd : decode M.2.1 pc = .ok (.lshl, 1)) (k : Rn X D M K (pc + 1) lv (jv z :: st) I) : Rn X D M K pc lv (iv b :: jv a :: st) I := by
  intro p e s m args below meth c H locs ls hx hb hml hr hlk hown hts hC hP hS hl
  refine lv_lshl hx hb hd hz ?_
  exact k p e s m args below meth c H locs ls hx hb hml hr hlk hown hts hC hP hS hl
theorem r_i2l {X : XC} {D : Nat} {M : MR} {K : KP} {pc : Nat} {lv : List (Nat × Value)} {st : List Value} {I : HD} {a : Int} (ha : rg a) (hd : decode M.2.1 pc = .ok (.i2l, 1)) (k : Rn X D M K (pc + 1) lv (jv a :: st) I) : Rn X D M K pc lv (iv a :: st) I := by
  intro p e s m args below meth c H locs ls hx hb hml hr hlk hown hts hC hP hS hl
  refine lv_i2l (v := iL a) hx hb hd (by rw [← Int64.toInt_inj, Int32.toInt_toInt64, rg_of ha, rl_of (rl_rg ha)]) ?_
  exact k p e s m args below meth c H locs ls hx hb hml hr hlk hown hts hC hP hS hl
theorem r_l2i {X : XC} {D : Nat} {M : MR} {K : KP} {pc : Nat} {lv : List (Nat × Value)} {st : List Value} {I : HD} {a : Int} (hd : decode M.2.1 pc = .ok (.l2i, 1)) (k : Rn X D M K (pc + 1) lv (iv a :: st) I) : Rn X D M K pc lv (jv a :: st) I := by
  intro p e s m args below meth c H locs ls hx hb hml hr hlk hown hts hC hP hS hl
  refine lv_l2i (v := iI a) hx hb hd Int64.toInt32_ofInt ?_
  exact k p e s m args below meth c H locs ls hx hb hml hr hlk hown hts hC hP hS hl
theorem r_i2b {X : XC} {D : Nat} {M : MR} {K : KP} {pc : Nat} {lv : List (Nat × Value)} {st : List Value} {I : HD} {a z : Int} (hz : (iI a).toInt8.toInt32 = iI z) (hd : decode M.2.1 pc = .ok (.i2b, 1)) (k : Rn X D M K (pc + 1) lv (iv z :: st) I) : Rn X D M K pc lv (iv a :: st) I := by
  intro p e s m args below meth c H locs ls hx hb hml hr hlk hown hts hC hP hS hl
  refine lv_i2b hx hb hd hz ?_
  exact k p e s m args below meth c H locs ls hx hb hml hr hlk hown hts hC hP hS hl
theorem r_i2s {X : XC} {D : Nat} {M : MR} {K : KP} {pc : Nat} {lv : List (Nat × Value)} {st : List Value} {I : HD} {a z : Int} (hz : (iI a).toInt16.toInt32 = iI z) (hd : decode M.2.1 pc = .ok (.i2s, 1)) (k : Rn X D M K (pc + 1) lv (iv z :: st) I) : Rn X D M K pc lv (iv a :: st) I := by
  intro p e s m args below meth c H locs ls hx hb hml hr hlk hown hts hC hP hS hl
  refine lv_i2s hx hb hd hz ?_
  exact k p e s m args below meth c H locs ls hx hb hml hr hlk hown hts hC hP hS hl
theorem r_dup {X : XC} {D : Nat} {M : MR} {K : KP} {pc : Nat} {lv : List (Nat × Value)} {st : List Value} {I : HD} {v : Value} (hv : v.category = 1) (hd : decode M.2.1 pc = .ok (.dup, 1)) (k : Rn X D M K (pc + 1) lv (v :: v :: st) I) : Rn X D M K pc lv (v :: st) I := by
  intro p e s m args below meth c H locs ls hx hb hml hr hlk hown hts hC hP hS hl
  refine lv_dup hx hb hd hv ?_
  exact k p e s m args below meth c H locs ls hx hb hml hr hlk hown hts hC hP hS hl
theorem r_pop {X : XC} {D : Nat} {M : MR} {K : KP} {pc : Nat} {lv : List (Nat × Value)} {st : List Value} {I : HD} {v : Value} (hv : v.category = 1) (hd : decode M.2.1 pc = .ok (.pop, 1)) (k : Rn X D M K (pc + 1) lv (st) I) : Rn X D M K pc lv (v :: st) I := by
  intro p e s m args below meth c H locs ls hx hb hml hr hlk hown hts hC hP hS hl
  refine lv_pop hx hb hd hv ?_
  exact k p e s m args below meth c H locs ls hx hb hml hr hlk hown hts hC hP hS hl
theorem r_dup2 {X : XC} {D : Nat} {M : MR} {K : KP} {pc : Nat} {lv : List (Nat × Value)} {st : List Value} {I : HD} {v w : Value} (hv : v.category = 1) (hw : w.category = 1) (hd : decode M.2.1 pc = .ok (.dup2, 1)) (k : Rn X D M K (pc + 1) lv (v :: w :: v :: w :: st) I) : Rn X D M K pc lv (v :: w :: st) I := by
  intro p e s m args below meth c H locs ls hx hb hml hr hlk hown hts hC hP hS hl
  refine lv_dup2_11 hx hb hd hv hw ?_
  exact k p e s m args below meth c H locs ls hx hb hml hr hlk hown hts hC hP hS hl
theorem r_lcmp {X : XC} {D : Nat} {M : MR} {K : KP} {pc : Nat} {lv : List (Nat × Value)} {st : List Value} {I : HD} {a b : Int} (hd : decode M.2.1 pc = .ok (.lcmp, 1)) (k : Rn X D M K (pc + 1) lv (.int (lg_cmp (iL a) (iL b)) :: st) I) : Rn X D M K pc lv (jv b :: jv a :: st) I := by
  intro p e s m args below meth c H locs ls hx hb hml hr hlk hown hts hC hP hS hl
  refine W.lcmp hx hb hd ?_
  exact k p e s m args below meth c H locs ls hx hb hml hr hlk hown hts hC hP hS hl
theorem r_icmp_eq {X : XC} {D : Nat} {M : MR} {K : KP} {pc : Nat} {lv : List (Nat × Value)} {st : List Value} {I : HD} {a b off : Int} (tgt : Nat) (ha : rg a) (hb0 : rg b) (hd : decode M.2.1 pc = .ok (.if_icmp .eq off, 3)) (ht : (pc : Int) + off = (tgt : Int)) (kt : a = b → Rn X D M K tgt lv st I) (kf : ¬ a = b → Rn X D M K (pc + 3) lv st I) : Rn X D M K pc lv (iv b :: iv a :: st) I := by
  intro p e s m args below meth c H locs ls hx hb hml hr hlk hown hts hC hP hS hl
  have e9 := rg_eq ha hb0
  exact lv_icmp_eq hx hb hd ht (fun h => kt (e9.mp h) p e s m args below meth c H locs ls hx hb hml hr hlk hown hts hC hP hS hl) (fun h => kf (fun q => h (e9.mpr q)) p e s m args below meth c H locs ls hx hb hml hr hlk hown hts hC hP hS hl)
theorem r_icmp_ne {X : XC} {D : Nat} {M : MR} {K : KP} {pc : Nat} {lv : List (Nat × Value)} {st : List Value} {I : HD} {a b off : Int} (tgt : Nat) (ha : rg a) (hb0 : rg b) (hd : decode M.2.1 pc = .ok (.if_icmp .ne off, 3)) (ht : (pc : Int) + off = (tgt : Int)) (kt : ¬ a = b → Rn X D M K tgt lv st I) (kf : a = b → Rn X D M K (pc + 3) lv st I) : Rn X D M K pc lv (iv b :: iv a :: st) I := by
  intro p e s m args below meth c H locs ls hx hb hml hr hlk hown hts hC hP hS hl
  have e9 := rg_eq ha hb0
  exact lv_icmp_ne hx hb hd ht (fun h => kt (fun q => h (e9.mpr q)) p e s m args below meth c H locs ls hx hb hml hr hlk hown hts hC hP hS hl) (fun h => kf (e9.mp h) p e s m args below meth c H locs ls hx hb hml hr hlk hown hts hC hP hS hl)
theorem r_icmp_lt {X : XC} {D : Nat} {M : MR} {K : KP} {pc : Nat} {lv : List (Nat × Value)} {st : List Value} {I : HD} {a b off : Int} (tgt : Nat) (ha : rg a) (hb0 : rg b) (hd : decode M.2.1 pc = .ok (.if_icmp .lt off, 3)) (ht : (pc : Int) + off = (tgt : Int)) (kt : a < b → Rn X D M K tgt lv st I) (kf : b ≤ a → Rn X D M K (pc + 3) lv st I) : Rn X D M K pc lv (iv b :: iv a :: st) I := by
  intro p e s m args below meth c H locs ls hx hb hml hr hlk hown hts hC hP hS hl
  have e9 := rg_lt ha hb0
  exact lv_icmp_lt hx hb hd ht (fun h => kt (e9.mp h) p e s m args below meth c H locs ls hx hb hml hr hlk hown hts hC hP hS hl) (fun h => kf (by have q : ¬ (a < b) := fun z => h (e9.mpr z); omega) p e s m args below meth c H locs ls hx hb hml hr hlk hown hts hC hP hS hl)
theorem r_icmp_ge {X : XC} {D : Nat} {M : MR} {K : KP} {pc : Nat} {lv : List (Nat × Value)} {st : List Value} {I : HD} {a b off : Int} (tgt : Nat) (ha : rg a) (hb0 : rg b) (hd : decode M.2.1 pc = .ok (.if_icmp .ge off, 3)) (ht : (pc : Int) + off = (tgt : Int)) (kt : b ≤ a → Rn X D M K tgt lv st I) (kf : a < b → Rn X D M K (pc + 3) lv st I) : Rn X D M K pc lv (iv b :: iv a :: st) I := by
  intro p e s m args below meth c H locs ls hx hb hml hr hlk hown hts hC hP hS hl
  have e9 := rg_le hb0 ha
  exact lv_icmp_ge hx hb hd ht (fun h => kt (e9.mp h) p e s m args below meth c H locs ls hx hb hml hr hlk hown hts hC hP hS hl) (fun h => kf (by have q : ¬ (b ≤ a) := fun z => h (e9.mpr z); omega) p e s m args below meth c H locs ls hx hb hml hr hlk hown hts hC hP hS hl)
theorem r_icmp_gt {X : XC} {D : Nat} {M : MR} {K : KP} {pc : Nat} {lv : List (Nat × Value)} {st : List Value} {I : HD} {a b off : Int} (tgt : Nat) (ha : rg a) (hb0 : rg b) (hd : decode M.2.1 pc = .ok (.if_icmp .gt off, 3)) (ht : (pc : Int) + off = (tgt : Int)) (kt : b < a → Rn X D M K tgt lv st I) (kf : a ≤ b → Rn X D M K (pc + 3) lv st I) : Rn X D M K pc lv (iv b :: iv a :: st) I := by
  intro p e s m args below meth c H locs ls hx hb hml hr hlk hown hts hC hP hS hl
  have e9 := rg_lt hb0 ha
  exact lv_icmp_gt hx hb hd ht (fun h => kt (e9.mp h) p e s m args below meth c H locs ls hx hb hml hr hlk hown hts hC hP hS hl) (fun h => kf (by have q : ¬ (b < a) := fun z => h (e9.mpr z); omega) p e s m args below meth c H locs ls hx hb hml hr hlk hown hts hC hP hS hl)
theorem r_icmp_le {X : XC} {D : Nat} {M : MR} {K : KP} {pc : Nat} {lv : List (Nat × Value)} {st : List Value} {I : HD} {a b off : Int} (tgt : Nat) (ha : rg a) (hb0 : rg b) (hd : decode M.2.1 pc = .ok (.if_icmp .le off, 3)) (ht : (pc : Int) + off = (tgt : Int)) (kt : a ≤ b → Rn X D M K tgt lv st I) (kf : b < a → Rn X D M K (pc + 3) lv st I) : Rn X D M K pc lv (iv b :: iv a :: st) I := by
  intro p e s m args below meth c H locs ls hx hb hml hr hlk hown hts hC hP hS hl
  have e9 := rg_le ha hb0
  exact lv_icmp_le hx hb hd ht (fun h => kt (e9.mp h) p e s m args below meth c H locs ls hx hb hml hr hlk hown hts hC hP hS hl) (fun h => kf (by have q : ¬ (a ≤ b) := fun z => h (e9.mpr z); omega) p e s m args below meth c H locs ls hx hb hml hr hlk hown hts hC hP hS hl)
theorem r_if_eq {X : XC} {D : Nat} {M : MR} {K : KP} {pc : Nat} {lv : List (Nat × Value)} {st : List Value} {I : HD} {a off : Int} (tgt : Nat) (ha : rg a) (hd : decode M.2.1 pc = .ok (.ifCond .eq off, 3)) (ht : (pc : Int) + off = (tgt : Int)) (kt : a = 0 → Rn X D M K tgt lv st I) (kf : ¬ a = 0 → Rn X D M K (pc + 3) lv st I) : Rn X D M K pc lv (iv a :: st) I := by
  intro p e s m args below meth c H locs ls hx hb hml hr hlk hown hts hC hP hS hl
  have e9 := rg_eq ha rg_0
  exact lv_if_eq hx hb hd ht (fun h => kt (e9.mp h) p e s m args below meth c H locs ls hx hb hml hr hlk hown hts hC hP hS hl) (fun h => kf (fun q => h (e9.mpr q)) p e s m args below meth c H locs ls hx hb hml hr hlk hown hts hC hP hS hl)
theorem r_if_ne {X : XC} {D : Nat} {M : MR} {K : KP} {pc : Nat} {lv : List (Nat × Value)} {st : List Value} {I : HD} {a off : Int} (tgt : Nat) (ha : rg a) (hd : decode M.2.1 pc = .ok (.ifCond .ne off, 3)) (ht : (pc : Int) + off = (tgt : Int)) (kt : ¬ a = 0 → Rn X D M K tgt lv st I) (kf : a = 0 → Rn X D M K (pc + 3) lv st I) : Rn X D M K pc lv (iv a :: st) I := by
  intro p e s m args below meth c H locs ls hx hb hml hr hlk hown hts hC hP hS hl
  have e9 := rg_eq ha rg_0
  exact lv_if_ne hx hb hd ht (fun h => kt (fun q => h (e9.mpr q)) p e s m args below meth c H locs ls hx hb hml hr hlk hown hts hC hP hS hl) (fun h => kf (e9.mp h) p e s m args below meth c H locs ls hx hb hml hr hlk hown hts hC hP hS hl)
theorem r_if_lt {X : XC} {D : Nat} {M : MR} {K : KP} {pc : Nat} {lv : List (Nat × Value)} {st : List Value} {I : HD} {a off : Int} (tgt : Nat) (ha : rg a) (hd : decode M.2.1 pc = .ok (.ifCond .lt off, 3)) (ht : (pc : Int) + off = (tgt : Int)) (kt : a < 0 → Rn X D M K tgt lv st I) (kf : 0 ≤ a → Rn X D M K (pc + 3) lv st I) : Rn X D M K pc lv (iv a :: st) I := by
  intro p e s m args below meth c H locs ls hx hb hml hr hlk hown hts hC hP hS hl
  have e9 := rg_lt ha rg_0
  exact lv_if_lt hx hb hd ht (fun h => kt (e9.mp h) p e s m args below meth c H locs ls hx hb hml hr hlk hown hts hC hP hS hl) (fun h => kf (by have q : ¬ (a < 0) := fun z => h (e9.mpr z); omega) p e s m args below meth c H locs ls hx hb hml hr hlk hown hts hC hP hS hl)
theorem r_if_ge {X : XC} {D : Nat} {M : MR} {K : KP} {pc : Nat} {lv : List (Nat × Value)} {st : List Value} {I : HD} {a off : Int} (tgt : Nat) (ha : rg a) (hd : decode M.2.1 pc = .ok (.ifCond .ge off, 3)) (ht : (pc : Int) + off = (tgt : Int)) (kt : 0 ≤ a → Rn X D M K tgt lv st I) (kf : a < 0 → Rn X D M K (pc + 3) lv st I) : Rn X D M K pc lv (iv a :: st) I := by
  intro p e s m args below meth c H locs ls hx hb hml hr hlk hown hts hC hP hS hl
  have e9 := rg_le rg_0 ha
  exact lv_if_ge hx hb hd ht (fun h => kt (e9.mp h) p e s m args below meth c H locs ls hx hb hml hr hlk hown hts hC hP hS hl) (fun h => kf (by have q : ¬ (0 ≤ a) := fun z => h (e9.mpr z); omega) p e s m args below meth c H locs ls hx hb hml hr hlk hown hts hC hP hS hl)
theorem r_if_gt {X : XC} {D : Nat} {M : MR} {K : KP} {pc : Nat} {lv : List (Nat × Value)} {st : List Value} {I : HD} {a off : Int} (tgt : Nat) (ha : rg a) (hd : decode M.2.1 pc = .ok (.ifCond .gt off, 3)) (ht : (pc : Int) + off = (tgt : Int)) (kt : 0 < a → Rn X D M K tgt lv st I) (kf : a ≤ 0 → Rn X D M K (pc + 3) lv st I) : Rn X D M K pc lv (iv a :: st) I := by
  intro p e s m args below meth c H locs ls hx hb hml hr hlk hown hts hC hP hS hl
  have e9 := rg_lt rg_0 ha
  exact lv_if_gt hx hb hd ht (fun h => kt (e9.mp h) p e s m args below meth c H locs ls hx hb hml hr hlk hown hts hC hP hS hl) (fun h => kf (by have q : ¬ (0 < a) := fun z => h (e9.mpr z); omega) p e s m args below meth c H locs ls hx hb hml hr hlk hown hts hC hP hS hl)
theorem r_if_le {X : XC} {D : Nat} {M : MR} {K : KP} {pc : Nat} {lv : List (Nat × Value)} {st : List Value} {I : HD} {a off : Int} (tgt : Nat) (ha : rg a) (hd : decode M.2.1 pc = .ok (.ifCond .le off, 3)) (ht : (pc : Int) + off = (tgt : Int)) (kt : a ≤ 0 → Rn X D M K tgt lv st I) (kf : 0 < a → Rn X D M K (pc + 3) lv st I) : Rn X D M K pc lv (iv a :: st) I := by
  intro p e s m args below meth c H locs ls hx hb hml hr hlk hown hts hC hP hS hl
  have e9 := rg_le ha rg_0
  exact lv_if_le hx hb hd ht (fun h => kt (e9.mp h) p e s m args below meth c H locs ls hx hb hml hr hlk hown hts hC hP hS hl) (fun h => kf (by have q : ¬ (a ≤ 0) := fun z => h (e9.mpr z); omega) p e s m args below meth c H locs ls hx hb hml hr hlk hown hts hC hP hS hl)
theorem r_goto {X : XC} {D : Nat} {M : MR} {K : KP} {pc : Nat} {lv : List (Nat × Value)} {st : List Value} {I : HD} {off : Int} (tgt : Nat) (hd : decode M.2.1 pc = .ok (.goto off, 3)) (ht : (pc : Int) + off = (tgt : Int)) (k : Rn X D M K tgt lv st I) : Rn X D M K pc lv st I := by
  intro p e s m args below meth c H locs ls hx hb hml hr hlk hown hts hC hP hS hl
  exact lv_goto hx hb hd ht (k p e s m args below meth c H locs ls hx hb hml hr hlk hown hts hC hP hS hl)
theorem r_lv {X : XC} {D : Nat} {M : MR} {K : KP} {pc : Nat} {lv : List (Nat × Value)} {st : List Value} {I : HD} (ks : List Nat) (lv2 : List (Nat × Value)) (h2 : lv_pick lv ks = lv2) (k : Rn X D M K pc lv2 st I) : Rn X D M K pc lv st I := by
  intro p e s m args below meth c H locs ls hx hb hml hr hlk hown hts hC hP hS hl
  exact k p e s m args below meth c H locs ls hx hb hml hr hlk hown hts hC hP hS (lv_sub hl ks h2)
end
section
/-! ===== rows: fields, arrays, calls, returns ===== -/
def ckX (ci : Nat) (C : String) (N : Nat) (T : u_T) (ty : Nat → FieldType) : Prop := vwCl[ci]? = some (C, T, N) ∧ (∀ w ∈ u_ws C T N, w ∈ lw_good) ∧ (∀ k, k < N → parseFieldDescriptor (T k).2.2.1 = some (ty k)) ∧ (∀ a, a < N → ∀ b, b < N → a ≠ b → (T a).2.1 ≠ (T b).2.1)
theorem hinW {M : MR} {ws : List Cond} (h : ∀ w ∈ ws, w ∈ lw_good) : ∀ w ∈ ws, w ∈ wsM M := fun w hw => List.mem_cons_of_mem _ (h w hw)
theorem upd_iI {f : Nat → Int32} {I : HD} {h : Nat} {i z : Int} (h0 : 0 ≤ i) (hf : f = fun j : Nat => iI (I h j)) : (fun j : Nat => iI (up I h i z h j)) = upd f i.toNat (iI z) := by
  subst hf
  funext j
  unfold up upd
  by_cases q : (j : Int) = i
  · have q2 : j = i.toNat := by omega
    rw [if_pos ⟨rfl, q⟩, if_pos q2]
  · have q2 : ¬ j = i.toNat := by omega
    rw [if_neg (fun z => q z.2), if_neg q2]
theorem upd_iL {f : Nat → Int64} {I : HD} {h : Nat} {i z : Int} (h0 : 0 ≤ i) (hf : f = fun j : Nat => iL (I h j)) : (fun j : Nat => iL (up I h i z h j)) = vp_updL f i.toNat (iL z) := by
  subst hf
  funext j
  unfold up vp_updL
  by_cases q : (j : Int) = i
  · have q2 : j = i.toNat := by omega
    rw [if_pos ⟨rfl, q⟩, if_pos q2]
  · have q2 : ¬ j = i.toNat := by omega
    rw [if_neg (fun z => q z.2), if_neg q2]
theorem r_get {X : XC} {D : Nat} {M : MR} {K : KP} {pc : Nat} {lv : List (Nat × Value)} {st : List Value} {I : HD} {h ci j N idx : Nat} {C : String} {T : u_T} {ty : Nat → FieldType} {fs : List Value} {v : Value} (ck : ckX ci C N T ty) (hh : h < NN) (hc : cell X I h = .inr (ci, fs)) (hj : j < N) (hv : fs[j]? = some v) (hk : Cond.fieldLink M.1.cls idx (T j).1 (T j).2.1 (T j).2.2.1 ∈ lw_good) (hd : decode M.2.1 pc = .ok (.getfield idx, 3)) (k : Rn X D M K (pc + 3) lv (v :: st) I) : Rn X D M K pc lv (rv X h :: st) I := by
  intro p e s m args below meth c H locs ls hx hb hml hr hlk hown hts hC hP hS hl
  exact va_get hx hb hts (hinW ck.2.1) hown hC.1 hP h (by rw [wl_get hh, hc]) ck.1 j hj (hts _ (List.mem_cons_of_mem _ hk)) (fun _ h9 => h9) hv hd (k p e s m args below meth c H locs ls hx hb hml hr hlk hown hts hC hP hS hl)
theorem r_put {X : XC} {D : Nat} {M : MR} {K : KP} {pc : Nat} {lv : List (Nat × Value)} {st : List Value} {I : HD} {h ci N idx : Nat} {C : String} {T : u_T} {ty : Nat → FieldType} {fs : List Value} {z : Int} {t : FieldType} (j : Nat) (ck : ckX ci C N T ty) (hh : h < NN) (hc : cell X I h = .inr (ci, fs)) (hc2 : cell X (up I h j z) h = .inr (ci, fs.set j (iv z))) (hj : j < N) (hjl : j < fs.length) (hk : Cond.fieldLink M.1.cls idx (T j).1 (T j).2.1 (T j).2.2.1 ∈ lw_good) (hfin : (T j).2.2.2 = false) (hty : parseFieldDescriptor (T j).2.2.1 = some t) (hn : narrow t (iv z) = iv z) (hfit : fits t (iv z) = true) (hd : decode M.2.1 pc = .ok (.putfield idx, 3)) (k : Rn X D M K (pc + 3) lv st (up I h j z)) : Rn X D M K pc lv (iv z :: rv X h :: st) I := by
  intro p e s m args below meth c H locs ls hx hb hml hr hlk hown hts hC hP hS hl
  refine va_put hx hb hts (hinW ck.2.1) ty ck.2.2.1 ck.2.2.2 hown hC.1 hP (wl_D hC.2.2) hS h (by rw [wl_get hh, hc]) ck.1 j hj (hts _ (List.mem_cons_of_mem _ hk)) (fun _ h9 => h9) hfin hty hn hfit hjl hd (fun H1 locs1 hP1 _ hS1 => ?_)
  rw [wl_set hh hc2] at hP1
  exact k p e s m args below meth c H1 locs1 ls hx hb hml hr hlk hown hts hC hP1 hS1 hl
theorem r_getN {X : XC} {D : Nat} {M : MR} {K : KP} {pc : Nat} {lv : List (Nat × Value)} {st : List Value} {I : HD} {host : String} {h ci j N idx : Nat} {C : String} {T : u_T} {ty : Nat → FieldType} {fs : List Value} {v : Value} (ck : ckX ci C N T ty) (hh : h < NN) (hc : cell X I h = .inr (ci, fs)) (hj : j < N) (hv : fs[j]? = some v) (hk : Cond.fieldLinkNest M.1.cls idx (T j).1 (T j).2.1 (T j).2.2.1 host ∈ lw_nest) (hd : decode M.2.1 pc = .ok (.getfield idx, 3)) (k : Rn X D M K (pc + 3) lv (v :: st) I) : Rn X D M K pc lv (rv X h :: st) I := by
  intro p e s m args below meth c H locs ls hx hb hml hr hlk hown hts hC hP hS hl
  exact va_getN hx hb hts (hinW ck.2.1) hown hC.1 hP h (by rw [wl_get hh, hc]) ck.1 j hj (va_Nw.use rfl (hC.2.1 _ hk)) (fun _ h9 => h9) hv hd (k p e s m args below meth c H locs ls hx hb hml hr hlk hown hts hC hP hS hl)
theorem r_putN {X : XC} {D : Nat} {M : MR} {K : KP} {pc : Nat} {lv : List (Nat × Value)} {st : List Value} {I : HD} {host : String} {h ci N idx : Nat} {C : String} {T : u_T} {ty : Nat → FieldType} {fs : List Value} {z : Int} {t : FieldType} (j : Nat) (ck : ckX ci C N T ty) (hh : h < NN) (hc : cell X I h = .inr (ci, fs)) (hc2 : cell X (up I h j z) h = .inr (ci, fs.set j (iv z))) (hj : j < N) (hjl : j < fs.length) (hk : Cond.fieldLinkNest M.1.cls idx (T j).1 (T j).2.1 (T j).2.2.1 host ∈ lw_nest) (hfin : (T j).2.2.2 = false) (hty : parseFieldDescriptor (T j).2.2.1 = some t) (hn : narrow t (iv z) = iv z) (hfit : fits t (iv z) = true) (hd : decode M.2.1 pc = .ok (.putfield idx, 3)) (k : Rn X D M K (pc + 3) lv st (up I h j z)) : Rn X D M K pc lv (iv z :: rv X h :: st) I := by
  intro p e s m args below meth c H locs ls hx hb hml hr hlk hown hts hC hP hS hl
  refine va_putN hx hb hts (hinW ck.2.1) ty ck.2.2.1 ck.2.2.2 hown hC.1 hP (wl_D hC.2.2) hS h (by rw [wl_get hh, hc]) ck.1 j hj (va_Nw.use rfl (hC.2.1 _ hk)) (fun _ h9 => h9) hfin hty hn hfit hjl hd (fun H1 locs1 hP1 _ hS1 => ?_)
  rw [wl_set hh hc2] at hP1
  exact k p e s m args below meth c H1 locs1 ls hx hb hml hr hlk hown hts hC hP1 hS1 hl
theorem r_iald {X : XC} {D : Nat} {M : MR} {K : KP} {pc : Nat} {lv : List (Nat × Value)} {st : List Value} {I : HD} {h n : Nat} {i : Int} (hh : h < NN) (hc : cell X I h = oiv X I h 0 n) (h0 : 0 ≤ i) (h1 : i < n) (hn : n < 2147483648) (hd : decode M.2.1 pc = .ok (.iaload, 1)) (k : Rn X D M K (pc + 1) lv (iv (I h i) :: st) I) : Rn X D M K pc lv (iv i :: rv X h :: st) I := by
  intro p e s m args below meth c H locs ls hx hb hml hr hlk hown hts hC hP hS hl
  refine va_iald hx hb hC.1 hP h 0 (by rw [wl_get hh, hc]; rfl) rfl (rg_in h0 h1 hn) hd ?_
  rw [rg_cl (by unfold rg; omega) h0, Int.toNat_of_nonneg h0]
  exact k p e s m args below meth c H locs ls hx hb hml hr hlk hown hts hC hP hS hl
theorem r_bald {X : XC} {D : Nat} {M : MR} {K : KP} {pc : Nat} {lv : List (Nat × Value)} {st : List Value} {I : HD} {h n : Nat} {i : Int} (hh : h < NN) (hc : cell X I h = oiv X I h 1 n) (h0 : 0 ≤ i) (h1 : i < n) (hn : n < 2147483648) (hd : decode M.2.1 pc = .ok (.baload, 1)) (k : Rn X D M K (pc + 1) lv (iv (I h i) :: st) I) : Rn X D M K pc lv (iv i :: rv X h :: st) I := by
  intro p e s m args below meth c H locs ls hx hb hml hr hlk hown hts hC hP hS hl
  refine va_bald hx hb hC.1 hP h 1 (by rw [wl_get hh, hc]; rfl) rfl (rg_in h0 h1 hn) hd ?_
  rw [rg_cl (by unfold rg; omega) h0, Int.toNat_of_nonneg h0]
  exact k p e s m args below meth c H locs ls hx hb hml hr hlk hown hts hC hP hS hl
theorem r_zald {X : XC} {D : Nat} {M : MR} {K : KP} {pc : Nat} {lv : List (Nat × Value)} {st : List Value} {I : HD} {h n : Nat} {i : Int} (hh : h < NN) (hc : cell X I h = oiv X I h 3 n) (h0 : 0 ≤ i) (h1 : i < n) (hn : n < 2147483648) (hd : decode M.2.1 pc = .ok (.baload, 1)) (k : Rn X D M K (pc + 1) lv (iv (I h i) :: st) I) : Rn X D M K pc lv (iv i :: rv X h :: st) I := by
  intro p e s m args below meth c H locs ls hx hb hml hr hlk hown hts hC hP hS hl
  refine va_zald hx hb hC.1 hP h 3 (by rw [wl_get hh, hc]; rfl) rfl (rg_in h0 h1 hn) hd ?_
  rw [rg_cl (by unfold rg; omega) h0, Int.toNat_of_nonneg h0]
  exact k p e s m args below meth c H locs ls hx hb hml hr hlk hown hts hC hP hS hl
theorem r_iast {X : XC} {D : Nat} {M : MR} {K : KP} {pc : Nat} {lv : List (Nat × Value)} {st : List Value} {I : HD} {h n : Nat} {i z : Int} (hh : h < NN) (hc : ∀ I2, cell X I2 h = oiv X I2 h 0 n) (h0 : 0 ≤ i) (h1 : i < n) (hn : n < 2147483648) (hd : decode M.2.1 pc = .ok (.iastore, 1)) (k : Rn X D M K (pc + 1) lv st (up I h i z)) : Rn X D M K pc lv (iv z :: iv i :: rv X h :: st) I := by
  intro p e s m args below meth c H locs ls hx hb hml hr hlk hown hts hC hP hS hl
  refine va_iast hx hb hC.1 hP (wl_D hC.2.2) hS h 0 (by rw [wl_get hh, hc]; rfl) rfl (rg_in h0 h1 hn) hd (fun H1 locs1 hP1 _ hS1 => ?_)
  rw [rg_cl (by unfold rg; omega) h0, wl_set hh (by rw [hc]; unfold oiv; rw [upd_iI h0 rfl])] at hP1
  exact k p e s m args below meth c H1 locs1 ls hx hb hml hr hlk hown hts hC hP1 hS1 hl
theorem r_bast {X : XC} {D : Nat} {M : MR} {K : KP} {pc : Nat} {lv : List (Nat × Value)} {st : List Value} {I : HD} {h n : Nat} {i z : Int} (hh : h < NN) (hc : ∀ I2, cell X I2 h = oiv X I2 h 1 n) (h0 : 0 ≤ i) (h1 : i < n) (hn : n < 2147483648) (hnar : vp_nar .byte (iI z) = iI z) (hd : decode M.2.1 pc = .ok (.bastore, 1)) (k : Rn X D M K (pc + 1) lv st (up I h i z)) : Rn X D M K pc lv (iv z :: iv i :: rv X h :: st) I := by
  intro p e s m args below meth c H locs ls hx hb hml hr hlk hown hts hC hP hS hl
  refine va_bast hx hb hC.1 hP (wl_D hC.2.2) hS h 1 (by rw [wl_get hh, hc]; rfl) rfl (rg_in h0 h1 hn) hd (fun H1 locs1 hP1 _ hS1 => ?_)
  rw [rg_cl (by unfold rg; omega) h0, hnar, wl_set hh (by rw [hc]; unfold oiv; rw [upd_iI h0 rfl])] at hP1
  exact k p e s m args below meth c H1 locs1 ls hx hb hml hr hlk hown hts hC hP1 hS1 hl
theorem r_zast {X : XC} {D : Nat} {M : MR} {K : KP} {pc : Nat} {lv : List (Nat × Value)} {st : List Value} {I : HD} {h n : Nat} {i z : Int} (hh : h < NN) (hc : ∀ I2, cell X I2 h = oiv X I2 h 3 n) (h0 : 0 ≤ i) (h1 : i < n) (hn : n < 2147483648) (hnar : vp_nar .boolean (iI z) = iI z) (hd : decode M.2.1 pc = .ok (.bastore, 1)) (k : Rn X D M K (pc + 1) lv st (up I h i z)) : Rn X D M K pc lv (iv z :: iv i :: rv X h :: st) I := by
  intro p e s m args below meth c H locs ls hx hb hml hr hlk hown hts hC hP hS hl
  refine va_zast hx hb hC.1 hP (wl_D hC.2.2) hS h 3 (by rw [wl_get hh, hc]; rfl) rfl (rg_in h0 h1 hn) hd (fun H1 locs1 hP1 _ hS1 => ?_)
  rw [rg_cl (by unfold rg; omega) h0, hnar, wl_set hh (by rw [hc]; unfold oiv; rw [upd_iI h0 rfl])] at hP1
  exact k p e s m args below meth c H1 locs1 ls hx hb hml hr hlk hown hts hC hP1 hS1 hl
theorem r_lald {X : XC} {D : Nat} {M : MR} {K : KP} {pc : Nat} {lv : List (Nat × Value)} {st : List Value} {I : HD} {h n : Nat} {i : Int} (hh : h < NN) (hc : cell X I h = .inl (X.2.2.2 2, n, .inr (.inl (fun j => iL (I h j))))) (h0 : 0 ≤ i) (h1 : i < n) (hn : n < 2147483648) (hd : decode M.2.1 pc = .ok (.laload, 1)) (k : Rn X D M K (pc + 1) lv (jv (I h i) :: st) I) : Rn X D M K pc lv (iv i :: rv X h :: st) I := by
  intro p e s m args below meth c H locs ls hx hb hml hr hlk hown hts hC hP hS hl
  refine va_lald hx hb hC.1 hP h 2 (by rw [wl_get hh, hc]) rfl (rg_in h0 h1 hn) hd ?_
  rw [rg_cl (by unfold rg; omega) h0, Int.toNat_of_nonneg h0]
  exact k p e s m args below meth c H locs ls hx hb hml hr hlk hown hts hC hP hS hl
theorem r_last {X : XC} {D : Nat} {M : MR} {K : KP} {pc : Nat} {lv : List (Nat × Value)} {st : List Value} {I : HD} {h n : Nat} {i z : Int} (hh : h < NN) (hc : ∀ I2, cell X I2 h = .inl (X.2.2.2 2, n, .inr (.inl (fun j => iL (I2 h j))))) (h0 : 0 ≤ i) (h1 : i < n) (hn : n < 2147483648) (hd : decode M.2.1 pc = .ok (.lastore, 1)) (k : Rn X D M K (pc + 1) lv st (up I h i z)) : Rn X D M K pc lv (jv z :: iv i :: rv X h :: st) I := by
  intro p e s m args below meth c H locs ls hx hb hml hr hlk hown hts hC hP hS hl
  refine va_last hx hb hC.1 hP (wl_D hC.2.2) hS h 2 (by rw [wl_get hh, hc]) rfl (rg_in h0 h1 hn) hd (fun H1 locs1 hP1 _ hS1 => ?_)
  rw [rg_cl (by unfold rg; omega) h0, wl_set hh (by rw [hc]; rw [upd_iL h0 rfl])] at hP1
  exact k p e s m args below meth c H1 locs1 ls hx hb hml hr hlk hown hts hC hP1 hS1 hl
theorem r_aald {X : XC} {D : Nat} {M : MR} {K : KP} {pc : Nat} {lv : List (Nat × Value)} {st : List Value} {I : HD} {h n t : Nat} {i : Int} {C : String} {g : Nat → Nat} (hh : h < NN) (hc : cell X I h = .inl (X.2.2.2 t, n, .inr (.inr (.inr (.inr (fun j => some (X.2.2.1 (g j)))))))) (ht : (tysX X)[t]? = some (X.2.2.2 t, .object C)) (h0 : 0 ≤ i) (h1 : i < n) (hn : n < 2147483648) (hd : decode M.2.1 pc = .ok (.aaload, 1)) (k : Rn X D M K (pc + 1) lv (rv X (g i.toNat) :: st) I) : Rn X D M K pc lv (iv i :: rv X h :: st) I := by
  intro p e s m args below meth c H locs ls hx hb hml hr hlk hown hts hC hP hS hl
  refine va_aldq hx hb hC.1 hP h t (by rw [wl_get hh, hc]) ht (rg_in h0 h1 hn) hd ?_
  rw [rg_cl (by unfold rg; omega) h0]
  exact k p e s m args below meth c H locs ls hx hb hml hr hlk hown hts hC hP hS hl
theorem r_vret {X : XC} {D : Nat} {M : MR} {K : KP} {pc : Nat} {lv : List (Nat × Value)} {st : List Value} {I : HD} (hr0 : M.2.2.2 = none) (hd : decode M.2.1 pc = .ok (.return_, 1)) (hk : K none I) : Rn X D M K pc lv [] I := by
  intro p e s m args below meth c H locs ls hx hb hml hr hlk hown hts hC hP hS hl
  exact W.vret hx hb (hr.trans hr0) (fun t ht hW => ⟨⟨none, I, rfl, hk, by rw [ht]; exact hP⟩, hS.F ht⟩) hS.2.2 hd
theorem r_iret {X : XC} {D : Nat} {M : MR} {K : KP} {pc : Nat} {lv : List (Nat × Value)} {st : List Value} {I : HD} {z : Int} (hr0 : M.2.2.2 = some .int) (hd : decode M.2.1 pc = .ok (.ireturn, 1)) (hk : K (some (iv z)) I) : Rn X D M K pc lv [iv z] I := by
  intro p e s m args below meth c H locs ls hx hb hml hr hlk hown hts hC hP hS hl
  exact W.iret hx hb (hr.trans hr0) (fun t ht hW => ⟨⟨_, I, rfl, hk, by rw [ht]; exact hP⟩, hS.F ht⟩) hS.2.2 hd
theorem r_zret {X : XC} {D : Nat} {M : MR} {K : KP} {pc : Nat} {lv : List (Nat × Value)} {st : List Value} {I : HD} {z : Int} {ty : FieldType} (hr0 : M.2.2.2 = some ty) (hn : narrow ty (iv z) = iv z) (hd : decode M.2.1 pc = .ok (.ireturn, 1)) (hk : K (some (iv z)) I) : Rn X D M K pc lv [iv z] I := by
  intro p e s m args below meth c H locs ls hx hb hml hr hlk hown hts hC hP hS hl
  exact W.zret hx hb (hr.trans hr0) hn (fun t ht hW => ⟨⟨_, I, rfl, hk, by rw [ht]; exact hP⟩, hS.F ht⟩) hS.2.2 hd
theorem r_lret {X : XC} {D : Nat} {M : MR} {K : KP} {pc : Nat} {lv : List (Nat × Value)} {st : List Value} {I : HD} {z : Int} (hr0 : M.2.2.2 = some .long) (hd : decode M.2.1 pc = .ok (.lreturn, 1)) (hk : K (some (jv z)) I) : Rn X D M K pc lv [jv z] I := by
  intro p e s m args below meth c H locs ls hx hb hml hr hlk hown hts hC hP hS hl
  exact W.lret hx hb (hr.trans hr0) (fun t ht hW => ⟨⟨_, I, rfl, hk, by rw [ht]; exact hP⟩, hS.F ht⟩) hS.2.2 hd
/-- behind a call: any answer -/
theorem r_back9 {p : Program} {l : Launch} {e : Env} {R : Room} {s : State} {m : MethodId} {args : Array Value} {below : List Frame} {meth : Method} {c : Code} {H : Heap} {locs : List Loc} {Q : State → Prop} {X : XC} {pc : Nat} {ls : Array Slot} {rest st0 : List Value} {a : Array Value} {H0 : Heap} {K1 : KP}
    (hr : va_Run p l e R s m args below meth c H locs 0 0 0 0 (F0 m pc ls st0) rest (QK X K1 a) (AA X)) (hS : va_S (AA X) H0 H locs)
    (kk : ∀ (r : Option Value) (I : HD) (H1 : Heap) (locs1 : List Loc), K1 r I → va_P X.2.1 vwCl (wl X I) H1 → va_S (AA X) H0 H1 locs1 → W p l e R s m args below meth c H1 locs1 0 0 Q (F0 m (pc + 3) ls (r.toList ++ rest))) : W p l e R s m args below meth c H locs 0 0 Q (F0 m pc ls st0) := by
  intro T hT XX
  obtain ⟨v, st₀, t, T', L, h0, X', hL, e1, e2, ⟨⟨r, I, hv, hp, hb⟩, hz, hk⟩, st⟩ := hr T hT XX
  cases hv
  rw [h0] at hz hk
  obtain ⟨t2, a1, b1⟩ := kk v I T'.heap (locs ++ L) hp (by rw [e1]; exact hb)
    ⟨Nat.le_trans hS.1 (by rw [e1]; exact hz), fun q h1 h2 => by rw [e1, hk q (Nat.lt_of_lt_of_le h1 hS.1) h2]; exact hS.2.1 q h1 h2, fun q hq => by
      rcases List.mem_append.mp hq with h | h
      · exact hS.2.2 q h
      · exact hL q h⟩ T' rfl X'
  exact ⟨t2, st t2 a1, b1⟩
/-- a method that can be called: what the tables say of it -/
def okC (M : MR) (n : Nat) : Prop := Cond.code M.1 M.2.1 M.2.2.1 M.2.2.2 ∈ lw_good ∧ Cond.initialized M.1.cls ∈ lw_good ∧ (M.1.cls ≠ "java/lang/invoke/MethodHandle" ∧ M.1.cls ≠ "java/lang/invoke/VarHandle" ∧ (parseMethodDescriptor M.1.desc).map (fun d => d.parameters.length) = some n) ∧ M.2.2.1 ≤ 21
def okV (M : MR) (n : Nat) : Prop := okC M n ∧ Cond.instanceMethod M.1 ∈ lw_good ∧ Cond.selects M.1.cls M.1 M.1 ∈ lw_good
def okS (M : MR) (n : Nat) : Prop := okC M n ∧ Cond.static M.1 ∈ lw_good
theorem Cl.blind {X : XC} {av : List Value} {I : HD} : FrameBlind (va_Pc av (fun U => va_P X.2.1 vwCl (wl X I) U.heap ∧ Cx X U)) := fun a U g mk h => ⟨h.1, h.2.1, h.2.2.blind⟩
theorem good_w {w : Cond} (h : w ∈ lw_good) : (w.onTables && w.keeps) = true ∨ ∃ ty, w = .arrayClass ty := good_of_word (List.mem_filter.mp h).2
theorem wsM_good {M M2 : MR} {n : Nat} (h : okC M2 n) : GoodIn (wsM M) (wsM M2) := by
  intro w hw
  rcases List.mem_cons.mp hw with rfl | hw
  · exact ⟨List.mem_cons_of_mem _ h.1, good_w h.1⟩
  · exact ⟨List.mem_cons_of_mem _ hw, good_w hw⟩
theorem cb_of {X : XC} {D D2 : Nat} {M M2 : MR} {n idx : Nat} {s : State} {args : Array Value} (ok : okC M2 n) (hD : D2 < D) (hts : ∀ w ∈ wsM M, w.before args s = true) (hk : Cond.methodLink M.1.cls idx M2.1 ∈ lw_good) :
    CallB (rmD D) s args M.1.cls idx M2.1 M2.2.1 M2.2.2.1 M2.2.2.2 (wsM M2) (rmD D2) 0 0 n := by
  have h8 : 8 + (M2.2.2.1 + 11) + 40 * D2 ≤ 40 * D := by have := ok.2.2.2; omega
  exact callB_of n hts (wsM_good ok) rfl rfl rfl (hts _ (List.mem_cons_of_mem _ ok.2.1)) (hts _ (List.mem_cons_of_mem _ hk)) ok.2.2.1 ⟨hD, h8⟩
theorem r_callV {X : XC} {D : Nat} {M : MR} {K : KP} {pc : Nat} {lv : List (Nat × Value)} {st : List Value} {I : HD} {D2 : Nat} {M2 : MR} {K2 : KP} {n idx h ci : Nat} {fs As : List Value} {T : u_T} {N : Nat} (ok : okV M2 n) (hD : D2 < D) (hh : h < NN) (hc : cell X I h = .inr (ci, fs)) (hcl : vwCl[ci]? = some (M2.1.cls, T, N)) (hn : As.length = n) (hst : (st.map fun v => v.category).sum ≤ 8) (hk : Cond.methodLink M.1.cls idx M2.1 ∈ lw_good) (hM : Cl X D2 M2 (rv X h :: As) I K2) (hd : decode M.2.1 pc = .ok (.invokevirtual idx, 3)) (k : ∀ (r : Option Value) (I2 : HD), K2 r I2 → Rn X D M K (pc + 3) lv (r.toList ++ st) I2) : Rn X D M K pc lv (As.reverse ++ rv X h :: st) I := by
  intro p e s m args below meth c H locs ls hx hb hml hr hlk hown hts hC hP hS hl
  refine r_back9 (va_runV (As := As) (rest := st) ⟨hx, hb, hml, hown, hts⟩ hM ⟨cb_of (X := X) ok.1 hD hts hk, hts _ (List.mem_cons_of_mem _ ok.2.1), hts _ (List.mem_cons_of_mem _ ok.2.2)⟩ ⟨Cl.blind, va_recv hC.1 hP hcl (q0 := h) (by rw [wl_get hh, hc]), fun U hU hW => ⟨rfl, by rw [hU]; exact hP, hC.moved hW⟩⟩ rfl hn hl.1 rfl (lv_room hst) hd ⟨Nat.le_refl _, Nat.le_refl _⟩) hS (fun r I2 H1 locs1 h1 hP1 hS1 => ?_)
  exact k r I2 h1 p e s m args below meth c H1 locs1 ls hx hb hml hr hlk hown hts hC hP1 hS1 hl
theorem r_callS {X : XC} {D : Nat} {M : MR} {K : KP} {pc : Nat} {lv : List (Nat × Value)} {st : List Value} {I : HD} {D2 : Nat} {M2 : MR} {K2 : KP} {n idx : Nat} {As : List Value} (ok : okS M2 n) (hD : D2 < D) (hcl : M2.1.cls = M.1.cls) (hn : As.length = n) (hst : (st.map fun v => v.category).sum ≤ 8) (hk : Cond.methodLink M.1.cls idx M2.1 ∈ lw_good) (hM : Cl X D2 M2 As I K2) (hd : decode M.2.1 pc = .ok (.invokestatic idx, 3)) (k : ∀ (r : Option Value) (I2 : HD), K2 r I2 → Rn X D M K (pc + 3) lv (r.toList ++ st) I2) : Rn X D M K pc lv (As.reverse ++ st) I := by
  intro p e s m args below meth c H locs ls hx hb hml hr hlk hown hts hC hP hS hl
  refine r_back9 (va_runS (As := As) (rest := st) ⟨hx, hb, hml, hown, hts⟩ hM ⟨cb_of (X := X) ok.1 hD hts hk, hts _ (List.mem_cons_of_mem _ ok.2)⟩ ⟨Cl.blind, fun U hU hW => ⟨rfl, by rw [hU]; exact hP, hC.moved hW⟩⟩ rfl hn hl.1 rfl (lv_room hst) hd ⟨Nat.le_refl _, Nat.le_refl _⟩) hS (fun r I2 H1 locs1 h1 hP1 hS1 => ?_)
  exact k r I2 h1 p e s m args below meth c H1 locs1 ls hx hb hml hr hlk hown hts hC hP1 hS1 hl
end
