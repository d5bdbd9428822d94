section
-- ===== PART A: goes FIRST, ahead of the names: the tables' words, and 'selects' of the private methods out of them =====
/-- a private method of a class that the tables say can be made, by its rows of tables_1 -/
def lw_okq (q : MethodName × Nat) : Prop := (q.1.cls ≠ "java/lang/invoke/MethodHandle" ∧ q.1.cls ≠ "java/lang/invoke/VarHandle") ∧ Cond.instantiable q.1.cls q.2 ∈ tables_1 ∧ Cond.privateMethod q.1 ∈ tables_1 ∧ Cond.instanceMethod q.1 ∈ tables_1
theorem lw_p0 : lw_okq (⟨"TopSheet", "found", "(I)I"⟩, 10) := ⟨⟨by decide +kernel, by decide +kernel⟩, List.mem_of_getElem? (i := 19) (by decide +kernel), List.mem_of_getElem? (i := 275) (by decide +kernel), List.mem_of_getElem? (i := 276) (by decide +kernel)⟩
theorem lw_p1 : lw_okq (⟨"TopSheet", "well", "(I)I"⟩, 10) := ⟨⟨by decide +kernel, by decide +kernel⟩, List.mem_of_getElem? (i := 19) (by decide +kernel), List.mem_of_getElem? (i := 284) (by decide +kernel), List.mem_of_getElem? (i := 285) (by decide +kernel)⟩
theorem lw_p2 : lw_okq (⟨"TopSheet$Reader", "step", "()V"⟩, 8) := ⟨⟨by decide +kernel, by decide +kernel⟩, List.mem_of_getElem? (i := 29) (by decide +kernel), List.mem_of_getElem? (i := 344) (by decide +kernel), List.mem_of_getElem? (i := 345) (by decide +kernel)⟩
theorem lw_p3 : lw_okq (⟨"TopSheet$Reader", "readWind", "()Z"⟩, 8) := ⟨⟨by decide +kernel, by decide +kernel⟩, List.mem_of_getElem? (i := 29) (by decide +kernel), List.mem_of_getElem? (i := 361) (by decide +kernel), List.mem_of_getElem? (i := 362) (by decide +kernel)⟩
theorem lw_p4 : lw_okq (⟨"TopSheet$Reader", "isWord", "(Ljava/lang/String;)Z"⟩, 8) := ⟨⟨by decide +kernel, by decide +kernel⟩, List.mem_of_getElem? (i := 29) (by decide +kernel), List.mem_of_getElem? (i := 366) (by decide +kernel), List.mem_of_getElem? (i := 367) (by decide +kernel)⟩
theorem lw_p5 : lw_okq (⟨"TopSheet$Reader", "fail", "(I)Z"⟩, 8) := ⟨⟨by decide +kernel, by decide +kernel⟩, List.mem_of_getElem? (i := 29) (by decide +kernel), List.mem_of_getElem? (i := 418) (by decide +kernel), List.mem_of_getElem? (i := 419) (by decide +kernel)⟩
theorem lw_p6 : lw_okq (⟨"TopSheet$Reader", "takeNumber", "(II)Z"⟩, 8) := ⟨⟨by decide +kernel, by decide +kernel⟩, List.mem_of_getElem? (i := 29) (by decide +kernel), List.mem_of_getElem? (i := 422) (by decide +kernel), List.mem_of_getElem? (i := 423) (by decide +kernel)⟩
theorem lw_p7 : lw_okq (⟨"TopSheet$Reader", "takeSemicolon", "()Z"⟩, 8) := ⟨⟨by decide +kernel, by decide +kernel⟩, List.mem_of_getElem? (i := 29) (by decide +kernel), List.mem_of_getElem? (i := 426) (by decide +kernel), List.mem_of_getElem? (i := 427) (by decide +kernel)⟩
theorem lw_p8 : lw_okq (⟨"TopSheet$Reader", "readDesks", "()Z"⟩, 8) := ⟨⟨by decide +kernel, by decide +kernel⟩, List.mem_of_getElem? (i := 29) (by decide +kernel), List.mem_of_getElem? (i := 430) (by decide +kernel), List.mem_of_getElem? (i := 431) (by decide +kernel)⟩
theorem lw_p9 : lw_okq (⟨"TopSheet$Reader", "readDesk", "()Z"⟩, 8) := ⟨⟨by decide +kernel, by decide +kernel⟩, List.mem_of_getElem? (i := 29) (by decide +kernel), List.mem_of_getElem? (i := 435) (by decide +kernel), List.mem_of_getElem? (i := 436) (by decide +kernel)⟩
theorem lw_p10 : lw_okq (⟨"TopSheet$Reader", "readSheets", "()Z"⟩, 8) := ⟨⟨by decide +kernel, by decide +kernel⟩, List.mem_of_getElem? (i := 29) (by decide +kernel), List.mem_of_getElem? (i := 443) (by decide +kernel), List.mem_of_getElem? (i := 444) (by decide +kernel)⟩
theorem lw_p11 : lw_okq (⟨"TopSheet$Reader", "readSheet", "()Z"⟩, 8) := ⟨⟨by decide +kernel, by decide +kernel⟩, List.mem_of_getElem? (i := 29) (by decide +kernel), List.mem_of_getElem? (i := 448) (by decide +kernel), List.mem_of_getElem? (i := 449) (by decide +kernel)⟩
theorem lw_p12 : lw_okq (⟨"TopSheet$Reader", "sortTold", "()I"⟩, 8) := ⟨⟨by decide +kernel, by decide +kernel⟩, List.mem_of_getElem? (i := 29) (by decide +kernel), List.mem_of_getElem? (i := 452) (by decide +kernel), List.mem_of_getElem? (i := 453) (by decide +kernel)⟩
theorem lw_p13 : lw_okq (⟨"TopSheet$Means", "weigh", "(LTopSheet$Office;I)V"⟩, 3) := ⟨⟨by decide +kernel, by decide +kernel⟩, List.mem_of_getElem? (i := 169) (by decide +kernel), List.mem_of_getElem? (i := 622) (by decide +kernel), List.mem_of_getElem? (i := 623) (by decide +kernel)⟩
theorem lw_p14 : lw_okq (⟨"TopSheet$Sorter", "leastLost", "(LTopSheet$Office;III)I"⟩, 2) := ⟨⟨by decide +kernel, by decide +kernel⟩, List.mem_of_getElem? (i := 188) (by decide +kernel), List.mem_of_getElem? (i := 645) (by decide +kernel), List.mem_of_getElem? (i := 646) (by decide +kernel)⟩
theorem lw_p15 : lw_okq (⟨"TopSheet$Sorter", "firstThatKeepsLost", "(LTopSheet$Office;III)I"⟩, 2) := ⟨⟨by decide +kernel, by decide +kernel⟩, List.mem_of_getElem? (i := 188) (by decide +kernel), List.mem_of_getElem? (i := 652) (by decide +kernel), List.mem_of_getElem? (i := 653) (by decide +kernel)⟩
def lw_privs_1 : List (MethodName × Nat) := [(⟨"TopSheet", "found", "(I)I"⟩, 10), (⟨"TopSheet", "well", "(I)I"⟩, 10), (⟨"TopSheet$Reader", "step", "()V"⟩, 8), (⟨"TopSheet$Reader", "readWind", "()Z"⟩, 8), (⟨"TopSheet$Reader", "isWord", "(Ljava/lang/String;)Z"⟩, 8), (⟨"TopSheet$Reader", "fail", "(I)Z"⟩, 8), (⟨"TopSheet$Reader", "takeNumber", "(II)Z"⟩, 8), (⟨"TopSheet$Reader", "takeSemicolon", "()Z"⟩, 8), (⟨"TopSheet$Reader", "readDesks", "()Z"⟩, 8), (⟨"TopSheet$Reader", "readDesk", "()Z"⟩, 8), (⟨"TopSheet$Reader", "readSheets", "()Z"⟩, 8), (⟨"TopSheet$Reader", "readSheet", "()Z"⟩, 8), (⟨"TopSheet$Reader", "sortTold", "()I"⟩, 8), (⟨"TopSheet$Means", "weigh", "(LTopSheet$Office;I)V"⟩, 3), (⟨"TopSheet$Sorter", "leastLost", "(LTopSheet$Office;III)I"⟩, 2), (⟨"TopSheet$Sorter", "firstThatKeepsLost", "(LTopSheet$Office;III)I"⟩, 2)]
theorem lw_r1 : ∀ q ∈ lw_privs_1, lw_okq q := List.forall_mem_cons.mpr ⟨lw_p0, List.forall_mem_cons.mpr ⟨lw_p1, List.forall_mem_cons.mpr ⟨lw_p2, List.forall_mem_cons.mpr ⟨lw_p3, List.forall_mem_cons.mpr ⟨lw_p4, List.forall_mem_cons.mpr ⟨lw_p5, List.forall_mem_cons.mpr ⟨lw_p6, List.forall_mem_cons.mpr ⟨lw_p7, List.forall_mem_cons.mpr ⟨lw_p8, List.forall_mem_cons.mpr ⟨lw_p9, List.forall_mem_cons.mpr ⟨lw_p10, List.forall_mem_cons.mpr ⟨lw_p11, List.forall_mem_cons.mpr ⟨lw_p12, List.forall_mem_cons.mpr ⟨lw_p13, List.forall_mem_cons.mpr ⟨lw_p14, List.forall_mem_cons.mpr ⟨lw_p15, fun _ h => absurd h List.not_mem_nil⟩⟩⟩⟩⟩⟩⟩⟩⟩⟩⟩⟩⟩⟩⟩⟩
theorem lw_p16 : lw_okq (⟨"TopSheet", "fits", "(LTopSheet$Row;III)Z"⟩, 10) := ⟨⟨by decide +kernel, by decide +kernel⟩, List.mem_of_getElem? (i := 19) (by decide +kernel), List.mem_of_getElem? (i := 681) (by decide +kernel), List.mem_of_getElem? (i := 682) (by decide +kernel)⟩
theorem lw_p17 : lw_okq (⟨"TopSheet$Asker", "leave", "(I)V"⟩, 2) := ⟨⟨by decide +kernel, by decide +kernel⟩, List.mem_of_getElem? (i := 203) (by decide +kernel), List.mem_of_getElem? (i := 759) (by decide +kernel), List.mem_of_getElem? (i := 760) (by decide +kernel)⟩
theorem lw_p18 : lw_okq (⟨"TopSheet", "standingRows", "()I"⟩, 10) := ⟨⟨by decide +kernel, by decide +kernel⟩, List.mem_of_getElem? (i := 19) (by decide +kernel), List.mem_of_getElem? (i := 771) (by decide +kernel), List.mem_of_getElem? (i := 772) (by decide +kernel)⟩
theorem lw_p19 : lw_okq (⟨"TopSheetModel", "finding", "(I)I"⟩, 28) := ⟨⟨by decide +kernel, by decide +kernel⟩, List.mem_of_getElem? (i := 779) (by decide +kernel), List.mem_of_getElem? (i := 884) (by decide +kernel), List.mem_of_getElem? (i := 885) (by decide +kernel)⟩
theorem lw_p20 : lw_okq (⟨"TopSheetModel", "begin", "()V"⟩, 28) := ⟨⟨by decide +kernel, by decide +kernel⟩, List.mem_of_getElem? (i := 779) (by decide +kernel), List.mem_of_getElem? (i := 912) (by decide +kernel), List.mem_of_getElem? (i := 913) (by decide +kernel)⟩
theorem lw_p21 : lw_okq (⟨"TopSheetModel", "next", "()V"⟩, 28) := ⟨⟨by decide +kernel, by decide +kernel⟩, List.mem_of_getElem? (i := 779) (by decide +kernel), List.mem_of_getElem? (i := 916) (by decide +kernel), List.mem_of_getElem? (i := 917) (by decide +kernel)⟩
theorem lw_p22 : lw_okq (⟨"TopSheetModel", "byteAt", "(I)I"⟩, 28) := ⟨⟨by decide +kernel, by decide +kernel⟩, List.mem_of_getElem? (i := 779) (by decide +kernel), List.mem_of_getElem? (i := 920) (by decide +kernel), List.mem_of_getElem? (i := 921) (by decide +kernel)⟩
theorem lw_p23 : lw_okq (⟨"TopSheetModel", "readWind", "()V"⟩, 28) := ⟨⟨by decide +kernel, by decide +kernel⟩, List.mem_of_getElem? (i := 779) (by decide +kernel), List.mem_of_getElem? (i := 931) (by decide +kernel), List.mem_of_getElem? (i := 932) (by decide +kernel)⟩
theorem lw_p24 : lw_okq (⟨"TopSheetModel", "name", "()J"⟩, 28) := ⟨⟨by decide +kernel, by decide +kernel⟩, List.mem_of_getElem? (i := 779) (by decide +kernel), List.mem_of_getElem? (i := 935) (by decide +kernel), List.mem_of_getElem? (i := 936) (by decide +kernel)⟩
theorem lw_p25 : lw_okq (⟨"TopSheetModel", "must", "(Z)V"⟩, 28) := ⟨⟨by decide +kernel, by decide +kernel⟩, List.mem_of_getElem? (i := 779) (by decide +kernel), List.mem_of_getElem? (i := 940) (by decide +kernel), List.mem_of_getElem? (i := 941) (by decide +kernel)⟩
theorem lw_p26 : lw_okq (⟨"TopSheetModel", "bad", "(I)V"⟩, 28) := ⟨⟨by decide +kernel, by decide +kernel⟩, List.mem_of_getElem? (i := 779) (by decide +kernel), List.mem_of_getElem? (i := 944) (by decide +kernel), List.mem_of_getElem? (i := 945) (by decide +kernel)⟩
theorem lw_p27 : lw_okq (⟨"TopSheetModel", "number", "(II)I"⟩, 28) := ⟨⟨by decide +kernel, by decide +kernel⟩, List.mem_of_getElem? (i := 779) (by decide +kernel), List.mem_of_getElem? (i := 948) (by decide +kernel), List.mem_of_getElem? (i := 949) (by decide +kernel)⟩
theorem lw_p28 : lw_okq (⟨"TopSheetModel", "figures", "()I"⟩, 28) := ⟨⟨by decide +kernel, by decide +kernel⟩, List.mem_of_getElem? (i := 779) (by decide +kernel), List.mem_of_getElem? (i := 952) (by decide +kernel), List.mem_of_getElem? (i := 953) (by decide +kernel)⟩
theorem lw_p29 : lw_okq (⟨"TopSheetModel", "mustEnd", "()V"⟩, 28) := ⟨⟨by decide +kernel, by decide +kernel⟩, List.mem_of_getElem? (i := 779) (by decide +kernel), List.mem_of_getElem? (i := 956) (by decide +kernel), List.mem_of_getElem? (i := 957) (by decide +kernel)⟩
theorem lw_p30 : lw_okq (⟨"TopSheetModel", "readDesk", "()V"⟩, 28) := ⟨⟨by decide +kernel, by decide +kernel⟩, List.mem_of_getElem? (i := 779) (by decide +kernel), List.mem_of_getElem? (i := 961) (by decide +kernel), List.mem_of_getElem? (i := 962) (by decide +kernel)⟩
theorem lw_p31 : lw_okq (⟨"TopSheetModel", "begins", "(II)V"⟩, 28) := ⟨⟨by decide +kernel, by decide +kernel⟩, List.mem_of_getElem? (i := 779) (by decide +kernel), List.mem_of_getElem? (i := 965) (by decide +kernel), List.mem_of_getElem? (i := 966) (by decide +kernel)⟩
def lw_privs_2 : List (MethodName × Nat) := [(⟨"TopSheet", "fits", "(LTopSheet$Row;III)Z"⟩, 10), (⟨"TopSheet$Asker", "leave", "(I)V"⟩, 2), (⟨"TopSheet", "standingRows", "()I"⟩, 10), (⟨"TopSheetModel", "finding", "(I)I"⟩, 28), (⟨"TopSheetModel", "begin", "()V"⟩, 28), (⟨"TopSheetModel", "next", "()V"⟩, 28), (⟨"TopSheetModel", "byteAt", "(I)I"⟩, 28), (⟨"TopSheetModel", "readWind", "()V"⟩, 28), (⟨"TopSheetModel", "name", "()J"⟩, 28), (⟨"TopSheetModel", "must", "(Z)V"⟩, 28), (⟨"TopSheetModel", "bad", "(I)V"⟩, 28), (⟨"TopSheetModel", "number", "(II)I"⟩, 28), (⟨"TopSheetModel", "figures", "()I"⟩, 28), (⟨"TopSheetModel", "mustEnd", "()V"⟩, 28), (⟨"TopSheetModel", "readDesk", "()V"⟩, 28), (⟨"TopSheetModel", "begins", "(II)V"⟩, 28)]
theorem lw_r2 : ∀ q ∈ lw_privs_2, lw_okq q := List.forall_mem_cons.mpr ⟨lw_p16, List.forall_mem_cons.mpr ⟨lw_p17, List.forall_mem_cons.mpr ⟨lw_p18, List.forall_mem_cons.mpr ⟨lw_p19, List.forall_mem_cons.mpr ⟨lw_p20, List.forall_mem_cons.mpr ⟨lw_p21, List.forall_mem_cons.mpr ⟨lw_p22, List.forall_mem_cons.mpr ⟨lw_p23, List.forall_mem_cons.mpr ⟨lw_p24, List.forall_mem_cons.mpr ⟨lw_p25, List.forall_mem_cons.mpr ⟨lw_p26, List.forall_mem_cons.mpr ⟨lw_p27, List.forall_mem_cons.mpr ⟨lw_p28, List.forall_mem_cons.mpr ⟨lw_p29, List.forall_mem_cons.mpr ⟨lw_p30, List.forall_mem_cons.mpr ⟨lw_p31, fun _ h => absurd h List.not_mem_nil⟩⟩⟩⟩⟩⟩⟩⟩⟩⟩⟩⟩⟩⟩⟩⟩
theorem lw_p32 : lw_okq (⟨"TopSheetModel", "readSheet", "()V"⟩, 28) := ⟨⟨by decide +kernel, by decide +kernel⟩, List.mem_of_getElem? (i := 779) (by decide +kernel), List.mem_of_getElem? (i := 970) (by decide +kernel), List.mem_of_getElem? (i := 971) (by decide +kernel)⟩
theorem lw_p33 : lw_okq (⟨"TopSheetModel", "isSheet", "(I)Z"⟩, 28) := ⟨⟨by decide +kernel, by decide +kernel⟩, List.mem_of_getElem? (i := 779) (by decide +kernel), List.mem_of_getElem? (i := 991) (by decide +kernel), List.mem_of_getElem? (i := 992) (by decide +kernel)⟩
theorem lw_p34 : lw_okq (⟨"TopSheetModel", "deskOf", "(I)I"⟩, 28) := ⟨⟨by decide +kernel, by decide +kernel⟩, List.mem_of_getElem? (i := 779) (by decide +kernel), List.mem_of_getElem? (i := 995) (by decide +kernel), List.mem_of_getElem? (i := 996) (by decide +kernel)⟩
theorem lw_p35 : lw_okq (⟨"TopSheetModel", "manyOn", "(I)I"⟩, 28) := ⟨⟨by decide +kernel, by decide +kernel⟩, List.mem_of_getElem? (i := 779) (by decide +kernel), List.mem_of_getElem? (i := 999) (by decide +kernel), List.mem_of_getElem? (i := 1000) (by decide +kernel)⟩
theorem lw_p36 : lw_okq (⟨"TopSheetModel", "lies", "(II)I"⟩, 28) := ⟨⟨by decide +kernel, by decide +kernel⟩, List.mem_of_getElem? (i := 779) (by decide +kernel), List.mem_of_getElem? (i := 1003) (by decide +kernel), List.mem_of_getElem? (i := 1004) (by decide +kernel)⟩
theorem lw_p37 : lw_okq (⟨"TopSheetModel", "keep", "()V"⟩, 28) := ⟨⟨by decide +kernel, by decide +kernel⟩, List.mem_of_getElem? (i := 779) (by decide +kernel), List.mem_of_getElem? (i := 1008) (by decide +kernel), List.mem_of_getElem? (i := 1009) (by decide +kernel)⟩
theorem lw_p38 : lw_okq (⟨"TopSheetModel", "placeOf", "(II)I"⟩, 28) := ⟨⟨by decide +kernel, by decide +kernel⟩, List.mem_of_getElem? (i := 779) (by decide +kernel), List.mem_of_getElem? (i := 1012) (by decide +kernel), List.mem_of_getElem? (i := 1013) (by decide +kernel)⟩
theorem lw_p39 : lw_okq (⟨"TopSheetModel", "leaves", "(II)V"⟩, 28) := ⟨⟨by decide +kernel, by decide +kernel⟩, List.mem_of_getElem? (i := 779) (by decide +kernel), List.mem_of_getElem? (i := 1016) (by decide +kernel), List.mem_of_getElem? (i := 1017) (by decide +kernel)⟩
theorem lw_p40 : lw_okq (⟨"TopSheetModel", "comes", "(II)V"⟩, 28) := ⟨⟨by decide +kernel, by decide +kernel⟩, List.mem_of_getElem? (i := 779) (by decide +kernel), List.mem_of_getElem? (i := 1020) (by decide +kernel), List.mem_of_getElem? (i := 1021) (by decide +kernel)⟩
theorem lw_p41 : lw_okq (⟨"TopSheetModel", "of", "(II)I"⟩, 28) := ⟨⟨by decide +kernel, by decide +kernel⟩, List.mem_of_getElem? (i := 779) (by decide +kernel), List.mem_of_getElem? (i := 1024) (by decide +kernel), List.mem_of_getElem? (i := 1025) (by decide +kernel)⟩
theorem lw_p42 : lw_okq (⟨"TopSheetModel", "isDesk", "(I)Z"⟩, 28) := ⟨⟨by decide +kernel, by decide +kernel⟩, List.mem_of_getElem? (i := 779) (by decide +kernel), List.mem_of_getElem? (i := 1032) (by decide +kernel), List.mem_of_getElem? (i := 1033) (by decide +kernel)⟩
theorem lw_p43 : lw_okq (⟨"TopSheetModel", "hasRoom", "(I)Z"⟩, 28) := ⟨⟨by decide +kernel, by decide +kernel⟩, List.mem_of_getElem? (i := 779) (by decide +kernel), List.mem_of_getElem? (i := 1036) (by decide +kernel), List.mem_of_getElem? (i := 1037) (by decide +kernel)⟩
theorem lw_p44 : lw_okq (⟨"TopSheetModel", "layLeft", "()V"⟩, 28) := ⟨⟨by decide +kernel, by decide +kernel⟩, List.mem_of_getElem? (i := 779) (by decide +kernel), List.mem_of_getElem? (i := 1052) (by decide +kernel), List.mem_of_getElem? (i := 1053) (by decide +kernel)⟩
theorem lw_p45 : lw_okq (⟨"TopSheetModel", "gust", "()I"⟩, 28) := ⟨⟨by decide +kernel, by decide +kernel⟩, List.mem_of_getElem? (i := 779) (by decide +kernel), List.mem_of_getElem? (i := 1056) (by decide +kernel), List.mem_of_getElem? (i := 1057) (by decide +kernel)⟩
theorem lw_p46 : lw_okq (⟨"TopSheetModel", "topOf", "(I)I"⟩, 28) := ⟨⟨by decide +kernel, by decide +kernel⟩, List.mem_of_getElem? (i := 779) (by decide +kernel), List.mem_of_getElem? (i := 1060) (by decide +kernel), List.mem_of_getElem? (i := 1061) (by decide +kernel)⟩
theorem lw_p47 : lw_okq (⟨"TopSheetModel", "isMissed", "(I)Z"⟩, 28) := ⟨⟨by decide +kernel, by decide +kernel⟩, List.mem_of_getElem? (i := 779) (by decide +kernel), List.mem_of_getElem? (i := 1073) (by decide +kernel), List.mem_of_getElem? (i := 1074) (by decide +kernel)⟩
def lw_privs_3 : List (MethodName × Nat) := [(⟨"TopSheetModel", "readSheet", "()V"⟩, 28), (⟨"TopSheetModel", "isSheet", "(I)Z"⟩, 28), (⟨"TopSheetModel", "deskOf", "(I)I"⟩, 28), (⟨"TopSheetModel", "manyOn", "(I)I"⟩, 28), (⟨"TopSheetModel", "lies", "(II)I"⟩, 28), (⟨"TopSheetModel", "keep", "()V"⟩, 28), (⟨"TopSheetModel", "placeOf", "(II)I"⟩, 28), (⟨"TopSheetModel", "leaves", "(II)V"⟩, 28), (⟨"TopSheetModel", "comes", "(II)V"⟩, 28), (⟨"TopSheetModel", "of", "(II)I"⟩, 28), (⟨"TopSheetModel", "isDesk", "(I)Z"⟩, 28), (⟨"TopSheetModel", "hasRoom", "(I)Z"⟩, 28), (⟨"TopSheetModel", "layLeft", "()V"⟩, 28), (⟨"TopSheetModel", "gust", "()I"⟩, 28), (⟨"TopSheetModel", "topOf", "(I)I"⟩, 28), (⟨"TopSheetModel", "isMissed", "(I)Z"⟩, 28)]
theorem lw_r3 : ∀ q ∈ lw_privs_3, lw_okq q := List.forall_mem_cons.mpr ⟨lw_p32, List.forall_mem_cons.mpr ⟨lw_p33, List.forall_mem_cons.mpr ⟨lw_p34, List.forall_mem_cons.mpr ⟨lw_p35, List.forall_mem_cons.mpr ⟨lw_p36, List.forall_mem_cons.mpr ⟨lw_p37, List.forall_mem_cons.mpr ⟨lw_p38, List.forall_mem_cons.mpr ⟨lw_p39, List.forall_mem_cons.mpr ⟨lw_p40, List.forall_mem_cons.mpr ⟨lw_p41, List.forall_mem_cons.mpr ⟨lw_p42, List.forall_mem_cons.mpr ⟨lw_p43, List.forall_mem_cons.mpr ⟨lw_p44, List.forall_mem_cons.mpr ⟨lw_p45, List.forall_mem_cons.mpr ⟨lw_p46, List.forall_mem_cons.mpr ⟨lw_p47, fun _ h => absurd h List.not_mem_nil⟩⟩⟩⟩⟩⟩⟩⟩⟩⟩⟩⟩⟩⟩⟩⟩
theorem lw_p48 : lw_okq (⟨"TopSheetModel", "takenBy", "(I)I"⟩, 28) := ⟨⟨by decide +kernel, by decide +kernel⟩, List.mem_of_getElem? (i := 779) (by decide +kernel), List.mem_of_getElem? (i := 1086) (by decide +kernel), List.mem_of_getElem? (i := 1087) (by decide +kernel)⟩
theorem lw_p49 : lw_okq (⟨"TopSheetModel", "worthOf", "(I)I"⟩, 28) := ⟨⟨by decide +kernel, by decide +kernel⟩, List.mem_of_getElem? (i := 779) (by decide +kernel), List.mem_of_getElem? (i := 1090) (by decide +kernel), List.mem_of_getElem? (i := 1091) (by decide +kernel)⟩
theorem lw_p50 : lw_okq (⟨"TopSheetModel", "layFirst", "(I)V"⟩, 28) := ⟨⟨by decide +kernel, by decide +kernel⟩, List.mem_of_getElem? (i := 779) (by decide +kernel), List.mem_of_getElem? (i := 1103) (by decide +kernel), List.mem_of_getElem? (i := 1104) (by decide +kernel)⟩
theorem lw_p51 : lw_okq (⟨"TopSheetModel", "lostBy", "(III)I"⟩, 28) := ⟨⟨by decide +kernel, by decide +kernel⟩, List.mem_of_getElem? (i := 779) (by decide +kernel), List.mem_of_getElem? (i := 1107) (by decide +kernel), List.mem_of_getElem? (i := 1108) (by decide +kernel)⟩
theorem lw_p52 : lw_okq (⟨"TopSheetModel", "nextOrder", "(I)Z"⟩, 28) := ⟨⟨by decide +kernel, by decide +kernel⟩, List.mem_of_getElem? (i := 779) (by decide +kernel), List.mem_of_getElem? (i := 1111) (by decide +kernel), List.mem_of_getElem? (i := 1112) (by decide +kernel)⟩
theorem lw_p53 : lw_okq (⟨"TopSheetModel", "isCovered", "(III)Z"⟩, 28) := ⟨⟨by decide +kernel, by decide +kernel⟩, List.mem_of_getElem? (i := 779) (by decide +kernel), List.mem_of_getElem? (i := 1119) (by decide +kernel), List.mem_of_getElem? (i := 1120) (by decide +kernel)⟩
theorem lw_p54 : lw_okq (⟨"TopSheetModel", "lostOn", "(II)I"⟩, 28) := ⟨⟨by decide +kernel, by decide +kernel⟩, List.mem_of_getElem? (i := 779) (by decide +kernel), List.mem_of_getElem? (i := 1127) (by decide +kernel), List.mem_of_getElem? (i := 1128) (by decide +kernel)⟩
theorem lw_p55 : lw_okq (⟨"TopSheetModel", "leastOn", "(I)I"⟩, 28) := ⟨⟨by decide +kernel, by decide +kernel⟩, List.mem_of_getElem? (i := 779) (by decide +kernel), List.mem_of_getElem? (i := 1131) (by decide +kernel), List.mem_of_getElem? (i := 1132) (by decide +kernel)⟩
theorem lw_p56 : lw_okq (⟨"TopSheetModel", "sizeOf", "(I)I"⟩, 28) := ⟨⟨by decide +kernel, by decide +kernel⟩, List.mem_of_getElem? (i := 779) (by decide +kernel), List.mem_of_getElem? (i := 1171) (by decide +kernel), List.mem_of_getElem? (i := 1172) (by decide +kernel)⟩
theorem lw_p57 : lw_okq (⟨"TopSheetModel", "slateSize", "(I)I"⟩, 28) := ⟨⟨by decide +kernel, by decide +kernel⟩, List.mem_of_getElem? (i := 779) (by decide +kernel), List.mem_of_getElem? (i := 1175) (by decide +kernel), List.mem_of_getElem? (i := 1176) (by decide +kernel)⟩
theorem lw_p58 : lw_okq (⟨"TopSheetModel", "began", "(I)V"⟩, 28) := ⟨⟨by decide +kernel, by decide +kernel⟩, List.mem_of_getElem? (i := 779) (by decide +kernel), List.mem_of_getElem? (i := 1179) (by decide +kernel), List.mem_of_getElem? (i := 1180) (by decide +kernel)⟩
theorem lw_p59 : lw_okq (⟨"TopSheetModel", "plainSize", "(I)I"⟩, 28) := ⟨⟨by decide +kernel, by decide +kernel⟩, List.mem_of_getElem? (i := 779) (by decide +kernel), List.mem_of_getElem? (i := 1183) (by decide +kernel), List.mem_of_getElem? (i := 1184) (by decide +kernel)⟩
theorem lw_p60 : lw_okq (⟨"TopSheetModel", "markOf", "(I)I"⟩, 28) := ⟨⟨by decide +kernel, by decide +kernel⟩, List.mem_of_getElem? (i := 779) (by decide +kernel), List.mem_of_getElem? (i := 1187) (by decide +kernel), List.mem_of_getElem? (i := 1188) (by decide +kernel)⟩
def lw_privs_4 : List (MethodName × Nat) := [(⟨"TopSheetModel", "takenBy", "(I)I"⟩, 28), (⟨"TopSheetModel", "worthOf", "(I)I"⟩, 28), (⟨"TopSheetModel", "layFirst", "(I)V"⟩, 28), (⟨"TopSheetModel", "lostBy", "(III)I"⟩, 28), (⟨"TopSheetModel", "nextOrder", "(I)Z"⟩, 28), (⟨"TopSheetModel", "isCovered", "(III)Z"⟩, 28), (⟨"TopSheetModel", "lostOn", "(II)I"⟩, 28), (⟨"TopSheetModel", "leastOn", "(I)I"⟩, 28), (⟨"TopSheetModel", "sizeOf", "(I)I"⟩, 28), (⟨"TopSheetModel", "slateSize", "(I)I"⟩, 28), (⟨"TopSheetModel", "began", "(I)V"⟩, 28), (⟨"TopSheetModel", "plainSize", "(I)I"⟩, 28), (⟨"TopSheetModel", "markOf", "(I)I"⟩, 28)]
theorem lw_r4 : ∀ q ∈ lw_privs_4, lw_okq q := List.forall_mem_cons.mpr ⟨lw_p48, List.forall_mem_cons.mpr ⟨lw_p49, List.forall_mem_cons.mpr ⟨lw_p50, List.forall_mem_cons.mpr ⟨lw_p51, List.forall_mem_cons.mpr ⟨lw_p52, List.forall_mem_cons.mpr ⟨lw_p53, List.forall_mem_cons.mpr ⟨lw_p54, List.forall_mem_cons.mpr ⟨lw_p55, List.forall_mem_cons.mpr ⟨lw_p56, List.forall_mem_cons.mpr ⟨lw_p57, List.forall_mem_cons.mpr ⟨lw_p58, List.forall_mem_cons.mpr ⟨lw_p59, List.forall_mem_cons.mpr ⟨lw_p60, fun _ h => absurd h List.not_mem_nil⟩⟩⟩⟩⟩⟩⟩⟩⟩⟩⟩⟩⟩
def lw_privs : List (MethodName × Nat) := lw_privs_1 ++ (lw_privs_2 ++ (lw_privs_3 ++ (lw_privs_4)))
def lw_tbl : List Cond := k2_sels lw_privs ++ tables_1
theorem lw_privs_ok : ∀ q ∈ lw_privs, lw_okq q := by
  show ∀ q ∈ lw_privs_1 ++ (lw_privs_2 ++ (lw_privs_3 ++ (lw_privs_4))), lw_okq q
  exact List.forall_mem_append.mpr ⟨lw_r1, List.forall_mem_append.mpr ⟨lw_r2, List.forall_mem_append.mpr ⟨lw_r3, lw_r4⟩⟩⟩
/-! ===== BEGIN words of one list among another's, by their places ===== -/
/-! ===== END ===== -/

/-! ===== BEGIN printed: names, fields, word lists, decode rows ===== -/
def RX0 : String := "TopSheet$Acts"
def TX0 : u_T := fun k => match k with
  | 0 => ("TopSheet$Acts", "before", "[LTopSheet$Office;", true)
  | 1 => ("TopSheet$Acts", "oldest", "I", false)
  | _ => ("TopSheet$Acts", "kept", "I", false)
def tyX0 : Nat → FieldType := fun k => match k with
  | 0 => .array (.object "TopSheet$Office")
  | 1 => .int
  | _ => .int
abbrev wsX00 : List Cond := u_ws RX0 TX0 3
theorem nmX0 : ∀ a, a < 3 → ∀ b, b < 3 → a ≠ b → (TX0 a).2.1 ≠ (TX0 b).2.1 := by decide +kernel
theorem tyX0_ok : ∀ k, k < 3 → parseFieldDescriptor (TX0 k).2.2.1 = some (tyX0 k) := by decide +kernel
abbrev cX0_init : ByteArray := prog_2_method_1_code
def yX0_init : MethodName := ⟨RX0, "<init>", "()V"⟩
abbrev cX0_keep : ByteArray := prog_2_method_2_code
def yX0_keep : MethodName := ⟨RX0, "keep", "(LTopSheet$Office;)V"⟩
abbrev cX0_takeBack : ByteArray := prog_2_method_3_code
def yX0_takeBack : MethodName := ⟨RX0, "takeBack", "(LTopSheet$Office;)V"⟩
abbrev cX0_forget : ByteArray := prog_2_method_4_code
def yX0_forget : MethodName := ⟨RX0, "forget", "()V"⟩
def RX1 : String := "TopSheet$Asker"
def TX1 : u_T := fun k => match k with
  | 0 => ("TopSheet$Asker", "bodies", "[I", true)
  | _ => ("TopSheet$Asker", "left", "I", false)
def tyX1 : Nat → FieldType := fun k => match k with
  | 0 => .array .int
  | _ => .int
abbrev wsX10 : List Cond := u_ws RX1 TX1 2
theorem nmX1 : ∀ a, a < 2 → ∀ b, b < 2 → a ≠ b → (TX1 a).2.1 ≠ (TX1 b).2.1 := by decide +kernel
theorem tyX1_ok : ∀ k, k < 2 → parseFieldDescriptor (TX1 k).2.2.1 = some (tyX1 k) := by decide +kernel
abbrev cX1_init : ByteArray := prog_3_method_1_code
def yX1_init : MethodName := ⟨RX1, "<init>", "()V"⟩
abbrev cX1_isKind : ByteArray := prog_3_method_2_code
def yX1_isKind : MethodName := ⟨RX1, "isKind", "(I)Z"⟩
abbrev cX1_isOneOf : ByteArray := prog_3_method_3_code
def yX1_isOneOf : MethodName := ⟨RX1, "isOneOf", "(II)Z"⟩
abbrev cX1_begin : ByteArray := prog_3_method_4_code
def yX1_begin : MethodName := ⟨RX1, "begin", "(LTopSheet$Office;II)I"⟩
abbrev cX1_bodyFor : ByteArray := prog_3_method_5_code
def yX1_bodyFor : MethodName := ⟨RX1, "bodyFor", "(LTopSheet$Office;II)I"⟩
abbrev cX1_leave : ByteArray := prog_3_method_6_code
def yX1_leave : MethodName := ⟨RX1, "leave", "(I)V"⟩
abbrev cX1_gives : ByteArray := prog_3_method_7_code
def yX1_gives : MethodName := ⟨RX1, "gives", "(LTopSheet$Asker;LTopSheet$Office;III)I"⟩
def RX2 : String := "TopSheet$Means"
def TX2 : u_T := fun k => match k with
  | 0 => ("TopSheet$Means", "cases", "[J", true)
  | 1 => ("TopSheet$Means", "numerator", "I", false)
  | _ => ("TopSheet$Means", "denominator", "I", false)
def tyX2 : Nat → FieldType := fun k => match k with
  | 0 => .array .long
  | 1 => .int
  | _ => .int
abbrev wsX20 : List Cond := u_ws RX2 TX2 3
theorem nmX2 : ∀ a, a < 3 → ∀ b, b < 3 → a ≠ b → (TX2 a).2.1 ≠ (TX2 b).2.1 := by decide +kernel
theorem tyX2_ok : ∀ k, k < 3 → parseFieldDescriptor (TX2 k).2.2.1 = some (tyX2 k) := by decide +kernel
abbrev cX2_init : ByteArray := prog_4_method_1_code
def yX2_init : MethodName := ⟨RX2, "<init>", "()V"⟩
abbrev cX2_foresee : ByteArray := prog_4_method_2_code
def yX2_foresee : MethodName := ⟨RX2, "foresee", "(LTopSheet$Office;I)V"⟩
abbrev cX2_weigh : ByteArray := prog_4_method_3_code
def yX2_weigh : MethodName := ⟨RX2, "weigh", "(LTopSheet$Office;I)V"⟩
abbrev cX2_commonDivisor : ByteArray := prog_4_method_4_code
def yX2_commonDivisor : MethodName := ⟨RX2, "commonDivisor", "(JJ)J"⟩
def RX3 : String := "TopSheet$Office"
def TX3 : u_T := fun k => match k with
  | 0 => ("TopSheet$Office", "wind", "[I", true)
  | 1 => ("TopSheet$Office", "room", "[I", true)
  | 2 => ("TopSheet$Office", "stones", "[I", true)
  | 3 => ("TopSheet$Office", "height", "[I", true)
  | 4 => ("TopSheet$Office", "piles", "[I", true)
  | 5 => ("TopSheet$Office", "sort", "[I", true)
  | 6 => ("TopSheet$Office", "worth", "[I", true)
  | 7 => ("TopSheet$Office", "need", "[I", true)
  | 8 => ("TopSheet$Office", "desks", "I", false)
  | 9 => ("TopSheet$Office", "sheets", "I", false)
  | 10 => ("TopSheet$Office", "quarter", "I", false)
  | _ => ("TopSheet$Office", "met", "I", false)
def tyX3 : Nat → FieldType := fun k => match k with
  | 0 => .array .int
  | 1 => .array .int
  | 2 => .array .int
  | 3 => .array .int
  | 4 => .array .int
  | 5 => .array .int
  | 6 => .array .int
  | 7 => .array .int
  | 8 => .int
  | 9 => .int
  | 10 => .int
  | _ => .int
abbrev wsX30 : List Cond := u_ws RX3 TX3 12
theorem nmX3 : ∀ a, a < 12 → ∀ b, b < 12 → a ≠ b → (TX3 a).2.1 ≠ (TX3 b).2.1 := by decide +kernel
theorem tyX3_ok : ∀ k, k < 12 → parseFieldDescriptor (TX3 k).2.2.1 = some (tyX3 k) := by decide +kernel
abbrev cX3_init : ByteArray := prog_5_method_1_code
def yX3_init : MethodName := ⟨RX3, "<init>", "()V"⟩
abbrev cX3_clear : ByteArray := prog_5_method_2_code
def yX3_clear : MethodName := ⟨RX3, "clear", "()V"⟩
abbrev cX3_takeOver : ByteArray := prog_5_method_3_code
def yX3_takeOver : MethodName := ⟨RX3, "takeOver", "(LTopSheet$Office;)V"⟩
abbrev cX3_isThere : ByteArray := prog_5_method_4_code
def yX3_isThere : MethodName := ⟨RX3, "isThere", "()Z"⟩
abbrev cX3_hasDesk : ByteArray := prog_5_method_5_code
def yX3_hasDesk : MethodName := ⟨RX3, "hasDesk", "(I)Z"⟩
abbrev cX3_hasSheet : ByteArray := prog_5_method_6_code
def yX3_hasSheet : MethodName := ⟨RX3, "hasSheet", "(I)Z"⟩
abbrev cX3_hasRoom : ByteArray := prog_5_method_7_code
def yX3_hasRoom : MethodName := ⟨RX3, "hasRoom", "(I)Z"⟩
abbrev cX3_furnish : ByteArray := prog_5_method_8_code
def yX3_furnish : MethodName := ⟨RX3, "furnish", "(II)V"⟩
abbrev cX3_bring : ByteArray := prog_5_method_9_code
def yX3_bring : MethodName := ⟨RX3, "bring", "(IIII)I"⟩
abbrev cX3_at : ByteArray := prog_5_method_10_code
def yX3_at : MethodName := ⟨RX3, "at", "(II)I"⟩
abbrev cX3_putOn : ByteArray := prog_5_method_11_code
def yX3_putOn : MethodName := ⟨RX3, "putOn", "(II)V"⟩
abbrev cX3_takeOff : ByteArray := prog_5_method_12_code
def yX3_takeOff : MethodName := ⟨RX3, "takeOff", "(I)V"⟩
abbrev cX3_deskOf : ByteArray := prog_5_method_13_code
def yX3_deskOf : MethodName := ⟨RX3, "deskOf", "(I)I"⟩
abbrev cX3_above : ByteArray := prog_5_method_14_code
def yX3_above : MethodName := ⟨RX3, "above", "(I)I"⟩
abbrev cX3_setOn : ByteArray := prog_5_method_15_code
def yX3_setOn : MethodName := ⟨RX3, "setOn", "(I)I"⟩
abbrev cX3_isGone : ByteArray := prog_5_method_16_code
def yX3_isGone : MethodName := ⟨RX3, "isGone", "(I)Z"⟩
abbrev cX3_isMet : ByteArray := prog_5_method_17_code
def yX3_isMet : MethodName := ⟨RX3, "isMet", "(I)Z"⟩
abbrev cX3_isMissed : ByteArray := prog_5_method_18_code
def yX3_isMissed : MethodName := ⟨RX3, "isMissed", "(I)Z"⟩
abbrev cX3_missedSet : ByteArray := prog_5_method_19_code
def yX3_missedSet : MethodName := ⟨RX3, "missedSet", "()I"⟩
abbrev cX3_goneSet : ByteArray := prog_5_method_20_code
def yX3_goneSet : MethodName := ⟨RX3, "goneSet", "()I"⟩
abbrev cX3_worthOf : ByteArray := prog_5_method_21_code
def yX3_worthOf : MethodName := ⟨RX3, "worthOf", "(I)I"⟩
abbrev cX3_takenFrom : ByteArray := prog_5_method_22_code
def yX3_takenFrom : MethodName := ⟨RX3, "takenFrom", "(II)I"⟩
abbrev cX3_lostFrom : ByteArray := prog_5_method_23_code
def yX3_lostFrom : MethodName := ⟨RX3, "lostFrom", "(II)I"⟩
abbrev cX3_takenByGust : ByteArray := prog_5_method_24_code
def yX3_takenByGust : MethodName := ⟨RX3, "takenByGust", "(I)I"⟩
abbrev cX3_takenBy : ByteArray := prog_5_method_25_code
def yX3_takenBy : MethodName := ⟨RX3, "takenBy", "(I)I"⟩
abbrev cX3_blow : ByteArray := prog_5_method_26_code
def yX3_blow : MethodName := ⟨RX3, "blow", "()I"⟩
abbrev cX3_lostIfUppermost : ByteArray := prog_5_method_27_code
def yX3_lostIfUppermost : MethodName := ⟨RX3, "lostIfUppermost", "(II)I"⟩
abbrev cX3_lostThrough : ByteArray := prog_5_method_28_code
def yX3_lostThrough : MethodName := ⟨RX3, "lostThrough", "(I)I"⟩
abbrev cX3_leastOn : ByteArray := prog_5_method_29_code
def yX3_leastOn : MethodName := ⟨RX3, "leastOn", "(I)I"⟩
def RX4 : String := "TopSheet$Reader"
def TX4 : u_T := fun k => match k with
  | 0 => ("TopSheet$Reader", "tape", "LTopSheet$Tape;", true)
  | 1 => ("TopSheet$Reader", "draft", "LTopSheet$Office;", true)
  | 2 => ("TopSheet$Reader", "type", "I", false)
  | 3 => ("TopSheet$Reader", "first", "I", false)
  | 4 => ("TopSheet$Reader", "next", "I", false)
  | 5 => ("TopSheet$Reader", "value", "I", false)
  | 6 => ("TopSheet$Reader", "told", "I", false)
  | _ => ("TopSheet$Reader", "faultNumber", "I", false)
def tyX4 : Nat → FieldType := fun k => match k with
  | 0 => .object "TopSheet$Tape"
  | 1 => .object "TopSheet$Office"
  | 2 => .int
  | 3 => .int
  | 4 => .int
  | 5 => .int
  | 6 => .int
  | _ => .int
abbrev wsX40 : List Cond := u_ws RX4 TX4 8
theorem nmX4 : ∀ a, a < 8 → ∀ b, b < 8 → a ≠ b → (TX4 a).2.1 ≠ (TX4 b).2.1 := by decide +kernel
theorem tyX4_ok : ∀ k, k < 8 → parseFieldDescriptor (TX4 k).2.2.1 = some (tyX4 k) := by decide +kernel
abbrev cX4_init : ByteArray := prog_6_method_1_code
def yX4_init : MethodName := ⟨RX4, "<init>", "()V"⟩
abbrev cX4_read : ByteArray := prog_6_method_2_code
def yX4_read : MethodName := ⟨RX4, "read", "()Z"⟩
abbrev cX4_readWind : ByteArray := prog_6_method_3_code
def yX4_readWind : MethodName := ⟨RX4, "readWind", "()Z"⟩
abbrev cX4_readDesks : ByteArray := prog_6_method_4_code
def yX4_readDesks : MethodName := ⟨RX4, "readDesks", "()Z"⟩
abbrev cX4_readDesk : ByteArray := prog_6_method_5_code
def yX4_readDesk : MethodName := ⟨RX4, "readDesk", "()Z"⟩
abbrev cX4_readSheets : ByteArray := prog_6_method_6_code
def yX4_readSheets : MethodName := ⟨RX4, "readSheets", "()Z"⟩
abbrev cX4_readSheet : ByteArray := prog_6_method_7_code
def yX4_readSheet : MethodName := ⟨RX4, "readSheet", "()Z"⟩
abbrev cX4_sortTold : ByteArray := prog_6_method_8_code
def yX4_sortTold : MethodName := ⟨RX4, "sortTold", "()I"⟩
abbrev cX4_takeNumber : ByteArray := prog_6_method_9_code
def yX4_takeNumber : MethodName := ⟨RX4, "takeNumber", "(II)Z"⟩
abbrev cX4_takeSemicolon : ByteArray := prog_6_method_10_code
def yX4_takeSemicolon : MethodName := ⟨RX4, "takeSemicolon", "()Z"⟩
abbrev cX4_fail : ByteArray := prog_6_method_11_code
def yX4_fail : MethodName := ⟨RX4, "fail", "(I)Z"⟩
abbrev cX4_isWord : ByteArray := prog_6_method_12_code
def yX4_isWord : MethodName := ⟨RX4, "isWord", "(Ljava/lang/String;)Z"⟩
abbrev cX4_step : ByteArray := prog_6_method_13_code
def yX4_step : MethodName := ⟨RX4, "step", "()V"⟩
abbrev cX4_isBlank : ByteArray := prog_6_method_14_code
def yX4_isBlank : MethodName := ⟨RX4, "isBlank", "(I)Z"⟩
abbrev cX4_isLetter : ByteArray := prog_6_method_15_code
def yX4_isLetter : MethodName := ⟨RX4, "isLetter", "(I)Z"⟩
abbrev cX4_isFigure : ByteArray := prog_6_method_16_code
def yX4_isFigure : MethodName := ⟨RX4, "isFigure", "(I)Z"⟩
def RX5 : String := "TopSheet$Row"
def TX5 : u_T := fun k => match k with
  | 0 => ("TopSheet$Row", "items", "[I", true)
  | 1 => ("TopSheet$Row", "lane", "I", false)
  | _ => ("TopSheet$Row", "length", "I", false)
def tyX5 : Nat → FieldType := fun k => match k with
  | 0 => .array .int
  | 1 => .int
  | _ => .int
abbrev wsX50 : List Cond := u_ws RX5 TX5 3
theorem nmX5 : ∀ a, a < 3 → ∀ b, b < 3 → a ≠ b → (TX5 a).2.1 ≠ (TX5 b).2.1 := by decide +kernel
theorem tyX5_ok : ∀ k, k < 3 → parseFieldDescriptor (TX5 k).2.2.1 = some (tyX5 k) := by decide +kernel
abbrev cX5_init : ByteArray := prog_7_method_1_code
def yX5_init : MethodName := ⟨RX5, "<init>", "()V"⟩
abbrev cX5_isMissing : ByteArray := prog_7_method_2_code
def yX5_isMissing : MethodName := ⟨RX5, "isMissing", "()Z"⟩
abbrev cX5_begin : ByteArray := prog_7_method_3_code
def yX5_begin : MethodName := ⟨RX5, "begin", "(II)V"⟩
abbrev cX5_end : ByteArray := prog_7_method_4_code
def yX5_end : MethodName := ⟨RX5, "end", "()V"⟩
abbrev cX5_hasPlaces : ByteArray := prog_7_method_5_code
def yX5_hasPlaces : MethodName := ⟨RX5, "hasPlaces", "(II)Z"⟩
abbrev cX5_put : ByteArray := prog_7_method_6_code
def yX5_put : MethodName := ⟨RX5, "put", "(II)I"⟩
def RX6 : String := "TopSheet$Sorter"
def TX6 : u_T := fun k => match k with
  | 0 => ("TopSheet$Sorter", "line", "[I", true)
  | _ => ("TopSheet$Sorter", "lost", "I", false)
def tyX6 : Nat → FieldType := fun k => match k with
  | 0 => .array .int
  | _ => .int
abbrev wsX60 : List Cond := u_ws RX6 TX6 2
theorem nmX6 : ∀ a, a < 2 → ∀ b, b < 2 → a ≠ b → (TX6 a).2.1 ≠ (TX6 b).2.1 := by decide +kernel
theorem tyX6_ok : ∀ k, k < 2 → parseFieldDescriptor (TX6 k).2.2.1 = some (tyX6 k) := by decide +kernel
abbrev cX6_init : ByteArray := prog_8_method_1_code
def yX6_init : MethodName := ⟨RX6, "<init>", "()V"⟩
abbrev cX6_arrange : ByteArray := prog_8_method_2_code
def yX6_arrange : MethodName := ⟨RX6, "arrange", "(LTopSheet$Office;II)V"⟩
abbrev cX6_firstThatKeepsLost : ByteArray := prog_8_method_3_code
def yX6_firstThatKeepsLost : MethodName := ⟨RX6, "firstThatKeepsLost", "(LTopSheet$Office;III)I"⟩
abbrev cX6_leastLost : ByteArray := prog_8_method_4_code
def yX6_leastLost : MethodName := ⟨RX6, "leastLost", "(LTopSheet$Office;III)I"⟩
abbrev cX6_cheapest : ByteArray := prog_8_method_5_code
def yX6_cheapest : MethodName := ⟨RX6, "cheapest", "(LTopSheet$Office;I)I"⟩
def RX7 : String := "TopSheet$Tape"
def TX7 : u_T := fun k => match k with
  | 0 => ("TopSheet$Tape", "bytes", "[B", true)
  | _ => ("TopSheet$Tape", "length", "I", false)
def tyX7 : Nat → FieldType := fun k => match k with
  | 0 => .array .byte
  | _ => .int
abbrev wsX70 : List Cond := u_ws RX7 TX7 2
theorem nmX7 : ∀ a, a < 2 → ∀ b, b < 2 → a ≠ b → (TX7 a).2.1 ≠ (TX7 b).2.1 := by decide +kernel
theorem tyX7_ok : ∀ k, k < 2 → parseFieldDescriptor (TX7 k).2.2.1 = some (tyX7 k) := by decide +kernel
abbrev cX7_init : ByteArray := prog_9_method_1_code
def yX7_init : MethodName := ⟨RX7, "<init>", "()V"⟩
abbrev cX7_hasRoom : ByteArray := prog_9_method_2_code
def yX7_hasRoom : MethodName := ⟨RX7, "hasRoom", "(I)Z"⟩
abbrev cX7_join : ByteArray := prog_9_method_3_code
def yX7_join : MethodName := ⟨RX7, "join", "(JI)V"⟩
abbrev cX7_at : ByteArray := prog_9_method_4_code
def yX7_at : MethodName := ⟨RX7, "at", "(I)I"⟩
def RX8 : String := "TopSheet"
def TX8 : u_T := fun k => match k with
  | 0 => ("TopSheet", "rows", "[LTopSheet$Row;", true)
  | 1 => ("TopSheet", "reader", "LTopSheet$Reader;", true)
  | 2 => ("TopSheet", "now", "LTopSheet$Office;", true)
  | 3 => ("TopSheet", "acts", "LTopSheet$Acts;", true)
  | 4 => ("TopSheet", "images", "[LTopSheet$Office;", true)
  | 5 => ("TopSheet", "means", "LTopSheet$Means;", true)
  | 6 => ("TopSheet", "sorter", "LTopSheet$Sorter;", true)
  | 7 => ("TopSheet", "asker", "LTopSheet$Asker;", true)
  | 8 => ("TopSheet", "latestFault", "I", false)
  | _ => ("TopSheet", "latestFinding", "I", false)
def tyX8 : Nat → FieldType := fun k => match k with
  | 0 => .array (.object "TopSheet$Row")
  | 1 => .object "TopSheet$Reader"
  | 2 => .object "TopSheet$Office"
  | 3 => .object "TopSheet$Acts"
  | 4 => .array (.object "TopSheet$Office")
  | 5 => .object "TopSheet$Means"
  | 6 => .object "TopSheet$Sorter"
  | 7 => .object "TopSheet$Asker"
  | 8 => .int
  | _ => .int
abbrev wsX80 : List Cond := u_ws RX8 TX8 10
theorem nmX8 : ∀ a, a < 10 → ∀ b, b < 10 → a ≠ b → (TX8 a).2.1 ≠ (TX8 b).2.1 := by decide +kernel
theorem tyX8_ok : ∀ k, k < 10 → parseFieldDescriptor (TX8 k).2.2.1 = some (tyX8 k) := by decide +kernel
abbrev cX8_init : ByteArray := prog_1_method_1_code
def yX8_init : MethodName := ⟨RX8, "<init>", "()V"⟩
abbrev cX8_row : ByteArray := prog_1_method_2_code
def yX8_row : MethodName := ⟨RX8, "row", "(III)I"⟩
abbrev cX8_set : ByteArray := prog_1_method_3_code
def yX8_set : MethodName := ⟨RX8, "set", "(III)I"⟩
abbrev cX8_copy : ByteArray := prog_1_method_4_code
def yX8_copy : MethodName := ⟨RX8, "copy", "(IIIII)I"⟩
abbrev cX8_drop : ByteArray := prog_1_method_5_code
def yX8_drop : MethodName := ⟨RX8, "drop", "(I)I"⟩
abbrev cX8_feed : ByteArray := prog_1_method_6_code
def yX8_feed : MethodName := ⟨RX8, "feed", "(JI)I"⟩
abbrev cX8_office : ByteArray := prog_1_method_7_code
def yX8_office : MethodName := ⟨RX8, "office", "()I"⟩
abbrev cX8_fault : ByteArray := prog_1_method_8_code
def yX8_fault : MethodName := ⟨RX8, "fault", "()I"⟩
abbrev cX8_lift : ByteArray := prog_1_method_9_code
def yX8_lift : MethodName := ⟨RX8, "lift", "(I)I"⟩
abbrev cX8_lay : ByteArray := prog_1_method_10_code
def yX8_lay : MethodName := ⟨RX8, "lay", "(II)I"⟩
abbrev cX8_blank : ByteArray := prog_1_method_11_code
def yX8_blank : MethodName := ⟨RX8, "blank", "(I)I"⟩
abbrev cX8_quarter : ByteArray := prog_1_method_12_code
def yX8_quarter : MethodName := ⟨RX8, "quarter", "(I)I"⟩
abbrev cX8_undo : ByteArray := prog_1_method_13_code
def yX8_undo : MethodName := ⟨RX8, "undo", "()I"⟩
abbrev cX8_sheet : ByteArray := prog_1_method_14_code
def yX8_sheet : MethodName := ⟨RX8, "sheet", "(II)I"⟩
abbrev cX8_desk : ByteArray := prog_1_method_15_code
def yX8_desk : MethodName := ⟨RX8, "desk", "(II)I"⟩
abbrev cX8_taken : ByteArray := prog_1_method_16_code
def yX8_taken : MethodName := ⟨RX8, "taken", "(II)I"⟩
abbrev cX8_mean : ByteArray := prog_1_method_17_code
def yX8_mean : MethodName := ⟨RX8, "mean", "(II)I"⟩
abbrev cX8_order : ByteArray := prog_1_method_18_code
def yX8_order : MethodName := ⟨RX8, "order", "(III)I"⟩
abbrev cX8_cover : ByteArray := prog_1_method_19_code
def yX8_cover : MethodName := ⟨RX8, "cover", "(II)I"⟩
abbrev cX8_lend : ByteArray := prog_1_method_20_code
def yX8_lend : MethodName := ⟨RX8, "lend", "(II)I"⟩
abbrev cX8_beach : ByteArray := prog_1_method_21_code
def yX8_beach : MethodName := ⟨RX8, "beach", "(IIII)I"⟩
abbrev cX8_window : ByteArray := prog_1_method_22_code
def yX8_window : MethodName := ⟨RX8, "window", "()I"⟩
abbrev cX8_missed : ByteArray := prog_1_method_23_code
def yX8_missed : MethodName := ⟨RX8, "missed", "(I)I"⟩
abbrev cX8_image : ByteArray := prog_1_method_24_code
def yX8_image : MethodName := ⟨RX8, "image", "(I)I"⟩
abbrev cX8_restore : ByteArray := prog_1_method_25_code
def yX8_restore : MethodName := ⟨RX8, "restore", "(I)I"⟩
abbrev cX8_kind : ByteArray := prog_1_method_26_code
def yX8_kind : MethodName := ⟨RX8, "kind", "(I)I"⟩
abbrev cX8_as : ByteArray := prog_1_method_27_code
def yX8_as : MethodName := ⟨RX8, "as", "(II)I"⟩
abbrev cX8_ask : ByteArray := prog_1_method_28_code
def yX8_ask : MethodName := ⟨RX8, "ask", "(II)I"⟩
abbrev cX8_trace : ByteArray := prog_1_method_29_code
def yX8_trace : MethodName := ⟨RX8, "trace", "(I)I"⟩
abbrev cX8_count : ByteArray := prog_1_method_30_code
def yX8_count : MethodName := ⟨RX8, "count", "(I)I"⟩
abbrev cX8_status : ByteArray := prog_1_method_31_code
def yX8_status : MethodName := ⟨RX8, "status", "()I"⟩
abbrev cX8_isRow : ByteArray := prog_1_method_32_code
def yX8_isRow : MethodName := ⟨RX8, "isRow", "(I)Z"⟩
abbrev cX8_isGusts : ByteArray := prog_1_method_33_code
def yX8_isGusts : MethodName := ⟨RX8, "isGusts", "(I)Z"⟩
abbrev cX8_isImage : ByteArray := prog_1_method_34_code
def yX8_isImage : MethodName := ⟨RX8, "isImage", "(I)Z"⟩
abbrev cX8_found : ByteArray := prog_1_method_35_code
def yX8_found : MethodName := ⟨RX8, "found", "(I)I"⟩
abbrev cX8_well : ByteArray := prog_1_method_36_code
def yX8_well : MethodName := ⟨RX8, "well", "(I)I"⟩
abbrev cX8_standingRows : ByteArray := prog_1_method_37_code
def yX8_standingRows : MethodName := ⟨RX8, "standingRows", "()I"⟩
abbrev cX8_fits : ByteArray := prog_1_method_38_code
def yX8_fits : MethodName := ⟨RX8, "fits", "(LTopSheet$Row;III)Z"⟩
def RX9 : String := "TopSheetModel"
def TX9 : u_T := fun k => match k with
  | 0 => ("TopSheetModel", "thrown", "I", false)
  | 1 => ("TopSheetModel", "status", "I", false)
  | 2 => ("TopSheetModel", "lane", "[I", true)
  | 3 => ("TopSheetModel", "many", "[I", true)
  | 4 => ("TopSheetModel", "item", "[I", true)
  | 5 => ("TopSheetModel", "office", "[I", true)
  | 6 => ("TopSheetModel", "fresh", "[I", true)
  | 7 => ("TopSheetModel", "isThere", "Z", false)
  | 8 => ("TopSheetModel", "was", "[I", true)
  | 9 => ("TopSheetModel", "acts", "I", false)
  | 10 => ("TopSheetModel", "tape", "[I", true)
  | 11 => ("TopSheetModel", "taped", "I", false)
  | 12 => ("TopSheetModel", "latest", "I", false)
  | 13 => ("TopSheetModel", "length", "I", false)
  | 14 => ("TopSheetModel", "cursor", "I", false)
  | 15 => ("TopSheetModel", "token", "I", false)
  | 16 => ("TopSheetModel", "start", "I", false)
  | 17 => ("TopSheetModel", "till", "I", false)
  | 18 => ("TopSheetModel", "fault", "I", false)
  | 19 => ("TopSheetModel", "faultAt", "I", false)
  | 20 => ("TopSheetModel", "left", "[I", true)
  | 21 => ("TopSheetModel", "odds", "[J", true)
  | 22 => ("TopSheetModel", "tried", "[I", true)
  | 23 => ("TopSheetModel", "best", "[I", true)
  | 24 => ("TopSheetModel", "isKept", "[Z", true)
  | 25 => ("TopSheetModel", "kept", "[I", true)
  | 26 => ("TopSheetModel", "trace", "[I", true)
  | _ => ("TopSheetModel", "traced", "I", false)
def tyX9 : Nat → FieldType := fun k => match k with
  | 0 => .int
  | 1 => .int
  | 2 => .array .int
  | 3 => .array .int
  | 4 => .array .int
  | 5 => .array .int
  | 6 => .array .int
  | 7 => .boolean
  | 8 => .array .int
  | 9 => .int
  | 10 => .array .int
  | 11 => .int
  | 12 => .int
  | 13 => .int
  | 14 => .int
  | 15 => .int
  | 16 => .int
  | 17 => .int
  | 18 => .int
  | 19 => .int
  | 20 => .array .int
  | 21 => .array .long
  | 22 => .array .int
  | 23 => .array .int
  | 24 => .array .boolean
  | 25 => .array .int
  | 26 => .array .int
  | _ => .int
abbrev wsX90 : List Cond := u_ws RX9 TX9 28
theorem nmX9 : ∀ a, a < 28 → ∀ b, b < 28 → a ≠ b → (TX9 a).2.1 ≠ (TX9 b).2.1 := by decide +kernel
theorem tyX9_ok : ∀ k, k < 28 → parseFieldDescriptor (TX9 k).2.2.1 = some (tyX9 k) := by decide +kernel
abbrev cX9_init : ByteArray := prog_11_method_1_code
def yX9_init : MethodName := ⟨RX9, "<init>", "()V"⟩
abbrev cX9_in : ByteArray := prog_11_method_3_code
def yX9_in : MethodName := ⟨RX9, "in", "(JJJ)Z"⟩
abbrev cX9_finding : ByteArray := prog_11_method_4_code
def yX9_finding : MethodName := ⟨RX9, "finding", "(I)I"⟩
abbrev cX9_isRow : ByteArray := prog_11_method_5_code
def yX9_isRow : MethodName := ⟨RX9, "isRow", "(I)Z"⟩
abbrev cX9_row : ByteArray := prog_11_method_6_code
def yX9_row : MethodName := ⟨RX9, "row", "(III)I"⟩
abbrev cX9_set : ByteArray := prog_11_method_7_code
def yX9_set : MethodName := ⟨RX9, "set", "(III)I"⟩
abbrev cX9_copy : ByteArray := prog_11_method_8_code
def yX9_copy : MethodName := ⟨RX9, "copy", "(IIIII)I"⟩
abbrev cX9_drop : ByteArray := prog_11_method_9_code
def yX9_drop : MethodName := ⟨RX9, "drop", "(I)I"⟩
abbrev cX9_feed : ByteArray := prog_11_method_10_code
def yX9_feed : MethodName := ⟨RX9, "feed", "(JI)I"⟩
abbrev cX9_byteAt : ByteArray := prog_11_method_11_code
def yX9_byteAt : MethodName := ⟨RX9, "byteAt", "(I)I"⟩
abbrev cX9_isLetter : ByteArray := prog_11_method_12_code
def yX9_isLetter : MethodName := ⟨RX9, "isLetter", "(I)Z"⟩
abbrev cX9_isFigure : ByteArray := prog_11_method_13_code
def yX9_isFigure : MethodName := ⟨RX9, "isFigure", "(I)Z"⟩
abbrev cX9_next : ByteArray := prog_11_method_14_code
def yX9_next : MethodName := ⟨RX9, "next", "()V"⟩
abbrev cX9_begin : ByteArray := prog_11_method_15_code
def yX9_begin : MethodName := ⟨RX9, "begin", "()V"⟩
abbrev cX9_bad : ByteArray := prog_11_method_16_code
def yX9_bad : MethodName := ⟨RX9, "bad", "(I)V"⟩
abbrev cX9_must : ByteArray := prog_11_method_17_code
def yX9_must : MethodName := ⟨RX9, "must", "(Z)V"⟩
abbrev cX9_name : ByteArray := prog_11_method_18_code
def yX9_name : MethodName := ⟨RX9, "name", "()J"⟩
abbrev cX9_figures : ByteArray := prog_11_method_19_code
def yX9_figures : MethodName := ⟨RX9, "figures", "()I"⟩
abbrev cX9_number : ByteArray := prog_11_method_20_code
def yX9_number : MethodName := ⟨RX9, "number", "(II)I"⟩
abbrev cX9_kindBy : ByteArray := prog_11_method_21_code
def yX9_kindBy : MethodName := ⟨RX9, "kindBy", "(J)I"⟩
abbrev cX9_mustEnd : ByteArray := prog_11_method_22_code
def yX9_mustEnd : MethodName := ⟨RX9, "mustEnd", "()V"⟩
abbrev cX9_begins : ByteArray := prog_11_method_23_code
def yX9_begins : MethodName := ⟨RX9, "begins", "(II)V"⟩
abbrev cX9_readWind : ByteArray := prog_11_method_24_code
def yX9_readWind : MethodName := ⟨RX9, "readWind", "()V"⟩
abbrev cX9_readDesk : ByteArray := prog_11_method_25_code
def yX9_readDesk : MethodName := ⟨RX9, "readDesk", "()V"⟩
abbrev cX9_readSheet : ByteArray := prog_11_method_26_code
def yX9_readSheet : MethodName := ⟨RX9, "readSheet", "()V"⟩
abbrev cX9_office : ByteArray := prog_11_method_27_code
def yX9_office : MethodName := ⟨RX9, "office", "()I"⟩
abbrev cX9_fault : ByteArray := prog_11_method_28_code
def yX9_fault : MethodName := ⟨RX9, "fault", "()I"⟩
abbrev cX9_isDesk : ByteArray := prog_11_method_29_code
def yX9_isDesk : MethodName := ⟨RX9, "isDesk", "(I)Z"⟩
abbrev cX9_isSheet : ByteArray := prog_11_method_30_code
def yX9_isSheet : MethodName := ⟨RX9, "isSheet", "(I)Z"⟩
abbrev cX9_of : ByteArray := prog_11_method_31_code
def yX9_of : MethodName := ⟨RX9, "of", "(II)I"⟩
abbrev cX9_manyOn : ByteArray := prog_11_method_32_code
def yX9_manyOn : MethodName := ⟨RX9, "manyOn", "(I)I"⟩
abbrev cX9_lies : ByteArray := prog_11_method_33_code
def yX9_lies : MethodName := ⟨RX9, "lies", "(II)I"⟩
abbrev cX9_deskOf : ByteArray := prog_11_method_34_code
def yX9_deskOf : MethodName := ⟨RX9, "deskOf", "(I)I"⟩
abbrev cX9_placeOf : ByteArray := prog_11_method_35_code
def yX9_placeOf : MethodName := ⟨RX9, "placeOf", "(II)I"⟩
abbrev cX9_hasRoom : ByteArray := prog_11_method_36_code
def yX9_hasRoom : MethodName := ⟨RX9, "hasRoom", "(I)Z"⟩
abbrev cX9_leaves : ByteArray := prog_11_method_37_code
def yX9_leaves : MethodName := ⟨RX9, "leaves", "(II)V"⟩
abbrev cX9_comes : ByteArray := prog_11_method_38_code
def yX9_comes : MethodName := ⟨RX9, "comes", "(II)V"⟩
abbrev cX9_keep : ByteArray := prog_11_method_39_code
def yX9_keep : MethodName := ⟨RX9, "keep", "()V"⟩
abbrev cX9_lift : ByteArray := prog_11_method_40_code
def yX9_lift : MethodName := ⟨RX9, "lift", "(I)I"⟩
abbrev cX9_lay : ByteArray := prog_11_method_41_code
def yX9_lay : MethodName := ⟨RX9, "lay", "(II)I"⟩
abbrev cX9_blank : ByteArray := prog_11_method_42_code
def yX9_blank : MethodName := ⟨RX9, "blank", "(I)I"⟩
abbrev cX9_layLeft : ByteArray := prog_11_method_43_code
def yX9_layLeft : MethodName := ⟨RX9, "layLeft", "()V"⟩
abbrev cX9_topOf : ByteArray := prog_11_method_44_code
def yX9_topOf : MethodName := ⟨RX9, "topOf", "(I)I"⟩
abbrev cX9_gust : ByteArray := prog_11_method_45_code
def yX9_gust : MethodName := ⟨RX9, "gust", "()I"⟩
abbrev cX9_quarter : ByteArray := prog_11_method_46_code
def yX9_quarter : MethodName := ⟨RX9, "quarter", "(I)I"⟩
abbrev cX9_undo : ByteArray := prog_11_method_47_code
def yX9_undo : MethodName := ⟨RX9, "undo", "()I"⟩
abbrev cX9_isMissed : ByteArray := prog_11_method_48_code
def yX9_isMissed : MethodName := ⟨RX9, "isMissed", "(I)Z"⟩
abbrev cX9_sheet : ByteArray := prog_11_method_49_code
def yX9_sheet : MethodName := ⟨RX9, "sheet", "(II)I"⟩
abbrev cX9_desk : ByteArray := prog_11_method_50_code
def yX9_desk : MethodName := ⟨RX9, "desk", "(II)I"⟩
abbrev cX9_worthOf : ByteArray := prog_11_method_51_code
def yX9_worthOf : MethodName := ⟨RX9, "worthOf", "(I)I"⟩
abbrev cX9_takenBy : ByteArray := prog_11_method_52_code
def yX9_takenBy : MethodName := ⟨RX9, "takenBy", "(I)I"⟩
abbrev cX9_taken : ByteArray := prog_11_method_53_code
def yX9_taken : MethodName := ⟨RX9, "taken", "(II)I"⟩
abbrev cX9_mean : ByteArray := prog_11_method_54_code
def yX9_mean : MethodName := ⟨RX9, "mean", "(II)I"⟩
abbrev cX9_lostBy : ByteArray := prog_11_method_55_code
def yX9_lostBy : MethodName := ⟨RX9, "lostBy", "(III)I"⟩
abbrev cX9_nextOrder : ByteArray := prog_11_method_56_code
def yX9_nextOrder : MethodName := ⟨RX9, "nextOrder", "(I)Z"⟩
abbrev cX9_layFirst : ByteArray := prog_11_method_57_code
def yX9_layFirst : MethodName := ⟨RX9, "layFirst", "(I)V"⟩
abbrev cX9_order : ByteArray := prog_11_method_58_code
def yX9_order : MethodName := ⟨RX9, "order", "(III)I"⟩
abbrev cX9_isCovered : ByteArray := prog_11_method_59_code
def yX9_isCovered : MethodName := ⟨RX9, "isCovered", "(III)Z"⟩
abbrev cX9_cover : ByteArray := prog_11_method_60_code
def yX9_cover : MethodName := ⟨RX9, "cover", "(II)I"⟩
abbrev cX9_leastOn : ByteArray := prog_11_method_61_code
def yX9_leastOn : MethodName := ⟨RX9, "leastOn", "(I)I"⟩
abbrev cX9_lostOn : ByteArray := prog_11_method_62_code
def yX9_lostOn : MethodName := ⟨RX9, "lostOn", "(II)I"⟩
abbrev cX9_lend : ByteArray := prog_11_method_63_code
def yX9_lend : MethodName := ⟨RX9, "lend", "(II)I"⟩
abbrev cX9_beach : ByteArray := prog_11_method_64_code
def yX9_beach : MethodName := ⟨RX9, "beach", "(IIII)I"⟩
abbrev cX9_window : ByteArray := prog_11_method_65_code
def yX9_window : MethodName := ⟨RX9, "window", "()I"⟩
abbrev cX9_missed : ByteArray := prog_11_method_66_code
def yX9_missed : MethodName := ⟨RX9, "missed", "(I)I"⟩
abbrev cX9_image : ByteArray := prog_11_method_67_code
def yX9_image : MethodName := ⟨RX9, "image", "(I)I"⟩
abbrev cX9_restore : ByteArray := prog_11_method_68_code
def yX9_restore : MethodName := ⟨RX9, "restore", "(I)I"⟩
abbrev cX9_isOf : ByteArray := prog_11_method_69_code
def yX9_isOf : MethodName := ⟨RX9, "isOf", "(II)Z"⟩
abbrev cX9_kind : ByteArray := prog_11_method_70_code
def yX9_kind : MethodName := ⟨RX9, "kind", "(I)I"⟩
abbrev cX9_as : ByteArray := prog_11_method_71_code
def yX9_as : MethodName := ⟨RX9, "as", "(II)I"⟩
abbrev cX9_began : ByteArray := prog_11_method_72_code
def yX9_began : MethodName := ⟨RX9, "began", "(I)V"⟩
abbrev cX9_plainSize : ByteArray := prog_11_method_73_code
def yX9_plainSize : MethodName := ⟨RX9, "plainSize", "(I)I"⟩
abbrev cX9_slateSize : ByteArray := prog_11_method_74_code
def yX9_slateSize : MethodName := ⟨RX9, "slateSize", "(I)I"⟩
abbrev cX9_markOf : ByteArray := prog_11_method_75_code
def yX9_markOf : MethodName := ⟨RX9, "markOf", "(I)I"⟩
abbrev cX9_sizeOf : ByteArray := prog_11_method_76_code
def yX9_sizeOf : MethodName := ⟨RX9, "sizeOf", "(I)I"⟩
abbrev cX9_ask : ByteArray := prog_11_method_77_code
def yX9_ask : MethodName := ⟨RX9, "ask", "(II)I"⟩
abbrev cX9_trace : ByteArray := prog_11_method_78_code
def yX9_trace : MethodName := ⟨RX9, "trace", "(I)I"⟩
abbrev cX9_count : ByteArray := prog_11_method_79_code
def yX9_count : MethodName := ⟨RX9, "count", "(I)I"⟩
abbrev cX9_status : ByteArray := prog_11_method_80_code
def yX9_status : MethodName := ⟨RX9, "status", "()I"⟩
def RJ6 : String := "java/lang/Integer"
def TJ6 : u_T := fun k => match k with
  | _ => ("", "", "", false)
def tyJ6 : Nat → FieldType := fun k => match k with
  | _ => .int
abbrev wsJ60 : List Cond := u_ws RJ6 TJ6 0
theorem nmJ6 : ∀ a, a < 0 → ∀ b, b < 0 → a ≠ b → (TJ6 a).2.1 ≠ (TJ6 b).2.1 := by decide +kernel
theorem tyJ6_ok : ∀ k, k < 0 → parseFieldDescriptor (TJ6 k).2.2.1 = some (tyJ6 k) := by decide +kernel
abbrev cJ6_bitCount_0f7a4 : ByteArray := prog_12_method_49_code
def yJ6_bitCount_0f7a4 : MethodName := ⟨RJ6, "bitCount", "(I)I"⟩
def RJ9 : String := "java/lang/Math"
def TJ9 : u_T := fun k => match k with
  | _ => ("", "", "", false)
def tyJ9 : Nat → FieldType := fun k => match k with
  | _ => .int
abbrev wsJ90 : List Cond := u_ws RJ9 TJ9 0
theorem nmJ9 : ∀ a, a < 0 → ∀ b, b < 0 → a ≠ b → (TJ9 a).2.1 ≠ (TJ9 b).2.1 := by decide +kernel
theorem tyJ9_ok : ∀ k, k < 0 → parseFieldDescriptor (TJ9 k).2.2.1 = some (tyJ9 k) := by decide +kernel
abbrev cJ9_max_7cf53 : ByteArray := prog_13_method_65_code
def yJ9_max_7cf53 : MethodName := ⟨RJ9, "max", "(II)I"⟩
abbrev cJ9_min_7cf53 : ByteArray := prog_13_method_69_code
def yJ9_min_7cf53 : MethodName := ⟨RJ9, "min", "(II)I"⟩
def RJ0 : String := "java/lang/String"
def TJ0 : u_T := fun k => match k with
  | _ => ("", "", "", false)
def tyJ0 : Nat → FieldType := fun k => match k with
  | _ => .int
abbrev wsJ00 : List Cond := u_ws RJ0 TJ0 0
theorem nmJ0 : ∀ a, a < 0 → ∀ b, b < 0 → a ≠ b → (TJ0 a).2.1 ≠ (TJ0 b).2.1 := by decide +kernel
theorem tyJ0_ok : ∀ k, k < 0 → parseFieldDescriptor (TJ0 k).2.2.1 = some (tyJ0 k) := by decide +kernel
abbrev cJ0_length_8abf5 : ByteArray := prog_14_method_54_code
def yJ0_length_8abf5 : MethodName := ⟨RJ0, "length", "()I"⟩
abbrev cJ0_charAt_5068e : ByteArray := prog_14_method_56_code
def yJ0_charAt_5068e : MethodName := ⟨RJ0, "charAt", "(I)C"⟩
abbrev cJ0_coder_7d493 : ByteArray := prog_14_method_152_code
def yJ0_coder_7d493 : MethodName := ⟨RJ0, "coder", "()B"⟩
abbrev cJ0_isLatin1_aae02 : ByteArray := prog_14_method_154_code
def yJ0_isLatin1_aae02 : MethodName := ⟨RJ0, "isLatin1", "()Z"⟩
abbrev cJ0_checkIndex_df160 : ByteArray := prog_14_method_155_code
def yJ0_checkIndex_df160 : MethodName := ⟨RJ0, "checkIndex", "(II)V"⟩
def RJ1 : String := "java/lang/StringLatin1"
def TJ1 : u_T := fun k => match k with
  | _ => ("", "", "", false)
def tyJ1 : Nat → FieldType := fun k => match k with
  | _ => .int
abbrev wsJ10 : List Cond := u_ws RJ1 TJ1 0
theorem nmJ1 : ∀ a, a < 0 → ∀ b, b < 0 → a ≠ b → (TJ1 a).2.1 ≠ (TJ1 b).2.1 := by decide +kernel
theorem tyJ1_ok : ∀ k, k < 0 → parseFieldDescriptor (TJ1 k).2.2.1 = some (tyJ1 k) := by decide +kernel
abbrev cJ1_charAt_3b067 : ByteArray := prog_15_method_2_code
def yJ1_charAt_3b067 : MethodName := ⟨RJ1, "charAt", "([BI)C"⟩
def RJ2 : String := "java/lang/StringUTF16"
def TJ2 : u_T := fun k => match k with
  | _ => ("", "", "", false)
def tyJ2 : Nat → FieldType := fun k => match k with
  | _ => .int
abbrev wsJ20 : List Cond := u_ws RJ2 TJ2 0
theorem nmJ2 : ∀ a, a < 0 → ∀ b, b < 0 → a ≠ b → (TJ2 a).2.1 ≠ (TJ2 b).2.1 := by decide +kernel
theorem tyJ2_ok : ∀ k, k < 0 → parseFieldDescriptor (TJ2 k).2.2.1 = some (tyJ2 k) := by decide +kernel
abbrev cJ2_getChar_3b067 : ByteArray := prog_16_method_5_code
def yJ2_getChar_3b067 : MethodName := ⟨RJ2, "getChar", "([BI)C"⟩
abbrev cJ2_length_9d52b : ByteArray := prog_16_method_6_code
def yJ2_length_9d52b : MethodName := ⟨RJ2, "length", "([B)I"⟩
abbrev cJ2_charAt_3b067 : ByteArray := prog_16_method_83_code
def yJ2_charAt_3b067 : MethodName := ⟨RJ2, "charAt", "([BI)C"⟩
abbrev cJ2_checkIndex_2214a : ByteArray := prog_16_method_91_code
def yJ2_checkIndex_2214a : MethodName := ⟨RJ2, "checkIndex", "(I[B)V"⟩
def RJ10 : String := "java/lang/System"
def TJ10 : u_T := fun k => match k with
  | _ => ("", "", "", false)
def tyJ10 : Nat → FieldType := fun k => match k with
  | _ => .int
abbrev wsJ100 : List Cond := u_ws RJ10 TJ10 0
theorem nmJ10 : ∀ a, a < 0 → ∀ b, b < 0 → a ≠ b → (TJ10 a).2.1 ≠ (TJ10 b).2.1 := by decide +kernel
theorem tyJ10_ok : ∀ k, k < 0 → parseFieldDescriptor (TJ10 k).2.2.1 = some (tyJ10 k) := by decide +kernel
def RJ3 : String := "jdk/internal/util/Preconditions"
def TJ3 : u_T := fun k => match k with
  | _ => ("", "", "", false)
def tyJ3 : Nat → FieldType := fun k => match k with
  | _ => .int
abbrev wsJ30 : List Cond := u_ws RJ3 TJ3 0
theorem nmJ3 : ∀ a, a < 0 → ∀ b, b < 0 → a ≠ b → (TJ3 a).2.1 ≠ (TJ3 b).2.1 := by decide +kernel
theorem tyJ3_ok : ∀ k, k < 0 → parseFieldDescriptor (TJ3 k).2.2.1 = some (tyJ3 k) := by decide +kernel
abbrev cJ3_checkIndex_8e157 : ByteArray := prog_18_method_11_code
def yJ3_checkIndex_8e157 : MethodName := ⟨RJ3, "checkIndex", "(IILjava/util/function/BiFunction;)I"⟩
def RL : String := "TopSheetLaw"
abbrev cL_law : ByteArray := code
def yL_law : MethodName := ⟨RL, "law", "([I)Z"⟩
abbrev vwCl : List vw_C := [(RX0, TX0, 3), (RX1, TX1, 2), (RX2, TX2, 3), (RX3, TX3, 12), (RX4, TX4, 8), (RX5, TX5, 3), (RX6, TX6, 2), (RX7, TX7, 2), (RX8, TX8, 10), (RX9, TX9, 28)]
end
section
theorem dX0_init_0 : decode cX0_init 0 = .ok (.aload_n 0, 1) := by decide +kernel
theorem dX0_init_1 : decode cX0_init 1 = .ok (.invokespecial 3, 3) := by decide +kernel
theorem dX0_init_4 : decode cX0_init 4 = .ok (.aload_n 0, 1) := by decide +kernel
theorem dX0_init_5 : decode cX0_init 5 = .ok (.bipush 24, 2) := by decide +kernel
theorem dX0_init_7 : decode cX0_init 7 = .ok (.anewarray 9, 3) := by decide +kernel
theorem dX0_init_10 : decode cX0_init 10 = .ok (.putfield 11, 3) := by decide +kernel
theorem dX0_init_13 : decode cX0_init 13 = .ok (.aload_n 0, 1) := by decide +kernel
theorem dX0_init_14 : decode cX0_init 14 = .ok (.iconst 0, 1) := by decide +kernel
theorem dX0_init_15 : decode cX0_init 15 = .ok (.putfield 17, 3) := by decide +kernel
theorem dX0_init_18 : decode cX0_init 18 = .ok (.aload_n 0, 1) := by decide +kernel
theorem dX0_init_19 : decode cX0_init 19 = .ok (.iconst 0, 1) := by decide +kernel
theorem dX0_init_20 : decode cX0_init 20 = .ok (.putfield 21, 3) := by decide +kernel
theorem dX0_init_23 : decode cX0_init 23 = .ok (.iconst 0, 1) := by decide +kernel
theorem dX0_init_24 : decode cX0_init 24 = .ok (.istore_n 1, 1) := by decide +kernel
theorem dX0_init_25 : decode cX0_init 25 = .ok (.iload_n 1, 1) := by decide +kernel
theorem dX0_init_26 : decode cX0_init 26 = .ok (.bipush 24, 2) := by decide +kernel
theorem dX0_init_28 : decode cX0_init 28 = .ok (.if_icmp .ge 22, 3) := by decide +kernel
theorem dX0_init_31 : decode cX0_init 31 = .ok (.aload_n 0, 1) := by decide +kernel
theorem dX0_init_32 : decode cX0_init 32 = .ok (.getfield 11, 3) := by decide +kernel
theorem dX0_init_35 : decode cX0_init 35 = .ok (.iload_n 1, 1) := by decide +kernel
theorem dX0_init_36 : decode cX0_init 36 = .ok (.new 9, 3) := by decide +kernel
theorem dX0_init_39 : decode cX0_init 39 = .ok (.dup, 1) := by decide +kernel
theorem dX0_init_40 : decode cX0_init 40 = .ok (.invokespecial 24, 3) := by decide +kernel
theorem dX0_init_43 : decode cX0_init 43 = .ok (.aastore, 1) := by decide +kernel
theorem dX0_init_44 : decode cX0_init 44 = .ok (.iinc 1 1, 3) := by decide +kernel
theorem dX0_init_47 : decode cX0_init 47 = .ok (.goto (-22), 3) := by decide +kernel
theorem dX0_init_50 : decode cX0_init 50 = .ok (.return_, 1) := by decide +kernel
theorem dX0_keep_0 : decode cX0_keep 0 = .ok (.aload_n 0, 1) := by decide +kernel
theorem dX0_keep_1 : decode cX0_keep 1 = .ok (.getfield 11, 3) := by decide +kernel
theorem dX0_keep_4 : decode cX0_keep 4 = .ok (.aload_n 0, 1) := by decide +kernel
theorem dX0_keep_5 : decode cX0_keep 5 = .ok (.getfield 17, 3) := by decide +kernel
theorem dX0_keep_8 : decode cX0_keep 8 = .ok (.aload_n 0, 1) := by decide +kernel
theorem dX0_keep_9 : decode cX0_keep 9 = .ok (.getfield 21, 3) := by decide +kernel
theorem dX0_keep_12 : decode cX0_keep 12 = .ok (.iadd, 1) := by decide +kernel
theorem dX0_keep_13 : decode cX0_keep 13 = .ok (.bipush 24, 2) := by decide +kernel
theorem dX0_keep_15 : decode cX0_keep 15 = .ok (.irem, 1) := by decide +kernel
theorem dX0_keep_16 : decode cX0_keep 16 = .ok (.aaload, 1) := by decide +kernel
theorem dX0_keep_17 : decode cX0_keep 17 = .ok (.aload_n 1, 1) := by decide +kernel
theorem dX0_keep_18 : decode cX0_keep 18 = .ok (.invokevirtual 25, 3) := by decide +kernel
theorem dX0_keep_21 : decode cX0_keep 21 = .ok (.aload_n 0, 1) := by decide +kernel
theorem dX0_keep_22 : decode cX0_keep 22 = .ok (.getfield 21, 3) := by decide +kernel
theorem dX0_keep_25 : decode cX0_keep 25 = .ok (.bipush 24, 2) := by decide +kernel
theorem dX0_keep_27 : decode cX0_keep 27 = .ok (.if_icmp .ge 16, 3) := by decide +kernel
theorem dX0_keep_30 : decode cX0_keep 30 = .ok (.aload_n 0, 1) := by decide +kernel
theorem dX0_keep_31 : decode cX0_keep 31 = .ok (.dup, 1) := by decide +kernel
theorem dX0_keep_32 : decode cX0_keep 32 = .ok (.getfield 21, 3) := by decide +kernel
theorem dX0_keep_35 : decode cX0_keep 35 = .ok (.iconst 1, 1) := by decide +kernel
theorem dX0_keep_36 : decode cX0_keep 36 = .ok (.iadd, 1) := by decide +kernel
theorem dX0_keep_37 : decode cX0_keep 37 = .ok (.putfield 21, 3) := by decide +kernel
theorem dX0_keep_40 : decode cX0_keep 40 = .ok (.goto 16, 3) := by decide +kernel
theorem dX0_keep_43 : decode cX0_keep 43 = .ok (.aload_n 0, 1) := by decide +kernel
theorem dX0_keep_44 : decode cX0_keep 44 = .ok (.aload_n 0, 1) := by decide +kernel
theorem dX0_keep_45 : decode cX0_keep 45 = .ok (.getfield 17, 3) := by decide +kernel
theorem dX0_keep_48 : decode cX0_keep 48 = .ok (.iconst 1, 1) := by decide +kernel
theorem dX0_keep_49 : decode cX0_keep 49 = .ok (.iadd, 1) := by decide +kernel
theorem dX0_keep_50 : decode cX0_keep 50 = .ok (.bipush 24, 2) := by decide +kernel
theorem dX0_keep_52 : decode cX0_keep 52 = .ok (.irem, 1) := by decide +kernel
theorem dX0_keep_53 : decode cX0_keep 53 = .ok (.putfield 17, 3) := by decide +kernel
theorem dX0_keep_56 : decode cX0_keep 56 = .ok (.return_, 1) := by decide +kernel
theorem dX0_takeBack_0 : decode cX0_takeBack 0 = .ok (.aload_n 0, 1) := by decide +kernel
theorem dX0_takeBack_1 : decode cX0_takeBack 1 = .ok (.getfield 21, 3) := by decide +kernel
theorem dX0_takeBack_4 : decode cX0_takeBack 4 = .ok (.ifCond .le 34, 3) := by decide +kernel
theorem dX0_takeBack_7 : decode cX0_takeBack 7 = .ok (.aload_n 0, 1) := by decide +kernel
theorem dX0_takeBack_8 : decode cX0_takeBack 8 = .ok (.dup, 1) := by decide +kernel
theorem dX0_takeBack_9 : decode cX0_takeBack 9 = .ok (.getfield 21, 3) := by decide +kernel
theorem dX0_takeBack_12 : decode cX0_takeBack 12 = .ok (.iconst 1, 1) := by decide +kernel
theorem dX0_takeBack_13 : decode cX0_takeBack 13 = .ok (.isub, 1) := by decide +kernel
theorem dX0_takeBack_14 : decode cX0_takeBack 14 = .ok (.putfield 21, 3) := by decide +kernel
theorem dX0_takeBack_17 : decode cX0_takeBack 17 = .ok (.aload_n 1, 1) := by decide +kernel
theorem dX0_takeBack_18 : decode cX0_takeBack 18 = .ok (.aload_n 0, 1) := by decide +kernel
theorem dX0_takeBack_19 : decode cX0_takeBack 19 = .ok (.getfield 11, 3) := by decide +kernel
theorem dX0_takeBack_22 : decode cX0_takeBack 22 = .ok (.aload_n 0, 1) := by decide +kernel
theorem dX0_takeBack_23 : decode cX0_takeBack 23 = .ok (.getfield 17, 3) := by decide +kernel
theorem dX0_takeBack_26 : decode cX0_takeBack 26 = .ok (.aload_n 0, 1) := by decide +kernel
theorem dX0_takeBack_27 : decode cX0_takeBack 27 = .ok (.getfield 21, 3) := by decide +kernel
theorem dX0_takeBack_30 : decode cX0_takeBack 30 = .ok (.iadd, 1) := by decide +kernel
theorem dX0_takeBack_31 : decode cX0_takeBack 31 = .ok (.bipush 24, 2) := by decide +kernel
theorem dX0_takeBack_33 : decode cX0_takeBack 33 = .ok (.irem, 1) := by decide +kernel
theorem dX0_takeBack_34 : decode cX0_takeBack 34 = .ok (.aaload, 1) := by decide +kernel
theorem dX0_takeBack_35 : decode cX0_takeBack 35 = .ok (.invokevirtual 25, 3) := by decide +kernel
theorem dX0_takeBack_38 : decode cX0_takeBack 38 = .ok (.return_, 1) := by decide +kernel
theorem dX0_forget_0 : decode cX0_forget 0 = .ok (.aload_n 0, 1) := by decide +kernel
theorem dX0_forget_1 : decode cX0_forget 1 = .ok (.iconst 0, 1) := by decide +kernel
theorem dX0_forget_2 : decode cX0_forget 2 = .ok (.putfield 17, 3) := by decide +kernel
theorem dX0_forget_5 : decode cX0_forget 5 = .ok (.aload_n 0, 1) := by decide +kernel
theorem dX0_forget_6 : decode cX0_forget 6 = .ok (.iconst 0, 1) := by decide +kernel
theorem dX0_forget_7 : decode cX0_forget 7 = .ok (.putfield 21, 3) := by decide +kernel
theorem dX0_forget_10 : decode cX0_forget 10 = .ok (.return_, 1) := by decide +kernel
theorem dX1_init_0 : decode cX1_init 0 = .ok (.aload_n 0, 1) := by decide +kernel
theorem dX1_init_1 : decode cX1_init 1 = .ok (.invokespecial 1, 3) := by decide +kernel
theorem dX1_init_4 : decode cX1_init 4 = .ok (.aload_n 0, 1) := by decide +kernel
theorem dX1_init_5 : decode cX1_init 5 = .ok (.bipush 16, 2) := by decide +kernel
theorem dX1_init_7 : decode cX1_init 7 = .ok (.newarray .int, 2) := by decide +kernel
theorem dX1_init_9 : decode cX1_init 9 = .ok (.putfield 9, 3) := by decide +kernel
theorem dX1_init_12 : decode cX1_init 12 = .ok (.aload_n 0, 1) := by decide +kernel
theorem dX1_init_13 : decode cX1_init 13 = .ok (.iconst 0, 1) := by decide +kernel
theorem dX1_init_14 : decode cX1_init 14 = .ok (.putfield 13, 3) := by decide +kernel
theorem dX1_init_17 : decode cX1_init 17 = .ok (.return_, 1) := by decide +kernel
theorem dX1_isKind_0 : decode cX1_isKind 0 = .ok (.iload_n 0, 1) := by decide +kernel
theorem dX1_isKind_1 : decode cX1_isKind 1 = .ok (.ifCond .lt 13, 3) := by decide +kernel
theorem dX1_isKind_4 : decode cX1_isKind 4 = .ok (.iload_n 0, 1) := by decide +kernel
theorem dX1_isKind_5 : decode cX1_isKind 5 = .ok (.bipush 6, 2) := by decide +kernel
theorem dX1_isKind_7 : decode cX1_isKind 7 = .ok (.if_icmp .ge 7, 3) := by decide +kernel
theorem dX1_isKind_10 : decode cX1_isKind 10 = .ok (.iconst 1, 1) := by decide +kernel
theorem dX1_isKind_11 : decode cX1_isKind 11 = .ok (.goto 4, 3) := by decide +kernel
theorem dX1_isKind_14 : decode cX1_isKind 14 = .ok (.iconst 0, 1) := by decide +kernel
theorem dX1_isKind_15 : decode cX1_isKind 15 = .ok (.ireturn, 1) := by decide +kernel
theorem dX1_isOneOf_0 : decode cX1_isOneOf 0 = .ok (.iload_n 0, 1) := by decide +kernel
theorem dX1_isOneOf_1 : decode cX1_isOneOf 1 = .ok (.istore_n 2, 1) := by decide +kernel
theorem dX1_isOneOf_2 : decode cX1_isOneOf 2 = .ok (.iconst 0, 1) := by decide +kernel
theorem dX1_isOneOf_3 : decode cX1_isOneOf 3 = .ok (.istore_n 3, 1) := by decide +kernel
theorem dX1_isOneOf_4 : decode cX1_isOneOf 4 = .ok (.iload_n 3, 1) := by decide +kernel
theorem dX1_isOneOf_5 : decode cX1_isOneOf 5 = .ok (.bipush 6, 2) := by decide +kernel
theorem dX1_isOneOf_7 : decode cX1_isOneOf 7 = .ok (.if_icmp .ge 29, 3) := by decide +kernel
theorem dX1_isOneOf_10 : decode cX1_isOneOf 10 = .ok (.iload_n 2, 1) := by decide +kernel
theorem dX1_isOneOf_11 : decode cX1_isOneOf 11 = .ok (.invokestatic 17, 3) := by decide +kernel
theorem dX1_isOneOf_14 : decode cX1_isOneOf 14 = .ok (.ifCond .eq 22, 3) := by decide +kernel
theorem dX1_isOneOf_17 : decode cX1_isOneOf 17 = .ok (.iload_n 2, 1) := by decide +kernel
theorem dX1_isOneOf_18 : decode cX1_isOneOf 18 = .ok (.iload_n 1, 1) := by decide +kernel
theorem dX1_isOneOf_19 : decode cX1_isOneOf 19 = .ok (.if_icmp .ne 5, 3) := by decide +kernel
theorem dX1_isOneOf_22 : decode cX1_isOneOf 22 = .ok (.iconst 1, 1) := by decide +kernel
theorem dX1_isOneOf_23 : decode cX1_isOneOf 23 = .ok (.ireturn, 1) := by decide +kernel
theorem dX1_isOneOf_24 : decode cX1_isOneOf 24 = .ok (.getstatic 21, 3) := by decide +kernel
theorem dX1_isOneOf_27 : decode cX1_isOneOf 27 = .ok (.iload_n 2, 1) := by decide +kernel
theorem dX1_isOneOf_28 : decode cX1_isOneOf 28 = .ok (.iaload, 1) := by decide +kernel
theorem dX1_isOneOf_29 : decode cX1_isOneOf 29 = .ok (.istore_n 2, 1) := by decide +kernel
theorem dX1_isOneOf_30 : decode cX1_isOneOf 30 = .ok (.iinc 3 1, 3) := by decide +kernel
theorem dX1_isOneOf_33 : decode cX1_isOneOf 33 = .ok (.goto (-29), 3) := by decide +kernel
theorem dX1_isOneOf_36 : decode cX1_isOneOf 36 = .ok (.iconst 0, 1) := by decide +kernel
theorem dX1_isOneOf_37 : decode cX1_isOneOf 37 = .ok (.ireturn, 1) := by decide +kernel
theorem dX1_begin_0 : decode cX1_begin 0 = .ok (.aload_n 0, 1) := by decide +kernel
theorem dX1_begin_1 : decode cX1_begin 1 = .ok (.iconst 0, 1) := by decide +kernel
theorem dX1_begin_2 : decode cX1_begin 2 = .ok (.putfield 13, 3) := by decide +kernel
theorem dX1_begin_5 : decode cX1_begin 5 = .ok (.aload_n 0, 1) := by decide +kernel
theorem dX1_begin_6 : decode cX1_begin 6 = .ok (.aload_n 1, 1) := by decide +kernel
theorem dX1_begin_7 : decode cX1_begin 7 = .ok (.aload_n 1, 1) := by decide +kernel
theorem dX1_begin_8 : decode cX1_begin 8 = .ok (.iload_n 2, 1) := by decide +kernel
theorem dX1_begin_9 : decode cX1_begin 9 = .ok (.iload_n 3, 1) := by decide +kernel
theorem dX1_begin_10 : decode cX1_begin 10 = .ok (.invokestatic 24, 3) := by decide +kernel
theorem dX1_begin_13 : decode cX1_begin 13 = .ok (.iload_n 2, 1) := by decide +kernel
theorem dX1_begin_14 : decode cX1_begin 14 = .ok (.iconst 0, 1) := by decide +kernel
theorem dX1_begin_15 : decode cX1_begin 15 = .ok (.invokestatic 28, 3) := by decide +kernel
theorem dX1_begin_18 : decode cX1_begin 18 = .ok (.ireturn, 1) := by decide +kernel
theorem dX1_bodyFor_0 : decode cX1_bodyFor 0 = .ok (.aload_n 0, 1) := by decide +kernel
theorem dX1_bodyFor_1 : decode cX1_bodyFor 1 = .ok (.getfield 32, 3) := by decide +kernel
theorem dX1_bodyFor_4 : decode cX1_bodyFor 4 = .ok (.iload_n 1, 1) := by decide +kernel
theorem dX1_bodyFor_5 : decode cX1_bodyFor 5 = .ok (.iaload, 1) := by decide +kernel
theorem dX1_bodyFor_6 : decode cX1_bodyFor 6 = .ok (.istore_n 3, 1) := by decide +kernel
theorem dX1_bodyFor_7 : decode cX1_bodyFor 7 = .ok (.iload_n 3, 1) := by decide +kernel
theorem dX1_bodyFor_8 : decode cX1_bodyFor 8 = .ok (.invokestatic 17, 3) := by decide +kernel
theorem dX1_bodyFor_11 : decode cX1_bodyFor 11 = .ok (.ifCond .ne 5, 3) := by decide +kernel
theorem dX1_bodyFor_14 : decode cX1_bodyFor 14 = .ok (.iconst 0, 1) := by decide +kernel
theorem dX1_bodyFor_15 : decode cX1_bodyFor 15 = .ok (.ireturn, 1) := by decide +kernel
theorem dX1_bodyFor_16 : decode cX1_bodyFor 16 = .ok (.iload_n 2, 1) := by decide +kernel
theorem dX1_bodyFor_17 : decode cX1_bodyFor 17 = .ok (.ifCond .ne 11, 3) := by decide +kernel
theorem dX1_bodyFor_20 : decode cX1_bodyFor 20 = .ok (.getstatic 37, 3) := by decide +kernel
theorem dX1_bodyFor_23 : decode cX1_bodyFor 23 = .ok (.iload_n 3, 1) := by decide +kernel
theorem dX1_bodyFor_24 : decode cX1_bodyFor 24 = .ok (.iaload, 1) := by decide +kernel
theorem dX1_bodyFor_25 : decode cX1_bodyFor 25 = .ok (.goto 8, 3) := by decide +kernel
theorem dX1_bodyFor_28 : decode cX1_bodyFor 28 = .ok (.getstatic 40, 3) := by decide +kernel
theorem dX1_bodyFor_31 : decode cX1_bodyFor 31 = .ok (.iload_n 3, 1) := by decide +kernel
theorem dX1_bodyFor_32 : decode cX1_bodyFor 32 = .ok (.iaload, 1) := by decide +kernel
theorem dX1_bodyFor_33 : decode cX1_bodyFor 33 = .ok (.ireturn, 1) := by decide +kernel
theorem dX1_leave_0 : decode cX1_leave 0 = .ok (.aload_n 0, 1) := by decide +kernel
theorem dX1_leave_1 : decode cX1_leave 1 = .ok (.getfield 13, 3) := by decide +kernel
theorem dX1_leave_4 : decode cX1_leave 4 = .ok (.bipush 16, 2) := by decide +kernel
theorem dX1_leave_6 : decode cX1_leave 6 = .ok (.if_icmp .ge 23, 3) := by decide +kernel
theorem dX1_leave_9 : decode cX1_leave 9 = .ok (.aload_n 0, 1) := by decide +kernel
theorem dX1_leave_10 : decode cX1_leave 10 = .ok (.getfield 9, 3) := by decide +kernel
theorem dX1_leave_13 : decode cX1_leave 13 = .ok (.aload_n 0, 1) := by decide +kernel
theorem dX1_leave_14 : decode cX1_leave 14 = .ok (.getfield 13, 3) := by decide +kernel
theorem dX1_leave_17 : decode cX1_leave 17 = .ok (.iload_n 1, 1) := by decide +kernel
theorem dX1_leave_18 : decode cX1_leave 18 = .ok (.iastore, 1) := by decide +kernel
theorem dX1_leave_19 : decode cX1_leave 19 = .ok (.aload_n 0, 1) := by decide +kernel
theorem dX1_leave_20 : decode cX1_leave 20 = .ok (.dup, 1) := by decide +kernel
theorem dX1_leave_21 : decode cX1_leave 21 = .ok (.getfield 13, 3) := by decide +kernel
theorem dX1_leave_24 : decode cX1_leave 24 = .ok (.iconst 1, 1) := by decide +kernel
theorem dX1_leave_25 : decode cX1_leave 25 = .ok (.iadd, 1) := by decide +kernel
theorem dX1_leave_26 : decode cX1_leave 26 = .ok (.putfield 13, 3) := by decide +kernel
theorem dX1_leave_29 : decode cX1_leave 29 = .ok (.return_, 1) := by decide +kernel
theorem dX1_gives_0 : decode cX1_gives 0 = .ok (.iload 4, 2) := by decide +kernel
theorem dX1_gives_2 : decode cX1_gives 2 = .ok (.bipush 20, 2) := by decide +kernel
theorem dX1_gives_4 : decode cX1_gives 4 = .ok (.if_icmp .le 5, 3) := by decide +kernel
theorem dX1_gives_7 : decode cX1_gives 7 = .ok (.iconst 0, 1) := by decide +kernel
theorem dX1_gives_8 : decode cX1_gives 8 = .ok (.ireturn, 1) := by decide +kernel
theorem dX1_gives_9 : decode cX1_gives 9 = .ok (.aload_n 0, 1) := by decide +kernel
theorem dX1_gives_10 : decode cX1_gives 10 = .ok (.iload_n 2, 1) := by decide +kernel
theorem dX1_gives_11 : decode cX1_gives 11 = .ok (.invokevirtual 43, 3) := by decide +kernel
theorem dX1_gives_14 : decode cX1_gives 14 = .ok (.iload 4, 2) := by decide +kernel
theorem dX1_gives_16 : decode cX1_gives 16 = .ok (.iconst 1, 1) := by decide +kernel
theorem dX1_gives_17 : decode cX1_gives 17 = .ok (.iadd, 1) := by decide +kernel
theorem dX1_gives_18 : decode cX1_gives 18 = .ok (.istore 5, 2) := by decide +kernel
theorem dX1_gives_20 : decode cX1_gives 20 = .ok (.iload_n 2, 1) := by decide +kernel
theorem dX1_gives_21 : decode cX1_gives 21 = .ok (.tableswitch 221 10 24 #[75, 82, 108, 120, 134, 221, 221, 221, 221, 221, 147, 149, 167, 182, 208], 75) := by decide +kernel
theorem dX1_gives_96 : decode cX1_gives 96 = .ok (.aload_n 1, 1) := by decide +kernel
theorem dX1_gives_97 : decode cX1_gives 97 = .ok (.getfield 47, 3) := by decide +kernel
theorem dX1_gives_100 : decode cX1_gives 100 = .ok (.iload_n 3, 1) := by decide +kernel
theorem dX1_gives_101 : decode cX1_gives 101 = .ok (.iaload, 1) := by decide +kernel
theorem dX1_gives_102 : decode cX1_gives 102 = .ok (.ireturn, 1) := by decide +kernel
theorem dX1_gives_103 : decode cX1_gives 103 = .ok (.aload_n 0, 1) := by decide +kernel
theorem dX1_gives_104 : decode cX1_gives 104 = .ok (.aload_n 1, 1) := by decide +kernel
theorem dX1_gives_105 : decode cX1_gives 105 = .ok (.bipush 10, 2) := by decide +kernel
theorem dX1_gives_107 : decode cX1_gives 107 = .ok (.iload_n 3, 1) := by decide +kernel
theorem dX1_gives_108 : decode cX1_gives 108 = .ok (.iload 5, 2) := by decide +kernel
theorem dX1_gives_110 : decode cX1_gives 110 = .ok (.invokestatic 28, 3) := by decide +kernel
theorem dX1_gives_113 : decode cX1_gives 113 = .ok (.aload_n 0, 1) := by decide +kernel
theorem dX1_gives_114 : decode cX1_gives 114 = .ok (.aload_n 1, 1) := by decide +kernel
theorem dX1_gives_115 : decode cX1_gives 115 = .ok (.aload_n 1, 1) := by decide +kernel
theorem dX1_gives_116 : decode cX1_gives 116 = .ok (.iload_n 3, 1) := by decide +kernel
theorem dX1_gives_117 : decode cX1_gives 117 = .ok (.iconst 1, 1) := by decide +kernel
theorem dX1_gives_118 : decode cX1_gives 118 = .ok (.invokestatic 24, 3) := by decide +kernel
theorem dX1_gives_121 : decode cX1_gives 121 = .ok (.iload_n 3, 1) := by decide +kernel
theorem dX1_gives_122 : decode cX1_gives 122 = .ok (.iload 5, 2) := by decide +kernel
theorem dX1_gives_124 : decode cX1_gives 124 = .ok (.invokestatic 28, 3) := by decide +kernel
theorem dX1_gives_127 : decode cX1_gives 127 = .ok (.iadd, 1) := by decide +kernel
theorem dX1_gives_128 : decode cX1_gives 128 = .ok (.ireturn, 1) := by decide +kernel
theorem dX1_gives_129 : decode cX1_gives 129 = .ok (.aload_n 0, 1) := by decide +kernel
theorem dX1_gives_130 : decode cX1_gives 130 = .ok (.aload_n 1, 1) := by decide +kernel
theorem dX1_gives_131 : decode cX1_gives 131 = .ok (.bipush 11, 2) := by decide +kernel
theorem dX1_gives_133 : decode cX1_gives 133 = .ok (.iload_n 3, 1) := by decide +kernel
theorem dX1_gives_134 : decode cX1_gives 134 = .ok (.iload 5, 2) := by decide +kernel
theorem dX1_gives_136 : decode cX1_gives 136 = .ok (.invokestatic 28, 3) := by decide +kernel
theorem dX1_gives_139 : decode cX1_gives 139 = .ok (.ineg, 1) := by decide +kernel
theorem dX1_gives_140 : decode cX1_gives 140 = .ok (.ireturn, 1) := by decide +kernel
theorem dX1_gives_141 : decode cX1_gives 141 = .ok (.aload_n 0, 1) := by decide +kernel
theorem dX1_gives_142 : decode cX1_gives 142 = .ok (.aload_n 1, 1) := by decide +kernel
theorem dX1_gives_143 : decode cX1_gives 143 = .ok (.bipush 10, 2) := by decide +kernel
theorem dX1_gives_145 : decode cX1_gives 145 = .ok (.iload_n 3, 1) := by decide +kernel
theorem dX1_gives_146 : decode cX1_gives 146 = .ok (.iload 5, 2) := by decide +kernel
theorem dX1_gives_148 : decode cX1_gives 148 = .ok (.invokestatic 28, 3) := by decide +kernel
theorem dX1_gives_151 : decode cX1_gives 151 = .ok (.bipush 100, 2) := by decide +kernel
theorem dX1_gives_153 : decode cX1_gives 153 = .ok (.isub, 1) := by decide +kernel
theorem dX1_gives_154 : decode cX1_gives 154 = .ok (.ireturn, 1) := by decide +kernel
theorem dX1_gives_155 : decode cX1_gives 155 = .ok (.iconst 2, 1) := by decide +kernel
theorem dX1_gives_156 : decode cX1_gives 156 = .ok (.aload_n 0, 1) := by decide +kernel
theorem dX1_gives_157 : decode cX1_gives 157 = .ok (.aload_n 1, 1) := by decide +kernel
theorem dX1_gives_158 : decode cX1_gives 158 = .ok (.bipush 11, 2) := by decide +kernel
theorem dX1_gives_160 : decode cX1_gives 160 = .ok (.iload_n 3, 1) := by decide +kernel
theorem dX1_gives_161 : decode cX1_gives 161 = .ok (.iload 5, 2) := by decide +kernel
theorem dX1_gives_163 : decode cX1_gives 163 = .ok (.invokestatic 28, 3) := by decide +kernel
theorem dX1_gives_166 : decode cX1_gives 166 = .ok (.imul, 1) := by decide +kernel
theorem dX1_gives_167 : decode cX1_gives 167 = .ok (.ireturn, 1) := by decide +kernel
theorem dX1_gives_168 : decode cX1_gives 168 = .ok (.iload_n 3, 1) := by decide +kernel
theorem dX1_gives_169 : decode cX1_gives 169 = .ok (.ireturn, 1) := by decide +kernel
theorem dX1_gives_170 : decode cX1_gives 170 = .ok (.aload_n 0, 1) := by decide +kernel
theorem dX1_gives_171 : decode cX1_gives 171 = .ok (.aload_n 1, 1) := by decide +kernel
theorem dX1_gives_172 : decode cX1_gives 172 = .ok (.bipush 20, 2) := by decide +kernel
theorem dX1_gives_174 : decode cX1_gives 174 = .ok (.iload_n 3, 1) := by decide +kernel
theorem dX1_gives_175 : decode cX1_gives 175 = .ok (.iload 5, 2) := by decide +kernel
theorem dX1_gives_177 : decode cX1_gives 177 = .ok (.invokestatic 28, 3) := by decide +kernel
theorem dX1_gives_180 : decode cX1_gives 180 = .ok (.aload_n 1, 1) := by decide +kernel
theorem dX1_gives_181 : decode cX1_gives 181 = .ok (.getfield 50, 3) := by decide +kernel
theorem dX1_gives_184 : decode cX1_gives 184 = .ok (.iload_n 3, 1) := by decide +kernel
theorem dX1_gives_185 : decode cX1_gives 185 = .ok (.iaload, 1) := by decide +kernel
theorem dX1_gives_186 : decode cX1_gives 186 = .ok (.iadd, 1) := by decide +kernel
theorem dX1_gives_187 : decode cX1_gives 187 = .ok (.ireturn, 1) := by decide +kernel
theorem dX1_gives_188 : decode cX1_gives 188 = .ok (.aload_n 0, 1) := by decide +kernel
theorem dX1_gives_189 : decode cX1_gives 189 = .ok (.aload_n 1, 1) := by decide +kernel
theorem dX1_gives_190 : decode cX1_gives 190 = .ok (.bipush 21, 2) := by decide +kernel
theorem dX1_gives_192 : decode cX1_gives 192 = .ok (.iload_n 3, 1) := by decide +kernel
theorem dX1_gives_193 : decode cX1_gives 193 = .ok (.iload 5, 2) := by decide +kernel
theorem dX1_gives_195 : decode cX1_gives 195 = .ok (.invokestatic 28, 3) := by decide +kernel
theorem dX1_gives_198 : decode cX1_gives 198 = .ok (.sipush 1000, 3) := by decide +kernel
theorem dX1_gives_201 : decode cX1_gives 201 = .ok (.isub, 1) := by decide +kernel
theorem dX1_gives_202 : decode cX1_gives 202 = .ok (.ireturn, 1) := by decide +kernel
theorem dX1_gives_203 : decode cX1_gives 203 = .ok (.aload_n 0, 1) := by decide +kernel
theorem dX1_gives_204 : decode cX1_gives 204 = .ok (.aload_n 1, 1) := by decide +kernel
theorem dX1_gives_205 : decode cX1_gives 205 = .ok (.bipush 20, 2) := by decide +kernel
theorem dX1_gives_207 : decode cX1_gives 207 = .ok (.iload_n 3, 1) := by decide +kernel
theorem dX1_gives_208 : decode cX1_gives 208 = .ok (.iload 5, 2) := by decide +kernel
theorem dX1_gives_210 : decode cX1_gives 210 = .ok (.invokestatic 28, 3) := by decide +kernel
theorem dX1_gives_213 : decode cX1_gives 213 = .ok (.aload_n 0, 1) := by decide +kernel
theorem dX1_gives_214 : decode cX1_gives 214 = .ok (.aload_n 1, 1) := by decide +kernel
theorem dX1_gives_215 : decode cX1_gives 215 = .ok (.aload_n 1, 1) := by decide +kernel
theorem dX1_gives_216 : decode cX1_gives 216 = .ok (.iload_n 3, 1) := by decide +kernel
theorem dX1_gives_217 : decode cX1_gives 217 = .ok (.iconst 0, 1) := by decide +kernel
theorem dX1_gives_218 : decode cX1_gives 218 = .ok (.invokestatic 24, 3) := by decide +kernel
theorem dX1_gives_221 : decode cX1_gives 221 = .ok (.iload_n 3, 1) := by decide +kernel
theorem dX1_gives_222 : decode cX1_gives 222 = .ok (.iload 5, 2) := by decide +kernel
theorem dX1_gives_224 : decode cX1_gives 224 = .ok (.invokestatic 28, 3) := by decide +kernel
theorem dX1_gives_227 : decode cX1_gives 227 = .ok (.isub, 1) := by decide +kernel
theorem dX1_gives_228 : decode cX1_gives 228 = .ok (.ireturn, 1) := by decide +kernel
theorem dX1_gives_229 : decode cX1_gives 229 = .ok (.iconst 2, 1) := by decide +kernel
theorem dX1_gives_230 : decode cX1_gives 230 = .ok (.aload_n 0, 1) := by decide +kernel
theorem dX1_gives_231 : decode cX1_gives 231 = .ok (.aload_n 1, 1) := by decide +kernel
theorem dX1_gives_232 : decode cX1_gives 232 = .ok (.bipush 22, 2) := by decide +kernel
theorem dX1_gives_234 : decode cX1_gives 234 = .ok (.iload_n 3, 1) := by decide +kernel
theorem dX1_gives_235 : decode cX1_gives 235 = .ok (.iload 5, 2) := by decide +kernel
theorem dX1_gives_237 : decode cX1_gives 237 = .ok (.invokestatic 28, 3) := by decide +kernel
theorem dX1_gives_240 : decode cX1_gives 240 = .ok (.imul, 1) := by decide +kernel
theorem dX1_gives_241 : decode cX1_gives 241 = .ok (.ireturn, 1) := by decide +kernel
theorem dX1_gives_242 : decode cX1_gives 242 = .ok (.iconst 0, 1) := by decide +kernel
theorem dX1_gives_243 : decode cX1_gives 243 = .ok (.ireturn, 1) := by decide +kernel
theorem dX2_init_0 : decode cX2_init 0 = .ok (.aload_n 0, 1) := by decide +kernel
theorem dX2_init_1 : decode cX2_init 1 = .ok (.invokespecial 3, 3) := by decide +kernel
theorem dX2_init_4 : decode cX2_init 4 = .ok (.aload_n 0, 1) := by decide +kernel
theorem dX2_init_5 : decode cX2_init 5 = .ok (.iconst 4, 1) := by decide +kernel
theorem dX2_init_6 : decode cX2_init 6 = .ok (.newarray .long, 2) := by decide +kernel
theorem dX2_init_8 : decode cX2_init 8 = .ok (.putfield 9, 3) := by decide +kernel
theorem dX2_init_11 : decode cX2_init 11 = .ok (.aload_n 0, 1) := by decide +kernel
theorem dX2_init_12 : decode cX2_init 12 = .ok (.iconst 0, 1) := by decide +kernel
theorem dX2_init_13 : decode cX2_init 13 = .ok (.putfield 15, 3) := by decide +kernel
theorem dX2_init_16 : decode cX2_init 16 = .ok (.aload_n 0, 1) := by decide +kernel
theorem dX2_init_17 : decode cX2_init 17 = .ok (.iconst 1, 1) := by decide +kernel
theorem dX2_init_18 : decode cX2_init 18 = .ok (.putfield 19, 3) := by decide +kernel
theorem dX2_init_21 : decode cX2_init 21 = .ok (.return_, 1) := by decide +kernel
theorem dX2_foresee_0 : decode cX2_foresee 0 = .ok (.aload_n 0, 1) := by decide +kernel
theorem dX2_foresee_1 : decode cX2_foresee 1 = .ok (.aload_n 1, 1) := by decide +kernel
theorem dX2_foresee_2 : decode cX2_foresee 2 = .ok (.iload_n 2, 1) := by decide +kernel
theorem dX2_foresee_3 : decode cX2_foresee 3 = .ok (.invokevirtual 22, 3) := by decide +kernel
theorem dX2_foresee_6 : decode cX2_foresee 6 = .ok (.lconst 0, 1) := by decide +kernel
theorem dX2_foresee_7 : decode cX2_foresee 7 = .ok (.lstore_n 3, 1) := by decide +kernel
theorem dX2_foresee_8 : decode cX2_foresee 8 = .ok (.lconst 1, 1) := by decide +kernel
theorem dX2_foresee_9 : decode cX2_foresee 9 = .ok (.lstore 5, 2) := by decide +kernel
theorem dX2_foresee_11 : decode cX2_foresee 11 = .ok (.iconst 0, 1) := by decide +kernel
theorem dX2_foresee_12 : decode cX2_foresee 12 = .ok (.istore 7, 2) := by decide +kernel
theorem dX2_foresee_14 : decode cX2_foresee 14 = .ok (.iload 7, 2) := by decide +kernel
theorem dX2_foresee_16 : decode cX2_foresee 16 = .ok (.iload_n 2, 1) := by decide +kernel
theorem dX2_foresee_17 : decode cX2_foresee 17 = .ok (.if_icmp .gt 31, 3) := by decide +kernel
theorem dX2_foresee_20 : decode cX2_foresee 20 = .ok (.lload_n 3, 1) := by decide +kernel
theorem dX2_foresee_21 : decode cX2_foresee 21 = .ok (.aload_n 0, 1) := by decide +kernel
theorem dX2_foresee_22 : decode cX2_foresee 22 = .ok (.getfield 9, 3) := by decide +kernel
theorem dX2_foresee_25 : decode cX2_foresee 25 = .ok (.iload 7, 2) := by decide +kernel
theorem dX2_foresee_27 : decode cX2_foresee 27 = .ok (.laload, 1) := by decide +kernel
theorem dX2_foresee_28 : decode cX2_foresee 28 = .ok (.aload_n 1, 1) := by decide +kernel
theorem dX2_foresee_29 : decode cX2_foresee 29 = .ok (.aload_n 1, 1) := by decide +kernel
theorem dX2_foresee_30 : decode cX2_foresee 30 = .ok (.iload 7, 2) := by decide +kernel
theorem dX2_foresee_32 : decode cX2_foresee 32 = .ok (.invokevirtual 26, 3) := by decide +kernel
theorem dX2_foresee_35 : decode cX2_foresee 35 = .ok (.invokevirtual 32, 3) := by decide +kernel
theorem dX2_foresee_38 : decode cX2_foresee 38 = .ok (.i2l, 1) := by decide +kernel
theorem dX2_foresee_39 : decode cX2_foresee 39 = .ok (.lmul, 1) := by decide +kernel
theorem dX2_foresee_40 : decode cX2_foresee 40 = .ok (.ladd, 1) := by decide +kernel
theorem dX2_foresee_41 : decode cX2_foresee 41 = .ok (.lstore_n 3, 1) := by decide +kernel
theorem dX2_foresee_42 : decode cX2_foresee 42 = .ok (.iinc 7 1, 3) := by decide +kernel
theorem dX2_foresee_45 : decode cX2_foresee 45 = .ok (.goto (-31), 3) := by decide +kernel
theorem dX2_foresee_48 : decode cX2_foresee 48 = .ok (.iconst 0, 1) := by decide +kernel
theorem dX2_foresee_49 : decode cX2_foresee 49 = .ok (.istore 7, 2) := by decide +kernel
theorem dX2_foresee_51 : decode cX2_foresee 51 = .ok (.iload 7, 2) := by decide +kernel
theorem dX2_foresee_53 : decode cX2_foresee 53 = .ok (.iload_n 2, 1) := by decide +kernel
theorem dX2_foresee_54 : decode cX2_foresee 54 = .ok (.if_icmp .ge 17, 3) := by decide +kernel
theorem dX2_foresee_57 : decode cX2_foresee 57 = .ok (.lload 5, 2) := by decide +kernel
theorem dX2_foresee_59 : decode cX2_foresee 59 = .ok (.ldc2_w 35, 3) := by decide +kernel
theorem dX2_foresee_62 : decode cX2_foresee 62 = .ok (.lmul, 1) := by decide +kernel
theorem dX2_foresee_63 : decode cX2_foresee 63 = .ok (.lstore 5, 2) := by decide +kernel
theorem dX2_foresee_65 : decode cX2_foresee 65 = .ok (.iinc 7 1, 3) := by decide +kernel
theorem dX2_foresee_68 : decode cX2_foresee 68 = .ok (.goto (-17), 3) := by decide +kernel
theorem dX2_foresee_71 : decode cX2_foresee 71 = .ok (.lload_n 3, 1) := by decide +kernel
theorem dX2_foresee_72 : decode cX2_foresee 72 = .ok (.lload 5, 2) := by decide +kernel
theorem dX2_foresee_74 : decode cX2_foresee 74 = .ok (.invokestatic 37, 3) := by decide +kernel
theorem dX2_foresee_77 : decode cX2_foresee 77 = .ok (.lstore 7, 2) := by decide +kernel
theorem dX2_foresee_79 : decode cX2_foresee 79 = .ok (.lload 7, 2) := by decide +kernel
theorem dX2_foresee_81 : decode cX2_foresee 81 = .ok (.lconst 0, 1) := by decide +kernel
theorem dX2_foresee_82 : decode cX2_foresee 82 = .ok (.lcmp, 1) := by decide +kernel
theorem dX2_foresee_83 : decode cX2_foresee 83 = .ok (.ifCond .le 22, 3) := by decide +kernel
theorem dX2_foresee_86 : decode cX2_foresee 86 = .ok (.aload_n 0, 1) := by decide +kernel
theorem dX2_foresee_87 : decode cX2_foresee 87 = .ok (.lload_n 3, 1) := by decide +kernel
theorem dX2_foresee_88 : decode cX2_foresee 88 = .ok (.lload 7, 2) := by decide +kernel
theorem dX2_foresee_90 : decode cX2_foresee 90 = .ok (.ldiv, 1) := by decide +kernel
theorem dX2_foresee_91 : decode cX2_foresee 91 = .ok (.l2i, 1) := by decide +kernel
theorem dX2_foresee_92 : decode cX2_foresee 92 = .ok (.putfield 15, 3) := by decide +kernel
theorem dX2_foresee_95 : decode cX2_foresee 95 = .ok (.aload_n 0, 1) := by decide +kernel
theorem dX2_foresee_96 : decode cX2_foresee 96 = .ok (.lload 5, 2) := by decide +kernel
theorem dX2_foresee_98 : decode cX2_foresee 98 = .ok (.lload 7, 2) := by decide +kernel
theorem dX2_foresee_100 : decode cX2_foresee 100 = .ok (.ldiv, 1) := by decide +kernel
theorem dX2_foresee_101 : decode cX2_foresee 101 = .ok (.l2i, 1) := by decide +kernel
theorem dX2_foresee_102 : decode cX2_foresee 102 = .ok (.putfield 19, 3) := by decide +kernel
theorem dX2_foresee_105 : decode cX2_foresee 105 = .ok (.return_, 1) := by decide +kernel
theorem dX2_weigh_0 : decode cX2_weigh 0 = .ok (.aload_n 0, 1) := by decide +kernel
theorem dX2_weigh_1 : decode cX2_weigh 1 = .ok (.getfield 9, 3) := by decide +kernel
theorem dX2_weigh_4 : decode cX2_weigh 4 = .ok (.iconst 0, 1) := by decide +kernel
theorem dX2_weigh_5 : decode cX2_weigh 5 = .ok (.lconst 1, 1) := by decide +kernel
theorem dX2_weigh_6 : decode cX2_weigh 6 = .ok (.lastore, 1) := by decide +kernel
theorem dX2_weigh_7 : decode cX2_weigh 7 = .ok (.iconst 0, 1) := by decide +kernel
theorem dX2_weigh_8 : decode cX2_weigh 8 = .ok (.istore_n 3, 1) := by decide +kernel
theorem dX2_weigh_9 : decode cX2_weigh 9 = .ok (.iload_n 3, 1) := by decide +kernel
theorem dX2_weigh_10 : decode cX2_weigh 10 = .ok (.iload_n 2, 1) := by decide +kernel
theorem dX2_weigh_11 : decode cX2_weigh 11 = .ok (.if_icmp .ge 104, 3) := by decide +kernel
theorem dX2_weigh_14 : decode cX2_weigh 14 = .ok (.aload_n 1, 1) := by decide +kernel
theorem dX2_weigh_15 : decode cX2_weigh 15 = .ok (.getfield 41, 3) := by decide +kernel
theorem dX2_weigh_18 : decode cX2_weigh 18 = .ok (.aload_n 1, 1) := by decide +kernel
theorem dX2_weigh_19 : decode cX2_weigh 19 = .ok (.getfield 45, 3) := by decide +kernel
theorem dX2_weigh_22 : decode cX2_weigh 22 = .ok (.iload_n 3, 1) := by decide +kernel
theorem dX2_weigh_23 : decode cX2_weigh 23 = .ok (.iadd, 1) := by decide +kernel
theorem dX2_weigh_24 : decode cX2_weigh 24 = .ok (.iaload, 1) := by decide +kernel
theorem dX2_weigh_25 : decode cX2_weigh 25 = .ok (.istore 4, 2) := by decide +kernel
theorem dX2_weigh_27 : decode cX2_weigh 27 = .ok (.aload_n 0, 1) := by decide +kernel
theorem dX2_weigh_28 : decode cX2_weigh 28 = .ok (.getfield 9, 3) := by decide +kernel
theorem dX2_weigh_31 : decode cX2_weigh 31 = .ok (.iload_n 3, 1) := by decide +kernel
theorem dX2_weigh_32 : decode cX2_weigh 32 = .ok (.iconst 1, 1) := by decide +kernel
theorem dX2_weigh_33 : decode cX2_weigh 33 = .ok (.iadd, 1) := by decide +kernel
theorem dX2_weigh_34 : decode cX2_weigh 34 = .ok (.aload_n 0, 1) := by decide +kernel
theorem dX2_weigh_35 : decode cX2_weigh 35 = .ok (.getfield 9, 3) := by decide +kernel
theorem dX2_weigh_38 : decode cX2_weigh 38 = .ok (.iload_n 3, 1) := by decide +kernel
theorem dX2_weigh_39 : decode cX2_weigh 39 = .ok (.laload, 1) := by decide +kernel
theorem dX2_weigh_40 : decode cX2_weigh 40 = .ok (.iload 4, 2) := by decide +kernel
theorem dX2_weigh_42 : decode cX2_weigh 42 = .ok (.i2l, 1) := by decide +kernel
theorem dX2_weigh_43 : decode cX2_weigh 43 = .ok (.lmul, 1) := by decide +kernel
theorem dX2_weigh_44 : decode cX2_weigh 44 = .ok (.lastore, 1) := by decide +kernel
theorem dX2_weigh_45 : decode cX2_weigh 45 = .ok (.iload_n 3, 1) := by decide +kernel
theorem dX2_weigh_46 : decode cX2_weigh 46 = .ok (.istore 5, 2) := by decide +kernel
theorem dX2_weigh_48 : decode cX2_weigh 48 = .ok (.iload 5, 2) := by decide +kernel
theorem dX2_weigh_50 : decode cX2_weigh 50 = .ok (.ifCond .le 44, 3) := by decide +kernel
theorem dX2_weigh_53 : decode cX2_weigh 53 = .ok (.aload_n 0, 1) := by decide +kernel
theorem dX2_weigh_54 : decode cX2_weigh 54 = .ok (.getfield 9, 3) := by decide +kernel
theorem dX2_weigh_57 : decode cX2_weigh 57 = .ok (.iload 5, 2) := by decide +kernel
theorem dX2_weigh_59 : decode cX2_weigh 59 = .ok (.aload_n 0, 1) := by decide +kernel
theorem dX2_weigh_60 : decode cX2_weigh 60 = .ok (.getfield 9, 3) := by decide +kernel
theorem dX2_weigh_63 : decode cX2_weigh 63 = .ok (.iload 5, 2) := by decide +kernel
theorem dX2_weigh_65 : decode cX2_weigh 65 = .ok (.laload, 1) := by decide +kernel
theorem dX2_weigh_66 : decode cX2_weigh 66 = .ok (.bipush 100, 2) := by decide +kernel
theorem dX2_weigh_68 : decode cX2_weigh 68 = .ok (.iload 4, 2) := by decide +kernel
theorem dX2_weigh_70 : decode cX2_weigh 70 = .ok (.isub, 1) := by decide +kernel
theorem dX2_weigh_71 : decode cX2_weigh 71 = .ok (.i2l, 1) := by decide +kernel
theorem dX2_weigh_72 : decode cX2_weigh 72 = .ok (.lmul, 1) := by decide +kernel
theorem dX2_weigh_73 : decode cX2_weigh 73 = .ok (.aload_n 0, 1) := by decide +kernel
theorem dX2_weigh_74 : decode cX2_weigh 74 = .ok (.getfield 9, 3) := by decide +kernel
theorem dX2_weigh_77 : decode cX2_weigh 77 = .ok (.iload 5, 2) := by decide +kernel
theorem dX2_weigh_79 : decode cX2_weigh 79 = .ok (.iconst 1, 1) := by decide +kernel
theorem dX2_weigh_80 : decode cX2_weigh 80 = .ok (.isub, 1) := by decide +kernel
theorem dX2_weigh_81 : decode cX2_weigh 81 = .ok (.laload, 1) := by decide +kernel
theorem dX2_weigh_82 : decode cX2_weigh 82 = .ok (.iload 4, 2) := by decide +kernel
theorem dX2_weigh_84 : decode cX2_weigh 84 = .ok (.i2l, 1) := by decide +kernel
theorem dX2_weigh_85 : decode cX2_weigh 85 = .ok (.lmul, 1) := by decide +kernel
theorem dX2_weigh_86 : decode cX2_weigh 86 = .ok (.ladd, 1) := by decide +kernel
theorem dX2_weigh_87 : decode cX2_weigh 87 = .ok (.lastore, 1) := by decide +kernel
theorem dX2_weigh_88 : decode cX2_weigh 88 = .ok (.iinc 5 (-1), 3) := by decide +kernel
theorem dX2_weigh_91 : decode cX2_weigh 91 = .ok (.goto (-43), 3) := by decide +kernel
theorem dX2_weigh_94 : decode cX2_weigh 94 = .ok (.aload_n 0, 1) := by decide +kernel
theorem dX2_weigh_95 : decode cX2_weigh 95 = .ok (.getfield 9, 3) := by decide +kernel
theorem dX2_weigh_98 : decode cX2_weigh 98 = .ok (.iconst 0, 1) := by decide +kernel
theorem dX2_weigh_99 : decode cX2_weigh 99 = .ok (.dup2, 1) := by decide +kernel
theorem dX2_weigh_100 : decode cX2_weigh 100 = .ok (.laload, 1) := by decide +kernel
theorem dX2_weigh_101 : decode cX2_weigh 101 = .ok (.bipush 100, 2) := by decide +kernel
theorem dX2_weigh_103 : decode cX2_weigh 103 = .ok (.iload 4, 2) := by decide +kernel
theorem dX2_weigh_105 : decode cX2_weigh 105 = .ok (.isub, 1) := by decide +kernel
theorem dX2_weigh_106 : decode cX2_weigh 106 = .ok (.i2l, 1) := by decide +kernel
theorem dX2_weigh_107 : decode cX2_weigh 107 = .ok (.lmul, 1) := by decide +kernel
theorem dX2_weigh_108 : decode cX2_weigh 108 = .ok (.lastore, 1) := by decide +kernel
theorem dX2_weigh_109 : decode cX2_weigh 109 = .ok (.iinc 3 1, 3) := by decide +kernel
theorem dX2_weigh_112 : decode cX2_weigh 112 = .ok (.goto (-103), 3) := by decide +kernel
theorem dX2_weigh_115 : decode cX2_weigh 115 = .ok (.return_, 1) := by decide +kernel
theorem dX2_commonDivisor_0 : decode cX2_commonDivisor 0 = .ok (.lload_n 0, 1) := by decide +kernel
theorem dX2_commonDivisor_1 : decode cX2_commonDivisor 1 = .ok (.lstore 4, 2) := by decide +kernel
theorem dX2_commonDivisor_3 : decode cX2_commonDivisor 3 = .ok (.lload_n 2, 1) := by decide +kernel
theorem dX2_commonDivisor_4 : decode cX2_commonDivisor 4 = .ok (.lstore 6, 2) := by decide +kernel
theorem dX2_commonDivisor_6 : decode cX2_commonDivisor 6 = .ok (.iconst 0, 1) := by decide +kernel
theorem dX2_commonDivisor_7 : decode cX2_commonDivisor 7 = .ok (.istore 8, 2) := by decide +kernel
theorem dX2_commonDivisor_9 : decode cX2_commonDivisor 9 = .ok (.iload 8, 2) := by decide +kernel
theorem dX2_commonDivisor_11 : decode cX2_commonDivisor 11 = .ok (.bipush 100, 2) := by decide +kernel
theorem dX2_commonDivisor_13 : decode cX2_commonDivisor 13 = .ok (.if_icmp .ge 31, 3) := by decide +kernel
theorem dX2_commonDivisor_16 : decode cX2_commonDivisor 16 = .ok (.lload 6, 2) := by decide +kernel
theorem dX2_commonDivisor_18 : decode cX2_commonDivisor 18 = .ok (.lconst 0, 1) := by decide +kernel
theorem dX2_commonDivisor_19 : decode cX2_commonDivisor 19 = .ok (.lcmp, 1) := by decide +kernel
theorem dX2_commonDivisor_20 : decode cX2_commonDivisor 20 = .ok (.ifCond .eq 24, 3) := by decide +kernel
theorem dX2_commonDivisor_23 : decode cX2_commonDivisor 23 = .ok (.lload 4, 2) := by decide +kernel
theorem dX2_commonDivisor_25 : decode cX2_commonDivisor 25 = .ok (.lload 6, 2) := by decide +kernel
theorem dX2_commonDivisor_27 : decode cX2_commonDivisor 27 = .ok (.lrem, 1) := by decide +kernel
theorem dX2_commonDivisor_28 : decode cX2_commonDivisor 28 = .ok (.lstore 9, 2) := by decide +kernel
theorem dX2_commonDivisor_30 : decode cX2_commonDivisor 30 = .ok (.lload 6, 2) := by decide +kernel
theorem dX2_commonDivisor_32 : decode cX2_commonDivisor 32 = .ok (.lstore 4, 2) := by decide +kernel
theorem dX2_commonDivisor_34 : decode cX2_commonDivisor 34 = .ok (.lload 9, 2) := by decide +kernel
theorem dX2_commonDivisor_36 : decode cX2_commonDivisor 36 = .ok (.lstore 6, 2) := by decide +kernel
theorem dX2_commonDivisor_38 : decode cX2_commonDivisor 38 = .ok (.iinc 8 1, 3) := by decide +kernel
theorem dX2_commonDivisor_41 : decode cX2_commonDivisor 41 = .ok (.goto (-32), 3) := by decide +kernel
theorem dX2_commonDivisor_44 : decode cX2_commonDivisor 44 = .ok (.lload 4, 2) := by decide +kernel
theorem dX2_commonDivisor_46 : decode cX2_commonDivisor 46 = .ok (.lreturn, 1) := by decide +kernel
theorem dX3_init_0 : decode cX3_init 0 = .ok (.aload_n 0, 1) := by decide +kernel
theorem dX3_init_1 : decode cX3_init 1 = .ok (.invokespecial 3, 3) := by decide +kernel
theorem dX3_init_4 : decode cX3_init 4 = .ok (.aload_n 0, 1) := by decide +kernel
theorem dX3_init_5 : decode cX3_init 5 = .ok (.bipush 12, 2) := by decide +kernel
theorem dX3_init_7 : decode cX3_init 7 = .ok (.newarray .int, 2) := by decide +kernel
theorem dX3_init_9 : decode cX3_init 9 = .ok (.putfield 9, 3) := by decide +kernel
theorem dX3_init_12 : decode cX3_init 12 = .ok (.aload_n 0, 1) := by decide +kernel
theorem dX3_init_13 : decode cX3_init 13 = .ok (.iconst 4, 1) := by decide +kernel
theorem dX3_init_14 : decode cX3_init 14 = .ok (.newarray .int, 2) := by decide +kernel
theorem dX3_init_16 : decode cX3_init 16 = .ok (.putfield 15, 3) := by decide +kernel
theorem dX3_init_19 : decode cX3_init 19 = .ok (.aload_n 0, 1) := by decide +kernel
theorem dX3_init_20 : decode cX3_init 20 = .ok (.iconst 4, 1) := by decide +kernel
theorem dX3_init_21 : decode cX3_init 21 = .ok (.newarray .int, 2) := by decide +kernel
theorem dX3_init_23 : decode cX3_init 23 = .ok (.putfield 18, 3) := by decide +kernel
theorem dX3_init_26 : decode cX3_init 26 = .ok (.aload_n 0, 1) := by decide +kernel
theorem dX3_init_27 : decode cX3_init 27 = .ok (.iconst 4, 1) := by decide +kernel
theorem dX3_init_28 : decode cX3_init 28 = .ok (.newarray .int, 2) := by decide +kernel
theorem dX3_init_30 : decode cX3_init 30 = .ok (.putfield 21, 3) := by decide +kernel
theorem dX3_init_33 : decode cX3_init 33 = .ok (.aload_n 0, 1) := by decide +kernel
theorem dX3_init_34 : decode cX3_init 34 = .ok (.bipush 36, 2) := by decide +kernel
theorem dX3_init_36 : decode cX3_init 36 = .ok (.newarray .int, 2) := by decide +kernel
theorem dX3_init_38 : decode cX3_init 38 = .ok (.putfield 24, 3) := by decide +kernel
theorem dX3_init_41 : decode cX3_init 41 = .ok (.aload_n 0, 1) := by decide +kernel
theorem dX3_init_42 : decode cX3_init 42 = .ok (.bipush 16, 2) := by decide +kernel
theorem dX3_init_44 : decode cX3_init 44 = .ok (.newarray .int, 2) := by decide +kernel
theorem dX3_init_46 : decode cX3_init 46 = .ok (.putfield 27, 3) := by decide +kernel
theorem dX3_init_49 : decode cX3_init 49 = .ok (.aload_n 0, 1) := by decide +kernel
theorem dX3_init_50 : decode cX3_init 50 = .ok (.bipush 16, 2) := by decide +kernel
theorem dX3_init_52 : decode cX3_init 52 = .ok (.newarray .int, 2) := by decide +kernel
theorem dX3_init_54 : decode cX3_init 54 = .ok (.putfield 30, 3) := by decide +kernel
theorem dX3_init_57 : decode cX3_init 57 = .ok (.aload_n 0, 1) := by decide +kernel
theorem dX3_init_58 : decode cX3_init 58 = .ok (.bipush 16, 2) := by decide +kernel
theorem dX3_init_60 : decode cX3_init 60 = .ok (.newarray .int, 2) := by decide +kernel
theorem dX3_init_62 : decode cX3_init 62 = .ok (.putfield 33, 3) := by decide +kernel
theorem dX3_init_65 : decode cX3_init 65 = .ok (.aload_n 0, 1) := by decide +kernel
theorem dX3_init_66 : decode cX3_init 66 = .ok (.iconst 0, 1) := by decide +kernel
theorem dX3_init_67 : decode cX3_init 67 = .ok (.putfield 36, 3) := by decide +kernel
theorem dX3_init_70 : decode cX3_init 70 = .ok (.aload_n 0, 1) := by decide +kernel
theorem dX3_init_71 : decode cX3_init 71 = .ok (.iconst 0, 1) := by decide +kernel
theorem dX3_init_72 : decode cX3_init 72 = .ok (.putfield 40, 3) := by decide +kernel
theorem dX3_init_75 : decode cX3_init 75 = .ok (.aload_n 0, 1) := by decide +kernel
theorem dX3_init_76 : decode cX3_init 76 = .ok (.iconst 0, 1) := by decide +kernel
theorem dX3_init_77 : decode cX3_init 77 = .ok (.putfield 43, 3) := by decide +kernel
theorem dX3_init_80 : decode cX3_init 80 = .ok (.aload_n 0, 1) := by decide +kernel
theorem dX3_init_81 : decode cX3_init 81 = .ok (.iconst 0, 1) := by decide +kernel
theorem dX3_init_82 : decode cX3_init 82 = .ok (.putfield 46, 3) := by decide +kernel
theorem dX3_init_85 : decode cX3_init 85 = .ok (.return_, 1) := by decide +kernel
theorem dX3_clear_0 : decode cX3_clear 0 = .ok (.aload_n 0, 1) := by decide +kernel
theorem dX3_clear_1 : decode cX3_clear 1 = .ok (.iconst 0, 1) := by decide +kernel
theorem dX3_clear_2 : decode cX3_clear 2 = .ok (.putfield 36, 3) := by decide +kernel
theorem dX3_clear_5 : decode cX3_clear 5 = .ok (.aload_n 0, 1) := by decide +kernel
theorem dX3_clear_6 : decode cX3_clear 6 = .ok (.iconst 0, 1) := by decide +kernel
theorem dX3_clear_7 : decode cX3_clear 7 = .ok (.putfield 40, 3) := by decide +kernel
theorem dX3_clear_10 : decode cX3_clear 10 = .ok (.aload_n 0, 1) := by decide +kernel
theorem dX3_clear_11 : decode cX3_clear 11 = .ok (.iconst 0, 1) := by decide +kernel
theorem dX3_clear_12 : decode cX3_clear 12 = .ok (.putfield 43, 3) := by decide +kernel
theorem dX3_clear_15 : decode cX3_clear 15 = .ok (.aload_n 0, 1) := by decide +kernel
theorem dX3_clear_16 : decode cX3_clear 16 = .ok (.iconst 0, 1) := by decide +kernel
theorem dX3_clear_17 : decode cX3_clear 17 = .ok (.putfield 46, 3) := by decide +kernel
theorem dX3_clear_20 : decode cX3_clear 20 = .ok (.return_, 1) := by decide +kernel
theorem dX3_takeOver_0 : decode cX3_takeOver 0 = .ok (.aload_n 1, 1) := by decide +kernel
theorem dX3_takeOver_1 : decode cX3_takeOver 1 = .ok (.getfield 9, 3) := by decide +kernel
theorem dX3_takeOver_4 : decode cX3_takeOver 4 = .ok (.iconst 0, 1) := by decide +kernel
theorem dX3_takeOver_5 : decode cX3_takeOver 5 = .ok (.aload_n 0, 1) := by decide +kernel
theorem dX3_takeOver_6 : decode cX3_takeOver 6 = .ok (.getfield 9, 3) := by decide +kernel
theorem dX3_takeOver_9 : decode cX3_takeOver 9 = .ok (.iconst 0, 1) := by decide +kernel
theorem dX3_takeOver_10 : decode cX3_takeOver 10 = .ok (.bipush 12, 2) := by decide +kernel
theorem dX3_takeOver_12 : decode cX3_takeOver 12 = .ok (.invokestatic 49, 3) := by decide +kernel
theorem dX3_takeOver_15 : decode cX3_takeOver 15 = .ok (.aload_n 1, 1) := by decide +kernel
theorem dX3_takeOver_16 : decode cX3_takeOver 16 = .ok (.getfield 15, 3) := by decide +kernel
theorem dX3_takeOver_19 : decode cX3_takeOver 19 = .ok (.iconst 0, 1) := by decide +kernel
theorem dX3_takeOver_20 : decode cX3_takeOver 20 = .ok (.aload_n 0, 1) := by decide +kernel
theorem dX3_takeOver_21 : decode cX3_takeOver 21 = .ok (.getfield 15, 3) := by decide +kernel
theorem dX3_takeOver_24 : decode cX3_takeOver 24 = .ok (.iconst 0, 1) := by decide +kernel
theorem dX3_takeOver_25 : decode cX3_takeOver 25 = .ok (.iconst 4, 1) := by decide +kernel
theorem dX3_takeOver_26 : decode cX3_takeOver 26 = .ok (.invokestatic 49, 3) := by decide +kernel
theorem dX3_takeOver_29 : decode cX3_takeOver 29 = .ok (.aload_n 1, 1) := by decide +kernel
theorem dX3_takeOver_30 : decode cX3_takeOver 30 = .ok (.getfield 18, 3) := by decide +kernel
theorem dX3_takeOver_33 : decode cX3_takeOver 33 = .ok (.iconst 0, 1) := by decide +kernel
theorem dX3_takeOver_34 : decode cX3_takeOver 34 = .ok (.aload_n 0, 1) := by decide +kernel
theorem dX3_takeOver_35 : decode cX3_takeOver 35 = .ok (.getfield 18, 3) := by decide +kernel
theorem dX3_takeOver_38 : decode cX3_takeOver 38 = .ok (.iconst 0, 1) := by decide +kernel
theorem dX3_takeOver_39 : decode cX3_takeOver 39 = .ok (.iconst 4, 1) := by decide +kernel
theorem dX3_takeOver_40 : decode cX3_takeOver 40 = .ok (.invokestatic 49, 3) := by decide +kernel
theorem dX3_takeOver_43 : decode cX3_takeOver 43 = .ok (.aload_n 1, 1) := by decide +kernel
theorem dX3_takeOver_44 : decode cX3_takeOver 44 = .ok (.getfield 21, 3) := by decide +kernel
theorem dX3_takeOver_47 : decode cX3_takeOver 47 = .ok (.iconst 0, 1) := by decide +kernel
theorem dX3_takeOver_48 : decode cX3_takeOver 48 = .ok (.aload_n 0, 1) := by decide +kernel
theorem dX3_takeOver_49 : decode cX3_takeOver 49 = .ok (.getfield 21, 3) := by decide +kernel
theorem dX3_takeOver_52 : decode cX3_takeOver 52 = .ok (.iconst 0, 1) := by decide +kernel
theorem dX3_takeOver_53 : decode cX3_takeOver 53 = .ok (.iconst 4, 1) := by decide +kernel
theorem dX3_takeOver_54 : decode cX3_takeOver 54 = .ok (.invokestatic 49, 3) := by decide +kernel
theorem dX3_takeOver_57 : decode cX3_takeOver 57 = .ok (.aload_n 1, 1) := by decide +kernel
theorem dX3_takeOver_58 : decode cX3_takeOver 58 = .ok (.getfield 24, 3) := by decide +kernel
theorem dX3_takeOver_61 : decode cX3_takeOver 61 = .ok (.iconst 0, 1) := by decide +kernel
theorem dX3_takeOver_62 : decode cX3_takeOver 62 = .ok (.aload_n 0, 1) := by decide +kernel
theorem dX3_takeOver_63 : decode cX3_takeOver 63 = .ok (.getfield 24, 3) := by decide +kernel
theorem dX3_takeOver_66 : decode cX3_takeOver 66 = .ok (.iconst 0, 1) := by decide +kernel
theorem dX3_takeOver_67 : decode cX3_takeOver 67 = .ok (.bipush 36, 2) := by decide +kernel
theorem dX3_takeOver_69 : decode cX3_takeOver 69 = .ok (.invokestatic 49, 3) := by decide +kernel
theorem dX3_takeOver_72 : decode cX3_takeOver 72 = .ok (.aload_n 1, 1) := by decide +kernel
theorem dX3_takeOver_73 : decode cX3_takeOver 73 = .ok (.getfield 27, 3) := by decide +kernel
theorem dX3_takeOver_76 : decode cX3_takeOver 76 = .ok (.iconst 0, 1) := by decide +kernel
theorem dX3_takeOver_77 : decode cX3_takeOver 77 = .ok (.aload_n 0, 1) := by decide +kernel
theorem dX3_takeOver_78 : decode cX3_takeOver 78 = .ok (.getfield 27, 3) := by decide +kernel
theorem dX3_takeOver_81 : decode cX3_takeOver 81 = .ok (.iconst 0, 1) := by decide +kernel
theorem dX3_takeOver_82 : decode cX3_takeOver 82 = .ok (.bipush 16, 2) := by decide +kernel
theorem dX3_takeOver_84 : decode cX3_takeOver 84 = .ok (.invokestatic 49, 3) := by decide +kernel
theorem dX3_takeOver_87 : decode cX3_takeOver 87 = .ok (.aload_n 1, 1) := by decide +kernel
theorem dX3_takeOver_88 : decode cX3_takeOver 88 = .ok (.getfield 30, 3) := by decide +kernel
theorem dX3_takeOver_91 : decode cX3_takeOver 91 = .ok (.iconst 0, 1) := by decide +kernel
theorem dX3_takeOver_92 : decode cX3_takeOver 92 = .ok (.aload_n 0, 1) := by decide +kernel
theorem dX3_takeOver_93 : decode cX3_takeOver 93 = .ok (.getfield 30, 3) := by decide +kernel
theorem dX3_takeOver_96 : decode cX3_takeOver 96 = .ok (.iconst 0, 1) := by decide +kernel
theorem dX3_takeOver_97 : decode cX3_takeOver 97 = .ok (.bipush 16, 2) := by decide +kernel
theorem dX3_takeOver_99 : decode cX3_takeOver 99 = .ok (.invokestatic 49, 3) := by decide +kernel
theorem dX3_takeOver_102 : decode cX3_takeOver 102 = .ok (.aload_n 1, 1) := by decide +kernel
theorem dX3_takeOver_103 : decode cX3_takeOver 103 = .ok (.getfield 33, 3) := by decide +kernel
theorem dX3_takeOver_106 : decode cX3_takeOver 106 = .ok (.iconst 0, 1) := by decide +kernel
theorem dX3_takeOver_107 : decode cX3_takeOver 107 = .ok (.aload_n 0, 1) := by decide +kernel
theorem dX3_takeOver_108 : decode cX3_takeOver 108 = .ok (.getfield 33, 3) := by decide +kernel
theorem dX3_takeOver_111 : decode cX3_takeOver 111 = .ok (.iconst 0, 1) := by decide +kernel
theorem dX3_takeOver_112 : decode cX3_takeOver 112 = .ok (.bipush 16, 2) := by decide +kernel
theorem dX3_takeOver_114 : decode cX3_takeOver 114 = .ok (.invokestatic 49, 3) := by decide +kernel
theorem dX3_takeOver_117 : decode cX3_takeOver 117 = .ok (.aload_n 0, 1) := by decide +kernel
theorem dX3_takeOver_118 : decode cX3_takeOver 118 = .ok (.aload_n 1, 1) := by decide +kernel
theorem dX3_takeOver_119 : decode cX3_takeOver 119 = .ok (.getfield 36, 3) := by decide +kernel
theorem dX3_takeOver_122 : decode cX3_takeOver 122 = .ok (.putfield 36, 3) := by decide +kernel
theorem dX3_takeOver_125 : decode cX3_takeOver 125 = .ok (.aload_n 0, 1) := by decide +kernel
theorem dX3_takeOver_126 : decode cX3_takeOver 126 = .ok (.aload_n 1, 1) := by decide +kernel
theorem dX3_takeOver_127 : decode cX3_takeOver 127 = .ok (.getfield 40, 3) := by decide +kernel
theorem dX3_takeOver_130 : decode cX3_takeOver 130 = .ok (.putfield 40, 3) := by decide +kernel
theorem dX3_takeOver_133 : decode cX3_takeOver 133 = .ok (.aload_n 0, 1) := by decide +kernel
theorem dX3_takeOver_134 : decode cX3_takeOver 134 = .ok (.aload_n 1, 1) := by decide +kernel
theorem dX3_takeOver_135 : decode cX3_takeOver 135 = .ok (.getfield 43, 3) := by decide +kernel
theorem dX3_takeOver_138 : decode cX3_takeOver 138 = .ok (.putfield 43, 3) := by decide +kernel
theorem dX3_takeOver_141 : decode cX3_takeOver 141 = .ok (.aload_n 0, 1) := by decide +kernel
theorem dX3_takeOver_142 : decode cX3_takeOver 142 = .ok (.aload_n 1, 1) := by decide +kernel
theorem dX3_takeOver_143 : decode cX3_takeOver 143 = .ok (.getfield 46, 3) := by decide +kernel
theorem dX3_takeOver_146 : decode cX3_takeOver 146 = .ok (.putfield 46, 3) := by decide +kernel
theorem dX3_takeOver_149 : decode cX3_takeOver 149 = .ok (.return_, 1) := by decide +kernel
theorem dX3_isThere_0 : decode cX3_isThere 0 = .ok (.aload_n 0, 1) := by decide +kernel
theorem dX3_isThere_1 : decode cX3_isThere 1 = .ok (.getfield 36, 3) := by decide +kernel
theorem dX3_isThere_4 : decode cX3_isThere 4 = .ok (.ifCond .le 7, 3) := by decide +kernel
theorem dX3_isThere_7 : decode cX3_isThere 7 = .ok (.iconst 1, 1) := by decide +kernel
theorem dX3_isThere_8 : decode cX3_isThere 8 = .ok (.goto 4, 3) := by decide +kernel
theorem dX3_isThere_11 : decode cX3_isThere 11 = .ok (.iconst 0, 1) := by decide +kernel
theorem dX3_isThere_12 : decode cX3_isThere 12 = .ok (.ireturn, 1) := by decide +kernel
theorem dX3_hasDesk_0 : decode cX3_hasDesk 0 = .ok (.iload_n 1, 1) := by decide +kernel
theorem dX3_hasDesk_1 : decode cX3_hasDesk 1 = .ok (.ifCond .lt 15, 3) := by decide +kernel
theorem dX3_hasDesk_4 : decode cX3_hasDesk 4 = .ok (.iload_n 1, 1) := by decide +kernel
theorem dX3_hasDesk_5 : decode cX3_hasDesk 5 = .ok (.aload_n 0, 1) := by decide +kernel
theorem dX3_hasDesk_6 : decode cX3_hasDesk 6 = .ok (.getfield 36, 3) := by decide +kernel
theorem dX3_hasDesk_9 : decode cX3_hasDesk 9 = .ok (.if_icmp .ge 7, 3) := by decide +kernel
theorem dX3_hasDesk_12 : decode cX3_hasDesk 12 = .ok (.iconst 1, 1) := by decide +kernel
theorem dX3_hasDesk_13 : decode cX3_hasDesk 13 = .ok (.goto 4, 3) := by decide +kernel
theorem dX3_hasDesk_16 : decode cX3_hasDesk 16 = .ok (.iconst 0, 1) := by decide +kernel
theorem dX3_hasDesk_17 : decode cX3_hasDesk 17 = .ok (.ireturn, 1) := by decide +kernel
theorem dX3_hasSheet_0 : decode cX3_hasSheet 0 = .ok (.iload_n 1, 1) := by decide +kernel
theorem dX3_hasSheet_1 : decode cX3_hasSheet 1 = .ok (.ifCond .lt 15, 3) := by decide +kernel
theorem dX3_hasSheet_4 : decode cX3_hasSheet 4 = .ok (.iload_n 1, 1) := by decide +kernel
theorem dX3_hasSheet_5 : decode cX3_hasSheet 5 = .ok (.aload_n 0, 1) := by decide +kernel
theorem dX3_hasSheet_6 : decode cX3_hasSheet 6 = .ok (.getfield 40, 3) := by decide +kernel
theorem dX3_hasSheet_9 : decode cX3_hasSheet 9 = .ok (.if_icmp .ge 7, 3) := by decide +kernel
theorem dX3_hasSheet_12 : decode cX3_hasSheet 12 = .ok (.iconst 1, 1) := by decide +kernel
theorem dX3_hasSheet_13 : decode cX3_hasSheet 13 = .ok (.goto 4, 3) := by decide +kernel
theorem dX3_hasSheet_16 : decode cX3_hasSheet 16 = .ok (.iconst 0, 1) := by decide +kernel
theorem dX3_hasSheet_17 : decode cX3_hasSheet 17 = .ok (.ireturn, 1) := by decide +kernel
theorem dX3_hasRoom_0 : decode cX3_hasRoom 0 = .ok (.aload_n 0, 1) := by decide +kernel
theorem dX3_hasRoom_1 : decode cX3_hasRoom 1 = .ok (.getfield 21, 3) := by decide +kernel
theorem dX3_hasRoom_4 : decode cX3_hasRoom 4 = .ok (.iload_n 1, 1) := by decide +kernel
theorem dX3_hasRoom_5 : decode cX3_hasRoom 5 = .ok (.iaload, 1) := by decide +kernel
theorem dX3_hasRoom_6 : decode cX3_hasRoom 6 = .ok (.aload_n 0, 1) := by decide +kernel
theorem dX3_hasRoom_7 : decode cX3_hasRoom 7 = .ok (.getfield 15, 3) := by decide +kernel
theorem dX3_hasRoom_10 : decode cX3_hasRoom 10 = .ok (.iload_n 1, 1) := by decide +kernel
theorem dX3_hasRoom_11 : decode cX3_hasRoom 11 = .ok (.iaload, 1) := by decide +kernel
theorem dX3_hasRoom_12 : decode cX3_hasRoom 12 = .ok (.if_icmp .ge 7, 3) := by decide +kernel
theorem dX3_hasRoom_15 : decode cX3_hasRoom 15 = .ok (.iconst 1, 1) := by decide +kernel
theorem dX3_hasRoom_16 : decode cX3_hasRoom 16 = .ok (.goto 4, 3) := by decide +kernel
theorem dX3_hasRoom_19 : decode cX3_hasRoom 19 = .ok (.iconst 0, 1) := by decide +kernel
theorem dX3_hasRoom_20 : decode cX3_hasRoom 20 = .ok (.ireturn, 1) := by decide +kernel
theorem dX3_furnish_0 : decode cX3_furnish 0 = .ok (.aload_n 0, 1) := by decide +kernel
theorem dX3_furnish_1 : decode cX3_furnish 1 = .ok (.getfield 36, 3) := by decide +kernel
theorem dX3_furnish_4 : decode cX3_furnish 4 = .ok (.iconst 4, 1) := by decide +kernel
theorem dX3_furnish_5 : decode cX3_furnish 5 = .ok (.if_icmp .ge 43, 3) := by decide +kernel
theorem dX3_furnish_8 : decode cX3_furnish 8 = .ok (.aload_n 0, 1) := by decide +kernel
theorem dX3_furnish_9 : decode cX3_furnish 9 = .ok (.getfield 15, 3) := by decide +kernel
theorem dX3_furnish_12 : decode cX3_furnish 12 = .ok (.aload_n 0, 1) := by decide +kernel
theorem dX3_furnish_13 : decode cX3_furnish 13 = .ok (.getfield 36, 3) := by decide +kernel
theorem dX3_furnish_16 : decode cX3_furnish 16 = .ok (.iload_n 1, 1) := by decide +kernel
theorem dX3_furnish_17 : decode cX3_furnish 17 = .ok (.iastore, 1) := by decide +kernel
theorem dX3_furnish_18 : decode cX3_furnish 18 = .ok (.aload_n 0, 1) := by decide +kernel
theorem dX3_furnish_19 : decode cX3_furnish 19 = .ok (.getfield 18, 3) := by decide +kernel
theorem dX3_furnish_22 : decode cX3_furnish 22 = .ok (.aload_n 0, 1) := by decide +kernel
theorem dX3_furnish_23 : decode cX3_furnish 23 = .ok (.getfield 36, 3) := by decide +kernel
theorem dX3_furnish_26 : decode cX3_furnish 26 = .ok (.iload_n 2, 1) := by decide +kernel
theorem dX3_furnish_27 : decode cX3_furnish 27 = .ok (.iastore, 1) := by decide +kernel
theorem dX3_furnish_28 : decode cX3_furnish 28 = .ok (.aload_n 0, 1) := by decide +kernel
theorem dX3_furnish_29 : decode cX3_furnish 29 = .ok (.getfield 21, 3) := by decide +kernel
theorem dX3_furnish_32 : decode cX3_furnish 32 = .ok (.aload_n 0, 1) := by decide +kernel
theorem dX3_furnish_33 : decode cX3_furnish 33 = .ok (.getfield 36, 3) := by decide +kernel
theorem dX3_furnish_36 : decode cX3_furnish 36 = .ok (.iconst 0, 1) := by decide +kernel
theorem dX3_furnish_37 : decode cX3_furnish 37 = .ok (.iastore, 1) := by decide +kernel
theorem dX3_furnish_38 : decode cX3_furnish 38 = .ok (.aload_n 0, 1) := by decide +kernel
theorem dX3_furnish_39 : decode cX3_furnish 39 = .ok (.dup, 1) := by decide +kernel
theorem dX3_furnish_40 : decode cX3_furnish 40 = .ok (.getfield 36, 3) := by decide +kernel
theorem dX3_furnish_43 : decode cX3_furnish 43 = .ok (.iconst 1, 1) := by decide +kernel
theorem dX3_furnish_44 : decode cX3_furnish 44 = .ok (.iadd, 1) := by decide +kernel
theorem dX3_furnish_45 : decode cX3_furnish 45 = .ok (.putfield 36, 3) := by decide +kernel
theorem dX3_furnish_48 : decode cX3_furnish 48 = .ok (.return_, 1) := by decide +kernel
theorem dX3_bring_0 : decode cX3_bring 0 = .ok (.aload_n 0, 1) := by decide +kernel
theorem dX3_bring_1 : decode cX3_bring 1 = .ok (.getfield 40, 3) := by decide +kernel
theorem dX3_bring_4 : decode cX3_bring 4 = .ok (.istore 5, 2) := by decide +kernel
theorem dX3_bring_6 : decode cX3_bring 6 = .ok (.iload 5, 2) := by decide +kernel
theorem dX3_bring_8 : decode cX3_bring 8 = .ok (.bipush 16, 2) := by decide +kernel
theorem dX3_bring_10 : decode cX3_bring 10 = .ok (.if_icmp .ge 45, 3) := by decide +kernel
theorem dX3_bring_13 : decode cX3_bring 13 = .ok (.aload_n 0, 1) := by decide +kernel
theorem dX3_bring_14 : decode cX3_bring 14 = .ok (.getfield 27, 3) := by decide +kernel
theorem dX3_bring_17 : decode cX3_bring 17 = .ok (.iload 5, 2) := by decide +kernel
theorem dX3_bring_19 : decode cX3_bring 19 = .ok (.iload_n 1, 1) := by decide +kernel
theorem dX3_bring_20 : decode cX3_bring 20 = .ok (.iastore, 1) := by decide +kernel
theorem dX3_bring_21 : decode cX3_bring 21 = .ok (.aload_n 0, 1) := by decide +kernel
theorem dX3_bring_22 : decode cX3_bring 22 = .ok (.getfield 30, 3) := by decide +kernel
theorem dX3_bring_25 : decode cX3_bring 25 = .ok (.iload 5, 2) := by decide +kernel
theorem dX3_bring_27 : decode cX3_bring 27 = .ok (.iload_n 3, 1) := by decide +kernel
theorem dX3_bring_28 : decode cX3_bring 28 = .ok (.iastore, 1) := by decide +kernel
theorem dX3_bring_29 : decode cX3_bring 29 = .ok (.aload_n 0, 1) := by decide +kernel
theorem dX3_bring_30 : decode cX3_bring 30 = .ok (.getfield 33, 3) := by decide +kernel
theorem dX3_bring_33 : decode cX3_bring 33 = .ok (.iload 5, 2) := by decide +kernel
theorem dX3_bring_35 : decode cX3_bring 35 = .ok (.iload 4, 2) := by decide +kernel
theorem dX3_bring_37 : decode cX3_bring 37 = .ok (.iastore, 1) := by decide +kernel
theorem dX3_bring_38 : decode cX3_bring 38 = .ok (.aload_n 0, 1) := by decide +kernel
theorem dX3_bring_39 : decode cX3_bring 39 = .ok (.dup, 1) := by decide +kernel
theorem dX3_bring_40 : decode cX3_bring 40 = .ok (.getfield 40, 3) := by decide +kernel
theorem dX3_bring_43 : decode cX3_bring 43 = .ok (.iconst 1, 1) := by decide +kernel
theorem dX3_bring_44 : decode cX3_bring 44 = .ok (.iadd, 1) := by decide +kernel
theorem dX3_bring_45 : decode cX3_bring 45 = .ok (.putfield 40, 3) := by decide +kernel
theorem dX3_bring_48 : decode cX3_bring 48 = .ok (.aload_n 0, 1) := by decide +kernel
theorem dX3_bring_49 : decode cX3_bring 49 = .ok (.iload 5, 2) := by decide +kernel
theorem dX3_bring_51 : decode cX3_bring 51 = .ok (.iload_n 2, 1) := by decide +kernel
theorem dX3_bring_52 : decode cX3_bring 52 = .ok (.invokevirtual 55, 3) := by decide +kernel
theorem dX3_bring_55 : decode cX3_bring 55 = .ok (.iload 5, 2) := by decide +kernel
theorem dX3_bring_57 : decode cX3_bring 57 = .ok (.ireturn, 1) := by decide +kernel
theorem dX3_at_0 : decode cX3_at 0 = .ok (.aload_n 0, 1) := by decide +kernel
theorem dX3_at_1 : decode cX3_at 1 = .ok (.getfield 24, 3) := by decide +kernel
theorem dX3_at_4 : decode cX3_at 4 = .ok (.iload_n 1, 1) := by decide +kernel
theorem dX3_at_5 : decode cX3_at 5 = .ok (.bipush 9, 2) := by decide +kernel
theorem dX3_at_7 : decode cX3_at 7 = .ok (.imul, 1) := by decide +kernel
theorem dX3_at_8 : decode cX3_at 8 = .ok (.iload_n 2, 1) := by decide +kernel
theorem dX3_at_9 : decode cX3_at 9 = .ok (.iadd, 1) := by decide +kernel
theorem dX3_at_10 : decode cX3_at 10 = .ok (.iaload, 1) := by decide +kernel
theorem dX3_at_11 : decode cX3_at 11 = .ok (.ireturn, 1) := by decide +kernel
theorem dX3_putOn_0 : decode cX3_putOn 0 = .ok (.aload_n 0, 1) := by decide +kernel
theorem dX3_putOn_1 : decode cX3_putOn 1 = .ok (.iload_n 2, 1) := by decide +kernel
theorem dX3_putOn_2 : decode cX3_putOn 2 = .ok (.invokevirtual 59, 3) := by decide +kernel
theorem dX3_putOn_5 : decode cX3_putOn 5 = .ok (.ifCond .eq 30, 3) := by decide +kernel
theorem dX3_putOn_8 : decode cX3_putOn 8 = .ok (.aload_n 0, 1) := by decide +kernel
theorem dX3_putOn_9 : decode cX3_putOn 9 = .ok (.getfield 24, 3) := by decide +kernel
theorem dX3_putOn_12 : decode cX3_putOn 12 = .ok (.iload_n 2, 1) := by decide +kernel
theorem dX3_putOn_13 : decode cX3_putOn 13 = .ok (.bipush 9, 2) := by decide +kernel
theorem dX3_putOn_15 : decode cX3_putOn 15 = .ok (.imul, 1) := by decide +kernel
theorem dX3_putOn_16 : decode cX3_putOn 16 = .ok (.aload_n 0, 1) := by decide +kernel
theorem dX3_putOn_17 : decode cX3_putOn 17 = .ok (.getfield 21, 3) := by decide +kernel
theorem dX3_putOn_20 : decode cX3_putOn 20 = .ok (.iload_n 2, 1) := by decide +kernel
theorem dX3_putOn_21 : decode cX3_putOn 21 = .ok (.iaload, 1) := by decide +kernel
theorem dX3_putOn_22 : decode cX3_putOn 22 = .ok (.iadd, 1) := by decide +kernel
theorem dX3_putOn_23 : decode cX3_putOn 23 = .ok (.iload_n 1, 1) := by decide +kernel
theorem dX3_putOn_24 : decode cX3_putOn 24 = .ok (.iastore, 1) := by decide +kernel
theorem dX3_putOn_25 : decode cX3_putOn 25 = .ok (.aload_n 0, 1) := by decide +kernel
theorem dX3_putOn_26 : decode cX3_putOn 26 = .ok (.getfield 21, 3) := by decide +kernel
theorem dX3_putOn_29 : decode cX3_putOn 29 = .ok (.iload_n 2, 1) := by decide +kernel
theorem dX3_putOn_30 : decode cX3_putOn 30 = .ok (.dup2, 1) := by decide +kernel
theorem dX3_putOn_31 : decode cX3_putOn 31 = .ok (.iaload, 1) := by decide +kernel
theorem dX3_putOn_32 : decode cX3_putOn 32 = .ok (.iconst 1, 1) := by decide +kernel
theorem dX3_putOn_33 : decode cX3_putOn 33 = .ok (.iadd, 1) := by decide +kernel
theorem dX3_putOn_34 : decode cX3_putOn 34 = .ok (.iastore, 1) := by decide +kernel
theorem dX3_putOn_35 : decode cX3_putOn 35 = .ok (.return_, 1) := by decide +kernel
theorem dX3_takeOff_0 : decode cX3_takeOff 0 = .ok (.aload_n 0, 1) := by decide +kernel
theorem dX3_takeOff_1 : decode cX3_takeOff 1 = .ok (.iload_n 1, 1) := by decide +kernel
theorem dX3_takeOff_2 : decode cX3_takeOff 2 = .ok (.invokevirtual 63, 3) := by decide +kernel
theorem dX3_takeOff_5 : decode cX3_takeOff 5 = .ok (.istore_n 2, 1) := by decide +kernel
theorem dX3_takeOff_6 : decode cX3_takeOff 6 = .ok (.iload_n 2, 1) := by decide +kernel
theorem dX3_takeOff_7 : decode cX3_takeOff 7 = .ok (.ifCond .ge 4, 3) := by decide +kernel
theorem dX3_takeOff_10 : decode cX3_takeOff 10 = .ok (.return_, 1) := by decide +kernel
theorem dX3_takeOff_11 : decode cX3_takeOff 11 = .ok (.aload_n 0, 1) := by decide +kernel
theorem dX3_takeOff_12 : decode cX3_takeOff 12 = .ok (.getfield 21, 3) := by decide +kernel
theorem dX3_takeOff_15 : decode cX3_takeOff 15 = .ok (.iload_n 2, 1) := by decide +kernel
theorem dX3_takeOff_16 : decode cX3_takeOff 16 = .ok (.iaload, 1) := by decide +kernel
theorem dX3_takeOff_17 : decode cX3_takeOff 17 = .ok (.iconst 1, 1) := by decide +kernel
theorem dX3_takeOff_18 : decode cX3_takeOff 18 = .ok (.isub, 1) := by decide +kernel
theorem dX3_takeOff_19 : decode cX3_takeOff 19 = .ok (.istore_n 3, 1) := by decide +kernel
theorem dX3_takeOff_20 : decode cX3_takeOff 20 = .ok (.iload_n 3, 1) := by decide +kernel
theorem dX3_takeOff_21 : decode cX3_takeOff 21 = .ok (.aload_n 0, 1) := by decide +kernel
theorem dX3_takeOff_22 : decode cX3_takeOff 22 = .ok (.iload_n 1, 1) := by decide +kernel
theorem dX3_takeOff_23 : decode cX3_takeOff 23 = .ok (.invokevirtual 67, 3) := by decide +kernel
theorem dX3_takeOff_26 : decode cX3_takeOff 26 = .ok (.isub, 1) := by decide +kernel
theorem dX3_takeOff_27 : decode cX3_takeOff 27 = .ok (.istore 4, 2) := by decide +kernel
theorem dX3_takeOff_29 : decode cX3_takeOff 29 = .ok (.iload 4, 2) := by decide +kernel
theorem dX3_takeOff_31 : decode cX3_takeOff 31 = .ok (.iload_n 3, 1) := by decide +kernel
theorem dX3_takeOff_32 : decode cX3_takeOff 32 = .ok (.if_icmp .ge 30, 3) := by decide +kernel
theorem dX3_takeOff_35 : decode cX3_takeOff 35 = .ok (.aload_n 0, 1) := by decide +kernel
theorem dX3_takeOff_36 : decode cX3_takeOff 36 = .ok (.getfield 24, 3) := by decide +kernel
theorem dX3_takeOff_39 : decode cX3_takeOff 39 = .ok (.iload_n 2, 1) := by decide +kernel
theorem dX3_takeOff_40 : decode cX3_takeOff 40 = .ok (.bipush 9, 2) := by decide +kernel
theorem dX3_takeOff_42 : decode cX3_takeOff 42 = .ok (.imul, 1) := by decide +kernel
theorem dX3_takeOff_43 : decode cX3_takeOff 43 = .ok (.iload 4, 2) := by decide +kernel
theorem dX3_takeOff_45 : decode cX3_takeOff 45 = .ok (.iadd, 1) := by decide +kernel
theorem dX3_takeOff_46 : decode cX3_takeOff 46 = .ok (.aload_n 0, 1) := by decide +kernel
theorem dX3_takeOff_47 : decode cX3_takeOff 47 = .ok (.iload_n 2, 1) := by decide +kernel
theorem dX3_takeOff_48 : decode cX3_takeOff 48 = .ok (.iload 4, 2) := by decide +kernel
theorem dX3_takeOff_50 : decode cX3_takeOff 50 = .ok (.iconst 1, 1) := by decide +kernel
theorem dX3_takeOff_51 : decode cX3_takeOff 51 = .ok (.iadd, 1) := by decide +kernel
theorem dX3_takeOff_52 : decode cX3_takeOff 52 = .ok (.invokevirtual 70, 3) := by decide +kernel
theorem dX3_takeOff_55 : decode cX3_takeOff 55 = .ok (.iastore, 1) := by decide +kernel
theorem dX3_takeOff_56 : decode cX3_takeOff 56 = .ok (.iinc 4 1, 3) := by decide +kernel
theorem dX3_takeOff_59 : decode cX3_takeOff 59 = .ok (.goto (-30), 3) := by decide +kernel
theorem dX3_takeOff_62 : decode cX3_takeOff 62 = .ok (.aload_n 0, 1) := by decide +kernel
theorem dX3_takeOff_63 : decode cX3_takeOff 63 = .ok (.getfield 21, 3) := by decide +kernel
theorem dX3_takeOff_66 : decode cX3_takeOff 66 = .ok (.iload_n 2, 1) := by decide +kernel
theorem dX3_takeOff_67 : decode cX3_takeOff 67 = .ok (.iload_n 3, 1) := by decide +kernel
theorem dX3_takeOff_68 : decode cX3_takeOff 68 = .ok (.iastore, 1) := by decide +kernel
theorem dX3_takeOff_69 : decode cX3_takeOff 69 = .ok (.return_, 1) := by decide +kernel
theorem dX3_deskOf_0 : decode cX3_deskOf 0 = .ok (.iconst 0, 1) := by decide +kernel
theorem dX3_deskOf_1 : decode cX3_deskOf 1 = .ok (.istore_n 2, 1) := by decide +kernel
theorem dX3_deskOf_2 : decode cX3_deskOf 2 = .ok (.iload_n 2, 1) := by decide +kernel
theorem dX3_deskOf_3 : decode cX3_deskOf 3 = .ok (.aload_n 0, 1) := by decide +kernel
theorem dX3_deskOf_4 : decode cX3_deskOf 4 = .ok (.getfield 36, 3) := by decide +kernel
theorem dX3_deskOf_7 : decode cX3_deskOf 7 = .ok (.if_icmp .ge 23, 3) := by decide +kernel
theorem dX3_deskOf_10 : decode cX3_deskOf 10 = .ok (.aload_n 0, 1) := by decide +kernel
theorem dX3_deskOf_11 : decode cX3_deskOf 11 = .ok (.iload_n 2, 1) := by decide +kernel
theorem dX3_deskOf_12 : decode cX3_deskOf 12 = .ok (.invokevirtual 74, 3) := by decide +kernel
theorem dX3_deskOf_15 : decode cX3_deskOf 15 = .ok (.iload_n 1, 1) := by decide +kernel
theorem dX3_deskOf_16 : decode cX3_deskOf 16 = .ok (.ishr, 1) := by decide +kernel
theorem dX3_deskOf_17 : decode cX3_deskOf 17 = .ok (.iconst 1, 1) := by decide +kernel
theorem dX3_deskOf_18 : decode cX3_deskOf 18 = .ok (.iand, 1) := by decide +kernel
theorem dX3_deskOf_19 : decode cX3_deskOf 19 = .ok (.ifCond .eq 5, 3) := by decide +kernel
theorem dX3_deskOf_22 : decode cX3_deskOf 22 = .ok (.iload_n 2, 1) := by decide +kernel
theorem dX3_deskOf_23 : decode cX3_deskOf 23 = .ok (.ireturn, 1) := by decide +kernel
theorem dX3_deskOf_24 : decode cX3_deskOf 24 = .ok (.iinc 2 1, 3) := by decide +kernel
theorem dX3_deskOf_27 : decode cX3_deskOf 27 = .ok (.goto (-25), 3) := by decide +kernel
theorem dX3_deskOf_30 : decode cX3_deskOf 30 = .ok (.iconst (-1), 1) := by decide +kernel
theorem dX3_deskOf_31 : decode cX3_deskOf 31 = .ok (.ireturn, 1) := by decide +kernel
theorem dX3_above_0 : decode cX3_above 0 = .ok (.aload_n 0, 1) := by decide +kernel
theorem dX3_above_1 : decode cX3_above 1 = .ok (.iload_n 1, 1) := by decide +kernel
theorem dX3_above_2 : decode cX3_above 2 = .ok (.invokevirtual 63, 3) := by decide +kernel
theorem dX3_above_5 : decode cX3_above 5 = .ok (.istore_n 2, 1) := by decide +kernel
theorem dX3_above_6 : decode cX3_above 6 = .ok (.iload_n 2, 1) := by decide +kernel
theorem dX3_above_7 : decode cX3_above 7 = .ok (.ifCond .ge 5, 3) := by decide +kernel
theorem dX3_above_10 : decode cX3_above 10 = .ok (.iconst 0, 1) := by decide +kernel
theorem dX3_above_11 : decode cX3_above 11 = .ok (.ireturn, 1) := by decide +kernel
theorem dX3_above_12 : decode cX3_above 12 = .ok (.iconst 0, 1) := by decide +kernel
theorem dX3_above_13 : decode cX3_above 13 = .ok (.istore_n 3, 1) := by decide +kernel
theorem dX3_above_14 : decode cX3_above 14 = .ok (.aload_n 0, 1) := by decide +kernel
theorem dX3_above_15 : decode cX3_above 15 = .ok (.getfield 21, 3) := by decide +kernel
theorem dX3_above_18 : decode cX3_above 18 = .ok (.iload_n 2, 1) := by decide +kernel
theorem dX3_above_19 : decode cX3_above 19 = .ok (.iaload, 1) := by decide +kernel
theorem dX3_above_20 : decode cX3_above 20 = .ok (.iconst 1, 1) := by decide +kernel
theorem dX3_above_21 : decode cX3_above 21 = .ok (.isub, 1) := by decide +kernel
theorem dX3_above_22 : decode cX3_above 22 = .ok (.istore 4, 2) := by decide +kernel
theorem dX3_above_24 : decode cX3_above 24 = .ok (.iload 4, 2) := by decide +kernel
theorem dX3_above_26 : decode cX3_above 26 = .ok (.ifCond .lt 23, 3) := by decide +kernel
theorem dX3_above_29 : decode cX3_above 29 = .ok (.aload_n 0, 1) := by decide +kernel
theorem dX3_above_30 : decode cX3_above 30 = .ok (.iload_n 2, 1) := by decide +kernel
theorem dX3_above_31 : decode cX3_above 31 = .ok (.iload 4, 2) := by decide +kernel
theorem dX3_above_33 : decode cX3_above 33 = .ok (.invokevirtual 70, 3) := by decide +kernel
theorem dX3_above_36 : decode cX3_above 36 = .ok (.iload_n 1, 1) := by decide +kernel
theorem dX3_above_37 : decode cX3_above 37 = .ok (.if_icmp .eq 12, 3) := by decide +kernel
theorem dX3_above_40 : decode cX3_above 40 = .ok (.iinc 3 1, 3) := by decide +kernel
theorem dX3_above_43 : decode cX3_above 43 = .ok (.iinc 4 (-1), 3) := by decide +kernel
theorem dX3_above_46 : decode cX3_above 46 = .ok (.goto (-22), 3) := by decide +kernel
theorem dX3_above_49 : decode cX3_above 49 = .ok (.iload_n 3, 1) := by decide +kernel
theorem dX3_above_50 : decode cX3_above 50 = .ok (.ireturn, 1) := by decide +kernel
theorem dX3_setOn_0 : decode cX3_setOn 0 = .ok (.iconst 0, 1) := by decide +kernel
theorem dX3_setOn_1 : decode cX3_setOn 1 = .ok (.istore_n 2, 1) := by decide +kernel
theorem dX3_setOn_2 : decode cX3_setOn 2 = .ok (.iconst 0, 1) := by decide +kernel
theorem dX3_setOn_3 : decode cX3_setOn 3 = .ok (.istore_n 3, 1) := by decide +kernel
theorem dX3_setOn_4 : decode cX3_setOn 4 = .ok (.iload_n 3, 1) := by decide +kernel
theorem dX3_setOn_5 : decode cX3_setOn 5 = .ok (.aload_n 0, 1) := by decide +kernel
theorem dX3_setOn_6 : decode cX3_setOn 6 = .ok (.getfield 21, 3) := by decide +kernel
theorem dX3_setOn_9 : decode cX3_setOn 9 = .ok (.iload_n 1, 1) := by decide +kernel
theorem dX3_setOn_10 : decode cX3_setOn 10 = .ok (.iaload, 1) := by decide +kernel
theorem dX3_setOn_11 : decode cX3_setOn 11 = .ok (.if_icmp .ge 20, 3) := by decide +kernel
theorem dX3_setOn_14 : decode cX3_setOn 14 = .ok (.iload_n 2, 1) := by decide +kernel
theorem dX3_setOn_15 : decode cX3_setOn 15 = .ok (.iconst 1, 1) := by decide +kernel
theorem dX3_setOn_16 : decode cX3_setOn 16 = .ok (.aload_n 0, 1) := by decide +kernel
theorem dX3_setOn_17 : decode cX3_setOn 17 = .ok (.iload_n 1, 1) := by decide +kernel
theorem dX3_setOn_18 : decode cX3_setOn 18 = .ok (.iload_n 3, 1) := by decide +kernel
theorem dX3_setOn_19 : decode cX3_setOn 19 = .ok (.invokevirtual 70, 3) := by decide +kernel
theorem dX3_setOn_22 : decode cX3_setOn 22 = .ok (.ishl, 1) := by decide +kernel
theorem dX3_setOn_23 : decode cX3_setOn 23 = .ok (.ior, 1) := by decide +kernel
theorem dX3_setOn_24 : decode cX3_setOn 24 = .ok (.istore_n 2, 1) := by decide +kernel
theorem dX3_setOn_25 : decode cX3_setOn 25 = .ok (.iinc 3 1, 3) := by decide +kernel
theorem dX3_setOn_28 : decode cX3_setOn 28 = .ok (.goto (-24), 3) := by decide +kernel
theorem dX3_setOn_31 : decode cX3_setOn 31 = .ok (.iload_n 2, 1) := by decide +kernel
theorem dX3_setOn_32 : decode cX3_setOn 32 = .ok (.ireturn, 1) := by decide +kernel
theorem dX3_isGone_0 : decode cX3_isGone 0 = .ok (.aload_n 0, 1) := by decide +kernel
theorem dX3_isGone_1 : decode cX3_isGone 1 = .ok (.iload_n 1, 1) := by decide +kernel
theorem dX3_isGone_2 : decode cX3_isGone 2 = .ok (.invokevirtual 63, 3) := by decide +kernel
theorem dX3_isGone_5 : decode cX3_isGone 5 = .ok (.ifCond .ge 7, 3) := by decide +kernel
theorem dX3_isGone_8 : decode cX3_isGone 8 = .ok (.iconst 1, 1) := by decide +kernel
theorem dX3_isGone_9 : decode cX3_isGone 9 = .ok (.goto 4, 3) := by decide +kernel
theorem dX3_isGone_12 : decode cX3_isGone 12 = .ok (.iconst 0, 1) := by decide +kernel
theorem dX3_isGone_13 : decode cX3_isGone 13 = .ok (.ireturn, 1) := by decide +kernel
theorem dX3_isMet_0 : decode cX3_isMet 0 = .ok (.aload_n 0, 1) := by decide +kernel
theorem dX3_isMet_1 : decode cX3_isMet 1 = .ok (.getfield 46, 3) := by decide +kernel
theorem dX3_isMet_4 : decode cX3_isMet 4 = .ok (.iload_n 1, 1) := by decide +kernel
theorem dX3_isMet_5 : decode cX3_isMet 5 = .ok (.ishr, 1) := by decide +kernel
theorem dX3_isMet_6 : decode cX3_isMet 6 = .ok (.iconst 1, 1) := by decide +kernel
theorem dX3_isMet_7 : decode cX3_isMet 7 = .ok (.iand, 1) := by decide +kernel
theorem dX3_isMet_8 : decode cX3_isMet 8 = .ok (.ifCond .eq 7, 3) := by decide +kernel
theorem dX3_isMet_11 : decode cX3_isMet 11 = .ok (.iconst 1, 1) := by decide +kernel
theorem dX3_isMet_12 : decode cX3_isMet 12 = .ok (.goto 4, 3) := by decide +kernel
theorem dX3_isMet_15 : decode cX3_isMet 15 = .ok (.iconst 0, 1) := by decide +kernel
theorem dX3_isMet_16 : decode cX3_isMet 16 = .ok (.ireturn, 1) := by decide +kernel
theorem dX3_isMissed_0 : decode cX3_isMissed 0 = .ok (.aload_n 0, 1) := by decide +kernel
theorem dX3_isMissed_1 : decode cX3_isMissed 1 = .ok (.getfield 33, 3) := by decide +kernel
theorem dX3_isMissed_4 : decode cX3_isMissed 4 = .ok (.iload_n 1, 1) := by decide +kernel
theorem dX3_isMissed_5 : decode cX3_isMissed 5 = .ok (.iaload, 1) := by decide +kernel
theorem dX3_isMissed_6 : decode cX3_isMissed 6 = .ok (.bipush 12, 2) := by decide +kernel
theorem dX3_isMissed_8 : decode cX3_isMissed 8 = .ok (.if_icmp .ge 36, 3) := by decide +kernel
theorem dX3_isMissed_11 : decode cX3_isMissed 11 = .ok (.aload_n 0, 1) := by decide +kernel
theorem dX3_isMissed_12 : decode cX3_isMissed 12 = .ok (.iload_n 1, 1) := by decide +kernel
theorem dX3_isMissed_13 : decode cX3_isMissed 13 = .ok (.invokevirtual 77, 3) := by decide +kernel
theorem dX3_isMissed_16 : decode cX3_isMissed 16 = .ok (.ifCond .ne 28, 3) := by decide +kernel
theorem dX3_isMissed_19 : decode cX3_isMissed 19 = .ok (.aload_n 0, 1) := by decide +kernel
theorem dX3_isMissed_20 : decode cX3_isMissed 20 = .ok (.iload_n 1, 1) := by decide +kernel
theorem dX3_isMissed_21 : decode cX3_isMissed 21 = .ok (.invokevirtual 80, 3) := by decide +kernel
theorem dX3_isMissed_24 : decode cX3_isMissed 24 = .ok (.ifCond .ne 16, 3) := by decide +kernel
theorem dX3_isMissed_27 : decode cX3_isMissed 27 = .ok (.aload_n 0, 1) := by decide +kernel
theorem dX3_isMissed_28 : decode cX3_isMissed 28 = .ok (.getfield 43, 3) := by decide +kernel
theorem dX3_isMissed_31 : decode cX3_isMissed 31 = .ok (.aload_n 0, 1) := by decide +kernel
theorem dX3_isMissed_32 : decode cX3_isMissed 32 = .ok (.getfield 33, 3) := by decide +kernel
theorem dX3_isMissed_35 : decode cX3_isMissed 35 = .ok (.iload_n 1, 1) := by decide +kernel
theorem dX3_isMissed_36 : decode cX3_isMissed 36 = .ok (.iaload, 1) := by decide +kernel
theorem dX3_isMissed_37 : decode cX3_isMissed 37 = .ok (.if_icmp .le 7, 3) := by decide +kernel
theorem dX3_isMissed_40 : decode cX3_isMissed 40 = .ok (.iconst 1, 1) := by decide +kernel
theorem dX3_isMissed_41 : decode cX3_isMissed 41 = .ok (.goto 4, 3) := by decide +kernel
theorem dX3_isMissed_44 : decode cX3_isMissed 44 = .ok (.iconst 0, 1) := by decide +kernel
theorem dX3_isMissed_45 : decode cX3_isMissed 45 = .ok (.ireturn, 1) := by decide +kernel
theorem dX3_missedSet_0 : decode cX3_missedSet 0 = .ok (.iconst 0, 1) := by decide +kernel
theorem dX3_missedSet_1 : decode cX3_missedSet 1 = .ok (.istore_n 1, 1) := by decide +kernel
theorem dX3_missedSet_2 : decode cX3_missedSet 2 = .ok (.iconst 0, 1) := by decide +kernel
theorem dX3_missedSet_3 : decode cX3_missedSet 3 = .ok (.istore_n 2, 1) := by decide +kernel
theorem dX3_missedSet_4 : decode cX3_missedSet 4 = .ok (.iload_n 2, 1) := by decide +kernel
theorem dX3_missedSet_5 : decode cX3_missedSet 5 = .ok (.aload_n 0, 1) := by decide +kernel
theorem dX3_missedSet_6 : decode cX3_missedSet 6 = .ok (.getfield 40, 3) := by decide +kernel
theorem dX3_missedSet_9 : decode cX3_missedSet 9 = .ok (.if_icmp .ge 23, 3) := by decide +kernel
theorem dX3_missedSet_12 : decode cX3_missedSet 12 = .ok (.aload_n 0, 1) := by decide +kernel
theorem dX3_missedSet_13 : decode cX3_missedSet 13 = .ok (.iload_n 2, 1) := by decide +kernel
theorem dX3_missedSet_14 : decode cX3_missedSet 14 = .ok (.invokevirtual 83, 3) := by decide +kernel
theorem dX3_missedSet_17 : decode cX3_missedSet 17 = .ok (.ifCond .eq 9, 3) := by decide +kernel
theorem dX3_missedSet_20 : decode cX3_missedSet 20 = .ok (.iload_n 1, 1) := by decide +kernel
theorem dX3_missedSet_21 : decode cX3_missedSet 21 = .ok (.iconst 1, 1) := by decide +kernel
theorem dX3_missedSet_22 : decode cX3_missedSet 22 = .ok (.iload_n 2, 1) := by decide +kernel
theorem dX3_missedSet_23 : decode cX3_missedSet 23 = .ok (.ishl, 1) := by decide +kernel
theorem dX3_missedSet_24 : decode cX3_missedSet 24 = .ok (.ior, 1) := by decide +kernel
theorem dX3_missedSet_25 : decode cX3_missedSet 25 = .ok (.istore_n 1, 1) := by decide +kernel
theorem dX3_missedSet_26 : decode cX3_missedSet 26 = .ok (.iinc 2 1, 3) := by decide +kernel
theorem dX3_missedSet_29 : decode cX3_missedSet 29 = .ok (.goto (-25), 3) := by decide +kernel
theorem dX3_missedSet_32 : decode cX3_missedSet 32 = .ok (.iload_n 1, 1) := by decide +kernel
theorem dX3_missedSet_33 : decode cX3_missedSet 33 = .ok (.ireturn, 1) := by decide +kernel
theorem dX3_goneSet_0 : decode cX3_goneSet 0 = .ok (.iconst 1, 1) := by decide +kernel
theorem dX3_goneSet_1 : decode cX3_goneSet 1 = .ok (.aload_n 0, 1) := by decide +kernel
theorem dX3_goneSet_2 : decode cX3_goneSet 2 = .ok (.getfield 40, 3) := by decide +kernel
theorem dX3_goneSet_5 : decode cX3_goneSet 5 = .ok (.ishl, 1) := by decide +kernel
theorem dX3_goneSet_6 : decode cX3_goneSet 6 = .ok (.iconst 1, 1) := by decide +kernel
theorem dX3_goneSet_7 : decode cX3_goneSet 7 = .ok (.isub, 1) := by decide +kernel
theorem dX3_goneSet_8 : decode cX3_goneSet 8 = .ok (.istore_n 1, 1) := by decide +kernel
theorem dX3_goneSet_9 : decode cX3_goneSet 9 = .ok (.iconst 0, 1) := by decide +kernel
theorem dX3_goneSet_10 : decode cX3_goneSet 10 = .ok (.istore_n 2, 1) := by decide +kernel
theorem dX3_goneSet_11 : decode cX3_goneSet 11 = .ok (.iload_n 2, 1) := by decide +kernel
theorem dX3_goneSet_12 : decode cX3_goneSet 12 = .ok (.aload_n 0, 1) := by decide +kernel
theorem dX3_goneSet_13 : decode cX3_goneSet 13 = .ok (.getfield 36, 3) := by decide +kernel
theorem dX3_goneSet_16 : decode cX3_goneSet 16 = .ok (.if_icmp .ge 19, 3) := by decide +kernel
theorem dX3_goneSet_19 : decode cX3_goneSet 19 = .ok (.iload_n 1, 1) := by decide +kernel
theorem dX3_goneSet_20 : decode cX3_goneSet 20 = .ok (.aload_n 0, 1) := by decide +kernel
theorem dX3_goneSet_21 : decode cX3_goneSet 21 = .ok (.iload_n 2, 1) := by decide +kernel
theorem dX3_goneSet_22 : decode cX3_goneSet 22 = .ok (.invokevirtual 74, 3) := by decide +kernel
theorem dX3_goneSet_25 : decode cX3_goneSet 25 = .ok (.iconst (-1), 1) := by decide +kernel
theorem dX3_goneSet_26 : decode cX3_goneSet 26 = .ok (.ixor, 1) := by decide +kernel
theorem dX3_goneSet_27 : decode cX3_goneSet 27 = .ok (.iand, 1) := by decide +kernel
theorem dX3_goneSet_28 : decode cX3_goneSet 28 = .ok (.istore_n 1, 1) := by decide +kernel
theorem dX3_goneSet_29 : decode cX3_goneSet 29 = .ok (.iinc 2 1, 3) := by decide +kernel
theorem dX3_goneSet_32 : decode cX3_goneSet 32 = .ok (.goto (-21), 3) := by decide +kernel
theorem dX3_goneSet_35 : decode cX3_goneSet 35 = .ok (.iload_n 1, 1) := by decide +kernel
theorem dX3_goneSet_36 : decode cX3_goneSet 36 = .ok (.ireturn, 1) := by decide +kernel
theorem dX3_worthOf_0 : decode cX3_worthOf 0 = .ok (.iconst 0, 1) := by decide +kernel
theorem dX3_worthOf_1 : decode cX3_worthOf 1 = .ok (.istore_n 2, 1) := by decide +kernel
theorem dX3_worthOf_2 : decode cX3_worthOf 2 = .ok (.iconst 0, 1) := by decide +kernel
theorem dX3_worthOf_3 : decode cX3_worthOf 3 = .ok (.istore_n 3, 1) := by decide +kernel
theorem dX3_worthOf_4 : decode cX3_worthOf 4 = .ok (.iload_n 3, 1) := by decide +kernel
theorem dX3_worthOf_5 : decode cX3_worthOf 5 = .ok (.aload_n 0, 1) := by decide +kernel
theorem dX3_worthOf_6 : decode cX3_worthOf 6 = .ok (.getfield 40, 3) := by decide +kernel
theorem dX3_worthOf_9 : decode cX3_worthOf 9 = .ok (.if_icmp .ge 26, 3) := by decide +kernel
theorem dX3_worthOf_12 : decode cX3_worthOf 12 = .ok (.iload_n 1, 1) := by decide +kernel
theorem dX3_worthOf_13 : decode cX3_worthOf 13 = .ok (.iload_n 3, 1) := by decide +kernel
theorem dX3_worthOf_14 : decode cX3_worthOf 14 = .ok (.ishr, 1) := by decide +kernel
theorem dX3_worthOf_15 : decode cX3_worthOf 15 = .ok (.iconst 1, 1) := by decide +kernel
theorem dX3_worthOf_16 : decode cX3_worthOf 16 = .ok (.iand, 1) := by decide +kernel
theorem dX3_worthOf_17 : decode cX3_worthOf 17 = .ok (.ifCond .eq 12, 3) := by decide +kernel
theorem dX3_worthOf_20 : decode cX3_worthOf 20 = .ok (.iload_n 2, 1) := by decide +kernel
theorem dX3_worthOf_21 : decode cX3_worthOf 21 = .ok (.aload_n 0, 1) := by decide +kernel
theorem dX3_worthOf_22 : decode cX3_worthOf 22 = .ok (.getfield 30, 3) := by decide +kernel
theorem dX3_worthOf_25 : decode cX3_worthOf 25 = .ok (.iload_n 3, 1) := by decide +kernel
theorem dX3_worthOf_26 : decode cX3_worthOf 26 = .ok (.iaload, 1) := by decide +kernel
theorem dX3_worthOf_27 : decode cX3_worthOf 27 = .ok (.iadd, 1) := by decide +kernel
theorem dX3_worthOf_28 : decode cX3_worthOf 28 = .ok (.istore_n 2, 1) := by decide +kernel
theorem dX3_worthOf_29 : decode cX3_worthOf 29 = .ok (.iinc 3 1, 3) := by decide +kernel
theorem dX3_worthOf_32 : decode cX3_worthOf 32 = .ok (.goto (-28), 3) := by decide +kernel
theorem dX3_worthOf_35 : decode cX3_worthOf 35 = .ok (.iload_n 2, 1) := by decide +kernel
theorem dX3_worthOf_36 : decode cX3_worthOf 36 = .ok (.ireturn, 1) := by decide +kernel
theorem dX3_takenFrom_0 : decode cX3_takenFrom 0 = .ok (.iload_n 2, 1) := by decide +kernel
theorem dX3_takenFrom_1 : decode cX3_takenFrom 1 = .ok (.aload_n 0, 1) := by decide +kernel
theorem dX3_takenFrom_2 : decode cX3_takenFrom 2 = .ok (.getfield 21, 3) := by decide +kernel
theorem dX3_takenFrom_5 : decode cX3_takenFrom 5 = .ok (.iload_n 1, 1) := by decide +kernel
theorem dX3_takenFrom_6 : decode cX3_takenFrom 6 = .ok (.iaload, 1) := by decide +kernel
theorem dX3_takenFrom_7 : decode cX3_takenFrom 7 = .ok (.aload_n 0, 1) := by decide +kernel
theorem dX3_takenFrom_8 : decode cX3_takenFrom 8 = .ok (.getfield 18, 3) := by decide +kernel
theorem dX3_takenFrom_11 : decode cX3_takenFrom 11 = .ok (.iload_n 1, 1) := by decide +kernel
theorem dX3_takenFrom_12 : decode cX3_takenFrom 12 = .ok (.iaload, 1) := by decide +kernel
theorem dX3_takenFrom_13 : decode cX3_takenFrom 13 = .ok (.isub, 1) := by decide +kernel
theorem dX3_takenFrom_14 : decode cX3_takenFrom 14 = .ok (.invokestatic 86, 3) := by decide +kernel
theorem dX3_takenFrom_17 : decode cX3_takenFrom 17 = .ok (.istore_n 3, 1) := by decide +kernel
theorem dX3_takenFrom_18 : decode cX3_takenFrom 18 = .ok (.iconst 0, 1) := by decide +kernel
theorem dX3_takenFrom_19 : decode cX3_takenFrom 19 = .ok (.istore 4, 2) := by decide +kernel
theorem dX3_takenFrom_21 : decode cX3_takenFrom 21 = .ok (.iload 4, 2) := by decide +kernel
theorem dX3_takenFrom_23 : decode cX3_takenFrom 23 = .ok (.iload_n 3, 1) := by decide +kernel
theorem dX3_takenFrom_24 : decode cX3_takenFrom 24 = .ok (.if_icmp .ge 34, 3) := by decide +kernel
theorem dX3_takenFrom_27 : decode cX3_takenFrom 27 = .ok (.aload_n 0, 1) := by decide +kernel
theorem dX3_takenFrom_28 : decode cX3_takenFrom 28 = .ok (.getfield 27, 3) := by decide +kernel
theorem dX3_takenFrom_31 : decode cX3_takenFrom 31 = .ok (.aload_n 0, 1) := by decide +kernel
theorem dX3_takenFrom_32 : decode cX3_takenFrom 32 = .ok (.iload_n 1, 1) := by decide +kernel
theorem dX3_takenFrom_33 : decode cX3_takenFrom 33 = .ok (.aload_n 0, 1) := by decide +kernel
theorem dX3_takenFrom_34 : decode cX3_takenFrom 34 = .ok (.getfield 21, 3) := by decide +kernel
theorem dX3_takenFrom_37 : decode cX3_takenFrom 37 = .ok (.iload_n 1, 1) := by decide +kernel
theorem dX3_takenFrom_38 : decode cX3_takenFrom 38 = .ok (.iaload, 1) := by decide +kernel
theorem dX3_takenFrom_39 : decode cX3_takenFrom 39 = .ok (.iconst 1, 1) := by decide +kernel
theorem dX3_takenFrom_40 : decode cX3_takenFrom 40 = .ok (.isub, 1) := by decide +kernel
theorem dX3_takenFrom_41 : decode cX3_takenFrom 41 = .ok (.iload 4, 2) := by decide +kernel
theorem dX3_takenFrom_43 : decode cX3_takenFrom 43 = .ok (.isub, 1) := by decide +kernel
theorem dX3_takenFrom_44 : decode cX3_takenFrom 44 = .ok (.invokevirtual 70, 3) := by decide +kernel
theorem dX3_takenFrom_47 : decode cX3_takenFrom 47 = .ok (.iaload, 1) := by decide +kernel
theorem dX3_takenFrom_48 : decode cX3_takenFrom 48 = .ok (.iconst 5, 1) := by decide +kernel
theorem dX3_takenFrom_49 : decode cX3_takenFrom 49 = .ok (.if_icmp .eq 9, 3) := by decide +kernel
theorem dX3_takenFrom_52 : decode cX3_takenFrom 52 = .ok (.iinc 4 1, 3) := by decide +kernel
theorem dX3_takenFrom_55 : decode cX3_takenFrom 55 = .ok (.goto (-34), 3) := by decide +kernel
theorem dX3_takenFrom_58 : decode cX3_takenFrom 58 = .ok (.iload 4, 2) := by decide +kernel
theorem dX3_takenFrom_60 : decode cX3_takenFrom 60 = .ok (.ireturn, 1) := by decide +kernel
theorem dX3_lostFrom_0 : decode cX3_lostFrom 0 = .ok (.iconst 0, 1) := by decide +kernel
theorem dX3_lostFrom_1 : decode cX3_lostFrom 1 = .ok (.istore_n 3, 1) := by decide +kernel
theorem dX3_lostFrom_2 : decode cX3_lostFrom 2 = .ok (.aload_n 0, 1) := by decide +kernel
theorem dX3_lostFrom_3 : decode cX3_lostFrom 3 = .ok (.iload_n 1, 1) := by decide +kernel
theorem dX3_lostFrom_4 : decode cX3_lostFrom 4 = .ok (.iload_n 2, 1) := by decide +kernel
theorem dX3_lostFrom_5 : decode cX3_lostFrom 5 = .ok (.invokevirtual 91, 3) := by decide +kernel
theorem dX3_lostFrom_8 : decode cX3_lostFrom 8 = .ok (.istore 4, 2) := by decide +kernel
theorem dX3_lostFrom_10 : decode cX3_lostFrom 10 = .ok (.iload 4, 2) := by decide +kernel
theorem dX3_lostFrom_12 : decode cX3_lostFrom 12 = .ok (.ifCond .le 31, 3) := by decide +kernel
theorem dX3_lostFrom_15 : decode cX3_lostFrom 15 = .ok (.iload_n 3, 1) := by decide +kernel
theorem dX3_lostFrom_16 : decode cX3_lostFrom 16 = .ok (.aload_n 0, 1) := by decide +kernel
theorem dX3_lostFrom_17 : decode cX3_lostFrom 17 = .ok (.getfield 30, 3) := by decide +kernel
theorem dX3_lostFrom_20 : decode cX3_lostFrom 20 = .ok (.aload_n 0, 1) := by decide +kernel
theorem dX3_lostFrom_21 : decode cX3_lostFrom 21 = .ok (.iload_n 1, 1) := by decide +kernel
theorem dX3_lostFrom_22 : decode cX3_lostFrom 22 = .ok (.aload_n 0, 1) := by decide +kernel
theorem dX3_lostFrom_23 : decode cX3_lostFrom 23 = .ok (.getfield 21, 3) := by decide +kernel
theorem dX3_lostFrom_26 : decode cX3_lostFrom 26 = .ok (.iload_n 1, 1) := by decide +kernel
theorem dX3_lostFrom_27 : decode cX3_lostFrom 27 = .ok (.iaload, 1) := by decide +kernel
theorem dX3_lostFrom_28 : decode cX3_lostFrom 28 = .ok (.iload 4, 2) := by decide +kernel
theorem dX3_lostFrom_30 : decode cX3_lostFrom 30 = .ok (.isub, 1) := by decide +kernel
theorem dX3_lostFrom_31 : decode cX3_lostFrom 31 = .ok (.invokevirtual 70, 3) := by decide +kernel
theorem dX3_lostFrom_34 : decode cX3_lostFrom 34 = .ok (.iaload, 1) := by decide +kernel
theorem dX3_lostFrom_35 : decode cX3_lostFrom 35 = .ok (.iadd, 1) := by decide +kernel
theorem dX3_lostFrom_36 : decode cX3_lostFrom 36 = .ok (.istore_n 3, 1) := by decide +kernel
theorem dX3_lostFrom_37 : decode cX3_lostFrom 37 = .ok (.iinc 4 (-1), 3) := by decide +kernel
theorem dX3_lostFrom_40 : decode cX3_lostFrom 40 = .ok (.goto (-30), 3) := by decide +kernel
theorem dX3_lostFrom_43 : decode cX3_lostFrom 43 = .ok (.iload_n 3, 1) := by decide +kernel
theorem dX3_lostFrom_44 : decode cX3_lostFrom 44 = .ok (.ireturn, 1) := by decide +kernel
theorem dX3_takenByGust_0 : decode cX3_takenByGust 0 = .ok (.iconst 0, 1) := by decide +kernel
theorem dX3_takenByGust_1 : decode cX3_takenByGust 1 = .ok (.istore_n 2, 1) := by decide +kernel
theorem dX3_takenByGust_2 : decode cX3_takenByGust 2 = .ok (.iconst 0, 1) := by decide +kernel
theorem dX3_takenByGust_3 : decode cX3_takenByGust 3 = .ok (.istore_n 3, 1) := by decide +kernel
theorem dX3_takenByGust_4 : decode cX3_takenByGust 4 = .ok (.iload_n 3, 1) := by decide +kernel
theorem dX3_takenByGust_5 : decode cX3_takenByGust 5 = .ok (.aload_n 0, 1) := by decide +kernel
theorem dX3_takenByGust_6 : decode cX3_takenByGust 6 = .ok (.getfield 36, 3) := by decide +kernel
theorem dX3_takenByGust_9 : decode cX3_takenByGust 9 = .ok (.if_icmp .ge 41, 3) := by decide +kernel
theorem dX3_takenByGust_12 : decode cX3_takenByGust 12 = .ok (.aload_n 0, 1) := by decide +kernel
theorem dX3_takenByGust_13 : decode cX3_takenByGust 13 = .ok (.iload_n 3, 1) := by decide +kernel
theorem dX3_takenByGust_14 : decode cX3_takenByGust 14 = .ok (.iload_n 1, 1) := by decide +kernel
theorem dX3_takenByGust_15 : decode cX3_takenByGust 15 = .ok (.iconst 1, 1) := by decide +kernel
theorem dX3_takenByGust_16 : decode cX3_takenByGust 16 = .ok (.iadd, 1) := by decide +kernel
theorem dX3_takenByGust_17 : decode cX3_takenByGust 17 = .ok (.invokevirtual 91, 3) := by decide +kernel
theorem dX3_takenByGust_20 : decode cX3_takenByGust 20 = .ok (.iload_n 1, 1) := by decide +kernel
theorem dX3_takenByGust_21 : decode cX3_takenByGust 21 = .ok (.if_icmp .le 23, 3) := by decide +kernel
theorem dX3_takenByGust_24 : decode cX3_takenByGust 24 = .ok (.iload_n 2, 1) := by decide +kernel
theorem dX3_takenByGust_25 : decode cX3_takenByGust 25 = .ok (.iconst 1, 1) := by decide +kernel
theorem dX3_takenByGust_26 : decode cX3_takenByGust 26 = .ok (.aload_n 0, 1) := by decide +kernel
theorem dX3_takenByGust_27 : decode cX3_takenByGust 27 = .ok (.iload_n 3, 1) := by decide +kernel
theorem dX3_takenByGust_28 : decode cX3_takenByGust 28 = .ok (.aload_n 0, 1) := by decide +kernel
theorem dX3_takenByGust_29 : decode cX3_takenByGust 29 = .ok (.getfield 21, 3) := by decide +kernel
theorem dX3_takenByGust_32 : decode cX3_takenByGust 32 = .ok (.iload_n 3, 1) := by decide +kernel
theorem dX3_takenByGust_33 : decode cX3_takenByGust 33 = .ok (.iaload, 1) := by decide +kernel
theorem dX3_takenByGust_34 : decode cX3_takenByGust 34 = .ok (.iconst 1, 1) := by decide +kernel
theorem dX3_takenByGust_35 : decode cX3_takenByGust 35 = .ok (.isub, 1) := by decide +kernel
theorem dX3_takenByGust_36 : decode cX3_takenByGust 36 = .ok (.iload_n 1, 1) := by decide +kernel
theorem dX3_takenByGust_37 : decode cX3_takenByGust 37 = .ok (.isub, 1) := by decide +kernel
theorem dX3_takenByGust_38 : decode cX3_takenByGust 38 = .ok (.invokevirtual 70, 3) := by decide +kernel
theorem dX3_takenByGust_41 : decode cX3_takenByGust 41 = .ok (.ishl, 1) := by decide +kernel
theorem dX3_takenByGust_42 : decode cX3_takenByGust 42 = .ok (.ior, 1) := by decide +kernel
theorem dX3_takenByGust_43 : decode cX3_takenByGust 43 = .ok (.istore_n 2, 1) := by decide +kernel
theorem dX3_takenByGust_44 : decode cX3_takenByGust 44 = .ok (.iinc 3 1, 3) := by decide +kernel
theorem dX3_takenByGust_47 : decode cX3_takenByGust 47 = .ok (.goto (-43), 3) := by decide +kernel
theorem dX3_takenByGust_50 : decode cX3_takenByGust 50 = .ok (.iload_n 2, 1) := by decide +kernel
theorem dX3_takenByGust_51 : decode cX3_takenByGust 51 = .ok (.ireturn, 1) := by decide +kernel
theorem dX3_takenBy_0 : decode cX3_takenBy 0 = .ok (.iconst 0, 1) := by decide +kernel
theorem dX3_takenBy_1 : decode cX3_takenBy 1 = .ok (.istore_n 2, 1) := by decide +kernel
theorem dX3_takenBy_2 : decode cX3_takenBy 2 = .ok (.iconst 0, 1) := by decide +kernel
theorem dX3_takenBy_3 : decode cX3_takenBy 3 = .ok (.istore_n 3, 1) := by decide +kernel
theorem dX3_takenBy_4 : decode cX3_takenBy 4 = .ok (.iload_n 3, 1) := by decide +kernel
theorem dX3_takenBy_5 : decode cX3_takenBy 5 = .ok (.iload_n 1, 1) := by decide +kernel
theorem dX3_takenBy_6 : decode cX3_takenBy 6 = .ok (.if_icmp .ge 17, 3) := by decide +kernel
theorem dX3_takenBy_9 : decode cX3_takenBy 9 = .ok (.iload_n 2, 1) := by decide +kernel
theorem dX3_takenBy_10 : decode cX3_takenBy 10 = .ok (.aload_n 0, 1) := by decide +kernel
theorem dX3_takenBy_11 : decode cX3_takenBy 11 = .ok (.iload_n 3, 1) := by decide +kernel
theorem dX3_takenBy_12 : decode cX3_takenBy 12 = .ok (.invokevirtual 94, 3) := by decide +kernel
theorem dX3_takenBy_15 : decode cX3_takenBy 15 = .ok (.ior, 1) := by decide +kernel
theorem dX3_takenBy_16 : decode cX3_takenBy 16 = .ok (.istore_n 2, 1) := by decide +kernel
theorem dX3_takenBy_17 : decode cX3_takenBy 17 = .ok (.iinc 3 1, 3) := by decide +kernel
theorem dX3_takenBy_20 : decode cX3_takenBy 20 = .ok (.goto (-16), 3) := by decide +kernel
theorem dX3_takenBy_23 : decode cX3_takenBy 23 = .ok (.iload_n 2, 1) := by decide +kernel
theorem dX3_takenBy_24 : decode cX3_takenBy 24 = .ok (.ireturn, 1) := by decide +kernel
theorem dX3_blow_0 : decode cX3_blow 0 = .ok (.aload_n 0, 1) := by decide +kernel
theorem dX3_blow_1 : decode cX3_blow 1 = .ok (.iconst 0, 1) := by decide +kernel
theorem dX3_blow_2 : decode cX3_blow 2 = .ok (.invokevirtual 94, 3) := by decide +kernel
theorem dX3_blow_5 : decode cX3_blow 5 = .ok (.istore_n 1, 1) := by decide +kernel
theorem dX3_blow_6 : decode cX3_blow 6 = .ok (.iconst 0, 1) := by decide +kernel
theorem dX3_blow_7 : decode cX3_blow 7 = .ok (.istore_n 2, 1) := by decide +kernel
theorem dX3_blow_8 : decode cX3_blow 8 = .ok (.iload_n 2, 1) := by decide +kernel
theorem dX3_blow_9 : decode cX3_blow 9 = .ok (.aload_n 0, 1) := by decide +kernel
theorem dX3_blow_10 : decode cX3_blow 10 = .ok (.getfield 36, 3) := by decide +kernel
theorem dX3_blow_13 : decode cX3_blow 13 = .ok (.if_icmp .ge 24, 3) := by decide +kernel
theorem dX3_blow_16 : decode cX3_blow 16 = .ok (.aload_n 0, 1) := by decide +kernel
theorem dX3_blow_17 : decode cX3_blow 17 = .ok (.getfield 21, 3) := by decide +kernel
theorem dX3_blow_20 : decode cX3_blow 20 = .ok (.iload_n 2, 1) := by decide +kernel
theorem dX3_blow_21 : decode cX3_blow 21 = .ok (.dup2, 1) := by decide +kernel
theorem dX3_blow_22 : decode cX3_blow 22 = .ok (.iaload, 1) := by decide +kernel
theorem dX3_blow_23 : decode cX3_blow 23 = .ok (.aload_n 0, 1) := by decide +kernel
theorem dX3_blow_24 : decode cX3_blow 24 = .ok (.iload_n 2, 1) := by decide +kernel
theorem dX3_blow_25 : decode cX3_blow 25 = .ok (.iconst 1, 1) := by decide +kernel
theorem dX3_blow_26 : decode cX3_blow 26 = .ok (.invokevirtual 91, 3) := by decide +kernel
theorem dX3_blow_29 : decode cX3_blow 29 = .ok (.isub, 1) := by decide +kernel
theorem dX3_blow_30 : decode cX3_blow 30 = .ok (.iastore, 1) := by decide +kernel
theorem dX3_blow_31 : decode cX3_blow 31 = .ok (.iinc 2 1, 3) := by decide +kernel
theorem dX3_blow_34 : decode cX3_blow 34 = .ok (.goto (-26), 3) := by decide +kernel
theorem dX3_blow_37 : decode cX3_blow 37 = .ok (.iload_n 1, 1) := by decide +kernel
theorem dX3_blow_38 : decode cX3_blow 38 = .ok (.ireturn, 1) := by decide +kernel
theorem dX3_lostIfUppermost_0 : decode cX3_lostIfUppermost 0 = .ok (.aload_n 0, 1) := by decide +kernel
theorem dX3_lostIfUppermost_1 : decode cX3_lostIfUppermost 1 = .ok (.getfield 21, 3) := by decide +kernel
theorem dX3_lostIfUppermost_4 : decode cX3_lostIfUppermost 4 = .ok (.iload_n 2, 1) := by decide +kernel
theorem dX3_lostIfUppermost_5 : decode cX3_lostIfUppermost 5 = .ok (.iaload, 1) := by decide +kernel
theorem dX3_lostIfUppermost_6 : decode cX3_lostIfUppermost 6 = .ok (.aload_n 0, 1) := by decide +kernel
theorem dX3_lostIfUppermost_7 : decode cX3_lostIfUppermost 7 = .ok (.getfield 18, 3) := by decide +kernel
theorem dX3_lostIfUppermost_10 : decode cX3_lostIfUppermost 10 = .ok (.iload_n 2, 1) := by decide +kernel
theorem dX3_lostIfUppermost_11 : decode cX3_lostIfUppermost 11 = .ok (.iaload, 1) := by decide +kernel
theorem dX3_lostIfUppermost_12 : decode cX3_lostIfUppermost 12 = .ok (.if_icmp .le 22, 3) := by decide +kernel
theorem dX3_lostIfUppermost_15 : decode cX3_lostIfUppermost 15 = .ok (.aload_n 0, 1) := by decide +kernel
theorem dX3_lostIfUppermost_16 : decode cX3_lostIfUppermost 16 = .ok (.getfield 27, 3) := by decide +kernel
theorem dX3_lostIfUppermost_19 : decode cX3_lostIfUppermost 19 = .ok (.iload_n 1, 1) := by decide +kernel
theorem dX3_lostIfUppermost_20 : decode cX3_lostIfUppermost 20 = .ok (.iaload, 1) := by decide +kernel
theorem dX3_lostIfUppermost_21 : decode cX3_lostIfUppermost 21 = .ok (.iconst 5, 1) := by decide +kernel
theorem dX3_lostIfUppermost_22 : decode cX3_lostIfUppermost 22 = .ok (.if_icmp .eq 12, 3) := by decide +kernel
theorem dX3_lostIfUppermost_25 : decode cX3_lostIfUppermost 25 = .ok (.aload_n 0, 1) := by decide +kernel
theorem dX3_lostIfUppermost_26 : decode cX3_lostIfUppermost 26 = .ok (.getfield 30, 3) := by decide +kernel
theorem dX3_lostIfUppermost_29 : decode cX3_lostIfUppermost 29 = .ok (.iload_n 1, 1) := by decide +kernel
theorem dX3_lostIfUppermost_30 : decode cX3_lostIfUppermost 30 = .ok (.iaload, 1) := by decide +kernel
theorem dX3_lostIfUppermost_31 : decode cX3_lostIfUppermost 31 = .ok (.goto 4, 3) := by decide +kernel
theorem dX3_lostIfUppermost_34 : decode cX3_lostIfUppermost 34 = .ok (.iconst 0, 1) := by decide +kernel
theorem dX3_lostIfUppermost_35 : decode cX3_lostIfUppermost 35 = .ok (.ireturn, 1) := by decide +kernel
theorem dX3_lostThrough_0 : decode cX3_lostThrough 0 = .ok (.aload_n 0, 1) := by decide +kernel
theorem dX3_lostThrough_1 : decode cX3_lostThrough 1 = .ok (.getfield 21, 3) := by decide +kernel
theorem dX3_lostThrough_4 : decode cX3_lostThrough 4 = .ok (.iload_n 1, 1) := by decide +kernel
theorem dX3_lostThrough_5 : decode cX3_lostThrough 5 = .ok (.iaload, 1) := by decide +kernel
theorem dX3_lostThrough_6 : decode cX3_lostThrough 6 = .ok (.iconst 3, 1) := by decide +kernel
theorem dX3_lostThrough_7 : decode cX3_lostThrough 7 = .ok (.isub, 1) := by decide +kernel
theorem dX3_lostThrough_8 : decode cX3_lostThrough 8 = .ok (.istore_n 2, 1) := by decide +kernel
theorem dX3_lostThrough_9 : decode cX3_lostThrough 9 = .ok (.iload_n 2, 1) := by decide +kernel
theorem dX3_lostThrough_10 : decode cX3_lostThrough 10 = .ok (.aload_n 0, 1) := by decide +kernel
theorem dX3_lostThrough_11 : decode cX3_lostThrough 11 = .ok (.getfield 18, 3) := by decide +kernel
theorem dX3_lostThrough_14 : decode cX3_lostThrough 14 = .ok (.iload_n 1, 1) := by decide +kernel
theorem dX3_lostThrough_15 : decode cX3_lostThrough 15 = .ok (.iaload, 1) := by decide +kernel
theorem dX3_lostThrough_16 : decode cX3_lostThrough 16 = .ok (.if_icmp .lt 32, 3) := by decide +kernel
theorem dX3_lostThrough_19 : decode cX3_lostThrough 19 = .ok (.aload_n 0, 1) := by decide +kernel
theorem dX3_lostThrough_20 : decode cX3_lostThrough 20 = .ok (.getfield 27, 3) := by decide +kernel
theorem dX3_lostThrough_23 : decode cX3_lostThrough 23 = .ok (.aload_n 0, 1) := by decide +kernel
theorem dX3_lostThrough_24 : decode cX3_lostThrough 24 = .ok (.iload_n 1, 1) := by decide +kernel
theorem dX3_lostThrough_25 : decode cX3_lostThrough 25 = .ok (.iload_n 2, 1) := by decide +kernel
theorem dX3_lostThrough_26 : decode cX3_lostThrough 26 = .ok (.invokevirtual 70, 3) := by decide +kernel
theorem dX3_lostThrough_29 : decode cX3_lostThrough 29 = .ok (.iaload, 1) := by decide +kernel
theorem dX3_lostThrough_30 : decode cX3_lostThrough 30 = .ok (.iconst 5, 1) := by decide +kernel
theorem dX3_lostThrough_31 : decode cX3_lostThrough 31 = .ok (.if_icmp .eq 17, 3) := by decide +kernel
theorem dX3_lostThrough_34 : decode cX3_lostThrough 34 = .ok (.aload_n 0, 1) := by decide +kernel
theorem dX3_lostThrough_35 : decode cX3_lostThrough 35 = .ok (.getfield 30, 3) := by decide +kernel
theorem dX3_lostThrough_38 : decode cX3_lostThrough 38 = .ok (.aload_n 0, 1) := by decide +kernel
theorem dX3_lostThrough_39 : decode cX3_lostThrough 39 = .ok (.iload_n 1, 1) := by decide +kernel
theorem dX3_lostThrough_40 : decode cX3_lostThrough 40 = .ok (.iload_n 2, 1) := by decide +kernel
theorem dX3_lostThrough_41 : decode cX3_lostThrough 41 = .ok (.invokevirtual 70, 3) := by decide +kernel
theorem dX3_lostThrough_44 : decode cX3_lostThrough 44 = .ok (.iaload, 1) := by decide +kernel
theorem dX3_lostThrough_45 : decode cX3_lostThrough 45 = .ok (.goto 4, 3) := by decide +kernel
theorem dX3_lostThrough_48 : decode cX3_lostThrough 48 = .ok (.iconst 0, 1) := by decide +kernel
theorem dX3_lostThrough_49 : decode cX3_lostThrough 49 = .ok (.ireturn, 1) := by decide +kernel
theorem dX3_leastOn_0 : decode cX3_leastOn 0 = .ok (.aload_n 0, 1) := by decide +kernel
theorem dX3_leastOn_1 : decode cX3_leastOn 1 = .ok (.iload_n 1, 1) := by decide +kernel
theorem dX3_leastOn_2 : decode cX3_leastOn 2 = .ok (.iconst 0, 1) := by decide +kernel
theorem dX3_leastOn_3 : decode cX3_leastOn 3 = .ok (.invokevirtual 70, 3) := by decide +kernel
theorem dX3_leastOn_6 : decode cX3_leastOn 6 = .ok (.istore_n 2, 1) := by decide +kernel
theorem dX3_leastOn_7 : decode cX3_leastOn 7 = .ok (.iconst 1, 1) := by decide +kernel
theorem dX3_leastOn_8 : decode cX3_leastOn 8 = .ok (.istore_n 3, 1) := by decide +kernel
theorem dX3_leastOn_9 : decode cX3_leastOn 9 = .ok (.iload_n 3, 1) := by decide +kernel
theorem dX3_leastOn_10 : decode cX3_leastOn 10 = .ok (.aload_n 0, 1) := by decide +kernel
theorem dX3_leastOn_11 : decode cX3_leastOn 11 = .ok (.getfield 21, 3) := by decide +kernel
theorem dX3_leastOn_14 : decode cX3_leastOn 14 = .ok (.iload_n 1, 1) := by decide +kernel
theorem dX3_leastOn_15 : decode cX3_leastOn 15 = .ok (.iaload, 1) := by decide +kernel
theorem dX3_leastOn_16 : decode cX3_leastOn 16 = .ok (.if_icmp .ge 36, 3) := by decide +kernel
theorem dX3_leastOn_19 : decode cX3_leastOn 19 = .ok (.aload_n 0, 1) := by decide +kernel
theorem dX3_leastOn_20 : decode cX3_leastOn 20 = .ok (.getfield 30, 3) := by decide +kernel
theorem dX3_leastOn_23 : decode cX3_leastOn 23 = .ok (.aload_n 0, 1) := by decide +kernel
theorem dX3_leastOn_24 : decode cX3_leastOn 24 = .ok (.iload_n 1, 1) := by decide +kernel
theorem dX3_leastOn_25 : decode cX3_leastOn 25 = .ok (.iload_n 3, 1) := by decide +kernel
theorem dX3_leastOn_26 : decode cX3_leastOn 26 = .ok (.invokevirtual 70, 3) := by decide +kernel
theorem dX3_leastOn_29 : decode cX3_leastOn 29 = .ok (.iaload, 1) := by decide +kernel
theorem dX3_leastOn_30 : decode cX3_leastOn 30 = .ok (.aload_n 0, 1) := by decide +kernel
theorem dX3_leastOn_31 : decode cX3_leastOn 31 = .ok (.getfield 30, 3) := by decide +kernel
theorem dX3_leastOn_34 : decode cX3_leastOn 34 = .ok (.iload_n 2, 1) := by decide +kernel
theorem dX3_leastOn_35 : decode cX3_leastOn 35 = .ok (.iaload, 1) := by decide +kernel
theorem dX3_leastOn_36 : decode cX3_leastOn 36 = .ok (.if_icmp .ge 10, 3) := by decide +kernel
theorem dX3_leastOn_39 : decode cX3_leastOn 39 = .ok (.aload_n 0, 1) := by decide +kernel
theorem dX3_leastOn_40 : decode cX3_leastOn 40 = .ok (.iload_n 1, 1) := by decide +kernel
theorem dX3_leastOn_41 : decode cX3_leastOn 41 = .ok (.iload_n 3, 1) := by decide +kernel
theorem dX3_leastOn_42 : decode cX3_leastOn 42 = .ok (.invokevirtual 70, 3) := by decide +kernel
theorem dX3_leastOn_45 : decode cX3_leastOn 45 = .ok (.istore_n 2, 1) := by decide +kernel
theorem dX3_leastOn_46 : decode cX3_leastOn 46 = .ok (.iinc 3 1, 3) := by decide +kernel
theorem dX3_leastOn_49 : decode cX3_leastOn 49 = .ok (.goto (-40), 3) := by decide +kernel
theorem dX3_leastOn_52 : decode cX3_leastOn 52 = .ok (.iload_n 2, 1) := by decide +kernel
theorem dX3_leastOn_53 : decode cX3_leastOn 53 = .ok (.ireturn, 1) := by decide +kernel
theorem dX4_init_0 : decode cX4_init 0 = .ok (.aload_n 0, 1) := by decide +kernel
theorem dX4_init_1 : decode cX4_init 1 = .ok (.invokespecial 3, 3) := by decide +kernel
theorem dX4_init_4 : decode cX4_init 4 = .ok (.aload_n 0, 1) := by decide +kernel
theorem dX4_init_5 : decode cX4_init 5 = .ok (.new 9, 3) := by decide +kernel
theorem dX4_init_8 : decode cX4_init 8 = .ok (.dup, 1) := by decide +kernel
theorem dX4_init_9 : decode cX4_init 9 = .ok (.invokespecial 11, 3) := by decide +kernel
theorem dX4_init_12 : decode cX4_init 12 = .ok (.putfield 12, 3) := by decide +kernel
theorem dX4_init_15 : decode cX4_init 15 = .ok (.aload_n 0, 1) := by decide +kernel
theorem dX4_init_16 : decode cX4_init 16 = .ok (.new 18, 3) := by decide +kernel
theorem dX4_init_19 : decode cX4_init 19 = .ok (.dup, 1) := by decide +kernel
theorem dX4_init_20 : decode cX4_init 20 = .ok (.invokespecial 20, 3) := by decide +kernel
theorem dX4_init_23 : decode cX4_init 23 = .ok (.putfield 21, 3) := by decide +kernel
theorem dX4_init_26 : decode cX4_init 26 = .ok (.aload_n 0, 1) := by decide +kernel
theorem dX4_init_27 : decode cX4_init 27 = .ok (.iconst 0, 1) := by decide +kernel
theorem dX4_init_28 : decode cX4_init 28 = .ok (.putfield 25, 3) := by decide +kernel
theorem dX4_init_31 : decode cX4_init 31 = .ok (.aload_n 0, 1) := by decide +kernel
theorem dX4_init_32 : decode cX4_init 32 = .ok (.iconst 0, 1) := by decide +kernel
theorem dX4_init_33 : decode cX4_init 33 = .ok (.putfield 29, 3) := by decide +kernel
theorem dX4_init_36 : decode cX4_init 36 = .ok (.aload_n 0, 1) := by decide +kernel
theorem dX4_init_37 : decode cX4_init 37 = .ok (.iconst 0, 1) := by decide +kernel
theorem dX4_init_38 : decode cX4_init 38 = .ok (.putfield 32, 3) := by decide +kernel
theorem dX4_init_41 : decode cX4_init 41 = .ok (.aload_n 0, 1) := by decide +kernel
theorem dX4_init_42 : decode cX4_init 42 = .ok (.iconst 0, 1) := by decide +kernel
theorem dX4_init_43 : decode cX4_init 43 = .ok (.putfield 35, 3) := by decide +kernel
theorem dX4_init_46 : decode cX4_init 46 = .ok (.aload_n 0, 1) := by decide +kernel
theorem dX4_init_47 : decode cX4_init 47 = .ok (.iconst 0, 1) := by decide +kernel
theorem dX4_init_48 : decode cX4_init 48 = .ok (.putfield 38, 3) := by decide +kernel
theorem dX4_init_51 : decode cX4_init 51 = .ok (.aload_n 0, 1) := by decide +kernel
theorem dX4_init_52 : decode cX4_init 52 = .ok (.iconst 0, 1) := by decide +kernel
theorem dX4_init_53 : decode cX4_init 53 = .ok (.putfield 41, 3) := by decide +kernel
theorem dX4_init_56 : decode cX4_init 56 = .ok (.return_, 1) := by decide +kernel
theorem dX4_read_0 : decode cX4_read 0 = .ok (.aload_n 0, 1) := by decide +kernel
theorem dX4_read_1 : decode cX4_read 1 = .ok (.getfield 21, 3) := by decide +kernel
theorem dX4_read_4 : decode cX4_read 4 = .ok (.invokevirtual 44, 3) := by decide +kernel
theorem dX4_read_7 : decode cX4_read 7 = .ok (.aload_n 0, 1) := by decide +kernel
theorem dX4_read_8 : decode cX4_read 8 = .ok (.iconst 0, 1) := by decide +kernel
theorem dX4_read_9 : decode cX4_read 9 = .ok (.putfield 32, 3) := by decide +kernel
theorem dX4_read_12 : decode cX4_read 12 = .ok (.aload_n 0, 1) := by decide +kernel
theorem dX4_read_13 : decode cX4_read 13 = .ok (.invokevirtual 47, 3) := by decide +kernel
theorem dX4_read_16 : decode cX4_read 16 = .ok (.aload_n 0, 1) := by decide +kernel
theorem dX4_read_17 : decode cX4_read 17 = .ok (.invokevirtual 50, 3) := by decide +kernel
theorem dX4_read_20 : decode cX4_read 20 = .ok (.ifCond .eq 21, 3) := by decide +kernel
theorem dX4_read_23 : decode cX4_read 23 = .ok (.aload_n 0, 1) := by decide +kernel
theorem dX4_read_24 : decode cX4_read 24 = .ok (.invokevirtual 54, 3) := by decide +kernel
theorem dX4_read_27 : decode cX4_read 27 = .ok (.ifCond .eq 14, 3) := by decide +kernel
theorem dX4_read_30 : decode cX4_read 30 = .ok (.aload_n 0, 1) := by decide +kernel
theorem dX4_read_31 : decode cX4_read 31 = .ok (.invokevirtual 57, 3) := by decide +kernel
theorem dX4_read_34 : decode cX4_read 34 = .ok (.ifCond .eq 7, 3) := by decide +kernel
theorem dX4_read_37 : decode cX4_read 37 = .ok (.iconst 1, 1) := by decide +kernel
theorem dX4_read_38 : decode cX4_read 38 = .ok (.goto 4, 3) := by decide +kernel
theorem dX4_read_41 : decode cX4_read 41 = .ok (.iconst 0, 1) := by decide +kernel
theorem dX4_read_42 : decode cX4_read 42 = .ok (.ireturn, 1) := by decide +kernel
theorem dX4_readWind_0 : decode cX4_readWind 0 = .ok (.aload_n 0, 1) := by decide +kernel
theorem dX4_readWind_1 : decode cX4_readWind 1 = .ok (.ldc 60, 2) := by decide +kernel
theorem dX4_readWind_3 : decode cX4_readWind 3 = .ok (.invokevirtual 62, 3) := by decide +kernel
theorem dX4_readWind_6 : decode cX4_readWind 6 = .ok (.ifCond .ne 9, 3) := by decide +kernel
theorem dX4_readWind_9 : decode cX4_readWind 9 = .ok (.aload_n 0, 1) := by decide +kernel
theorem dX4_readWind_10 : decode cX4_readWind 10 = .ok (.iconst 1, 1) := by decide +kernel
theorem dX4_readWind_11 : decode cX4_readWind 11 = .ok (.invokevirtual 66, 3) := by decide +kernel
theorem dX4_readWind_14 : decode cX4_readWind 14 = .ok (.ireturn, 1) := by decide +kernel
theorem dX4_readWind_15 : decode cX4_readWind 15 = .ok (.aload_n 0, 1) := by decide +kernel
theorem dX4_readWind_16 : decode cX4_readWind 16 = .ok (.invokevirtual 47, 3) := by decide +kernel
theorem dX4_readWind_19 : decode cX4_readWind 19 = .ok (.iconst 0, 1) := by decide +kernel
theorem dX4_readWind_20 : decode cX4_readWind 20 = .ok (.istore_n 1, 1) := by decide +kernel
theorem dX4_readWind_21 : decode cX4_readWind 21 = .ok (.iload_n 1, 1) := by decide +kernel
theorem dX4_readWind_22 : decode cX4_readWind 22 = .ok (.bipush 12, 2) := by decide +kernel
theorem dX4_readWind_24 : decode cX4_readWind 24 = .ok (.if_icmp .ge 34, 3) := by decide +kernel
theorem dX4_readWind_27 : decode cX4_readWind 27 = .ok (.aload_n 0, 1) := by decide +kernel
theorem dX4_readWind_28 : decode cX4_readWind 28 = .ok (.iconst 0, 1) := by decide +kernel
theorem dX4_readWind_29 : decode cX4_readWind 29 = .ok (.bipush 100, 2) := by decide +kernel
theorem dX4_readWind_31 : decode cX4_readWind 31 = .ok (.invokevirtual 70, 3) := by decide +kernel
theorem dX4_readWind_34 : decode cX4_readWind 34 = .ok (.ifCond .ne 5, 3) := by decide +kernel
theorem dX4_readWind_37 : decode cX4_readWind 37 = .ok (.iconst 0, 1) := by decide +kernel
theorem dX4_readWind_38 : decode cX4_readWind 38 = .ok (.ireturn, 1) := by decide +kernel
theorem dX4_readWind_39 : decode cX4_readWind 39 = .ok (.aload_n 0, 1) := by decide +kernel
theorem dX4_readWind_40 : decode cX4_readWind 40 = .ok (.getfield 21, 3) := by decide +kernel
theorem dX4_readWind_43 : decode cX4_readWind 43 = .ok (.getfield 74, 3) := by decide +kernel
theorem dX4_readWind_46 : decode cX4_readWind 46 = .ok (.iload_n 1, 1) := by decide +kernel
theorem dX4_readWind_47 : decode cX4_readWind 47 = .ok (.aload_n 0, 1) := by decide +kernel
theorem dX4_readWind_48 : decode cX4_readWind 48 = .ok (.getfield 38, 3) := by decide +kernel
theorem dX4_readWind_51 : decode cX4_readWind 51 = .ok (.iastore, 1) := by decide +kernel
theorem dX4_readWind_52 : decode cX4_readWind 52 = .ok (.iinc 1 1, 3) := by decide +kernel
theorem dX4_readWind_55 : decode cX4_readWind 55 = .ok (.goto (-34), 3) := by decide +kernel
theorem dX4_readWind_58 : decode cX4_readWind 58 = .ok (.aload_n 0, 1) := by decide +kernel
theorem dX4_readWind_59 : decode cX4_readWind 59 = .ok (.invokevirtual 77, 3) := by decide +kernel
theorem dX4_readWind_62 : decode cX4_readWind 62 = .ok (.ireturn, 1) := by decide +kernel
theorem dX4_readDesks_0 : decode cX4_readDesks 0 = .ok (.aload_n 0, 1) := by decide +kernel
theorem dX4_readDesks_1 : decode cX4_readDesks 1 = .ok (.ldc 80, 2) := by decide +kernel
theorem dX4_readDesks_3 : decode cX4_readDesks 3 = .ok (.invokevirtual 62, 3) := by decide +kernel
theorem dX4_readDesks_6 : decode cX4_readDesks 6 = .ok (.ifCond .ne 9, 3) := by decide +kernel
theorem dX4_readDesks_9 : decode cX4_readDesks 9 = .ok (.aload_n 0, 1) := by decide +kernel
theorem dX4_readDesks_10 : decode cX4_readDesks 10 = .ok (.iconst 1, 1) := by decide +kernel
theorem dX4_readDesks_11 : decode cX4_readDesks 11 = .ok (.invokevirtual 66, 3) := by decide +kernel
theorem dX4_readDesks_14 : decode cX4_readDesks 14 = .ok (.ireturn, 1) := by decide +kernel
theorem dX4_readDesks_15 : decode cX4_readDesks 15 = .ok (.iconst 0, 1) := by decide +kernel
theorem dX4_readDesks_16 : decode cX4_readDesks 16 = .ok (.istore_n 1, 1) := by decide +kernel
theorem dX4_readDesks_17 : decode cX4_readDesks 17 = .ok (.iload_n 1, 1) := by decide +kernel
theorem dX4_readDesks_18 : decode cX4_readDesks 18 = .ok (.iconst 4, 1) := by decide +kernel
theorem dX4_readDesks_19 : decode cX4_readDesks 19 = .ok (.if_icmp .gt 38, 3) := by decide +kernel
theorem dX4_readDesks_22 : decode cX4_readDesks 22 = .ok (.aload_n 0, 1) := by decide +kernel
theorem dX4_readDesks_23 : decode cX4_readDesks 23 = .ok (.ldc 80, 2) := by decide +kernel
theorem dX4_readDesks_25 : decode cX4_readDesks 25 = .ok (.invokevirtual 62, 3) := by decide +kernel
theorem dX4_readDesks_28 : decode cX4_readDesks 28 = .ok (.ifCond .eq 29, 3) := by decide +kernel
theorem dX4_readDesks_31 : decode cX4_readDesks 31 = .ok (.iload_n 1, 1) := by decide +kernel
theorem dX4_readDesks_32 : decode cX4_readDesks 32 = .ok (.iconst 4, 1) := by decide +kernel
theorem dX4_readDesks_33 : decode cX4_readDesks 33 = .ok (.if_icmp .ne 9, 3) := by decide +kernel
theorem dX4_readDesks_36 : decode cX4_readDesks 36 = .ok (.aload_n 0, 1) := by decide +kernel
theorem dX4_readDesks_37 : decode cX4_readDesks 37 = .ok (.iconst 3, 1) := by decide +kernel
theorem dX4_readDesks_38 : decode cX4_readDesks 38 = .ok (.invokevirtual 66, 3) := by decide +kernel
theorem dX4_readDesks_41 : decode cX4_readDesks 41 = .ok (.ireturn, 1) := by decide +kernel
theorem dX4_readDesks_42 : decode cX4_readDesks 42 = .ok (.aload_n 0, 1) := by decide +kernel
theorem dX4_readDesks_43 : decode cX4_readDesks 43 = .ok (.invokevirtual 82, 3) := by decide +kernel
theorem dX4_readDesks_46 : decode cX4_readDesks 46 = .ok (.ifCond .ne 5, 3) := by decide +kernel
theorem dX4_readDesks_49 : decode cX4_readDesks 49 = .ok (.iconst 0, 1) := by decide +kernel
theorem dX4_readDesks_50 : decode cX4_readDesks 50 = .ok (.ireturn, 1) := by decide +kernel
theorem dX4_readDesks_51 : decode cX4_readDesks 51 = .ok (.iinc 1 1, 3) := by decide +kernel
theorem dX4_readDesks_54 : decode cX4_readDesks 54 = .ok (.goto (-37), 3) := by decide +kernel
theorem dX4_readDesks_57 : decode cX4_readDesks 57 = .ok (.iconst 1, 1) := by decide +kernel
theorem dX4_readDesks_58 : decode cX4_readDesks 58 = .ok (.ireturn, 1) := by decide +kernel
theorem dX4_readDesk_0 : decode cX4_readDesk 0 = .ok (.aload_n 0, 1) := by decide +kernel
theorem dX4_readDesk_1 : decode cX4_readDesk 1 = .ok (.invokevirtual 47, 3) := by decide +kernel
theorem dX4_readDesk_4 : decode cX4_readDesk 4 = .ok (.aload_n 0, 1) := by decide +kernel
theorem dX4_readDesk_5 : decode cX4_readDesk 5 = .ok (.iconst 1, 1) := by decide +kernel
theorem dX4_readDesk_6 : decode cX4_readDesk 6 = .ok (.bipush 9, 2) := by decide +kernel
theorem dX4_readDesk_8 : decode cX4_readDesk 8 = .ok (.invokevirtual 70, 3) := by decide +kernel
theorem dX4_readDesk_11 : decode cX4_readDesk 11 = .ok (.ifCond .ne 5, 3) := by decide +kernel
theorem dX4_readDesk_14 : decode cX4_readDesk 14 = .ok (.iconst 0, 1) := by decide +kernel
theorem dX4_readDesk_15 : decode cX4_readDesk 15 = .ok (.ireturn, 1) := by decide +kernel
theorem dX4_readDesk_16 : decode cX4_readDesk 16 = .ok (.aload_n 0, 1) := by decide +kernel
theorem dX4_readDesk_17 : decode cX4_readDesk 17 = .ok (.getfield 38, 3) := by decide +kernel
theorem dX4_readDesk_20 : decode cX4_readDesk 20 = .ok (.istore_n 1, 1) := by decide +kernel
theorem dX4_readDesk_21 : decode cX4_readDesk 21 = .ok (.aload_n 0, 1) := by decide +kernel
theorem dX4_readDesk_22 : decode cX4_readDesk 22 = .ok (.iconst 0, 1) := by decide +kernel
theorem dX4_readDesk_23 : decode cX4_readDesk 23 = .ok (.iconst 3, 1) := by decide +kernel
theorem dX4_readDesk_24 : decode cX4_readDesk 24 = .ok (.invokevirtual 70, 3) := by decide +kernel
theorem dX4_readDesk_27 : decode cX4_readDesk 27 = .ok (.ifCond .ne 5, 3) := by decide +kernel
theorem dX4_readDesk_30 : decode cX4_readDesk 30 = .ok (.iconst 0, 1) := by decide +kernel
theorem dX4_readDesk_31 : decode cX4_readDesk 31 = .ok (.ireturn, 1) := by decide +kernel
theorem dX4_readDesk_32 : decode cX4_readDesk 32 = .ok (.aload_n 0, 1) := by decide +kernel
theorem dX4_readDesk_33 : decode cX4_readDesk 33 = .ok (.getfield 21, 3) := by decide +kernel
theorem dX4_readDesk_36 : decode cX4_readDesk 36 = .ok (.iload_n 1, 1) := by decide +kernel
theorem dX4_readDesk_37 : decode cX4_readDesk 37 = .ok (.aload_n 0, 1) := by decide +kernel
theorem dX4_readDesk_38 : decode cX4_readDesk 38 = .ok (.getfield 38, 3) := by decide +kernel
theorem dX4_readDesk_41 : decode cX4_readDesk 41 = .ok (.invokevirtual 85, 3) := by decide +kernel
theorem dX4_readDesk_44 : decode cX4_readDesk 44 = .ok (.aload_n 0, 1) := by decide +kernel
theorem dX4_readDesk_45 : decode cX4_readDesk 45 = .ok (.invokevirtual 77, 3) := by decide +kernel
theorem dX4_readDesk_48 : decode cX4_readDesk 48 = .ok (.ireturn, 1) := by decide +kernel
theorem dX4_readSheets_0 : decode cX4_readSheets 0 = .ok (.iconst 0, 1) := by decide +kernel
theorem dX4_readSheets_1 : decode cX4_readSheets 1 = .ok (.istore_n 1, 1) := by decide +kernel
theorem dX4_readSheets_2 : decode cX4_readSheets 2 = .ok (.iload_n 1, 1) := by decide +kernel
theorem dX4_readSheets_3 : decode cX4_readSheets 3 = .ok (.bipush 12, 2) := by decide +kernel
theorem dX4_readSheets_5 : decode cX4_readSheets 5 = .ok (.if_icmp .gt 39, 3) := by decide +kernel
theorem dX4_readSheets_8 : decode cX4_readSheets 8 = .ok (.aload_n 0, 1) := by decide +kernel
theorem dX4_readSheets_9 : decode cX4_readSheets 9 = .ok (.ldc 89, 2) := by decide +kernel
theorem dX4_readSheets_11 : decode cX4_readSheets 11 = .ok (.invokevirtual 62, 3) := by decide +kernel
theorem dX4_readSheets_14 : decode cX4_readSheets 14 = .ok (.ifCond .eq 30, 3) := by decide +kernel
theorem dX4_readSheets_17 : decode cX4_readSheets 17 = .ok (.iload_n 1, 1) := by decide +kernel
theorem dX4_readSheets_18 : decode cX4_readSheets 18 = .ok (.bipush 12, 2) := by decide +kernel
theorem dX4_readSheets_20 : decode cX4_readSheets 20 = .ok (.if_icmp .ne 9, 3) := by decide +kernel
theorem dX4_readSheets_23 : decode cX4_readSheets 23 = .ok (.aload_n 0, 1) := by decide +kernel
theorem dX4_readSheets_24 : decode cX4_readSheets 24 = .ok (.iconst 3, 1) := by decide +kernel
theorem dX4_readSheets_25 : decode cX4_readSheets 25 = .ok (.invokevirtual 66, 3) := by decide +kernel
theorem dX4_readSheets_28 : decode cX4_readSheets 28 = .ok (.ireturn, 1) := by decide +kernel
theorem dX4_readSheets_29 : decode cX4_readSheets 29 = .ok (.aload_n 0, 1) := by decide +kernel
theorem dX4_readSheets_30 : decode cX4_readSheets 30 = .ok (.invokevirtual 91, 3) := by decide +kernel
theorem dX4_readSheets_33 : decode cX4_readSheets 33 = .ok (.ifCond .ne 5, 3) := by decide +kernel
theorem dX4_readSheets_36 : decode cX4_readSheets 36 = .ok (.iconst 0, 1) := by decide +kernel
theorem dX4_readSheets_37 : decode cX4_readSheets 37 = .ok (.ireturn, 1) := by decide +kernel
theorem dX4_readSheets_38 : decode cX4_readSheets 38 = .ok (.iinc 1 1, 3) := by decide +kernel
theorem dX4_readSheets_41 : decode cX4_readSheets 41 = .ok (.goto (-39), 3) := by decide +kernel
theorem dX4_readSheets_44 : decode cX4_readSheets 44 = .ok (.aload_n 0, 1) := by decide +kernel
theorem dX4_readSheets_45 : decode cX4_readSheets 45 = .ok (.getfield 25, 3) := by decide +kernel
theorem dX4_readSheets_48 : decode cX4_readSheets 48 = .ok (.ifCond .eq 11, 3) := by decide +kernel
theorem dX4_readSheets_51 : decode cX4_readSheets 51 = .ok (.aload_n 0, 1) := by decide +kernel
theorem dX4_readSheets_52 : decode cX4_readSheets 52 = .ok (.iconst 1, 1) := by decide +kernel
theorem dX4_readSheets_53 : decode cX4_readSheets 53 = .ok (.invokevirtual 66, 3) := by decide +kernel
theorem dX4_readSheets_56 : decode cX4_readSheets 56 = .ok (.ifCond .eq 7, 3) := by decide +kernel
theorem dX4_readSheets_59 : decode cX4_readSheets 59 = .ok (.iconst 1, 1) := by decide +kernel
theorem dX4_readSheets_60 : decode cX4_readSheets 60 = .ok (.goto 4, 3) := by decide +kernel
theorem dX4_readSheets_63 : decode cX4_readSheets 63 = .ok (.iconst 0, 1) := by decide +kernel
theorem dX4_readSheets_64 : decode cX4_readSheets 64 = .ok (.ireturn, 1) := by decide +kernel
theorem dX4_readSheet_0 : decode cX4_readSheet 0 = .ok (.aload_n 0, 1) := by decide +kernel
theorem dX4_readSheet_1 : decode cX4_readSheet 1 = .ok (.invokevirtual 47, 3) := by decide +kernel
theorem dX4_readSheet_4 : decode cX4_readSheet 4 = .ok (.aload_n 0, 1) := by decide +kernel
theorem dX4_readSheet_5 : decode cX4_readSheet 5 = .ok (.invokevirtual 94, 3) := by decide +kernel
theorem dX4_readSheet_8 : decode cX4_readSheet 8 = .ok (.istore_n 1, 1) := by decide +kernel
theorem dX4_readSheet_9 : decode cX4_readSheet 9 = .ok (.iload_n 1, 1) := by decide +kernel
theorem dX4_readSheet_10 : decode cX4_readSheet 10 = .ok (.ifCond .ne 9, 3) := by decide +kernel
theorem dX4_readSheet_13 : decode cX4_readSheet 13 = .ok (.aload_n 0, 1) := by decide +kernel
theorem dX4_readSheet_14 : decode cX4_readSheet 14 = .ok (.iconst 1, 1) := by decide +kernel
theorem dX4_readSheet_15 : decode cX4_readSheet 15 = .ok (.invokevirtual 66, 3) := by decide +kernel
theorem dX4_readSheet_18 : decode cX4_readSheet 18 = .ok (.ireturn, 1) := by decide +kernel
end
section
theorem dX4_readSheet_19 : decode cX4_readSheet 19 = .ok (.aload_n 0, 1) := by decide +kernel
theorem dX4_readSheet_20 : decode cX4_readSheet 20 = .ok (.invokevirtual 47, 3) := by decide +kernel
theorem dX4_readSheet_23 : decode cX4_readSheet 23 = .ok (.aload_n 0, 1) := by decide +kernel
theorem dX4_readSheet_24 : decode cX4_readSheet 24 = .ok (.getfield 25, 3) := by decide +kernel
theorem dX4_readSheet_27 : decode cX4_readSheet 27 = .ok (.iconst 2, 1) := by decide +kernel
theorem dX4_readSheet_28 : decode cX4_readSheet 28 = .ok (.if_icmp .ne 37, 3) := by decide +kernel
theorem dX4_readSheet_31 : decode cX4_readSheet 31 = .ok (.aload_n 0, 1) := by decide +kernel
theorem dX4_readSheet_32 : decode cX4_readSheet 32 = .ok (.getfield 21, 3) := by decide +kernel
theorem dX4_readSheet_35 : decode cX4_readSheet 35 = .ok (.aload_n 0, 1) := by decide +kernel
theorem dX4_readSheet_36 : decode cX4_readSheet 36 = .ok (.getfield 35, 3) := by decide +kernel
theorem dX4_readSheet_39 : decode cX4_readSheet 39 = .ok (.invokevirtual 98, 3) := by decide +kernel
theorem dX4_readSheet_42 : decode cX4_readSheet 42 = .ok (.ifCond .eq 23, 3) := by decide +kernel
theorem dX4_readSheet_45 : decode cX4_readSheet 45 = .ok (.aload_n 0, 1) := by decide +kernel
theorem dX4_readSheet_46 : decode cX4_readSheet 46 = .ok (.getfield 21, 3) := by decide +kernel
theorem dX4_readSheet_49 : decode cX4_readSheet 49 = .ok (.aload_n 0, 1) := by decide +kernel
theorem dX4_readSheet_50 : decode cX4_readSheet 50 = .ok (.getfield 35, 3) := by decide +kernel
theorem dX4_readSheet_53 : decode cX4_readSheet 53 = .ok (.invokevirtual 101, 3) := by decide +kernel
theorem dX4_readSheet_56 : decode cX4_readSheet 56 = .ok (.ifCond .ne 9, 3) := by decide +kernel
theorem dX4_readSheet_59 : decode cX4_readSheet 59 = .ok (.aload_n 0, 1) := by decide +kernel
theorem dX4_readSheet_60 : decode cX4_readSheet 60 = .ok (.iconst 2, 1) := by decide +kernel
theorem dX4_readSheet_61 : decode cX4_readSheet 61 = .ok (.invokevirtual 66, 3) := by decide +kernel
theorem dX4_readSheet_64 : decode cX4_readSheet 64 = .ok (.ireturn, 1) := by decide +kernel
theorem dX4_readSheet_65 : decode cX4_readSheet 65 = .ok (.aload_n 0, 1) := by decide +kernel
theorem dX4_readSheet_66 : decode cX4_readSheet 66 = .ok (.iconst 0, 1) := by decide +kernel
theorem dX4_readSheet_67 : decode cX4_readSheet 67 = .ok (.aload_n 0, 1) := by decide +kernel
theorem dX4_readSheet_68 : decode cX4_readSheet 68 = .ok (.getfield 21, 3) := by decide +kernel
theorem dX4_readSheet_71 : decode cX4_readSheet 71 = .ok (.getfield 104, 3) := by decide +kernel
theorem dX4_readSheet_74 : decode cX4_readSheet 74 = .ok (.iconst 1, 1) := by decide +kernel
theorem dX4_readSheet_75 : decode cX4_readSheet 75 = .ok (.isub, 1) := by decide +kernel
theorem dX4_readSheet_76 : decode cX4_readSheet 76 = .ok (.invokevirtual 70, 3) := by decide +kernel
theorem dX4_readSheet_79 : decode cX4_readSheet 79 = .ok (.ifCond .ne 5, 3) := by decide +kernel
theorem dX4_readSheet_82 : decode cX4_readSheet 82 = .ok (.iconst 0, 1) := by decide +kernel
theorem dX4_readSheet_83 : decode cX4_readSheet 83 = .ok (.ireturn, 1) := by decide +kernel
theorem dX4_readSheet_84 : decode cX4_readSheet 84 = .ok (.aload_n 0, 1) := by decide +kernel
theorem dX4_readSheet_85 : decode cX4_readSheet 85 = .ok (.getfield 38, 3) := by decide +kernel
theorem dX4_readSheet_88 : decode cX4_readSheet 88 = .ok (.istore_n 2, 1) := by decide +kernel
theorem dX4_readSheet_89 : decode cX4_readSheet 89 = .ok (.aload_n 0, 1) := by decide +kernel
theorem dX4_readSheet_90 : decode cX4_readSheet 90 = .ok (.iconst 0, 1) := by decide +kernel
theorem dX4_readSheet_91 : decode cX4_readSheet 91 = .ok (.bipush 99, 2) := by decide +kernel
theorem dX4_readSheet_93 : decode cX4_readSheet 93 = .ok (.invokevirtual 70, 3) := by decide +kernel
theorem dX4_readSheet_96 : decode cX4_readSheet 96 = .ok (.ifCond .ne 5, 3) := by decide +kernel
theorem dX4_readSheet_99 : decode cX4_readSheet 99 = .ok (.iconst 0, 1) := by decide +kernel
theorem dX4_readSheet_100 : decode cX4_readSheet 100 = .ok (.ireturn, 1) := by decide +kernel
theorem dX4_readSheet_101 : decode cX4_readSheet 101 = .ok (.aload_n 0, 1) := by decide +kernel
theorem dX4_readSheet_102 : decode cX4_readSheet 102 = .ok (.getfield 38, 3) := by decide +kernel
theorem dX4_readSheet_105 : decode cX4_readSheet 105 = .ok (.istore_n 3, 1) := by decide +kernel
theorem dX4_readSheet_106 : decode cX4_readSheet 106 = .ok (.aload_n 0, 1) := by decide +kernel
theorem dX4_readSheet_107 : decode cX4_readSheet 107 = .ok (.iconst 0, 1) := by decide +kernel
theorem dX4_readSheet_108 : decode cX4_readSheet 108 = .ok (.bipush 12, 2) := by decide +kernel
theorem dX4_readSheet_110 : decode cX4_readSheet 110 = .ok (.invokevirtual 70, 3) := by decide +kernel
theorem dX4_readSheet_113 : decode cX4_readSheet 113 = .ok (.ifCond .ne 5, 3) := by decide +kernel
theorem dX4_readSheet_116 : decode cX4_readSheet 116 = .ok (.iconst 0, 1) := by decide +kernel
theorem dX4_readSheet_117 : decode cX4_readSheet 117 = .ok (.ireturn, 1) := by decide +kernel
theorem dX4_readSheet_118 : decode cX4_readSheet 118 = .ok (.aload_n 0, 1) := by decide +kernel
theorem dX4_readSheet_119 : decode cX4_readSheet 119 = .ok (.getfield 21, 3) := by decide +kernel
theorem dX4_readSheet_122 : decode cX4_readSheet 122 = .ok (.iload_n 1, 1) := by decide +kernel
theorem dX4_readSheet_123 : decode cX4_readSheet 123 = .ok (.iload_n 2, 1) := by decide +kernel
theorem dX4_readSheet_124 : decode cX4_readSheet 124 = .ok (.iload_n 3, 1) := by decide +kernel
theorem dX4_readSheet_125 : decode cX4_readSheet 125 = .ok (.aload_n 0, 1) := by decide +kernel
theorem dX4_readSheet_126 : decode cX4_readSheet 126 = .ok (.getfield 38, 3) := by decide +kernel
theorem dX4_readSheet_129 : decode cX4_readSheet 129 = .ok (.invokevirtual 107, 3) := by decide +kernel
theorem dX4_readSheet_132 : decode cX4_readSheet 132 = .ok (.pop, 1) := by decide +kernel
theorem dX4_readSheet_133 : decode cX4_readSheet 133 = .ok (.aload_n 0, 1) := by decide +kernel
theorem dX4_readSheet_134 : decode cX4_readSheet 134 = .ok (.invokevirtual 77, 3) := by decide +kernel
theorem dX4_readSheet_137 : decode cX4_readSheet 137 = .ok (.ireturn, 1) := by decide +kernel
theorem dX4_sortTold_0 : decode cX4_sortTold 0 = .ok (.aload_n 0, 1) := by decide +kernel
theorem dX4_sortTold_1 : decode cX4_sortTold 1 = .ok (.ldc 111, 2) := by decide +kernel
theorem dX4_sortTold_3 : decode cX4_sortTold 3 = .ok (.invokevirtual 62, 3) := by decide +kernel
theorem dX4_sortTold_6 : decode cX4_sortTold 6 = .ok (.ifCond .eq 7, 3) := by decide +kernel
theorem dX4_sortTold_9 : decode cX4_sortTold 9 = .ok (.iconst 2, 1) := by decide +kernel
theorem dX4_sortTold_10 : decode cX4_sortTold 10 = .ok (.goto 56, 3) := by decide +kernel
theorem dX4_sortTold_13 : decode cX4_sortTold 13 = .ok (.aload_n 0, 1) := by decide +kernel
theorem dX4_sortTold_14 : decode cX4_sortTold 14 = .ok (.ldc 113, 2) := by decide +kernel
theorem dX4_sortTold_16 : decode cX4_sortTold 16 = .ok (.invokevirtual 62, 3) := by decide +kernel
theorem dX4_sortTold_19 : decode cX4_sortTold 19 = .ok (.ifCond .eq 7, 3) := by decide +kernel
theorem dX4_sortTold_22 : decode cX4_sortTold 22 = .ok (.iconst 3, 1) := by decide +kernel
theorem dX4_sortTold_23 : decode cX4_sortTold 23 = .ok (.goto 43, 3) := by decide +kernel
theorem dX4_sortTold_26 : decode cX4_sortTold 26 = .ok (.aload_n 0, 1) := by decide +kernel
theorem dX4_sortTold_27 : decode cX4_sortTold 27 = .ok (.ldc 115, 2) := by decide +kernel
theorem dX4_sortTold_29 : decode cX4_sortTold 29 = .ok (.invokevirtual 62, 3) := by decide +kernel
theorem dX4_sortTold_32 : decode cX4_sortTold 32 = .ok (.ifCond .eq 7, 3) := by decide +kernel
theorem dX4_sortTold_35 : decode cX4_sortTold 35 = .ok (.iconst 1, 1) := by decide +kernel
theorem dX4_sortTold_36 : decode cX4_sortTold 36 = .ok (.goto 30, 3) := by decide +kernel
theorem dX4_sortTold_39 : decode cX4_sortTold 39 = .ok (.aload_n 0, 1) := by decide +kernel
theorem dX4_sortTold_40 : decode cX4_sortTold 40 = .ok (.ldc 117, 2) := by decide +kernel
theorem dX4_sortTold_42 : decode cX4_sortTold 42 = .ok (.invokevirtual 62, 3) := by decide +kernel
theorem dX4_sortTold_45 : decode cX4_sortTold 45 = .ok (.ifCond .eq 7, 3) := by decide +kernel
theorem dX4_sortTold_48 : decode cX4_sortTold 48 = .ok (.iconst 4, 1) := by decide +kernel
theorem dX4_sortTold_49 : decode cX4_sortTold 49 = .ok (.goto 17, 3) := by decide +kernel
theorem dX4_sortTold_52 : decode cX4_sortTold 52 = .ok (.aload_n 0, 1) := by decide +kernel
theorem dX4_sortTold_53 : decode cX4_sortTold 53 = .ok (.ldc 119, 2) := by decide +kernel
theorem dX4_sortTold_55 : decode cX4_sortTold 55 = .ok (.invokevirtual 62, 3) := by decide +kernel
theorem dX4_sortTold_58 : decode cX4_sortTold 58 = .ok (.ifCond .eq 7, 3) := by decide +kernel
theorem dX4_sortTold_61 : decode cX4_sortTold 61 = .ok (.iconst 5, 1) := by decide +kernel
theorem dX4_sortTold_62 : decode cX4_sortTold 62 = .ok (.goto 4, 3) := by decide +kernel
theorem dX4_sortTold_65 : decode cX4_sortTold 65 = .ok (.iconst 0, 1) := by decide +kernel
theorem dX4_sortTold_66 : decode cX4_sortTold 66 = .ok (.ireturn, 1) := by decide +kernel
theorem dX4_takeNumber_0 : decode cX4_takeNumber 0 = .ok (.aload_n 0, 1) := by decide +kernel
theorem dX4_takeNumber_1 : decode cX4_takeNumber 1 = .ok (.getfield 25, 3) := by decide +kernel
theorem dX4_takeNumber_4 : decode cX4_takeNumber 4 = .ok (.iconst 2, 1) := by decide +kernel
theorem dX4_takeNumber_5 : decode cX4_takeNumber 5 = .ok (.if_icmp .eq 9, 3) := by decide +kernel
theorem dX4_takeNumber_8 : decode cX4_takeNumber 8 = .ok (.aload_n 0, 1) := by decide +kernel
theorem dX4_takeNumber_9 : decode cX4_takeNumber 9 = .ok (.iconst 1, 1) := by decide +kernel
theorem dX4_takeNumber_10 : decode cX4_takeNumber 10 = .ok (.invokevirtual 66, 3) := by decide +kernel
theorem dX4_takeNumber_13 : decode cX4_takeNumber 13 = .ok (.ireturn, 1) := by decide +kernel
theorem dX4_takeNumber_14 : decode cX4_takeNumber 14 = .ok (.aload_n 0, 1) := by decide +kernel
theorem dX4_takeNumber_15 : decode cX4_takeNumber 15 = .ok (.getfield 35, 3) := by decide +kernel
theorem dX4_takeNumber_18 : decode cX4_takeNumber 18 = .ok (.iload_n 1, 1) := by decide +kernel
theorem dX4_takeNumber_19 : decode cX4_takeNumber 19 = .ok (.if_icmp .lt 11, 3) := by decide +kernel
theorem dX4_takeNumber_22 : decode cX4_takeNumber 22 = .ok (.aload_n 0, 1) := by decide +kernel
theorem dX4_takeNumber_23 : decode cX4_takeNumber 23 = .ok (.getfield 35, 3) := by decide +kernel
theorem dX4_takeNumber_26 : decode cX4_takeNumber 26 = .ok (.iload_n 2, 1) := by decide +kernel
theorem dX4_takeNumber_27 : decode cX4_takeNumber 27 = .ok (.if_icmp .le 9, 3) := by decide +kernel
theorem dX4_takeNumber_30 : decode cX4_takeNumber 30 = .ok (.aload_n 0, 1) := by decide +kernel
theorem dX4_takeNumber_31 : decode cX4_takeNumber 31 = .ok (.iconst 2, 1) := by decide +kernel
theorem dX4_takeNumber_32 : decode cX4_takeNumber 32 = .ok (.invokevirtual 66, 3) := by decide +kernel
theorem dX4_takeNumber_35 : decode cX4_takeNumber 35 = .ok (.ireturn, 1) := by decide +kernel
theorem dX4_takeNumber_36 : decode cX4_takeNumber 36 = .ok (.aload_n 0, 1) := by decide +kernel
theorem dX4_takeNumber_37 : decode cX4_takeNumber 37 = .ok (.aload_n 0, 1) := by decide +kernel
theorem dX4_takeNumber_38 : decode cX4_takeNumber 38 = .ok (.getfield 35, 3) := by decide +kernel
theorem dX4_takeNumber_41 : decode cX4_takeNumber 41 = .ok (.putfield 38, 3) := by decide +kernel
theorem dX4_takeNumber_44 : decode cX4_takeNumber 44 = .ok (.aload_n 0, 1) := by decide +kernel
theorem dX4_takeNumber_45 : decode cX4_takeNumber 45 = .ok (.invokevirtual 47, 3) := by decide +kernel
theorem dX4_takeNumber_48 : decode cX4_takeNumber 48 = .ok (.iconst 1, 1) := by decide +kernel
theorem dX4_takeNumber_49 : decode cX4_takeNumber 49 = .ok (.ireturn, 1) := by decide +kernel
theorem dX4_takeSemicolon_0 : decode cX4_takeSemicolon 0 = .ok (.aload_n 0, 1) := by decide +kernel
theorem dX4_takeSemicolon_1 : decode cX4_takeSemicolon 1 = .ok (.getfield 25, 3) := by decide +kernel
theorem dX4_takeSemicolon_4 : decode cX4_takeSemicolon 4 = .ok (.iconst 3, 1) := by decide +kernel
theorem dX4_takeSemicolon_5 : decode cX4_takeSemicolon 5 = .ok (.if_icmp .eq 9, 3) := by decide +kernel
theorem dX4_takeSemicolon_8 : decode cX4_takeSemicolon 8 = .ok (.aload_n 0, 1) := by decide +kernel
theorem dX4_takeSemicolon_9 : decode cX4_takeSemicolon 9 = .ok (.iconst 1, 1) := by decide +kernel
theorem dX4_takeSemicolon_10 : decode cX4_takeSemicolon 10 = .ok (.invokevirtual 66, 3) := by decide +kernel
theorem dX4_takeSemicolon_13 : decode cX4_takeSemicolon 13 = .ok (.ireturn, 1) := by decide +kernel
theorem dX4_takeSemicolon_14 : decode cX4_takeSemicolon 14 = .ok (.aload_n 0, 1) := by decide +kernel
theorem dX4_takeSemicolon_15 : decode cX4_takeSemicolon 15 = .ok (.invokevirtual 47, 3) := by decide +kernel
theorem dX4_takeSemicolon_18 : decode cX4_takeSemicolon 18 = .ok (.iconst 1, 1) := by decide +kernel
theorem dX4_takeSemicolon_19 : decode cX4_takeSemicolon 19 = .ok (.ireturn, 1) := by decide +kernel
theorem dX4_fail_0 : decode cX4_fail 0 = .ok (.aload_n 0, 1) := by decide +kernel
theorem dX4_fail_1 : decode cX4_fail 1 = .ok (.iload_n 1, 1) := by decide +kernel
theorem dX4_fail_2 : decode cX4_fail 2 = .ok (.putfield 41, 3) := by decide +kernel
theorem dX4_fail_5 : decode cX4_fail 5 = .ok (.iconst 0, 1) := by decide +kernel
theorem dX4_fail_6 : decode cX4_fail 6 = .ok (.ireturn, 1) := by decide +kernel
theorem dX4_isWord_0 : decode cX4_isWord 0 = .ok (.aload_n 0, 1) := by decide +kernel
theorem dX4_isWord_1 : decode cX4_isWord 1 = .ok (.getfield 25, 3) := by decide +kernel
theorem dX4_isWord_4 : decode cX4_isWord 4 = .ok (.iconst 1, 1) := by decide +kernel
theorem dX4_isWord_5 : decode cX4_isWord 5 = .ok (.if_icmp .ne 19, 3) := by decide +kernel
theorem dX4_isWord_8 : decode cX4_isWord 8 = .ok (.aload_n 0, 1) := by decide +kernel
theorem dX4_isWord_9 : decode cX4_isWord 9 = .ok (.getfield 32, 3) := by decide +kernel
theorem dX4_isWord_12 : decode cX4_isWord 12 = .ok (.aload_n 0, 1) := by decide +kernel
theorem dX4_isWord_13 : decode cX4_isWord 13 = .ok (.getfield 29, 3) := by decide +kernel
theorem dX4_isWord_16 : decode cX4_isWord 16 = .ok (.isub, 1) := by decide +kernel
theorem dX4_isWord_17 : decode cX4_isWord 17 = .ok (.aload_n 1, 1) := by decide +kernel
theorem dX4_isWord_18 : decode cX4_isWord 18 = .ok (.invokevirtual 121, 3) := by decide +kernel
theorem dX4_isWord_21 : decode cX4_isWord 21 = .ok (.if_icmp .eq 5, 3) := by decide +kernel
theorem dX4_isWord_24 : decode cX4_isWord 24 = .ok (.iconst 0, 1) := by decide +kernel
theorem dX4_isWord_25 : decode cX4_isWord 25 = .ok (.ireturn, 1) := by decide +kernel
theorem dX4_isWord_26 : decode cX4_isWord 26 = .ok (.iconst 0, 1) := by decide +kernel
theorem dX4_isWord_27 : decode cX4_isWord 27 = .ok (.istore_n 2, 1) := by decide +kernel
theorem dX4_isWord_28 : decode cX4_isWord 28 = .ok (.iload_n 2, 1) := by decide +kernel
theorem dX4_isWord_29 : decode cX4_isWord 29 = .ok (.aload_n 1, 1) := by decide +kernel
theorem dX4_isWord_30 : decode cX4_isWord 30 = .ok (.invokevirtual 121, 3) := by decide +kernel
theorem dX4_isWord_33 : decode cX4_isWord 33 = .ok (.if_icmp .ge 32, 3) := by decide +kernel
theorem dX4_isWord_36 : decode cX4_isWord 36 = .ok (.aload_n 0, 1) := by decide +kernel
theorem dX4_isWord_37 : decode cX4_isWord 37 = .ok (.getfield 12, 3) := by decide +kernel
theorem dX4_isWord_40 : decode cX4_isWord 40 = .ok (.aload_n 0, 1) := by decide +kernel
theorem dX4_isWord_41 : decode cX4_isWord 41 = .ok (.getfield 29, 3) := by decide +kernel
theorem dX4_isWord_44 : decode cX4_isWord 44 = .ok (.iload_n 2, 1) := by decide +kernel
theorem dX4_isWord_45 : decode cX4_isWord 45 = .ok (.iadd, 1) := by decide +kernel
theorem dX4_isWord_46 : decode cX4_isWord 46 = .ok (.invokevirtual 126, 3) := by decide +kernel
theorem dX4_isWord_49 : decode cX4_isWord 49 = .ok (.aload_n 1, 1) := by decide +kernel
theorem dX4_isWord_50 : decode cX4_isWord 50 = .ok (.iload_n 2, 1) := by decide +kernel
theorem dX4_isWord_51 : decode cX4_isWord 51 = .ok (.invokevirtual 130, 3) := by decide +kernel
theorem dX4_isWord_54 : decode cX4_isWord 54 = .ok (.if_icmp .eq 5, 3) := by decide +kernel
theorem dX4_isWord_57 : decode cX4_isWord 57 = .ok (.iconst 0, 1) := by decide +kernel
theorem dX4_isWord_58 : decode cX4_isWord 58 = .ok (.ireturn, 1) := by decide +kernel
theorem dX4_isWord_59 : decode cX4_isWord 59 = .ok (.iinc 2 1, 3) := by decide +kernel
theorem dX4_isWord_62 : decode cX4_isWord 62 = .ok (.goto (-34), 3) := by decide +kernel
theorem dX4_isWord_65 : decode cX4_isWord 65 = .ok (.iconst 1, 1) := by decide +kernel
theorem dX4_isWord_66 : decode cX4_isWord 66 = .ok (.ireturn, 1) := by decide +kernel
theorem dX4_step_0 : decode cX4_step 0 = .ok (.aload_n 0, 1) := by decide +kernel
theorem dX4_step_1 : decode cX4_step 1 = .ok (.getfield 32, 3) := by decide +kernel
theorem dX4_step_4 : decode cX4_step 4 = .ok (.aload_n 0, 1) := by decide +kernel
theorem dX4_step_5 : decode cX4_step 5 = .ok (.getfield 12, 3) := by decide +kernel
theorem dX4_step_8 : decode cX4_step 8 = .ok (.getfield 134, 3) := by decide +kernel
theorem dX4_step_11 : decode cX4_step 11 = .ok (.if_icmp .ge 33, 3) := by decide +kernel
theorem dX4_step_14 : decode cX4_step 14 = .ok (.aload_n 0, 1) := by decide +kernel
theorem dX4_step_15 : decode cX4_step 15 = .ok (.getfield 12, 3) := by decide +kernel
theorem dX4_step_18 : decode cX4_step 18 = .ok (.aload_n 0, 1) := by decide +kernel
theorem dX4_step_19 : decode cX4_step 19 = .ok (.getfield 32, 3) := by decide +kernel
theorem dX4_step_22 : decode cX4_step 22 = .ok (.invokevirtual 126, 3) := by decide +kernel
theorem dX4_step_25 : decode cX4_step 25 = .ok (.invokestatic 136, 3) := by decide +kernel
theorem dX4_step_28 : decode cX4_step 28 = .ok (.ifCond .eq 16, 3) := by decide +kernel
theorem dX4_step_31 : decode cX4_step 31 = .ok (.aload_n 0, 1) := by decide +kernel
theorem dX4_step_32 : decode cX4_step 32 = .ok (.dup, 1) := by decide +kernel
theorem dX4_step_33 : decode cX4_step 33 = .ok (.getfield 32, 3) := by decide +kernel
theorem dX4_step_36 : decode cX4_step 36 = .ok (.iconst 1, 1) := by decide +kernel
theorem dX4_step_37 : decode cX4_step 37 = .ok (.iadd, 1) := by decide +kernel
theorem dX4_step_38 : decode cX4_step 38 = .ok (.putfield 32, 3) := by decide +kernel
theorem dX4_step_41 : decode cX4_step 41 = .ok (.goto (-41), 3) := by decide +kernel
theorem dX4_step_44 : decode cX4_step 44 = .ok (.aload_n 0, 1) := by decide +kernel
theorem dX4_step_45 : decode cX4_step 45 = .ok (.aload_n 0, 1) := by decide +kernel
theorem dX4_step_46 : decode cX4_step 46 = .ok (.getfield 32, 3) := by decide +kernel
theorem dX4_step_49 : decode cX4_step 49 = .ok (.putfield 29, 3) := by decide +kernel
theorem dX4_step_52 : decode cX4_step 52 = .ok (.aload_n 0, 1) := by decide +kernel
theorem dX4_step_53 : decode cX4_step 53 = .ok (.iconst 0, 1) := by decide +kernel
theorem dX4_step_54 : decode cX4_step 54 = .ok (.putfield 35, 3) := by decide +kernel
theorem dX4_step_57 : decode cX4_step 57 = .ok (.aload_n 0, 1) := by decide +kernel
theorem dX4_step_58 : decode cX4_step 58 = .ok (.getfield 32, 3) := by decide +kernel
theorem dX4_step_61 : decode cX4_step 61 = .ok (.aload_n 0, 1) := by decide +kernel
theorem dX4_step_62 : decode cX4_step 62 = .ok (.getfield 12, 3) := by decide +kernel
theorem dX4_step_65 : decode cX4_step 65 = .ok (.getfield 134, 3) := by decide +kernel
theorem dX4_step_68 : decode cX4_step 68 = .ok (.if_icmp .lt 11, 3) := by decide +kernel
theorem dX4_step_71 : decode cX4_step 71 = .ok (.aload_n 0, 1) := by decide +kernel
theorem dX4_step_72 : decode cX4_step 72 = .ok (.iconst 0, 1) := by decide +kernel
theorem dX4_step_73 : decode cX4_step 73 = .ok (.putfield 25, 3) := by decide +kernel
theorem dX4_step_76 : decode cX4_step 76 = .ok (.goto 216, 3) := by decide +kernel
theorem dX4_step_79 : decode cX4_step 79 = .ok (.aload_n 0, 1) := by decide +kernel
theorem dX4_step_80 : decode cX4_step 80 = .ok (.getfield 12, 3) := by decide +kernel
theorem dX4_step_83 : decode cX4_step 83 = .ok (.aload_n 0, 1) := by decide +kernel
theorem dX4_step_84 : decode cX4_step 84 = .ok (.getfield 32, 3) := by decide +kernel
theorem dX4_step_87 : decode cX4_step 87 = .ok (.invokevirtual 126, 3) := by decide +kernel
theorem dX4_step_90 : decode cX4_step 90 = .ok (.invokestatic 139, 3) := by decide +kernel
theorem dX4_step_93 : decode cX4_step 93 = .ok (.ifCond .eq 52, 3) := by decide +kernel
theorem dX4_step_96 : decode cX4_step 96 = .ok (.aload_n 0, 1) := by decide +kernel
theorem dX4_step_97 : decode cX4_step 97 = .ok (.iconst 1, 1) := by decide +kernel
theorem dX4_step_98 : decode cX4_step 98 = .ok (.putfield 25, 3) := by decide +kernel
theorem dX4_step_101 : decode cX4_step 101 = .ok (.aload_n 0, 1) := by decide +kernel
theorem dX4_step_102 : decode cX4_step 102 = .ok (.getfield 32, 3) := by decide +kernel
theorem dX4_step_105 : decode cX4_step 105 = .ok (.aload_n 0, 1) := by decide +kernel
theorem dX4_step_106 : decode cX4_step 106 = .ok (.getfield 12, 3) := by decide +kernel
theorem dX4_step_109 : decode cX4_step 109 = .ok (.getfield 134, 3) := by decide +kernel
theorem dX4_step_112 : decode cX4_step 112 = .ok (.if_icmp .ge 180, 3) := by decide +kernel
theorem dX4_step_115 : decode cX4_step 115 = .ok (.aload_n 0, 1) := by decide +kernel
theorem dX4_step_116 : decode cX4_step 116 = .ok (.getfield 12, 3) := by decide +kernel
theorem dX4_step_119 : decode cX4_step 119 = .ok (.aload_n 0, 1) := by decide +kernel
theorem dX4_step_120 : decode cX4_step 120 = .ok (.getfield 32, 3) := by decide +kernel
theorem dX4_step_123 : decode cX4_step 123 = .ok (.invokevirtual 126, 3) := by decide +kernel
theorem dX4_step_126 : decode cX4_step 126 = .ok (.invokestatic 139, 3) := by decide +kernel
theorem dX4_step_129 : decode cX4_step 129 = .ok (.ifCond .eq 163, 3) := by decide +kernel
theorem dX4_step_132 : decode cX4_step 132 = .ok (.aload_n 0, 1) := by decide +kernel
theorem dX4_step_133 : decode cX4_step 133 = .ok (.dup, 1) := by decide +kernel
theorem dX4_step_134 : decode cX4_step 134 = .ok (.getfield 32, 3) := by decide +kernel
theorem dX4_step_137 : decode cX4_step 137 = .ok (.iconst 1, 1) := by decide +kernel
theorem dX4_step_138 : decode cX4_step 138 = .ok (.iadd, 1) := by decide +kernel
theorem dX4_step_139 : decode cX4_step 139 = .ok (.putfield 32, 3) := by decide +kernel
theorem dX4_step_142 : decode cX4_step 142 = .ok (.goto (-41), 3) := by decide +kernel
theorem dX4_step_145 : decode cX4_step 145 = .ok (.aload_n 0, 1) := by decide +kernel
theorem dX4_step_146 : decode cX4_step 146 = .ok (.getfield 12, 3) := by decide +kernel
theorem dX4_step_149 : decode cX4_step 149 = .ok (.aload_n 0, 1) := by decide +kernel
theorem dX4_step_150 : decode cX4_step 150 = .ok (.getfield 32, 3) := by decide +kernel
theorem dX4_step_153 : decode cX4_step 153 = .ok (.invokevirtual 126, 3) := by decide +kernel
theorem dX4_step_156 : decode cX4_step 156 = .ok (.invokestatic 142, 3) := by decide +kernel
theorem dX4_step_159 : decode cX4_step 159 = .ok (.ifCond .eq 98, 3) := by decide +kernel
theorem dX4_step_162 : decode cX4_step 162 = .ok (.aload_n 0, 1) := by decide +kernel
theorem dX4_step_163 : decode cX4_step 163 = .ok (.getfield 32, 3) := by decide +kernel
theorem dX4_step_166 : decode cX4_step 166 = .ok (.aload_n 0, 1) := by decide +kernel
theorem dX4_step_167 : decode cX4_step 167 = .ok (.getfield 12, 3) := by decide +kernel
theorem dX4_step_170 : decode cX4_step 170 = .ok (.getfield 134, 3) := by decide +kernel
theorem dX4_step_173 : decode cX4_step 173 = .ok (.if_icmp .ge 59, 3) := by decide +kernel
theorem dX4_step_176 : decode cX4_step 176 = .ok (.aload_n 0, 1) := by decide +kernel
theorem dX4_step_177 : decode cX4_step 177 = .ok (.getfield 12, 3) := by decide +kernel
theorem dX4_step_180 : decode cX4_step 180 = .ok (.aload_n 0, 1) := by decide +kernel
theorem dX4_step_181 : decode cX4_step 181 = .ok (.getfield 32, 3) := by decide +kernel
theorem dX4_step_184 : decode cX4_step 184 = .ok (.invokevirtual 126, 3) := by decide +kernel
theorem dX4_step_187 : decode cX4_step 187 = .ok (.invokestatic 142, 3) := by decide +kernel
theorem dX4_step_190 : decode cX4_step 190 = .ok (.ifCond .eq 42, 3) := by decide +kernel
theorem dX4_step_193 : decode cX4_step 193 = .ok (.aload_n 0, 1) := by decide +kernel
theorem dX4_step_194 : decode cX4_step 194 = .ok (.aload_n 0, 1) := by decide +kernel
theorem dX4_step_195 : decode cX4_step 195 = .ok (.getfield 35, 3) := by decide +kernel
theorem dX4_step_198 : decode cX4_step 198 = .ok (.bipush 10, 2) := by decide +kernel
theorem dX4_step_200 : decode cX4_step 200 = .ok (.imul, 1) := by decide +kernel
theorem dX4_step_201 : decode cX4_step 201 = .ok (.aload_n 0, 1) := by decide +kernel
theorem dX4_step_202 : decode cX4_step 202 = .ok (.getfield 12, 3) := by decide +kernel
theorem dX4_step_205 : decode cX4_step 205 = .ok (.aload_n 0, 1) := by decide +kernel
theorem dX4_step_206 : decode cX4_step 206 = .ok (.getfield 32, 3) := by decide +kernel
theorem dX4_step_209 : decode cX4_step 209 = .ok (.invokevirtual 126, 3) := by decide +kernel
theorem dX4_step_212 : decode cX4_step 212 = .ok (.bipush 48, 2) := by decide +kernel
theorem dX4_step_214 : decode cX4_step 214 = .ok (.isub, 1) := by decide +kernel
theorem dX4_step_215 : decode cX4_step 215 = .ok (.iadd, 1) := by decide +kernel
theorem dX4_step_216 : decode cX4_step 216 = .ok (.putfield 35, 3) := by decide +kernel
theorem dX4_step_219 : decode cX4_step 219 = .ok (.aload_n 0, 1) := by decide +kernel
theorem dX4_step_220 : decode cX4_step 220 = .ok (.dup, 1) := by decide +kernel
theorem dX4_step_221 : decode cX4_step 221 = .ok (.getfield 32, 3) := by decide +kernel
theorem dX4_step_224 : decode cX4_step 224 = .ok (.iconst 1, 1) := by decide +kernel
theorem dX4_step_225 : decode cX4_step 225 = .ok (.iadd, 1) := by decide +kernel
theorem dX4_step_226 : decode cX4_step 226 = .ok (.putfield 32, 3) := by decide +kernel
theorem dX4_step_229 : decode cX4_step 229 = .ok (.goto (-67), 3) := by decide +kernel
theorem dX4_step_232 : decode cX4_step 232 = .ok (.aload_n 0, 1) := by decide +kernel
theorem dX4_step_233 : decode cX4_step 233 = .ok (.aload_n 0, 1) := by decide +kernel
theorem dX4_step_234 : decode cX4_step 234 = .ok (.getfield 32, 3) := by decide +kernel
theorem dX4_step_237 : decode cX4_step 237 = .ok (.aload_n 0, 1) := by decide +kernel
theorem dX4_step_238 : decode cX4_step 238 = .ok (.getfield 29, 3) := by decide +kernel
theorem dX4_step_241 : decode cX4_step 241 = .ok (.isub, 1) := by decide +kernel
theorem dX4_step_242 : decode cX4_step 242 = .ok (.iconst 3, 1) := by decide +kernel
theorem dX4_step_243 : decode cX4_step 243 = .ok (.if_icmp .gt 7, 3) := by decide +kernel
theorem dX4_step_246 : decode cX4_step 246 = .ok (.iconst 2, 1) := by decide +kernel
theorem dX4_step_247 : decode cX4_step 247 = .ok (.goto 4, 3) := by decide +kernel
theorem dX4_step_250 : decode cX4_step 250 = .ok (.iconst 4, 1) := by decide +kernel
theorem dX4_step_251 : decode cX4_step 251 = .ok (.putfield 25, 3) := by decide +kernel
theorem dX4_step_254 : decode cX4_step 254 = .ok (.goto 38, 3) := by decide +kernel
theorem dX4_step_257 : decode cX4_step 257 = .ok (.aload_n 0, 1) := by decide +kernel
theorem dX4_step_258 : decode cX4_step 258 = .ok (.aload_n 0, 1) := by decide +kernel
theorem dX4_step_259 : decode cX4_step 259 = .ok (.getfield 12, 3) := by decide +kernel
theorem dX4_step_262 : decode cX4_step 262 = .ok (.aload_n 0, 1) := by decide +kernel
theorem dX4_step_263 : decode cX4_step 263 = .ok (.getfield 32, 3) := by decide +kernel
theorem dX4_step_266 : decode cX4_step 266 = .ok (.invokevirtual 126, 3) := by decide +kernel
theorem dX4_step_269 : decode cX4_step 269 = .ok (.bipush 59, 2) := by decide +kernel
theorem dX4_step_271 : decode cX4_step 271 = .ok (.if_icmp .ne 7, 3) := by decide +kernel
theorem dX4_step_274 : decode cX4_step 274 = .ok (.iconst 3, 1) := by decide +kernel
theorem dX4_step_275 : decode cX4_step 275 = .ok (.goto 4, 3) := by decide +kernel
theorem dX4_step_278 : decode cX4_step 278 = .ok (.iconst 4, 1) := by decide +kernel
theorem dX4_step_279 : decode cX4_step 279 = .ok (.putfield 25, 3) := by decide +kernel
theorem dX4_step_282 : decode cX4_step 282 = .ok (.aload_n 0, 1) := by decide +kernel
theorem dX4_step_283 : decode cX4_step 283 = .ok (.dup, 1) := by decide +kernel
theorem dX4_step_284 : decode cX4_step 284 = .ok (.getfield 32, 3) := by decide +kernel
theorem dX4_step_287 : decode cX4_step 287 = .ok (.iconst 1, 1) := by decide +kernel
theorem dX4_step_288 : decode cX4_step 288 = .ok (.iadd, 1) := by decide +kernel
theorem dX4_step_289 : decode cX4_step 289 = .ok (.putfield 32, 3) := by decide +kernel
theorem dX4_step_292 : decode cX4_step 292 = .ok (.return_, 1) := by decide +kernel
theorem dX4_isBlank_0 : decode cX4_isBlank 0 = .ok (.iload_n 0, 1) := by decide +kernel
theorem dX4_isBlank_1 : decode cX4_isBlank 1 = .ok (.bipush 32, 2) := by decide +kernel
theorem dX4_isBlank_3 : decode cX4_isBlank 3 = .ok (.if_icmp .eq 9, 3) := by decide +kernel
theorem dX4_isBlank_6 : decode cX4_isBlank 6 = .ok (.iload_n 0, 1) := by decide +kernel
theorem dX4_isBlank_7 : decode cX4_isBlank 7 = .ok (.bipush 10, 2) := by decide +kernel
theorem dX4_isBlank_9 : decode cX4_isBlank 9 = .ok (.if_icmp .ne 7, 3) := by decide +kernel
theorem dX4_isBlank_12 : decode cX4_isBlank 12 = .ok (.iconst 1, 1) := by decide +kernel
theorem dX4_isBlank_13 : decode cX4_isBlank 13 = .ok (.goto 4, 3) := by decide +kernel
theorem dX4_isBlank_16 : decode cX4_isBlank 16 = .ok (.iconst 0, 1) := by decide +kernel
theorem dX4_isBlank_17 : decode cX4_isBlank 17 = .ok (.ireturn, 1) := by decide +kernel
theorem dX4_isLetter_0 : decode cX4_isLetter 0 = .ok (.iload_n 0, 1) := by decide +kernel
theorem dX4_isLetter_1 : decode cX4_isLetter 1 = .ok (.bipush 97, 2) := by decide +kernel
theorem dX4_isLetter_3 : decode cX4_isLetter 3 = .ok (.if_icmp .lt 13, 3) := by decide +kernel
theorem dX4_isLetter_6 : decode cX4_isLetter 6 = .ok (.iload_n 0, 1) := by decide +kernel
theorem dX4_isLetter_7 : decode cX4_isLetter 7 = .ok (.bipush 122, 2) := by decide +kernel
theorem dX4_isLetter_9 : decode cX4_isLetter 9 = .ok (.if_icmp .gt 7, 3) := by decide +kernel
theorem dX4_isLetter_12 : decode cX4_isLetter 12 = .ok (.iconst 1, 1) := by decide +kernel
theorem dX4_isLetter_13 : decode cX4_isLetter 13 = .ok (.goto 4, 3) := by decide +kernel
theorem dX4_isLetter_16 : decode cX4_isLetter 16 = .ok (.iconst 0, 1) := by decide +kernel
theorem dX4_isLetter_17 : decode cX4_isLetter 17 = .ok (.ireturn, 1) := by decide +kernel
theorem dX4_isFigure_0 : decode cX4_isFigure 0 = .ok (.iload_n 0, 1) := by decide +kernel
theorem dX4_isFigure_1 : decode cX4_isFigure 1 = .ok (.bipush 48, 2) := by decide +kernel
theorem dX4_isFigure_3 : decode cX4_isFigure 3 = .ok (.if_icmp .lt 13, 3) := by decide +kernel
theorem dX4_isFigure_6 : decode cX4_isFigure 6 = .ok (.iload_n 0, 1) := by decide +kernel
theorem dX4_isFigure_7 : decode cX4_isFigure 7 = .ok (.bipush 57, 2) := by decide +kernel
theorem dX4_isFigure_9 : decode cX4_isFigure 9 = .ok (.if_icmp .gt 7, 3) := by decide +kernel
theorem dX4_isFigure_12 : decode cX4_isFigure 12 = .ok (.iconst 1, 1) := by decide +kernel
theorem dX4_isFigure_13 : decode cX4_isFigure 13 = .ok (.goto 4, 3) := by decide +kernel
theorem dX4_isFigure_16 : decode cX4_isFigure 16 = .ok (.iconst 0, 1) := by decide +kernel
theorem dX4_isFigure_17 : decode cX4_isFigure 17 = .ok (.ireturn, 1) := by decide +kernel
theorem dX5_init_0 : decode cX5_init 0 = .ok (.aload_n 0, 1) := by decide +kernel
theorem dX5_init_1 : decode cX5_init 1 = .ok (.invokespecial 3, 3) := by decide +kernel
theorem dX5_init_4 : decode cX5_init 4 = .ok (.aload_n 0, 1) := by decide +kernel
theorem dX5_init_5 : decode cX5_init 5 = .ok (.bipush 40, 2) := by decide +kernel
theorem dX5_init_7 : decode cX5_init 7 = .ok (.newarray .int, 2) := by decide +kernel
theorem dX5_init_9 : decode cX5_init 9 = .ok (.putfield 9, 3) := by decide +kernel
theorem dX5_init_12 : decode cX5_init 12 = .ok (.aload_n 0, 1) := by decide +kernel
theorem dX5_init_13 : decode cX5_init 13 = .ok (.iconst (-1), 1) := by decide +kernel
theorem dX5_init_14 : decode cX5_init 14 = .ok (.putfield 15, 3) := by decide +kernel
theorem dX5_init_17 : decode cX5_init 17 = .ok (.aload_n 0, 1) := by decide +kernel
theorem dX5_init_18 : decode cX5_init 18 = .ok (.iconst 0, 1) := by decide +kernel
theorem dX5_init_19 : decode cX5_init 19 = .ok (.putfield 19, 3) := by decide +kernel
theorem dX5_init_22 : decode cX5_init 22 = .ok (.return_, 1) := by decide +kernel
theorem dX5_isMissing_0 : decode cX5_isMissing 0 = .ok (.aload_n 0, 1) := by decide +kernel
theorem dX5_isMissing_1 : decode cX5_isMissing 1 = .ok (.getfield 15, 3) := by decide +kernel
theorem dX5_isMissing_4 : decode cX5_isMissing 4 = .ok (.iconst (-1), 1) := by decide +kernel
theorem dX5_isMissing_5 : decode cX5_isMissing 5 = .ok (.if_icmp .ne 7, 3) := by decide +kernel
theorem dX5_isMissing_8 : decode cX5_isMissing 8 = .ok (.iconst 1, 1) := by decide +kernel
theorem dX5_isMissing_9 : decode cX5_isMissing 9 = .ok (.goto 4, 3) := by decide +kernel
theorem dX5_isMissing_12 : decode cX5_isMissing 12 = .ok (.iconst 0, 1) := by decide +kernel
theorem dX5_isMissing_13 : decode cX5_isMissing 13 = .ok (.ireturn, 1) := by decide +kernel
theorem dX5_begin_0 : decode cX5_begin 0 = .ok (.aload_n 0, 1) := by decide +kernel
theorem dX5_begin_1 : decode cX5_begin 1 = .ok (.iload_n 1, 1) := by decide +kernel
theorem dX5_begin_2 : decode cX5_begin 2 = .ok (.putfield 15, 3) := by decide +kernel
theorem dX5_begin_5 : decode cX5_begin 5 = .ok (.aload_n 0, 1) := by decide +kernel
theorem dX5_begin_6 : decode cX5_begin 6 = .ok (.iload_n 2, 1) := by decide +kernel
theorem dX5_begin_7 : decode cX5_begin 7 = .ok (.putfield 19, 3) := by decide +kernel
theorem dX5_begin_10 : decode cX5_begin 10 = .ok (.iconst 0, 1) := by decide +kernel
theorem dX5_begin_11 : decode cX5_begin 11 = .ok (.istore_n 3, 1) := by decide +kernel
theorem dX5_begin_12 : decode cX5_begin 12 = .ok (.iload_n 3, 1) := by decide +kernel
theorem dX5_begin_13 : decode cX5_begin 13 = .ok (.bipush 40, 2) := by decide +kernel
theorem dX5_begin_15 : decode cX5_begin 15 = .ok (.if_icmp .ge 16, 3) := by decide +kernel
theorem dX5_begin_18 : decode cX5_begin 18 = .ok (.aload_n 0, 1) := by decide +kernel
theorem dX5_begin_19 : decode cX5_begin 19 = .ok (.getfield 9, 3) := by decide +kernel
theorem dX5_begin_22 : decode cX5_begin 22 = .ok (.iload_n 3, 1) := by decide +kernel
theorem dX5_begin_23 : decode cX5_begin 23 = .ok (.iconst 0, 1) := by decide +kernel
theorem dX5_begin_24 : decode cX5_begin 24 = .ok (.iastore, 1) := by decide +kernel
theorem dX5_begin_25 : decode cX5_begin 25 = .ok (.iinc 3 1, 3) := by decide +kernel
theorem dX5_begin_28 : decode cX5_begin 28 = .ok (.goto (-16), 3) := by decide +kernel
theorem dX5_begin_31 : decode cX5_begin 31 = .ok (.return_, 1) := by decide +kernel
theorem dX5_end_0 : decode cX5_end 0 = .ok (.aload_n 0, 1) := by decide +kernel
theorem dX5_end_1 : decode cX5_end 1 = .ok (.iconst (-1), 1) := by decide +kernel
theorem dX5_end_2 : decode cX5_end 2 = .ok (.putfield 15, 3) := by decide +kernel
theorem dX5_end_5 : decode cX5_end 5 = .ok (.aload_n 0, 1) := by decide +kernel
theorem dX5_end_6 : decode cX5_end 6 = .ok (.iconst 0, 1) := by decide +kernel
theorem dX5_end_7 : decode cX5_end 7 = .ok (.putfield 19, 3) := by decide +kernel
theorem dX5_end_10 : decode cX5_end 10 = .ok (.return_, 1) := by decide +kernel
theorem dX5_hasPlaces_0 : decode cX5_hasPlaces 0 = .ok (.iload_n 1, 1) := by decide +kernel
theorem dX5_hasPlaces_1 : decode cX5_hasPlaces 1 = .ok (.ifCond .lt 29, 3) := by decide +kernel
theorem dX5_hasPlaces_4 : decode cX5_hasPlaces 4 = .ok (.iload_n 2, 1) := by decide +kernel
theorem dX5_hasPlaces_5 : decode cX5_hasPlaces 5 = .ok (.ifCond .lt 25, 3) := by decide +kernel
theorem dX5_hasPlaces_8 : decode cX5_hasPlaces 8 = .ok (.iload_n 1, 1) := by decide +kernel
theorem dX5_hasPlaces_9 : decode cX5_hasPlaces 9 = .ok (.aload_n 0, 1) := by decide +kernel
theorem dX5_hasPlaces_10 : decode cX5_hasPlaces 10 = .ok (.getfield 19, 3) := by decide +kernel
theorem dX5_hasPlaces_13 : decode cX5_hasPlaces 13 = .ok (.if_icmp .gt 17, 3) := by decide +kernel
theorem dX5_hasPlaces_16 : decode cX5_hasPlaces 16 = .ok (.iload_n 2, 1) := by decide +kernel
theorem dX5_hasPlaces_17 : decode cX5_hasPlaces 17 = .ok (.aload_n 0, 1) := by decide +kernel
theorem dX5_hasPlaces_18 : decode cX5_hasPlaces 18 = .ok (.getfield 19, 3) := by decide +kernel
theorem dX5_hasPlaces_21 : decode cX5_hasPlaces 21 = .ok (.iload_n 1, 1) := by decide +kernel
theorem dX5_hasPlaces_22 : decode cX5_hasPlaces 22 = .ok (.isub, 1) := by decide +kernel
theorem dX5_hasPlaces_23 : decode cX5_hasPlaces 23 = .ok (.if_icmp .gt 7, 3) := by decide +kernel
theorem dX5_hasPlaces_26 : decode cX5_hasPlaces 26 = .ok (.iconst 1, 1) := by decide +kernel
theorem dX5_hasPlaces_27 : decode cX5_hasPlaces 27 = .ok (.goto 4, 3) := by decide +kernel
theorem dX5_hasPlaces_30 : decode cX5_hasPlaces 30 = .ok (.iconst 0, 1) := by decide +kernel
theorem dX5_hasPlaces_31 : decode cX5_hasPlaces 31 = .ok (.ireturn, 1) := by decide +kernel
theorem dX5_put_0 : decode cX5_put 0 = .ok (.aload_n 0, 1) := by decide +kernel
theorem dX5_put_1 : decode cX5_put 1 = .ok (.getfield 15, 3) := by decide +kernel
theorem dX5_put_4 : decode cX5_put 4 = .ok (.ifCond .ne 8, 3) := by decide +kernel
theorem dX5_put_7 : decode cX5_put 7 = .ok (.iload_n 2, 1) := by decide +kernel
theorem dX5_put_8 : decode cX5_put 8 = .ok (.i2b, 1) := by decide +kernel
theorem dX5_put_9 : decode cX5_put 9 = .ok (.goto 17, 3) := by decide +kernel
theorem dX5_put_12 : decode cX5_put 12 = .ok (.aload_n 0, 1) := by decide +kernel
theorem dX5_put_13 : decode cX5_put 13 = .ok (.getfield 15, 3) := by decide +kernel
theorem dX5_put_16 : decode cX5_put 16 = .ok (.iconst 1, 1) := by decide +kernel
theorem dX5_put_17 : decode cX5_put 17 = .ok (.if_icmp .ne 8, 3) := by decide +kernel
theorem dX5_put_20 : decode cX5_put 20 = .ok (.iload_n 2, 1) := by decide +kernel
theorem dX5_put_21 : decode cX5_put 21 = .ok (.i2s, 1) := by decide +kernel
theorem dX5_put_22 : decode cX5_put 22 = .ok (.goto 4, 3) := by decide +kernel
theorem dX5_put_25 : decode cX5_put 25 = .ok (.iload_n 2, 1) := by decide +kernel
theorem dX5_put_26 : decode cX5_put 26 = .ok (.istore_n 3, 1) := by decide +kernel
theorem dX5_put_27 : decode cX5_put 27 = .ok (.aload_n 0, 1) := by decide +kernel
theorem dX5_put_28 : decode cX5_put 28 = .ok (.getfield 9, 3) := by decide +kernel
theorem dX5_put_31 : decode cX5_put 31 = .ok (.iload_n 1, 1) := by decide +kernel
theorem dX5_put_32 : decode cX5_put 32 = .ok (.iload_n 3, 1) := by decide +kernel
theorem dX5_put_33 : decode cX5_put 33 = .ok (.iastore, 1) := by decide +kernel
theorem dX5_put_34 : decode cX5_put 34 = .ok (.iload_n 3, 1) := by decide +kernel
theorem dX5_put_35 : decode cX5_put 35 = .ok (.ireturn, 1) := by decide +kernel
theorem dX6_init_0 : decode cX6_init 0 = .ok (.aload_n 0, 1) := by decide +kernel
theorem dX6_init_1 : decode cX6_init 1 = .ok (.invokespecial 3, 3) := by decide +kernel
theorem dX6_init_4 : decode cX6_init 4 = .ok (.aload_n 0, 1) := by decide +kernel
theorem dX6_init_5 : decode cX6_init 5 = .ok (.bipush 7, 2) := by decide +kernel
theorem dX6_init_7 : decode cX6_init 7 = .ok (.newarray .int, 2) := by decide +kernel
theorem dX6_init_9 : decode cX6_init 9 = .ok (.putfield 9, 3) := by decide +kernel
theorem dX6_init_12 : decode cX6_init 12 = .ok (.aload_n 0, 1) := by decide +kernel
theorem dX6_init_13 : decode cX6_init 13 = .ok (.iconst 0, 1) := by decide +kernel
theorem dX6_init_14 : decode cX6_init 14 = .ok (.putfield 15, 3) := by decide +kernel
theorem dX6_init_17 : decode cX6_init 17 = .ok (.return_, 1) := by decide +kernel
theorem dX6_arrange_0 : decode cX6_arrange 0 = .ok (.bipush 7, 2) := by decide +kernel
theorem dX6_arrange_2 : decode cX6_arrange 2 = .ok (.aload_n 1, 1) := by decide +kernel
theorem dX6_arrange_3 : decode cX6_arrange 3 = .ok (.getfield 19, 3) := by decide +kernel
theorem dX6_arrange_6 : decode cX6_arrange 6 = .ok (.iload_n 2, 1) := by decide +kernel
theorem dX6_arrange_7 : decode cX6_arrange 7 = .ok (.iaload, 1) := by decide +kernel
theorem dX6_arrange_8 : decode cX6_arrange 8 = .ok (.invokestatic 24, 3) := by decide +kernel
theorem dX6_arrange_11 : decode cX6_arrange 11 = .ok (.istore 4, 2) := by decide +kernel
theorem dX6_arrange_13 : decode cX6_arrange 13 = .ok (.iconst 0, 1) := by decide +kernel
theorem dX6_arrange_14 : decode cX6_arrange 14 = .ok (.iload_n 3, 1) := by decide +kernel
theorem dX6_arrange_15 : decode cX6_arrange 15 = .ok (.iload 4, 2) := by decide +kernel
theorem dX6_arrange_17 : decode cX6_arrange 17 = .ok (.aload_n 1, 1) := by decide +kernel
theorem dX6_arrange_18 : decode cX6_arrange 18 = .ok (.getfield 30, 3) := by decide +kernel
theorem dX6_arrange_21 : decode cX6_arrange 21 = .ok (.iload_n 2, 1) := by decide +kernel
theorem dX6_arrange_22 : decode cX6_arrange 22 = .ok (.iaload, 1) := by decide +kernel
theorem dX6_arrange_23 : decode cX6_arrange 23 = .ok (.isub, 1) := by decide +kernel
theorem dX6_arrange_24 : decode cX6_arrange 24 = .ok (.invokestatic 24, 3) := by decide +kernel
theorem dX6_arrange_27 : decode cX6_arrange 27 = .ok (.invokestatic 33, 3) := by decide +kernel
theorem dX6_arrange_30 : decode cX6_arrange 30 = .ok (.istore 5, 2) := by decide +kernel
theorem dX6_arrange_32 : decode cX6_arrange 32 = .ok (.aload_n 1, 1) := by decide +kernel
theorem dX6_arrange_33 : decode cX6_arrange 33 = .ok (.iload_n 2, 1) := by decide +kernel
theorem dX6_arrange_34 : decode cX6_arrange 34 = .ok (.invokevirtual 36, 3) := by decide +kernel
theorem dX6_arrange_37 : decode cX6_arrange 37 = .ok (.istore 6, 2) := by decide +kernel
theorem dX6_arrange_39 : decode cX6_arrange 39 = .ok (.aload_n 0, 1) := by decide +kernel
theorem dX6_arrange_40 : decode cX6_arrange 40 = .ok (.aload_n 0, 1) := by decide +kernel
theorem dX6_arrange_41 : decode cX6_arrange 41 = .ok (.aload_n 1, 1) := by decide +kernel
theorem dX6_arrange_42 : decode cX6_arrange 42 = .ok (.iconst 0, 1) := by decide +kernel
theorem dX6_arrange_43 : decode cX6_arrange 43 = .ok (.iload 6, 2) := by decide +kernel
theorem dX6_arrange_45 : decode cX6_arrange 45 = .ok (.iload 5, 2) := by decide +kernel
theorem dX6_arrange_47 : decode cX6_arrange 47 = .ok (.invokevirtual 40, 3) := by decide +kernel
theorem dX6_arrange_50 : decode cX6_arrange 50 = .ok (.putfield 15, 3) := by decide +kernel
theorem dX6_arrange_53 : decode cX6_arrange 53 = .ok (.iconst 0, 1) := by decide +kernel
theorem dX6_arrange_54 : decode cX6_arrange 54 = .ok (.istore 7, 2) := by decide +kernel
theorem dX6_arrange_56 : decode cX6_arrange 56 = .ok (.iload 7, 2) := by decide +kernel
theorem dX6_arrange_58 : decode cX6_arrange 58 = .ok (.iload 4, 2) := by decide +kernel
theorem dX6_arrange_60 : decode cX6_arrange 60 = .ok (.if_icmp .ge 43, 3) := by decide +kernel
theorem dX6_arrange_63 : decode cX6_arrange 63 = .ok (.aload_n 0, 1) := by decide +kernel
theorem dX6_arrange_64 : decode cX6_arrange 64 = .ok (.getfield 9, 3) := by decide +kernel
theorem dX6_arrange_67 : decode cX6_arrange 67 = .ok (.iload 7, 2) := by decide +kernel
theorem dX6_arrange_69 : decode cX6_arrange 69 = .ok (.aload_n 0, 1) := by decide +kernel
theorem dX6_arrange_70 : decode cX6_arrange 70 = .ok (.aload_n 1, 1) := by decide +kernel
theorem dX6_arrange_71 : decode cX6_arrange 71 = .ok (.iload 7, 2) := by decide +kernel
theorem dX6_arrange_73 : decode cX6_arrange 73 = .ok (.iload 6, 2) := by decide +kernel
theorem dX6_arrange_75 : decode cX6_arrange 75 = .ok (.iload 5, 2) := by decide +kernel
theorem dX6_arrange_77 : decode cX6_arrange 77 = .ok (.invokevirtual 44, 3) := by decide +kernel
theorem dX6_arrange_80 : decode cX6_arrange 80 = .ok (.iastore, 1) := by decide +kernel
theorem dX6_arrange_81 : decode cX6_arrange 81 = .ok (.iload 6, 2) := by decide +kernel
theorem dX6_arrange_83 : decode cX6_arrange 83 = .ok (.iconst 1, 1) := by decide +kernel
theorem dX6_arrange_84 : decode cX6_arrange 84 = .ok (.aload_n 0, 1) := by decide +kernel
theorem dX6_arrange_85 : decode cX6_arrange 85 = .ok (.getfield 9, 3) := by decide +kernel
theorem dX6_arrange_88 : decode cX6_arrange 88 = .ok (.iload 7, 2) := by decide +kernel
theorem dX6_arrange_90 : decode cX6_arrange 90 = .ok (.iaload, 1) := by decide +kernel
theorem dX6_arrange_91 : decode cX6_arrange 91 = .ok (.ishl, 1) := by decide +kernel
theorem dX6_arrange_92 : decode cX6_arrange 92 = .ok (.iconst (-1), 1) := by decide +kernel
theorem dX6_arrange_93 : decode cX6_arrange 93 = .ok (.ixor, 1) := by decide +kernel
theorem dX6_arrange_94 : decode cX6_arrange 94 = .ok (.iand, 1) := by decide +kernel
theorem dX6_arrange_95 : decode cX6_arrange 95 = .ok (.istore 6, 2) := by decide +kernel
theorem dX6_arrange_97 : decode cX6_arrange 97 = .ok (.iinc 7 1, 3) := by decide +kernel
theorem dX6_arrange_100 : decode cX6_arrange 100 = .ok (.goto (-44), 3) := by decide +kernel
theorem dX6_arrange_103 : decode cX6_arrange 103 = .ok (.return_, 1) := by decide +kernel
theorem dX6_firstThatKeepsLost_0 : decode cX6_firstThatKeepsLost 0 = .ok (.iconst 0, 1) := by decide +kernel
theorem dX6_firstThatKeepsLost_1 : decode cX6_firstThatKeepsLost 1 = .ok (.istore 5, 2) := by decide +kernel
theorem dX6_firstThatKeepsLost_3 : decode cX6_firstThatKeepsLost 3 = .ok (.iload 5, 2) := by decide +kernel
theorem dX6_firstThatKeepsLost_5 : decode cX6_firstThatKeepsLost 5 = .ok (.aload_n 1, 1) := by decide +kernel
theorem dX6_firstThatKeepsLost_6 : decode cX6_firstThatKeepsLost 6 = .ok (.getfield 47, 3) := by decide +kernel
theorem dX6_firstThatKeepsLost_9 : decode cX6_firstThatKeepsLost 9 = .ok (.if_icmp .ge 54, 3) := by decide +kernel
theorem dX6_firstThatKeepsLost_12 : decode cX6_firstThatKeepsLost 12 = .ok (.iload_n 3, 1) := by decide +kernel
theorem dX6_firstThatKeepsLost_13 : decode cX6_firstThatKeepsLost 13 = .ok (.iload 5, 2) := by decide +kernel
theorem dX6_firstThatKeepsLost_15 : decode cX6_firstThatKeepsLost 15 = .ok (.ishr, 1) := by decide +kernel
theorem dX6_firstThatKeepsLost_16 : decode cX6_firstThatKeepsLost 16 = .ok (.iconst 1, 1) := by decide +kernel
theorem dX6_firstThatKeepsLost_17 : decode cX6_firstThatKeepsLost 17 = .ok (.iand, 1) := by decide +kernel
theorem dX6_firstThatKeepsLost_18 : decode cX6_firstThatKeepsLost 18 = .ok (.ifCond .eq 39, 3) := by decide +kernel
theorem dX6_firstThatKeepsLost_21 : decode cX6_firstThatKeepsLost 21 = .ok (.aload_n 0, 1) := by decide +kernel
theorem dX6_firstThatKeepsLost_22 : decode cX6_firstThatKeepsLost 22 = .ok (.getfield 9, 3) := by decide +kernel
theorem dX6_firstThatKeepsLost_25 : decode cX6_firstThatKeepsLost 25 = .ok (.iload_n 2, 1) := by decide +kernel
theorem dX6_firstThatKeepsLost_26 : decode cX6_firstThatKeepsLost 26 = .ok (.iload 5, 2) := by decide +kernel
theorem dX6_firstThatKeepsLost_28 : decode cX6_firstThatKeepsLost 28 = .ok (.iastore, 1) := by decide +kernel
theorem dX6_firstThatKeepsLost_29 : decode cX6_firstThatKeepsLost 29 = .ok (.aload_n 0, 1) := by decide +kernel
theorem dX6_firstThatKeepsLost_30 : decode cX6_firstThatKeepsLost 30 = .ok (.aload_n 1, 1) := by decide +kernel
theorem dX6_firstThatKeepsLost_31 : decode cX6_firstThatKeepsLost 31 = .ok (.iload_n 2, 1) := by decide +kernel
theorem dX6_firstThatKeepsLost_32 : decode cX6_firstThatKeepsLost 32 = .ok (.iconst 1, 1) := by decide +kernel
theorem dX6_firstThatKeepsLost_33 : decode cX6_firstThatKeepsLost 33 = .ok (.iadd, 1) := by decide +kernel
theorem dX6_firstThatKeepsLost_34 : decode cX6_firstThatKeepsLost 34 = .ok (.iload_n 3, 1) := by decide +kernel
theorem dX6_firstThatKeepsLost_35 : decode cX6_firstThatKeepsLost 35 = .ok (.iconst 1, 1) := by decide +kernel
theorem dX6_firstThatKeepsLost_36 : decode cX6_firstThatKeepsLost 36 = .ok (.iload 5, 2) := by decide +kernel
theorem dX6_firstThatKeepsLost_38 : decode cX6_firstThatKeepsLost 38 = .ok (.ishl, 1) := by decide +kernel
theorem dX6_firstThatKeepsLost_39 : decode cX6_firstThatKeepsLost 39 = .ok (.iconst (-1), 1) := by decide +kernel
theorem dX6_firstThatKeepsLost_40 : decode cX6_firstThatKeepsLost 40 = .ok (.ixor, 1) := by decide +kernel
theorem dX6_firstThatKeepsLost_41 : decode cX6_firstThatKeepsLost 41 = .ok (.iand, 1) := by decide +kernel
theorem dX6_firstThatKeepsLost_42 : decode cX6_firstThatKeepsLost 42 = .ok (.iload 4, 2) := by decide +kernel
theorem dX6_firstThatKeepsLost_44 : decode cX6_firstThatKeepsLost 44 = .ok (.invokevirtual 40, 3) := by decide +kernel
theorem dX6_firstThatKeepsLost_47 : decode cX6_firstThatKeepsLost 47 = .ok (.aload_n 0, 1) := by decide +kernel
theorem dX6_firstThatKeepsLost_48 : decode cX6_firstThatKeepsLost 48 = .ok (.getfield 15, 3) := by decide +kernel
theorem dX6_firstThatKeepsLost_51 : decode cX6_firstThatKeepsLost 51 = .ok (.if_icmp .ne 6, 3) := by decide +kernel
theorem dX6_firstThatKeepsLost_54 : decode cX6_firstThatKeepsLost 54 = .ok (.iload 5, 2) := by decide +kernel
theorem dX6_firstThatKeepsLost_56 : decode cX6_firstThatKeepsLost 56 = .ok (.ireturn, 1) := by decide +kernel
theorem dX6_firstThatKeepsLost_57 : decode cX6_firstThatKeepsLost 57 = .ok (.iinc 5 1, 3) := by decide +kernel
theorem dX6_firstThatKeepsLost_60 : decode cX6_firstThatKeepsLost 60 = .ok (.goto (-57), 3) := by decide +kernel
theorem dX6_firstThatKeepsLost_63 : decode cX6_firstThatKeepsLost 63 = .ok (.iconst 0, 1) := by decide +kernel
theorem dX6_firstThatKeepsLost_64 : decode cX6_firstThatKeepsLost 64 = .ok (.ireturn, 1) := by decide +kernel
theorem dX6_leastLost_0 : decode cX6_leastLost 0 = .ok (.iconst 0, 1) := by decide +kernel
theorem dX6_leastLost_1 : decode cX6_leastLost 1 = .ok (.istore 5, 2) := by decide +kernel
theorem dX6_leastLost_3 : decode cX6_leastLost 3 = .ok (.iload_n 3, 1) := by decide +kernel
theorem dX6_leastLost_4 : decode cX6_leastLost 4 = .ok (.istore 6, 2) := by decide +kernel
theorem dX6_leastLost_6 : decode cX6_leastLost 6 = .ok (.iconst 0, 1) := by decide +kernel
theorem dX6_leastLost_7 : decode cX6_leastLost 7 = .ok (.istore 7, 2) := by decide +kernel
theorem dX6_leastLost_9 : decode cX6_leastLost 9 = .ok (.iload 7, 2) := by decide +kernel
theorem dX6_leastLost_11 : decode cX6_leastLost 11 = .ok (.iload 4, 2) := by decide +kernel
theorem dX6_leastLost_13 : decode cX6_leastLost 13 = .ok (.if_icmp .ge 58, 3) := by decide +kernel
theorem dX6_leastLost_16 : decode cX6_leastLost 16 = .ok (.iload 6, 2) := by decide +kernel
theorem dX6_leastLost_18 : decode cX6_leastLost 18 = .ok (.ifCond .eq 53, 3) := by decide +kernel
theorem dX6_leastLost_21 : decode cX6_leastLost 21 = .ok (.aload_n 1, 1) := by decide +kernel
theorem dX6_leastLost_22 : decode cX6_leastLost 22 = .ok (.iload 6, 2) := by decide +kernel
theorem dX6_leastLost_24 : decode cX6_leastLost 24 = .ok (.invokestatic 50, 3) := by decide +kernel
theorem dX6_leastLost_27 : decode cX6_leastLost 27 = .ok (.istore 8, 2) := by decide +kernel
theorem dX6_leastLost_29 : decode cX6_leastLost 29 = .ok (.aload_n 1, 1) := by decide +kernel
theorem dX6_leastLost_30 : decode cX6_leastLost 30 = .ok (.getfield 54, 3) := by decide +kernel
theorem dX6_leastLost_33 : decode cX6_leastLost 33 = .ok (.iload 8, 2) := by decide +kernel
theorem dX6_leastLost_35 : decode cX6_leastLost 35 = .ok (.iaload, 1) := by decide +kernel
theorem dX6_leastLost_36 : decode cX6_leastLost 36 = .ok (.iconst 5, 1) := by decide +kernel
theorem dX6_leastLost_37 : decode cX6_leastLost 37 = .ok (.if_icmp .ne 5, 3) := by decide +kernel
theorem dX6_leastLost_40 : decode cX6_leastLost 40 = .ok (.iconst 0, 1) := by decide +kernel
theorem dX6_leastLost_41 : decode cX6_leastLost 41 = .ok (.ireturn, 1) := by decide +kernel
theorem dX6_leastLost_42 : decode cX6_leastLost 42 = .ok (.iload 5, 2) := by decide +kernel
theorem dX6_leastLost_44 : decode cX6_leastLost 44 = .ok (.aload_n 1, 1) := by decide +kernel
theorem dX6_leastLost_45 : decode cX6_leastLost 45 = .ok (.getfield 57, 3) := by decide +kernel
theorem dX6_leastLost_48 : decode cX6_leastLost 48 = .ok (.iload 8, 2) := by decide +kernel
theorem dX6_leastLost_50 : decode cX6_leastLost 50 = .ok (.iaload, 1) := by decide +kernel
theorem dX6_leastLost_51 : decode cX6_leastLost 51 = .ok (.iadd, 1) := by decide +kernel
theorem dX6_leastLost_52 : decode cX6_leastLost 52 = .ok (.istore 5, 2) := by decide +kernel
theorem dX6_leastLost_54 : decode cX6_leastLost 54 = .ok (.iload 6, 2) := by decide +kernel
theorem dX6_leastLost_56 : decode cX6_leastLost 56 = .ok (.iconst 1, 1) := by decide +kernel
theorem dX6_leastLost_57 : decode cX6_leastLost 57 = .ok (.iload 8, 2) := by decide +kernel
theorem dX6_leastLost_59 : decode cX6_leastLost 59 = .ok (.ishl, 1) := by decide +kernel
theorem dX6_leastLost_60 : decode cX6_leastLost 60 = .ok (.iconst (-1), 1) := by decide +kernel
theorem dX6_leastLost_61 : decode cX6_leastLost 61 = .ok (.ixor, 1) := by decide +kernel
theorem dX6_leastLost_62 : decode cX6_leastLost 62 = .ok (.iand, 1) := by decide +kernel
theorem dX6_leastLost_63 : decode cX6_leastLost 63 = .ok (.istore 6, 2) := by decide +kernel
theorem dX6_leastLost_65 : decode cX6_leastLost 65 = .ok (.iinc 7 1, 3) := by decide +kernel
theorem dX6_leastLost_68 : decode cX6_leastLost 68 = .ok (.goto (-59), 3) := by decide +kernel
theorem dX6_leastLost_71 : decode cX6_leastLost 71 = .ok (.iload_n 2, 1) := by decide +kernel
theorem dX6_leastLost_72 : decode cX6_leastLost 72 = .ok (.iconst 1, 1) := by decide +kernel
theorem dX6_leastLost_73 : decode cX6_leastLost 73 = .ok (.isub, 1) := by decide +kernel
theorem dX6_leastLost_74 : decode cX6_leastLost 74 = .ok (.istore 8, 2) := by decide +kernel
theorem dX6_leastLost_76 : decode cX6_leastLost 76 = .ok (.iload 8, 2) := by decide +kernel
theorem dX6_leastLost_78 : decode cX6_leastLost 78 = .ok (.ifCond .lt 55, 3) := by decide +kernel
theorem dX6_leastLost_81 : decode cX6_leastLost 81 = .ok (.iload 7, 2) := by decide +kernel
theorem dX6_leastLost_83 : decode cX6_leastLost 83 = .ok (.iload 4, 2) := by decide +kernel
theorem dX6_leastLost_85 : decode cX6_leastLost 85 = .ok (.if_icmp .ge 48, 3) := by decide +kernel
theorem dX6_leastLost_88 : decode cX6_leastLost 88 = .ok (.aload_n 1, 1) := by decide +kernel
theorem dX6_leastLost_89 : decode cX6_leastLost 89 = .ok (.getfield 54, 3) := by decide +kernel
theorem dX6_leastLost_92 : decode cX6_leastLost 92 = .ok (.aload_n 0, 1) := by decide +kernel
theorem dX6_leastLost_93 : decode cX6_leastLost 93 = .ok (.getfield 9, 3) := by decide +kernel
theorem dX6_leastLost_96 : decode cX6_leastLost 96 = .ok (.iload 8, 2) := by decide +kernel
theorem dX6_leastLost_98 : decode cX6_leastLost 98 = .ok (.iaload, 1) := by decide +kernel
theorem dX6_leastLost_99 : decode cX6_leastLost 99 = .ok (.iaload, 1) := by decide +kernel
theorem dX6_leastLost_100 : decode cX6_leastLost 100 = .ok (.iconst 5, 1) := by decide +kernel
theorem dX6_leastLost_101 : decode cX6_leastLost 101 = .ok (.if_icmp .ne 6, 3) := by decide +kernel
theorem dX6_leastLost_104 : decode cX6_leastLost 104 = .ok (.iload 5, 2) := by decide +kernel
theorem dX6_leastLost_106 : decode cX6_leastLost 106 = .ok (.ireturn, 1) := by decide +kernel
theorem dX6_leastLost_107 : decode cX6_leastLost 107 = .ok (.iload 5, 2) := by decide +kernel
theorem dX6_leastLost_109 : decode cX6_leastLost 109 = .ok (.aload_n 1, 1) := by decide +kernel
theorem dX6_leastLost_110 : decode cX6_leastLost 110 = .ok (.getfield 57, 3) := by decide +kernel
theorem dX6_leastLost_113 : decode cX6_leastLost 113 = .ok (.aload_n 0, 1) := by decide +kernel
theorem dX6_leastLost_114 : decode cX6_leastLost 114 = .ok (.getfield 9, 3) := by decide +kernel
theorem dX6_leastLost_117 : decode cX6_leastLost 117 = .ok (.iload 8, 2) := by decide +kernel
theorem dX6_leastLost_119 : decode cX6_leastLost 119 = .ok (.iaload, 1) := by decide +kernel
theorem dX6_leastLost_120 : decode cX6_leastLost 120 = .ok (.iaload, 1) := by decide +kernel
theorem dX6_leastLost_121 : decode cX6_leastLost 121 = .ok (.iadd, 1) := by decide +kernel
theorem dX6_leastLost_122 : decode cX6_leastLost 122 = .ok (.istore 5, 2) := by decide +kernel
theorem dX6_leastLost_124 : decode cX6_leastLost 124 = .ok (.iinc 7 1, 3) := by decide +kernel
theorem dX6_leastLost_127 : decode cX6_leastLost 127 = .ok (.iinc 8 (-1), 3) := by decide +kernel
theorem dX6_leastLost_130 : decode cX6_leastLost 130 = .ok (.goto (-54), 3) := by decide +kernel
theorem dX6_leastLost_133 : decode cX6_leastLost 133 = .ok (.iload 5, 2) := by decide +kernel
theorem dX6_leastLost_135 : decode cX6_leastLost 135 = .ok (.ireturn, 1) := by decide +kernel
theorem dX6_cheapest_0 : decode cX6_cheapest 0 = .ok (.iconst (-1), 1) := by decide +kernel
theorem dX6_cheapest_1 : decode cX6_cheapest 1 = .ok (.istore_n 2, 1) := by decide +kernel
theorem dX6_cheapest_2 : decode cX6_cheapest 2 = .ok (.iconst 0, 1) := by decide +kernel
theorem dX6_cheapest_3 : decode cX6_cheapest 3 = .ok (.istore_n 3, 1) := by decide +kernel
theorem dX6_cheapest_4 : decode cX6_cheapest 4 = .ok (.iload_n 3, 1) := by decide +kernel
theorem dX6_cheapest_5 : decode cX6_cheapest 5 = .ok (.aload_n 0, 1) := by decide +kernel
theorem dX6_cheapest_6 : decode cX6_cheapest 6 = .ok (.getfield 47, 3) := by decide +kernel
theorem dX6_cheapest_9 : decode cX6_cheapest 9 = .ok (.if_icmp .ge 50, 3) := by decide +kernel
theorem dX6_cheapest_12 : decode cX6_cheapest 12 = .ok (.iload_n 1, 1) := by decide +kernel
theorem dX6_cheapest_13 : decode cX6_cheapest 13 = .ok (.iload_n 3, 1) := by decide +kernel
theorem dX6_cheapest_14 : decode cX6_cheapest 14 = .ok (.ishr, 1) := by decide +kernel
theorem dX6_cheapest_15 : decode cX6_cheapest 15 = .ok (.iconst 1, 1) := by decide +kernel
theorem dX6_cheapest_16 : decode cX6_cheapest 16 = .ok (.iand, 1) := by decide +kernel
theorem dX6_cheapest_17 : decode cX6_cheapest 17 = .ok (.ifCond .eq 36, 3) := by decide +kernel
theorem dX6_cheapest_20 : decode cX6_cheapest 20 = .ok (.aload_n 0, 1) := by decide +kernel
theorem dX6_cheapest_21 : decode cX6_cheapest 21 = .ok (.getfield 54, 3) := by decide +kernel
theorem dX6_cheapest_24 : decode cX6_cheapest 24 = .ok (.iload_n 3, 1) := by decide +kernel
theorem dX6_cheapest_25 : decode cX6_cheapest 25 = .ok (.iaload, 1) := by decide +kernel
theorem dX6_cheapest_26 : decode cX6_cheapest 26 = .ok (.iconst 5, 1) := by decide +kernel
theorem dX6_cheapest_27 : decode cX6_cheapest 27 = .ok (.if_icmp .ne 5, 3) := by decide +kernel
theorem dX6_cheapest_30 : decode cX6_cheapest 30 = .ok (.iload_n 3, 1) := by decide +kernel
theorem dX6_cheapest_31 : decode cX6_cheapest 31 = .ok (.ireturn, 1) := by decide +kernel
theorem dX6_cheapest_32 : decode cX6_cheapest 32 = .ok (.iload_n 2, 1) := by decide +kernel
theorem dX6_cheapest_33 : decode cX6_cheapest 33 = .ok (.ifCond .lt 18, 3) := by decide +kernel
theorem dX6_cheapest_36 : decode cX6_cheapest 36 = .ok (.aload_n 0, 1) := by decide +kernel
theorem dX6_cheapest_37 : decode cX6_cheapest 37 = .ok (.getfield 57, 3) := by decide +kernel
theorem dX6_cheapest_40 : decode cX6_cheapest 40 = .ok (.iload_n 3, 1) := by decide +kernel
theorem dX6_cheapest_41 : decode cX6_cheapest 41 = .ok (.iaload, 1) := by decide +kernel
theorem dX6_cheapest_42 : decode cX6_cheapest 42 = .ok (.aload_n 0, 1) := by decide +kernel
theorem dX6_cheapest_43 : decode cX6_cheapest 43 = .ok (.getfield 57, 3) := by decide +kernel
theorem dX6_cheapest_46 : decode cX6_cheapest 46 = .ok (.iload_n 2, 1) := by decide +kernel
theorem dX6_cheapest_47 : decode cX6_cheapest 47 = .ok (.iaload, 1) := by decide +kernel
theorem dX6_cheapest_48 : decode cX6_cheapest 48 = .ok (.if_icmp .ge 5, 3) := by decide +kernel
theorem dX6_cheapest_51 : decode cX6_cheapest 51 = .ok (.iload_n 3, 1) := by decide +kernel
theorem dX6_cheapest_52 : decode cX6_cheapest 52 = .ok (.istore_n 2, 1) := by decide +kernel
theorem dX6_cheapest_53 : decode cX6_cheapest 53 = .ok (.iinc 3 1, 3) := by decide +kernel
theorem dX6_cheapest_56 : decode cX6_cheapest 56 = .ok (.goto (-52), 3) := by decide +kernel
theorem dX6_cheapest_59 : decode cX6_cheapest 59 = .ok (.iconst 0, 1) := by decide +kernel
theorem dX6_cheapest_60 : decode cX6_cheapest 60 = .ok (.iload_n 2, 1) := by decide +kernel
theorem dX6_cheapest_61 : decode cX6_cheapest 61 = .ok (.invokestatic 33, 3) := by decide +kernel
theorem dX6_cheapest_64 : decode cX6_cheapest 64 = .ok (.ireturn, 1) := by decide +kernel
theorem dX7_init_0 : decode cX7_init 0 = .ok (.aload_n 0, 1) := by decide +kernel
theorem dX7_init_1 : decode cX7_init 1 = .ok (.invokespecial 3, 3) := by decide +kernel
theorem dX7_init_4 : decode cX7_init 4 = .ok (.aload_n 0, 1) := by decide +kernel
theorem dX7_init_5 : decode cX7_init 5 = .ok (.sipush 500, 3) := by decide +kernel
theorem dX7_init_8 : decode cX7_init 8 = .ok (.newarray .byte, 2) := by decide +kernel
theorem dX7_init_10 : decode cX7_init 10 = .ok (.putfield 9, 3) := by decide +kernel
theorem dX7_init_13 : decode cX7_init 13 = .ok (.aload_n 0, 1) := by decide +kernel
theorem dX7_init_14 : decode cX7_init 14 = .ok (.iconst 0, 1) := by decide +kernel
theorem dX7_init_15 : decode cX7_init 15 = .ok (.putfield 15, 3) := by decide +kernel
theorem dX7_init_18 : decode cX7_init 18 = .ok (.return_, 1) := by decide +kernel
theorem dX7_hasRoom_0 : decode cX7_hasRoom 0 = .ok (.iload_n 1, 1) := by decide +kernel
theorem dX7_hasRoom_1 : decode cX7_hasRoom 1 = .ok (.sipush 500, 3) := by decide +kernel
theorem dX7_hasRoom_4 : decode cX7_hasRoom 4 = .ok (.aload_n 0, 1) := by decide +kernel
theorem dX7_hasRoom_5 : decode cX7_hasRoom 5 = .ok (.getfield 15, 3) := by decide +kernel
theorem dX7_hasRoom_8 : decode cX7_hasRoom 8 = .ok (.isub, 1) := by decide +kernel
theorem dX7_hasRoom_9 : decode cX7_hasRoom 9 = .ok (.if_icmp .gt 7, 3) := by decide +kernel
theorem dX7_hasRoom_12 : decode cX7_hasRoom 12 = .ok (.iconst 1, 1) := by decide +kernel
theorem dX7_hasRoom_13 : decode cX7_hasRoom 13 = .ok (.goto 4, 3) := by decide +kernel
theorem dX7_hasRoom_16 : decode cX7_hasRoom 16 = .ok (.iconst 0, 1) := by decide +kernel
theorem dX7_hasRoom_17 : decode cX7_hasRoom 17 = .ok (.ireturn, 1) := by decide +kernel
theorem dX7_join_0 : decode cX7_join 0 = .ok (.iload_n 3, 1) := by decide +kernel
theorem dX7_join_1 : decode cX7_join 1 = .ok (.iconst 1, 1) := by decide +kernel
theorem dX7_join_2 : decode cX7_join 2 = .ok (.isub, 1) := by decide +kernel
theorem dX7_join_3 : decode cX7_join 3 = .ok (.istore 4, 2) := by decide +kernel
theorem dX7_join_5 : decode cX7_join 5 = .ok (.iload 4, 2) := by decide +kernel
theorem dX7_join_7 : decode cX7_join 7 = .ok (.ifCond .lt 37, 3) := by decide +kernel
theorem dX7_join_10 : decode cX7_join 10 = .ok (.aload_n 0, 1) := by decide +kernel
theorem dX7_join_11 : decode cX7_join 11 = .ok (.getfield 9, 3) := by decide +kernel
theorem dX7_join_14 : decode cX7_join 14 = .ok (.aload_n 0, 1) := by decide +kernel
theorem dX7_join_15 : decode cX7_join 15 = .ok (.getfield 15, 3) := by decide +kernel
theorem dX7_join_18 : decode cX7_join 18 = .ok (.lload_n 1, 1) := by decide +kernel
theorem dX7_join_19 : decode cX7_join 19 = .ok (.bipush 8, 2) := by decide +kernel
theorem dX7_join_21 : decode cX7_join 21 = .ok (.iload 4, 2) := by decide +kernel
theorem dX7_join_23 : decode cX7_join 23 = .ok (.imul, 1) := by decide +kernel
theorem dX7_join_24 : decode cX7_join 24 = .ok (.lshr, 1) := by decide +kernel
theorem dX7_join_25 : decode cX7_join 25 = .ok (.l2i, 1) := by decide +kernel
theorem dX7_join_26 : decode cX7_join 26 = .ok (.i2b, 1) := by decide +kernel
theorem dX7_join_27 : decode cX7_join 27 = .ok (.bastore, 1) := by decide +kernel
theorem dX7_join_28 : decode cX7_join 28 = .ok (.aload_n 0, 1) := by decide +kernel
theorem dX7_join_29 : decode cX7_join 29 = .ok (.dup, 1) := by decide +kernel
theorem dX7_join_30 : decode cX7_join 30 = .ok (.getfield 15, 3) := by decide +kernel
theorem dX7_join_33 : decode cX7_join 33 = .ok (.iconst 1, 1) := by decide +kernel
theorem dX7_join_34 : decode cX7_join 34 = .ok (.iadd, 1) := by decide +kernel
theorem dX7_join_35 : decode cX7_join 35 = .ok (.putfield 15, 3) := by decide +kernel
theorem dX7_join_38 : decode cX7_join 38 = .ok (.iinc 4 (-1), 3) := by decide +kernel
theorem dX7_join_41 : decode cX7_join 41 = .ok (.goto (-36), 3) := by decide +kernel
theorem dX7_join_44 : decode cX7_join 44 = .ok (.return_, 1) := by decide +kernel
theorem dX7_at_0 : decode cX7_at 0 = .ok (.iload_n 1, 1) := by decide +kernel
theorem dX7_at_1 : decode cX7_at 1 = .ok (.ifCond .lt 20, 3) := by decide +kernel
theorem dX7_at_4 : decode cX7_at 4 = .ok (.iload_n 1, 1) := by decide +kernel
theorem dX7_at_5 : decode cX7_at 5 = .ok (.aload_n 0, 1) := by decide +kernel
theorem dX7_at_6 : decode cX7_at 6 = .ok (.getfield 15, 3) := by decide +kernel
theorem dX7_at_9 : decode cX7_at 9 = .ok (.if_icmp .ge 12, 3) := by decide +kernel
theorem dX7_at_12 : decode cX7_at 12 = .ok (.aload_n 0, 1) := by decide +kernel
theorem dX7_at_13 : decode cX7_at 13 = .ok (.getfield 9, 3) := by decide +kernel
theorem dX7_at_16 : decode cX7_at 16 = .ok (.iload_n 1, 1) := by decide +kernel
theorem dX7_at_17 : decode cX7_at 17 = .ok (.baload, 1) := by decide +kernel
theorem dX7_at_18 : decode cX7_at 18 = .ok (.goto 5, 3) := by decide +kernel
theorem dX7_at_21 : decode cX7_at 21 = .ok (.bipush 32, 2) := by decide +kernel
theorem dX7_at_23 : decode cX7_at 23 = .ok (.ireturn, 1) := by decide +kernel
theorem dX8_init_0 : decode cX8_init 0 = .ok (.aload_n 0, 1) := by decide +kernel
theorem dX8_init_1 : decode cX8_init 1 = .ok (.invokespecial 1, 3) := by decide +kernel
theorem dX8_init_4 : decode cX8_init 4 = .ok (.aload_n 0, 1) := by decide +kernel
theorem dX8_init_5 : decode cX8_init 5 = .ok (.bipush 8, 2) := by decide +kernel
theorem dX8_init_7 : decode cX8_init 7 = .ok (.anewarray 9, 3) := by decide +kernel
theorem dX8_init_10 : decode cX8_init 10 = .ok (.putfield 11, 3) := by decide +kernel
theorem dX8_init_13 : decode cX8_init 13 = .ok (.aload_n 0, 1) := by decide +kernel
theorem dX8_init_14 : decode cX8_init 14 = .ok (.new 15, 3) := by decide +kernel
theorem dX8_init_17 : decode cX8_init 17 = .ok (.dup, 1) := by decide +kernel
theorem dX8_init_18 : decode cX8_init 18 = .ok (.invokespecial 17, 3) := by decide +kernel
theorem dX8_init_21 : decode cX8_init 21 = .ok (.putfield 18, 3) := by decide +kernel
theorem dX8_init_24 : decode cX8_init 24 = .ok (.aload_n 0, 1) := by decide +kernel
theorem dX8_init_25 : decode cX8_init 25 = .ok (.new 22, 3) := by decide +kernel
theorem dX8_init_28 : decode cX8_init 28 = .ok (.dup, 1) := by decide +kernel
theorem dX8_init_29 : decode cX8_init 29 = .ok (.invokespecial 24, 3) := by decide +kernel
theorem dX8_init_32 : decode cX8_init 32 = .ok (.putfield 25, 3) := by decide +kernel
theorem dX8_init_35 : decode cX8_init 35 = .ok (.aload_n 0, 1) := by decide +kernel
theorem dX8_init_36 : decode cX8_init 36 = .ok (.new 29, 3) := by decide +kernel
theorem dX8_init_39 : decode cX8_init 39 = .ok (.dup, 1) := by decide +kernel
theorem dX8_init_40 : decode cX8_init 40 = .ok (.invokespecial 31, 3) := by decide +kernel
theorem dX8_init_43 : decode cX8_init 43 = .ok (.putfield 32, 3) := by decide +kernel
theorem dX8_init_46 : decode cX8_init 46 = .ok (.aload_n 0, 1) := by decide +kernel
theorem dX8_init_47 : decode cX8_init 47 = .ok (.iconst 2, 1) := by decide +kernel
theorem dX8_init_48 : decode cX8_init 48 = .ok (.anewarray 22, 3) := by decide +kernel
theorem dX8_init_51 : decode cX8_init 51 = .ok (.putfield 36, 3) := by decide +kernel
theorem dX8_init_54 : decode cX8_init 54 = .ok (.aload_n 0, 1) := by decide +kernel
theorem dX8_init_55 : decode cX8_init 55 = .ok (.new 40, 3) := by decide +kernel
theorem dX8_init_58 : decode cX8_init 58 = .ok (.dup, 1) := by decide +kernel
theorem dX8_init_59 : decode cX8_init 59 = .ok (.invokespecial 42, 3) := by decide +kernel
theorem dX8_init_62 : decode cX8_init 62 = .ok (.putfield 43, 3) := by decide +kernel
theorem dX8_init_65 : decode cX8_init 65 = .ok (.aload_n 0, 1) := by decide +kernel
theorem dX8_init_66 : decode cX8_init 66 = .ok (.new 47, 3) := by decide +kernel
theorem dX8_init_69 : decode cX8_init 69 = .ok (.dup, 1) := by decide +kernel
theorem dX8_init_70 : decode cX8_init 70 = .ok (.invokespecial 49, 3) := by decide +kernel
theorem dX8_init_73 : decode cX8_init 73 = .ok (.putfield 50, 3) := by decide +kernel
theorem dX8_init_76 : decode cX8_init 76 = .ok (.aload_n 0, 1) := by decide +kernel
theorem dX8_init_77 : decode cX8_init 77 = .ok (.new 54, 3) := by decide +kernel
theorem dX8_init_80 : decode cX8_init 80 = .ok (.dup, 1) := by decide +kernel
theorem dX8_init_81 : decode cX8_init 81 = .ok (.invokespecial 56, 3) := by decide +kernel
theorem dX8_init_84 : decode cX8_init 84 = .ok (.putfield 57, 3) := by decide +kernel
theorem dX8_init_87 : decode cX8_init 87 = .ok (.aload_n 0, 1) := by decide +kernel
theorem dX8_init_88 : decode cX8_init 88 = .ok (.iconst 0, 1) := by decide +kernel
theorem dX8_init_89 : decode cX8_init 89 = .ok (.putfield 61, 3) := by decide +kernel
theorem dX8_init_92 : decode cX8_init 92 = .ok (.aload_n 0, 1) := by decide +kernel
theorem dX8_init_93 : decode cX8_init 93 = .ok (.iconst 0, 1) := by decide +kernel
theorem dX8_init_94 : decode cX8_init 94 = .ok (.putfield 65, 3) := by decide +kernel
theorem dX8_init_97 : decode cX8_init 97 = .ok (.iconst 0, 1) := by decide +kernel
theorem dX8_init_98 : decode cX8_init 98 = .ok (.istore_n 1, 1) := by decide +kernel
theorem dX8_init_99 : decode cX8_init 99 = .ok (.iload_n 1, 1) := by decide +kernel
theorem dX8_init_100 : decode cX8_init 100 = .ok (.bipush 8, 2) := by decide +kernel
theorem dX8_init_102 : decode cX8_init 102 = .ok (.if_icmp .ge 22, 3) := by decide +kernel
theorem dX8_init_105 : decode cX8_init 105 = .ok (.aload_n 0, 1) := by decide +kernel
theorem dX8_init_106 : decode cX8_init 106 = .ok (.getfield 11, 3) := by decide +kernel
theorem dX8_init_109 : decode cX8_init 109 = .ok (.iload_n 1, 1) := by decide +kernel
theorem dX8_init_110 : decode cX8_init 110 = .ok (.new 9, 3) := by decide +kernel
theorem dX8_init_113 : decode cX8_init 113 = .ok (.dup, 1) := by decide +kernel
theorem dX8_init_114 : decode cX8_init 114 = .ok (.invokespecial 68, 3) := by decide +kernel
theorem dX8_init_117 : decode cX8_init 117 = .ok (.aastore, 1) := by decide +kernel
theorem dX8_init_118 : decode cX8_init 118 = .ok (.iinc 1 1, 3) := by decide +kernel
theorem dX8_init_121 : decode cX8_init 121 = .ok (.goto (-22), 3) := by decide +kernel
theorem dX8_init_124 : decode cX8_init 124 = .ok (.iconst 0, 1) := by decide +kernel
theorem dX8_init_125 : decode cX8_init 125 = .ok (.istore_n 1, 1) := by decide +kernel
theorem dX8_init_126 : decode cX8_init 126 = .ok (.iload_n 1, 1) := by decide +kernel
theorem dX8_init_127 : decode cX8_init 127 = .ok (.iconst 2, 1) := by decide +kernel
theorem dX8_init_128 : decode cX8_init 128 = .ok (.if_icmp .ge 22, 3) := by decide +kernel
theorem dX8_init_131 : decode cX8_init 131 = .ok (.aload_n 0, 1) := by decide +kernel
theorem dX8_init_132 : decode cX8_init 132 = .ok (.getfield 36, 3) := by decide +kernel
theorem dX8_init_135 : decode cX8_init 135 = .ok (.iload_n 1, 1) := by decide +kernel
theorem dX8_init_136 : decode cX8_init 136 = .ok (.new 22, 3) := by decide +kernel
theorem dX8_init_139 : decode cX8_init 139 = .ok (.dup, 1) := by decide +kernel
theorem dX8_init_140 : decode cX8_init 140 = .ok (.invokespecial 24, 3) := by decide +kernel
theorem dX8_init_143 : decode cX8_init 143 = .ok (.aastore, 1) := by decide +kernel
theorem dX8_init_144 : decode cX8_init 144 = .ok (.iinc 1 1, 3) := by decide +kernel
theorem dX8_init_147 : decode cX8_init 147 = .ok (.goto (-21), 3) := by decide +kernel
theorem dX8_init_150 : decode cX8_init 150 = .ok (.return_, 1) := by decide +kernel
theorem dX8_row_0 : decode cX8_row 0 = .ok (.iload_n 1, 1) := by decide +kernel
theorem dX8_row_1 : decode cX8_row 1 = .ok (.invokestatic 69, 3) := by decide +kernel
theorem dX8_row_4 : decode cX8_row 4 = .ok (.ifCond .eq 18, 3) := by decide +kernel
theorem dX8_row_7 : decode cX8_row 7 = .ok (.iload_n 2, 1) := by decide +kernel
theorem dX8_row_8 : decode cX8_row 8 = .ok (.ifCond .lt 14, 3) := by decide +kernel
theorem dX8_row_11 : decode cX8_row 11 = .ok (.iload_n 2, 1) := by decide +kernel
theorem dX8_row_12 : decode cX8_row 12 = .ok (.iconst 3, 1) := by decide +kernel
theorem dX8_row_13 : decode cX8_row 13 = .ok (.if_icmp .ge 9, 3) := by decide +kernel
theorem dX8_row_16 : decode cX8_row 16 = .ok (.iload_n 3, 1) := by decide +kernel
theorem dX8_row_17 : decode cX8_row 17 = .ok (.bipush 40, 2) := by decide +kernel
theorem dX8_row_19 : decode cX8_row 19 = .ok (.if_icmp .le 6, 3) := by decide +kernel
theorem dX8_row_22 : decode cX8_row 22 = .ok (.ldc 73, 2) := by decide +kernel
theorem dX8_row_24 : decode cX8_row 24 = .ok (.ireturn, 1) := by decide +kernel
theorem dX8_row_25 : decode cX8_row 25 = .ok (.iload_n 3, 1) := by decide +kernel
theorem dX8_row_26 : decode cX8_row 26 = .ok (.ifCond .ge 9, 3) := by decide +kernel
theorem dX8_row_29 : decode cX8_row 29 = .ok (.aload_n 0, 1) := by decide +kernel
theorem dX8_row_30 : decode cX8_row 30 = .ok (.iconst 4, 1) := by decide +kernel
theorem dX8_row_31 : decode cX8_row 31 = .ok (.invokevirtual 74, 3) := by decide +kernel
theorem dX8_row_34 : decode cX8_row 34 = .ok (.ireturn, 1) := by decide +kernel
theorem dX8_row_35 : decode cX8_row 35 = .ok (.aload_n 0, 1) := by decide +kernel
theorem dX8_row_36 : decode cX8_row 36 = .ok (.getfield 11, 3) := by decide +kernel
theorem dX8_row_39 : decode cX8_row 39 = .ok (.iload_n 1, 1) := by decide +kernel
theorem dX8_row_40 : decode cX8_row 40 = .ok (.aaload, 1) := by decide +kernel
theorem dX8_row_41 : decode cX8_row 41 = .ok (.iload_n 2, 1) := by decide +kernel
theorem dX8_row_42 : decode cX8_row 42 = .ok (.iload_n 3, 1) := by decide +kernel
theorem dX8_row_43 : decode cX8_row 43 = .ok (.invokevirtual 78, 3) := by decide +kernel
theorem dX8_row_46 : decode cX8_row 46 = .ok (.aload_n 0, 1) := by decide +kernel
theorem dX8_row_47 : decode cX8_row 47 = .ok (.iload_n 3, 1) := by decide +kernel
theorem dX8_row_48 : decode cX8_row 48 = .ok (.invokevirtual 82, 3) := by decide +kernel
theorem dX8_row_51 : decode cX8_row 51 = .ok (.ireturn, 1) := by decide +kernel
theorem dX8_set_0 : decode cX8_set 0 = .ok (.iload_n 1, 1) := by decide +kernel
theorem dX8_set_1 : decode cX8_set 1 = .ok (.invokestatic 69, 3) := by decide +kernel
theorem dX8_set_4 : decode cX8_set 4 = .ok (.ifCond .ne 6, 3) := by decide +kernel
theorem dX8_set_7 : decode cX8_set 7 = .ok (.ldc 73, 2) := by decide +kernel
theorem dX8_set_9 : decode cX8_set 9 = .ok (.ireturn, 1) := by decide +kernel
theorem dX8_set_10 : decode cX8_set 10 = .ok (.aload_n 0, 1) := by decide +kernel
theorem dX8_set_11 : decode cX8_set 11 = .ok (.getfield 11, 3) := by decide +kernel
theorem dX8_set_14 : decode cX8_set 14 = .ok (.iload_n 1, 1) := by decide +kernel
theorem dX8_set_15 : decode cX8_set 15 = .ok (.aaload, 1) := by decide +kernel
theorem dX8_set_16 : decode cX8_set 16 = .ok (.astore 4, 2) := by decide +kernel
theorem dX8_set_18 : decode cX8_set 18 = .ok (.aload 4, 2) := by decide +kernel
theorem dX8_set_20 : decode cX8_set 20 = .ok (.invokevirtual 85, 3) := by decide +kernel
theorem dX8_set_23 : decode cX8_set 23 = .ok (.ifCond .eq 9, 3) := by decide +kernel
theorem dX8_set_26 : decode cX8_set 26 = .ok (.aload_n 0, 1) := by decide +kernel
theorem dX8_set_27 : decode cX8_set 27 = .ok (.iconst 1, 1) := by decide +kernel
theorem dX8_set_28 : decode cX8_set 28 = .ok (.invokevirtual 74, 3) := by decide +kernel
theorem dX8_set_31 : decode cX8_set 31 = .ok (.ireturn, 1) := by decide +kernel
theorem dX8_set_32 : decode cX8_set 32 = .ok (.aload 4, 2) := by decide +kernel
theorem dX8_set_34 : decode cX8_set 34 = .ok (.iload_n 2, 1) := by decide +kernel
theorem dX8_set_35 : decode cX8_set 35 = .ok (.iconst 1, 1) := by decide +kernel
theorem dX8_set_36 : decode cX8_set 36 = .ok (.invokevirtual 89, 3) := by decide +kernel
theorem dX8_set_39 : decode cX8_set 39 = .ok (.ifCond .ne 9, 3) := by decide +kernel
theorem dX8_set_42 : decode cX8_set 42 = .ok (.aload_n 0, 1) := by decide +kernel
theorem dX8_set_43 : decode cX8_set 43 = .ok (.iconst 2, 1) := by decide +kernel
theorem dX8_set_44 : decode cX8_set 44 = .ok (.invokevirtual 74, 3) := by decide +kernel
theorem dX8_set_47 : decode cX8_set 47 = .ok (.ireturn, 1) := by decide +kernel
theorem dX8_set_48 : decode cX8_set 48 = .ok (.aload_n 0, 1) := by decide +kernel
theorem dX8_set_49 : decode cX8_set 49 = .ok (.aload 4, 2) := by decide +kernel
theorem dX8_set_51 : decode cX8_set 51 = .ok (.iload_n 2, 1) := by decide +kernel
theorem dX8_set_52 : decode cX8_set 52 = .ok (.iload_n 3, 1) := by decide +kernel
theorem dX8_set_53 : decode cX8_set 53 = .ok (.invokevirtual 93, 3) := by decide +kernel
theorem dX8_set_56 : decode cX8_set 56 = .ok (.invokevirtual 82, 3) := by decide +kernel
theorem dX8_set_59 : decode cX8_set 59 = .ok (.ireturn, 1) := by decide +kernel
theorem dX8_copy_0 : decode cX8_copy 0 = .ok (.iload_n 1, 1) := by decide +kernel
theorem dX8_copy_1 : decode cX8_copy 1 = .ok (.invokestatic 69, 3) := by decide +kernel
theorem dX8_copy_4 : decode cX8_copy 4 = .ok (.ifCond .eq 10, 3) := by decide +kernel
theorem dX8_copy_7 : decode cX8_copy 7 = .ok (.iload_n 3, 1) := by decide +kernel
theorem dX8_copy_8 : decode cX8_copy 8 = .ok (.invokestatic 69, 3) := by decide +kernel
theorem dX8_copy_11 : decode cX8_copy 11 = .ok (.ifCond .ne 6, 3) := by decide +kernel
theorem dX8_copy_14 : decode cX8_copy 14 = .ok (.ldc 73, 2) := by decide +kernel
theorem dX8_copy_16 : decode cX8_copy 16 = .ok (.ireturn, 1) := by decide +kernel
theorem dX8_copy_17 : decode cX8_copy 17 = .ok (.aload_n 0, 1) := by decide +kernel
theorem dX8_copy_18 : decode cX8_copy 18 = .ok (.getfield 11, 3) := by decide +kernel
theorem dX8_copy_21 : decode cX8_copy 21 = .ok (.iload_n 1, 1) := by decide +kernel
theorem dX8_copy_22 : decode cX8_copy 22 = .ok (.aaload, 1) := by decide +kernel
theorem dX8_copy_23 : decode cX8_copy 23 = .ok (.astore 6, 2) := by decide +kernel
theorem dX8_copy_25 : decode cX8_copy 25 = .ok (.aload_n 0, 1) := by decide +kernel
theorem dX8_copy_26 : decode cX8_copy 26 = .ok (.getfield 11, 3) := by decide +kernel
theorem dX8_copy_29 : decode cX8_copy 29 = .ok (.iload_n 3, 1) := by decide +kernel
theorem dX8_copy_30 : decode cX8_copy 30 = .ok (.aaload, 1) := by decide +kernel
theorem dX8_copy_31 : decode cX8_copy 31 = .ok (.astore 7, 2) := by decide +kernel
theorem dX8_copy_33 : decode cX8_copy 33 = .ok (.aload 6, 2) := by decide +kernel
theorem dX8_copy_35 : decode cX8_copy 35 = .ok (.invokevirtual 85, 3) := by decide +kernel
theorem dX8_copy_38 : decode cX8_copy 38 = .ok (.ifCond .ne 11, 3) := by decide +kernel
theorem dX8_copy_41 : decode cX8_copy 41 = .ok (.aload 7, 2) := by decide +kernel
theorem dX8_copy_43 : decode cX8_copy 43 = .ok (.invokevirtual 85, 3) := by decide +kernel
theorem dX8_copy_46 : decode cX8_copy 46 = .ok (.ifCond .eq 9, 3) := by decide +kernel
theorem dX8_copy_49 : decode cX8_copy 49 = .ok (.aload_n 0, 1) := by decide +kernel
theorem dX8_copy_50 : decode cX8_copy 50 = .ok (.iconst 1, 1) := by decide +kernel
theorem dX8_copy_51 : decode cX8_copy 51 = .ok (.invokevirtual 74, 3) := by decide +kernel
theorem dX8_copy_54 : decode cX8_copy 54 = .ok (.ireturn, 1) := by decide +kernel
theorem dX8_copy_55 : decode cX8_copy 55 = .ok (.aload 6, 2) := by decide +kernel
theorem dX8_copy_57 : decode cX8_copy 57 = .ok (.getfield 97, 3) := by decide +kernel
theorem dX8_copy_60 : decode cX8_copy 60 = .ok (.aload 7, 2) := by decide +kernel
theorem dX8_copy_62 : decode cX8_copy 62 = .ok (.getfield 97, 3) := by decide +kernel
theorem dX8_copy_65 : decode cX8_copy 65 = .ok (.if_icmp .eq 9, 3) := by decide +kernel
theorem dX8_copy_68 : decode cX8_copy 68 = .ok (.aload_n 0, 1) := by decide +kernel
theorem dX8_copy_69 : decode cX8_copy 69 = .ok (.iconst 5, 1) := by decide +kernel
theorem dX8_copy_70 : decode cX8_copy 70 = .ok (.invokevirtual 74, 3) := by decide +kernel
theorem dX8_copy_73 : decode cX8_copy 73 = .ok (.ireturn, 1) := by decide +kernel
theorem dX8_copy_74 : decode cX8_copy 74 = .ok (.aload 6, 2) := by decide +kernel
theorem dX8_copy_76 : decode cX8_copy 76 = .ok (.iload_n 2, 1) := by decide +kernel
theorem dX8_copy_77 : decode cX8_copy 77 = .ok (.iload 5, 2) := by decide +kernel
theorem dX8_copy_79 : decode cX8_copy 79 = .ok (.invokevirtual 89, 3) := by decide +kernel
theorem dX8_copy_82 : decode cX8_copy 82 = .ok (.ifCond .eq 15, 3) := by decide +kernel
theorem dX8_copy_85 : decode cX8_copy 85 = .ok (.aload 7, 2) := by decide +kernel
theorem dX8_copy_87 : decode cX8_copy 87 = .ok (.iload 4, 2) := by decide +kernel
theorem dX8_copy_89 : decode cX8_copy 89 = .ok (.iload 5, 2) := by decide +kernel
theorem dX8_copy_91 : decode cX8_copy 91 = .ok (.invokevirtual 89, 3) := by decide +kernel
theorem dX8_copy_94 : decode cX8_copy 94 = .ok (.ifCond .ne 9, 3) := by decide +kernel
theorem dX8_copy_97 : decode cX8_copy 97 = .ok (.aload_n 0, 1) := by decide +kernel
theorem dX8_copy_98 : decode cX8_copy 98 = .ok (.iconst 2, 1) := by decide +kernel
theorem dX8_copy_99 : decode cX8_copy 99 = .ok (.invokevirtual 74, 3) := by decide +kernel
theorem dX8_copy_102 : decode cX8_copy 102 = .ok (.ireturn, 1) := by decide +kernel
theorem dX8_copy_103 : decode cX8_copy 103 = .ok (.aload 6, 2) := by decide +kernel
theorem dX8_copy_105 : decode cX8_copy 105 = .ok (.getfield 100, 3) := by decide +kernel
theorem dX8_copy_108 : decode cX8_copy 108 = .ok (.iload_n 2, 1) := by decide +kernel
theorem dX8_copy_109 : decode cX8_copy 109 = .ok (.aload 7, 2) := by decide +kernel
theorem dX8_copy_111 : decode cX8_copy 111 = .ok (.getfield 100, 3) := by decide +kernel
theorem dX8_copy_114 : decode cX8_copy 114 = .ok (.iload 4, 2) := by decide +kernel
theorem dX8_copy_116 : decode cX8_copy 116 = .ok (.iload 5, 2) := by decide +kernel
theorem dX8_copy_118 : decode cX8_copy 118 = .ok (.invokestatic 104, 3) := by decide +kernel
theorem dX8_copy_121 : decode cX8_copy 121 = .ok (.aload_n 0, 1) := by decide +kernel
theorem dX8_copy_122 : decode cX8_copy 122 = .ok (.iload 5, 2) := by decide +kernel
theorem dX8_copy_124 : decode cX8_copy 124 = .ok (.invokevirtual 82, 3) := by decide +kernel
theorem dX8_copy_127 : decode cX8_copy 127 = .ok (.ireturn, 1) := by decide +kernel
theorem dX8_drop_0 : decode cX8_drop 0 = .ok (.iload_n 1, 1) := by decide +kernel
theorem dX8_drop_1 : decode cX8_drop 1 = .ok (.invokestatic 69, 3) := by decide +kernel
theorem dX8_drop_4 : decode cX8_drop 4 = .ok (.ifCond .ne 6, 3) := by decide +kernel
theorem dX8_drop_7 : decode cX8_drop 7 = .ok (.ldc 73, 2) := by decide +kernel
theorem dX8_drop_9 : decode cX8_drop 9 = .ok (.ireturn, 1) := by decide +kernel
theorem dX8_drop_10 : decode cX8_drop 10 = .ok (.aload_n 0, 1) := by decide +kernel
theorem dX8_drop_11 : decode cX8_drop 11 = .ok (.getfield 11, 3) := by decide +kernel
theorem dX8_drop_14 : decode cX8_drop 14 = .ok (.iload_n 1, 1) := by decide +kernel
theorem dX8_drop_15 : decode cX8_drop 15 = .ok (.aaload, 1) := by decide +kernel
theorem dX8_drop_16 : decode cX8_drop 16 = .ok (.astore_n 2, 1) := by decide +kernel
theorem dX8_drop_17 : decode cX8_drop 17 = .ok (.aload_n 2, 1) := by decide +kernel
theorem dX8_drop_18 : decode cX8_drop 18 = .ok (.invokevirtual 85, 3) := by decide +kernel
theorem dX8_drop_21 : decode cX8_drop 21 = .ok (.ifCond .eq 9, 3) := by decide +kernel
theorem dX8_drop_24 : decode cX8_drop 24 = .ok (.aload_n 0, 1) := by decide +kernel
theorem dX8_drop_25 : decode cX8_drop 25 = .ok (.iconst 1, 1) := by decide +kernel
theorem dX8_drop_26 : decode cX8_drop 26 = .ok (.invokevirtual 74, 3) := by decide +kernel
theorem dX8_drop_29 : decode cX8_drop 29 = .ok (.ireturn, 1) := by decide +kernel
theorem dX8_drop_30 : decode cX8_drop 30 = .ok (.aload_n 2, 1) := by decide +kernel
theorem dX8_drop_31 : decode cX8_drop 31 = .ok (.getfield 110, 3) := by decide +kernel
theorem dX8_drop_34 : decode cX8_drop 34 = .ok (.istore_n 3, 1) := by decide +kernel
theorem dX8_drop_35 : decode cX8_drop 35 = .ok (.aload_n 2, 1) := by decide +kernel
theorem dX8_drop_36 : decode cX8_drop 36 = .ok (.invokevirtual 113, 3) := by decide +kernel
theorem dX8_drop_39 : decode cX8_drop 39 = .ok (.aload_n 0, 1) := by decide +kernel
theorem dX8_drop_40 : decode cX8_drop 40 = .ok (.iload_n 3, 1) := by decide +kernel
theorem dX8_drop_41 : decode cX8_drop 41 = .ok (.invokevirtual 82, 3) := by decide +kernel
theorem dX8_drop_44 : decode cX8_drop 44 = .ok (.ireturn, 1) := by decide +kernel
theorem dX8_feed_0 : decode cX8_feed 0 = .ok (.iload_n 3, 1) := by decide +kernel
theorem dX8_feed_1 : decode cX8_feed 1 = .ok (.iconst 1, 1) := by decide +kernel
theorem dX8_feed_2 : decode cX8_feed 2 = .ok (.if_icmp .lt 9, 3) := by decide +kernel
theorem dX8_feed_5 : decode cX8_feed 5 = .ok (.iload_n 3, 1) := by decide +kernel
theorem dX8_feed_6 : decode cX8_feed 6 = .ok (.bipush 8, 2) := by decide +kernel
theorem dX8_feed_8 : decode cX8_feed 8 = .ok (.if_icmp .le 6, 3) := by decide +kernel
theorem dX8_feed_11 : decode cX8_feed 11 = .ok (.ldc 73, 2) := by decide +kernel
theorem dX8_feed_13 : decode cX8_feed 13 = .ok (.ireturn, 1) := by decide +kernel
theorem dX8_feed_14 : decode cX8_feed 14 = .ok (.aload_n 0, 1) := by decide +kernel
theorem dX8_feed_15 : decode cX8_feed 15 = .ok (.getfield 18, 3) := by decide +kernel
theorem dX8_feed_18 : decode cX8_feed 18 = .ok (.getfield 116, 3) := by decide +kernel
theorem dX8_feed_21 : decode cX8_feed 21 = .ok (.iload_n 3, 1) := by decide +kernel
theorem dX8_feed_22 : decode cX8_feed 22 = .ok (.invokevirtual 120, 3) := by decide +kernel
theorem dX8_feed_25 : decode cX8_feed 25 = .ok (.ifCond .ne 6, 3) := by decide +kernel
theorem dX8_feed_28 : decode cX8_feed 28 = .ok (.ldc 125, 2) := by decide +kernel
theorem dX8_feed_30 : decode cX8_feed 30 = .ok (.ireturn, 1) := by decide +kernel
theorem dX8_feed_31 : decode cX8_feed 31 = .ok (.aload_n 0, 1) := by decide +kernel
theorem dX8_feed_32 : decode cX8_feed 32 = .ok (.getfield 18, 3) := by decide +kernel
theorem dX8_feed_35 : decode cX8_feed 35 = .ok (.getfield 116, 3) := by decide +kernel
theorem dX8_feed_38 : decode cX8_feed 38 = .ok (.lload_n 1, 1) := by decide +kernel
theorem dX8_feed_39 : decode cX8_feed 39 = .ok (.iload_n 3, 1) := by decide +kernel
theorem dX8_feed_40 : decode cX8_feed 40 = .ok (.invokevirtual 126, 3) := by decide +kernel
theorem dX8_feed_43 : decode cX8_feed 43 = .ok (.aload_n 0, 1) := by decide +kernel
theorem dX8_feed_44 : decode cX8_feed 44 = .ok (.getfield 18, 3) := by decide +kernel
theorem dX8_feed_47 : decode cX8_feed 47 = .ok (.getfield 116, 3) := by decide +kernel
theorem dX8_feed_50 : decode cX8_feed 50 = .ok (.getfield 130, 3) := by decide +kernel
theorem dX8_feed_53 : decode cX8_feed 53 = .ok (.ireturn, 1) := by decide +kernel
theorem dX8_office_0 : decode cX8_office 0 = .ok (.aload_n 0, 1) := by decide +kernel
theorem dX8_office_1 : decode cX8_office 1 = .ok (.getfield 18, 3) := by decide +kernel
theorem dX8_office_4 : decode cX8_office 4 = .ok (.invokevirtual 131, 3) := by decide +kernel
theorem dX8_office_7 : decode cX8_office 7 = .ok (.istore_n 1, 1) := by decide +kernel
theorem dX8_office_8 : decode cX8_office 8 = .ok (.aload_n 0, 1) := by decide +kernel
theorem dX8_office_9 : decode cX8_office 9 = .ok (.getfield 18, 3) := by decide +kernel
theorem dX8_office_12 : decode cX8_office 12 = .ok (.getfield 116, 3) := by decide +kernel
theorem dX8_office_15 : decode cX8_office 15 = .ok (.iconst 0, 1) := by decide +kernel
theorem dX8_office_16 : decode cX8_office 16 = .ok (.putfield 130, 3) := by decide +kernel
theorem dX8_office_19 : decode cX8_office 19 = .ok (.iload_n 1, 1) := by decide +kernel
theorem dX8_office_20 : decode cX8_office 20 = .ok (.ifCond .ne 25, 3) := by decide +kernel
theorem dX8_office_23 : decode cX8_office 23 = .ok (.aload_n 0, 1) := by decide +kernel
theorem dX8_office_24 : decode cX8_office 24 = .ok (.aload_n 0, 1) := by decide +kernel
theorem dX8_office_25 : decode cX8_office 25 = .ok (.getfield 18, 3) := by decide +kernel
theorem dX8_office_28 : decode cX8_office 28 = .ok (.getfield 134, 3) := by decide +kernel
theorem dX8_office_31 : decode cX8_office 31 = .ok (.putfield 61, 3) := by decide +kernel
theorem dX8_office_34 : decode cX8_office 34 = .ok (.ldc 137, 2) := by decide +kernel
theorem dX8_office_36 : decode cX8_office 36 = .ok (.aload_n 0, 1) := by decide +kernel
theorem dX8_office_37 : decode cX8_office 37 = .ok (.getfield 18, 3) := by decide +kernel
theorem dX8_office_40 : decode cX8_office 40 = .ok (.getfield 138, 3) := by decide +kernel
theorem dX8_office_43 : decode cX8_office 43 = .ok (.isub, 1) := by decide +kernel
theorem dX8_office_44 : decode cX8_office 44 = .ok (.ireturn, 1) := by decide +kernel
theorem dX8_office_45 : decode cX8_office 45 = .ok (.aload_n 0, 1) := by decide +kernel
theorem dX8_office_46 : decode cX8_office 46 = .ok (.getfield 25, 3) := by decide +kernel
theorem dX8_office_49 : decode cX8_office 49 = .ok (.aload_n 0, 1) := by decide +kernel
theorem dX8_office_50 : decode cX8_office 50 = .ok (.getfield 18, 3) := by decide +kernel
theorem dX8_office_53 : decode cX8_office 53 = .ok (.getfield 141, 3) := by decide +kernel
theorem dX8_office_56 : decode cX8_office 56 = .ok (.invokevirtual 144, 3) := by decide +kernel
theorem dX8_office_59 : decode cX8_office 59 = .ok (.aload_n 0, 1) := by decide +kernel
theorem dX8_office_60 : decode cX8_office 60 = .ok (.getfield 32, 3) := by decide +kernel
theorem dX8_office_63 : decode cX8_office 63 = .ok (.invokevirtual 148, 3) := by decide +kernel
theorem dX8_office_66 : decode cX8_office 66 = .ok (.aload_n 0, 1) := by decide +kernel
theorem dX8_office_67 : decode cX8_office 67 = .ok (.getfield 25, 3) := by decide +kernel
theorem dX8_office_70 : decode cX8_office 70 = .ok (.getfield 151, 3) := by decide +kernel
theorem dX8_office_73 : decode cX8_office 73 = .ok (.ireturn, 1) := by decide +kernel
theorem dX8_fault_0 : decode cX8_fault 0 = .ok (.aload_n 0, 1) := by decide +kernel
theorem dX8_fault_1 : decode cX8_fault 1 = .ok (.getfield 61, 3) := by decide +kernel
theorem dX8_fault_4 : decode cX8_fault 4 = .ok (.ireturn, 1) := by decide +kernel
theorem dX8_lift_0 : decode cX8_lift 0 = .ok (.aload_n 0, 1) := by decide +kernel
theorem dX8_lift_1 : decode cX8_lift 1 = .ok (.getfield 25, 3) := by decide +kernel
theorem dX8_lift_4 : decode cX8_lift 4 = .ok (.iload_n 1, 1) := by decide +kernel
theorem dX8_lift_5 : decode cX8_lift 5 = .ok (.invokevirtual 154, 3) := by decide +kernel
theorem dX8_lift_8 : decode cX8_lift 8 = .ok (.ifCond .ne 6, 3) := by decide +kernel
theorem dX8_lift_11 : decode cX8_lift 11 = .ok (.ldc 73, 2) := by decide +kernel
theorem dX8_lift_13 : decode cX8_lift 13 = .ok (.ireturn, 1) := by decide +kernel
theorem dX8_lift_14 : decode cX8_lift 14 = .ok (.aload_n 0, 1) := by decide +kernel
theorem dX8_lift_15 : decode cX8_lift 15 = .ok (.getfield 25, 3) := by decide +kernel
theorem dX8_lift_18 : decode cX8_lift 18 = .ok (.iload_n 1, 1) := by decide +kernel
theorem dX8_lift_19 : decode cX8_lift 19 = .ok (.invokevirtual 157, 3) := by decide +kernel
theorem dX8_lift_22 : decode cX8_lift 22 = .ok (.istore_n 2, 1) := by decide +kernel
theorem dX8_lift_23 : decode cX8_lift 23 = .ok (.iload_n 2, 1) := by decide +kernel
theorem dX8_lift_24 : decode cX8_lift 24 = .ok (.ifCond .ge 6, 3) := by decide +kernel
theorem dX8_lift_27 : decode cX8_lift 27 = .ok (.ldc 160, 2) := by decide +kernel
theorem dX8_lift_29 : decode cX8_lift 29 = .ok (.ireturn, 1) := by decide +kernel
theorem dX8_lift_30 : decode cX8_lift 30 = .ok (.aload_n 0, 1) := by decide +kernel
theorem dX8_lift_31 : decode cX8_lift 31 = .ok (.getfield 32, 3) := by decide +kernel
theorem dX8_lift_34 : decode cX8_lift 34 = .ok (.aload_n 0, 1) := by decide +kernel
theorem dX8_lift_35 : decode cX8_lift 35 = .ok (.getfield 25, 3) := by decide +kernel
theorem dX8_lift_38 : decode cX8_lift 38 = .ok (.invokevirtual 161, 3) := by decide +kernel
theorem dX8_lift_41 : decode cX8_lift 41 = .ok (.aload_n 0, 1) := by decide +kernel
theorem dX8_lift_42 : decode cX8_lift 42 = .ok (.getfield 25, 3) := by decide +kernel
theorem dX8_lift_45 : decode cX8_lift 45 = .ok (.iload_n 1, 1) := by decide +kernel
theorem dX8_lift_46 : decode cX8_lift 46 = .ok (.invokevirtual 164, 3) := by decide +kernel
theorem dX8_lift_49 : decode cX8_lift 49 = .ok (.istore_n 3, 1) := by decide +kernel
theorem dX8_lift_50 : decode cX8_lift 50 = .ok (.aload_n 0, 1) := by decide +kernel
theorem dX8_lift_51 : decode cX8_lift 51 = .ok (.getfield 25, 3) := by decide +kernel
theorem dX8_lift_54 : decode cX8_lift 54 = .ok (.iload_n 1, 1) := by decide +kernel
theorem dX8_lift_55 : decode cX8_lift 55 = .ok (.invokevirtual 167, 3) := by decide +kernel
theorem dX8_lift_58 : decode cX8_lift 58 = .ok (.aload_n 0, 1) := by decide +kernel
theorem dX8_lift_59 : decode cX8_lift 59 = .ok (.getfield 25, 3) := by decide +kernel
theorem dX8_lift_62 : decode cX8_lift 62 = .ok (.iload_n 1, 1) := by decide +kernel
theorem dX8_lift_63 : decode cX8_lift 63 = .ok (.iload_n 2, 1) := by decide +kernel
theorem dX8_lift_64 : decode cX8_lift 64 = .ok (.invokevirtual 171, 3) := by decide +kernel
theorem dX8_lift_67 : decode cX8_lift 67 = .ok (.aload_n 0, 1) := by decide +kernel
theorem dX8_lift_68 : decode cX8_lift 68 = .ok (.getfield 25, 3) := by decide +kernel
theorem dX8_lift_71 : decode cX8_lift 71 = .ok (.getfield 174, 3) := by decide +kernel
theorem dX8_lift_74 : decode cX8_lift 74 = .ok (.aload_n 0, 1) := by decide +kernel
theorem dX8_lift_75 : decode cX8_lift 75 = .ok (.getfield 25, 3) := by decide +kernel
theorem dX8_lift_78 : decode cX8_lift 78 = .ok (.getfield 177, 3) := by decide +kernel
theorem dX8_lift_81 : decode cX8_lift 81 = .ok (.iload_n 1, 1) := by decide +kernel
theorem dX8_lift_82 : decode cX8_lift 82 = .ok (.iaload, 1) := by decide +kernel
theorem dX8_lift_83 : decode cX8_lift 83 = .ok (.if_icmp .gt 18, 3) := by decide +kernel
theorem dX8_lift_86 : decode cX8_lift 86 = .ok (.aload_n 0, 1) := by decide +kernel
theorem dX8_lift_87 : decode cX8_lift 87 = .ok (.getfield 25, 3) := by decide +kernel
theorem dX8_lift_90 : decode cX8_lift 90 = .ok (.dup, 1) := by decide +kernel
theorem dX8_lift_91 : decode cX8_lift 91 = .ok (.getfield 180, 3) := by decide +kernel
theorem dX8_lift_94 : decode cX8_lift 94 = .ok (.iconst 1, 1) := by decide +kernel
theorem dX8_lift_95 : decode cX8_lift 95 = .ok (.iload_n 1, 1) := by decide +kernel
theorem dX8_lift_96 : decode cX8_lift 96 = .ok (.ishl, 1) := by decide +kernel
theorem dX8_lift_97 : decode cX8_lift 97 = .ok (.ior, 1) := by decide +kernel
theorem dX8_lift_98 : decode cX8_lift 98 = .ok (.putfield 180, 3) := by decide +kernel
theorem dX8_lift_101 : decode cX8_lift 101 = .ok (.iload_n 3, 1) := by decide +kernel
theorem dX8_lift_102 : decode cX8_lift 102 = .ok (.ireturn, 1) := by decide +kernel
theorem dX8_lay_0 : decode cX8_lay 0 = .ok (.aload_n 0, 1) := by decide +kernel
theorem dX8_lay_1 : decode cX8_lay 1 = .ok (.getfield 25, 3) := by decide +kernel
theorem dX8_lay_4 : decode cX8_lay 4 = .ok (.iload_n 1, 1) := by decide +kernel
theorem dX8_lay_5 : decode cX8_lay 5 = .ok (.invokevirtual 154, 3) := by decide +kernel
theorem dX8_lay_8 : decode cX8_lay 8 = .ok (.ifCond .eq 14, 3) := by decide +kernel
theorem dX8_lay_11 : decode cX8_lay 11 = .ok (.aload_n 0, 1) := by decide +kernel
theorem dX8_lay_12 : decode cX8_lay 12 = .ok (.getfield 25, 3) := by decide +kernel
theorem dX8_lay_15 : decode cX8_lay 15 = .ok (.iload_n 2, 1) := by decide +kernel
theorem dX8_lay_16 : decode cX8_lay 16 = .ok (.invokevirtual 183, 3) := by decide +kernel
theorem dX8_lay_19 : decode cX8_lay 19 = .ok (.ifCond .ne 6, 3) := by decide +kernel
theorem dX8_lay_22 : decode cX8_lay 22 = .ok (.ldc 73, 2) := by decide +kernel
theorem dX8_lay_24 : decode cX8_lay 24 = .ok (.ireturn, 1) := by decide +kernel
theorem dX8_lay_25 : decode cX8_lay 25 = .ok (.aload_n 0, 1) := by decide +kernel
theorem dX8_lay_26 : decode cX8_lay 26 = .ok (.getfield 25, 3) := by decide +kernel
theorem dX8_lay_29 : decode cX8_lay 29 = .ok (.iload_n 1, 1) := by decide +kernel
theorem dX8_lay_30 : decode cX8_lay 30 = .ok (.invokevirtual 157, 3) := by decide +kernel
theorem dX8_lay_33 : decode cX8_lay 33 = .ok (.istore_n 3, 1) := by decide +kernel
theorem dX8_lay_34 : decode cX8_lay 34 = .ok (.iload_n 3, 1) := by decide +kernel
theorem dX8_lay_35 : decode cX8_lay 35 = .ok (.ifCond .lt 8, 3) := by decide +kernel
theorem dX8_lay_38 : decode cX8_lay 38 = .ok (.iload_n 3, 1) := by decide +kernel
theorem dX8_lay_39 : decode cX8_lay 39 = .ok (.iload_n 2, 1) := by decide +kernel
theorem dX8_lay_40 : decode cX8_lay 40 = .ok (.if_icmp .ne 6, 3) := by decide +kernel
theorem dX8_lay_43 : decode cX8_lay 43 = .ok (.ldc 160, 2) := by decide +kernel
theorem dX8_lay_45 : decode cX8_lay 45 = .ok (.ireturn, 1) := by decide +kernel
theorem dX8_lay_46 : decode cX8_lay 46 = .ok (.aload_n 0, 1) := by decide +kernel
theorem dX8_lay_47 : decode cX8_lay 47 = .ok (.getfield 25, 3) := by decide +kernel
theorem dX8_lay_50 : decode cX8_lay 50 = .ok (.iload_n 2, 1) := by decide +kernel
theorem dX8_lay_51 : decode cX8_lay 51 = .ok (.invokevirtual 186, 3) := by decide +kernel
theorem dX8_lay_54 : decode cX8_lay 54 = .ok (.ifCond .ne 6, 3) := by decide +kernel
theorem dX8_lay_57 : decode cX8_lay 57 = .ok (.ldc 125, 2) := by decide +kernel
theorem dX8_lay_59 : decode cX8_lay 59 = .ok (.ireturn, 1) := by decide +kernel
theorem dX8_lay_60 : decode cX8_lay 60 = .ok (.aload_n 0, 1) := by decide +kernel
theorem dX8_lay_61 : decode cX8_lay 61 = .ok (.getfield 32, 3) := by decide +kernel
theorem dX8_lay_64 : decode cX8_lay 64 = .ok (.aload_n 0, 1) := by decide +kernel
theorem dX8_lay_65 : decode cX8_lay 65 = .ok (.getfield 25, 3) := by decide +kernel
theorem dX8_lay_68 : decode cX8_lay 68 = .ok (.invokevirtual 161, 3) := by decide +kernel
theorem dX8_lay_71 : decode cX8_lay 71 = .ok (.aload_n 0, 1) := by decide +kernel
theorem dX8_lay_72 : decode cX8_lay 72 = .ok (.getfield 25, 3) := by decide +kernel
theorem dX8_lay_75 : decode cX8_lay 75 = .ok (.iload_n 1, 1) := by decide +kernel
theorem dX8_lay_76 : decode cX8_lay 76 = .ok (.invokevirtual 167, 3) := by decide +kernel
theorem dX8_lay_79 : decode cX8_lay 79 = .ok (.aload_n 0, 1) := by decide +kernel
theorem dX8_lay_80 : decode cX8_lay 80 = .ok (.getfield 25, 3) := by decide +kernel
theorem dX8_lay_83 : decode cX8_lay 83 = .ok (.iload_n 1, 1) := by decide +kernel
theorem dX8_lay_84 : decode cX8_lay 84 = .ok (.iload_n 2, 1) := by decide +kernel
theorem dX8_lay_85 : decode cX8_lay 85 = .ok (.invokevirtual 171, 3) := by decide +kernel
theorem dX8_lay_88 : decode cX8_lay 88 = .ok (.aload_n 0, 1) := by decide +kernel
theorem dX8_lay_89 : decode cX8_lay 89 = .ok (.getfield 25, 3) := by decide +kernel
theorem dX8_lay_92 : decode cX8_lay 92 = .ok (.getfield 187, 3) := by decide +kernel
theorem dX8_lay_95 : decode cX8_lay 95 = .ok (.iload_n 2, 1) := by decide +kernel
theorem dX8_lay_96 : decode cX8_lay 96 = .ok (.iaload, 1) := by decide +kernel
theorem dX8_lay_97 : decode cX8_lay 97 = .ok (.ireturn, 1) := by decide +kernel
theorem dX8_blank_0 : decode cX8_blank 0 = .ok (.aload_n 0, 1) := by decide +kernel
theorem dX8_blank_1 : decode cX8_blank 1 = .ok (.getfield 25, 3) := by decide +kernel
theorem dX8_blank_4 : decode cX8_blank 4 = .ok (.iload_n 1, 1) := by decide +kernel
theorem dX8_blank_5 : decode cX8_blank 5 = .ok (.invokevirtual 183, 3) := by decide +kernel
theorem dX8_blank_8 : decode cX8_blank 8 = .ok (.ifCond .ne 6, 3) := by decide +kernel
theorem dX8_blank_11 : decode cX8_blank 11 = .ok (.ldc 73, 2) := by decide +kernel
theorem dX8_blank_13 : decode cX8_blank 13 = .ok (.ireturn, 1) := by decide +kernel
theorem dX8_blank_14 : decode cX8_blank 14 = .ok (.aload_n 0, 1) := by decide +kernel
theorem dX8_blank_15 : decode cX8_blank 15 = .ok (.getfield 25, 3) := by decide +kernel
theorem dX8_blank_18 : decode cX8_blank 18 = .ok (.iload_n 1, 1) := by decide +kernel
theorem dX8_blank_19 : decode cX8_blank 19 = .ok (.invokevirtual 186, 3) := by decide +kernel
theorem dX8_blank_22 : decode cX8_blank 22 = .ok (.ifCond .eq 15, 3) := by decide +kernel
theorem dX8_blank_25 : decode cX8_blank 25 = .ok (.aload_n 0, 1) := by decide +kernel
theorem dX8_blank_26 : decode cX8_blank 26 = .ok (.getfield 25, 3) := by decide +kernel
theorem dX8_blank_29 : decode cX8_blank 29 = .ok (.getfield 190, 3) := by decide +kernel
theorem dX8_blank_32 : decode cX8_blank 32 = .ok (.bipush 16, 2) := by decide +kernel
theorem dX8_blank_34 : decode cX8_blank 34 = .ok (.if_icmp .lt 6, 3) := by decide +kernel
theorem dX8_blank_37 : decode cX8_blank 37 = .ok (.ldc 125, 2) := by decide +kernel
theorem dX8_blank_39 : decode cX8_blank 39 = .ok (.ireturn, 1) := by decide +kernel
theorem dX8_blank_40 : decode cX8_blank 40 = .ok (.aload_n 0, 1) := by decide +kernel
theorem dX8_blank_41 : decode cX8_blank 41 = .ok (.getfield 32, 3) := by decide +kernel
theorem dX8_blank_44 : decode cX8_blank 44 = .ok (.aload_n 0, 1) := by decide +kernel
theorem dX8_blank_45 : decode cX8_blank 45 = .ok (.getfield 25, 3) := by decide +kernel
theorem dX8_blank_48 : decode cX8_blank 48 = .ok (.invokevirtual 161, 3) := by decide +kernel
theorem dX8_blank_51 : decode cX8_blank 51 = .ok (.aload_n 0, 1) := by decide +kernel
theorem dX8_blank_52 : decode cX8_blank 52 = .ok (.getfield 25, 3) := by decide +kernel
theorem dX8_blank_55 : decode cX8_blank 55 = .ok (.iconst 4, 1) := by decide +kernel
theorem dX8_blank_56 : decode cX8_blank 56 = .ok (.iload_n 1, 1) := by decide +kernel
theorem dX8_blank_57 : decode cX8_blank 57 = .ok (.iconst 0, 1) := by decide +kernel
theorem dX8_blank_58 : decode cX8_blank 58 = .ok (.bipush 12, 2) := by decide +kernel
theorem dX8_blank_60 : decode cX8_blank 60 = .ok (.invokevirtual 193, 3) := by decide +kernel
theorem dX8_blank_63 : decode cX8_blank 63 = .ok (.ireturn, 1) := by decide +kernel
theorem dX8_quarter_0 : decode cX8_quarter 0 = .ok (.aload_n 0, 1) := by decide +kernel
theorem dX8_quarter_1 : decode cX8_quarter 1 = .ok (.getfield 25, 3) := by decide +kernel
theorem dX8_quarter_4 : decode cX8_quarter 4 = .ok (.invokevirtual 197, 3) := by decide +kernel
theorem dX8_quarter_7 : decode cX8_quarter 7 = .ok (.ifCond .ne 6, 3) := by decide +kernel
theorem dX8_quarter_10 : decode cX8_quarter 10 = .ok (.ldc 160, 2) := by decide +kernel
theorem dX8_quarter_12 : decode cX8_quarter 12 = .ok (.ireturn, 1) := by decide +kernel
theorem dX8_quarter_13 : decode cX8_quarter 13 = .ok (.iload_n 1, 1) := by decide +kernel
theorem dX8_quarter_14 : decode cX8_quarter 14 = .ok (.iconst 1, 1) := by decide +kernel
theorem dX8_quarter_15 : decode cX8_quarter 15 = .ok (.if_icmp .lt 9, 3) := by decide +kernel
theorem dX8_quarter_18 : decode cX8_quarter 18 = .ok (.iload_n 1, 1) := by decide +kernel
theorem dX8_quarter_19 : decode cX8_quarter 19 = .ok (.ldc 200, 2) := by decide +kernel
theorem dX8_quarter_21 : decode cX8_quarter 21 = .ok (.if_icmp .le 6, 3) := by decide +kernel
theorem dX8_quarter_24 : decode cX8_quarter 24 = .ok (.ldc 73, 2) := by decide +kernel
theorem dX8_quarter_26 : decode cX8_quarter 26 = .ok (.ireturn, 1) := by decide +kernel
theorem dX8_quarter_27 : decode cX8_quarter 27 = .ok (.aload_n 0, 1) := by decide +kernel
theorem dX8_quarter_28 : decode cX8_quarter 28 = .ok (.getfield 25, 3) := by decide +kernel
theorem dX8_quarter_31 : decode cX8_quarter 31 = .ok (.getfield 174, 3) := by decide +kernel
theorem dX8_quarter_34 : decode cX8_quarter 34 = .ok (.bipush 12, 2) := by decide +kernel
theorem dX8_quarter_36 : decode cX8_quarter 36 = .ok (.if_icmp .lt 6, 3) := by decide +kernel
theorem dX8_quarter_39 : decode cX8_quarter 39 = .ok (.ldc 160, 2) := by decide +kernel
theorem dX8_quarter_41 : decode cX8_quarter 41 = .ok (.ireturn, 1) := by decide +kernel
theorem dX8_quarter_42 : decode cX8_quarter 42 = .ok (.aload_n 0, 1) := by decide +kernel
theorem dX8_quarter_43 : decode cX8_quarter 43 = .ok (.getfield 32, 3) := by decide +kernel
theorem dX8_quarter_46 : decode cX8_quarter 46 = .ok (.aload_n 0, 1) := by decide +kernel
theorem dX8_quarter_47 : decode cX8_quarter 47 = .ok (.getfield 25, 3) := by decide +kernel
theorem dX8_quarter_50 : decode cX8_quarter 50 = .ok (.invokevirtual 161, 3) := by decide +kernel
theorem dX8_quarter_53 : decode cX8_quarter 53 = .ok (.iload_n 1, 1) := by decide +kernel
theorem dX8_quarter_54 : decode cX8_quarter 54 = .ok (.i2l, 1) := by decide +kernel
theorem dX8_quarter_55 : decode cX8_quarter 55 = .ok (.ldc2_w 201, 3) := by decide +kernel
theorem dX8_quarter_58 : decode cX8_quarter 58 = .ok (.lmul, 1) := by decide +kernel
theorem dX8_quarter_59 : decode cX8_quarter 59 = .ok (.ldc2_w 203, 3) := by decide +kernel
theorem dX8_quarter_62 : decode cX8_quarter 62 = .ok (.lrem, 1) := by decide +kernel
theorem dX8_quarter_63 : decode cX8_quarter 63 = .ok (.ldc2_w 205, 3) := by decide +kernel
theorem dX8_quarter_66 : decode cX8_quarter 66 = .ok (.lrem, 1) := by decide +kernel
theorem dX8_quarter_67 : decode cX8_quarter 67 = .ok (.lstore_n 2, 1) := by decide +kernel
theorem dX8_quarter_68 : decode cX8_quarter 68 = .ok (.lload_n 2, 1) := by decide +kernel
theorem dX8_quarter_69 : decode cX8_quarter 69 = .ok (.aload_n 0, 1) := by decide +kernel
theorem dX8_quarter_70 : decode cX8_quarter 70 = .ok (.getfield 25, 3) := by decide +kernel
theorem dX8_quarter_73 : decode cX8_quarter 73 = .ok (.getfield 207, 3) := by decide +kernel
theorem dX8_quarter_76 : decode cX8_quarter 76 = .ok (.aload_n 0, 1) := by decide +kernel
theorem dX8_quarter_77 : decode cX8_quarter 77 = .ok (.getfield 25, 3) := by decide +kernel
theorem dX8_quarter_80 : decode cX8_quarter 80 = .ok (.getfield 174, 3) := by decide +kernel
theorem dX8_quarter_83 : decode cX8_quarter 83 = .ok (.iaload, 1) := by decide +kernel
theorem dX8_quarter_84 : decode cX8_quarter 84 = .ok (.i2l, 1) := by decide +kernel
theorem dX8_quarter_85 : decode cX8_quarter 85 = .ok (.lcmp, 1) := by decide +kernel
theorem dX8_quarter_86 : decode cX8_quarter 86 = .ok (.ifCond .ge 13, 3) := by decide +kernel
theorem dX8_quarter_89 : decode cX8_quarter 89 = .ok (.aload_n 0, 1) := by decide +kernel
theorem dX8_quarter_90 : decode cX8_quarter 90 = .ok (.getfield 25, 3) := by decide +kernel
theorem dX8_quarter_93 : decode cX8_quarter 93 = .ok (.invokevirtual 210, 3) := by decide +kernel
theorem dX8_quarter_96 : decode cX8_quarter 96 = .ok (.goto 4, 3) := by decide +kernel
theorem dX8_quarter_99 : decode cX8_quarter 99 = .ok (.iconst 0, 1) := by decide +kernel
theorem dX8_quarter_100 : decode cX8_quarter 100 = .ok (.istore 4, 2) := by decide +kernel
theorem dX8_quarter_102 : decode cX8_quarter 102 = .ok (.aload_n 0, 1) := by decide +kernel
theorem dX8_quarter_103 : decode cX8_quarter 103 = .ok (.getfield 25, 3) := by decide +kernel
theorem dX8_quarter_106 : decode cX8_quarter 106 = .ok (.dup, 1) := by decide +kernel
theorem dX8_quarter_107 : decode cX8_quarter 107 = .ok (.getfield 174, 3) := by decide +kernel
theorem dX8_quarter_110 : decode cX8_quarter 110 = .ok (.iconst 1, 1) := by decide +kernel
theorem dX8_quarter_111 : decode cX8_quarter 111 = .ok (.iadd, 1) := by decide +kernel
theorem dX8_quarter_112 : decode cX8_quarter 112 = .ok (.putfield 174, 3) := by decide +kernel
theorem dX8_quarter_115 : decode cX8_quarter 115 = .ok (.iload 4, 2) := by decide +kernel
theorem dX8_quarter_117 : decode cX8_quarter 117 = .ok (.ireturn, 1) := by decide +kernel
theorem dX8_undo_0 : decode cX8_undo 0 = .ok (.aload_n 0, 1) := by decide +kernel
theorem dX8_undo_1 : decode cX8_undo 1 = .ok (.getfield 32, 3) := by decide +kernel
theorem dX8_undo_4 : decode cX8_undo 4 = .ok (.getfield 214, 3) := by decide +kernel
theorem dX8_undo_7 : decode cX8_undo 7 = .ok (.ifCond .ne 6, 3) := by decide +kernel
theorem dX8_undo_10 : decode cX8_undo 10 = .ok (.ldc 160, 2) := by decide +kernel
theorem dX8_undo_12 : decode cX8_undo 12 = .ok (.ireturn, 1) := by decide +kernel
theorem dX8_undo_13 : decode cX8_undo 13 = .ok (.aload_n 0, 1) := by decide +kernel
theorem dX8_undo_14 : decode cX8_undo 14 = .ok (.getfield 32, 3) := by decide +kernel
theorem dX8_undo_17 : decode cX8_undo 17 = .ok (.aload_n 0, 1) := by decide +kernel
theorem dX8_undo_18 : decode cX8_undo 18 = .ok (.getfield 25, 3) := by decide +kernel
theorem dX8_undo_21 : decode cX8_undo 21 = .ok (.invokevirtual 217, 3) := by decide +kernel
theorem dX8_undo_24 : decode cX8_undo 24 = .ok (.aload_n 0, 1) := by decide +kernel
theorem dX8_undo_25 : decode cX8_undo 25 = .ok (.getfield 32, 3) := by decide +kernel
theorem dX8_undo_28 : decode cX8_undo 28 = .ok (.getfield 214, 3) := by decide +kernel
theorem dX8_undo_31 : decode cX8_undo 31 = .ok (.ireturn, 1) := by decide +kernel
theorem dX8_sheet_0 : decode cX8_sheet 0 = .ok (.aload_n 0, 1) := by decide +kernel
theorem dX8_sheet_1 : decode cX8_sheet 1 = .ok (.getfield 25, 3) := by decide +kernel
theorem dX8_sheet_4 : decode cX8_sheet 4 = .ok (.iload_n 1, 1) := by decide +kernel
theorem dX8_sheet_5 : decode cX8_sheet 5 = .ok (.invokevirtual 154, 3) := by decide +kernel
theorem dX8_sheet_8 : decode cX8_sheet 8 = .ok (.ifCond .ne 6, 3) := by decide +kernel
theorem dX8_sheet_11 : decode cX8_sheet 11 = .ok (.ldc 73, 2) := by decide +kernel
theorem dX8_sheet_13 : decode cX8_sheet 13 = .ok (.ireturn, 1) := by decide +kernel
theorem dX8_sheet_14 : decode cX8_sheet 14 = .ok (.iload_n 2, 1) := by decide +kernel
theorem dX8_sheet_15 : decode cX8_sheet 15 = .ok (.tableswitch 141 0 5 #[37, 47, 57, 82, 107, 124], 37) := by decide +kernel
theorem dX8_sheet_52 : decode cX8_sheet 52 = .ok (.aload_n 0, 1) := by decide +kernel
theorem dX8_sheet_53 : decode cX8_sheet 53 = .ok (.getfield 25, 3) := by decide +kernel
theorem dX8_sheet_56 : decode cX8_sheet 56 = .ok (.getfield 220, 3) := by decide +kernel
theorem dX8_sheet_59 : decode cX8_sheet 59 = .ok (.iload_n 1, 1) := by decide +kernel
theorem dX8_sheet_60 : decode cX8_sheet 60 = .ok (.iaload, 1) := by decide +kernel
theorem dX8_sheet_61 : decode cX8_sheet 61 = .ok (.ireturn, 1) := by decide +kernel
theorem dX8_sheet_62 : decode cX8_sheet 62 = .ok (.aload_n 0, 1) := by decide +kernel
theorem dX8_sheet_63 : decode cX8_sheet 63 = .ok (.getfield 25, 3) := by decide +kernel
theorem dX8_sheet_66 : decode cX8_sheet 66 = .ok (.getfield 177, 3) := by decide +kernel
theorem dX8_sheet_69 : decode cX8_sheet 69 = .ok (.iload_n 1, 1) := by decide +kernel
theorem dX8_sheet_70 : decode cX8_sheet 70 = .ok (.iaload, 1) := by decide +kernel
theorem dX8_sheet_71 : decode cX8_sheet 71 = .ok (.ireturn, 1) := by decide +kernel
theorem dX8_sheet_72 : decode cX8_sheet 72 = .ok (.aload_n 0, 1) := by decide +kernel
theorem dX8_sheet_73 : decode cX8_sheet 73 = .ok (.getfield 25, 3) := by decide +kernel
theorem dX8_sheet_76 : decode cX8_sheet 76 = .ok (.iload_n 1, 1) := by decide +kernel
theorem dX8_sheet_77 : decode cX8_sheet 77 = .ok (.invokevirtual 223, 3) := by decide +kernel
theorem dX8_sheet_80 : decode cX8_sheet 80 = .ok (.ifCond .eq 8, 3) := by decide +kernel
theorem dX8_sheet_83 : decode cX8_sheet 83 = .ok (.ldc 226, 2) := by decide +kernel
theorem dX8_sheet_85 : decode cX8_sheet 85 = .ok (.goto 11, 3) := by decide +kernel
theorem dX8_sheet_88 : decode cX8_sheet 88 = .ok (.aload_n 0, 1) := by decide +kernel
theorem dX8_sheet_89 : decode cX8_sheet 89 = .ok (.getfield 25, 3) := by decide +kernel
theorem dX8_sheet_92 : decode cX8_sheet 92 = .ok (.iload_n 1, 1) := by decide +kernel
theorem dX8_sheet_93 : decode cX8_sheet 93 = .ok (.invokevirtual 157, 3) := by decide +kernel
theorem dX8_sheet_96 : decode cX8_sheet 96 = .ok (.ireturn, 1) := by decide +kernel
theorem dX8_sheet_97 : decode cX8_sheet 97 = .ok (.aload_n 0, 1) := by decide +kernel
theorem dX8_sheet_98 : decode cX8_sheet 98 = .ok (.getfield 25, 3) := by decide +kernel
theorem dX8_sheet_101 : decode cX8_sheet 101 = .ok (.iload_n 1, 1) := by decide +kernel
theorem dX8_sheet_102 : decode cX8_sheet 102 = .ok (.invokevirtual 223, 3) := by decide +kernel
theorem dX8_sheet_105 : decode cX8_sheet 105 = .ok (.ifCond .eq 8, 3) := by decide +kernel
theorem dX8_sheet_108 : decode cX8_sheet 108 = .ok (.ldc 226, 2) := by decide +kernel
theorem dX8_sheet_110 : decode cX8_sheet 110 = .ok (.goto 11, 3) := by decide +kernel
theorem dX8_sheet_113 : decode cX8_sheet 113 = .ok (.aload_n 0, 1) := by decide +kernel
theorem dX8_sheet_114 : decode cX8_sheet 114 = .ok (.getfield 25, 3) := by decide +kernel
theorem dX8_sheet_117 : decode cX8_sheet 117 = .ok (.iload_n 1, 1) := by decide +kernel
theorem dX8_sheet_118 : decode cX8_sheet 118 = .ok (.invokevirtual 164, 3) := by decide +kernel
theorem dX8_sheet_121 : decode cX8_sheet 121 = .ok (.ireturn, 1) := by decide +kernel
theorem dX8_sheet_122 : decode cX8_sheet 122 = .ok (.aload_n 0, 1) := by decide +kernel
theorem dX8_sheet_123 : decode cX8_sheet 123 = .ok (.getfield 25, 3) := by decide +kernel
theorem dX8_sheet_126 : decode cX8_sheet 126 = .ok (.iload_n 1, 1) := by decide +kernel
theorem dX8_sheet_127 : decode cX8_sheet 127 = .ok (.invokevirtual 227, 3) := by decide +kernel
theorem dX8_sheet_130 : decode cX8_sheet 130 = .ok (.ifCond .eq 7, 3) := by decide +kernel
theorem dX8_sheet_133 : decode cX8_sheet 133 = .ok (.iconst 1, 1) := by decide +kernel
theorem dX8_sheet_134 : decode cX8_sheet 134 = .ok (.goto 4, 3) := by decide +kernel
theorem dX8_sheet_137 : decode cX8_sheet 137 = .ok (.iconst 0, 1) := by decide +kernel
theorem dX8_sheet_138 : decode cX8_sheet 138 = .ok (.ireturn, 1) := by decide +kernel
theorem dX8_sheet_139 : decode cX8_sheet 139 = .ok (.aload_n 0, 1) := by decide +kernel
theorem dX8_sheet_140 : decode cX8_sheet 140 = .ok (.getfield 25, 3) := by decide +kernel
theorem dX8_sheet_143 : decode cX8_sheet 143 = .ok (.iload_n 1, 1) := by decide +kernel
theorem dX8_sheet_144 : decode cX8_sheet 144 = .ok (.invokevirtual 230, 3) := by decide +kernel
theorem dX8_sheet_147 : decode cX8_sheet 147 = .ok (.ifCond .eq 7, 3) := by decide +kernel
theorem dX8_sheet_150 : decode cX8_sheet 150 = .ok (.iconst 1, 1) := by decide +kernel
theorem dX8_sheet_151 : decode cX8_sheet 151 = .ok (.goto 4, 3) := by decide +kernel
theorem dX8_sheet_154 : decode cX8_sheet 154 = .ok (.iconst 0, 1) := by decide +kernel
theorem dX8_sheet_155 : decode cX8_sheet 155 = .ok (.ireturn, 1) := by decide +kernel
theorem dX8_sheet_156 : decode cX8_sheet 156 = .ok (.ldc 73, 2) := by decide +kernel
theorem dX8_sheet_158 : decode cX8_sheet 158 = .ok (.ireturn, 1) := by decide +kernel
theorem dX8_desk_0 : decode cX8_desk 0 = .ok (.aload_n 0, 1) := by decide +kernel
theorem dX8_desk_1 : decode cX8_desk 1 = .ok (.getfield 25, 3) := by decide +kernel
theorem dX8_desk_4 : decode cX8_desk 4 = .ok (.iload_n 1, 1) := by decide +kernel
theorem dX8_desk_5 : decode cX8_desk 5 = .ok (.invokevirtual 183, 3) := by decide +kernel
theorem dX8_desk_8 : decode cX8_desk 8 = .ok (.ifCond .ne 6, 3) := by decide +kernel
theorem dX8_desk_11 : decode cX8_desk 11 = .ok (.ldc 73, 2) := by decide +kernel
theorem dX8_desk_13 : decode cX8_desk 13 = .ok (.ireturn, 1) := by decide +kernel
theorem dX8_desk_14 : decode cX8_desk 14 = .ok (.iload_n 2, 1) := by decide +kernel
theorem dX8_desk_15 : decode cX8_desk 15 = .ok (.bipush 10, 2) := by decide +kernel
theorem dX8_desk_17 : decode cX8_desk 17 = .ok (.if_icmp .lt 36, 3) := by decide +kernel
theorem dX8_desk_20 : decode cX8_desk 20 = .ok (.iload_n 2, 1) := by decide +kernel
theorem dX8_desk_21 : decode cX8_desk 21 = .ok (.bipush 10, 2) := by decide +kernel
theorem dX8_desk_23 : decode cX8_desk 23 = .ok (.isub, 1) := by decide +kernel
theorem dX8_desk_24 : decode cX8_desk 24 = .ok (.istore_n 3, 1) := by decide +kernel
theorem dX8_desk_25 : decode cX8_desk 25 = .ok (.iload_n 3, 1) := by decide +kernel
theorem dX8_desk_26 : decode cX8_desk 26 = .ok (.aload_n 0, 1) := by decide +kernel
theorem dX8_desk_27 : decode cX8_desk 27 = .ok (.getfield 25, 3) := by decide +kernel
theorem dX8_desk_30 : decode cX8_desk 30 = .ok (.getfield 187, 3) := by decide +kernel
theorem dX8_desk_33 : decode cX8_desk 33 = .ok (.iload_n 1, 1) := by decide +kernel
theorem dX8_desk_34 : decode cX8_desk 34 = .ok (.iaload, 1) := by decide +kernel
theorem dX8_desk_35 : decode cX8_desk 35 = .ok (.if_icmp .ge 15, 3) := by decide +kernel
theorem dX8_desk_38 : decode cX8_desk 38 = .ok (.aload_n 0, 1) := by decide +kernel
theorem dX8_desk_39 : decode cX8_desk 39 = .ok (.getfield 25, 3) := by decide +kernel
theorem dX8_desk_42 : decode cX8_desk 42 = .ok (.iload_n 1, 1) := by decide +kernel
theorem dX8_desk_43 : decode cX8_desk 43 = .ok (.iload_n 3, 1) := by decide +kernel
theorem dX8_desk_44 : decode cX8_desk 44 = .ok (.invokevirtual 233, 3) := by decide +kernel
theorem dX8_desk_47 : decode cX8_desk 47 = .ok (.goto 5, 3) := by decide +kernel
theorem dX8_desk_50 : decode cX8_desk 50 = .ok (.ldc 226, 2) := by decide +kernel
theorem dX8_desk_52 : decode cX8_desk 52 = .ok (.ireturn, 1) := by decide +kernel
theorem dX8_desk_53 : decode cX8_desk 53 = .ok (.iload_n 2, 1) := by decide +kernel
theorem dX8_desk_54 : decode cX8_desk 54 = .ok (.tableswitch 56 0 2 #[26, 36, 46], 26) := by decide +kernel
theorem dX8_desk_80 : decode cX8_desk 80 = .ok (.aload_n 0, 1) := by decide +kernel
theorem dX8_desk_81 : decode cX8_desk 81 = .ok (.getfield 25, 3) := by decide +kernel
theorem dX8_desk_84 : decode cX8_desk 84 = .ok (.getfield 236, 3) := by decide +kernel
theorem dX8_desk_87 : decode cX8_desk 87 = .ok (.iload_n 1, 1) := by decide +kernel
theorem dX8_desk_88 : decode cX8_desk 88 = .ok (.iaload, 1) := by decide +kernel
theorem dX8_desk_89 : decode cX8_desk 89 = .ok (.ireturn, 1) := by decide +kernel
theorem dX8_desk_90 : decode cX8_desk 90 = .ok (.aload_n 0, 1) := by decide +kernel
theorem dX8_desk_91 : decode cX8_desk 91 = .ok (.getfield 25, 3) := by decide +kernel
theorem dX8_desk_94 : decode cX8_desk 94 = .ok (.getfield 239, 3) := by decide +kernel
theorem dX8_desk_97 : decode cX8_desk 97 = .ok (.iload_n 1, 1) := by decide +kernel
theorem dX8_desk_98 : decode cX8_desk 98 = .ok (.iaload, 1) := by decide +kernel
theorem dX8_desk_99 : decode cX8_desk 99 = .ok (.ireturn, 1) := by decide +kernel
theorem dX8_desk_100 : decode cX8_desk 100 = .ok (.aload_n 0, 1) := by decide +kernel
theorem dX8_desk_101 : decode cX8_desk 101 = .ok (.getfield 25, 3) := by decide +kernel
theorem dX8_desk_104 : decode cX8_desk 104 = .ok (.getfield 187, 3) := by decide +kernel
theorem dX8_desk_107 : decode cX8_desk 107 = .ok (.iload_n 1, 1) := by decide +kernel
theorem dX8_desk_108 : decode cX8_desk 108 = .ok (.iaload, 1) := by decide +kernel
theorem dX8_desk_109 : decode cX8_desk 109 = .ok (.ireturn, 1) := by decide +kernel
theorem dX8_desk_110 : decode cX8_desk 110 = .ok (.ldc 73, 2) := by decide +kernel
theorem dX8_desk_112 : decode cX8_desk 112 = .ok (.ireturn, 1) := by decide +kernel
theorem dX8_taken_0 : decode cX8_taken 0 = .ok (.aload_n 0, 1) := by decide +kernel
theorem dX8_taken_1 : decode cX8_taken 1 = .ok (.getfield 25, 3) := by decide +kernel
theorem dX8_taken_4 : decode cX8_taken 4 = .ok (.invokevirtual 197, 3) := by decide +kernel
theorem dX8_taken_7 : decode cX8_taken 7 = .ok (.ifCond .ne 6, 3) := by decide +kernel
theorem dX8_taken_10 : decode cX8_taken 10 = .ok (.ldc 160, 2) := by decide +kernel
theorem dX8_taken_12 : decode cX8_taken 12 = .ok (.ireturn, 1) := by decide +kernel
theorem dX8_taken_13 : decode cX8_taken 13 = .ok (.iload_n 1, 1) := by decide +kernel
theorem dX8_taken_14 : decode cX8_taken 14 = .ok (.invokestatic 242, 3) := by decide +kernel
theorem dX8_taken_17 : decode cX8_taken 17 = .ok (.ifCond .eq 12, 3) := by decide +kernel
theorem dX8_taken_20 : decode cX8_taken 20 = .ok (.iload_n 2, 1) := by decide +kernel
theorem dX8_taken_21 : decode cX8_taken 21 = .ok (.ifCond .lt 8, 3) := by decide +kernel
theorem dX8_taken_24 : decode cX8_taken 24 = .ok (.iload_n 2, 1) := by decide +kernel
theorem dX8_taken_25 : decode cX8_taken 25 = .ok (.iconst 1, 1) := by decide +kernel
theorem dX8_taken_26 : decode cX8_taken 26 = .ok (.if_icmp .le 6, 3) := by decide +kernel
theorem dX8_taken_29 : decode cX8_taken 29 = .ok (.ldc 73, 2) := by decide +kernel
theorem dX8_taken_31 : decode cX8_taken 31 = .ok (.ireturn, 1) := by decide +kernel
theorem dX8_taken_32 : decode cX8_taken 32 = .ok (.aload_n 0, 1) := by decide +kernel
theorem dX8_taken_33 : decode cX8_taken 33 = .ok (.getfield 25, 3) := by decide +kernel
theorem dX8_taken_36 : decode cX8_taken 36 = .ok (.iload_n 1, 1) := by decide +kernel
theorem dX8_taken_37 : decode cX8_taken 37 = .ok (.invokevirtual 245, 3) := by decide +kernel
theorem dX8_taken_40 : decode cX8_taken 40 = .ok (.istore_n 3, 1) := by decide +kernel
theorem dX8_taken_41 : decode cX8_taken 41 = .ok (.iload_n 2, 1) := by decide +kernel
theorem dX8_taken_42 : decode cX8_taken 42 = .ok (.ifCond .ne 7, 3) := by decide +kernel
theorem dX8_taken_45 : decode cX8_taken 45 = .ok (.iload_n 3, 1) := by decide +kernel
theorem dX8_taken_46 : decode cX8_taken 46 = .ok (.goto 11, 3) := by decide +kernel
theorem dX8_taken_49 : decode cX8_taken 49 = .ok (.aload_n 0, 1) := by decide +kernel
theorem dX8_taken_50 : decode cX8_taken 50 = .ok (.getfield 25, 3) := by decide +kernel
theorem dX8_taken_53 : decode cX8_taken 53 = .ok (.iload_n 3, 1) := by decide +kernel
theorem dX8_taken_54 : decode cX8_taken 54 = .ok (.invokevirtual 248, 3) := by decide +kernel
theorem dX8_taken_57 : decode cX8_taken 57 = .ok (.ireturn, 1) := by decide +kernel
theorem dX8_mean_0 : decode cX8_mean 0 = .ok (.aload_n 0, 1) := by decide +kernel
theorem dX8_mean_1 : decode cX8_mean 1 = .ok (.getfield 25, 3) := by decide +kernel
theorem dX8_mean_4 : decode cX8_mean 4 = .ok (.invokevirtual 197, 3) := by decide +kernel
theorem dX8_mean_7 : decode cX8_mean 7 = .ok (.ifCond .ne 6, 3) := by decide +kernel
theorem dX8_mean_10 : decode cX8_mean 10 = .ok (.ldc 160, 2) := by decide +kernel
theorem dX8_mean_12 : decode cX8_mean 12 = .ok (.ireturn, 1) := by decide +kernel
theorem dX8_mean_13 : decode cX8_mean 13 = .ok (.iload_n 1, 1) := by decide +kernel
theorem dX8_mean_14 : decode cX8_mean 14 = .ok (.iconst 1, 1) := by decide +kernel
theorem dX8_mean_15 : decode cX8_mean 15 = .ok (.if_icmp .lt 31, 3) := by decide +kernel
theorem dX8_mean_18 : decode cX8_mean 18 = .ok (.iload_n 1, 1) := by decide +kernel
theorem dX8_mean_19 : decode cX8_mean 19 = .ok (.iconst 3, 1) := by decide +kernel
theorem dX8_mean_20 : decode cX8_mean 20 = .ok (.if_icmp .gt 26, 3) := by decide +kernel
theorem dX8_mean_23 : decode cX8_mean 23 = .ok (.iload_n 1, 1) := by decide +kernel
theorem dX8_mean_24 : decode cX8_mean 24 = .ok (.bipush 12, 2) := by decide +kernel
theorem dX8_mean_26 : decode cX8_mean 26 = .ok (.aload_n 0, 1) := by decide +kernel
theorem dX8_mean_27 : decode cX8_mean 27 = .ok (.getfield 25, 3) := by decide +kernel
theorem dX8_mean_30 : decode cX8_mean 30 = .ok (.getfield 174, 3) := by decide +kernel
theorem dX8_mean_33 : decode cX8_mean 33 = .ok (.isub, 1) := by decide +kernel
theorem dX8_mean_34 : decode cX8_mean 34 = .ok (.if_icmp .gt 12, 3) := by decide +kernel
theorem dX8_mean_37 : decode cX8_mean 37 = .ok (.iload_n 2, 1) := by decide +kernel
theorem dX8_mean_38 : decode cX8_mean 38 = .ok (.ifCond .lt 8, 3) := by decide +kernel
theorem dX8_mean_41 : decode cX8_mean 41 = .ok (.iload_n 2, 1) := by decide +kernel
theorem dX8_mean_42 : decode cX8_mean 42 = .ok (.iconst 1, 1) := by decide +kernel
theorem dX8_mean_43 : decode cX8_mean 43 = .ok (.if_icmp .le 6, 3) := by decide +kernel
theorem dX8_mean_46 : decode cX8_mean 46 = .ok (.ldc 73, 2) := by decide +kernel
theorem dX8_mean_48 : decode cX8_mean 48 = .ok (.ireturn, 1) := by decide +kernel
theorem dX8_mean_49 : decode cX8_mean 49 = .ok (.aload_n 0, 1) := by decide +kernel
end
section
theorem dX8_mean_50 : decode cX8_mean 50 = .ok (.getfield 43, 3) := by decide +kernel
theorem dX8_mean_53 : decode cX8_mean 53 = .ok (.aload_n 0, 1) := by decide +kernel
theorem dX8_mean_54 : decode cX8_mean 54 = .ok (.getfield 25, 3) := by decide +kernel
theorem dX8_mean_57 : decode cX8_mean 57 = .ok (.iload_n 1, 1) := by decide +kernel
theorem dX8_mean_58 : decode cX8_mean 58 = .ok (.invokevirtual 251, 3) := by decide +kernel
theorem dX8_mean_61 : decode cX8_mean 61 = .ok (.iload_n 2, 1) := by decide +kernel
theorem dX8_mean_62 : decode cX8_mean 62 = .ok (.ifCond .ne 13, 3) := by decide +kernel
theorem dX8_mean_65 : decode cX8_mean 65 = .ok (.aload_n 0, 1) := by decide +kernel
theorem dX8_mean_66 : decode cX8_mean 66 = .ok (.getfield 43, 3) := by decide +kernel
theorem dX8_mean_69 : decode cX8_mean 69 = .ok (.getfield 255, 3) := by decide +kernel
theorem dX8_mean_72 : decode cX8_mean 72 = .ok (.goto 10, 3) := by decide +kernel
theorem dX8_mean_75 : decode cX8_mean 75 = .ok (.aload_n 0, 1) := by decide +kernel
theorem dX8_mean_76 : decode cX8_mean 76 = .ok (.getfield 43, 3) := by decide +kernel
theorem dX8_mean_79 : decode cX8_mean 79 = .ok (.getfield 258, 3) := by decide +kernel
theorem dX8_mean_82 : decode cX8_mean 82 = .ok (.ireturn, 1) := by decide +kernel
theorem dX8_order_0 : decode cX8_order 0 = .ok (.aload_n 0, 1) := by decide +kernel
theorem dX8_order_1 : decode cX8_order 1 = .ok (.getfield 25, 3) := by decide +kernel
theorem dX8_order_4 : decode cX8_order 4 = .ok (.iload_n 1, 1) := by decide +kernel
theorem dX8_order_5 : decode cX8_order 5 = .ok (.invokevirtual 183, 3) := by decide +kernel
theorem dX8_order_8 : decode cX8_order 8 = .ok (.ifCond .eq 15, 3) := by decide +kernel
theorem dX8_order_11 : decode cX8_order 11 = .ok (.iload_n 2, 1) := by decide +kernel
theorem dX8_order_12 : decode cX8_order 12 = .ok (.invokestatic 242, 3) := by decide +kernel
theorem dX8_order_15 : decode cX8_order 15 = .ok (.ifCond .eq 8, 3) := by decide +kernel
theorem dX8_order_18 : decode cX8_order 18 = .ok (.iload_n 3, 1) := by decide +kernel
theorem dX8_order_19 : decode cX8_order 19 = .ok (.iconst (-1), 1) := by decide +kernel
theorem dX8_order_20 : decode cX8_order 20 = .ok (.if_icmp .ge 6, 3) := by decide +kernel
theorem dX8_order_23 : decode cX8_order 23 = .ok (.ldc 73, 2) := by decide +kernel
theorem dX8_order_25 : decode cX8_order 25 = .ok (.ireturn, 1) := by decide +kernel
theorem dX8_order_26 : decode cX8_order 26 = .ok (.aload_n 0, 1) := by decide +kernel
theorem dX8_order_27 : decode cX8_order 27 = .ok (.getfield 25, 3) := by decide +kernel
theorem dX8_order_30 : decode cX8_order 30 = .ok (.getfield 187, 3) := by decide +kernel
theorem dX8_order_33 : decode cX8_order 33 = .ok (.iload_n 1, 1) := by decide +kernel
theorem dX8_order_34 : decode cX8_order 34 = .ok (.iaload, 1) := by decide +kernel
theorem dX8_order_35 : decode cX8_order 35 = .ok (.istore 4, 2) := by decide +kernel
theorem dX8_order_37 : decode cX8_order 37 = .ok (.iload 4, 2) := by decide +kernel
theorem dX8_order_39 : decode cX8_order 39 = .ok (.bipush 7, 2) := by decide +kernel
theorem dX8_order_41 : decode cX8_order 41 = .ok (.if_icmp .gt 9, 3) := by decide +kernel
theorem dX8_order_44 : decode cX8_order 44 = .ok (.iload_n 3, 1) := by decide +kernel
theorem dX8_order_45 : decode cX8_order 45 = .ok (.iload 4, 2) := by decide +kernel
theorem dX8_order_47 : decode cX8_order 47 = .ok (.if_icmp .lt 6, 3) := by decide +kernel
theorem dX8_order_50 : decode cX8_order 50 = .ok (.ldc 226, 2) := by decide +kernel
theorem dX8_order_52 : decode cX8_order 52 = .ok (.ireturn, 1) := by decide +kernel
theorem dX8_order_53 : decode cX8_order 53 = .ok (.aload_n 0, 1) := by decide +kernel
theorem dX8_order_54 : decode cX8_order 54 = .ok (.getfield 50, 3) := by decide +kernel
theorem dX8_order_57 : decode cX8_order 57 = .ok (.aload_n 0, 1) := by decide +kernel
theorem dX8_order_58 : decode cX8_order 58 = .ok (.getfield 25, 3) := by decide +kernel
theorem dX8_order_61 : decode cX8_order 61 = .ok (.iload_n 1, 1) := by decide +kernel
theorem dX8_order_62 : decode cX8_order 62 = .ok (.iload_n 2, 1) := by decide +kernel
theorem dX8_order_63 : decode cX8_order 63 = .ok (.invokevirtual 261, 3) := by decide +kernel
theorem dX8_order_66 : decode cX8_order 66 = .ok (.iload_n 3, 1) := by decide +kernel
theorem dX8_order_67 : decode cX8_order 67 = .ok (.ifCond .ge 13, 3) := by decide +kernel
theorem dX8_order_70 : decode cX8_order 70 = .ok (.aload_n 0, 1) := by decide +kernel
theorem dX8_order_71 : decode cX8_order 71 = .ok (.getfield 50, 3) := by decide +kernel
theorem dX8_order_74 : decode cX8_order 74 = .ok (.getfield 265, 3) := by decide +kernel
theorem dX8_order_77 : decode cX8_order 77 = .ok (.goto 12, 3) := by decide +kernel
theorem dX8_order_80 : decode cX8_order 80 = .ok (.aload_n 0, 1) := by decide +kernel
theorem dX8_order_81 : decode cX8_order 81 = .ok (.getfield 50, 3) := by decide +kernel
theorem dX8_order_84 : decode cX8_order 84 = .ok (.getfield 268, 3) := by decide +kernel
theorem dX8_order_87 : decode cX8_order 87 = .ok (.iload_n 3, 1) := by decide +kernel
theorem dX8_order_88 : decode cX8_order 88 = .ok (.iaload, 1) := by decide +kernel
theorem dX8_order_89 : decode cX8_order 89 = .ok (.ireturn, 1) := by decide +kernel
theorem dX8_cover_0 : decode cX8_cover 0 = .ok (.aload_n 0, 1) := by decide +kernel
theorem dX8_cover_1 : decode cX8_cover 1 = .ok (.getfield 25, 3) := by decide +kernel
theorem dX8_cover_4 : decode cX8_cover 4 = .ok (.iload_n 1, 1) := by decide +kernel
theorem dX8_cover_5 : decode cX8_cover 5 = .ok (.invokevirtual 183, 3) := by decide +kernel
theorem dX8_cover_8 : decode cX8_cover 8 = .ok (.ifCond .eq 10, 3) := by decide +kernel
theorem dX8_cover_11 : decode cX8_cover 11 = .ok (.iload_n 2, 1) := by decide +kernel
theorem dX8_cover_12 : decode cX8_cover 12 = .ok (.invokestatic 242, 3) := by decide +kernel
theorem dX8_cover_15 : decode cX8_cover 15 = .ok (.ifCond .ne 6, 3) := by decide +kernel
theorem dX8_cover_18 : decode cX8_cover 18 = .ok (.ldc 73, 2) := by decide +kernel
theorem dX8_cover_20 : decode cX8_cover 20 = .ok (.ireturn, 1) := by decide +kernel
theorem dX8_cover_21 : decode cX8_cover 21 = .ok (.aload_n 0, 1) := by decide +kernel
theorem dX8_cover_22 : decode cX8_cover 22 = .ok (.getfield 25, 3) := by decide +kernel
theorem dX8_cover_25 : decode cX8_cover 25 = .ok (.getfield 236, 3) := by decide +kernel
theorem dX8_cover_28 : decode cX8_cover 28 = .ok (.iload_n 1, 1) := by decide +kernel
theorem dX8_cover_29 : decode cX8_cover 29 = .ok (.iaload, 1) := by decide +kernel
theorem dX8_cover_30 : decode cX8_cover 30 = .ok (.aload_n 0, 1) := by decide +kernel
theorem dX8_cover_31 : decode cX8_cover 31 = .ok (.getfield 25, 3) := by decide +kernel
theorem dX8_cover_34 : decode cX8_cover 34 = .ok (.getfield 187, 3) := by decide +kernel
theorem dX8_cover_37 : decode cX8_cover 37 = .ok (.iload_n 1, 1) := by decide +kernel
theorem dX8_cover_38 : decode cX8_cover 38 = .ok (.iaload, 1) := by decide +kernel
theorem dX8_cover_39 : decode cX8_cover 39 = .ok (.isub, 1) := by decide +kernel
theorem dX8_cover_40 : decode cX8_cover 40 = .ok (.istore_n 3, 1) := by decide +kernel
theorem dX8_cover_41 : decode cX8_cover 41 = .ok (.iconst 0, 1) := by decide +kernel
theorem dX8_cover_42 : decode cX8_cover 42 = .ok (.istore 4, 2) := by decide +kernel
theorem dX8_cover_44 : decode cX8_cover 44 = .ok (.iload 4, 2) := by decide +kernel
theorem dX8_cover_46 : decode cX8_cover 46 = .ok (.iload_n 3, 1) := by decide +kernel
theorem dX8_cover_47 : decode cX8_cover 47 = .ok (.if_icmp .gt 31, 3) := by decide +kernel
theorem dX8_cover_50 : decode cX8_cover 50 = .ok (.aload_n 0, 1) := by decide +kernel
theorem dX8_cover_51 : decode cX8_cover 51 = .ok (.getfield 25, 3) := by decide +kernel
theorem dX8_cover_54 : decode cX8_cover 54 = .ok (.iload_n 1, 1) := by decide +kernel
theorem dX8_cover_55 : decode cX8_cover 55 = .ok (.iconst 0, 1) := by decide +kernel
theorem dX8_cover_56 : decode cX8_cover 56 = .ok (.iload_n 2, 1) := by decide +kernel
theorem dX8_cover_57 : decode cX8_cover 57 = .ok (.iload 4, 2) := by decide +kernel
theorem dX8_cover_59 : decode cX8_cover 59 = .ok (.isub, 1) := by decide +kernel
theorem dX8_cover_60 : decode cX8_cover 60 = .ok (.invokestatic 271, 3) := by decide +kernel
theorem dX8_cover_63 : decode cX8_cover 63 = .ok (.invokevirtual 276, 3) := by decide +kernel
theorem dX8_cover_66 : decode cX8_cover 66 = .ok (.ifCond .ne 6, 3) := by decide +kernel
theorem dX8_cover_69 : decode cX8_cover 69 = .ok (.iload 4, 2) := by decide +kernel
theorem dX8_cover_71 : decode cX8_cover 71 = .ok (.ireturn, 1) := by decide +kernel
theorem dX8_cover_72 : decode cX8_cover 72 = .ok (.iinc 4 1, 3) := by decide +kernel
theorem dX8_cover_75 : decode cX8_cover 75 = .ok (.goto (-31), 3) := by decide +kernel
theorem dX8_cover_78 : decode cX8_cover 78 = .ok (.ldc 226, 2) := by decide +kernel
theorem dX8_cover_80 : decode cX8_cover 80 = .ok (.ireturn, 1) := by decide +kernel
theorem dX8_lend_0 : decode cX8_lend 0 = .ok (.aload_n 0, 1) := by decide +kernel
theorem dX8_lend_1 : decode cX8_lend 1 = .ok (.getfield 25, 3) := by decide +kernel
theorem dX8_lend_4 : decode cX8_lend 4 = .ok (.iload_n 1, 1) := by decide +kernel
theorem dX8_lend_5 : decode cX8_lend 5 = .ok (.invokevirtual 183, 3) := by decide +kernel
theorem dX8_lend_8 : decode cX8_lend 8 = .ok (.ifCond .eq 19, 3) := by decide +kernel
theorem dX8_lend_11 : decode cX8_lend 11 = .ok (.aload_n 0, 1) := by decide +kernel
theorem dX8_lend_12 : decode cX8_lend 12 = .ok (.getfield 25, 3) := by decide +kernel
theorem dX8_lend_15 : decode cX8_lend 15 = .ok (.iload_n 2, 1) := by decide +kernel
theorem dX8_lend_16 : decode cX8_lend 16 = .ok (.invokevirtual 183, 3) := by decide +kernel
theorem dX8_lend_19 : decode cX8_lend 19 = .ok (.ifCond .eq 8, 3) := by decide +kernel
theorem dX8_lend_22 : decode cX8_lend 22 = .ok (.iload_n 1, 1) := by decide +kernel
theorem dX8_lend_23 : decode cX8_lend 23 = .ok (.iload_n 2, 1) := by decide +kernel
theorem dX8_lend_24 : decode cX8_lend 24 = .ok (.if_icmp .ne 6, 3) := by decide +kernel
theorem dX8_lend_27 : decode cX8_lend 27 = .ok (.ldc 73, 2) := by decide +kernel
theorem dX8_lend_29 : decode cX8_lend 29 = .ok (.ireturn, 1) := by decide +kernel
theorem dX8_lend_30 : decode cX8_lend 30 = .ok (.aload_n 0, 1) := by decide +kernel
theorem dX8_lend_31 : decode cX8_lend 31 = .ok (.getfield 25, 3) := by decide +kernel
theorem dX8_lend_34 : decode cX8_lend 34 = .ok (.getfield 187, 3) := by decide +kernel
theorem dX8_lend_37 : decode cX8_lend 37 = .ok (.iload_n 1, 1) := by decide +kernel
theorem dX8_lend_38 : decode cX8_lend 38 = .ok (.iaload, 1) := by decide +kernel
theorem dX8_lend_39 : decode cX8_lend 39 = .ok (.ifCond .eq 15, 3) := by decide +kernel
theorem dX8_lend_42 : decode cX8_lend 42 = .ok (.aload_n 0, 1) := by decide +kernel
theorem dX8_lend_43 : decode cX8_lend 43 = .ok (.getfield 25, 3) := by decide +kernel
theorem dX8_lend_46 : decode cX8_lend 46 = .ok (.getfield 187, 3) := by decide +kernel
theorem dX8_lend_49 : decode cX8_lend 49 = .ok (.iload_n 2, 1) := by decide +kernel
theorem dX8_lend_50 : decode cX8_lend 50 = .ok (.iaload, 1) := by decide +kernel
theorem dX8_lend_51 : decode cX8_lend 51 = .ok (.ifCond .ne 6, 3) := by decide +kernel
theorem dX8_lend_54 : decode cX8_lend 54 = .ok (.ldc 226, 2) := by decide +kernel
theorem dX8_lend_56 : decode cX8_lend 56 = .ok (.ireturn, 1) := by decide +kernel
theorem dX8_lend_57 : decode cX8_lend 57 = .ok (.aload_n 0, 1) := by decide +kernel
theorem dX8_lend_58 : decode cX8_lend 58 = .ok (.getfield 25, 3) := by decide +kernel
theorem dX8_lend_61 : decode cX8_lend 61 = .ok (.iload_n 1, 1) := by decide +kernel
theorem dX8_lend_62 : decode cX8_lend 62 = .ok (.iconst 1, 1) := by decide +kernel
theorem dX8_lend_63 : decode cX8_lend 63 = .ok (.invokevirtual 276, 3) := by decide +kernel
theorem dX8_lend_66 : decode cX8_lend 66 = .ok (.aload_n 0, 1) := by decide +kernel
theorem dX8_lend_67 : decode cX8_lend 67 = .ok (.getfield 25, 3) := by decide +kernel
theorem dX8_lend_70 : decode cX8_lend 70 = .ok (.iload_n 2, 1) := by decide +kernel
theorem dX8_lend_71 : decode cX8_lend 71 = .ok (.iconst 1, 1) := by decide +kernel
theorem dX8_lend_72 : decode cX8_lend 72 = .ok (.invokevirtual 276, 3) := by decide +kernel
theorem dX8_lend_75 : decode cX8_lend 75 = .ok (.iadd, 1) := by decide +kernel
theorem dX8_lend_76 : decode cX8_lend 76 = .ok (.istore_n 3, 1) := by decide +kernel
theorem dX8_lend_77 : decode cX8_lend 77 = .ok (.aload_n 0, 1) := by decide +kernel
theorem dX8_lend_78 : decode cX8_lend 78 = .ok (.getfield 25, 3) := by decide +kernel
theorem dX8_lend_81 : decode cX8_lend 81 = .ok (.aload_n 0, 1) := by decide +kernel
theorem dX8_lend_82 : decode cX8_lend 82 = .ok (.getfield 25, 3) := by decide +kernel
theorem dX8_lend_85 : decode cX8_lend 85 = .ok (.iload_n 2, 1) := by decide +kernel
theorem dX8_lend_86 : decode cX8_lend 86 = .ok (.invokevirtual 279, 3) := by decide +kernel
theorem dX8_lend_89 : decode cX8_lend 89 = .ok (.iload_n 1, 1) := by decide +kernel
theorem dX8_lend_90 : decode cX8_lend 90 = .ok (.invokevirtual 282, 3) := by decide +kernel
theorem dX8_lend_93 : decode cX8_lend 93 = .ok (.aload_n 0, 1) := by decide +kernel
theorem dX8_lend_94 : decode cX8_lend 94 = .ok (.getfield 25, 3) := by decide +kernel
theorem dX8_lend_97 : decode cX8_lend 97 = .ok (.aload_n 0, 1) := by decide +kernel
theorem dX8_lend_98 : decode cX8_lend 98 = .ok (.getfield 25, 3) := by decide +kernel
theorem dX8_lend_101 : decode cX8_lend 101 = .ok (.iload_n 1, 1) := by decide +kernel
theorem dX8_lend_102 : decode cX8_lend 102 = .ok (.invokevirtual 279, 3) := by decide +kernel
theorem dX8_lend_105 : decode cX8_lend 105 = .ok (.iload_n 2, 1) := by decide +kernel
theorem dX8_lend_106 : decode cX8_lend 106 = .ok (.invokevirtual 282, 3) := by decide +kernel
theorem dX8_lend_109 : decode cX8_lend 109 = .ok (.iadd, 1) := by decide +kernel
theorem dX8_lend_110 : decode cX8_lend 110 = .ok (.istore 4, 2) := by decide +kernel
theorem dX8_lend_112 : decode cX8_lend 112 = .ok (.iload_n 3, 1) := by decide +kernel
theorem dX8_lend_113 : decode cX8_lend 113 = .ok (.iload 4, 2) := by decide +kernel
theorem dX8_lend_115 : decode cX8_lend 115 = .ok (.isub, 1) := by decide +kernel
theorem dX8_lend_116 : decode cX8_lend 116 = .ok (.ireturn, 1) := by decide +kernel
theorem dX8_beach_0 : decode cX8_beach 0 = .ok (.aload_n 0, 1) := by decide +kernel
theorem dX8_beach_1 : decode cX8_beach 1 = .ok (.getfield 25, 3) := by decide +kernel
theorem dX8_beach_4 : decode cX8_beach 4 = .ok (.invokevirtual 197, 3) := by decide +kernel
theorem dX8_beach_7 : decode cX8_beach 7 = .ok (.ifCond .ne 6, 3) := by decide +kernel
theorem dX8_beach_10 : decode cX8_beach 10 = .ok (.ldc 160, 2) := by decide +kernel
theorem dX8_beach_12 : decode cX8_beach 12 = .ok (.ireturn, 1) := by decide +kernel
theorem dX8_beach_13 : decode cX8_beach 13 = .ok (.iload_n 1, 1) := by decide +kernel
theorem dX8_beach_14 : decode cX8_beach 14 = .ok (.invokestatic 69, 3) := by decide +kernel
theorem dX8_beach_17 : decode cX8_beach 17 = .ok (.ifCond .eq 21, 3) := by decide +kernel
theorem dX8_beach_20 : decode cX8_beach 20 = .ok (.iload_n 3, 1) := by decide +kernel
theorem dX8_beach_21 : decode cX8_beach 21 = .ok (.ifCond .lt 17, 3) := by decide +kernel
theorem dX8_beach_24 : decode cX8_beach 24 = .ok (.iload_n 3, 1) := by decide +kernel
theorem dX8_beach_25 : decode cX8_beach 25 = .ok (.bipush 16, 2) := by decide +kernel
theorem dX8_beach_27 : decode cX8_beach 27 = .ok (.if_icmp .gt 11, 3) := by decide +kernel
theorem dX8_beach_30 : decode cX8_beach 30 = .ok (.iload 4, 2) := by decide +kernel
theorem dX8_beach_32 : decode cX8_beach 32 = .ok (.invokestatic 242, 3) := by decide +kernel
theorem dX8_beach_35 : decode cX8_beach 35 = .ok (.ifCond .ne 6, 3) := by decide +kernel
theorem dX8_beach_38 : decode cX8_beach 38 = .ok (.ldc 73, 2) := by decide +kernel
theorem dX8_beach_40 : decode cX8_beach 40 = .ok (.ireturn, 1) := by decide +kernel
theorem dX8_beach_41 : decode cX8_beach 41 = .ok (.aload_n 0, 1) := by decide +kernel
theorem dX8_beach_42 : decode cX8_beach 42 = .ok (.getfield 11, 3) := by decide +kernel
theorem dX8_beach_45 : decode cX8_beach 45 = .ok (.iload_n 1, 1) := by decide +kernel
theorem dX8_beach_46 : decode cX8_beach 46 = .ok (.aaload, 1) := by decide +kernel
theorem dX8_beach_47 : decode cX8_beach 47 = .ok (.astore 5, 2) := by decide +kernel
theorem dX8_beach_49 : decode cX8_beach 49 = .ok (.aload 5, 2) := by decide +kernel
theorem dX8_beach_51 : decode cX8_beach 51 = .ok (.invokevirtual 85, 3) := by decide +kernel
theorem dX8_beach_54 : decode cX8_beach 54 = .ok (.ifCond .eq 9, 3) := by decide +kernel
theorem dX8_beach_57 : decode cX8_beach 57 = .ok (.aload_n 0, 1) := by decide +kernel
theorem dX8_beach_58 : decode cX8_beach 58 = .ok (.iconst 1, 1) := by decide +kernel
theorem dX8_beach_59 : decode cX8_beach 59 = .ok (.invokevirtual 74, 3) := by decide +kernel
theorem dX8_beach_62 : decode cX8_beach 62 = .ok (.ireturn, 1) := by decide +kernel
theorem dX8_beach_63 : decode cX8_beach 63 = .ok (.aload 5, 2) := by decide +kernel
theorem dX8_beach_65 : decode cX8_beach 65 = .ok (.iload_n 2, 1) := by decide +kernel
theorem dX8_beach_66 : decode cX8_beach 66 = .ok (.iload_n 3, 1) := by decide +kernel
theorem dX8_beach_67 : decode cX8_beach 67 = .ok (.invokevirtual 89, 3) := by decide +kernel
theorem dX8_beach_70 : decode cX8_beach 70 = .ok (.ifCond .ne 9, 3) := by decide +kernel
theorem dX8_beach_73 : decode cX8_beach 73 = .ok (.aload_n 0, 1) := by decide +kernel
theorem dX8_beach_74 : decode cX8_beach 74 = .ok (.iconst 2, 1) := by decide +kernel
theorem dX8_beach_75 : decode cX8_beach 75 = .ok (.invokevirtual 74, 3) := by decide +kernel
theorem dX8_beach_78 : decode cX8_beach 78 = .ok (.ireturn, 1) := by decide +kernel
theorem dX8_beach_79 : decode cX8_beach 79 = .ok (.iload_n 2, 1) := by decide +kernel
theorem dX8_beach_80 : decode cX8_beach 80 = .ok (.istore 6, 2) := by decide +kernel
theorem dX8_beach_82 : decode cX8_beach 82 = .ok (.iload 6, 2) := by decide +kernel
theorem dX8_beach_84 : decode cX8_beach 84 = .ok (.iload_n 2, 1) := by decide +kernel
theorem dX8_beach_85 : decode cX8_beach 85 = .ok (.iload_n 3, 1) := by decide +kernel
theorem dX8_beach_86 : decode cX8_beach 86 = .ok (.iadd, 1) := by decide +kernel
theorem dX8_beach_87 : decode cX8_beach 87 = .ok (.if_icmp .ge 30, 3) := by decide +kernel
theorem dX8_beach_90 : decode cX8_beach 90 = .ok (.aload_n 0, 1) := by decide +kernel
theorem dX8_beach_91 : decode cX8_beach 91 = .ok (.getfield 25, 3) := by decide +kernel
theorem dX8_beach_94 : decode cX8_beach 94 = .ok (.aload 5, 2) := by decide +kernel
theorem dX8_beach_96 : decode cX8_beach 96 = .ok (.getfield 100, 3) := by decide +kernel
theorem dX8_beach_99 : decode cX8_beach 99 = .ok (.iload 6, 2) := by decide +kernel
theorem dX8_beach_101 : decode cX8_beach 101 = .ok (.iaload, 1) := by decide +kernel
theorem dX8_beach_102 : decode cX8_beach 102 = .ok (.invokevirtual 154, 3) := by decide +kernel
theorem dX8_beach_105 : decode cX8_beach 105 = .ok (.ifCond .ne 6, 3) := by decide +kernel
theorem dX8_beach_108 : decode cX8_beach 108 = .ok (.ldc 73, 2) := by decide +kernel
theorem dX8_beach_110 : decode cX8_beach 110 = .ok (.ireturn, 1) := by decide +kernel
theorem dX8_beach_111 : decode cX8_beach 111 = .ok (.iinc 6 1, 3) := by decide +kernel
theorem dX8_beach_114 : decode cX8_beach 114 = .ok (.goto (-32), 3) := by decide +kernel
theorem dX8_beach_117 : decode cX8_beach 117 = .ok (.aload_n 0, 1) := by decide +kernel
theorem dX8_beach_118 : decode cX8_beach 118 = .ok (.aload_n 0, 1) := by decide +kernel
theorem dX8_beach_119 : decode cX8_beach 119 = .ok (.aload 5, 2) := by decide +kernel
theorem dX8_beach_121 : decode cX8_beach 121 = .ok (.iload_n 2, 1) := by decide +kernel
theorem dX8_beach_122 : decode cX8_beach 122 = .ok (.iload_n 3, 1) := by decide +kernel
theorem dX8_beach_123 : decode cX8_beach 123 = .ok (.iload 4, 2) := by decide +kernel
theorem dX8_beach_125 : decode cX8_beach 125 = .ok (.invokevirtual 285, 3) := by decide +kernel
theorem dX8_beach_128 : decode cX8_beach 128 = .ok (.ifCond .eq 7, 3) := by decide +kernel
theorem dX8_beach_131 : decode cX8_beach 131 = .ok (.iconst 1, 1) := by decide +kernel
theorem dX8_beach_132 : decode cX8_beach 132 = .ok (.goto 4, 3) := by decide +kernel
theorem dX8_beach_135 : decode cX8_beach 135 = .ok (.iconst 0, 1) := by decide +kernel
theorem dX8_beach_136 : decode cX8_beach 136 = .ok (.invokevirtual 82, 3) := by decide +kernel
theorem dX8_beach_139 : decode cX8_beach 139 = .ok (.ireturn, 1) := by decide +kernel
theorem dX8_window_0 : decode cX8_window 0 = .ok (.aload_n 0, 1) := by decide +kernel
theorem dX8_window_1 : decode cX8_window 1 = .ok (.getfield 25, 3) := by decide +kernel
theorem dX8_window_4 : decode cX8_window 4 = .ok (.invokevirtual 197, 3) := by decide +kernel
theorem dX8_window_7 : decode cX8_window 7 = .ok (.ifCond .ne 6, 3) := by decide +kernel
theorem dX8_window_10 : decode cX8_window 10 = .ok (.ldc 160, 2) := by decide +kernel
theorem dX8_window_12 : decode cX8_window 12 = .ok (.ireturn, 1) := by decide +kernel
theorem dX8_window_13 : decode cX8_window 13 = .ok (.iconst 0, 1) := by decide +kernel
theorem dX8_window_14 : decode cX8_window 14 = .ok (.istore_n 1, 1) := by decide +kernel
theorem dX8_window_15 : decode cX8_window 15 = .ok (.iconst 0, 1) := by decide +kernel
theorem dX8_window_16 : decode cX8_window 16 = .ok (.istore_n 2, 1) := by decide +kernel
theorem dX8_window_17 : decode cX8_window 17 = .ok (.iload_n 2, 1) := by decide +kernel
theorem dX8_window_18 : decode cX8_window 18 = .ok (.aload_n 0, 1) := by decide +kernel
theorem dX8_window_19 : decode cX8_window 19 = .ok (.getfield 25, 3) := by decide +kernel
theorem dX8_window_22 : decode cX8_window 22 = .ok (.getfield 151, 3) := by decide +kernel
theorem dX8_window_25 : decode cX8_window 25 = .ok (.if_icmp .ge 30, 3) := by decide +kernel
theorem dX8_window_28 : decode cX8_window 28 = .ok (.iload_n 1, 1) := by decide +kernel
theorem dX8_window_29 : decode cX8_window 29 = .ok (.aload_n 0, 1) := by decide +kernel
theorem dX8_window_30 : decode cX8_window 30 = .ok (.getfield 25, 3) := by decide +kernel
theorem dX8_window_33 : decode cX8_window 33 = .ok (.iload_n 2, 1) := by decide +kernel
theorem dX8_window_34 : decode cX8_window 34 = .ok (.iconst 1, 1) := by decide +kernel
theorem dX8_window_35 : decode cX8_window 35 = .ok (.invokevirtual 276, 3) := by decide +kernel
theorem dX8_window_38 : decode cX8_window 38 = .ok (.aload_n 0, 1) := by decide +kernel
theorem dX8_window_39 : decode cX8_window 39 = .ok (.getfield 25, 3) := by decide +kernel
theorem dX8_window_42 : decode cX8_window 42 = .ok (.iload_n 2, 1) := by decide +kernel
theorem dX8_window_43 : decode cX8_window 43 = .ok (.invokevirtual 289, 3) := by decide +kernel
theorem dX8_window_46 : decode cX8_window 46 = .ok (.iadd, 1) := by decide +kernel
theorem dX8_window_47 : decode cX8_window 47 = .ok (.iadd, 1) := by decide +kernel
theorem dX8_window_48 : decode cX8_window 48 = .ok (.istore_n 1, 1) := by decide +kernel
theorem dX8_window_49 : decode cX8_window 49 = .ok (.iinc 2 1, 3) := by decide +kernel
theorem dX8_window_52 : decode cX8_window 52 = .ok (.goto (-35), 3) := by decide +kernel
theorem dX8_window_55 : decode cX8_window 55 = .ok (.iload_n 1, 1) := by decide +kernel
theorem dX8_window_56 : decode cX8_window 56 = .ok (.ireturn, 1) := by decide +kernel
theorem dX8_missed_0 : decode cX8_missed 0 = .ok (.aload_n 0, 1) := by decide +kernel
theorem dX8_missed_1 : decode cX8_missed 1 = .ok (.getfield 25, 3) := by decide +kernel
theorem dX8_missed_4 : decode cX8_missed 4 = .ok (.invokevirtual 197, 3) := by decide +kernel
theorem dX8_missed_7 : decode cX8_missed 7 = .ok (.ifCond .ne 6, 3) := by decide +kernel
theorem dX8_missed_10 : decode cX8_missed 10 = .ok (.ldc 160, 2) := by decide +kernel
theorem dX8_missed_12 : decode cX8_missed 12 = .ok (.ireturn, 1) := by decide +kernel
theorem dX8_missed_13 : decode cX8_missed 13 = .ok (.iload_n 1, 1) := by decide +kernel
theorem dX8_missed_14 : decode cX8_missed 14 = .ok (.lookupswitch 49 #[(0, 26), (1, 34)], 26) := by decide +kernel
theorem dX8_missed_40 : decode cX8_missed 40 = .ok (.aload_n 0, 1) := by decide +kernel
theorem dX8_missed_41 : decode cX8_missed 41 = .ok (.getfield 25, 3) := by decide +kernel
theorem dX8_missed_44 : decode cX8_missed 44 = .ok (.invokevirtual 292, 3) := by decide +kernel
theorem dX8_missed_47 : decode cX8_missed 47 = .ok (.ireturn, 1) := by decide +kernel
theorem dX8_missed_48 : decode cX8_missed 48 = .ok (.aload_n 0, 1) := by decide +kernel
theorem dX8_missed_49 : decode cX8_missed 49 = .ok (.getfield 25, 3) := by decide +kernel
theorem dX8_missed_52 : decode cX8_missed 52 = .ok (.aload_n 0, 1) := by decide +kernel
theorem dX8_missed_53 : decode cX8_missed 53 = .ok (.getfield 25, 3) := by decide +kernel
theorem dX8_missed_56 : decode cX8_missed 56 = .ok (.invokevirtual 295, 3) := by decide +kernel
theorem dX8_missed_59 : decode cX8_missed 59 = .ok (.invokevirtual 248, 3) := by decide +kernel
theorem dX8_missed_62 : decode cX8_missed 62 = .ok (.ireturn, 1) := by decide +kernel
theorem dX8_missed_63 : decode cX8_missed 63 = .ok (.ldc 73, 2) := by decide +kernel
theorem dX8_missed_65 : decode cX8_missed 65 = .ok (.ireturn, 1) := by decide +kernel
theorem dX8_image_0 : decode cX8_image 0 = .ok (.iload_n 1, 1) := by decide +kernel
theorem dX8_image_1 : decode cX8_image 1 = .ok (.invokestatic 298, 3) := by decide +kernel
theorem dX8_image_4 : decode cX8_image 4 = .ok (.ifCond .ne 6, 3) := by decide +kernel
theorem dX8_image_7 : decode cX8_image 7 = .ok (.ldc 73, 2) := by decide +kernel
theorem dX8_image_9 : decode cX8_image 9 = .ok (.ireturn, 1) := by decide +kernel
theorem dX8_image_10 : decode cX8_image 10 = .ok (.aload_n 0, 1) := by decide +kernel
theorem dX8_image_11 : decode cX8_image 11 = .ok (.getfield 25, 3) := by decide +kernel
theorem dX8_image_14 : decode cX8_image 14 = .ok (.invokevirtual 197, 3) := by decide +kernel
theorem dX8_image_17 : decode cX8_image 17 = .ok (.ifCond .ne 6, 3) := by decide +kernel
theorem dX8_image_20 : decode cX8_image 20 = .ok (.ldc 160, 2) := by decide +kernel
theorem dX8_image_22 : decode cX8_image 22 = .ok (.ireturn, 1) := by decide +kernel
theorem dX8_image_23 : decode cX8_image 23 = .ok (.aload_n 0, 1) := by decide +kernel
theorem dX8_image_24 : decode cX8_image 24 = .ok (.getfield 36, 3) := by decide +kernel
theorem dX8_image_27 : decode cX8_image 27 = .ok (.iload_n 1, 1) := by decide +kernel
theorem dX8_image_28 : decode cX8_image 28 = .ok (.aaload, 1) := by decide +kernel
theorem dX8_image_29 : decode cX8_image 29 = .ok (.aload_n 0, 1) := by decide +kernel
theorem dX8_image_30 : decode cX8_image 30 = .ok (.getfield 25, 3) := by decide +kernel
theorem dX8_image_33 : decode cX8_image 33 = .ok (.invokevirtual 144, 3) := by decide +kernel
theorem dX8_image_36 : decode cX8_image 36 = .ok (.iconst 1, 1) := by decide +kernel
theorem dX8_image_37 : decode cX8_image 37 = .ok (.ireturn, 1) := by decide +kernel
theorem dX8_restore_0 : decode cX8_restore 0 = .ok (.iload_n 1, 1) := by decide +kernel
theorem dX8_restore_1 : decode cX8_restore 1 = .ok (.invokestatic 298, 3) := by decide +kernel
theorem dX8_restore_4 : decode cX8_restore 4 = .ok (.ifCond .ne 6, 3) := by decide +kernel
theorem dX8_restore_7 : decode cX8_restore 7 = .ok (.ldc 73, 2) := by decide +kernel
theorem dX8_restore_9 : decode cX8_restore 9 = .ok (.ireturn, 1) := by decide +kernel
theorem dX8_restore_10 : decode cX8_restore 10 = .ok (.aload_n 0, 1) := by decide +kernel
theorem dX8_restore_11 : decode cX8_restore 11 = .ok (.getfield 36, 3) := by decide +kernel
theorem dX8_restore_14 : decode cX8_restore 14 = .ok (.iload_n 1, 1) := by decide +kernel
theorem dX8_restore_15 : decode cX8_restore 15 = .ok (.aaload, 1) := by decide +kernel
theorem dX8_restore_16 : decode cX8_restore 16 = .ok (.invokevirtual 197, 3) := by decide +kernel
theorem dX8_restore_19 : decode cX8_restore 19 = .ok (.ifCond .ne 6, 3) := by decide +kernel
theorem dX8_restore_22 : decode cX8_restore 22 = .ok (.ldc 160, 2) := by decide +kernel
theorem dX8_restore_24 : decode cX8_restore 24 = .ok (.ireturn, 1) := by decide +kernel
theorem dX8_restore_25 : decode cX8_restore 25 = .ok (.aload_n 0, 1) := by decide +kernel
theorem dX8_restore_26 : decode cX8_restore 26 = .ok (.getfield 25, 3) := by decide +kernel
theorem dX8_restore_29 : decode cX8_restore 29 = .ok (.aload_n 0, 1) := by decide +kernel
theorem dX8_restore_30 : decode cX8_restore 30 = .ok (.getfield 36, 3) := by decide +kernel
theorem dX8_restore_33 : decode cX8_restore 33 = .ok (.iload_n 1, 1) := by decide +kernel
theorem dX8_restore_34 : decode cX8_restore 34 = .ok (.aaload, 1) := by decide +kernel
theorem dX8_restore_35 : decode cX8_restore 35 = .ok (.invokevirtual 144, 3) := by decide +kernel
theorem dX8_restore_38 : decode cX8_restore 38 = .ok (.aload_n 0, 1) := by decide +kernel
theorem dX8_restore_39 : decode cX8_restore 39 = .ok (.getfield 32, 3) := by decide +kernel
theorem dX8_restore_42 : decode cX8_restore 42 = .ok (.invokevirtual 148, 3) := by decide +kernel
theorem dX8_restore_45 : decode cX8_restore 45 = .ok (.iconst 1, 1) := by decide +kernel
theorem dX8_restore_46 : decode cX8_restore 46 = .ok (.ireturn, 1) := by decide +kernel
theorem dX8_kind_0 : decode cX8_kind 0 = .ok (.aload_n 0, 1) := by decide +kernel
theorem dX8_kind_1 : decode cX8_kind 1 = .ok (.getfield 25, 3) := by decide +kernel
theorem dX8_kind_4 : decode cX8_kind 4 = .ok (.iload_n 1, 1) := by decide +kernel
theorem dX8_kind_5 : decode cX8_kind 5 = .ok (.invokevirtual 154, 3) := by decide +kernel
theorem dX8_kind_8 : decode cX8_kind 8 = .ok (.ifCond .eq 15, 3) := by decide +kernel
theorem dX8_kind_11 : decode cX8_kind 11 = .ok (.aload_n 0, 1) := by decide +kernel
theorem dX8_kind_12 : decode cX8_kind 12 = .ok (.getfield 25, 3) := by decide +kernel
theorem dX8_kind_15 : decode cX8_kind 15 = .ok (.getfield 301, 3) := by decide +kernel
theorem dX8_kind_18 : decode cX8_kind 18 = .ok (.iload_n 1, 1) := by decide +kernel
theorem dX8_kind_19 : decode cX8_kind 19 = .ok (.iaload, 1) := by decide +kernel
theorem dX8_kind_20 : decode cX8_kind 20 = .ok (.goto 5, 3) := by decide +kernel
theorem dX8_kind_23 : decode cX8_kind 23 = .ok (.ldc 73, 2) := by decide +kernel
theorem dX8_kind_25 : decode cX8_kind 25 = .ok (.ireturn, 1) := by decide +kernel
theorem dX8_as_0 : decode cX8_as 0 = .ok (.aload_n 0, 1) := by decide +kernel
theorem dX8_as_1 : decode cX8_as 1 = .ok (.getfield 25, 3) := by decide +kernel
theorem dX8_as_4 : decode cX8_as 4 = .ok (.iload_n 1, 1) := by decide +kernel
theorem dX8_as_5 : decode cX8_as 5 = .ok (.invokevirtual 154, 3) := by decide +kernel
theorem dX8_as_8 : decode cX8_as 8 = .ok (.ifCond .eq 10, 3) := by decide +kernel
theorem dX8_as_11 : decode cX8_as 11 = .ok (.iload_n 2, 1) := by decide +kernel
theorem dX8_as_12 : decode cX8_as 12 = .ok (.invokestatic 304, 3) := by decide +kernel
theorem dX8_as_15 : decode cX8_as 15 = .ok (.ifCond .ne 6, 3) := by decide +kernel
theorem dX8_as_18 : decode cX8_as 18 = .ok (.ldc 73, 2) := by decide +kernel
theorem dX8_as_20 : decode cX8_as 20 = .ok (.ireturn, 1) := by decide +kernel
theorem dX8_as_21 : decode cX8_as 21 = .ok (.aload_n 0, 1) := by decide +kernel
theorem dX8_as_22 : decode cX8_as 22 = .ok (.getfield 25, 3) := by decide +kernel
theorem dX8_as_25 : decode cX8_as 25 = .ok (.getfield 301, 3) := by decide +kernel
theorem dX8_as_28 : decode cX8_as 28 = .ok (.iload_n 1, 1) := by decide +kernel
theorem dX8_as_29 : decode cX8_as 29 = .ok (.iaload, 1) := by decide +kernel
theorem dX8_as_30 : decode cX8_as 30 = .ok (.iload_n 2, 1) := by decide +kernel
theorem dX8_as_31 : decode cX8_as 31 = .ok (.invokestatic 307, 3) := by decide +kernel
theorem dX8_as_34 : decode cX8_as 34 = .ok (.ifCond .ne 9, 3) := by decide +kernel
theorem dX8_as_37 : decode cX8_as 37 = .ok (.aload_n 0, 1) := by decide +kernel
theorem dX8_as_38 : decode cX8_as 38 = .ok (.iconst 3, 1) := by decide +kernel
theorem dX8_as_39 : decode cX8_as 39 = .ok (.invokevirtual 74, 3) := by decide +kernel
theorem dX8_as_42 : decode cX8_as 42 = .ok (.ireturn, 1) := by decide +kernel
theorem dX8_as_43 : decode cX8_as 43 = .ok (.aload_n 0, 1) := by decide +kernel
theorem dX8_as_44 : decode cX8_as 44 = .ok (.iload_n 1, 1) := by decide +kernel
theorem dX8_as_45 : decode cX8_as 45 = .ok (.invokevirtual 82, 3) := by decide +kernel
theorem dX8_as_48 : decode cX8_as 48 = .ok (.ireturn, 1) := by decide +kernel
theorem dX8_ask_0 : decode cX8_ask 0 = .ok (.aload_n 0, 1) := by decide +kernel
theorem dX8_ask_1 : decode cX8_ask 1 = .ok (.getfield 25, 3) := by decide +kernel
theorem dX8_ask_4 : decode cX8_ask 4 = .ok (.iload_n 1, 1) := by decide +kernel
theorem dX8_ask_5 : decode cX8_ask 5 = .ok (.invokevirtual 154, 3) := by decide +kernel
theorem dX8_ask_8 : decode cX8_ask 8 = .ok (.ifCond .eq 12, 3) := by decide +kernel
theorem dX8_ask_11 : decode cX8_ask 11 = .ok (.iload_n 2, 1) := by decide +kernel
theorem dX8_ask_12 : decode cX8_ask 12 = .ok (.ifCond .lt 8, 3) := by decide +kernel
theorem dX8_ask_15 : decode cX8_ask 15 = .ok (.iload_n 2, 1) := by decide +kernel
theorem dX8_ask_16 : decode cX8_ask 16 = .ok (.iconst 1, 1) := by decide +kernel
theorem dX8_ask_17 : decode cX8_ask 17 = .ok (.if_icmp .le 6, 3) := by decide +kernel
theorem dX8_ask_20 : decode cX8_ask 20 = .ok (.ldc 73, 2) := by decide +kernel
theorem dX8_ask_22 : decode cX8_ask 22 = .ok (.ireturn, 1) := by decide +kernel
theorem dX8_ask_23 : decode cX8_ask 23 = .ok (.aload_n 0, 1) := by decide +kernel
theorem dX8_ask_24 : decode cX8_ask 24 = .ok (.getfield 57, 3) := by decide +kernel
theorem dX8_ask_27 : decode cX8_ask 27 = .ok (.aload_n 0, 1) := by decide +kernel
theorem dX8_ask_28 : decode cX8_ask 28 = .ok (.getfield 25, 3) := by decide +kernel
theorem dX8_ask_31 : decode cX8_ask 31 = .ok (.iload_n 1, 1) := by decide +kernel
theorem dX8_ask_32 : decode cX8_ask 32 = .ok (.iload_n 2, 1) := by decide +kernel
theorem dX8_ask_33 : decode cX8_ask 33 = .ok (.invokevirtual 310, 3) := by decide +kernel
theorem dX8_ask_36 : decode cX8_ask 36 = .ok (.ireturn, 1) := by decide +kernel
theorem dX8_trace_0 : decode cX8_trace 0 = .ok (.iload_n 1, 1) := by decide +kernel
theorem dX8_trace_1 : decode cX8_trace 1 = .ok (.ifCond .lt 26, 3) := by decide +kernel
theorem dX8_trace_4 : decode cX8_trace 4 = .ok (.iload_n 1, 1) := by decide +kernel
theorem dX8_trace_5 : decode cX8_trace 5 = .ok (.aload_n 0, 1) := by decide +kernel
theorem dX8_trace_6 : decode cX8_trace 6 = .ok (.getfield 57, 3) := by decide +kernel
theorem dX8_trace_9 : decode cX8_trace 9 = .ok (.getfield 313, 3) := by decide +kernel
theorem dX8_trace_12 : decode cX8_trace 12 = .ok (.if_icmp .ge 15, 3) := by decide +kernel
theorem dX8_trace_15 : decode cX8_trace 15 = .ok (.aload_n 0, 1) := by decide +kernel
theorem dX8_trace_16 : decode cX8_trace 16 = .ok (.getfield 57, 3) := by decide +kernel
theorem dX8_trace_19 : decode cX8_trace 19 = .ok (.getfield 316, 3) := by decide +kernel
theorem dX8_trace_22 : decode cX8_trace 22 = .ok (.iload_n 1, 1) := by decide +kernel
theorem dX8_trace_23 : decode cX8_trace 23 = .ok (.iaload, 1) := by decide +kernel
theorem dX8_trace_24 : decode cX8_trace 24 = .ok (.goto 5, 3) := by decide +kernel
theorem dX8_trace_27 : decode cX8_trace 27 = .ok (.ldc 226, 2) := by decide +kernel
theorem dX8_trace_29 : decode cX8_trace 29 = .ok (.ireturn, 1) := by decide +kernel
theorem dX8_count_0 : decode cX8_count 0 = .ok (.iload_n 1, 1) := by decide +kernel
theorem dX8_count_1 : decode cX8_count 1 = .ok (.tableswitch 102 0 6 #[43, 48, 56, 64, 72, 80, 91], 43) := by decide +kernel
theorem dX8_count_44 : decode cX8_count 44 = .ok (.aload_n 0, 1) := by decide +kernel
theorem dX8_count_45 : decode cX8_count 45 = .ok (.invokevirtual 319, 3) := by decide +kernel
theorem dX8_count_48 : decode cX8_count 48 = .ok (.ireturn, 1) := by decide +kernel
theorem dX8_count_49 : decode cX8_count 49 = .ok (.aload_n 0, 1) := by decide +kernel
theorem dX8_count_50 : decode cX8_count 50 = .ok (.getfield 25, 3) := by decide +kernel
theorem dX8_count_53 : decode cX8_count 53 = .ok (.getfield 151, 3) := by decide +kernel
theorem dX8_count_56 : decode cX8_count 56 = .ok (.ireturn, 1) := by decide +kernel
theorem dX8_count_57 : decode cX8_count 57 = .ok (.aload_n 0, 1) := by decide +kernel
theorem dX8_count_58 : decode cX8_count 58 = .ok (.getfield 25, 3) := by decide +kernel
theorem dX8_count_61 : decode cX8_count 61 = .ok (.getfield 190, 3) := by decide +kernel
theorem dX8_count_64 : decode cX8_count 64 = .ok (.ireturn, 1) := by decide +kernel
theorem dX8_count_65 : decode cX8_count 65 = .ok (.aload_n 0, 1) := by decide +kernel
theorem dX8_count_66 : decode cX8_count 66 = .ok (.getfield 25, 3) := by decide +kernel
theorem dX8_count_69 : decode cX8_count 69 = .ok (.getfield 174, 3) := by decide +kernel
theorem dX8_count_72 : decode cX8_count 72 = .ok (.ireturn, 1) := by decide +kernel
theorem dX8_count_73 : decode cX8_count 73 = .ok (.aload_n 0, 1) := by decide +kernel
theorem dX8_count_74 : decode cX8_count 74 = .ok (.getfield 32, 3) := by decide +kernel
theorem dX8_count_77 : decode cX8_count 77 = .ok (.getfield 214, 3) := by decide +kernel
theorem dX8_count_80 : decode cX8_count 80 = .ok (.ireturn, 1) := by decide +kernel
theorem dX8_count_81 : decode cX8_count 81 = .ok (.aload_n 0, 1) := by decide +kernel
theorem dX8_count_82 : decode cX8_count 82 = .ok (.getfield 25, 3) := by decide +kernel
theorem dX8_count_85 : decode cX8_count 85 = .ok (.invokevirtual 295, 3) := by decide +kernel
theorem dX8_count_88 : decode cX8_count 88 = .ok (.invokestatic 322, 3) := by decide +kernel
theorem dX8_count_91 : decode cX8_count 91 = .ok (.ireturn, 1) := by decide +kernel
theorem dX8_count_92 : decode cX8_count 92 = .ok (.aload_n 0, 1) := by decide +kernel
theorem dX8_count_93 : decode cX8_count 93 = .ok (.getfield 18, 3) := by decide +kernel
theorem dX8_count_96 : decode cX8_count 96 = .ok (.getfield 116, 3) := by decide +kernel
theorem dX8_count_99 : decode cX8_count 99 = .ok (.getfield 130, 3) := by decide +kernel
theorem dX8_count_102 : decode cX8_count 102 = .ok (.ireturn, 1) := by decide +kernel
theorem dX8_count_103 : decode cX8_count 103 = .ok (.ldc 73, 2) := by decide +kernel
theorem dX8_count_105 : decode cX8_count 105 = .ok (.ireturn, 1) := by decide +kernel
theorem dX8_status_0 : decode cX8_status 0 = .ok (.aload_n 0, 1) := by decide +kernel
theorem dX8_status_1 : decode cX8_status 1 = .ok (.getfield 65, 3) := by decide +kernel
theorem dX8_status_4 : decode cX8_status 4 = .ok (.ireturn, 1) := by decide +kernel
theorem dX8_isRow_0 : decode cX8_isRow 0 = .ok (.iload_n 0, 1) := by decide +kernel
theorem dX8_isRow_1 : decode cX8_isRow 1 = .ok (.ifCond .lt 13, 3) := by decide +kernel
theorem dX8_isRow_4 : decode cX8_isRow 4 = .ok (.iload_n 0, 1) := by decide +kernel
theorem dX8_isRow_5 : decode cX8_isRow 5 = .ok (.bipush 8, 2) := by decide +kernel
theorem dX8_isRow_7 : decode cX8_isRow 7 = .ok (.if_icmp .ge 7, 3) := by decide +kernel
theorem dX8_isRow_10 : decode cX8_isRow 10 = .ok (.iconst 1, 1) := by decide +kernel
theorem dX8_isRow_11 : decode cX8_isRow 11 = .ok (.goto 4, 3) := by decide +kernel
theorem dX8_isRow_14 : decode cX8_isRow 14 = .ok (.iconst 0, 1) := by decide +kernel
theorem dX8_isRow_15 : decode cX8_isRow 15 = .ok (.ireturn, 1) := by decide +kernel
theorem dX8_isGusts_0 : decode cX8_isGusts 0 = .ok (.iload_n 0, 1) := by decide +kernel
theorem dX8_isGusts_1 : decode cX8_isGusts 1 = .ok (.ifCond .lt 13, 3) := by decide +kernel
theorem dX8_isGusts_4 : decode cX8_isGusts 4 = .ok (.iload_n 0, 1) := by decide +kernel
theorem dX8_isGusts_5 : decode cX8_isGusts 5 = .ok (.bipush 9, 2) := by decide +kernel
theorem dX8_isGusts_7 : decode cX8_isGusts 7 = .ok (.if_icmp .gt 7, 3) := by decide +kernel
theorem dX8_isGusts_10 : decode cX8_isGusts 10 = .ok (.iconst 1, 1) := by decide +kernel
theorem dX8_isGusts_11 : decode cX8_isGusts 11 = .ok (.goto 4, 3) := by decide +kernel
theorem dX8_isGusts_14 : decode cX8_isGusts 14 = .ok (.iconst 0, 1) := by decide +kernel
theorem dX8_isGusts_15 : decode cX8_isGusts 15 = .ok (.ireturn, 1) := by decide +kernel
theorem dX8_isImage_0 : decode cX8_isImage 0 = .ok (.iload_n 0, 1) := by decide +kernel
theorem dX8_isImage_1 : decode cX8_isImage 1 = .ok (.ifCond .lt 12, 3) := by decide +kernel
theorem dX8_isImage_4 : decode cX8_isImage 4 = .ok (.iload_n 0, 1) := by decide +kernel
theorem dX8_isImage_5 : decode cX8_isImage 5 = .ok (.iconst 2, 1) := by decide +kernel
theorem dX8_isImage_6 : decode cX8_isImage 6 = .ok (.if_icmp .ge 7, 3) := by decide +kernel
theorem dX8_isImage_9 : decode cX8_isImage 9 = .ok (.iconst 1, 1) := by decide +kernel
theorem dX8_isImage_10 : decode cX8_isImage 10 = .ok (.goto 4, 3) := by decide +kernel
theorem dX8_isImage_13 : decode cX8_isImage 13 = .ok (.iconst 0, 1) := by decide +kernel
theorem dX8_isImage_14 : decode cX8_isImage 14 = .ok (.ireturn, 1) := by decide +kernel
theorem dX8_found_0 : decode cX8_found 0 = .ok (.aload_n 0, 1) := by decide +kernel
theorem dX8_found_1 : decode cX8_found 1 = .ok (.iload_n 1, 1) := by decide +kernel
theorem dX8_found_2 : decode cX8_found 2 = .ok (.putfield 65, 3) := by decide +kernel
theorem dX8_found_5 : decode cX8_found 5 = .ok (.ldc_w 327, 3) := by decide +kernel
theorem dX8_found_8 : decode cX8_found 8 = .ok (.iload_n 1, 1) := by decide +kernel
theorem dX8_found_9 : decode cX8_found 9 = .ok (.isub, 1) := by decide +kernel
theorem dX8_found_10 : decode cX8_found 10 = .ok (.ireturn, 1) := by decide +kernel
theorem dX8_well_0 : decode cX8_well 0 = .ok (.aload_n 0, 1) := by decide +kernel
theorem dX8_well_1 : decode cX8_well 1 = .ok (.iconst 0, 1) := by decide +kernel
theorem dX8_well_2 : decode cX8_well 2 = .ok (.putfield 65, 3) := by decide +kernel
theorem dX8_well_5 : decode cX8_well 5 = .ok (.iload_n 1, 1) := by decide +kernel
theorem dX8_well_6 : decode cX8_well 6 = .ok (.ireturn, 1) := by decide +kernel
theorem dX8_standingRows_0 : decode cX8_standingRows 0 = .ok (.iconst 0, 1) := by decide +kernel
theorem dX8_standingRows_1 : decode cX8_standingRows 1 = .ok (.istore_n 1, 1) := by decide +kernel
theorem dX8_standingRows_2 : decode cX8_standingRows 2 = .ok (.iconst 0, 1) := by decide +kernel
theorem dX8_standingRows_3 : decode cX8_standingRows 3 = .ok (.istore_n 2, 1) := by decide +kernel
theorem dX8_standingRows_4 : decode cX8_standingRows 4 = .ok (.iload_n 2, 1) := by decide +kernel
theorem dX8_standingRows_5 : decode cX8_standingRows 5 = .ok (.bipush 8, 2) := by decide +kernel
theorem dX8_standingRows_7 : decode cX8_standingRows 7 = .ok (.if_icmp .ge 24, 3) := by decide +kernel
theorem dX8_standingRows_10 : decode cX8_standingRows 10 = .ok (.aload_n 0, 1) := by decide +kernel
theorem dX8_standingRows_11 : decode cX8_standingRows 11 = .ok (.getfield 11, 3) := by decide +kernel
theorem dX8_standingRows_14 : decode cX8_standingRows 14 = .ok (.iload_n 2, 1) := by decide +kernel
theorem dX8_standingRows_15 : decode cX8_standingRows 15 = .ok (.aaload, 1) := by decide +kernel
theorem dX8_standingRows_16 : decode cX8_standingRows 16 = .ok (.invokevirtual 85, 3) := by decide +kernel
theorem dX8_standingRows_19 : decode cX8_standingRows 19 = .ok (.ifCond .ne 6, 3) := by decide +kernel
theorem dX8_standingRows_22 : decode cX8_standingRows 22 = .ok (.iinc 1 1, 3) := by decide +kernel
theorem dX8_standingRows_25 : decode cX8_standingRows 25 = .ok (.iinc 2 1, 3) := by decide +kernel
theorem dX8_standingRows_28 : decode cX8_standingRows 28 = .ok (.goto (-24), 3) := by decide +kernel
theorem dX8_standingRows_31 : decode cX8_standingRows 31 = .ok (.iload_n 1, 1) := by decide +kernel
theorem dX8_standingRows_32 : decode cX8_standingRows 32 = .ok (.ireturn, 1) := by decide +kernel
theorem dX8_fits_0 : decode cX8_fits 0 = .ok (.iload_n 2, 1) := by decide +kernel
theorem dX8_fits_1 : decode cX8_fits 1 = .ok (.istore 5, 2) := by decide +kernel
theorem dX8_fits_3 : decode cX8_fits 3 = .ok (.iconst 0, 1) := by decide +kernel
theorem dX8_fits_4 : decode cX8_fits 4 = .ok (.istore 6, 2) := by decide +kernel
theorem dX8_fits_6 : decode cX8_fits 6 = .ok (.iload 6, 2) := by decide +kernel
theorem dX8_fits_8 : decode cX8_fits 8 = .ok (.iload 4, 2) := by decide +kernel
theorem dX8_fits_10 : decode cX8_fits 10 = .ok (.if_icmp .ge 83, 3) := by decide +kernel
theorem dX8_fits_13 : decode cX8_fits 13 = .ok (.aload_n 0, 1) := by decide +kernel
theorem dX8_fits_14 : decode cX8_fits 14 = .ok (.getfield 25, 3) := by decide +kernel
theorem dX8_fits_17 : decode cX8_fits 17 = .ok (.iload 6, 2) := by decide +kernel
theorem dX8_fits_19 : decode cX8_fits 19 = .ok (.invokevirtual 328, 3) := by decide +kernel
theorem dX8_fits_22 : decode cX8_fits 22 = .ok (.istore 7, 2) := by decide +kernel
theorem dX8_fits_24 : decode cX8_fits 24 = .ok (.iload 7, 2) := by decide +kernel
theorem dX8_fits_26 : decode cX8_fits 26 = .ok (.invokestatic 322, 3) := by decide +kernel
theorem dX8_fits_29 : decode cX8_fits 29 = .ok (.istore 8, 2) := by decide +kernel
theorem dX8_fits_31 : decode cX8_fits 31 = .ok (.iload 8, 2) := by decide +kernel
theorem dX8_fits_33 : decode cX8_fits 33 = .ok (.ifCond .le 54, 3) := by decide +kernel
theorem dX8_fits_36 : decode cX8_fits 36 = .ok (.iload 5, 2) := by decide +kernel
theorem dX8_fits_38 : decode cX8_fits 38 = .ok (.iload_n 2, 1) := by decide +kernel
theorem dX8_fits_39 : decode cX8_fits 39 = .ok (.iload_n 3, 1) := by decide +kernel
theorem dX8_fits_40 : decode cX8_fits 40 = .ok (.iadd, 1) := by decide +kernel
theorem dX8_fits_41 : decode cX8_fits 41 = .ok (.if_icmp .ge 15, 3) := by decide +kernel
theorem dX8_fits_44 : decode cX8_fits 44 = .ok (.iconst 1, 1) := by decide +kernel
theorem dX8_fits_45 : decode cX8_fits 45 = .ok (.aload_n 1, 1) := by decide +kernel
theorem dX8_fits_46 : decode cX8_fits 46 = .ok (.getfield 100, 3) := by decide +kernel
theorem dX8_fits_49 : decode cX8_fits 49 = .ok (.iload 5, 2) := by decide +kernel
theorem dX8_fits_51 : decode cX8_fits 51 = .ok (.iaload, 1) := by decide +kernel
theorem dX8_fits_52 : decode cX8_fits 52 = .ok (.ishl, 1) := by decide +kernel
theorem dX8_fits_53 : decode cX8_fits 53 = .ok (.goto 4, 3) := by decide +kernel
theorem dX8_fits_56 : decode cX8_fits 56 = .ok (.iconst 0, 1) := by decide +kernel
theorem dX8_fits_57 : decode cX8_fits 57 = .ok (.istore 9, 2) := by decide +kernel
theorem dX8_fits_59 : decode cX8_fits 59 = .ok (.iload 7, 2) := by decide +kernel
theorem dX8_fits_61 : decode cX8_fits 61 = .ok (.iload 9, 2) := by decide +kernel
theorem dX8_fits_63 : decode cX8_fits 63 = .ok (.iand, 1) := by decide +kernel
theorem dX8_fits_64 : decode cX8_fits 64 = .ok (.ifCond .ne 5, 3) := by decide +kernel
theorem dX8_fits_67 : decode cX8_fits 67 = .ok (.iconst 0, 1) := by decide +kernel
theorem dX8_fits_68 : decode cX8_fits 68 = .ok (.ireturn, 1) := by decide +kernel
theorem dX8_fits_69 : decode cX8_fits 69 = .ok (.iload 7, 2) := by decide +kernel
theorem dX8_fits_71 : decode cX8_fits 71 = .ok (.iload 9, 2) := by decide +kernel
theorem dX8_fits_73 : decode cX8_fits 73 = .ok (.iconst (-1), 1) := by decide +kernel
theorem dX8_fits_74 : decode cX8_fits 74 = .ok (.ixor, 1) := by decide +kernel
theorem dX8_fits_75 : decode cX8_fits 75 = .ok (.iand, 1) := by decide +kernel
theorem dX8_fits_76 : decode cX8_fits 76 = .ok (.istore 7, 2) := by decide +kernel
theorem dX8_fits_78 : decode cX8_fits 78 = .ok (.iinc 5 1, 3) := by decide +kernel
theorem dX8_fits_81 : decode cX8_fits 81 = .ok (.iinc 8 (-1), 3) := by decide +kernel
theorem dX8_fits_84 : decode cX8_fits 84 = .ok (.goto (-53), 3) := by decide +kernel
theorem dX8_fits_87 : decode cX8_fits 87 = .ok (.iinc 6 1, 3) := by decide +kernel
theorem dX8_fits_90 : decode cX8_fits 90 = .ok (.goto (-84), 3) := by decide +kernel
theorem dX8_fits_93 : decode cX8_fits 93 = .ok (.iload 5, 2) := by decide +kernel
theorem dX8_fits_95 : decode cX8_fits 95 = .ok (.iload_n 2, 1) := by decide +kernel
theorem dX8_fits_96 : decode cX8_fits 96 = .ok (.iload_n 3, 1) := by decide +kernel
theorem dX8_fits_97 : decode cX8_fits 97 = .ok (.iadd, 1) := by decide +kernel
theorem dX8_fits_98 : decode cX8_fits 98 = .ok (.if_icmp .ne 7, 3) := by decide +kernel
theorem dX8_fits_101 : decode cX8_fits 101 = .ok (.iconst 1, 1) := by decide +kernel
theorem dX8_fits_102 : decode cX8_fits 102 = .ok (.goto 4, 3) := by decide +kernel
theorem dX8_fits_105 : decode cX8_fits 105 = .ok (.iconst 0, 1) := by decide +kernel
theorem dX8_fits_106 : decode cX8_fits 106 = .ok (.ireturn, 1) := by decide +kernel
theorem dX9_init_0 : decode cX9_init 0 = .ok (.aload_n 0, 1) := by decide +kernel
theorem dX9_init_1 : decode cX9_init 1 = .ok (.invokespecial 1, 3) := by decide +kernel
theorem dX9_init_4 : decode cX9_init 4 = .ok (.aload_n 0, 1) := by decide +kernel
theorem dX9_init_5 : decode cX9_init 5 = .ok (.bipush 8, 2) := by decide +kernel
theorem dX9_init_7 : decode cX9_init 7 = .ok (.newarray .int, 2) := by decide +kernel
theorem dX9_init_9 : decode cX9_init 9 = .ok (.dup, 1) := by decide +kernel
theorem dX9_init_10 : decode cX9_init 10 = .ok (.iconst 0, 1) := by decide +kernel
theorem dX9_init_11 : decode cX9_init 11 = .ok (.iconst (-1), 1) := by decide +kernel
theorem dX9_init_12 : decode cX9_init 12 = .ok (.iastore, 1) := by decide +kernel
theorem dX9_init_13 : decode cX9_init 13 = .ok (.dup, 1) := by decide +kernel
theorem dX9_init_14 : decode cX9_init 14 = .ok (.iconst 1, 1) := by decide +kernel
theorem dX9_init_15 : decode cX9_init 15 = .ok (.iconst (-1), 1) := by decide +kernel
theorem dX9_init_16 : decode cX9_init 16 = .ok (.iastore, 1) := by decide +kernel
theorem dX9_init_17 : decode cX9_init 17 = .ok (.dup, 1) := by decide +kernel
theorem dX9_init_18 : decode cX9_init 18 = .ok (.iconst 2, 1) := by decide +kernel
theorem dX9_init_19 : decode cX9_init 19 = .ok (.iconst (-1), 1) := by decide +kernel
theorem dX9_init_20 : decode cX9_init 20 = .ok (.iastore, 1) := by decide +kernel
theorem dX9_init_21 : decode cX9_init 21 = .ok (.dup, 1) := by decide +kernel
theorem dX9_init_22 : decode cX9_init 22 = .ok (.iconst 3, 1) := by decide +kernel
theorem dX9_init_23 : decode cX9_init 23 = .ok (.iconst (-1), 1) := by decide +kernel
theorem dX9_init_24 : decode cX9_init 24 = .ok (.iastore, 1) := by decide +kernel
theorem dX9_init_25 : decode cX9_init 25 = .ok (.dup, 1) := by decide +kernel
theorem dX9_init_26 : decode cX9_init 26 = .ok (.iconst 4, 1) := by decide +kernel
theorem dX9_init_27 : decode cX9_init 27 = .ok (.iconst (-1), 1) := by decide +kernel
theorem dX9_init_28 : decode cX9_init 28 = .ok (.iastore, 1) := by decide +kernel
theorem dX9_init_29 : decode cX9_init 29 = .ok (.dup, 1) := by decide +kernel
theorem dX9_init_30 : decode cX9_init 30 = .ok (.iconst 5, 1) := by decide +kernel
theorem dX9_init_31 : decode cX9_init 31 = .ok (.iconst (-1), 1) := by decide +kernel
theorem dX9_init_32 : decode cX9_init 32 = .ok (.iastore, 1) := by decide +kernel
theorem dX9_init_33 : decode cX9_init 33 = .ok (.dup, 1) := by decide +kernel
theorem dX9_init_34 : decode cX9_init 34 = .ok (.bipush 6, 2) := by decide +kernel
theorem dX9_init_36 : decode cX9_init 36 = .ok (.iconst (-1), 1) := by decide +kernel
theorem dX9_init_37 : decode cX9_init 37 = .ok (.iastore, 1) := by decide +kernel
theorem dX9_init_38 : decode cX9_init 38 = .ok (.dup, 1) := by decide +kernel
theorem dX9_init_39 : decode cX9_init 39 = .ok (.bipush 7, 2) := by decide +kernel
theorem dX9_init_41 : decode cX9_init 41 = .ok (.iconst (-1), 1) := by decide +kernel
theorem dX9_init_42 : decode cX9_init 42 = .ok (.iastore, 1) := by decide +kernel
theorem dX9_init_43 : decode cX9_init 43 = .ok (.putfield 7, 3) := by decide +kernel
theorem dX9_init_46 : decode cX9_init 46 = .ok (.aload_n 0, 1) := by decide +kernel
theorem dX9_init_47 : decode cX9_init 47 = .ok (.bipush 8, 2) := by decide +kernel
theorem dX9_init_49 : decode cX9_init 49 = .ok (.newarray .int, 2) := by decide +kernel
theorem dX9_init_51 : decode cX9_init 51 = .ok (.putfield 13, 3) := by decide +kernel
theorem dX9_init_54 : decode cX9_init 54 = .ok (.aload_n 0, 1) := by decide +kernel
theorem dX9_init_55 : decode cX9_init 55 = .ok (.sipush 320, 3) := by decide +kernel
theorem dX9_init_58 : decode cX9_init 58 = .ok (.newarray .int, 2) := by decide +kernel
theorem dX9_init_60 : decode cX9_init 60 = .ok (.putfield 16, 3) := by decide +kernel
theorem dX9_init_63 : decode cX9_init 63 = .ok (.aload_n 0, 1) := by decide +kernel
theorem dX9_init_64 : decode cX9_init 64 = .ok (.bipush 127, 2) := by decide +kernel
theorem dX9_init_66 : decode cX9_init 66 = .ok (.newarray .int, 2) := by decide +kernel
theorem dX9_init_68 : decode cX9_init 68 = .ok (.putfield 19, 3) := by decide +kernel
theorem dX9_init_71 : decode cX9_init 71 = .ok (.aload_n 0, 1) := by decide +kernel
theorem dX9_init_72 : decode cX9_init 72 = .ok (.bipush 127, 2) := by decide +kernel
theorem dX9_init_74 : decode cX9_init 74 = .ok (.newarray .int, 2) := by decide +kernel
theorem dX9_init_76 : decode cX9_init 76 = .ok (.putfield 22, 3) := by decide +kernel
theorem dX9_init_79 : decode cX9_init 79 = .ok (.aload_n 0, 1) := by decide +kernel
theorem dX9_init_80 : decode cX9_init 80 = .ok (.sipush 3048, 3) := by decide +kernel
theorem dX9_init_83 : decode cX9_init 83 = .ok (.newarray .int, 2) := by decide +kernel
theorem dX9_init_85 : decode cX9_init 85 = .ok (.putfield 25, 3) := by decide +kernel
theorem dX9_init_88 : decode cX9_init 88 = .ok (.aload_n 0, 1) := by decide +kernel
theorem dX9_init_89 : decode cX9_init 89 = .ok (.sipush 500, 3) := by decide +kernel
theorem dX9_init_92 : decode cX9_init 92 = .ok (.newarray .int, 2) := by decide +kernel
theorem dX9_init_94 : decode cX9_init 94 = .ok (.putfield 28, 3) := by decide +kernel
theorem dX9_init_97 : decode cX9_init 97 = .ok (.aload_n 0, 1) := by decide +kernel
theorem dX9_init_98 : decode cX9_init 98 = .ok (.iconst 4, 1) := by decide +kernel
theorem dX9_init_99 : decode cX9_init 99 = .ok (.newarray .int, 2) := by decide +kernel
theorem dX9_init_101 : decode cX9_init 101 = .ok (.putfield 31, 3) := by decide +kernel
theorem dX9_init_104 : decode cX9_init 104 = .ok (.aload_n 0, 1) := by decide +kernel
theorem dX9_init_105 : decode cX9_init 105 = .ok (.iconst 4, 1) := by decide +kernel
theorem dX9_init_106 : decode cX9_init 106 = .ok (.newarray .long, 2) := by decide +kernel
theorem dX9_init_108 : decode cX9_init 108 = .ok (.putfield 34, 3) := by decide +kernel
theorem dX9_init_111 : decode cX9_init 111 = .ok (.aload_n 0, 1) := by decide +kernel
theorem dX9_init_112 : decode cX9_init 112 = .ok (.bipush 7, 2) := by decide +kernel
theorem dX9_init_114 : decode cX9_init 114 = .ok (.newarray .int, 2) := by decide +kernel
theorem dX9_init_116 : decode cX9_init 116 = .ok (.putfield 38, 3) := by decide +kernel
theorem dX9_init_119 : decode cX9_init 119 = .ok (.aload_n 0, 1) := by decide +kernel
theorem dX9_init_120 : decode cX9_init 120 = .ok (.bipush 7, 2) := by decide +kernel
theorem dX9_init_122 : decode cX9_init 122 = .ok (.newarray .int, 2) := by decide +kernel
theorem dX9_init_124 : decode cX9_init 124 = .ok (.putfield 41, 3) := by decide +kernel
theorem dX9_init_127 : decode cX9_init 127 = .ok (.aload_n 0, 1) := by decide +kernel
theorem dX9_init_128 : decode cX9_init 128 = .ok (.iconst 2, 1) := by decide +kernel
theorem dX9_init_129 : decode cX9_init 129 = .ok (.newarray .boolean, 2) := by decide +kernel
theorem dX9_init_131 : decode cX9_init 131 = .ok (.putfield 44, 3) := by decide +kernel
theorem dX9_init_134 : decode cX9_init 134 = .ok (.aload_n 0, 1) := by decide +kernel
theorem dX9_init_135 : decode cX9_init 135 = .ok (.sipush 254, 3) := by decide +kernel
theorem dX9_init_138 : decode cX9_init 138 = .ok (.newarray .int, 2) := by decide +kernel
theorem dX9_init_140 : decode cX9_init 140 = .ok (.putfield 48, 3) := by decide +kernel
theorem dX9_init_143 : decode cX9_init 143 = .ok (.aload_n 0, 1) := by decide +kernel
theorem dX9_init_144 : decode cX9_init 144 = .ok (.bipush 16, 2) := by decide +kernel
theorem dX9_init_146 : decode cX9_init 146 = .ok (.newarray .int, 2) := by decide +kernel
theorem dX9_init_148 : decode cX9_init 148 = .ok (.putfield 51, 3) := by decide +kernel
theorem dX9_init_151 : decode cX9_init 151 = .ok (.return_, 1) := by decide +kernel
theorem dX9_in_0 : decode cX9_in 0 = .ok (.lload_n 0, 1) := by decide +kernel
theorem dX9_in_1 : decode cX9_in 1 = .ok (.lload_n 2, 1) := by decide +kernel
theorem dX9_in_2 : decode cX9_in 2 = .ok (.lcmp, 1) := by decide +kernel
theorem dX9_in_3 : decode cX9_in 3 = .ok (.ifCond .lt 14, 3) := by decide +kernel
theorem dX9_in_6 : decode cX9_in 6 = .ok (.lload_n 0, 1) := by decide +kernel
theorem dX9_in_7 : decode cX9_in 7 = .ok (.lload 4, 2) := by decide +kernel
theorem dX9_in_9 : decode cX9_in 9 = .ok (.lcmp, 1) := by decide +kernel
theorem dX9_in_10 : decode cX9_in 10 = .ok (.ifCond .gt 7, 3) := by decide +kernel
theorem dX9_in_13 : decode cX9_in 13 = .ok (.iconst 1, 1) := by decide +kernel
theorem dX9_in_14 : decode cX9_in 14 = .ok (.goto 4, 3) := by decide +kernel
theorem dX9_in_17 : decode cX9_in 17 = .ok (.iconst 0, 1) := by decide +kernel
theorem dX9_in_18 : decode cX9_in 18 = .ok (.ireturn, 1) := by decide +kernel
theorem dX9_finding_0 : decode cX9_finding 0 = .ok (.aload_n 0, 1) := by decide +kernel
theorem dX9_finding_1 : decode cX9_finding 1 = .ok (.iload_n 1, 1) := by decide +kernel
theorem dX9_finding_2 : decode cX9_finding 2 = .ok (.putfield 58, 3) := by decide +kernel
theorem dX9_finding_5 : decode cX9_finding 5 = .ok (.ldc 61, 2) := by decide +kernel
theorem dX9_finding_7 : decode cX9_finding 7 = .ok (.iload_n 1, 1) := by decide +kernel
theorem dX9_finding_8 : decode cX9_finding 8 = .ok (.isub, 1) := by decide +kernel
theorem dX9_finding_9 : decode cX9_finding 9 = .ok (.ireturn, 1) := by decide +kernel
theorem dX9_isRow_0 : decode cX9_isRow 0 = .ok (.iload_n 0, 1) := by decide +kernel
theorem dX9_isRow_1 : decode cX9_isRow 1 = .ok (.i2l, 1) := by decide +kernel
theorem dX9_isRow_2 : decode cX9_isRow 2 = .ok (.lconst 0, 1) := by decide +kernel
theorem dX9_isRow_3 : decode cX9_isRow 3 = .ok (.ldc2_w 62, 3) := by decide +kernel
theorem dX9_isRow_6 : decode cX9_isRow 6 = .ok (.invokestatic 64, 3) := by decide +kernel
theorem dX9_isRow_9 : decode cX9_isRow 9 = .ok (.ireturn, 1) := by decide +kernel
theorem dX9_row_0 : decode cX9_row 0 = .ok (.aload_n 0, 1) := by decide +kernel
theorem dX9_row_1 : decode cX9_row 1 = .ok (.iconst 0, 1) := by decide +kernel
theorem dX9_row_2 : decode cX9_row 2 = .ok (.putfield 54, 3) := by decide +kernel
theorem dX9_row_5 : decode cX9_row 5 = .ok (.iload_n 1, 1) := by decide +kernel
theorem dX9_row_6 : decode cX9_row 6 = .ok (.invokestatic 68, 3) := by decide +kernel
theorem dX9_row_9 : decode cX9_row 9 = .ok (.ifCond .eq 21, 3) := by decide +kernel
theorem dX9_row_12 : decode cX9_row 12 = .ok (.iload_n 2, 1) := by decide +kernel
theorem dX9_row_13 : decode cX9_row 13 = .ok (.i2l, 1) := by decide +kernel
theorem dX9_row_14 : decode cX9_row 14 = .ok (.lconst 0, 1) := by decide +kernel
theorem dX9_row_15 : decode cX9_row 15 = .ok (.ldc2_w 72, 3) := by decide +kernel
theorem dX9_row_18 : decode cX9_row 18 = .ok (.invokestatic 64, 3) := by decide +kernel
theorem dX9_row_21 : decode cX9_row 21 = .ok (.ifCond .eq 9, 3) := by decide +kernel
theorem dX9_row_24 : decode cX9_row 24 = .ok (.iload_n 3, 1) := by decide +kernel
theorem dX9_row_25 : decode cX9_row 25 = .ok (.bipush 40, 2) := by decide +kernel
theorem dX9_row_27 : decode cX9_row 27 = .ok (.if_icmp .le 6, 3) := by decide +kernel
theorem dX9_row_30 : decode cX9_row 30 = .ok (.ldc 74, 2) := by decide +kernel
theorem dX9_row_32 : decode cX9_row 32 = .ok (.ireturn, 1) := by decide +kernel
theorem dX9_row_33 : decode cX9_row 33 = .ok (.aload_n 0, 1) := by decide +kernel
theorem dX9_row_34 : decode cX9_row 34 = .ok (.iconst 0, 1) := by decide +kernel
theorem dX9_row_35 : decode cX9_row 35 = .ok (.putfield 58, 3) := by decide +kernel
theorem dX9_row_38 : decode cX9_row 38 = .ok (.iload_n 3, 1) := by decide +kernel
theorem dX9_row_39 : decode cX9_row 39 = .ok (.ifCond .ge 9, 3) := by decide +kernel
theorem dX9_row_42 : decode cX9_row 42 = .ok (.aload_n 0, 1) := by decide +kernel
theorem dX9_row_43 : decode cX9_row 43 = .ok (.iconst 4, 1) := by decide +kernel
theorem dX9_row_44 : decode cX9_row 44 = .ok (.invokevirtual 75, 3) := by decide +kernel
theorem dX9_row_47 : decode cX9_row 47 = .ok (.ireturn, 1) := by decide +kernel
theorem dX9_row_48 : decode cX9_row 48 = .ok (.aload_n 0, 1) := by decide +kernel
theorem dX9_row_49 : decode cX9_row 49 = .ok (.getfield 7, 3) := by decide +kernel
theorem dX9_row_52 : decode cX9_row 52 = .ok (.iload_n 1, 1) := by decide +kernel
theorem dX9_row_53 : decode cX9_row 53 = .ok (.iload_n 2, 1) := by decide +kernel
theorem dX9_row_54 : decode cX9_row 54 = .ok (.iastore, 1) := by decide +kernel
theorem dX9_row_55 : decode cX9_row 55 = .ok (.aload_n 0, 1) := by decide +kernel
theorem dX9_row_56 : decode cX9_row 56 = .ok (.getfield 13, 3) := by decide +kernel
theorem dX9_row_59 : decode cX9_row 59 = .ok (.iload_n 1, 1) := by decide +kernel
theorem dX9_row_60 : decode cX9_row 60 = .ok (.iload_n 3, 1) := by decide +kernel
theorem dX9_row_61 : decode cX9_row 61 = .ok (.iastore, 1) := by decide +kernel
theorem dX9_row_62 : decode cX9_row 62 = .ok (.iconst 0, 1) := by decide +kernel
theorem dX9_row_63 : decode cX9_row 63 = .ok (.istore 4, 2) := by decide +kernel
theorem dX9_row_65 : decode cX9_row 65 = .ok (.iload 4, 2) := by decide +kernel
theorem dX9_row_67 : decode cX9_row 67 = .ok (.bipush 40, 2) := by decide +kernel
theorem dX9_row_69 : decode cX9_row 69 = .ok (.if_icmp .ge 22, 3) := by decide +kernel
theorem dX9_row_72 : decode cX9_row 72 = .ok (.aload_n 0, 1) := by decide +kernel
theorem dX9_row_73 : decode cX9_row 73 = .ok (.getfield 16, 3) := by decide +kernel
theorem dX9_row_76 : decode cX9_row 76 = .ok (.bipush 40, 2) := by decide +kernel
theorem dX9_row_78 : decode cX9_row 78 = .ok (.iload_n 1, 1) := by decide +kernel
theorem dX9_row_79 : decode cX9_row 79 = .ok (.imul, 1) := by decide +kernel
theorem dX9_row_80 : decode cX9_row 80 = .ok (.iload 4, 2) := by decide +kernel
theorem dX9_row_82 : decode cX9_row 82 = .ok (.iadd, 1) := by decide +kernel
theorem dX9_row_83 : decode cX9_row 83 = .ok (.iconst 0, 1) := by decide +kernel
theorem dX9_row_84 : decode cX9_row 84 = .ok (.iastore, 1) := by decide +kernel
theorem dX9_row_85 : decode cX9_row 85 = .ok (.iinc 4 1, 3) := by decide +kernel
theorem dX9_row_88 : decode cX9_row 88 = .ok (.goto (-23), 3) := by decide +kernel
theorem dX9_row_91 : decode cX9_row 91 = .ok (.iload_n 3, 1) := by decide +kernel
theorem dX9_row_92 : decode cX9_row 92 = .ok (.ireturn, 1) := by decide +kernel
theorem dX9_set_0 : decode cX9_set 0 = .ok (.aload_n 0, 1) := by decide +kernel
theorem dX9_set_1 : decode cX9_set 1 = .ok (.iconst 0, 1) := by decide +kernel
theorem dX9_set_2 : decode cX9_set 2 = .ok (.putfield 54, 3) := by decide +kernel
theorem dX9_set_5 : decode cX9_set 5 = .ok (.iload_n 1, 1) := by decide +kernel
theorem dX9_set_6 : decode cX9_set 6 = .ok (.invokestatic 68, 3) := by decide +kernel
theorem dX9_set_9 : decode cX9_set 9 = .ok (.ifCond .ne 6, 3) := by decide +kernel
theorem dX9_set_12 : decode cX9_set 12 = .ok (.ldc 74, 2) := by decide +kernel
theorem dX9_set_14 : decode cX9_set 14 = .ok (.ireturn, 1) := by decide +kernel
theorem dX9_set_15 : decode cX9_set 15 = .ok (.aload_n 0, 1) := by decide +kernel
theorem dX9_set_16 : decode cX9_set 16 = .ok (.iconst 0, 1) := by decide +kernel
theorem dX9_set_17 : decode cX9_set 17 = .ok (.putfield 58, 3) := by decide +kernel
theorem dX9_set_20 : decode cX9_set 20 = .ok (.aload_n 0, 1) := by decide +kernel
theorem dX9_set_21 : decode cX9_set 21 = .ok (.getfield 7, 3) := by decide +kernel
theorem dX9_set_24 : decode cX9_set 24 = .ok (.iload_n 1, 1) := by decide +kernel
theorem dX9_set_25 : decode cX9_set 25 = .ok (.iaload, 1) := by decide +kernel
theorem dX9_set_26 : decode cX9_set 26 = .ok (.ifCond .ge 9, 3) := by decide +kernel
theorem dX9_set_29 : decode cX9_set 29 = .ok (.aload_n 0, 1) := by decide +kernel
theorem dX9_set_30 : decode cX9_set 30 = .ok (.iconst 1, 1) := by decide +kernel
theorem dX9_set_31 : decode cX9_set 31 = .ok (.invokevirtual 75, 3) := by decide +kernel
theorem dX9_set_34 : decode cX9_set 34 = .ok (.ireturn, 1) := by decide +kernel
theorem dX9_set_35 : decode cX9_set 35 = .ok (.iload_n 2, 1) := by decide +kernel
theorem dX9_set_36 : decode cX9_set 36 = .ok (.i2l, 1) := by decide +kernel
theorem dX9_set_37 : decode cX9_set 37 = .ok (.lconst 0, 1) := by decide +kernel
theorem dX9_set_38 : decode cX9_set 38 = .ok (.aload_n 0, 1) := by decide +kernel
theorem dX9_set_39 : decode cX9_set 39 = .ok (.getfield 13, 3) := by decide +kernel
theorem dX9_set_42 : decode cX9_set 42 = .ok (.iload_n 1, 1) := by decide +kernel
theorem dX9_set_43 : decode cX9_set 43 = .ok (.iaload, 1) := by decide +kernel
theorem dX9_set_44 : decode cX9_set 44 = .ok (.iconst 1, 1) := by decide +kernel
theorem dX9_set_45 : decode cX9_set 45 = .ok (.isub, 1) := by decide +kernel
theorem dX9_set_46 : decode cX9_set 46 = .ok (.i2l, 1) := by decide +kernel
theorem dX9_set_47 : decode cX9_set 47 = .ok (.invokestatic 64, 3) := by decide +kernel
theorem dX9_set_50 : decode cX9_set 50 = .ok (.ifCond .ne 9, 3) := by decide +kernel
theorem dX9_set_53 : decode cX9_set 53 = .ok (.aload_n 0, 1) := by decide +kernel
theorem dX9_set_54 : decode cX9_set 54 = .ok (.iconst 2, 1) := by decide +kernel
theorem dX9_set_55 : decode cX9_set 55 = .ok (.invokevirtual 75, 3) := by decide +kernel
theorem dX9_set_58 : decode cX9_set 58 = .ok (.ireturn, 1) := by decide +kernel
theorem dX9_set_59 : decode cX9_set 59 = .ok (.aload_n 0, 1) := by decide +kernel
theorem dX9_set_60 : decode cX9_set 60 = .ok (.getfield 16, 3) := by decide +kernel
theorem dX9_set_63 : decode cX9_set 63 = .ok (.bipush 40, 2) := by decide +kernel
theorem dX9_set_65 : decode cX9_set 65 = .ok (.iload_n 1, 1) := by decide +kernel
theorem dX9_set_66 : decode cX9_set 66 = .ok (.imul, 1) := by decide +kernel
theorem dX9_set_67 : decode cX9_set 67 = .ok (.iload_n 2, 1) := by decide +kernel
theorem dX9_set_68 : decode cX9_set 68 = .ok (.iadd, 1) := by decide +kernel
theorem dX9_set_69 : decode cX9_set 69 = .ok (.aload_n 0, 1) := by decide +kernel
theorem dX9_set_70 : decode cX9_set 70 = .ok (.getfield 7, 3) := by decide +kernel
theorem dX9_set_73 : decode cX9_set 73 = .ok (.iload_n 1, 1) := by decide +kernel
theorem dX9_set_74 : decode cX9_set 74 = .ok (.iaload, 1) := by decide +kernel
theorem dX9_set_75 : decode cX9_set 75 = .ok (.ifCond .ne 8, 3) := by decide +kernel
theorem dX9_set_78 : decode cX9_set 78 = .ok (.iload_n 3, 1) := by decide +kernel
theorem dX9_set_79 : decode cX9_set 79 = .ok (.i2b, 1) := by decide +kernel
theorem dX9_set_80 : decode cX9_set 80 = .ok (.goto 19, 3) := by decide +kernel
theorem dX9_set_83 : decode cX9_set 83 = .ok (.aload_n 0, 1) := by decide +kernel
theorem dX9_set_84 : decode cX9_set 84 = .ok (.getfield 7, 3) := by decide +kernel
theorem dX9_set_87 : decode cX9_set 87 = .ok (.iload_n 1, 1) := by decide +kernel
theorem dX9_set_88 : decode cX9_set 88 = .ok (.iaload, 1) := by decide +kernel
theorem dX9_set_89 : decode cX9_set 89 = .ok (.iconst 1, 1) := by decide +kernel
theorem dX9_set_90 : decode cX9_set 90 = .ok (.if_icmp .ne 8, 3) := by decide +kernel
theorem dX9_set_93 : decode cX9_set 93 = .ok (.iload_n 3, 1) := by decide +kernel
theorem dX9_set_94 : decode cX9_set 94 = .ok (.i2s, 1) := by decide +kernel
theorem dX9_set_95 : decode cX9_set 95 = .ok (.goto 4, 3) := by decide +kernel
theorem dX9_set_98 : decode cX9_set 98 = .ok (.iload_n 3, 1) := by decide +kernel
theorem dX9_set_99 : decode cX9_set 99 = .ok (.iastore, 1) := by decide +kernel
theorem dX9_set_100 : decode cX9_set 100 = .ok (.aload_n 0, 1) := by decide +kernel
theorem dX9_set_101 : decode cX9_set 101 = .ok (.getfield 16, 3) := by decide +kernel
theorem dX9_set_104 : decode cX9_set 104 = .ok (.bipush 40, 2) := by decide +kernel
theorem dX9_set_106 : decode cX9_set 106 = .ok (.iload_n 1, 1) := by decide +kernel
theorem dX9_set_107 : decode cX9_set 107 = .ok (.imul, 1) := by decide +kernel
theorem dX9_set_108 : decode cX9_set 108 = .ok (.iload_n 2, 1) := by decide +kernel
theorem dX9_set_109 : decode cX9_set 109 = .ok (.iadd, 1) := by decide +kernel
theorem dX9_set_110 : decode cX9_set 110 = .ok (.iaload, 1) := by decide +kernel
theorem dX9_set_111 : decode cX9_set 111 = .ok (.ireturn, 1) := by decide +kernel
theorem dX9_copy_0 : decode cX9_copy 0 = .ok (.aload_n 0, 1) := by decide +kernel
theorem dX9_copy_1 : decode cX9_copy 1 = .ok (.iconst 0, 1) := by decide +kernel
theorem dX9_copy_2 : decode cX9_copy 2 = .ok (.putfield 54, 3) := by decide +kernel
theorem dX9_copy_5 : decode cX9_copy 5 = .ok (.iload_n 1, 1) := by decide +kernel
theorem dX9_copy_6 : decode cX9_copy 6 = .ok (.invokestatic 68, 3) := by decide +kernel
theorem dX9_copy_9 : decode cX9_copy 9 = .ok (.ifCond .eq 10, 3) := by decide +kernel
theorem dX9_copy_12 : decode cX9_copy 12 = .ok (.iload_n 3, 1) := by decide +kernel
theorem dX9_copy_13 : decode cX9_copy 13 = .ok (.invokestatic 68, 3) := by decide +kernel
theorem dX9_copy_16 : decode cX9_copy 16 = .ok (.ifCond .ne 6, 3) := by decide +kernel
theorem dX9_copy_19 : decode cX9_copy 19 = .ok (.ldc 74, 2) := by decide +kernel
theorem dX9_copy_21 : decode cX9_copy 21 = .ok (.ireturn, 1) := by decide +kernel
theorem dX9_copy_22 : decode cX9_copy 22 = .ok (.aload_n 0, 1) := by decide +kernel
theorem dX9_copy_23 : decode cX9_copy 23 = .ok (.iconst 0, 1) := by decide +kernel
theorem dX9_copy_24 : decode cX9_copy 24 = .ok (.putfield 58, 3) := by decide +kernel
theorem dX9_copy_27 : decode cX9_copy 27 = .ok (.aload_n 0, 1) := by decide +kernel
theorem dX9_copy_28 : decode cX9_copy 28 = .ok (.getfield 7, 3) := by decide +kernel
theorem dX9_copy_31 : decode cX9_copy 31 = .ok (.iload_n 1, 1) := by decide +kernel
theorem dX9_copy_32 : decode cX9_copy 32 = .ok (.iaload, 1) := by decide +kernel
theorem dX9_copy_33 : decode cX9_copy 33 = .ok (.ifCond .lt 12, 3) := by decide +kernel
theorem dX9_copy_36 : decode cX9_copy 36 = .ok (.aload_n 0, 1) := by decide +kernel
theorem dX9_copy_37 : decode cX9_copy 37 = .ok (.getfield 7, 3) := by decide +kernel
theorem dX9_copy_40 : decode cX9_copy 40 = .ok (.iload_n 3, 1) := by decide +kernel
theorem dX9_copy_41 : decode cX9_copy 41 = .ok (.iaload, 1) := by decide +kernel
theorem dX9_copy_42 : decode cX9_copy 42 = .ok (.ifCond .ge 9, 3) := by decide +kernel
theorem dX9_copy_45 : decode cX9_copy 45 = .ok (.aload_n 0, 1) := by decide +kernel
theorem dX9_copy_46 : decode cX9_copy 46 = .ok (.iconst 1, 1) := by decide +kernel
theorem dX9_copy_47 : decode cX9_copy 47 = .ok (.invokevirtual 75, 3) := by decide +kernel
theorem dX9_copy_50 : decode cX9_copy 50 = .ok (.ireturn, 1) := by decide +kernel
theorem dX9_copy_51 : decode cX9_copy 51 = .ok (.aload_n 0, 1) := by decide +kernel
theorem dX9_copy_52 : decode cX9_copy 52 = .ok (.getfield 7, 3) := by decide +kernel
theorem dX9_copy_55 : decode cX9_copy 55 = .ok (.iload_n 1, 1) := by decide +kernel
theorem dX9_copy_56 : decode cX9_copy 56 = .ok (.iaload, 1) := by decide +kernel
theorem dX9_copy_57 : decode cX9_copy 57 = .ok (.aload_n 0, 1) := by decide +kernel
theorem dX9_copy_58 : decode cX9_copy 58 = .ok (.getfield 7, 3) := by decide +kernel
theorem dX9_copy_61 : decode cX9_copy 61 = .ok (.iload_n 3, 1) := by decide +kernel
theorem dX9_copy_62 : decode cX9_copy 62 = .ok (.iaload, 1) := by decide +kernel
theorem dX9_copy_63 : decode cX9_copy 63 = .ok (.if_icmp .eq 9, 3) := by decide +kernel
theorem dX9_copy_66 : decode cX9_copy 66 = .ok (.aload_n 0, 1) := by decide +kernel
theorem dX9_copy_67 : decode cX9_copy 67 = .ok (.iconst 5, 1) := by decide +kernel
theorem dX9_copy_68 : decode cX9_copy 68 = .ok (.invokevirtual 75, 3) := by decide +kernel
theorem dX9_copy_71 : decode cX9_copy 71 = .ok (.ireturn, 1) := by decide +kernel
theorem dX9_copy_72 : decode cX9_copy 72 = .ok (.iload_n 2, 1) := by decide +kernel
theorem dX9_copy_73 : decode cX9_copy 73 = .ok (.ifCond .lt 48, 3) := by decide +kernel
theorem dX9_copy_76 : decode cX9_copy 76 = .ok (.iload 4, 2) := by decide +kernel
theorem dX9_copy_78 : decode cX9_copy 78 = .ok (.ifCond .lt 43, 3) := by decide +kernel
theorem dX9_copy_81 : decode cX9_copy 81 = .ok (.iload 5, 2) := by decide +kernel
theorem dX9_copy_83 : decode cX9_copy 83 = .ok (.ifCond .lt 38, 3) := by decide +kernel
theorem dX9_copy_86 : decode cX9_copy 86 = .ok (.iload_n 2, 1) := by decide +kernel
theorem dX9_copy_87 : decode cX9_copy 87 = .ok (.i2l, 1) := by decide +kernel
theorem dX9_copy_88 : decode cX9_copy 88 = .ok (.iload 5, 2) := by decide +kernel
theorem dX9_copy_90 : decode cX9_copy 90 = .ok (.i2l, 1) := by decide +kernel
theorem dX9_copy_91 : decode cX9_copy 91 = .ok (.ladd, 1) := by decide +kernel
theorem dX9_copy_92 : decode cX9_copy 92 = .ok (.aload_n 0, 1) := by decide +kernel
theorem dX9_copy_93 : decode cX9_copy 93 = .ok (.getfield 13, 3) := by decide +kernel
theorem dX9_copy_96 : decode cX9_copy 96 = .ok (.iload_n 1, 1) := by decide +kernel
theorem dX9_copy_97 : decode cX9_copy 97 = .ok (.iaload, 1) := by decide +kernel
theorem dX9_copy_98 : decode cX9_copy 98 = .ok (.i2l, 1) := by decide +kernel
theorem dX9_copy_99 : decode cX9_copy 99 = .ok (.lcmp, 1) := by decide +kernel
theorem dX9_copy_100 : decode cX9_copy 100 = .ok (.ifCond .gt 21, 3) := by decide +kernel
theorem dX9_copy_103 : decode cX9_copy 103 = .ok (.iload 4, 2) := by decide +kernel
theorem dX9_copy_105 : decode cX9_copy 105 = .ok (.i2l, 1) := by decide +kernel
theorem dX9_copy_106 : decode cX9_copy 106 = .ok (.iload 5, 2) := by decide +kernel
theorem dX9_copy_108 : decode cX9_copy 108 = .ok (.i2l, 1) := by decide +kernel
theorem dX9_copy_109 : decode cX9_copy 109 = .ok (.ladd, 1) := by decide +kernel
theorem dX9_copy_110 : decode cX9_copy 110 = .ok (.aload_n 0, 1) := by decide +kernel
theorem dX9_copy_111 : decode cX9_copy 111 = .ok (.getfield 13, 3) := by decide +kernel
theorem dX9_copy_114 : decode cX9_copy 114 = .ok (.iload_n 3, 1) := by decide +kernel
theorem dX9_copy_115 : decode cX9_copy 115 = .ok (.iaload, 1) := by decide +kernel
theorem dX9_copy_116 : decode cX9_copy 116 = .ok (.i2l, 1) := by decide +kernel
theorem dX9_copy_117 : decode cX9_copy 117 = .ok (.lcmp, 1) := by decide +kernel
theorem dX9_copy_118 : decode cX9_copy 118 = .ok (.ifCond .le 9, 3) := by decide +kernel
theorem dX9_copy_121 : decode cX9_copy 121 = .ok (.aload_n 0, 1) := by decide +kernel
theorem dX9_copy_122 : decode cX9_copy 122 = .ok (.iconst 2, 1) := by decide +kernel
theorem dX9_copy_123 : decode cX9_copy 123 = .ok (.invokevirtual 75, 3) := by decide +kernel
theorem dX9_copy_126 : decode cX9_copy 126 = .ok (.ireturn, 1) := by decide +kernel
theorem dX9_copy_127 : decode cX9_copy 127 = .ok (.iload_n 2, 1) := by decide +kernel
theorem dX9_copy_128 : decode cX9_copy 128 = .ok (.iload 4, 2) := by decide +kernel
theorem dX9_copy_130 : decode cX9_copy 130 = .ok (.if_icmp .lt 7, 3) := by decide +kernel
theorem dX9_copy_133 : decode cX9_copy 133 = .ok (.iconst 1, 1) := by decide +kernel
theorem dX9_copy_134 : decode cX9_copy 134 = .ok (.goto 4, 3) := by decide +kernel
theorem dX9_copy_137 : decode cX9_copy 137 = .ok (.iconst 0, 1) := by decide +kernel
theorem dX9_copy_138 : decode cX9_copy 138 = .ok (.istore 6, 2) := by decide +kernel
theorem dX9_copy_140 : decode cX9_copy 140 = .ok (.iconst 0, 1) := by decide +kernel
theorem dX9_copy_141 : decode cX9_copy 141 = .ok (.istore 7, 2) := by decide +kernel
theorem dX9_copy_143 : decode cX9_copy 143 = .ok (.iload 7, 2) := by decide +kernel
theorem dX9_copy_145 : decode cX9_copy 145 = .ok (.iload 5, 2) := by decide +kernel
theorem dX9_copy_147 : decode cX9_copy 147 = .ok (.if_icmp .ge 57, 3) := by decide +kernel
theorem dX9_copy_150 : decode cX9_copy 150 = .ok (.iload 6, 2) := by decide +kernel
theorem dX9_copy_152 : decode cX9_copy 152 = .ok (.ifCond .eq 8, 3) := by decide +kernel
theorem dX9_copy_155 : decode cX9_copy 155 = .ok (.iload 7, 2) := by decide +kernel
theorem dX9_copy_157 : decode cX9_copy 157 = .ok (.goto 10, 3) := by decide +kernel
theorem dX9_copy_160 : decode cX9_copy 160 = .ok (.iload 5, 2) := by decide +kernel
theorem dX9_copy_162 : decode cX9_copy 162 = .ok (.iconst 1, 1) := by decide +kernel
theorem dX9_copy_163 : decode cX9_copy 163 = .ok (.isub, 1) := by decide +kernel
theorem dX9_copy_164 : decode cX9_copy 164 = .ok (.iload 7, 2) := by decide +kernel
theorem dX9_copy_166 : decode cX9_copy 166 = .ok (.isub, 1) := by decide +kernel
theorem dX9_copy_167 : decode cX9_copy 167 = .ok (.istore 8, 2) := by decide +kernel
theorem dX9_copy_169 : decode cX9_copy 169 = .ok (.aload_n 0, 1) := by decide +kernel
theorem dX9_copy_170 : decode cX9_copy 170 = .ok (.getfield 16, 3) := by decide +kernel
theorem dX9_copy_173 : decode cX9_copy 173 = .ok (.bipush 40, 2) := by decide +kernel
theorem dX9_copy_175 : decode cX9_copy 175 = .ok (.iload_n 3, 1) := by decide +kernel
theorem dX9_copy_176 : decode cX9_copy 176 = .ok (.imul, 1) := by decide +kernel
theorem dX9_copy_177 : decode cX9_copy 177 = .ok (.iload 4, 2) := by decide +kernel
theorem dX9_copy_179 : decode cX9_copy 179 = .ok (.iadd, 1) := by decide +kernel
theorem dX9_copy_180 : decode cX9_copy 180 = .ok (.iload 8, 2) := by decide +kernel
theorem dX9_copy_182 : decode cX9_copy 182 = .ok (.iadd, 1) := by decide +kernel
theorem dX9_copy_183 : decode cX9_copy 183 = .ok (.aload_n 0, 1) := by decide +kernel
theorem dX9_copy_184 : decode cX9_copy 184 = .ok (.getfield 16, 3) := by decide +kernel
theorem dX9_copy_187 : decode cX9_copy 187 = .ok (.bipush 40, 2) := by decide +kernel
theorem dX9_copy_189 : decode cX9_copy 189 = .ok (.iload_n 1, 1) := by decide +kernel
theorem dX9_copy_190 : decode cX9_copy 190 = .ok (.imul, 1) := by decide +kernel
theorem dX9_copy_191 : decode cX9_copy 191 = .ok (.iload_n 2, 1) := by decide +kernel
theorem dX9_copy_192 : decode cX9_copy 192 = .ok (.iadd, 1) := by decide +kernel
theorem dX9_copy_193 : decode cX9_copy 193 = .ok (.iload 8, 2) := by decide +kernel
theorem dX9_copy_195 : decode cX9_copy 195 = .ok (.iadd, 1) := by decide +kernel
theorem dX9_copy_196 : decode cX9_copy 196 = .ok (.iaload, 1) := by decide +kernel
theorem dX9_copy_197 : decode cX9_copy 197 = .ok (.iastore, 1) := by decide +kernel
theorem dX9_copy_198 : decode cX9_copy 198 = .ok (.iinc 7 1, 3) := by decide +kernel
theorem dX9_copy_201 : decode cX9_copy 201 = .ok (.goto (-58), 3) := by decide +kernel
theorem dX9_copy_204 : decode cX9_copy 204 = .ok (.iload 5, 2) := by decide +kernel
theorem dX9_copy_206 : decode cX9_copy 206 = .ok (.ireturn, 1) := by decide +kernel
theorem dX9_drop_0 : decode cX9_drop 0 = .ok (.aload_n 0, 1) := by decide +kernel
theorem dX9_drop_1 : decode cX9_drop 1 = .ok (.iconst 0, 1) := by decide +kernel
theorem dX9_drop_2 : decode cX9_drop 2 = .ok (.putfield 54, 3) := by decide +kernel
theorem dX9_drop_5 : decode cX9_drop 5 = .ok (.iload_n 1, 1) := by decide +kernel
theorem dX9_drop_6 : decode cX9_drop 6 = .ok (.invokestatic 68, 3) := by decide +kernel
theorem dX9_drop_9 : decode cX9_drop 9 = .ok (.ifCond .ne 6, 3) := by decide +kernel
theorem dX9_drop_12 : decode cX9_drop 12 = .ok (.ldc 74, 2) := by decide +kernel
theorem dX9_drop_14 : decode cX9_drop 14 = .ok (.ireturn, 1) := by decide +kernel
theorem dX9_drop_15 : decode cX9_drop 15 = .ok (.aload_n 0, 1) := by decide +kernel
theorem dX9_drop_16 : decode cX9_drop 16 = .ok (.iconst 0, 1) := by decide +kernel
theorem dX9_drop_17 : decode cX9_drop 17 = .ok (.putfield 58, 3) := by decide +kernel
theorem dX9_drop_20 : decode cX9_drop 20 = .ok (.aload_n 0, 1) := by decide +kernel
theorem dX9_drop_21 : decode cX9_drop 21 = .ok (.getfield 7, 3) := by decide +kernel
theorem dX9_drop_24 : decode cX9_drop 24 = .ok (.iload_n 1, 1) := by decide +kernel
theorem dX9_drop_25 : decode cX9_drop 25 = .ok (.iaload, 1) := by decide +kernel
theorem dX9_drop_26 : decode cX9_drop 26 = .ok (.ifCond .ge 9, 3) := by decide +kernel
theorem dX9_drop_29 : decode cX9_drop 29 = .ok (.aload_n 0, 1) := by decide +kernel
theorem dX9_drop_30 : decode cX9_drop 30 = .ok (.iconst 1, 1) := by decide +kernel
theorem dX9_drop_31 : decode cX9_drop 31 = .ok (.invokevirtual 75, 3) := by decide +kernel
theorem dX9_drop_34 : decode cX9_drop 34 = .ok (.ireturn, 1) := by decide +kernel
theorem dX9_drop_35 : decode cX9_drop 35 = .ok (.aload_n 0, 1) := by decide +kernel
theorem dX9_drop_36 : decode cX9_drop 36 = .ok (.getfield 7, 3) := by decide +kernel
theorem dX9_drop_39 : decode cX9_drop 39 = .ok (.iload_n 1, 1) := by decide +kernel
theorem dX9_drop_40 : decode cX9_drop 40 = .ok (.iconst (-1), 1) := by decide +kernel
theorem dX9_drop_41 : decode cX9_drop 41 = .ok (.iastore, 1) := by decide +kernel
theorem dX9_drop_42 : decode cX9_drop 42 = .ok (.aload_n 0, 1) := by decide +kernel
theorem dX9_drop_43 : decode cX9_drop 43 = .ok (.getfield 13, 3) := by decide +kernel
theorem dX9_drop_46 : decode cX9_drop 46 = .ok (.iload_n 1, 1) := by decide +kernel
theorem dX9_drop_47 : decode cX9_drop 47 = .ok (.iaload, 1) := by decide +kernel
theorem dX9_drop_48 : decode cX9_drop 48 = .ok (.ireturn, 1) := by decide +kernel
theorem dX9_feed_0 : decode cX9_feed 0 = .ok (.aload_n 0, 1) := by decide +kernel
theorem dX9_feed_1 : decode cX9_feed 1 = .ok (.iconst 0, 1) := by decide +kernel
theorem dX9_feed_2 : decode cX9_feed 2 = .ok (.putfield 54, 3) := by decide +kernel
theorem dX9_feed_5 : decode cX9_feed 5 = .ok (.iload_n 3, 1) := by decide +kernel
theorem dX9_feed_6 : decode cX9_feed 6 = .ok (.i2l, 1) := by decide +kernel
theorem dX9_feed_7 : decode cX9_feed 7 = .ok (.lconst 1, 1) := by decide +kernel
theorem dX9_feed_8 : decode cX9_feed 8 = .ok (.ldc2_w 79, 3) := by decide +kernel
theorem dX9_feed_11 : decode cX9_feed 11 = .ok (.invokestatic 64, 3) := by decide +kernel
theorem dX9_feed_14 : decode cX9_feed 14 = .ok (.ifCond .ne 6, 3) := by decide +kernel
theorem dX9_feed_17 : decode cX9_feed 17 = .ok (.ldc 74, 2) := by decide +kernel
theorem dX9_feed_19 : decode cX9_feed 19 = .ok (.ireturn, 1) := by decide +kernel
theorem dX9_feed_20 : decode cX9_feed 20 = .ok (.aload_n 0, 1) := by decide +kernel
theorem dX9_feed_21 : decode cX9_feed 21 = .ok (.getfield 81, 3) := by decide +kernel
theorem dX9_feed_24 : decode cX9_feed 24 = .ok (.iload_n 3, 1) := by decide +kernel
theorem dX9_feed_25 : decode cX9_feed 25 = .ok (.iadd, 1) := by decide +kernel
theorem dX9_feed_26 : decode cX9_feed 26 = .ok (.sipush 500, 3) := by decide +kernel
theorem dX9_feed_29 : decode cX9_feed 29 = .ok (.if_icmp .le 6, 3) := by decide +kernel
theorem dX9_feed_32 : decode cX9_feed 32 = .ok (.ldc 84, 2) := by decide +kernel
theorem dX9_feed_34 : decode cX9_feed 34 = .ok (.ireturn, 1) := by decide +kernel
theorem dX9_feed_35 : decode cX9_feed 35 = .ok (.iload_n 3, 1) := by decide +kernel
theorem dX9_feed_36 : decode cX9_feed 36 = .ok (.iconst 1, 1) := by decide +kernel
theorem dX9_feed_37 : decode cX9_feed 37 = .ok (.isub, 1) := by decide +kernel
theorem dX9_feed_38 : decode cX9_feed 38 = .ok (.istore 4, 2) := by decide +kernel
theorem dX9_feed_40 : decode cX9_feed 40 = .ok (.iload 4, 2) := by decide +kernel
theorem dX9_feed_42 : decode cX9_feed 42 = .ok (.ifCond .lt 40, 3) := by decide +kernel
theorem dX9_feed_45 : decode cX9_feed 45 = .ok (.aload_n 0, 1) := by decide +kernel
theorem dX9_feed_46 : decode cX9_feed 46 = .ok (.getfield 28, 3) := by decide +kernel
theorem dX9_feed_49 : decode cX9_feed 49 = .ok (.aload_n 0, 1) := by decide +kernel
theorem dX9_feed_50 : decode cX9_feed 50 = .ok (.getfield 81, 3) := by decide +kernel
theorem dX9_feed_53 : decode cX9_feed 53 = .ok (.lload_n 1, 1) := by decide +kernel
theorem dX9_feed_54 : decode cX9_feed 54 = .ok (.bipush 8, 2) := by decide +kernel
theorem dX9_feed_56 : decode cX9_feed 56 = .ok (.iload 4, 2) := by decide +kernel
theorem dX9_feed_58 : decode cX9_feed 58 = .ok (.imul, 1) := by decide +kernel
theorem dX9_feed_59 : decode cX9_feed 59 = .ok (.lshr, 1) := by decide +kernel
theorem dX9_feed_60 : decode cX9_feed 60 = .ok (.ldc2_w 85, 3) := by decide +kernel
theorem dX9_feed_63 : decode cX9_feed 63 = .ok (.land, 1) := by decide +kernel
theorem dX9_feed_64 : decode cX9_feed 64 = .ok (.l2i, 1) := by decide +kernel
theorem dX9_feed_65 : decode cX9_feed 65 = .ok (.iastore, 1) := by decide +kernel
theorem dX9_feed_66 : decode cX9_feed 66 = .ok (.aload_n 0, 1) := by decide +kernel
theorem dX9_feed_67 : decode cX9_feed 67 = .ok (.dup, 1) := by decide +kernel
theorem dX9_feed_68 : decode cX9_feed 68 = .ok (.getfield 81, 3) := by decide +kernel
theorem dX9_feed_71 : decode cX9_feed 71 = .ok (.iconst 1, 1) := by decide +kernel
theorem dX9_feed_72 : decode cX9_feed 72 = .ok (.iadd, 1) := by decide +kernel
theorem dX9_feed_73 : decode cX9_feed 73 = .ok (.putfield 81, 3) := by decide +kernel
theorem dX9_feed_76 : decode cX9_feed 76 = .ok (.iinc 4 (-1), 3) := by decide +kernel
theorem dX9_feed_79 : decode cX9_feed 79 = .ok (.goto (-39), 3) := by decide +kernel
theorem dX9_feed_82 : decode cX9_feed 82 = .ok (.aload_n 0, 1) := by decide +kernel
theorem dX9_feed_83 : decode cX9_feed 83 = .ok (.getfield 81, 3) := by decide +kernel
theorem dX9_feed_86 : decode cX9_feed 86 = .ok (.ireturn, 1) := by decide +kernel
theorem dX9_byteAt_0 : decode cX9_byteAt 0 = .ok (.iload_n 1, 1) := by decide +kernel
theorem dX9_byteAt_1 : decode cX9_byteAt 1 = .ok (.aload_n 0, 1) := by decide +kernel
theorem dX9_byteAt_2 : decode cX9_byteAt 2 = .ok (.getfield 87, 3) := by decide +kernel
theorem dX9_byteAt_5 : decode cX9_byteAt 5 = .ok (.if_icmp .ge 12, 3) := by decide +kernel
theorem dX9_byteAt_8 : decode cX9_byteAt 8 = .ok (.aload_n 0, 1) := by decide +kernel
theorem dX9_byteAt_9 : decode cX9_byteAt 9 = .ok (.getfield 28, 3) := by decide +kernel
theorem dX9_byteAt_12 : decode cX9_byteAt 12 = .ok (.iload_n 1, 1) := by decide +kernel
theorem dX9_byteAt_13 : decode cX9_byteAt 13 = .ok (.iaload, 1) := by decide +kernel
theorem dX9_byteAt_14 : decode cX9_byteAt 14 = .ok (.goto 5, 3) := by decide +kernel
theorem dX9_byteAt_17 : decode cX9_byteAt 17 = .ok (.ldc 90, 2) := by decide +kernel
theorem dX9_byteAt_19 : decode cX9_byteAt 19 = .ok (.ireturn, 1) := by decide +kernel
theorem dX9_isLetter_0 : decode cX9_isLetter 0 = .ok (.iload_n 0, 1) := by decide +kernel
theorem dX9_isLetter_1 : decode cX9_isLetter 1 = .ok (.bipush 97, 2) := by decide +kernel
theorem dX9_isLetter_3 : decode cX9_isLetter 3 = .ok (.if_icmp .lt 13, 3) := by decide +kernel
theorem dX9_isLetter_6 : decode cX9_isLetter 6 = .ok (.iload_n 0, 1) := by decide +kernel
theorem dX9_isLetter_7 : decode cX9_isLetter 7 = .ok (.bipush 122, 2) := by decide +kernel
theorem dX9_isLetter_9 : decode cX9_isLetter 9 = .ok (.if_icmp .gt 7, 3) := by decide +kernel
theorem dX9_isLetter_12 : decode cX9_isLetter 12 = .ok (.iconst 1, 1) := by decide +kernel
theorem dX9_isLetter_13 : decode cX9_isLetter 13 = .ok (.goto 4, 3) := by decide +kernel
theorem dX9_isLetter_16 : decode cX9_isLetter 16 = .ok (.iconst 0, 1) := by decide +kernel
theorem dX9_isLetter_17 : decode cX9_isLetter 17 = .ok (.ireturn, 1) := by decide +kernel
theorem dX9_isFigure_0 : decode cX9_isFigure 0 = .ok (.iload_n 0, 1) := by decide +kernel
theorem dX9_isFigure_1 : decode cX9_isFigure 1 = .ok (.bipush 48, 2) := by decide +kernel
theorem dX9_isFigure_3 : decode cX9_isFigure 3 = .ok (.if_icmp .lt 13, 3) := by decide +kernel
theorem dX9_isFigure_6 : decode cX9_isFigure 6 = .ok (.iload_n 0, 1) := by decide +kernel
theorem dX9_isFigure_7 : decode cX9_isFigure 7 = .ok (.bipush 57, 2) := by decide +kernel
theorem dX9_isFigure_9 : decode cX9_isFigure 9 = .ok (.if_icmp .gt 7, 3) := by decide +kernel
theorem dX9_isFigure_12 : decode cX9_isFigure 12 = .ok (.iconst 1, 1) := by decide +kernel
theorem dX9_isFigure_13 : decode cX9_isFigure 13 = .ok (.goto 4, 3) := by decide +kernel
theorem dX9_isFigure_16 : decode cX9_isFigure 16 = .ok (.iconst 0, 1) := by decide +kernel
theorem dX9_isFigure_17 : decode cX9_isFigure 17 = .ok (.ireturn, 1) := by decide +kernel
theorem dX9_next_0 : decode cX9_next 0 = .ok (.aload_n 0, 1) := by decide +kernel
theorem dX9_next_1 : decode cX9_next 1 = .ok (.aload_n 0, 1) := by decide +kernel
theorem dX9_next_2 : decode cX9_next 2 = .ok (.getfield 91, 3) := by decide +kernel
theorem dX9_next_5 : decode cX9_next 5 = .ok (.invokevirtual 94, 3) := by decide +kernel
theorem dX9_next_8 : decode cX9_next 8 = .ok (.bipush 32, 2) := by decide +kernel
theorem dX9_next_10 : decode cX9_next 10 = .ok (.if_icmp .eq 16, 3) := by decide +kernel
theorem dX9_next_13 : decode cX9_next 13 = .ok (.aload_n 0, 1) := by decide +kernel
theorem dX9_next_14 : decode cX9_next 14 = .ok (.aload_n 0, 1) := by decide +kernel
theorem dX9_next_15 : decode cX9_next 15 = .ok (.getfield 91, 3) := by decide +kernel
theorem dX9_next_18 : decode cX9_next 18 = .ok (.invokevirtual 94, 3) := by decide +kernel
theorem dX9_next_21 : decode cX9_next 21 = .ok (.bipush 10, 2) := by decide +kernel
theorem dX9_next_23 : decode cX9_next 23 = .ok (.if_icmp .ne 16, 3) := by decide +kernel
theorem dX9_next_26 : decode cX9_next 26 = .ok (.aload_n 0, 1) := by decide +kernel
theorem dX9_next_27 : decode cX9_next 27 = .ok (.dup, 1) := by decide +kernel
theorem dX9_next_28 : decode cX9_next 28 = .ok (.getfield 91, 3) := by decide +kernel
theorem dX9_next_31 : decode cX9_next 31 = .ok (.iconst 1, 1) := by decide +kernel
theorem dX9_next_32 : decode cX9_next 32 = .ok (.iadd, 1) := by decide +kernel
theorem dX9_next_33 : decode cX9_next 33 = .ok (.putfield 91, 3) := by decide +kernel
theorem dX9_next_36 : decode cX9_next 36 = .ok (.goto (-36), 3) := by decide +kernel
theorem dX9_next_39 : decode cX9_next 39 = .ok (.aload_n 0, 1) := by decide +kernel
theorem dX9_next_40 : decode cX9_next 40 = .ok (.aload_n 0, 1) := by decide +kernel
theorem dX9_next_41 : decode cX9_next 41 = .ok (.getfield 91, 3) := by decide +kernel
theorem dX9_next_44 : decode cX9_next 44 = .ok (.putfield 97, 3) := by decide +kernel
theorem dX9_next_47 : decode cX9_next 47 = .ok (.aload_n 0, 1) := by decide +kernel
theorem dX9_next_48 : decode cX9_next 48 = .ok (.aload_n 0, 1) := by decide +kernel
theorem dX9_next_49 : decode cX9_next 49 = .ok (.getfield 91, 3) := by decide +kernel
theorem dX9_next_52 : decode cX9_next 52 = .ok (.invokevirtual 94, 3) := by decide +kernel
theorem dX9_next_55 : decode cX9_next 55 = .ok (.istore_n 1, 1) := by decide +kernel
theorem dX9_next_56 : decode cX9_next 56 = .ok (.iload_n 1, 1) := by decide +kernel
theorem dX9_next_57 : decode cX9_next 57 = .ok (.ldc 90, 2) := by decide +kernel
theorem dX9_next_59 : decode cX9_next 59 = .ok (.if_icmp .ne 11, 3) := by decide +kernel
theorem dX9_next_62 : decode cX9_next 62 = .ok (.aload_n 0, 1) := by decide +kernel
theorem dX9_next_63 : decode cX9_next 63 = .ok (.iconst 1, 1) := by decide +kernel
theorem dX9_next_64 : decode cX9_next 64 = .ok (.putfield 100, 3) := by decide +kernel
theorem dX9_next_67 : decode cX9_next 67 = .ok (.goto 129, 3) := by decide +kernel
theorem dX9_next_70 : decode cX9_next 70 = .ok (.iload_n 1, 1) := by decide +kernel
theorem dX9_next_71 : decode cX9_next 71 = .ok (.invokestatic 103, 3) := by decide +kernel
theorem dX9_next_74 : decode cX9_next 74 = .ok (.ifCond .eq 38, 3) := by decide +kernel
theorem dX9_next_77 : decode cX9_next 77 = .ok (.aload_n 0, 1) := by decide +kernel
theorem dX9_next_78 : decode cX9_next 78 = .ok (.aload_n 0, 1) := by decide +kernel
theorem dX9_next_79 : decode cX9_next 79 = .ok (.getfield 91, 3) := by decide +kernel
theorem dX9_next_82 : decode cX9_next 82 = .ok (.invokevirtual 94, 3) := by decide +kernel
theorem dX9_next_85 : decode cX9_next 85 = .ok (.invokestatic 103, 3) := by decide +kernel
theorem dX9_next_88 : decode cX9_next 88 = .ok (.ifCond .eq 16, 3) := by decide +kernel
theorem dX9_next_91 : decode cX9_next 91 = .ok (.aload_n 0, 1) := by decide +kernel
theorem dX9_next_92 : decode cX9_next 92 = .ok (.dup, 1) := by decide +kernel
theorem dX9_next_93 : decode cX9_next 93 = .ok (.getfield 91, 3) := by decide +kernel
theorem dX9_next_96 : decode cX9_next 96 = .ok (.iconst 1, 1) := by decide +kernel
theorem dX9_next_97 : decode cX9_next 97 = .ok (.iadd, 1) := by decide +kernel
theorem dX9_next_98 : decode cX9_next 98 = .ok (.putfield 91, 3) := by decide +kernel
theorem dX9_next_101 : decode cX9_next 101 = .ok (.goto (-24), 3) := by decide +kernel
theorem dX9_next_104 : decode cX9_next 104 = .ok (.aload_n 0, 1) := by decide +kernel
theorem dX9_next_105 : decode cX9_next 105 = .ok (.iconst 2, 1) := by decide +kernel
theorem dX9_next_106 : decode cX9_next 106 = .ok (.putfield 100, 3) := by decide +kernel
theorem dX9_next_109 : decode cX9_next 109 = .ok (.goto 87, 3) := by decide +kernel
theorem dX9_next_112 : decode cX9_next 112 = .ok (.iload_n 1, 1) := by decide +kernel
theorem dX9_next_113 : decode cX9_next 113 = .ok (.invokestatic 106, 3) := by decide +kernel
theorem dX9_next_116 : decode cX9_next 116 = .ok (.ifCond .eq 55, 3) := by decide +kernel
theorem dX9_next_119 : decode cX9_next 119 = .ok (.aload_n 0, 1) := by decide +kernel
theorem dX9_next_120 : decode cX9_next 120 = .ok (.aload_n 0, 1) := by decide +kernel
theorem dX9_next_121 : decode cX9_next 121 = .ok (.getfield 91, 3) := by decide +kernel
theorem dX9_next_124 : decode cX9_next 124 = .ok (.invokevirtual 94, 3) := by decide +kernel
theorem dX9_next_127 : decode cX9_next 127 = .ok (.invokestatic 106, 3) := by decide +kernel
theorem dX9_next_130 : decode cX9_next 130 = .ok (.ifCond .eq 16, 3) := by decide +kernel
theorem dX9_next_133 : decode cX9_next 133 = .ok (.aload_n 0, 1) := by decide +kernel
theorem dX9_next_134 : decode cX9_next 134 = .ok (.dup, 1) := by decide +kernel
theorem dX9_next_135 : decode cX9_next 135 = .ok (.getfield 91, 3) := by decide +kernel
theorem dX9_next_138 : decode cX9_next 138 = .ok (.iconst 1, 1) := by decide +kernel
theorem dX9_next_139 : decode cX9_next 139 = .ok (.iadd, 1) := by decide +kernel
theorem dX9_next_140 : decode cX9_next 140 = .ok (.putfield 91, 3) := by decide +kernel
theorem dX9_next_143 : decode cX9_next 143 = .ok (.goto (-24), 3) := by decide +kernel
theorem dX9_next_146 : decode cX9_next 146 = .ok (.aload_n 0, 1) := by decide +kernel
theorem dX9_next_147 : decode cX9_next 147 = .ok (.aload_n 0, 1) := by decide +kernel
theorem dX9_next_148 : decode cX9_next 148 = .ok (.getfield 91, 3) := by decide +kernel
theorem dX9_next_151 : decode cX9_next 151 = .ok (.aload_n 0, 1) := by decide +kernel
theorem dX9_next_152 : decode cX9_next 152 = .ok (.getfield 97, 3) := by decide +kernel
theorem dX9_next_155 : decode cX9_next 155 = .ok (.isub, 1) := by decide +kernel
theorem dX9_next_156 : decode cX9_next 156 = .ok (.iconst 3, 1) := by decide +kernel
theorem dX9_next_157 : decode cX9_next 157 = .ok (.if_icmp .le 7, 3) := by decide +kernel
theorem dX9_next_160 : decode cX9_next 160 = .ok (.iconst 0, 1) := by decide +kernel
theorem dX9_next_161 : decode cX9_next 161 = .ok (.goto 4, 3) := by decide +kernel
theorem dX9_next_164 : decode cX9_next 164 = .ok (.iconst 3, 1) := by decide +kernel
theorem dX9_next_165 : decode cX9_next 165 = .ok (.putfield 100, 3) := by decide +kernel
theorem dX9_next_168 : decode cX9_next 168 = .ok (.goto 28, 3) := by decide +kernel
theorem dX9_next_171 : decode cX9_next 171 = .ok (.aload_n 0, 1) := by decide +kernel
theorem dX9_next_172 : decode cX9_next 172 = .ok (.dup, 1) := by decide +kernel
theorem dX9_next_173 : decode cX9_next 173 = .ok (.getfield 91, 3) := by decide +kernel
theorem dX9_next_176 : decode cX9_next 176 = .ok (.iconst 1, 1) := by decide +kernel
theorem dX9_next_177 : decode cX9_next 177 = .ok (.iadd, 1) := by decide +kernel
theorem dX9_next_178 : decode cX9_next 178 = .ok (.putfield 91, 3) := by decide +kernel
theorem dX9_next_181 : decode cX9_next 181 = .ok (.aload_n 0, 1) := by decide +kernel
theorem dX9_next_182 : decode cX9_next 182 = .ok (.iload_n 1, 1) := by decide +kernel
theorem dX9_next_183 : decode cX9_next 183 = .ok (.bipush 59, 2) := by decide +kernel
theorem dX9_next_185 : decode cX9_next 185 = .ok (.if_icmp .ne 7, 3) := by decide +kernel
theorem dX9_next_188 : decode cX9_next 188 = .ok (.iconst 4, 1) := by decide +kernel
theorem dX9_next_189 : decode cX9_next 189 = .ok (.goto 4, 3) := by decide +kernel
theorem dX9_next_192 : decode cX9_next 192 = .ok (.iconst 0, 1) := by decide +kernel
theorem dX9_next_193 : decode cX9_next 193 = .ok (.putfield 100, 3) := by decide +kernel
theorem dX9_next_196 : decode cX9_next 196 = .ok (.aload_n 0, 1) := by decide +kernel
theorem dX9_next_197 : decode cX9_next 197 = .ok (.aload_n 0, 1) := by decide +kernel
theorem dX9_next_198 : decode cX9_next 198 = .ok (.getfield 91, 3) := by decide +kernel
theorem dX9_next_201 : decode cX9_next 201 = .ok (.putfield 109, 3) := by decide +kernel
theorem dX9_next_204 : decode cX9_next 204 = .ok (.return_, 1) := by decide +kernel
theorem dX9_begin_0 : decode cX9_begin 0 = .ok (.aload_n 0, 1) := by decide +kernel
theorem dX9_begin_1 : decode cX9_begin 1 = .ok (.aload_n 0, 1) := by decide +kernel
theorem dX9_begin_2 : decode cX9_begin 2 = .ok (.getfield 81, 3) := by decide +kernel
theorem dX9_begin_5 : decode cX9_begin 5 = .ok (.putfield 87, 3) := by decide +kernel
theorem dX9_begin_8 : decode cX9_begin 8 = .ok (.aload_n 0, 1) := by decide +kernel
theorem dX9_begin_9 : decode cX9_begin 9 = .ok (.iconst 0, 1) := by decide +kernel
theorem dX9_begin_10 : decode cX9_begin 10 = .ok (.putfield 81, 3) := by decide +kernel
theorem dX9_begin_13 : decode cX9_begin 13 = .ok (.aload_n 0, 1) := by decide +kernel
theorem dX9_begin_14 : decode cX9_begin 14 = .ok (.iconst 0, 1) := by decide +kernel
theorem dX9_begin_15 : decode cX9_begin 15 = .ok (.putfield 91, 3) := by decide +kernel
theorem dX9_begin_18 : decode cX9_begin 18 = .ok (.aload_n 0, 1) := by decide +kernel
theorem dX9_begin_19 : decode cX9_begin 19 = .ok (.iconst 0, 1) := by decide +kernel
theorem dX9_begin_20 : decode cX9_begin 20 = .ok (.putfield 112, 3) := by decide +kernel
theorem dX9_begin_23 : decode cX9_begin 23 = .ok (.aload_n 0, 1) := by decide +kernel
theorem dX9_begin_24 : decode cX9_begin 24 = .ok (.invokevirtual 115, 3) := by decide +kernel
theorem dX9_begin_27 : decode cX9_begin 27 = .ok (.return_, 1) := by decide +kernel
theorem dX9_bad_0 : decode cX9_bad 0 = .ok (.aload_n 0, 1) := by decide +kernel
theorem dX9_bad_1 : decode cX9_bad 1 = .ok (.getfield 112, 3) := by decide +kernel
theorem dX9_bad_4 : decode cX9_bad 4 = .ok (.ifCond .ne 16, 3) := by decide +kernel
theorem dX9_bad_7 : decode cX9_bad 7 = .ok (.aload_n 0, 1) := by decide +kernel
theorem dX9_bad_8 : decode cX9_bad 8 = .ok (.iload_n 1, 1) := by decide +kernel
theorem dX9_bad_9 : decode cX9_bad 9 = .ok (.putfield 112, 3) := by decide +kernel
theorem dX9_bad_12 : decode cX9_bad 12 = .ok (.aload_n 0, 1) := by decide +kernel
theorem dX9_bad_13 : decode cX9_bad 13 = .ok (.aload_n 0, 1) := by decide +kernel
theorem dX9_bad_14 : decode cX9_bad 14 = .ok (.getfield 97, 3) := by decide +kernel
theorem dX9_bad_17 : decode cX9_bad 17 = .ok (.putfield 118, 3) := by decide +kernel
theorem dX9_bad_20 : decode cX9_bad 20 = .ok (.return_, 1) := by decide +kernel
theorem dX9_must_0 : decode cX9_must 0 = .ok (.iload_n 1, 1) := by decide +kernel
theorem dX9_must_1 : decode cX9_must 1 = .ok (.ifCond .ne 8, 3) := by decide +kernel
theorem dX9_must_4 : decode cX9_must 4 = .ok (.aload_n 0, 1) := by decide +kernel
theorem dX9_must_5 : decode cX9_must 5 = .ok (.iconst 1, 1) := by decide +kernel
theorem dX9_must_6 : decode cX9_must 6 = .ok (.invokevirtual 121, 3) := by decide +kernel
theorem dX9_must_9 : decode cX9_must 9 = .ok (.aload_n 0, 1) := by decide +kernel
theorem dX9_must_10 : decode cX9_must 10 = .ok (.getfield 112, 3) := by decide +kernel
theorem dX9_must_13 : decode cX9_must 13 = .ok (.ifCond .ne 7, 3) := by decide +kernel
theorem dX9_must_16 : decode cX9_must 16 = .ok (.aload_n 0, 1) := by decide +kernel
theorem dX9_must_17 : decode cX9_must 17 = .ok (.invokevirtual 115, 3) := by decide +kernel
theorem dX9_must_20 : decode cX9_must 20 = .ok (.return_, 1) := by decide +kernel
theorem dX9_name_0 : decode cX9_name 0 = .ok (.lconst 0, 1) := by decide +kernel
theorem dX9_name_1 : decode cX9_name 1 = .ok (.lstore_n 1, 1) := by decide +kernel
theorem dX9_name_2 : decode cX9_name 2 = .ok (.aload_n 0, 1) := by decide +kernel
theorem dX9_name_3 : decode cX9_name 3 = .ok (.getfield 97, 3) := by decide +kernel
theorem dX9_name_6 : decode cX9_name 6 = .ok (.istore_n 3, 1) := by decide +kernel
theorem dX9_name_7 : decode cX9_name 7 = .ok (.iload_n 3, 1) := by decide +kernel
theorem dX9_name_8 : decode cX9_name 8 = .ok (.aload_n 0, 1) := by decide +kernel
theorem dX9_name_9 : decode cX9_name 9 = .ok (.getfield 109, 3) := by decide +kernel
theorem dX9_name_12 : decode cX9_name 12 = .ok (.if_icmp .ge 44, 3) := by decide +kernel
theorem dX9_name_15 : decode cX9_name 15 = .ok (.aload_n 0, 1) := by decide +kernel
theorem dX9_name_16 : decode cX9_name 16 = .ok (.getfield 100, 3) := by decide +kernel
theorem dX9_name_19 : decode cX9_name 19 = .ok (.iconst 2, 1) := by decide +kernel
theorem dX9_name_20 : decode cX9_name 20 = .ok (.if_icmp .ne 36, 3) := by decide +kernel
theorem dX9_name_23 : decode cX9_name 23 = .ok (.aload_n 0, 1) := by decide +kernel
theorem dX9_name_24 : decode cX9_name 24 = .ok (.getfield 109, 3) := by decide +kernel
theorem dX9_name_27 : decode cX9_name 27 = .ok (.aload_n 0, 1) := by decide +kernel
theorem dX9_name_28 : decode cX9_name 28 = .ok (.getfield 97, 3) := by decide +kernel
theorem dX9_name_31 : decode cX9_name 31 = .ok (.isub, 1) := by decide +kernel
theorem dX9_name_32 : decode cX9_name 32 = .ok (.bipush 8, 2) := by decide +kernel
theorem dX9_name_34 : decode cX9_name 34 = .ok (.if_icmp .ge 22, 3) := by decide +kernel
theorem dX9_name_37 : decode cX9_name 37 = .ok (.lload_n 1, 1) := by decide +kernel
theorem dX9_name_38 : decode cX9_name 38 = .ok (.bipush 8, 2) := by decide +kernel
theorem dX9_name_40 : decode cX9_name 40 = .ok (.lshl, 1) := by decide +kernel
theorem dX9_name_41 : decode cX9_name 41 = .ok (.aload_n 0, 1) := by decide +kernel
theorem dX9_name_42 : decode cX9_name 42 = .ok (.getfield 28, 3) := by decide +kernel
theorem dX9_name_45 : decode cX9_name 45 = .ok (.iload_n 3, 1) := by decide +kernel
theorem dX9_name_46 : decode cX9_name 46 = .ok (.iaload, 1) := by decide +kernel
theorem dX9_name_47 : decode cX9_name 47 = .ok (.i2l, 1) := by decide +kernel
theorem dX9_name_48 : decode cX9_name 48 = .ok (.lor, 1) := by decide +kernel
theorem dX9_name_49 : decode cX9_name 49 = .ok (.lstore_n 1, 1) := by decide +kernel
theorem dX9_name_50 : decode cX9_name 50 = .ok (.iinc 3 1, 3) := by decide +kernel
theorem dX9_name_53 : decode cX9_name 53 = .ok (.goto (-46), 3) := by decide +kernel
theorem dX9_name_56 : decode cX9_name 56 = .ok (.aload_n 0, 1) := by decide +kernel
theorem dX9_name_57 : decode cX9_name 57 = .ok (.getfield 112, 3) := by decide +kernel
theorem dX9_name_60 : decode cX9_name 60 = .ok (.ifCond .ne 7, 3) := by decide +kernel
theorem dX9_name_63 : decode cX9_name 63 = .ok (.lload_n 1, 1) := by decide +kernel
theorem dX9_name_64 : decode cX9_name 64 = .ok (.goto 4, 3) := by decide +kernel
theorem dX9_name_67 : decode cX9_name 67 = .ok (.lconst 0, 1) := by decide +kernel
theorem dX9_name_68 : decode cX9_name 68 = .ok (.lreturn, 1) := by decide +kernel
theorem dX9_figures_0 : decode cX9_figures 0 = .ok (.iconst 0, 1) := by decide +kernel
theorem dX9_figures_1 : decode cX9_figures 1 = .ok (.istore_n 1, 1) := by decide +kernel
theorem dX9_figures_2 : decode cX9_figures 2 = .ok (.aload_n 0, 1) := by decide +kernel
theorem dX9_figures_3 : decode cX9_figures 3 = .ok (.getfield 97, 3) := by decide +kernel
theorem dX9_figures_6 : decode cX9_figures 6 = .ok (.istore_n 2, 1) := by decide +kernel
theorem dX9_figures_7 : decode cX9_figures 7 = .ok (.iload_n 2, 1) := by decide +kernel
theorem dX9_figures_8 : decode cX9_figures 8 = .ok (.aload_n 0, 1) := by decide +kernel
theorem dX9_figures_9 : decode cX9_figures 9 = .ok (.getfield 109, 3) := by decide +kernel
theorem dX9_figures_12 : decode cX9_figures 12 = .ok (.if_icmp .ge 32, 3) := by decide +kernel
theorem dX9_figures_15 : decode cX9_figures 15 = .ok (.aload_n 0, 1) := by decide +kernel
theorem dX9_figures_16 : decode cX9_figures 16 = .ok (.getfield 100, 3) := by decide +kernel
theorem dX9_figures_19 : decode cX9_figures 19 = .ok (.iconst 3, 1) := by decide +kernel
theorem dX9_figures_20 : decode cX9_figures 20 = .ok (.if_icmp .ne 24, 3) := by decide +kernel
theorem dX9_figures_23 : decode cX9_figures 23 = .ok (.bipush 10, 2) := by decide +kernel
theorem dX9_figures_25 : decode cX9_figures 25 = .ok (.iload_n 1, 1) := by decide +kernel
theorem dX9_figures_26 : decode cX9_figures 26 = .ok (.imul, 1) := by decide +kernel
theorem dX9_figures_27 : decode cX9_figures 27 = .ok (.aload_n 0, 1) := by decide +kernel
theorem dX9_figures_28 : decode cX9_figures 28 = .ok (.getfield 28, 3) := by decide +kernel
theorem dX9_figures_31 : decode cX9_figures 31 = .ok (.iload_n 2, 1) := by decide +kernel
theorem dX9_figures_32 : decode cX9_figures 32 = .ok (.iaload, 1) := by decide +kernel
theorem dX9_figures_33 : decode cX9_figures 33 = .ok (.iadd, 1) := by decide +kernel
theorem dX9_figures_34 : decode cX9_figures 34 = .ok (.bipush 48, 2) := by decide +kernel
theorem dX9_figures_36 : decode cX9_figures 36 = .ok (.isub, 1) := by decide +kernel
theorem dX9_figures_37 : decode cX9_figures 37 = .ok (.istore_n 1, 1) := by decide +kernel
theorem dX9_figures_38 : decode cX9_figures 38 = .ok (.iinc 2 1, 3) := by decide +kernel
theorem dX9_figures_41 : decode cX9_figures 41 = .ok (.goto (-34), 3) := by decide +kernel
theorem dX9_figures_44 : decode cX9_figures 44 = .ok (.iload_n 1, 1) := by decide +kernel
theorem dX9_figures_45 : decode cX9_figures 45 = .ok (.ireturn, 1) := by decide +kernel
theorem dX9_number_0 : decode cX9_number 0 = .ok (.aload_n 0, 1) := by decide +kernel
theorem dX9_number_1 : decode cX9_number 1 = .ok (.getfield 112, 3) := by decide +kernel
theorem dX9_number_4 : decode cX9_number 4 = .ok (.ifCond .le 5, 3) := by decide +kernel
theorem dX9_number_7 : decode cX9_number 7 = .ok (.iconst 0, 1) := by decide +kernel
theorem dX9_number_8 : decode cX9_number 8 = .ok (.ireturn, 1) := by decide +kernel
theorem dX9_number_9 : decode cX9_number 9 = .ok (.aload_n 0, 1) := by decide +kernel
theorem dX9_number_10 : decode cX9_number 10 = .ok (.invokevirtual 125, 3) := by decide +kernel
theorem dX9_number_13 : decode cX9_number 13 = .ok (.istore_n 3, 1) := by decide +kernel
theorem dX9_number_14 : decode cX9_number 14 = .ok (.aload_n 0, 1) := by decide +kernel
theorem dX9_number_15 : decode cX9_number 15 = .ok (.getfield 100, 3) := by decide +kernel
theorem dX9_number_18 : decode cX9_number 18 = .ok (.iconst 3, 1) := by decide +kernel
theorem dX9_number_19 : decode cX9_number 19 = .ok (.if_icmp .ne 20, 3) := by decide +kernel
theorem dX9_number_22 : decode cX9_number 22 = .ok (.iload_n 3, 1) := by decide +kernel
theorem dX9_number_23 : decode cX9_number 23 = .ok (.i2l, 1) := by decide +kernel
theorem dX9_number_24 : decode cX9_number 24 = .ok (.iload_n 1, 1) := by decide +kernel
theorem dX9_number_25 : decode cX9_number 25 = .ok (.i2l, 1) := by decide +kernel
theorem dX9_number_26 : decode cX9_number 26 = .ok (.iload_n 2, 1) := by decide +kernel
theorem dX9_number_27 : decode cX9_number 27 = .ok (.i2l, 1) := by decide +kernel
theorem dX9_number_28 : decode cX9_number 28 = .ok (.invokestatic 64, 3) := by decide +kernel
theorem dX9_number_31 : decode cX9_number 31 = .ok (.ifCond .ne 8, 3) := by decide +kernel
theorem dX9_number_34 : decode cX9_number 34 = .ok (.aload_n 0, 1) := by decide +kernel
theorem dX9_number_35 : decode cX9_number 35 = .ok (.iconst 2, 1) := by decide +kernel
theorem dX9_number_36 : decode cX9_number 36 = .ok (.invokevirtual 121, 3) := by decide +kernel
theorem dX9_number_39 : decode cX9_number 39 = .ok (.aload_n 0, 1) := by decide +kernel
theorem dX9_number_40 : decode cX9_number 40 = .ok (.aload_n 0, 1) := by decide +kernel
theorem dX9_number_41 : decode cX9_number 41 = .ok (.getfield 100, 3) := by decide +kernel
theorem dX9_number_44 : decode cX9_number 44 = .ok (.iconst 3, 1) := by decide +kernel
theorem dX9_number_45 : decode cX9_number 45 = .ok (.if_icmp .ne 7, 3) := by decide +kernel
theorem dX9_number_48 : decode cX9_number 48 = .ok (.iconst 1, 1) := by decide +kernel
theorem dX9_number_49 : decode cX9_number 49 = .ok (.goto 4, 3) := by decide +kernel
theorem dX9_number_52 : decode cX9_number 52 = .ok (.iconst 0, 1) := by decide +kernel
theorem dX9_number_53 : decode cX9_number 53 = .ok (.invokevirtual 129, 3) := by decide +kernel
theorem dX9_number_56 : decode cX9_number 56 = .ok (.iload_n 3, 1) := by decide +kernel
theorem dX9_number_57 : decode cX9_number 57 = .ok (.ireturn, 1) := by decide +kernel
theorem dX9_kindBy_0 : decode cX9_kindBy 0 = .ok (.lload_n 0, 1) := by decide +kernel
theorem dX9_kindBy_1 : decode cX9_kindBy 1 = .ok (.ldc2_w 133, 3) := by decide +kernel
theorem dX9_kindBy_4 : decode cX9_kindBy 4 = .ok (.lcmp, 1) := by decide +kernel
theorem dX9_kindBy_5 : decode cX9_kindBy 5 = .ok (.ifCond .ne 7, 3) := by decide +kernel
theorem dX9_kindBy_8 : decode cX9_kindBy 8 = .ok (.iconst 2, 1) := by decide +kernel
theorem dX9_kindBy_9 : decode cX9_kindBy 9 = .ok (.goto 53, 3) := by decide +kernel
theorem dX9_kindBy_12 : decode cX9_kindBy 12 = .ok (.lload_n 0, 1) := by decide +kernel
theorem dX9_kindBy_13 : decode cX9_kindBy 13 = .ok (.ldc2_w 135, 3) := by decide +kernel
theorem dX9_kindBy_16 : decode cX9_kindBy 16 = .ok (.lcmp, 1) := by decide +kernel
theorem dX9_kindBy_17 : decode cX9_kindBy 17 = .ok (.ifCond .ne 7, 3) := by decide +kernel
theorem dX9_kindBy_20 : decode cX9_kindBy 20 = .ok (.iconst 3, 1) := by decide +kernel
theorem dX9_kindBy_21 : decode cX9_kindBy 21 = .ok (.goto 41, 3) := by decide +kernel
theorem dX9_kindBy_24 : decode cX9_kindBy 24 = .ok (.lload_n 0, 1) := by decide +kernel
theorem dX9_kindBy_25 : decode cX9_kindBy 25 = .ok (.ldc2_w 137, 3) := by decide +kernel
theorem dX9_kindBy_28 : decode cX9_kindBy 28 = .ok (.lcmp, 1) := by decide +kernel
theorem dX9_kindBy_29 : decode cX9_kindBy 29 = .ok (.ifCond .ne 7, 3) := by decide +kernel
theorem dX9_kindBy_32 : decode cX9_kindBy 32 = .ok (.iconst 1, 1) := by decide +kernel
theorem dX9_kindBy_33 : decode cX9_kindBy 33 = .ok (.goto 29, 3) := by decide +kernel
theorem dX9_kindBy_36 : decode cX9_kindBy 36 = .ok (.lload_n 0, 1) := by decide +kernel
theorem dX9_kindBy_37 : decode cX9_kindBy 37 = .ok (.ldc2_w 139, 3) := by decide +kernel
theorem dX9_kindBy_40 : decode cX9_kindBy 40 = .ok (.lcmp, 1) := by decide +kernel
theorem dX9_kindBy_41 : decode cX9_kindBy 41 = .ok (.ifCond .ne 7, 3) := by decide +kernel
theorem dX9_kindBy_44 : decode cX9_kindBy 44 = .ok (.iconst 4, 1) := by decide +kernel
theorem dX9_kindBy_45 : decode cX9_kindBy 45 = .ok (.goto 17, 3) := by decide +kernel
theorem dX9_kindBy_48 : decode cX9_kindBy 48 = .ok (.lload_n 0, 1) := by decide +kernel
theorem dX9_kindBy_49 : decode cX9_kindBy 49 = .ok (.ldc2_w 141, 3) := by decide +kernel
theorem dX9_kindBy_52 : decode cX9_kindBy 52 = .ok (.lcmp, 1) := by decide +kernel
theorem dX9_kindBy_53 : decode cX9_kindBy 53 = .ok (.ifCond .ne 7, 3) := by decide +kernel
theorem dX9_kindBy_56 : decode cX9_kindBy 56 = .ok (.iconst 5, 1) := by decide +kernel
theorem dX9_kindBy_57 : decode cX9_kindBy 57 = .ok (.goto 5, 3) := by decide +kernel
theorem dX9_kindBy_60 : decode cX9_kindBy 60 = .ok (.ldc 90, 2) := by decide +kernel
theorem dX9_kindBy_62 : decode cX9_kindBy 62 = .ok (.ireturn, 1) := by decide +kernel
theorem dX9_mustEnd_0 : decode cX9_mustEnd 0 = .ok (.aload_n 0, 1) := by decide +kernel
theorem dX9_mustEnd_1 : decode cX9_mustEnd 1 = .ok (.getfield 112, 3) := by decide +kernel
theorem dX9_mustEnd_4 : decode cX9_mustEnd 4 = .ok (.ifCond .ne 20, 3) := by decide +kernel
theorem dX9_mustEnd_7 : decode cX9_mustEnd 7 = .ok (.aload_n 0, 1) := by decide +kernel
theorem dX9_mustEnd_8 : decode cX9_mustEnd 8 = .ok (.aload_n 0, 1) := by decide +kernel
theorem dX9_mustEnd_9 : decode cX9_mustEnd 9 = .ok (.getfield 100, 3) := by decide +kernel
theorem dX9_mustEnd_12 : decode cX9_mustEnd 12 = .ok (.iconst 4, 1) := by decide +kernel
theorem dX9_mustEnd_13 : decode cX9_mustEnd 13 = .ok (.if_icmp .ne 7, 3) := by decide +kernel
theorem dX9_mustEnd_16 : decode cX9_mustEnd 16 = .ok (.iconst 1, 1) := by decide +kernel
theorem dX9_mustEnd_17 : decode cX9_mustEnd 17 = .ok (.goto 4, 3) := by decide +kernel
theorem dX9_mustEnd_20 : decode cX9_mustEnd 20 = .ok (.iconst 0, 1) := by decide +kernel
theorem dX9_mustEnd_21 : decode cX9_mustEnd 21 = .ok (.invokevirtual 129, 3) := by decide +kernel
theorem dX9_mustEnd_24 : decode cX9_mustEnd 24 = .ok (.return_, 1) := by decide +kernel
theorem dX9_begins_0 : decode cX9_begins 0 = .ok (.aload_n 0, 1) := by decide +kernel
theorem dX9_begins_1 : decode cX9_begins 1 = .ok (.getfield 22, 3) := by decide +kernel
theorem dX9_begins_4 : decode cX9_begins 4 = .ok (.iload_n 1, 1) := by decide +kernel
theorem dX9_begins_5 : decode cX9_begins 5 = .ok (.iaload, 1) := by decide +kernel
theorem dX9_begins_6 : decode cX9_begins 6 = .ok (.iload_n 2, 1) := by decide +kernel
theorem dX9_begins_7 : decode cX9_begins 7 = .ok (.if_icmp .ne 8, 3) := by decide +kernel
theorem dX9_begins_10 : decode cX9_begins 10 = .ok (.aload_n 0, 1) := by decide +kernel
theorem dX9_begins_11 : decode cX9_begins 11 = .ok (.iconst 3, 1) := by decide +kernel
theorem dX9_begins_12 : decode cX9_begins 12 = .ok (.invokevirtual 121, 3) := by decide +kernel
theorem dX9_begins_15 : decode cX9_begins 15 = .ok (.aload_n 0, 1) := by decide +kernel
theorem dX9_begins_16 : decode cX9_begins 16 = .ok (.iconst 1, 1) := by decide +kernel
theorem dX9_begins_17 : decode cX9_begins 17 = .ok (.invokevirtual 129, 3) := by decide +kernel
theorem dX9_begins_20 : decode cX9_begins 20 = .ok (.return_, 1) := by decide +kernel
theorem dX9_readWind_0 : decode cX9_readWind 0 = .ok (.aload_n 0, 1) := by decide +kernel
theorem dX9_readWind_1 : decode cX9_readWind 1 = .ok (.aload_n 0, 1) := by decide +kernel
theorem dX9_readWind_2 : decode cX9_readWind 2 = .ok (.invokevirtual 143, 3) := by decide +kernel
theorem dX9_readWind_5 : decode cX9_readWind 5 = .ok (.ldc2_w 147, 3) := by decide +kernel
theorem dX9_readWind_8 : decode cX9_readWind 8 = .ok (.lcmp, 1) := by decide +kernel
theorem dX9_readWind_9 : decode cX9_readWind 9 = .ok (.ifCond .ne 7, 3) := by decide +kernel
theorem dX9_readWind_12 : decode cX9_readWind 12 = .ok (.iconst 1, 1) := by decide +kernel
theorem dX9_readWind_13 : decode cX9_readWind 13 = .ok (.goto 4, 3) := by decide +kernel
theorem dX9_readWind_16 : decode cX9_readWind 16 = .ok (.iconst 0, 1) := by decide +kernel
theorem dX9_readWind_17 : decode cX9_readWind 17 = .ok (.invokevirtual 129, 3) := by decide +kernel
theorem dX9_readWind_20 : decode cX9_readWind 20 = .ok (.iconst 0, 1) := by decide +kernel
theorem dX9_readWind_21 : decode cX9_readWind 21 = .ok (.istore_n 1, 1) := by decide +kernel
theorem dX9_readWind_22 : decode cX9_readWind 22 = .ok (.iload_n 1, 1) := by decide +kernel
theorem dX9_readWind_23 : decode cX9_readWind 23 = .ok (.bipush 12, 2) := by decide +kernel
theorem dX9_readWind_25 : decode cX9_readWind 25 = .ok (.if_icmp .ge 24, 3) := by decide +kernel
theorem dX9_readWind_28 : decode cX9_readWind 28 = .ok (.aload_n 0, 1) := by decide +kernel
theorem dX9_readWind_29 : decode cX9_readWind 29 = .ok (.getfield 22, 3) := by decide +kernel
theorem dX9_readWind_32 : decode cX9_readWind 32 = .ok (.iconst 3, 1) := by decide +kernel
theorem dX9_readWind_33 : decode cX9_readWind 33 = .ok (.iload_n 1, 1) := by decide +kernel
theorem dX9_readWind_34 : decode cX9_readWind 34 = .ok (.iadd, 1) := by decide +kernel
theorem dX9_readWind_35 : decode cX9_readWind 35 = .ok (.aload_n 0, 1) := by decide +kernel
theorem dX9_readWind_36 : decode cX9_readWind 36 = .ok (.iconst 0, 1) := by decide +kernel
theorem dX9_readWind_37 : decode cX9_readWind 37 = .ok (.bipush 100, 2) := by decide +kernel
theorem dX9_readWind_39 : decode cX9_readWind 39 = .ok (.invokevirtual 149, 3) := by decide +kernel
theorem dX9_readWind_42 : decode cX9_readWind 42 = .ok (.iastore, 1) := by decide +kernel
theorem dX9_readWind_43 : decode cX9_readWind 43 = .ok (.iinc 1 1, 3) := by decide +kernel
theorem dX9_readWind_46 : decode cX9_readWind 46 = .ok (.goto (-24), 3) := by decide +kernel
theorem dX9_readWind_49 : decode cX9_readWind 49 = .ok (.aload_n 0, 1) := by decide +kernel
theorem dX9_readWind_50 : decode cX9_readWind 50 = .ok (.invokevirtual 153, 3) := by decide +kernel
theorem dX9_readWind_53 : decode cX9_readWind 53 = .ok (.return_, 1) := by decide +kernel
theorem dX9_readDesk_0 : decode cX9_readDesk 0 = .ok (.aload_n 0, 1) := by decide +kernel
theorem dX9_readDesk_1 : decode cX9_readDesk 1 = .ok (.iconst 0, 1) := by decide +kernel
theorem dX9_readDesk_2 : decode cX9_readDesk 2 = .ok (.iconst 4, 1) := by decide +kernel
theorem dX9_readDesk_3 : decode cX9_readDesk 3 = .ok (.invokevirtual 156, 3) := by decide +kernel
theorem dX9_readDesk_6 : decode cX9_readDesk 6 = .ok (.aload_n 0, 1) := by decide +kernel
theorem dX9_readDesk_7 : decode cX9_readDesk 7 = .ok (.iconst 1, 1) := by decide +kernel
theorem dX9_readDesk_8 : decode cX9_readDesk 8 = .ok (.bipush 9, 2) := by decide +kernel
theorem dX9_readDesk_10 : decode cX9_readDesk 10 = .ok (.invokevirtual 149, 3) := by decide +kernel
theorem dX9_readDesk_13 : decode cX9_readDesk 13 = .ok (.istore_n 1, 1) := by decide +kernel
theorem dX9_readDesk_14 : decode cX9_readDesk 14 = .ok (.aload_n 0, 1) := by decide +kernel
theorem dX9_readDesk_15 : decode cX9_readDesk 15 = .ok (.iconst 0, 1) := by decide +kernel
theorem dX9_readDesk_16 : decode cX9_readDesk 16 = .ok (.iconst 3, 1) := by decide +kernel
theorem dX9_readDesk_17 : decode cX9_readDesk 17 = .ok (.invokevirtual 149, 3) := by decide +kernel
theorem dX9_readDesk_20 : decode cX9_readDesk 20 = .ok (.istore_n 2, 1) := by decide +kernel
theorem dX9_readDesk_21 : decode cX9_readDesk 21 = .ok (.aload_n 0, 1) := by decide +kernel
theorem dX9_readDesk_22 : decode cX9_readDesk 22 = .ok (.invokevirtual 153, 3) := by decide +kernel
theorem dX9_readDesk_25 : decode cX9_readDesk 25 = .ok (.aload_n 0, 1) := by decide +kernel
theorem dX9_readDesk_26 : decode cX9_readDesk 26 = .ok (.getfield 112, 3) := by decide +kernel
theorem dX9_readDesk_29 : decode cX9_readDesk 29 = .ok (.ifCond .ne 49, 3) := by decide +kernel
theorem dX9_readDesk_32 : decode cX9_readDesk 32 = .ok (.aload_n 0, 1) := by decide +kernel
theorem dX9_readDesk_33 : decode cX9_readDesk 33 = .ok (.getfield 22, 3) := by decide +kernel
theorem dX9_readDesk_36 : decode cX9_readDesk 36 = .ok (.bipush 15, 2) := by decide +kernel
theorem dX9_readDesk_38 : decode cX9_readDesk 38 = .ok (.iconst 2, 1) := by decide +kernel
theorem dX9_readDesk_39 : decode cX9_readDesk 39 = .ok (.aload_n 0, 1) := by decide +kernel
theorem dX9_readDesk_40 : decode cX9_readDesk 40 = .ok (.getfield 22, 3) := by decide +kernel
theorem dX9_readDesk_43 : decode cX9_readDesk 43 = .ok (.iconst 0, 1) := by decide +kernel
theorem dX9_readDesk_44 : decode cX9_readDesk 44 = .ok (.iaload, 1) := by decide +kernel
theorem dX9_readDesk_45 : decode cX9_readDesk 45 = .ok (.imul, 1) := by decide +kernel
theorem dX9_readDesk_46 : decode cX9_readDesk 46 = .ok (.iadd, 1) := by decide +kernel
theorem dX9_readDesk_47 : decode cX9_readDesk 47 = .ok (.iload_n 1, 1) := by decide +kernel
theorem dX9_readDesk_48 : decode cX9_readDesk 48 = .ok (.iastore, 1) := by decide +kernel
theorem dX9_readDesk_49 : decode cX9_readDesk 49 = .ok (.aload_n 0, 1) := by decide +kernel
theorem dX9_readDesk_50 : decode cX9_readDesk 50 = .ok (.getfield 22, 3) := by decide +kernel
theorem dX9_readDesk_53 : decode cX9_readDesk 53 = .ok (.bipush 15, 2) := by decide +kernel
theorem dX9_readDesk_55 : decode cX9_readDesk 55 = .ok (.iconst 2, 1) := by decide +kernel
theorem dX9_readDesk_56 : decode cX9_readDesk 56 = .ok (.aload_n 0, 1) := by decide +kernel
theorem dX9_readDesk_57 : decode cX9_readDesk 57 = .ok (.getfield 22, 3) := by decide +kernel
end
section
theorem dX9_readDesk_60 : decode cX9_readDesk 60 = .ok (.iconst 0, 1) := by decide +kernel
theorem dX9_readDesk_61 : decode cX9_readDesk 61 = .ok (.iaload, 1) := by decide +kernel
theorem dX9_readDesk_62 : decode cX9_readDesk 62 = .ok (.imul, 1) := by decide +kernel
theorem dX9_readDesk_63 : decode cX9_readDesk 63 = .ok (.iadd, 1) := by decide +kernel
theorem dX9_readDesk_64 : decode cX9_readDesk 64 = .ok (.iconst 1, 1) := by decide +kernel
theorem dX9_readDesk_65 : decode cX9_readDesk 65 = .ok (.iadd, 1) := by decide +kernel
theorem dX9_readDesk_66 : decode cX9_readDesk 66 = .ok (.iload_n 2, 1) := by decide +kernel
theorem dX9_readDesk_67 : decode cX9_readDesk 67 = .ok (.iastore, 1) := by decide +kernel
theorem dX9_readDesk_68 : decode cX9_readDesk 68 = .ok (.aload_n 0, 1) := by decide +kernel
theorem dX9_readDesk_69 : decode cX9_readDesk 69 = .ok (.getfield 22, 3) := by decide +kernel
theorem dX9_readDesk_72 : decode cX9_readDesk 72 = .ok (.iconst 0, 1) := by decide +kernel
theorem dX9_readDesk_73 : decode cX9_readDesk 73 = .ok (.dup2, 1) := by decide +kernel
theorem dX9_readDesk_74 : decode cX9_readDesk 74 = .ok (.iaload, 1) := by decide +kernel
theorem dX9_readDesk_75 : decode cX9_readDesk 75 = .ok (.iconst 1, 1) := by decide +kernel
theorem dX9_readDesk_76 : decode cX9_readDesk 76 = .ok (.iadd, 1) := by decide +kernel
theorem dX9_readDesk_77 : decode cX9_readDesk 77 = .ok (.iastore, 1) := by decide +kernel
theorem dX9_readDesk_78 : decode cX9_readDesk 78 = .ok (.return_, 1) := by decide +kernel
theorem dX9_readSheet_0 : decode cX9_readSheet 0 = .ok (.aload_n 0, 1) := by decide +kernel
theorem dX9_readSheet_1 : decode cX9_readSheet 1 = .ok (.iconst 1, 1) := by decide +kernel
theorem dX9_readSheet_2 : decode cX9_readSheet 2 = .ok (.bipush 12, 2) := by decide +kernel
theorem dX9_readSheet_4 : decode cX9_readSheet 4 = .ok (.invokevirtual 156, 3) := by decide +kernel
theorem dX9_readSheet_7 : decode cX9_readSheet 7 = .ok (.aload_n 0, 1) := by decide +kernel
theorem dX9_readSheet_8 : decode cX9_readSheet 8 = .ok (.invokevirtual 143, 3) := by decide +kernel
theorem dX9_readSheet_11 : decode cX9_readSheet 11 = .ok (.invokestatic 160, 3) := by decide +kernel
theorem dX9_readSheet_14 : decode cX9_readSheet 14 = .ok (.istore_n 1, 1) := by decide +kernel
theorem dX9_readSheet_15 : decode cX9_readSheet 15 = .ok (.aload_n 0, 1) := by decide +kernel
theorem dX9_readSheet_16 : decode cX9_readSheet 16 = .ok (.getfield 112, 3) := by decide +kernel
theorem dX9_readSheet_19 : decode cX9_readSheet 19 = .ok (.ifCond .ne 18, 3) := by decide +kernel
theorem dX9_readSheet_22 : decode cX9_readSheet 22 = .ok (.aload_n 0, 1) := by decide +kernel
theorem dX9_readSheet_23 : decode cX9_readSheet 23 = .ok (.iload_n 1, 1) := by decide +kernel
theorem dX9_readSheet_24 : decode cX9_readSheet 24 = .ok (.ldc 90, 2) := by decide +kernel
theorem dX9_readSheet_26 : decode cX9_readSheet 26 = .ok (.if_icmp .eq 7, 3) := by decide +kernel
theorem dX9_readSheet_29 : decode cX9_readSheet 29 = .ok (.iconst 1, 1) := by decide +kernel
theorem dX9_readSheet_30 : decode cX9_readSheet 30 = .ok (.goto 4, 3) := by decide +kernel
theorem dX9_readSheet_33 : decode cX9_readSheet 33 = .ok (.iconst 0, 1) := by decide +kernel
theorem dX9_readSheet_34 : decode cX9_readSheet 34 = .ok (.invokevirtual 129, 3) := by decide +kernel
theorem dX9_readSheet_37 : decode cX9_readSheet 37 = .ok (.aload_n 0, 1) := by decide +kernel
theorem dX9_readSheet_38 : decode cX9_readSheet 38 = .ok (.invokevirtual 125, 3) := by decide +kernel
theorem dX9_readSheet_41 : decode cX9_readSheet 41 = .ok (.istore_n 2, 1) := by decide +kernel
theorem dX9_readSheet_42 : decode cX9_readSheet 42 = .ok (.aload_n 0, 1) := by decide +kernel
theorem dX9_readSheet_43 : decode cX9_readSheet 43 = .ok (.getfield 112, 3) := by decide +kernel
theorem dX9_readSheet_46 : decode cX9_readSheet 46 = .ok (.ifCond .ne 60, 3) := by decide +kernel
theorem dX9_readSheet_49 : decode cX9_readSheet 49 = .ok (.aload_n 0, 1) := by decide +kernel
theorem dX9_readSheet_50 : decode cX9_readSheet 50 = .ok (.getfield 100, 3) := by decide +kernel
theorem dX9_readSheet_53 : decode cX9_readSheet 53 = .ok (.iconst 3, 1) := by decide +kernel
theorem dX9_readSheet_54 : decode cX9_readSheet 54 = .ok (.if_icmp .ne 52, 3) := by decide +kernel
theorem dX9_readSheet_57 : decode cX9_readSheet 57 = .ok (.iload_n 2, 1) := by decide +kernel
theorem dX9_readSheet_58 : decode cX9_readSheet 58 = .ok (.i2l, 1) := by decide +kernel
theorem dX9_readSheet_59 : decode cX9_readSheet 59 = .ok (.lconst 0, 1) := by decide +kernel
theorem dX9_readSheet_60 : decode cX9_readSheet 60 = .ok (.aload_n 0, 1) := by decide +kernel
theorem dX9_readSheet_61 : decode cX9_readSheet 61 = .ok (.getfield 22, 3) := by decide +kernel
theorem dX9_readSheet_64 : decode cX9_readSheet 64 = .ok (.iconst 0, 1) := by decide +kernel
theorem dX9_readSheet_65 : decode cX9_readSheet 65 = .ok (.iaload, 1) := by decide +kernel
theorem dX9_readSheet_66 : decode cX9_readSheet 66 = .ok (.iconst 1, 1) := by decide +kernel
theorem dX9_readSheet_67 : decode cX9_readSheet 67 = .ok (.isub, 1) := by decide +kernel
theorem dX9_readSheet_68 : decode cX9_readSheet 68 = .ok (.i2l, 1) := by decide +kernel
theorem dX9_readSheet_69 : decode cX9_readSheet 69 = .ok (.invokestatic 64, 3) := by decide +kernel
theorem dX9_readSheet_72 : decode cX9_readSheet 72 = .ok (.ifCond .eq 34, 3) := by decide +kernel
theorem dX9_readSheet_75 : decode cX9_readSheet 75 = .ok (.aload_n 0, 1) := by decide +kernel
theorem dX9_readSheet_76 : decode cX9_readSheet 76 = .ok (.getfield 22, 3) := by decide +kernel
theorem dX9_readSheet_79 : decode cX9_readSheet 79 = .ok (.bipush 23, 2) := by decide +kernel
theorem dX9_readSheet_81 : decode cX9_readSheet 81 = .ok (.bipush 10, 2) := by decide +kernel
theorem dX9_readSheet_83 : decode cX9_readSheet 83 = .ok (.iload_n 2, 1) := by decide +kernel
theorem dX9_readSheet_84 : decode cX9_readSheet 84 = .ok (.imul, 1) := by decide +kernel
theorem dX9_readSheet_85 : decode cX9_readSheet 85 = .ok (.iadd, 1) := by decide +kernel
theorem dX9_readSheet_86 : decode cX9_readSheet 86 = .ok (.iaload, 1) := by decide +kernel
theorem dX9_readSheet_87 : decode cX9_readSheet 87 = .ok (.aload_n 0, 1) := by decide +kernel
theorem dX9_readSheet_88 : decode cX9_readSheet 88 = .ok (.getfield 22, 3) := by decide +kernel
theorem dX9_readSheet_91 : decode cX9_readSheet 91 = .ok (.bipush 15, 2) := by decide +kernel
theorem dX9_readSheet_93 : decode cX9_readSheet 93 = .ok (.iconst 2, 1) := by decide +kernel
theorem dX9_readSheet_94 : decode cX9_readSheet 94 = .ok (.iload_n 2, 1) := by decide +kernel
theorem dX9_readSheet_95 : decode cX9_readSheet 95 = .ok (.imul, 1) := by decide +kernel
theorem dX9_readSheet_96 : decode cX9_readSheet 96 = .ok (.iadd, 1) := by decide +kernel
theorem dX9_readSheet_97 : decode cX9_readSheet 97 = .ok (.iaload, 1) := by decide +kernel
theorem dX9_readSheet_98 : decode cX9_readSheet 98 = .ok (.if_icmp .ne 8, 3) := by decide +kernel
theorem dX9_readSheet_101 : decode cX9_readSheet 101 = .ok (.aload_n 0, 1) := by decide +kernel
theorem dX9_readSheet_102 : decode cX9_readSheet 102 = .ok (.iconst 2, 1) := by decide +kernel
theorem dX9_readSheet_103 : decode cX9_readSheet 103 = .ok (.invokevirtual 121, 3) := by decide +kernel
theorem dX9_readSheet_106 : decode cX9_readSheet 106 = .ok (.aload_n 0, 1) := by decide +kernel
theorem dX9_readSheet_107 : decode cX9_readSheet 107 = .ok (.iconst 0, 1) := by decide +kernel
theorem dX9_readSheet_108 : decode cX9_readSheet 108 = .ok (.aload_n 0, 1) := by decide +kernel
theorem dX9_readSheet_109 : decode cX9_readSheet 109 = .ok (.getfield 22, 3) := by decide +kernel
theorem dX9_readSheet_112 : decode cX9_readSheet 112 = .ok (.iconst 0, 1) := by decide +kernel
theorem dX9_readSheet_113 : decode cX9_readSheet 113 = .ok (.iaload, 1) := by decide +kernel
theorem dX9_readSheet_114 : decode cX9_readSheet 114 = .ok (.iconst 1, 1) := by decide +kernel
theorem dX9_readSheet_115 : decode cX9_readSheet 115 = .ok (.isub, 1) := by decide +kernel
theorem dX9_readSheet_116 : decode cX9_readSheet 116 = .ok (.invokevirtual 149, 3) := by decide +kernel
theorem dX9_readSheet_119 : decode cX9_readSheet 119 = .ok (.istore_n 2, 1) := by decide +kernel
theorem dX9_readSheet_120 : decode cX9_readSheet 120 = .ok (.aload_n 0, 1) := by decide +kernel
theorem dX9_readSheet_121 : decode cX9_readSheet 121 = .ok (.iconst 0, 1) := by decide +kernel
theorem dX9_readSheet_122 : decode cX9_readSheet 122 = .ok (.bipush 99, 2) := by decide +kernel
theorem dX9_readSheet_124 : decode cX9_readSheet 124 = .ok (.invokevirtual 149, 3) := by decide +kernel
theorem dX9_readSheet_127 : decode cX9_readSheet 127 = .ok (.istore_n 3, 1) := by decide +kernel
theorem dX9_readSheet_128 : decode cX9_readSheet 128 = .ok (.aload_n 0, 1) := by decide +kernel
theorem dX9_readSheet_129 : decode cX9_readSheet 129 = .ok (.iconst 0, 1) := by decide +kernel
theorem dX9_readSheet_130 : decode cX9_readSheet 130 = .ok (.bipush 12, 2) := by decide +kernel
theorem dX9_readSheet_132 : decode cX9_readSheet 132 = .ok (.invokevirtual 149, 3) := by decide +kernel
theorem dX9_readSheet_135 : decode cX9_readSheet 135 = .ok (.istore 4, 2) := by decide +kernel
theorem dX9_readSheet_137 : decode cX9_readSheet 137 = .ok (.aload_n 0, 1) := by decide +kernel
theorem dX9_readSheet_138 : decode cX9_readSheet 138 = .ok (.invokevirtual 153, 3) := by decide +kernel
theorem dX9_readSheet_141 : decode cX9_readSheet 141 = .ok (.aload_n 0, 1) := by decide +kernel
theorem dX9_readSheet_142 : decode cX9_readSheet 142 = .ok (.getfield 112, 3) := by decide +kernel
theorem dX9_readSheet_145 : decode cX9_readSheet 145 = .ok (.ifCond .ne 108, 3) := by decide +kernel
theorem dX9_readSheet_148 : decode cX9_readSheet 148 = .ok (.aload_n 0, 1) := by decide +kernel
theorem dX9_readSheet_149 : decode cX9_readSheet 149 = .ok (.getfield 22, 3) := by decide +kernel
theorem dX9_readSheet_152 : decode cX9_readSheet 152 = .ok (.iconst 1, 1) := by decide +kernel
theorem dX9_readSheet_153 : decode cX9_readSheet 153 = .ok (.iaload, 1) := by decide +kernel
theorem dX9_readSheet_154 : decode cX9_readSheet 154 = .ok (.istore 5, 2) := by decide +kernel
theorem dX9_readSheet_156 : decode cX9_readSheet 156 = .ok (.aload_n 0, 1) := by decide +kernel
theorem dX9_readSheet_157 : decode cX9_readSheet 157 = .ok (.getfield 22, 3) := by decide +kernel
theorem dX9_readSheet_160 : decode cX9_readSheet 160 = .ok (.bipush 63, 2) := by decide +kernel
theorem dX9_readSheet_162 : decode cX9_readSheet 162 = .ok (.iconst 4, 1) := by decide +kernel
theorem dX9_readSheet_163 : decode cX9_readSheet 163 = .ok (.iload 5, 2) := by decide +kernel
theorem dX9_readSheet_165 : decode cX9_readSheet 165 = .ok (.imul, 1) := by decide +kernel
theorem dX9_readSheet_166 : decode cX9_readSheet 166 = .ok (.iadd, 1) := by decide +kernel
theorem dX9_readSheet_167 : decode cX9_readSheet 167 = .ok (.iload_n 1, 1) := by decide +kernel
theorem dX9_readSheet_168 : decode cX9_readSheet 168 = .ok (.iastore, 1) := by decide +kernel
theorem dX9_readSheet_169 : decode cX9_readSheet 169 = .ok (.aload_n 0, 1) := by decide +kernel
theorem dX9_readSheet_170 : decode cX9_readSheet 170 = .ok (.getfield 22, 3) := by decide +kernel
theorem dX9_readSheet_173 : decode cX9_readSheet 173 = .ok (.bipush 63, 2) := by decide +kernel
theorem dX9_readSheet_175 : decode cX9_readSheet 175 = .ok (.iconst 4, 1) := by decide +kernel
theorem dX9_readSheet_176 : decode cX9_readSheet 176 = .ok (.iload 5, 2) := by decide +kernel
theorem dX9_readSheet_178 : decode cX9_readSheet 178 = .ok (.imul, 1) := by decide +kernel
theorem dX9_readSheet_179 : decode cX9_readSheet 179 = .ok (.iadd, 1) := by decide +kernel
theorem dX9_readSheet_180 : decode cX9_readSheet 180 = .ok (.iconst 1, 1) := by decide +kernel
theorem dX9_readSheet_181 : decode cX9_readSheet 181 = .ok (.iadd, 1) := by decide +kernel
theorem dX9_readSheet_182 : decode cX9_readSheet 182 = .ok (.iload_n 3, 1) := by decide +kernel
theorem dX9_readSheet_183 : decode cX9_readSheet 183 = .ok (.iastore, 1) := by decide +kernel
theorem dX9_readSheet_184 : decode cX9_readSheet 184 = .ok (.aload_n 0, 1) := by decide +kernel
theorem dX9_readSheet_185 : decode cX9_readSheet 185 = .ok (.getfield 22, 3) := by decide +kernel
theorem dX9_readSheet_188 : decode cX9_readSheet 188 = .ok (.bipush 63, 2) := by decide +kernel
theorem dX9_readSheet_190 : decode cX9_readSheet 190 = .ok (.iconst 4, 1) := by decide +kernel
theorem dX9_readSheet_191 : decode cX9_readSheet 191 = .ok (.iload 5, 2) := by decide +kernel
theorem dX9_readSheet_193 : decode cX9_readSheet 193 = .ok (.imul, 1) := by decide +kernel
theorem dX9_readSheet_194 : decode cX9_readSheet 194 = .ok (.iadd, 1) := by decide +kernel
theorem dX9_readSheet_195 : decode cX9_readSheet 195 = .ok (.iconst 2, 1) := by decide +kernel
theorem dX9_readSheet_196 : decode cX9_readSheet 196 = .ok (.iadd, 1) := by decide +kernel
theorem dX9_readSheet_197 : decode cX9_readSheet 197 = .ok (.iload 4, 2) := by decide +kernel
theorem dX9_readSheet_199 : decode cX9_readSheet 199 = .ok (.iastore, 1) := by decide +kernel
theorem dX9_readSheet_200 : decode cX9_readSheet 200 = .ok (.aload_n 0, 1) := by decide +kernel
theorem dX9_readSheet_201 : decode cX9_readSheet 201 = .ok (.getfield 22, 3) := by decide +kernel
theorem dX9_readSheet_204 : decode cX9_readSheet 204 = .ok (.bipush 23, 2) := by decide +kernel
theorem dX9_readSheet_206 : decode cX9_readSheet 206 = .ok (.bipush 10, 2) := by decide +kernel
theorem dX9_readSheet_208 : decode cX9_readSheet 208 = .ok (.iload_n 2, 1) := by decide +kernel
theorem dX9_readSheet_209 : decode cX9_readSheet 209 = .ok (.imul, 1) := by decide +kernel
theorem dX9_readSheet_210 : decode cX9_readSheet 210 = .ok (.iadd, 1) := by decide +kernel
theorem dX9_readSheet_211 : decode cX9_readSheet 211 = .ok (.dup2, 1) := by decide +kernel
theorem dX9_readSheet_212 : decode cX9_readSheet 212 = .ok (.iaload, 1) := by decide +kernel
theorem dX9_readSheet_213 : decode cX9_readSheet 213 = .ok (.iconst 1, 1) := by decide +kernel
theorem dX9_readSheet_214 : decode cX9_readSheet 214 = .ok (.iadd, 1) := by decide +kernel
theorem dX9_readSheet_215 : decode cX9_readSheet 215 = .ok (.iastore, 1) := by decide +kernel
theorem dX9_readSheet_216 : decode cX9_readSheet 216 = .ok (.aload_n 0, 1) := by decide +kernel
theorem dX9_readSheet_217 : decode cX9_readSheet 217 = .ok (.getfield 22, 3) := by decide +kernel
theorem dX9_readSheet_220 : decode cX9_readSheet 220 = .ok (.bipush 23, 2) := by decide +kernel
theorem dX9_readSheet_222 : decode cX9_readSheet 222 = .ok (.bipush 10, 2) := by decide +kernel
theorem dX9_readSheet_224 : decode cX9_readSheet 224 = .ok (.iload_n 2, 1) := by decide +kernel
theorem dX9_readSheet_225 : decode cX9_readSheet 225 = .ok (.imul, 1) := by decide +kernel
theorem dX9_readSheet_226 : decode cX9_readSheet 226 = .ok (.iadd, 1) := by decide +kernel
theorem dX9_readSheet_227 : decode cX9_readSheet 227 = .ok (.aload_n 0, 1) := by decide +kernel
theorem dX9_readSheet_228 : decode cX9_readSheet 228 = .ok (.getfield 22, 3) := by decide +kernel
theorem dX9_readSheet_231 : decode cX9_readSheet 231 = .ok (.bipush 23, 2) := by decide +kernel
theorem dX9_readSheet_233 : decode cX9_readSheet 233 = .ok (.bipush 10, 2) := by decide +kernel
theorem dX9_readSheet_235 : decode cX9_readSheet 235 = .ok (.iload_n 2, 1) := by decide +kernel
theorem dX9_readSheet_236 : decode cX9_readSheet 236 = .ok (.imul, 1) := by decide +kernel
theorem dX9_readSheet_237 : decode cX9_readSheet 237 = .ok (.iadd, 1) := by decide +kernel
theorem dX9_readSheet_238 : decode cX9_readSheet 238 = .ok (.iaload, 1) := by decide +kernel
theorem dX9_readSheet_239 : decode cX9_readSheet 239 = .ok (.iadd, 1) := by decide +kernel
theorem dX9_readSheet_240 : decode cX9_readSheet 240 = .ok (.iload 5, 2) := by decide +kernel
theorem dX9_readSheet_242 : decode cX9_readSheet 242 = .ok (.iastore, 1) := by decide +kernel
theorem dX9_readSheet_243 : decode cX9_readSheet 243 = .ok (.aload_n 0, 1) := by decide +kernel
theorem dX9_readSheet_244 : decode cX9_readSheet 244 = .ok (.getfield 22, 3) := by decide +kernel
theorem dX9_readSheet_247 : decode cX9_readSheet 247 = .ok (.iconst 1, 1) := by decide +kernel
theorem dX9_readSheet_248 : decode cX9_readSheet 248 = .ok (.dup2, 1) := by decide +kernel
theorem dX9_readSheet_249 : decode cX9_readSheet 249 = .ok (.iaload, 1) := by decide +kernel
theorem dX9_readSheet_250 : decode cX9_readSheet 250 = .ok (.iconst 1, 1) := by decide +kernel
theorem dX9_readSheet_251 : decode cX9_readSheet 251 = .ok (.iadd, 1) := by decide +kernel
theorem dX9_readSheet_252 : decode cX9_readSheet 252 = .ok (.iastore, 1) := by decide +kernel
theorem dX9_readSheet_253 : decode cX9_readSheet 253 = .ok (.return_, 1) := by decide +kernel
theorem dX9_office_0 : decode cX9_office 0 = .ok (.aload_n 0, 1) := by decide +kernel
theorem dX9_office_1 : decode cX9_office 1 = .ok (.iconst 0, 1) := by decide +kernel
theorem dX9_office_2 : decode cX9_office 2 = .ok (.putfield 54, 3) := by decide +kernel
theorem dX9_office_5 : decode cX9_office 5 = .ok (.aload_n 0, 1) := by decide +kernel
theorem dX9_office_6 : decode cX9_office 6 = .ok (.invokevirtual 164, 3) := by decide +kernel
theorem dX9_office_9 : decode cX9_office 9 = .ok (.iconst 0, 1) := by decide +kernel
theorem dX9_office_10 : decode cX9_office 10 = .ok (.istore_n 1, 1) := by decide +kernel
theorem dX9_office_11 : decode cX9_office 11 = .ok (.iload_n 1, 1) := by decide +kernel
theorem dX9_office_12 : decode cX9_office 12 = .ok (.bipush 127, 2) := by decide +kernel
theorem dX9_office_14 : decode cX9_office 14 = .ok (.if_icmp .ge 16, 3) := by decide +kernel
theorem dX9_office_17 : decode cX9_office 17 = .ok (.aload_n 0, 1) := by decide +kernel
theorem dX9_office_18 : decode cX9_office 18 = .ok (.getfield 22, 3) := by decide +kernel
theorem dX9_office_21 : decode cX9_office 21 = .ok (.iload_n 1, 1) := by decide +kernel
theorem dX9_office_22 : decode cX9_office 22 = .ok (.iconst 0, 1) := by decide +kernel
theorem dX9_office_23 : decode cX9_office 23 = .ok (.iastore, 1) := by decide +kernel
theorem dX9_office_24 : decode cX9_office 24 = .ok (.iinc 1 1, 3) := by decide +kernel
theorem dX9_office_27 : decode cX9_office 27 = .ok (.goto (-16), 3) := by decide +kernel
theorem dX9_office_30 : decode cX9_office 30 = .ok (.aload_n 0, 1) := by decide +kernel
theorem dX9_office_31 : decode cX9_office 31 = .ok (.invokevirtual 167, 3) := by decide +kernel
theorem dX9_office_34 : decode cX9_office 34 = .ok (.aload_n 0, 1) := by decide +kernel
theorem dX9_office_35 : decode cX9_office 35 = .ok (.invokevirtual 143, 3) := by decide +kernel
theorem dX9_office_38 : decode cX9_office 38 = .ok (.ldc2_w 170, 3) := by decide +kernel
theorem dX9_office_41 : decode cX9_office 41 = .ok (.lcmp, 1) := by decide +kernel
theorem dX9_office_42 : decode cX9_office 42 = .ok (.ifCond .eq 8, 3) := by decide +kernel
theorem dX9_office_45 : decode cX9_office 45 = .ok (.aload_n 0, 1) := by decide +kernel
theorem dX9_office_46 : decode cX9_office 46 = .ok (.iconst 1, 1) := by decide +kernel
theorem dX9_office_47 : decode cX9_office 47 = .ok (.invokevirtual 121, 3) := by decide +kernel
theorem dX9_office_50 : decode cX9_office 50 = .ok (.aload_n 0, 1) := by decide +kernel
theorem dX9_office_51 : decode cX9_office 51 = .ok (.invokevirtual 143, 3) := by decide +kernel
theorem dX9_office_54 : decode cX9_office 54 = .ok (.ldc2_w 170, 3) := by decide +kernel
theorem dX9_office_57 : decode cX9_office 57 = .ok (.lcmp, 1) := by decide +kernel
theorem dX9_office_58 : decode cX9_office 58 = .ok (.ifCond .ne 10, 3) := by decide +kernel
theorem dX9_office_61 : decode cX9_office 61 = .ok (.aload_n 0, 1) := by decide +kernel
theorem dX9_office_62 : decode cX9_office 62 = .ok (.invokevirtual 172, 3) := by decide +kernel
theorem dX9_office_65 : decode cX9_office 65 = .ok (.goto (-15), 3) := by decide +kernel
theorem dX9_office_68 : decode cX9_office 68 = .ok (.aload_n 0, 1) := by decide +kernel
theorem dX9_office_69 : decode cX9_office 69 = .ok (.invokevirtual 143, 3) := by decide +kernel
theorem dX9_office_72 : decode cX9_office 72 = .ok (.ldc2_w 175, 3) := by decide +kernel
theorem dX9_office_75 : decode cX9_office 75 = .ok (.lcmp, 1) := by decide +kernel
theorem dX9_office_76 : decode cX9_office 76 = .ok (.ifCond .ne 10, 3) := by decide +kernel
theorem dX9_office_79 : decode cX9_office 79 = .ok (.aload_n 0, 1) := by decide +kernel
theorem dX9_office_80 : decode cX9_office 80 = .ok (.invokevirtual 177, 3) := by decide +kernel
theorem dX9_office_83 : decode cX9_office 83 = .ok (.goto (-15), 3) := by decide +kernel
theorem dX9_office_86 : decode cX9_office 86 = .ok (.aload_n 0, 1) := by decide +kernel
theorem dX9_office_87 : decode cX9_office 87 = .ok (.getfield 112, 3) := by decide +kernel
theorem dX9_office_90 : decode cX9_office 90 = .ok (.ifCond .ne 16, 3) := by decide +kernel
theorem dX9_office_93 : decode cX9_office 93 = .ok (.aload_n 0, 1) := by decide +kernel
theorem dX9_office_94 : decode cX9_office 94 = .ok (.getfield 100, 3) := by decide +kernel
theorem dX9_office_97 : decode cX9_office 97 = .ok (.iconst 1, 1) := by decide +kernel
theorem dX9_office_98 : decode cX9_office 98 = .ok (.if_icmp .eq 8, 3) := by decide +kernel
theorem dX9_office_101 : decode cX9_office 101 = .ok (.aload_n 0, 1) := by decide +kernel
theorem dX9_office_102 : decode cX9_office 102 = .ok (.iconst 1, 1) := by decide +kernel
theorem dX9_office_103 : decode cX9_office 103 = .ok (.invokevirtual 121, 3) := by decide +kernel
theorem dX9_office_106 : decode cX9_office 106 = .ok (.aload_n 0, 1) := by decide +kernel
theorem dX9_office_107 : decode cX9_office 107 = .ok (.getfield 112, 3) := by decide +kernel
theorem dX9_office_110 : decode cX9_office 110 = .ok (.ifCond .le 19, 3) := by decide +kernel
theorem dX9_office_113 : decode cX9_office 113 = .ok (.aload_n 0, 1) := by decide +kernel
theorem dX9_office_114 : decode cX9_office 114 = .ok (.aload_n 0, 1) := by decide +kernel
theorem dX9_office_115 : decode cX9_office 115 = .ok (.getfield 112, 3) := by decide +kernel
theorem dX9_office_118 : decode cX9_office 118 = .ok (.putfield 180, 3) := by decide +kernel
theorem dX9_office_121 : decode cX9_office 121 = .ok (.ldc 183, 2) := by decide +kernel
theorem dX9_office_123 : decode cX9_office 123 = .ok (.aload_n 0, 1) := by decide +kernel
theorem dX9_office_124 : decode cX9_office 124 = .ok (.getfield 118, 3) := by decide +kernel
theorem dX9_office_127 : decode cX9_office 127 = .ok (.isub, 1) := by decide +kernel
theorem dX9_office_128 : decode cX9_office 128 = .ok (.ireturn, 1) := by decide +kernel
theorem dX9_office_129 : decode cX9_office 129 = .ok (.aload_n 0, 1) := by decide +kernel
theorem dX9_office_130 : decode cX9_office 130 = .ok (.iconst 1, 1) := by decide +kernel
theorem dX9_office_131 : decode cX9_office 131 = .ok (.putfield 184, 3) := by decide +kernel
theorem dX9_office_134 : decode cX9_office 134 = .ok (.aload_n 0, 1) := by decide +kernel
theorem dX9_office_135 : decode cX9_office 135 = .ok (.iconst 0, 1) := by decide +kernel
theorem dX9_office_136 : decode cX9_office 136 = .ok (.putfield 188, 3) := by decide +kernel
theorem dX9_office_139 : decode cX9_office 139 = .ok (.iconst 0, 1) := by decide +kernel
theorem dX9_office_140 : decode cX9_office 140 = .ok (.istore_n 1, 1) := by decide +kernel
theorem dX9_office_141 : decode cX9_office 141 = .ok (.iload_n 1, 1) := by decide +kernel
theorem dX9_office_142 : decode cX9_office 142 = .ok (.bipush 127, 2) := by decide +kernel
theorem dX9_office_144 : decode cX9_office 144 = .ok (.if_icmp .ge 21, 3) := by decide +kernel
theorem dX9_office_147 : decode cX9_office 147 = .ok (.aload_n 0, 1) := by decide +kernel
theorem dX9_office_148 : decode cX9_office 148 = .ok (.getfield 19, 3) := by decide +kernel
theorem dX9_office_151 : decode cX9_office 151 = .ok (.iload_n 1, 1) := by decide +kernel
theorem dX9_office_152 : decode cX9_office 152 = .ok (.aload_n 0, 1) := by decide +kernel
theorem dX9_office_153 : decode cX9_office 153 = .ok (.getfield 22, 3) := by decide +kernel
theorem dX9_office_156 : decode cX9_office 156 = .ok (.iload_n 1, 1) := by decide +kernel
theorem dX9_office_157 : decode cX9_office 157 = .ok (.iaload, 1) := by decide +kernel
theorem dX9_office_158 : decode cX9_office 158 = .ok (.iastore, 1) := by decide +kernel
theorem dX9_office_159 : decode cX9_office 159 = .ok (.iinc 1 1, 3) := by decide +kernel
theorem dX9_office_162 : decode cX9_office 162 = .ok (.goto (-21), 3) := by decide +kernel
theorem dX9_office_165 : decode cX9_office 165 = .ok (.aload_n 0, 1) := by decide +kernel
theorem dX9_office_166 : decode cX9_office 166 = .ok (.getfield 19, 3) := by decide +kernel
theorem dX9_office_169 : decode cX9_office 169 = .ok (.iconst 0, 1) := by decide +kernel
theorem dX9_office_170 : decode cX9_office 170 = .ok (.iaload, 1) := by decide +kernel
theorem dX9_office_171 : decode cX9_office 171 = .ok (.ireturn, 1) := by decide +kernel
theorem dX9_fault_0 : decode cX9_fault 0 = .ok (.aload_n 0, 1) := by decide +kernel
theorem dX9_fault_1 : decode cX9_fault 1 = .ok (.iconst 0, 1) := by decide +kernel
theorem dX9_fault_2 : decode cX9_fault 2 = .ok (.putfield 54, 3) := by decide +kernel
theorem dX9_fault_5 : decode cX9_fault 5 = .ok (.aload_n 0, 1) := by decide +kernel
theorem dX9_fault_6 : decode cX9_fault 6 = .ok (.getfield 180, 3) := by decide +kernel
theorem dX9_fault_9 : decode cX9_fault 9 = .ok (.ireturn, 1) := by decide +kernel
theorem dX9_isDesk_0 : decode cX9_isDesk 0 = .ok (.iload_n 1, 1) := by decide +kernel
theorem dX9_isDesk_1 : decode cX9_isDesk 1 = .ok (.i2l, 1) := by decide +kernel
theorem dX9_isDesk_2 : decode cX9_isDesk 2 = .ok (.lconst 0, 1) := by decide +kernel
theorem dX9_isDesk_3 : decode cX9_isDesk 3 = .ok (.aload_n 0, 1) := by decide +kernel
theorem dX9_isDesk_4 : decode cX9_isDesk 4 = .ok (.getfield 19, 3) := by decide +kernel
theorem dX9_isDesk_7 : decode cX9_isDesk 7 = .ok (.iconst 0, 1) := by decide +kernel
theorem dX9_isDesk_8 : decode cX9_isDesk 8 = .ok (.iaload, 1) := by decide +kernel
theorem dX9_isDesk_9 : decode cX9_isDesk 9 = .ok (.iconst 1, 1) := by decide +kernel
theorem dX9_isDesk_10 : decode cX9_isDesk 10 = .ok (.isub, 1) := by decide +kernel
theorem dX9_isDesk_11 : decode cX9_isDesk 11 = .ok (.i2l, 1) := by decide +kernel
theorem dX9_isDesk_12 : decode cX9_isDesk 12 = .ok (.invokestatic 64, 3) := by decide +kernel
theorem dX9_isDesk_15 : decode cX9_isDesk 15 = .ok (.ireturn, 1) := by decide +kernel
theorem dX9_isSheet_0 : decode cX9_isSheet 0 = .ok (.iload_n 1, 1) := by decide +kernel
theorem dX9_isSheet_1 : decode cX9_isSheet 1 = .ok (.i2l, 1) := by decide +kernel
theorem dX9_isSheet_2 : decode cX9_isSheet 2 = .ok (.lconst 0, 1) := by decide +kernel
theorem dX9_isSheet_3 : decode cX9_isSheet 3 = .ok (.aload_n 0, 1) := by decide +kernel
theorem dX9_isSheet_4 : decode cX9_isSheet 4 = .ok (.getfield 19, 3) := by decide +kernel
theorem dX9_isSheet_7 : decode cX9_isSheet 7 = .ok (.iconst 1, 1) := by decide +kernel
theorem dX9_isSheet_8 : decode cX9_isSheet 8 = .ok (.iaload, 1) := by decide +kernel
theorem dX9_isSheet_9 : decode cX9_isSheet 9 = .ok (.iconst 1, 1) := by decide +kernel
theorem dX9_isSheet_10 : decode cX9_isSheet 10 = .ok (.isub, 1) := by decide +kernel
theorem dX9_isSheet_11 : decode cX9_isSheet 11 = .ok (.i2l, 1) := by decide +kernel
theorem dX9_isSheet_12 : decode cX9_isSheet 12 = .ok (.invokestatic 64, 3) := by decide +kernel
theorem dX9_isSheet_15 : decode cX9_isSheet 15 = .ok (.ireturn, 1) := by decide +kernel
theorem dX9_of_0 : decode cX9_of 0 = .ok (.aload_n 0, 1) := by decide +kernel
theorem dX9_of_1 : decode cX9_of 1 = .ok (.getfield 19, 3) := by decide +kernel
theorem dX9_of_4 : decode cX9_of 4 = .ok (.bipush 63, 2) := by decide +kernel
theorem dX9_of_6 : decode cX9_of 6 = .ok (.iconst 4, 1) := by decide +kernel
theorem dX9_of_7 : decode cX9_of 7 = .ok (.iload_n 1, 1) := by decide +kernel
theorem dX9_of_8 : decode cX9_of 8 = .ok (.imul, 1) := by decide +kernel
theorem dX9_of_9 : decode cX9_of 9 = .ok (.iadd, 1) := by decide +kernel
theorem dX9_of_10 : decode cX9_of 10 = .ok (.iload_n 2, 1) := by decide +kernel
theorem dX9_of_11 : decode cX9_of 11 = .ok (.iadd, 1) := by decide +kernel
theorem dX9_of_12 : decode cX9_of 12 = .ok (.iaload, 1) := by decide +kernel
theorem dX9_of_13 : decode cX9_of 13 = .ok (.ireturn, 1) := by decide +kernel
theorem dX9_manyOn_0 : decode cX9_manyOn 0 = .ok (.aload_n 0, 1) := by decide +kernel
theorem dX9_manyOn_1 : decode cX9_manyOn 1 = .ok (.getfield 19, 3) := by decide +kernel
theorem dX9_manyOn_4 : decode cX9_manyOn 4 = .ok (.bipush 23, 2) := by decide +kernel
theorem dX9_manyOn_6 : decode cX9_manyOn 6 = .ok (.bipush 10, 2) := by decide +kernel
theorem dX9_manyOn_8 : decode cX9_manyOn 8 = .ok (.iload_n 1, 1) := by decide +kernel
theorem dX9_manyOn_9 : decode cX9_manyOn 9 = .ok (.imul, 1) := by decide +kernel
theorem dX9_manyOn_10 : decode cX9_manyOn 10 = .ok (.iadd, 1) := by decide +kernel
theorem dX9_manyOn_11 : decode cX9_manyOn 11 = .ok (.iaload, 1) := by decide +kernel
theorem dX9_manyOn_12 : decode cX9_manyOn 12 = .ok (.ireturn, 1) := by decide +kernel
theorem dX9_lies_0 : decode cX9_lies 0 = .ok (.aload_n 0, 1) := by decide +kernel
theorem dX9_lies_1 : decode cX9_lies 1 = .ok (.getfield 19, 3) := by decide +kernel
theorem dX9_lies_4 : decode cX9_lies 4 = .ok (.bipush 23, 2) := by decide +kernel
theorem dX9_lies_6 : decode cX9_lies 6 = .ok (.bipush 10, 2) := by decide +kernel
theorem dX9_lies_8 : decode cX9_lies 8 = .ok (.iload_n 1, 1) := by decide +kernel
theorem dX9_lies_9 : decode cX9_lies 9 = .ok (.imul, 1) := by decide +kernel
theorem dX9_lies_10 : decode cX9_lies 10 = .ok (.iadd, 1) := by decide +kernel
theorem dX9_lies_11 : decode cX9_lies 11 = .ok (.iconst 1, 1) := by decide +kernel
theorem dX9_lies_12 : decode cX9_lies 12 = .ok (.iadd, 1) := by decide +kernel
theorem dX9_lies_13 : decode cX9_lies 13 = .ok (.iload_n 2, 1) := by decide +kernel
theorem dX9_lies_14 : decode cX9_lies 14 = .ok (.iadd, 1) := by decide +kernel
theorem dX9_lies_15 : decode cX9_lies 15 = .ok (.iaload, 1) := by decide +kernel
theorem dX9_lies_16 : decode cX9_lies 16 = .ok (.ireturn, 1) := by decide +kernel
theorem dX9_deskOf_0 : decode cX9_deskOf 0 = .ok (.iconst 0, 1) := by decide +kernel
theorem dX9_deskOf_1 : decode cX9_deskOf 1 = .ok (.istore_n 2, 1) := by decide +kernel
theorem dX9_deskOf_2 : decode cX9_deskOf 2 = .ok (.iload_n 2, 1) := by decide +kernel
theorem dX9_deskOf_3 : decode cX9_deskOf 3 = .ok (.aload_n 0, 1) := by decide +kernel
theorem dX9_deskOf_4 : decode cX9_deskOf 4 = .ok (.getfield 19, 3) := by decide +kernel
theorem dX9_deskOf_7 : decode cX9_deskOf 7 = .ok (.iconst 0, 1) := by decide +kernel
theorem dX9_deskOf_8 : decode cX9_deskOf 8 = .ok (.iaload, 1) := by decide +kernel
theorem dX9_deskOf_9 : decode cX9_deskOf 9 = .ok (.if_icmp .ge 38, 3) := by decide +kernel
theorem dX9_deskOf_12 : decode cX9_deskOf 12 = .ok (.iconst 0, 1) := by decide +kernel
theorem dX9_deskOf_13 : decode cX9_deskOf 13 = .ok (.istore_n 3, 1) := by decide +kernel
theorem dX9_deskOf_14 : decode cX9_deskOf 14 = .ok (.iload_n 3, 1) := by decide +kernel
theorem dX9_deskOf_15 : decode cX9_deskOf 15 = .ok (.aload_n 0, 1) := by decide +kernel
theorem dX9_deskOf_16 : decode cX9_deskOf 16 = .ok (.iload_n 2, 1) := by decide +kernel
theorem dX9_deskOf_17 : decode cX9_deskOf 17 = .ok (.invokevirtual 191, 3) := by decide +kernel
theorem dX9_deskOf_20 : decode cX9_deskOf 20 = .ok (.if_icmp .ge 21, 3) := by decide +kernel
theorem dX9_deskOf_23 : decode cX9_deskOf 23 = .ok (.aload_n 0, 1) := by decide +kernel
theorem dX9_deskOf_24 : decode cX9_deskOf 24 = .ok (.iload_n 2, 1) := by decide +kernel
theorem dX9_deskOf_25 : decode cX9_deskOf 25 = .ok (.iload_n 3, 1) := by decide +kernel
theorem dX9_deskOf_26 : decode cX9_deskOf 26 = .ok (.invokevirtual 194, 3) := by decide +kernel
theorem dX9_deskOf_29 : decode cX9_deskOf 29 = .ok (.iload_n 1, 1) := by decide +kernel
theorem dX9_deskOf_30 : decode cX9_deskOf 30 = .ok (.if_icmp .ne 5, 3) := by decide +kernel
theorem dX9_deskOf_33 : decode cX9_deskOf 33 = .ok (.iload_n 2, 1) := by decide +kernel
theorem dX9_deskOf_34 : decode cX9_deskOf 34 = .ok (.ireturn, 1) := by decide +kernel
theorem dX9_deskOf_35 : decode cX9_deskOf 35 = .ok (.iinc 3 1, 3) := by decide +kernel
theorem dX9_deskOf_38 : decode cX9_deskOf 38 = .ok (.goto (-24), 3) := by decide +kernel
theorem dX9_deskOf_41 : decode cX9_deskOf 41 = .ok (.iinc 2 1, 3) := by decide +kernel
theorem dX9_deskOf_44 : decode cX9_deskOf 44 = .ok (.goto (-42), 3) := by decide +kernel
theorem dX9_deskOf_47 : decode cX9_deskOf 47 = .ok (.ldc 90, 2) := by decide +kernel
theorem dX9_deskOf_49 : decode cX9_deskOf 49 = .ok (.ireturn, 1) := by decide +kernel
theorem dX9_placeOf_0 : decode cX9_placeOf 0 = .ok (.iconst 0, 1) := by decide +kernel
theorem dX9_placeOf_1 : decode cX9_placeOf 1 = .ok (.istore_n 3, 1) := by decide +kernel
theorem dX9_placeOf_2 : decode cX9_placeOf 2 = .ok (.aload_n 0, 1) := by decide +kernel
theorem dX9_placeOf_3 : decode cX9_placeOf 3 = .ok (.iload_n 1, 1) := by decide +kernel
theorem dX9_placeOf_4 : decode cX9_placeOf 4 = .ok (.iload_n 3, 1) := by decide +kernel
theorem dX9_placeOf_5 : decode cX9_placeOf 5 = .ok (.invokevirtual 194, 3) := by decide +kernel
theorem dX9_placeOf_8 : decode cX9_placeOf 8 = .ok (.iload_n 2, 1) := by decide +kernel
theorem dX9_placeOf_9 : decode cX9_placeOf 9 = .ok (.if_icmp .eq 9, 3) := by decide +kernel
theorem dX9_placeOf_12 : decode cX9_placeOf 12 = .ok (.iinc 3 1, 3) := by decide +kernel
theorem dX9_placeOf_15 : decode cX9_placeOf 15 = .ok (.goto (-13), 3) := by decide +kernel
theorem dX9_placeOf_18 : decode cX9_placeOf 18 = .ok (.iload_n 3, 1) := by decide +kernel
theorem dX9_placeOf_19 : decode cX9_placeOf 19 = .ok (.ireturn, 1) := by decide +kernel
theorem dX9_hasRoom_0 : decode cX9_hasRoom 0 = .ok (.aload_n 0, 1) := by decide +kernel
theorem dX9_hasRoom_1 : decode cX9_hasRoom 1 = .ok (.iload_n 1, 1) := by decide +kernel
theorem dX9_hasRoom_2 : decode cX9_hasRoom 2 = .ok (.invokevirtual 191, 3) := by decide +kernel
theorem dX9_hasRoom_5 : decode cX9_hasRoom 5 = .ok (.aload_n 0, 1) := by decide +kernel
theorem dX9_hasRoom_6 : decode cX9_hasRoom 6 = .ok (.getfield 19, 3) := by decide +kernel
theorem dX9_hasRoom_9 : decode cX9_hasRoom 9 = .ok (.bipush 15, 2) := by decide +kernel
theorem dX9_hasRoom_11 : decode cX9_hasRoom 11 = .ok (.iconst 2, 1) := by decide +kernel
theorem dX9_hasRoom_12 : decode cX9_hasRoom 12 = .ok (.iload_n 1, 1) := by decide +kernel
theorem dX9_hasRoom_13 : decode cX9_hasRoom 13 = .ok (.imul, 1) := by decide +kernel
theorem dX9_hasRoom_14 : decode cX9_hasRoom 14 = .ok (.iadd, 1) := by decide +kernel
theorem dX9_hasRoom_15 : decode cX9_hasRoom 15 = .ok (.iaload, 1) := by decide +kernel
theorem dX9_hasRoom_16 : decode cX9_hasRoom 16 = .ok (.if_icmp .ge 7, 3) := by decide +kernel
theorem dX9_hasRoom_19 : decode cX9_hasRoom 19 = .ok (.iconst 1, 1) := by decide +kernel
theorem dX9_hasRoom_20 : decode cX9_hasRoom 20 = .ok (.goto 4, 3) := by decide +kernel
theorem dX9_hasRoom_23 : decode cX9_hasRoom 23 = .ok (.iconst 0, 1) := by decide +kernel
theorem dX9_hasRoom_24 : decode cX9_hasRoom 24 = .ok (.ireturn, 1) := by decide +kernel
theorem dX9_leaves_0 : decode cX9_leaves 0 = .ok (.aload_n 0, 1) := by decide +kernel
theorem dX9_leaves_1 : decode cX9_leaves 1 = .ok (.iload_n 1, 1) := by decide +kernel
theorem dX9_leaves_2 : decode cX9_leaves 2 = .ok (.iload_n 2, 1) := by decide +kernel
theorem dX9_leaves_3 : decode cX9_leaves 3 = .ok (.invokevirtual 197, 3) := by decide +kernel
theorem dX9_leaves_6 : decode cX9_leaves 6 = .ok (.istore_n 3, 1) := by decide +kernel
theorem dX9_leaves_7 : decode cX9_leaves 7 = .ok (.iload_n 3, 1) := by decide +kernel
theorem dX9_leaves_8 : decode cX9_leaves 8 = .ok (.iconst 1, 1) := by decide +kernel
theorem dX9_leaves_9 : decode cX9_leaves 9 = .ok (.iadd, 1) := by decide +kernel
theorem dX9_leaves_10 : decode cX9_leaves 10 = .ok (.aload_n 0, 1) := by decide +kernel
theorem dX9_leaves_11 : decode cX9_leaves 11 = .ok (.iload_n 1, 1) := by decide +kernel
theorem dX9_leaves_12 : decode cX9_leaves 12 = .ok (.invokevirtual 191, 3) := by decide +kernel
theorem dX9_leaves_15 : decode cX9_leaves 15 = .ok (.if_icmp .ge 33, 3) := by decide +kernel
theorem dX9_leaves_18 : decode cX9_leaves 18 = .ok (.aload_n 0, 1) := by decide +kernel
theorem dX9_leaves_19 : decode cX9_leaves 19 = .ok (.getfield 19, 3) := by decide +kernel
theorem dX9_leaves_22 : decode cX9_leaves 22 = .ok (.bipush 23, 2) := by decide +kernel
theorem dX9_leaves_24 : decode cX9_leaves 24 = .ok (.bipush 10, 2) := by decide +kernel
theorem dX9_leaves_26 : decode cX9_leaves 26 = .ok (.iload_n 1, 1) := by decide +kernel
theorem dX9_leaves_27 : decode cX9_leaves 27 = .ok (.imul, 1) := by decide +kernel
theorem dX9_leaves_28 : decode cX9_leaves 28 = .ok (.iadd, 1) := by decide +kernel
theorem dX9_leaves_29 : decode cX9_leaves 29 = .ok (.iconst 1, 1) := by decide +kernel
theorem dX9_leaves_30 : decode cX9_leaves 30 = .ok (.iadd, 1) := by decide +kernel
theorem dX9_leaves_31 : decode cX9_leaves 31 = .ok (.iload_n 3, 1) := by decide +kernel
theorem dX9_leaves_32 : decode cX9_leaves 32 = .ok (.iadd, 1) := by decide +kernel
theorem dX9_leaves_33 : decode cX9_leaves 33 = .ok (.aload_n 0, 1) := by decide +kernel
theorem dX9_leaves_34 : decode cX9_leaves 34 = .ok (.iload_n 1, 1) := by decide +kernel
theorem dX9_leaves_35 : decode cX9_leaves 35 = .ok (.iload_n 3, 1) := by decide +kernel
theorem dX9_leaves_36 : decode cX9_leaves 36 = .ok (.iconst 1, 1) := by decide +kernel
theorem dX9_leaves_37 : decode cX9_leaves 37 = .ok (.iadd, 1) := by decide +kernel
theorem dX9_leaves_38 : decode cX9_leaves 38 = .ok (.invokevirtual 194, 3) := by decide +kernel
theorem dX9_leaves_41 : decode cX9_leaves 41 = .ok (.iastore, 1) := by decide +kernel
theorem dX9_leaves_42 : decode cX9_leaves 42 = .ok (.iinc 3 1, 3) := by decide +kernel
theorem dX9_leaves_45 : decode cX9_leaves 45 = .ok (.goto (-38), 3) := by decide +kernel
theorem dX9_leaves_48 : decode cX9_leaves 48 = .ok (.aload_n 0, 1) := by decide +kernel
theorem dX9_leaves_49 : decode cX9_leaves 49 = .ok (.getfield 19, 3) := by decide +kernel
theorem dX9_leaves_52 : decode cX9_leaves 52 = .ok (.bipush 23, 2) := by decide +kernel
theorem dX9_leaves_54 : decode cX9_leaves 54 = .ok (.bipush 10, 2) := by decide +kernel
theorem dX9_leaves_56 : decode cX9_leaves 56 = .ok (.iload_n 1, 1) := by decide +kernel
theorem dX9_leaves_57 : decode cX9_leaves 57 = .ok (.imul, 1) := by decide +kernel
theorem dX9_leaves_58 : decode cX9_leaves 58 = .ok (.iadd, 1) := by decide +kernel
theorem dX9_leaves_59 : decode cX9_leaves 59 = .ok (.dup2, 1) := by decide +kernel
theorem dX9_leaves_60 : decode cX9_leaves 60 = .ok (.iaload, 1) := by decide +kernel
theorem dX9_leaves_61 : decode cX9_leaves 61 = .ok (.iconst 1, 1) := by decide +kernel
theorem dX9_leaves_62 : decode cX9_leaves 62 = .ok (.isub, 1) := by decide +kernel
theorem dX9_leaves_63 : decode cX9_leaves 63 = .ok (.iastore, 1) := by decide +kernel
theorem dX9_leaves_64 : decode cX9_leaves 64 = .ok (.return_, 1) := by decide +kernel
theorem dX9_comes_0 : decode cX9_comes 0 = .ok (.aload_n 0, 1) := by decide +kernel
theorem dX9_comes_1 : decode cX9_comes 1 = .ok (.getfield 19, 3) := by decide +kernel
theorem dX9_comes_4 : decode cX9_comes 4 = .ok (.bipush 23, 2) := by decide +kernel
theorem dX9_comes_6 : decode cX9_comes 6 = .ok (.bipush 10, 2) := by decide +kernel
theorem dX9_comes_8 : decode cX9_comes 8 = .ok (.iload_n 1, 1) := by decide +kernel
theorem dX9_comes_9 : decode cX9_comes 9 = .ok (.imul, 1) := by decide +kernel
theorem dX9_comes_10 : decode cX9_comes 10 = .ok (.iadd, 1) := by decide +kernel
theorem dX9_comes_11 : decode cX9_comes 11 = .ok (.dup2, 1) := by decide +kernel
theorem dX9_comes_12 : decode cX9_comes 12 = .ok (.iaload, 1) := by decide +kernel
theorem dX9_comes_13 : decode cX9_comes 13 = .ok (.iconst 1, 1) := by decide +kernel
theorem dX9_comes_14 : decode cX9_comes 14 = .ok (.iadd, 1) := by decide +kernel
theorem dX9_comes_15 : decode cX9_comes 15 = .ok (.iastore, 1) := by decide +kernel
theorem dX9_comes_16 : decode cX9_comes 16 = .ok (.aload_n 0, 1) := by decide +kernel
theorem dX9_comes_17 : decode cX9_comes 17 = .ok (.getfield 19, 3) := by decide +kernel
theorem dX9_comes_20 : decode cX9_comes 20 = .ok (.bipush 23, 2) := by decide +kernel
theorem dX9_comes_22 : decode cX9_comes 22 = .ok (.bipush 10, 2) := by decide +kernel
theorem dX9_comes_24 : decode cX9_comes 24 = .ok (.iload_n 1, 1) := by decide +kernel
theorem dX9_comes_25 : decode cX9_comes 25 = .ok (.imul, 1) := by decide +kernel
theorem dX9_comes_26 : decode cX9_comes 26 = .ok (.iadd, 1) := by decide +kernel
theorem dX9_comes_27 : decode cX9_comes 27 = .ok (.aload_n 0, 1) := by decide +kernel
theorem dX9_comes_28 : decode cX9_comes 28 = .ok (.iload_n 1, 1) := by decide +kernel
theorem dX9_comes_29 : decode cX9_comes 29 = .ok (.invokevirtual 191, 3) := by decide +kernel
theorem dX9_comes_32 : decode cX9_comes 32 = .ok (.iadd, 1) := by decide +kernel
theorem dX9_comes_33 : decode cX9_comes 33 = .ok (.iload_n 2, 1) := by decide +kernel
theorem dX9_comes_34 : decode cX9_comes 34 = .ok (.iastore, 1) := by decide +kernel
theorem dX9_comes_35 : decode cX9_comes 35 = .ok (.return_, 1) := by decide +kernel
theorem dX9_keep_0 : decode cX9_keep 0 = .ok (.aload_n 0, 1) := by decide +kernel
theorem dX9_keep_1 : decode cX9_keep 1 = .ok (.getfield 188, 3) := by decide +kernel
theorem dX9_keep_4 : decode cX9_keep 4 = .ok (.bipush 24, 2) := by decide +kernel
theorem dX9_keep_6 : decode cX9_keep 6 = .ok (.if_icmp .ne 43, 3) := by decide +kernel
theorem dX9_keep_9 : decode cX9_keep 9 = .ok (.iconst 0, 1) := by decide +kernel
theorem dX9_keep_10 : decode cX9_keep 10 = .ok (.istore_n 1, 1) := by decide +kernel
theorem dX9_keep_11 : decode cX9_keep 11 = .ok (.iload_n 1, 1) := by decide +kernel
theorem dX9_keep_12 : decode cX9_keep 12 = .ok (.sipush 2921, 3) := by decide +kernel
theorem dX9_keep_15 : decode cX9_keep 15 = .ok (.if_icmp .ge 24, 3) := by decide +kernel
theorem dX9_keep_18 : decode cX9_keep 18 = .ok (.aload_n 0, 1) := by decide +kernel
theorem dX9_keep_19 : decode cX9_keep 19 = .ok (.getfield 25, 3) := by decide +kernel
theorem dX9_keep_22 : decode cX9_keep 22 = .ok (.iload_n 1, 1) := by decide +kernel
theorem dX9_keep_23 : decode cX9_keep 23 = .ok (.aload_n 0, 1) := by decide +kernel
theorem dX9_keep_24 : decode cX9_keep 24 = .ok (.getfield 25, 3) := by decide +kernel
theorem dX9_keep_27 : decode cX9_keep 27 = .ok (.iload_n 1, 1) := by decide +kernel
theorem dX9_keep_28 : decode cX9_keep 28 = .ok (.bipush 127, 2) := by decide +kernel
theorem dX9_keep_30 : decode cX9_keep 30 = .ok (.iadd, 1) := by decide +kernel
theorem dX9_keep_31 : decode cX9_keep 31 = .ok (.iaload, 1) := by decide +kernel
theorem dX9_keep_32 : decode cX9_keep 32 = .ok (.iastore, 1) := by decide +kernel
theorem dX9_keep_33 : decode cX9_keep 33 = .ok (.iinc 1 1, 3) := by decide +kernel
theorem dX9_keep_36 : decode cX9_keep 36 = .ok (.goto (-25), 3) := by decide +kernel
theorem dX9_keep_39 : decode cX9_keep 39 = .ok (.aload_n 0, 1) := by decide +kernel
theorem dX9_keep_40 : decode cX9_keep 40 = .ok (.dup, 1) := by decide +kernel
theorem dX9_keep_41 : decode cX9_keep 41 = .ok (.getfield 188, 3) := by decide +kernel
theorem dX9_keep_44 : decode cX9_keep 44 = .ok (.iconst 1, 1) := by decide +kernel
theorem dX9_keep_45 : decode cX9_keep 45 = .ok (.isub, 1) := by decide +kernel
theorem dX9_keep_46 : decode cX9_keep 46 = .ok (.putfield 188, 3) := by decide +kernel
theorem dX9_keep_49 : decode cX9_keep 49 = .ok (.iconst 0, 1) := by decide +kernel
theorem dX9_keep_50 : decode cX9_keep 50 = .ok (.istore_n 1, 1) := by decide +kernel
theorem dX9_keep_51 : decode cX9_keep 51 = .ok (.iload_n 1, 1) := by decide +kernel
theorem dX9_keep_52 : decode cX9_keep 52 = .ok (.bipush 127, 2) := by decide +kernel
theorem dX9_keep_54 : decode cX9_keep 54 = .ok (.if_icmp .ge 29, 3) := by decide +kernel
theorem dX9_keep_57 : decode cX9_keep 57 = .ok (.aload_n 0, 1) := by decide +kernel
theorem dX9_keep_58 : decode cX9_keep 58 = .ok (.getfield 25, 3) := by decide +kernel
theorem dX9_keep_61 : decode cX9_keep 61 = .ok (.bipush 127, 2) := by decide +kernel
theorem dX9_keep_63 : decode cX9_keep 63 = .ok (.aload_n 0, 1) := by decide +kernel
theorem dX9_keep_64 : decode cX9_keep 64 = .ok (.getfield 188, 3) := by decide +kernel
theorem dX9_keep_67 : decode cX9_keep 67 = .ok (.imul, 1) := by decide +kernel
theorem dX9_keep_68 : decode cX9_keep 68 = .ok (.iload_n 1, 1) := by decide +kernel
theorem dX9_keep_69 : decode cX9_keep 69 = .ok (.iadd, 1) := by decide +kernel
theorem dX9_keep_70 : decode cX9_keep 70 = .ok (.aload_n 0, 1) := by decide +kernel
theorem dX9_keep_71 : decode cX9_keep 71 = .ok (.getfield 19, 3) := by decide +kernel
theorem dX9_keep_74 : decode cX9_keep 74 = .ok (.iload_n 1, 1) := by decide +kernel
theorem dX9_keep_75 : decode cX9_keep 75 = .ok (.iaload, 1) := by decide +kernel
theorem dX9_keep_76 : decode cX9_keep 76 = .ok (.iastore, 1) := by decide +kernel
theorem dX9_keep_77 : decode cX9_keep 77 = .ok (.iinc 1 1, 3) := by decide +kernel
theorem dX9_keep_80 : decode cX9_keep 80 = .ok (.goto (-29), 3) := by decide +kernel
theorem dX9_keep_83 : decode cX9_keep 83 = .ok (.aload_n 0, 1) := by decide +kernel
theorem dX9_keep_84 : decode cX9_keep 84 = .ok (.dup, 1) := by decide +kernel
theorem dX9_keep_85 : decode cX9_keep 85 = .ok (.getfield 188, 3) := by decide +kernel
theorem dX9_keep_88 : decode cX9_keep 88 = .ok (.iconst 1, 1) := by decide +kernel
theorem dX9_keep_89 : decode cX9_keep 89 = .ok (.iadd, 1) := by decide +kernel
theorem dX9_keep_90 : decode cX9_keep 90 = .ok (.putfield 188, 3) := by decide +kernel
theorem dX9_keep_93 : decode cX9_keep 93 = .ok (.return_, 1) := by decide +kernel
theorem dX9_lift_0 : decode cX9_lift 0 = .ok (.aload_n 0, 1) := by decide +kernel
theorem dX9_lift_1 : decode cX9_lift 1 = .ok (.iconst 0, 1) := by decide +kernel
theorem dX9_lift_2 : decode cX9_lift 2 = .ok (.putfield 54, 3) := by decide +kernel
theorem dX9_lift_5 : decode cX9_lift 5 = .ok (.aload_n 0, 1) := by decide +kernel
theorem dX9_lift_6 : decode cX9_lift 6 = .ok (.iload_n 1, 1) := by decide +kernel
theorem dX9_lift_7 : decode cX9_lift 7 = .ok (.invokevirtual 200, 3) := by decide +kernel
theorem dX9_lift_10 : decode cX9_lift 10 = .ok (.ifCond .ne 6, 3) := by decide +kernel
theorem dX9_lift_13 : decode cX9_lift 13 = .ok (.ldc 74, 2) := by decide +kernel
theorem dX9_lift_15 : decode cX9_lift 15 = .ok (.ireturn, 1) := by decide +kernel
theorem dX9_lift_16 : decode cX9_lift 16 = .ok (.aload_n 0, 1) := by decide +kernel
theorem dX9_lift_17 : decode cX9_lift 17 = .ok (.iload_n 1, 1) := by decide +kernel
theorem dX9_lift_18 : decode cX9_lift 18 = .ok (.invokevirtual 203, 3) := by decide +kernel
theorem dX9_lift_21 : decode cX9_lift 21 = .ok (.istore_n 2, 1) := by decide +kernel
theorem dX9_lift_22 : decode cX9_lift 22 = .ok (.iload_n 2, 1) := by decide +kernel
theorem dX9_lift_23 : decode cX9_lift 23 = .ok (.ldc 90, 2) := by decide +kernel
theorem dX9_lift_25 : decode cX9_lift 25 = .ok (.if_icmp .ne 6, 3) := by decide +kernel
theorem dX9_lift_28 : decode cX9_lift 28 = .ok (.ldc 206, 2) := by decide +kernel
theorem dX9_lift_30 : decode cX9_lift 30 = .ok (.ireturn, 1) := by decide +kernel
theorem dX9_lift_31 : decode cX9_lift 31 = .ok (.aload_n 0, 1) := by decide +kernel
theorem dX9_lift_32 : decode cX9_lift 32 = .ok (.invokevirtual 207, 3) := by decide +kernel
theorem dX9_lift_35 : decode cX9_lift 35 = .ok (.aload_n 0, 1) := by decide +kernel
theorem dX9_lift_36 : decode cX9_lift 36 = .ok (.iload_n 2, 1) := by decide +kernel
theorem dX9_lift_37 : decode cX9_lift 37 = .ok (.invokevirtual 191, 3) := by decide +kernel
theorem dX9_lift_40 : decode cX9_lift 40 = .ok (.iconst 1, 1) := by decide +kernel
theorem dX9_lift_41 : decode cX9_lift 41 = .ok (.isub, 1) := by decide +kernel
theorem dX9_lift_42 : decode cX9_lift 42 = .ok (.aload_n 0, 1) := by decide +kernel
theorem dX9_lift_43 : decode cX9_lift 43 = .ok (.iload_n 2, 1) := by decide +kernel
theorem dX9_lift_44 : decode cX9_lift 44 = .ok (.iload_n 1, 1) := by decide +kernel
theorem dX9_lift_45 : decode cX9_lift 45 = .ok (.invokevirtual 197, 3) := by decide +kernel
theorem dX9_lift_48 : decode cX9_lift 48 = .ok (.isub, 1) := by decide +kernel
theorem dX9_lift_49 : decode cX9_lift 49 = .ok (.istore_n 3, 1) := by decide +kernel
theorem dX9_lift_50 : decode cX9_lift 50 = .ok (.aload_n 0, 1) := by decide +kernel
theorem dX9_lift_51 : decode cX9_lift 51 = .ok (.iload_n 2, 1) := by decide +kernel
theorem dX9_lift_52 : decode cX9_lift 52 = .ok (.iload_n 1, 1) := by decide +kernel
theorem dX9_lift_53 : decode cX9_lift 53 = .ok (.invokevirtual 210, 3) := by decide +kernel
theorem dX9_lift_56 : decode cX9_lift 56 = .ok (.aload_n 0, 1) := by decide +kernel
theorem dX9_lift_57 : decode cX9_lift 57 = .ok (.iload_n 2, 1) := by decide +kernel
theorem dX9_lift_58 : decode cX9_lift 58 = .ok (.iload_n 1, 1) := by decide +kernel
theorem dX9_lift_59 : decode cX9_lift 59 = .ok (.invokevirtual 213, 3) := by decide +kernel
theorem dX9_lift_62 : decode cX9_lift 62 = .ok (.aload_n 0, 1) := by decide +kernel
theorem dX9_lift_63 : decode cX9_lift 63 = .ok (.getfield 19, 3) := by decide +kernel
theorem dX9_lift_66 : decode cX9_lift 66 = .ok (.iconst 2, 1) := by decide +kernel
theorem dX9_lift_67 : decode cX9_lift 67 = .ok (.iaload, 1) := by decide +kernel
theorem dX9_lift_68 : decode cX9_lift 68 = .ok (.aload_n 0, 1) := by decide +kernel
theorem dX9_lift_69 : decode cX9_lift 69 = .ok (.iload_n 1, 1) := by decide +kernel
theorem dX9_lift_70 : decode cX9_lift 70 = .ok (.iconst 2, 1) := by decide +kernel
theorem dX9_lift_71 : decode cX9_lift 71 = .ok (.invokevirtual 216, 3) := by decide +kernel
theorem dX9_lift_74 : decode cX9_lift 74 = .ok (.if_icmp .gt 17, 3) := by decide +kernel
theorem dX9_lift_77 : decode cX9_lift 77 = .ok (.aload_n 0, 1) := by decide +kernel
theorem dX9_lift_78 : decode cX9_lift 78 = .ok (.getfield 19, 3) := by decide +kernel
theorem dX9_lift_81 : decode cX9_lift 81 = .ok (.bipush 63, 2) := by decide +kernel
theorem dX9_lift_83 : decode cX9_lift 83 = .ok (.iconst 4, 1) := by decide +kernel
theorem dX9_lift_84 : decode cX9_lift 84 = .ok (.iload_n 1, 1) := by decide +kernel
theorem dX9_lift_85 : decode cX9_lift 85 = .ok (.imul, 1) := by decide +kernel
theorem dX9_lift_86 : decode cX9_lift 86 = .ok (.iadd, 1) := by decide +kernel
theorem dX9_lift_87 : decode cX9_lift 87 = .ok (.iconst 3, 1) := by decide +kernel
theorem dX9_lift_88 : decode cX9_lift 88 = .ok (.iadd, 1) := by decide +kernel
theorem dX9_lift_89 : decode cX9_lift 89 = .ok (.iconst 1, 1) := by decide +kernel
theorem dX9_lift_90 : decode cX9_lift 90 = .ok (.iastore, 1) := by decide +kernel
theorem dX9_lift_91 : decode cX9_lift 91 = .ok (.iload_n 3, 1) := by decide +kernel
theorem dX9_lift_92 : decode cX9_lift 92 = .ok (.ireturn, 1) := by decide +kernel
theorem dX9_lay_0 : decode cX9_lay 0 = .ok (.aload_n 0, 1) := by decide +kernel
theorem dX9_lay_1 : decode cX9_lay 1 = .ok (.iconst 0, 1) := by decide +kernel
theorem dX9_lay_2 : decode cX9_lay 2 = .ok (.putfield 54, 3) := by decide +kernel
theorem dX9_lay_5 : decode cX9_lay 5 = .ok (.aload_n 0, 1) := by decide +kernel
theorem dX9_lay_6 : decode cX9_lay 6 = .ok (.iload_n 1, 1) := by decide +kernel
theorem dX9_lay_7 : decode cX9_lay 7 = .ok (.invokevirtual 200, 3) := by decide +kernel
theorem dX9_lay_10 : decode cX9_lay 10 = .ok (.ifCond .eq 11, 3) := by decide +kernel
theorem dX9_lay_13 : decode cX9_lay 13 = .ok (.aload_n 0, 1) := by decide +kernel
theorem dX9_lay_14 : decode cX9_lay 14 = .ok (.iload_n 2, 1) := by decide +kernel
theorem dX9_lay_15 : decode cX9_lay 15 = .ok (.invokevirtual 219, 3) := by decide +kernel
theorem dX9_lay_18 : decode cX9_lay 18 = .ok (.ifCond .ne 6, 3) := by decide +kernel
theorem dX9_lay_21 : decode cX9_lay 21 = .ok (.ldc 74, 2) := by decide +kernel
theorem dX9_lay_23 : decode cX9_lay 23 = .ok (.ireturn, 1) := by decide +kernel
theorem dX9_lay_24 : decode cX9_lay 24 = .ok (.aload_n 0, 1) := by decide +kernel
theorem dX9_lay_25 : decode cX9_lay 25 = .ok (.iload_n 1, 1) := by decide +kernel
theorem dX9_lay_26 : decode cX9_lay 26 = .ok (.invokevirtual 203, 3) := by decide +kernel
theorem dX9_lay_29 : decode cX9_lay 29 = .ok (.istore_n 3, 1) := by decide +kernel
theorem dX9_lay_30 : decode cX9_lay 30 = .ok (.iload_n 3, 1) := by decide +kernel
theorem dX9_lay_31 : decode cX9_lay 31 = .ok (.ldc 90, 2) := by decide +kernel
theorem dX9_lay_33 : decode cX9_lay 33 = .ok (.if_icmp .eq 8, 3) := by decide +kernel
theorem dX9_lay_36 : decode cX9_lay 36 = .ok (.iload_n 3, 1) := by decide +kernel
theorem dX9_lay_37 : decode cX9_lay 37 = .ok (.iload_n 2, 1) := by decide +kernel
theorem dX9_lay_38 : decode cX9_lay 38 = .ok (.if_icmp .ne 6, 3) := by decide +kernel
theorem dX9_lay_41 : decode cX9_lay 41 = .ok (.ldc 206, 2) := by decide +kernel
theorem dX9_lay_43 : decode cX9_lay 43 = .ok (.ireturn, 1) := by decide +kernel
theorem dX9_lay_44 : decode cX9_lay 44 = .ok (.aload_n 0, 1) := by decide +kernel
theorem dX9_lay_45 : decode cX9_lay 45 = .ok (.iload_n 2, 1) := by decide +kernel
theorem dX9_lay_46 : decode cX9_lay 46 = .ok (.invokevirtual 222, 3) := by decide +kernel
theorem dX9_lay_49 : decode cX9_lay 49 = .ok (.ifCond .ne 6, 3) := by decide +kernel
theorem dX9_lay_52 : decode cX9_lay 52 = .ok (.ldc 84, 2) := by decide +kernel
theorem dX9_lay_54 : decode cX9_lay 54 = .ok (.ireturn, 1) := by decide +kernel
theorem dX9_lay_55 : decode cX9_lay 55 = .ok (.aload_n 0, 1) := by decide +kernel
theorem dX9_lay_56 : decode cX9_lay 56 = .ok (.invokevirtual 207, 3) := by decide +kernel
theorem dX9_lay_59 : decode cX9_lay 59 = .ok (.aload_n 0, 1) := by decide +kernel
theorem dX9_lay_60 : decode cX9_lay 60 = .ok (.iload_n 3, 1) := by decide +kernel
theorem dX9_lay_61 : decode cX9_lay 61 = .ok (.iload_n 1, 1) := by decide +kernel
theorem dX9_lay_62 : decode cX9_lay 62 = .ok (.invokevirtual 210, 3) := by decide +kernel
theorem dX9_lay_65 : decode cX9_lay 65 = .ok (.aload_n 0, 1) := by decide +kernel
theorem dX9_lay_66 : decode cX9_lay 66 = .ok (.iload_n 2, 1) := by decide +kernel
theorem dX9_lay_67 : decode cX9_lay 67 = .ok (.iload_n 1, 1) := by decide +kernel
theorem dX9_lay_68 : decode cX9_lay 68 = .ok (.invokevirtual 213, 3) := by decide +kernel
theorem dX9_lay_71 : decode cX9_lay 71 = .ok (.aload_n 0, 1) := by decide +kernel
theorem dX9_lay_72 : decode cX9_lay 72 = .ok (.iload_n 2, 1) := by decide +kernel
theorem dX9_lay_73 : decode cX9_lay 73 = .ok (.invokevirtual 191, 3) := by decide +kernel
theorem dX9_lay_76 : decode cX9_lay 76 = .ok (.ireturn, 1) := by decide +kernel
theorem dX9_blank_0 : decode cX9_blank 0 = .ok (.aload_n 0, 1) := by decide +kernel
theorem dX9_blank_1 : decode cX9_blank 1 = .ok (.iconst 0, 1) := by decide +kernel
theorem dX9_blank_2 : decode cX9_blank 2 = .ok (.putfield 54, 3) := by decide +kernel
theorem dX9_blank_5 : decode cX9_blank 5 = .ok (.aload_n 0, 1) := by decide +kernel
theorem dX9_blank_6 : decode cX9_blank 6 = .ok (.iload_n 1, 1) := by decide +kernel
theorem dX9_blank_7 : decode cX9_blank 7 = .ok (.invokevirtual 219, 3) := by decide +kernel
theorem dX9_blank_10 : decode cX9_blank 10 = .ok (.ifCond .ne 6, 3) := by decide +kernel
theorem dX9_blank_13 : decode cX9_blank 13 = .ok (.ldc 74, 2) := by decide +kernel
theorem dX9_blank_15 : decode cX9_blank 15 = .ok (.ireturn, 1) := by decide +kernel
theorem dX9_blank_16 : decode cX9_blank 16 = .ok (.aload_n 0, 1) := by decide +kernel
theorem dX9_blank_17 : decode cX9_blank 17 = .ok (.iload_n 1, 1) := by decide +kernel
theorem dX9_blank_18 : decode cX9_blank 18 = .ok (.invokevirtual 222, 3) := by decide +kernel
theorem dX9_blank_21 : decode cX9_blank 21 = .ok (.ifCond .eq 14, 3) := by decide +kernel
theorem dX9_blank_24 : decode cX9_blank 24 = .ok (.aload_n 0, 1) := by decide +kernel
theorem dX9_blank_25 : decode cX9_blank 25 = .ok (.getfield 19, 3) := by decide +kernel
theorem dX9_blank_28 : decode cX9_blank 28 = .ok (.iconst 1, 1) := by decide +kernel
theorem dX9_blank_29 : decode cX9_blank 29 = .ok (.iaload, 1) := by decide +kernel
theorem dX9_blank_30 : decode cX9_blank 30 = .ok (.bipush 16, 2) := by decide +kernel
theorem dX9_blank_32 : decode cX9_blank 32 = .ok (.if_icmp .ne 6, 3) := by decide +kernel
theorem dX9_blank_35 : decode cX9_blank 35 = .ok (.ldc 84, 2) := by decide +kernel
theorem dX9_blank_37 : decode cX9_blank 37 = .ok (.ireturn, 1) := by decide +kernel
theorem dX9_blank_38 : decode cX9_blank 38 = .ok (.aload_n 0, 1) := by decide +kernel
theorem dX9_blank_39 : decode cX9_blank 39 = .ok (.invokevirtual 207, 3) := by decide +kernel
theorem dX9_blank_42 : decode cX9_blank 42 = .ok (.aload_n 0, 1) := by decide +kernel
theorem dX9_blank_43 : decode cX9_blank 43 = .ok (.getfield 19, 3) := by decide +kernel
theorem dX9_blank_46 : decode cX9_blank 46 = .ok (.iconst 1, 1) := by decide +kernel
theorem dX9_blank_47 : decode cX9_blank 47 = .ok (.iaload, 1) := by decide +kernel
theorem dX9_blank_48 : decode cX9_blank 48 = .ok (.istore_n 2, 1) := by decide +kernel
theorem dX9_blank_49 : decode cX9_blank 49 = .ok (.aload_n 0, 1) := by decide +kernel
theorem dX9_blank_50 : decode cX9_blank 50 = .ok (.getfield 19, 3) := by decide +kernel
theorem dX9_blank_53 : decode cX9_blank 53 = .ok (.bipush 63, 2) := by decide +kernel
theorem dX9_blank_55 : decode cX9_blank 55 = .ok (.iconst 4, 1) := by decide +kernel
theorem dX9_blank_56 : decode cX9_blank 56 = .ok (.iload_n 2, 1) := by decide +kernel
theorem dX9_blank_57 : decode cX9_blank 57 = .ok (.imul, 1) := by decide +kernel
theorem dX9_blank_58 : decode cX9_blank 58 = .ok (.iadd, 1) := by decide +kernel
theorem dX9_blank_59 : decode cX9_blank 59 = .ok (.iconst 4, 1) := by decide +kernel
theorem dX9_blank_60 : decode cX9_blank 60 = .ok (.iastore, 1) := by decide +kernel
theorem dX9_blank_61 : decode cX9_blank 61 = .ok (.aload_n 0, 1) := by decide +kernel
theorem dX9_blank_62 : decode cX9_blank 62 = .ok (.getfield 19, 3) := by decide +kernel
theorem dX9_blank_65 : decode cX9_blank 65 = .ok (.bipush 63, 2) := by decide +kernel
theorem dX9_blank_67 : decode cX9_blank 67 = .ok (.iconst 4, 1) := by decide +kernel
theorem dX9_blank_68 : decode cX9_blank 68 = .ok (.iload_n 2, 1) := by decide +kernel
theorem dX9_blank_69 : decode cX9_blank 69 = .ok (.imul, 1) := by decide +kernel
theorem dX9_blank_70 : decode cX9_blank 70 = .ok (.iadd, 1) := by decide +kernel
theorem dX9_blank_71 : decode cX9_blank 71 = .ok (.iconst 1, 1) := by decide +kernel
theorem dX9_blank_72 : decode cX9_blank 72 = .ok (.iadd, 1) := by decide +kernel
theorem dX9_blank_73 : decode cX9_blank 73 = .ok (.iconst 0, 1) := by decide +kernel
theorem dX9_blank_74 : decode cX9_blank 74 = .ok (.iastore, 1) := by decide +kernel
theorem dX9_blank_75 : decode cX9_blank 75 = .ok (.aload_n 0, 1) := by decide +kernel
theorem dX9_blank_76 : decode cX9_blank 76 = .ok (.getfield 19, 3) := by decide +kernel
theorem dX9_blank_79 : decode cX9_blank 79 = .ok (.bipush 63, 2) := by decide +kernel
theorem dX9_blank_81 : decode cX9_blank 81 = .ok (.iconst 4, 1) := by decide +kernel
theorem dX9_blank_82 : decode cX9_blank 82 = .ok (.iload_n 2, 1) := by decide +kernel
theorem dX9_blank_83 : decode cX9_blank 83 = .ok (.imul, 1) := by decide +kernel
theorem dX9_blank_84 : decode cX9_blank 84 = .ok (.iadd, 1) := by decide +kernel
theorem dX9_blank_85 : decode cX9_blank 85 = .ok (.iconst 2, 1) := by decide +kernel
theorem dX9_blank_86 : decode cX9_blank 86 = .ok (.iadd, 1) := by decide +kernel
theorem dX9_blank_87 : decode cX9_blank 87 = .ok (.bipush 12, 2) := by decide +kernel
theorem dX9_blank_89 : decode cX9_blank 89 = .ok (.iastore, 1) := by decide +kernel
theorem dX9_blank_90 : decode cX9_blank 90 = .ok (.aload_n 0, 1) := by decide +kernel
theorem dX9_blank_91 : decode cX9_blank 91 = .ok (.getfield 19, 3) := by decide +kernel
theorem dX9_blank_94 : decode cX9_blank 94 = .ok (.bipush 63, 2) := by decide +kernel
theorem dX9_blank_96 : decode cX9_blank 96 = .ok (.iconst 4, 1) := by decide +kernel
theorem dX9_blank_97 : decode cX9_blank 97 = .ok (.iload_n 2, 1) := by decide +kernel
theorem dX9_blank_98 : decode cX9_blank 98 = .ok (.imul, 1) := by decide +kernel
theorem dX9_blank_99 : decode cX9_blank 99 = .ok (.iadd, 1) := by decide +kernel
theorem dX9_blank_100 : decode cX9_blank 100 = .ok (.iconst 3, 1) := by decide +kernel
theorem dX9_blank_101 : decode cX9_blank 101 = .ok (.iadd, 1) := by decide +kernel
theorem dX9_blank_102 : decode cX9_blank 102 = .ok (.iconst 0, 1) := by decide +kernel
theorem dX9_blank_103 : decode cX9_blank 103 = .ok (.iastore, 1) := by decide +kernel
theorem dX9_blank_104 : decode cX9_blank 104 = .ok (.aload_n 0, 1) := by decide +kernel
theorem dX9_blank_105 : decode cX9_blank 105 = .ok (.getfield 19, 3) := by decide +kernel
theorem dX9_blank_108 : decode cX9_blank 108 = .ok (.iconst 1, 1) := by decide +kernel
theorem dX9_blank_109 : decode cX9_blank 109 = .ok (.dup2, 1) := by decide +kernel
theorem dX9_blank_110 : decode cX9_blank 110 = .ok (.iaload, 1) := by decide +kernel
theorem dX9_blank_111 : decode cX9_blank 111 = .ok (.iconst 1, 1) := by decide +kernel
theorem dX9_blank_112 : decode cX9_blank 112 = .ok (.iadd, 1) := by decide +kernel
theorem dX9_blank_113 : decode cX9_blank 113 = .ok (.iastore, 1) := by decide +kernel
theorem dX9_blank_114 : decode cX9_blank 114 = .ok (.aload_n 0, 1) := by decide +kernel
theorem dX9_blank_115 : decode cX9_blank 115 = .ok (.iload_n 1, 1) := by decide +kernel
theorem dX9_blank_116 : decode cX9_blank 116 = .ok (.iload_n 2, 1) := by decide +kernel
theorem dX9_blank_117 : decode cX9_blank 117 = .ok (.invokevirtual 213, 3) := by decide +kernel
theorem dX9_blank_120 : decode cX9_blank 120 = .ok (.iload_n 2, 1) := by decide +kernel
theorem dX9_blank_121 : decode cX9_blank 121 = .ok (.ireturn, 1) := by decide +kernel
theorem dX9_layLeft_0 : decode cX9_layLeft 0 = .ok (.iconst 0, 1) := by decide +kernel
theorem dX9_layLeft_1 : decode cX9_layLeft 1 = .ok (.istore_n 1, 1) := by decide +kernel
theorem dX9_layLeft_2 : decode cX9_layLeft 2 = .ok (.iload_n 1, 1) := by decide +kernel
theorem dX9_layLeft_3 : decode cX9_layLeft 3 = .ok (.aload_n 0, 1) := by decide +kernel
theorem dX9_layLeft_4 : decode cX9_layLeft 4 = .ok (.getfield 19, 3) := by decide +kernel
theorem dX9_layLeft_7 : decode cX9_layLeft 7 = .ok (.iconst 0, 1) := by decide +kernel
theorem dX9_layLeft_8 : decode cX9_layLeft 8 = .ok (.iaload, 1) := by decide +kernel
theorem dX9_layLeft_9 : decode cX9_layLeft 9 = .ok (.if_icmp .ge 20, 3) := by decide +kernel
theorem dX9_layLeft_12 : decode cX9_layLeft 12 = .ok (.aload_n 0, 1) := by decide +kernel
theorem dX9_layLeft_13 : decode cX9_layLeft 13 = .ok (.getfield 31, 3) := by decide +kernel
theorem dX9_layLeft_16 : decode cX9_layLeft 16 = .ok (.iload_n 1, 1) := by decide +kernel
theorem dX9_layLeft_17 : decode cX9_layLeft 17 = .ok (.aload_n 0, 1) := by decide +kernel
theorem dX9_layLeft_18 : decode cX9_layLeft 18 = .ok (.iload_n 1, 1) := by decide +kernel
theorem dX9_layLeft_19 : decode cX9_layLeft 19 = .ok (.invokevirtual 191, 3) := by decide +kernel
theorem dX9_layLeft_22 : decode cX9_layLeft 22 = .ok (.iastore, 1) := by decide +kernel
theorem dX9_layLeft_23 : decode cX9_layLeft 23 = .ok (.iinc 1 1, 3) := by decide +kernel
theorem dX9_layLeft_26 : decode cX9_layLeft 26 = .ok (.goto (-24), 3) := by decide +kernel
theorem dX9_layLeft_29 : decode cX9_layLeft 29 = .ok (.return_, 1) := by decide +kernel
theorem dX9_topOf_0 : decode cX9_topOf 0 = .ok (.aload_n 0, 1) := by decide +kernel
theorem dX9_topOf_1 : decode cX9_topOf 1 = .ok (.getfield 31, 3) := by decide +kernel
theorem dX9_topOf_4 : decode cX9_topOf 4 = .ok (.iload_n 1, 1) := by decide +kernel
theorem dX9_topOf_5 : decode cX9_topOf 5 = .ok (.iaload, 1) := by decide +kernel
theorem dX9_topOf_6 : decode cX9_topOf 6 = .ok (.aload_n 0, 1) := by decide +kernel
theorem dX9_topOf_7 : decode cX9_topOf 7 = .ok (.getfield 19, 3) := by decide +kernel
theorem dX9_topOf_10 : decode cX9_topOf 10 = .ok (.bipush 15, 2) := by decide +kernel
theorem dX9_topOf_12 : decode cX9_topOf 12 = .ok (.iconst 2, 1) := by decide +kernel
theorem dX9_topOf_13 : decode cX9_topOf 13 = .ok (.iload_n 1, 1) := by decide +kernel
theorem dX9_topOf_14 : decode cX9_topOf 14 = .ok (.imul, 1) := by decide +kernel
theorem dX9_topOf_15 : decode cX9_topOf 15 = .ok (.iadd, 1) := by decide +kernel
theorem dX9_topOf_16 : decode cX9_topOf 16 = .ok (.iconst 1, 1) := by decide +kernel
theorem dX9_topOf_17 : decode cX9_topOf 17 = .ok (.iadd, 1) := by decide +kernel
theorem dX9_topOf_18 : decode cX9_topOf 18 = .ok (.iaload, 1) := by decide +kernel
theorem dX9_topOf_19 : decode cX9_topOf 19 = .ok (.if_icmp .le 7, 3) := by decide +kernel
theorem dX9_topOf_22 : decode cX9_topOf 22 = .ok (.iconst 1, 1) := by decide +kernel
theorem dX9_topOf_23 : decode cX9_topOf 23 = .ok (.goto 4, 3) := by decide +kernel
theorem dX9_topOf_26 : decode cX9_topOf 26 = .ok (.iconst 0, 1) := by decide +kernel
theorem dX9_topOf_27 : decode cX9_topOf 27 = .ok (.istore_n 2, 1) := by decide +kernel
theorem dX9_topOf_28 : decode cX9_topOf 28 = .ok (.iload_n 2, 1) := by decide +kernel
theorem dX9_topOf_29 : decode cX9_topOf 29 = .ok (.ifCond .eq 19, 3) := by decide +kernel
theorem dX9_topOf_32 : decode cX9_topOf 32 = .ok (.aload_n 0, 1) := by decide +kernel
theorem dX9_topOf_33 : decode cX9_topOf 33 = .ok (.iload_n 1, 1) := by decide +kernel
theorem dX9_topOf_34 : decode cX9_topOf 34 = .ok (.aload_n 0, 1) := by decide +kernel
theorem dX9_topOf_35 : decode cX9_topOf 35 = .ok (.getfield 31, 3) := by decide +kernel
theorem dX9_topOf_38 : decode cX9_topOf 38 = .ok (.iload_n 1, 1) := by decide +kernel
theorem dX9_topOf_39 : decode cX9_topOf 39 = .ok (.iaload, 1) := by decide +kernel
theorem dX9_topOf_40 : decode cX9_topOf 40 = .ok (.iconst 1, 1) := by decide +kernel
theorem dX9_topOf_41 : decode cX9_topOf 41 = .ok (.isub, 1) := by decide +kernel
theorem dX9_topOf_42 : decode cX9_topOf 42 = .ok (.invokevirtual 194, 3) := by decide +kernel
theorem dX9_topOf_45 : decode cX9_topOf 45 = .ok (.goto 5, 3) := by decide +kernel
theorem dX9_topOf_48 : decode cX9_topOf 48 = .ok (.ldc 90, 2) := by decide +kernel
theorem dX9_topOf_50 : decode cX9_topOf 50 = .ok (.istore_n 3, 1) := by decide +kernel
theorem dX9_topOf_51 : decode cX9_topOf 51 = .ok (.iload_n 2, 1) := by decide +kernel
theorem dX9_topOf_52 : decode cX9_topOf 52 = .ok (.ifCond .eq 17, 3) := by decide +kernel
theorem dX9_topOf_55 : decode cX9_topOf 55 = .ok (.aload_n 0, 1) := by decide +kernel
theorem dX9_topOf_56 : decode cX9_topOf 56 = .ok (.iload_n 3, 1) := by decide +kernel
theorem dX9_topOf_57 : decode cX9_topOf 57 = .ok (.iconst 0, 1) := by decide +kernel
theorem dX9_topOf_58 : decode cX9_topOf 58 = .ok (.invokevirtual 216, 3) := by decide +kernel
theorem dX9_topOf_61 : decode cX9_topOf 61 = .ok (.iconst 5, 1) := by decide +kernel
theorem dX9_topOf_62 : decode cX9_topOf 62 = .ok (.if_icmp .eq 7, 3) := by decide +kernel
theorem dX9_topOf_65 : decode cX9_topOf 65 = .ok (.iload_n 3, 1) := by decide +kernel
theorem dX9_topOf_66 : decode cX9_topOf 66 = .ok (.goto 5, 3) := by decide +kernel
theorem dX9_topOf_69 : decode cX9_topOf 69 = .ok (.ldc 90, 2) := by decide +kernel
theorem dX9_topOf_71 : decode cX9_topOf 71 = .ok (.ireturn, 1) := by decide +kernel
theorem dX9_gust_0 : decode cX9_gust 0 = .ok (.iconst 0, 1) := by decide +kernel
theorem dX9_gust_1 : decode cX9_gust 1 = .ok (.istore_n 1, 1) := by decide +kernel
theorem dX9_gust_2 : decode cX9_gust 2 = .ok (.iconst 0, 1) := by decide +kernel
theorem dX9_gust_3 : decode cX9_gust 3 = .ok (.istore_n 2, 1) := by decide +kernel
theorem dX9_gust_4 : decode cX9_gust 4 = .ok (.iload_n 2, 1) := by decide +kernel
theorem dX9_gust_5 : decode cX9_gust 5 = .ok (.aload_n 0, 1) := by decide +kernel
theorem dX9_gust_6 : decode cX9_gust 6 = .ok (.getfield 19, 3) := by decide +kernel
theorem dX9_gust_9 : decode cX9_gust 9 = .ok (.iconst 0, 1) := by decide +kernel
theorem dX9_gust_10 : decode cX9_gust 10 = .ok (.iaload, 1) := by decide +kernel
theorem dX9_gust_11 : decode cX9_gust 11 = .ok (.if_icmp .ge 37, 3) := by decide +kernel
theorem dX9_gust_14 : decode cX9_gust 14 = .ok (.aload_n 0, 1) := by decide +kernel
theorem dX9_gust_15 : decode cX9_gust 15 = .ok (.iload_n 2, 1) := by decide +kernel
theorem dX9_gust_16 : decode cX9_gust 16 = .ok (.invokevirtual 225, 3) := by decide +kernel
theorem dX9_gust_19 : decode cX9_gust 19 = .ok (.istore_n 3, 1) := by decide +kernel
theorem dX9_gust_20 : decode cX9_gust 20 = .ok (.iload_n 3, 1) := by decide +kernel
theorem dX9_gust_21 : decode cX9_gust 21 = .ok (.ldc 90, 2) := by decide +kernel
theorem dX9_gust_23 : decode cX9_gust 23 = .ok (.if_icmp .eq 19, 3) := by decide +kernel
theorem dX9_gust_26 : decode cX9_gust 26 = .ok (.iload_n 1, 1) := by decide +kernel
theorem dX9_gust_27 : decode cX9_gust 27 = .ok (.iconst 1, 1) := by decide +kernel
theorem dX9_gust_28 : decode cX9_gust 28 = .ok (.iload_n 3, 1) := by decide +kernel
theorem dX9_gust_29 : decode cX9_gust 29 = .ok (.ishl, 1) := by decide +kernel
theorem dX9_gust_30 : decode cX9_gust 30 = .ok (.ior, 1) := by decide +kernel
theorem dX9_gust_31 : decode cX9_gust 31 = .ok (.istore_n 1, 1) := by decide +kernel
theorem dX9_gust_32 : decode cX9_gust 32 = .ok (.aload_n 0, 1) := by decide +kernel
theorem dX9_gust_33 : decode cX9_gust 33 = .ok (.getfield 31, 3) := by decide +kernel
theorem dX9_gust_36 : decode cX9_gust 36 = .ok (.iload_n 2, 1) := by decide +kernel
theorem dX9_gust_37 : decode cX9_gust 37 = .ok (.dup2, 1) := by decide +kernel
theorem dX9_gust_38 : decode cX9_gust 38 = .ok (.iaload, 1) := by decide +kernel
theorem dX9_gust_39 : decode cX9_gust 39 = .ok (.iconst 1, 1) := by decide +kernel
theorem dX9_gust_40 : decode cX9_gust 40 = .ok (.isub, 1) := by decide +kernel
theorem dX9_gust_41 : decode cX9_gust 41 = .ok (.iastore, 1) := by decide +kernel
theorem dX9_gust_42 : decode cX9_gust 42 = .ok (.iinc 2 1, 3) := by decide +kernel
theorem dX9_gust_45 : decode cX9_gust 45 = .ok (.goto (-41), 3) := by decide +kernel
theorem dX9_gust_48 : decode cX9_gust 48 = .ok (.iload_n 1, 1) := by decide +kernel
theorem dX9_gust_49 : decode cX9_gust 49 = .ok (.ireturn, 1) := by decide +kernel
theorem dX9_quarter_0 : decode cX9_quarter 0 = .ok (.aload_n 0, 1) := by decide +kernel
theorem dX9_quarter_1 : decode cX9_quarter 1 = .ok (.iconst 0, 1) := by decide +kernel
theorem dX9_quarter_2 : decode cX9_quarter 2 = .ok (.putfield 54, 3) := by decide +kernel
theorem dX9_quarter_5 : decode cX9_quarter 5 = .ok (.aload_n 0, 1) := by decide +kernel
theorem dX9_quarter_6 : decode cX9_quarter 6 = .ok (.getfield 184, 3) := by decide +kernel
theorem dX9_quarter_9 : decode cX9_quarter 9 = .ok (.ifCond .ne 6, 3) := by decide +kernel
theorem dX9_quarter_12 : decode cX9_quarter 12 = .ok (.ldc 206, 2) := by decide +kernel
theorem dX9_quarter_14 : decode cX9_quarter 14 = .ok (.ireturn, 1) := by decide +kernel
theorem dX9_quarter_15 : decode cX9_quarter 15 = .ok (.iload_n 1, 1) := by decide +kernel
theorem dX9_quarter_16 : decode cX9_quarter 16 = .ok (.i2l, 1) := by decide +kernel
theorem dX9_quarter_17 : decode cX9_quarter 17 = .ok (.lconst 1, 1) := by decide +kernel
theorem dX9_quarter_18 : decode cX9_quarter 18 = .ok (.ldc2_w 228, 3) := by decide +kernel
theorem dX9_quarter_21 : decode cX9_quarter 21 = .ok (.invokestatic 64, 3) := by decide +kernel
theorem dX9_quarter_24 : decode cX9_quarter 24 = .ok (.ifCond .ne 6, 3) := by decide +kernel
theorem dX9_quarter_27 : decode cX9_quarter 27 = .ok (.ldc 74, 2) := by decide +kernel
theorem dX9_quarter_29 : decode cX9_quarter 29 = .ok (.ireturn, 1) := by decide +kernel
theorem dX9_quarter_30 : decode cX9_quarter 30 = .ok (.aload_n 0, 1) := by decide +kernel
theorem dX9_quarter_31 : decode cX9_quarter 31 = .ok (.getfield 19, 3) := by decide +kernel
theorem dX9_quarter_34 : decode cX9_quarter 34 = .ok (.iconst 2, 1) := by decide +kernel
theorem dX9_quarter_35 : decode cX9_quarter 35 = .ok (.iaload, 1) := by decide +kernel
theorem dX9_quarter_36 : decode cX9_quarter 36 = .ok (.bipush 12, 2) := by decide +kernel
theorem dX9_quarter_38 : decode cX9_quarter 38 = .ok (.if_icmp .ne 6, 3) := by decide +kernel
theorem dX9_quarter_41 : decode cX9_quarter 41 = .ok (.ldc 206, 2) := by decide +kernel
theorem dX9_quarter_43 : decode cX9_quarter 43 = .ok (.ireturn, 1) := by decide +kernel
theorem dX9_quarter_44 : decode cX9_quarter 44 = .ok (.aload_n 0, 1) := by decide +kernel
theorem dX9_quarter_45 : decode cX9_quarter 45 = .ok (.invokevirtual 207, 3) := by decide +kernel
theorem dX9_quarter_48 : decode cX9_quarter 48 = .ok (.iload_n 1, 1) := by decide +kernel
theorem dX9_quarter_49 : decode cX9_quarter 49 = .ok (.i2l, 1) := by decide +kernel
theorem dX9_quarter_50 : decode cX9_quarter 50 = .ok (.ldc2_w 230, 3) := by decide +kernel
theorem dX9_quarter_53 : decode cX9_quarter 53 = .ok (.lmul, 1) := by decide +kernel
theorem dX9_quarter_54 : decode cX9_quarter 54 = .ok (.ldc2_w 232, 3) := by decide +kernel
theorem dX9_quarter_57 : decode cX9_quarter 57 = .ok (.lrem, 1) := by decide +kernel
theorem dX9_quarter_58 : decode cX9_quarter 58 = .ok (.lstore_n 2, 1) := by decide +kernel
theorem dX9_quarter_59 : decode cX9_quarter 59 = .ok (.iconst 0, 1) := by decide +kernel
theorem dX9_quarter_60 : decode cX9_quarter 60 = .ok (.istore 4, 2) := by decide +kernel
theorem dX9_quarter_62 : decode cX9_quarter 62 = .ok (.lload_n 2, 1) := by decide +kernel
theorem dX9_quarter_63 : decode cX9_quarter 63 = .ok (.ldc2_w 234, 3) := by decide +kernel
theorem dX9_quarter_66 : decode cX9_quarter 66 = .ok (.lrem, 1) := by decide +kernel
theorem dX9_quarter_67 : decode cX9_quarter 67 = .ok (.aload_n 0, 1) := by decide +kernel
theorem dX9_quarter_68 : decode cX9_quarter 68 = .ok (.getfield 19, 3) := by decide +kernel
theorem dX9_quarter_71 : decode cX9_quarter 71 = .ok (.iconst 3, 1) := by decide +kernel
theorem dX9_quarter_72 : decode cX9_quarter 72 = .ok (.aload_n 0, 1) := by decide +kernel
theorem dX9_quarter_73 : decode cX9_quarter 73 = .ok (.getfield 19, 3) := by decide +kernel
theorem dX9_quarter_76 : decode cX9_quarter 76 = .ok (.iconst 2, 1) := by decide +kernel
theorem dX9_quarter_77 : decode cX9_quarter 77 = .ok (.iaload, 1) := by decide +kernel
theorem dX9_quarter_78 : decode cX9_quarter 78 = .ok (.iadd, 1) := by decide +kernel
theorem dX9_quarter_79 : decode cX9_quarter 79 = .ok (.iaload, 1) := by decide +kernel
theorem dX9_quarter_80 : decode cX9_quarter 80 = .ok (.i2l, 1) := by decide +kernel
theorem dX9_quarter_81 : decode cX9_quarter 81 = .ok (.lcmp, 1) := by decide +kernel
theorem dX9_quarter_82 : decode cX9_quarter 82 = .ok (.ifCond .ge 53, 3) := by decide +kernel
theorem dX9_quarter_85 : decode cX9_quarter 85 = .ok (.aload_n 0, 1) := by decide +kernel
theorem dX9_quarter_86 : decode cX9_quarter 86 = .ok (.invokevirtual 236, 3) := by decide +kernel
theorem dX9_quarter_89 : decode cX9_quarter 89 = .ok (.aload_n 0, 1) := by decide +kernel
theorem dX9_quarter_90 : decode cX9_quarter 90 = .ok (.invokevirtual 239, 3) := by decide +kernel
theorem dX9_quarter_93 : decode cX9_quarter 93 = .ok (.istore 4, 2) := by decide +kernel
theorem dX9_quarter_95 : decode cX9_quarter 95 = .ok (.iconst 0, 1) := by decide +kernel
theorem dX9_quarter_96 : decode cX9_quarter 96 = .ok (.istore 5, 2) := by decide +kernel
theorem dX9_quarter_98 : decode cX9_quarter 98 = .ok (.iload 5, 2) := by decide +kernel
theorem dX9_quarter_100 : decode cX9_quarter 100 = .ok (.aload_n 0, 1) := by decide +kernel
theorem dX9_quarter_101 : decode cX9_quarter 101 = .ok (.getfield 19, 3) := by decide +kernel
theorem dX9_quarter_104 : decode cX9_quarter 104 = .ok (.iconst 0, 1) := by decide +kernel
theorem dX9_quarter_105 : decode cX9_quarter 105 = .ok (.iaload, 1) := by decide +kernel
theorem dX9_quarter_106 : decode cX9_quarter 106 = .ok (.if_icmp .ge 29, 3) := by decide +kernel
theorem dX9_quarter_109 : decode cX9_quarter 109 = .ok (.aload_n 0, 1) := by decide +kernel
theorem dX9_quarter_110 : decode cX9_quarter 110 = .ok (.getfield 19, 3) := by decide +kernel
theorem dX9_quarter_113 : decode cX9_quarter 113 = .ok (.bipush 23, 2) := by decide +kernel
theorem dX9_quarter_115 : decode cX9_quarter 115 = .ok (.bipush 10, 2) := by decide +kernel
theorem dX9_quarter_117 : decode cX9_quarter 117 = .ok (.iload 5, 2) := by decide +kernel
theorem dX9_quarter_119 : decode cX9_quarter 119 = .ok (.imul, 1) := by decide +kernel
theorem dX9_quarter_120 : decode cX9_quarter 120 = .ok (.iadd, 1) := by decide +kernel
theorem dX9_quarter_121 : decode cX9_quarter 121 = .ok (.aload_n 0, 1) := by decide +kernel
theorem dX9_quarter_122 : decode cX9_quarter 122 = .ok (.getfield 31, 3) := by decide +kernel
theorem dX9_quarter_125 : decode cX9_quarter 125 = .ok (.iload 5, 2) := by decide +kernel
theorem dX9_quarter_127 : decode cX9_quarter 127 = .ok (.iaload, 1) := by decide +kernel
theorem dX9_quarter_128 : decode cX9_quarter 128 = .ok (.iastore, 1) := by decide +kernel
theorem dX9_quarter_129 : decode cX9_quarter 129 = .ok (.iinc 5 1, 3) := by decide +kernel
theorem dX9_quarter_132 : decode cX9_quarter 132 = .ok (.goto (-34), 3) := by decide +kernel
theorem dX9_quarter_135 : decode cX9_quarter 135 = .ok (.aload_n 0, 1) := by decide +kernel
theorem dX9_quarter_136 : decode cX9_quarter 136 = .ok (.getfield 19, 3) := by decide +kernel
theorem dX9_quarter_139 : decode cX9_quarter 139 = .ok (.iconst 2, 1) := by decide +kernel
theorem dX9_quarter_140 : decode cX9_quarter 140 = .ok (.dup2, 1) := by decide +kernel
theorem dX9_quarter_141 : decode cX9_quarter 141 = .ok (.iaload, 1) := by decide +kernel
theorem dX9_quarter_142 : decode cX9_quarter 142 = .ok (.iconst 1, 1) := by decide +kernel
theorem dX9_quarter_143 : decode cX9_quarter 143 = .ok (.iadd, 1) := by decide +kernel
theorem dX9_quarter_144 : decode cX9_quarter 144 = .ok (.iastore, 1) := by decide +kernel
theorem dX9_quarter_145 : decode cX9_quarter 145 = .ok (.iload 4, 2) := by decide +kernel
theorem dX9_quarter_147 : decode cX9_quarter 147 = .ok (.ireturn, 1) := by decide +kernel
theorem dX9_undo_0 : decode cX9_undo 0 = .ok (.aload_n 0, 1) := by decide +kernel
theorem dX9_undo_1 : decode cX9_undo 1 = .ok (.iconst 0, 1) := by decide +kernel
theorem dX9_undo_2 : decode cX9_undo 2 = .ok (.putfield 54, 3) := by decide +kernel
theorem dX9_undo_5 : decode cX9_undo 5 = .ok (.aload_n 0, 1) := by decide +kernel
theorem dX9_undo_6 : decode cX9_undo 6 = .ok (.getfield 188, 3) := by decide +kernel
theorem dX9_undo_9 : decode cX9_undo 9 = .ok (.ifCond .ne 6, 3) := by decide +kernel
theorem dX9_undo_12 : decode cX9_undo 12 = .ok (.ldc 206, 2) := by decide +kernel
theorem dX9_undo_14 : decode cX9_undo 14 = .ok (.ireturn, 1) := by decide +kernel
theorem dX9_undo_15 : decode cX9_undo 15 = .ok (.aload_n 0, 1) := by decide +kernel
theorem dX9_undo_16 : decode cX9_undo 16 = .ok (.dup, 1) := by decide +kernel
theorem dX9_undo_17 : decode cX9_undo 17 = .ok (.getfield 188, 3) := by decide +kernel
theorem dX9_undo_20 : decode cX9_undo 20 = .ok (.iconst 1, 1) := by decide +kernel
theorem dX9_undo_21 : decode cX9_undo 21 = .ok (.isub, 1) := by decide +kernel
theorem dX9_undo_22 : decode cX9_undo 22 = .ok (.putfield 188, 3) := by decide +kernel
theorem dX9_undo_25 : decode cX9_undo 25 = .ok (.iconst 0, 1) := by decide +kernel
theorem dX9_undo_26 : decode cX9_undo 26 = .ok (.istore_n 1, 1) := by decide +kernel
theorem dX9_undo_27 : decode cX9_undo 27 = .ok (.iload_n 1, 1) := by decide +kernel
theorem dX9_undo_28 : decode cX9_undo 28 = .ok (.bipush 127, 2) := by decide +kernel
theorem dX9_undo_30 : decode cX9_undo 30 = .ok (.if_icmp .ge 29, 3) := by decide +kernel
theorem dX9_undo_33 : decode cX9_undo 33 = .ok (.aload_n 0, 1) := by decide +kernel
theorem dX9_undo_34 : decode cX9_undo 34 = .ok (.getfield 19, 3) := by decide +kernel
theorem dX9_undo_37 : decode cX9_undo 37 = .ok (.iload_n 1, 1) := by decide +kernel
theorem dX9_undo_38 : decode cX9_undo 38 = .ok (.aload_n 0, 1) := by decide +kernel
theorem dX9_undo_39 : decode cX9_undo 39 = .ok (.getfield 25, 3) := by decide +kernel
theorem dX9_undo_42 : decode cX9_undo 42 = .ok (.bipush 127, 2) := by decide +kernel
theorem dX9_undo_44 : decode cX9_undo 44 = .ok (.aload_n 0, 1) := by decide +kernel
theorem dX9_undo_45 : decode cX9_undo 45 = .ok (.getfield 188, 3) := by decide +kernel
theorem dX9_undo_48 : decode cX9_undo 48 = .ok (.imul, 1) := by decide +kernel
theorem dX9_undo_49 : decode cX9_undo 49 = .ok (.iload_n 1, 1) := by decide +kernel
theorem dX9_undo_50 : decode cX9_undo 50 = .ok (.iadd, 1) := by decide +kernel
theorem dX9_undo_51 : decode cX9_undo 51 = .ok (.iaload, 1) := by decide +kernel
theorem dX9_undo_52 : decode cX9_undo 52 = .ok (.iastore, 1) := by decide +kernel
theorem dX9_undo_53 : decode cX9_undo 53 = .ok (.iinc 1 1, 3) := by decide +kernel
theorem dX9_undo_56 : decode cX9_undo 56 = .ok (.goto (-29), 3) := by decide +kernel
theorem dX9_undo_59 : decode cX9_undo 59 = .ok (.aload_n 0, 1) := by decide +kernel
theorem dX9_undo_60 : decode cX9_undo 60 = .ok (.getfield 188, 3) := by decide +kernel
theorem dX9_undo_63 : decode cX9_undo 63 = .ok (.ireturn, 1) := by decide +kernel
theorem dX9_isMissed_0 : decode cX9_isMissed 0 = .ok (.aload_n 0, 1) := by decide +kernel
theorem dX9_isMissed_1 : decode cX9_isMissed 1 = .ok (.iload_n 1, 1) := by decide +kernel
theorem dX9_isMissed_2 : decode cX9_isMissed 2 = .ok (.iconst 2, 1) := by decide +kernel
theorem dX9_isMissed_3 : decode cX9_isMissed 3 = .ok (.invokevirtual 216, 3) := by decide +kernel
theorem dX9_isMissed_6 : decode cX9_isMissed 6 = .ok (.bipush 12, 2) := by decide +kernel
theorem dX9_isMissed_8 : decode cX9_isMissed 8 = .ok (.if_icmp .ge 41, 3) := by decide +kernel
theorem dX9_isMissed_11 : decode cX9_isMissed 11 = .ok (.aload_n 0, 1) := by decide +kernel
theorem dX9_isMissed_12 : decode cX9_isMissed 12 = .ok (.iload_n 1, 1) := by decide +kernel
theorem dX9_isMissed_13 : decode cX9_isMissed 13 = .ok (.iconst 3, 1) := by decide +kernel
theorem dX9_isMissed_14 : decode cX9_isMissed 14 = .ok (.invokevirtual 216, 3) := by decide +kernel
theorem dX9_isMissed_17 : decode cX9_isMissed 17 = .ok (.ifCond .ne 32, 3) := by decide +kernel
theorem dX9_isMissed_20 : decode cX9_isMissed 20 = .ok (.aload_n 0, 1) := by decide +kernel
theorem dX9_isMissed_21 : decode cX9_isMissed 21 = .ok (.iload_n 1, 1) := by decide +kernel
theorem dX9_isMissed_22 : decode cX9_isMissed 22 = .ok (.invokevirtual 203, 3) := by decide +kernel
theorem dX9_isMissed_25 : decode cX9_isMissed 25 = .ok (.ldc 90, 2) := by decide +kernel
theorem dX9_isMissed_27 : decode cX9_isMissed 27 = .ok (.if_icmp .eq 18, 3) := by decide +kernel
theorem dX9_isMissed_30 : decode cX9_isMissed 30 = .ok (.aload_n 0, 1) := by decide +kernel
theorem dX9_isMissed_31 : decode cX9_isMissed 31 = .ok (.getfield 19, 3) := by decide +kernel
theorem dX9_isMissed_34 : decode cX9_isMissed 34 = .ok (.iconst 2, 1) := by decide +kernel
theorem dX9_isMissed_35 : decode cX9_isMissed 35 = .ok (.iaload, 1) := by decide +kernel
theorem dX9_isMissed_36 : decode cX9_isMissed 36 = .ok (.aload_n 0, 1) := by decide +kernel
theorem dX9_isMissed_37 : decode cX9_isMissed 37 = .ok (.iload_n 1, 1) := by decide +kernel
theorem dX9_isMissed_38 : decode cX9_isMissed 38 = .ok (.iconst 2, 1) := by decide +kernel
theorem dX9_isMissed_39 : decode cX9_isMissed 39 = .ok (.invokevirtual 216, 3) := by decide +kernel
theorem dX9_isMissed_42 : decode cX9_isMissed 42 = .ok (.if_icmp .le 7, 3) := by decide +kernel
theorem dX9_isMissed_45 : decode cX9_isMissed 45 = .ok (.iconst 1, 1) := by decide +kernel
theorem dX9_isMissed_46 : decode cX9_isMissed 46 = .ok (.goto 4, 3) := by decide +kernel
theorem dX9_isMissed_49 : decode cX9_isMissed 49 = .ok (.iconst 0, 1) := by decide +kernel
theorem dX9_isMissed_50 : decode cX9_isMissed 50 = .ok (.ireturn, 1) := by decide +kernel
theorem dX9_sheet_0 : decode cX9_sheet 0 = .ok (.aload_n 0, 1) := by decide +kernel
theorem dX9_sheet_1 : decode cX9_sheet 1 = .ok (.iconst 0, 1) := by decide +kernel
theorem dX9_sheet_2 : decode cX9_sheet 2 = .ok (.putfield 54, 3) := by decide +kernel
theorem dX9_sheet_5 : decode cX9_sheet 5 = .ok (.aload_n 0, 1) := by decide +kernel
theorem dX9_sheet_6 : decode cX9_sheet 6 = .ok (.iload_n 1, 1) := by decide +kernel
theorem dX9_sheet_7 : decode cX9_sheet 7 = .ok (.invokevirtual 200, 3) := by decide +kernel
theorem dX9_sheet_10 : decode cX9_sheet 10 = .ok (.ifCond .eq 15, 3) := by decide +kernel
theorem dX9_sheet_13 : decode cX9_sheet 13 = .ok (.iload_n 2, 1) := by decide +kernel
theorem dX9_sheet_14 : decode cX9_sheet 14 = .ok (.i2l, 1) := by decide +kernel
theorem dX9_sheet_15 : decode cX9_sheet 15 = .ok (.lconst 0, 1) := by decide +kernel
theorem dX9_sheet_16 : decode cX9_sheet 16 = .ok (.ldc2_w 242, 3) := by decide +kernel
theorem dX9_sheet_19 : decode cX9_sheet 19 = .ok (.invokestatic 64, 3) := by decide +kernel
theorem dX9_sheet_22 : decode cX9_sheet 22 = .ok (.ifCond .ne 6, 3) := by decide +kernel
theorem dX9_sheet_25 : decode cX9_sheet 25 = .ok (.ldc 74, 2) := by decide +kernel
theorem dX9_sheet_27 : decode cX9_sheet 27 = .ok (.ireturn, 1) := by decide +kernel
theorem dX9_sheet_28 : decode cX9_sheet 28 = .ok (.aload_n 0, 1) := by decide +kernel
theorem dX9_sheet_29 : decode cX9_sheet 29 = .ok (.iload_n 1, 1) := by decide +kernel
theorem dX9_sheet_30 : decode cX9_sheet 30 = .ok (.invokevirtual 203, 3) := by decide +kernel
theorem dX9_sheet_33 : decode cX9_sheet 33 = .ok (.istore_n 3, 1) := by decide +kernel
theorem dX9_sheet_34 : decode cX9_sheet 34 = .ok (.iload_n 2, 1) := by decide +kernel
theorem dX9_sheet_35 : decode cX9_sheet 35 = .ok (.tableswitch 82 0 4 #[33, 40, 47, 49, 75], 33) := by decide +kernel
theorem dX9_sheet_68 : decode cX9_sheet 68 = .ok (.aload_n 0, 1) := by decide +kernel
theorem dX9_sheet_69 : decode cX9_sheet 69 = .ok (.iload_n 1, 1) := by decide +kernel
theorem dX9_sheet_70 : decode cX9_sheet 70 = .ok (.iconst 1, 1) := by decide +kernel
theorem dX9_sheet_71 : decode cX9_sheet 71 = .ok (.invokevirtual 216, 3) := by decide +kernel
theorem dX9_sheet_74 : decode cX9_sheet 74 = .ok (.ireturn, 1) := by decide +kernel
theorem dX9_sheet_75 : decode cX9_sheet 75 = .ok (.aload_n 0, 1) := by decide +kernel
theorem dX9_sheet_76 : decode cX9_sheet 76 = .ok (.iload_n 1, 1) := by decide +kernel
theorem dX9_sheet_77 : decode cX9_sheet 77 = .ok (.iconst 2, 1) := by decide +kernel
theorem dX9_sheet_78 : decode cX9_sheet 78 = .ok (.invokevirtual 216, 3) := by decide +kernel
theorem dX9_sheet_81 : decode cX9_sheet 81 = .ok (.ireturn, 1) := by decide +kernel
theorem dX9_sheet_82 : decode cX9_sheet 82 = .ok (.iload_n 3, 1) := by decide +kernel
theorem dX9_sheet_83 : decode cX9_sheet 83 = .ok (.ireturn, 1) := by decide +kernel
theorem dX9_sheet_84 : decode cX9_sheet 84 = .ok (.iload_n 3, 1) := by decide +kernel
theorem dX9_sheet_85 : decode cX9_sheet 85 = .ok (.ldc 90, 2) := by decide +kernel
theorem dX9_sheet_87 : decode cX9_sheet 87 = .ok (.if_icmp .ne 8, 3) := by decide +kernel
theorem dX9_sheet_90 : decode cX9_sheet 90 = .ok (.ldc 90, 2) := by decide +kernel
theorem dX9_sheet_92 : decode cX9_sheet 92 = .ok (.goto 17, 3) := by decide +kernel
theorem dX9_sheet_95 : decode cX9_sheet 95 = .ok (.aload_n 0, 1) := by decide +kernel
theorem dX9_sheet_96 : decode cX9_sheet 96 = .ok (.iload_n 3, 1) := by decide +kernel
theorem dX9_sheet_97 : decode cX9_sheet 97 = .ok (.invokevirtual 191, 3) := by decide +kernel
theorem dX9_sheet_100 : decode cX9_sheet 100 = .ok (.iconst 1, 1) := by decide +kernel
theorem dX9_sheet_101 : decode cX9_sheet 101 = .ok (.isub, 1) := by decide +kernel
theorem dX9_sheet_102 : decode cX9_sheet 102 = .ok (.aload_n 0, 1) := by decide +kernel
theorem dX9_sheet_103 : decode cX9_sheet 103 = .ok (.iload_n 3, 1) := by decide +kernel
theorem dX9_sheet_104 : decode cX9_sheet 104 = .ok (.iload_n 1, 1) := by decide +kernel
theorem dX9_sheet_105 : decode cX9_sheet 105 = .ok (.invokevirtual 197, 3) := by decide +kernel
theorem dX9_sheet_108 : decode cX9_sheet 108 = .ok (.isub, 1) := by decide +kernel
theorem dX9_sheet_109 : decode cX9_sheet 109 = .ok (.ireturn, 1) := by decide +kernel
theorem dX9_sheet_110 : decode cX9_sheet 110 = .ok (.aload_n 0, 1) := by decide +kernel
theorem dX9_sheet_111 : decode cX9_sheet 111 = .ok (.iload_n 1, 1) := by decide +kernel
theorem dX9_sheet_112 : decode cX9_sheet 112 = .ok (.iconst 3, 1) := by decide +kernel
theorem dX9_sheet_113 : decode cX9_sheet 113 = .ok (.invokevirtual 216, 3) := by decide +kernel
theorem dX9_sheet_116 : decode cX9_sheet 116 = .ok (.ireturn, 1) := by decide +kernel
theorem dX9_sheet_117 : decode cX9_sheet 117 = .ok (.aload_n 0, 1) := by decide +kernel
theorem dX9_sheet_118 : decode cX9_sheet 118 = .ok (.iload_n 1, 1) := by decide +kernel
theorem dX9_sheet_119 : decode cX9_sheet 119 = .ok (.invokevirtual 244, 3) := by decide +kernel
theorem dX9_sheet_122 : decode cX9_sheet 122 = .ok (.ifCond .eq 7, 3) := by decide +kernel
theorem dX9_sheet_125 : decode cX9_sheet 125 = .ok (.iconst 1, 1) := by decide +kernel
theorem dX9_sheet_126 : decode cX9_sheet 126 = .ok (.goto 4, 3) := by decide +kernel
theorem dX9_sheet_129 : decode cX9_sheet 129 = .ok (.iconst 0, 1) := by decide +kernel
theorem dX9_sheet_130 : decode cX9_sheet 130 = .ok (.ireturn, 1) := by decide +kernel
theorem dX9_desk_0 : decode cX9_desk 0 = .ok (.aload_n 0, 1) := by decide +kernel
theorem dX9_desk_1 : decode cX9_desk 1 = .ok (.iconst 0, 1) := by decide +kernel
theorem dX9_desk_2 : decode cX9_desk 2 = .ok (.putfield 54, 3) := by decide +kernel
theorem dX9_desk_5 : decode cX9_desk 5 = .ok (.aload_n 0, 1) := by decide +kernel
theorem dX9_desk_6 : decode cX9_desk 6 = .ok (.iload_n 1, 1) := by decide +kernel
theorem dX9_desk_7 : decode cX9_desk 7 = .ok (.invokevirtual 219, 3) := by decide +kernel
theorem dX9_desk_10 : decode cX9_desk 10 = .ok (.ifCond .eq 21, 3) := by decide +kernel
theorem dX9_desk_13 : decode cX9_desk 13 = .ok (.iload_n 2, 1) := by decide +kernel
theorem dX9_desk_14 : decode cX9_desk 14 = .ok (.i2l, 1) := by decide +kernel
theorem dX9_desk_15 : decode cX9_desk 15 = .ok (.lconst 0, 1) := by decide +kernel
theorem dX9_desk_16 : decode cX9_desk 16 = .ok (.ldc2_w 72, 3) := by decide +kernel
theorem dX9_desk_19 : decode cX9_desk 19 = .ok (.invokestatic 64, 3) := by decide +kernel
theorem dX9_desk_22 : decode cX9_desk 22 = .ok (.ifCond .ne 12, 3) := by decide +kernel
theorem dX9_desk_25 : decode cX9_desk 25 = .ok (.iload_n 2, 1) := by decide +kernel
theorem dX9_desk_26 : decode cX9_desk 26 = .ok (.bipush 10, 2) := by decide +kernel
theorem dX9_desk_28 : decode cX9_desk 28 = .ok (.if_icmp .ge 6, 3) := by decide +kernel
theorem dX9_desk_31 : decode cX9_desk 31 = .ok (.ldc 74, 2) := by decide +kernel
theorem dX9_desk_33 : decode cX9_desk 33 = .ok (.ireturn, 1) := by decide +kernel
theorem dX9_desk_34 : decode cX9_desk 34 = .ok (.iload_n 2, 1) := by decide +kernel
theorem dX9_desk_35 : decode cX9_desk 35 = .ok (.iconst 2, 1) := by decide +kernel
theorem dX9_desk_36 : decode cX9_desk 36 = .ok (.if_icmp .ge 17, 3) := by decide +kernel
theorem dX9_desk_39 : decode cX9_desk 39 = .ok (.aload_n 0, 1) := by decide +kernel
theorem dX9_desk_40 : decode cX9_desk 40 = .ok (.getfield 19, 3) := by decide +kernel
theorem dX9_desk_43 : decode cX9_desk 43 = .ok (.bipush 15, 2) := by decide +kernel
theorem dX9_desk_45 : decode cX9_desk 45 = .ok (.iconst 2, 1) := by decide +kernel
theorem dX9_desk_46 : decode cX9_desk 46 = .ok (.iload_n 1, 1) := by decide +kernel
theorem dX9_desk_47 : decode cX9_desk 47 = .ok (.imul, 1) := by decide +kernel
theorem dX9_desk_48 : decode cX9_desk 48 = .ok (.iadd, 1) := by decide +kernel
theorem dX9_desk_49 : decode cX9_desk 49 = .ok (.iload_n 2, 1) := by decide +kernel
theorem dX9_desk_50 : decode cX9_desk 50 = .ok (.iadd, 1) := by decide +kernel
theorem dX9_desk_51 : decode cX9_desk 51 = .ok (.iaload, 1) := by decide +kernel
theorem dX9_desk_52 : decode cX9_desk 52 = .ok (.ireturn, 1) := by decide +kernel
theorem dX9_desk_53 : decode cX9_desk 53 = .ok (.iload_n 2, 1) := by decide +kernel
theorem dX9_desk_54 : decode cX9_desk 54 = .ok (.iconst 2, 1) := by decide +kernel
theorem dX9_desk_55 : decode cX9_desk 55 = .ok (.if_icmp .ne 11, 3) := by decide +kernel
theorem dX9_desk_58 : decode cX9_desk 58 = .ok (.aload_n 0, 1) := by decide +kernel
theorem dX9_desk_59 : decode cX9_desk 59 = .ok (.iload_n 1, 1) := by decide +kernel
theorem dX9_desk_60 : decode cX9_desk 60 = .ok (.invokevirtual 191, 3) := by decide +kernel
theorem dX9_desk_63 : decode cX9_desk 63 = .ok (.goto 29, 3) := by decide +kernel
theorem dX9_desk_66 : decode cX9_desk 66 = .ok (.iload_n 2, 1) := by decide +kernel
theorem dX9_desk_67 : decode cX9_desk 67 = .ok (.bipush 10, 2) := by decide +kernel
theorem dX9_desk_69 : decode cX9_desk 69 = .ok (.isub, 1) := by decide +kernel
theorem dX9_desk_70 : decode cX9_desk 70 = .ok (.aload_n 0, 1) := by decide +kernel
theorem dX9_desk_71 : decode cX9_desk 71 = .ok (.iload_n 1, 1) := by decide +kernel
theorem dX9_desk_72 : decode cX9_desk 72 = .ok (.invokevirtual 191, 3) := by decide +kernel
theorem dX9_desk_75 : decode cX9_desk 75 = .ok (.if_icmp .ge 15, 3) := by decide +kernel
theorem dX9_desk_78 : decode cX9_desk 78 = .ok (.aload_n 0, 1) := by decide +kernel
theorem dX9_desk_79 : decode cX9_desk 79 = .ok (.iload_n 1, 1) := by decide +kernel
theorem dX9_desk_80 : decode cX9_desk 80 = .ok (.iload_n 2, 1) := by decide +kernel
theorem dX9_desk_81 : decode cX9_desk 81 = .ok (.bipush 10, 2) := by decide +kernel
theorem dX9_desk_83 : decode cX9_desk 83 = .ok (.isub, 1) := by decide +kernel
theorem dX9_desk_84 : decode cX9_desk 84 = .ok (.invokevirtual 194, 3) := by decide +kernel
theorem dX9_desk_87 : decode cX9_desk 87 = .ok (.goto 5, 3) := by decide +kernel
theorem dX9_desk_90 : decode cX9_desk 90 = .ok (.ldc 90, 2) := by decide +kernel
theorem dX9_desk_92 : decode cX9_desk 92 = .ok (.ireturn, 1) := by decide +kernel
theorem dX9_worthOf_0 : decode cX9_worthOf 0 = .ok (.iconst 0, 1) := by decide +kernel
theorem dX9_worthOf_1 : decode cX9_worthOf 1 = .ok (.istore_n 2, 1) := by decide +kernel
theorem dX9_worthOf_2 : decode cX9_worthOf 2 = .ok (.iconst 0, 1) := by decide +kernel
theorem dX9_worthOf_3 : decode cX9_worthOf 3 = .ok (.istore_n 3, 1) := by decide +kernel
theorem dX9_worthOf_4 : decode cX9_worthOf 4 = .ok (.iload_n 3, 1) := by decide +kernel
theorem dX9_worthOf_5 : decode cX9_worthOf 5 = .ok (.aload_n 0, 1) := by decide +kernel
theorem dX9_worthOf_6 : decode cX9_worthOf 6 = .ok (.getfield 19, 3) := by decide +kernel
theorem dX9_worthOf_9 : decode cX9_worthOf 9 = .ok (.iconst 1, 1) := by decide +kernel
theorem dX9_worthOf_10 : decode cX9_worthOf 10 = .ok (.iaload, 1) := by decide +kernel
theorem dX9_worthOf_11 : decode cX9_worthOf 11 = .ok (.if_icmp .ge 31, 3) := by decide +kernel
theorem dX9_worthOf_14 : decode cX9_worthOf 14 = .ok (.iload_n 2, 1) := by decide +kernel
theorem dX9_worthOf_15 : decode cX9_worthOf 15 = .ok (.iload_n 1, 1) := by decide +kernel
theorem dX9_worthOf_16 : decode cX9_worthOf 16 = .ok (.iload_n 3, 1) := by decide +kernel
theorem dX9_worthOf_17 : decode cX9_worthOf 17 = .ok (.ishr, 1) := by decide +kernel
theorem dX9_worthOf_18 : decode cX9_worthOf 18 = .ok (.iconst 1, 1) := by decide +kernel
theorem dX9_worthOf_19 : decode cX9_worthOf 19 = .ok (.iand, 1) := by decide +kernel
theorem dX9_worthOf_20 : decode cX9_worthOf 20 = .ok (.iconst 1, 1) := by decide +kernel
theorem dX9_worthOf_21 : decode cX9_worthOf 21 = .ok (.if_icmp .ne 12, 3) := by decide +kernel
theorem dX9_worthOf_24 : decode cX9_worthOf 24 = .ok (.aload_n 0, 1) := by decide +kernel
theorem dX9_worthOf_25 : decode cX9_worthOf 25 = .ok (.iload_n 3, 1) := by decide +kernel
theorem dX9_worthOf_26 : decode cX9_worthOf 26 = .ok (.iconst 1, 1) := by decide +kernel
theorem dX9_worthOf_27 : decode cX9_worthOf 27 = .ok (.invokevirtual 216, 3) := by decide +kernel
theorem dX9_worthOf_30 : decode cX9_worthOf 30 = .ok (.goto 4, 3) := by decide +kernel
theorem dX9_worthOf_33 : decode cX9_worthOf 33 = .ok (.iconst 0, 1) := by decide +kernel
theorem dX9_worthOf_34 : decode cX9_worthOf 34 = .ok (.iadd, 1) := by decide +kernel
theorem dX9_worthOf_35 : decode cX9_worthOf 35 = .ok (.istore_n 2, 1) := by decide +kernel
theorem dX9_worthOf_36 : decode cX9_worthOf 36 = .ok (.iinc 3 1, 3) := by decide +kernel
theorem dX9_worthOf_39 : decode cX9_worthOf 39 = .ok (.goto (-35), 3) := by decide +kernel
theorem dX9_worthOf_42 : decode cX9_worthOf 42 = .ok (.iload_n 2, 1) := by decide +kernel
theorem dX9_worthOf_43 : decode cX9_worthOf 43 = .ok (.ireturn, 1) := by decide +kernel
theorem dX9_takenBy_0 : decode cX9_takenBy 0 = .ok (.iconst 0, 1) := by decide +kernel
theorem dX9_takenBy_1 : decode cX9_takenBy 1 = .ok (.istore_n 2, 1) := by decide +kernel
theorem dX9_takenBy_2 : decode cX9_takenBy 2 = .ok (.aload_n 0, 1) := by decide +kernel
theorem dX9_takenBy_3 : decode cX9_takenBy 3 = .ok (.invokevirtual 236, 3) := by decide +kernel
theorem dX9_takenBy_6 : decode cX9_takenBy 6 = .ok (.iconst 0, 1) := by decide +kernel
theorem dX9_takenBy_7 : decode cX9_takenBy 7 = .ok (.istore_n 3, 1) := by decide +kernel
theorem dX9_takenBy_8 : decode cX9_takenBy 8 = .ok (.iload_n 3, 1) := by decide +kernel
theorem dX9_takenBy_9 : decode cX9_takenBy 9 = .ok (.iload_n 1, 1) := by decide +kernel
theorem dX9_takenBy_10 : decode cX9_takenBy 10 = .ok (.if_icmp .ge 16, 3) := by decide +kernel
theorem dX9_takenBy_13 : decode cX9_takenBy 13 = .ok (.iload_n 2, 1) := by decide +kernel
theorem dX9_takenBy_14 : decode cX9_takenBy 14 = .ok (.aload_n 0, 1) := by decide +kernel
theorem dX9_takenBy_15 : decode cX9_takenBy 15 = .ok (.invokevirtual 239, 3) := by decide +kernel
theorem dX9_takenBy_18 : decode cX9_takenBy 18 = .ok (.ior, 1) := by decide +kernel
theorem dX9_takenBy_19 : decode cX9_takenBy 19 = .ok (.istore_n 2, 1) := by decide +kernel
theorem dX9_takenBy_20 : decode cX9_takenBy 20 = .ok (.iinc 3 1, 3) := by decide +kernel
theorem dX9_takenBy_23 : decode cX9_takenBy 23 = .ok (.goto (-15), 3) := by decide +kernel
theorem dX9_takenBy_26 : decode cX9_takenBy 26 = .ok (.iload_n 2, 1) := by decide +kernel
theorem dX9_takenBy_27 : decode cX9_takenBy 27 = .ok (.ireturn, 1) := by decide +kernel
theorem dX9_taken_0 : decode cX9_taken 0 = .ok (.aload_n 0, 1) := by decide +kernel
theorem dX9_taken_1 : decode cX9_taken 1 = .ok (.iconst 0, 1) := by decide +kernel
theorem dX9_taken_2 : decode cX9_taken 2 = .ok (.putfield 54, 3) := by decide +kernel
theorem dX9_taken_5 : decode cX9_taken 5 = .ok (.aload_n 0, 1) := by decide +kernel
theorem dX9_taken_6 : decode cX9_taken 6 = .ok (.getfield 184, 3) := by decide +kernel
theorem dX9_taken_9 : decode cX9_taken 9 = .ok (.ifCond .ne 6, 3) := by decide +kernel
theorem dX9_taken_12 : decode cX9_taken 12 = .ok (.ldc 206, 2) := by decide +kernel
theorem dX9_taken_14 : decode cX9_taken 14 = .ok (.ireturn, 1) := by decide +kernel
theorem dX9_taken_15 : decode cX9_taken 15 = .ok (.iload_n 1, 1) := by decide +kernel
theorem dX9_taken_16 : decode cX9_taken 16 = .ok (.i2l, 1) := by decide +kernel
theorem dX9_taken_17 : decode cX9_taken 17 = .ok (.lconst 0, 1) := by decide +kernel
theorem dX9_taken_18 : decode cX9_taken 18 = .ok (.ldc2_w 247, 3) := by decide +kernel
theorem dX9_taken_21 : decode cX9_taken 21 = .ok (.invokestatic 64, 3) := by decide +kernel
theorem dX9_taken_24 : decode cX9_taken 24 = .ok (.ifCond .eq 13, 3) := by decide +kernel
theorem dX9_taken_27 : decode cX9_taken 27 = .ok (.iload_n 2, 1) := by decide +kernel
theorem dX9_taken_28 : decode cX9_taken 28 = .ok (.i2l, 1) := by decide +kernel
theorem dX9_taken_29 : decode cX9_taken 29 = .ok (.lconst 0, 1) := by decide +kernel
theorem dX9_taken_30 : decode cX9_taken 30 = .ok (.lconst 1, 1) := by decide +kernel
theorem dX9_taken_31 : decode cX9_taken 31 = .ok (.invokestatic 64, 3) := by decide +kernel
theorem dX9_taken_34 : decode cX9_taken 34 = .ok (.ifCond .ne 6, 3) := by decide +kernel
theorem dX9_taken_37 : decode cX9_taken 37 = .ok (.ldc 74, 2) := by decide +kernel
theorem dX9_taken_39 : decode cX9_taken 39 = .ok (.ireturn, 1) := by decide +kernel
theorem dX9_taken_40 : decode cX9_taken 40 = .ok (.iload_n 2, 1) := by decide +kernel
theorem dX9_taken_41 : decode cX9_taken 41 = .ok (.ifCond .ne 11, 3) := by decide +kernel
theorem dX9_taken_44 : decode cX9_taken 44 = .ok (.aload_n 0, 1) := by decide +kernel
theorem dX9_taken_45 : decode cX9_taken 45 = .ok (.iload_n 1, 1) := by decide +kernel
theorem dX9_taken_46 : decode cX9_taken 46 = .ok (.invokevirtual 249, 3) := by decide +kernel
theorem dX9_taken_49 : decode cX9_taken 49 = .ok (.goto 12, 3) := by decide +kernel
theorem dX9_taken_52 : decode cX9_taken 52 = .ok (.aload_n 0, 1) := by decide +kernel
theorem dX9_taken_53 : decode cX9_taken 53 = .ok (.aload_n 0, 1) := by decide +kernel
theorem dX9_taken_54 : decode cX9_taken 54 = .ok (.iload_n 1, 1) := by decide +kernel
theorem dX9_taken_55 : decode cX9_taken 55 = .ok (.invokevirtual 249, 3) := by decide +kernel
theorem dX9_taken_58 : decode cX9_taken 58 = .ok (.invokevirtual 252, 3) := by decide +kernel
theorem dX9_taken_61 : decode cX9_taken 61 = .ok (.ireturn, 1) := by decide +kernel
theorem dX9_mean_0 : decode cX9_mean 0 = .ok (.aload_n 0, 1) := by decide +kernel
theorem dX9_mean_1 : decode cX9_mean 1 = .ok (.iconst 0, 1) := by decide +kernel
theorem dX9_mean_2 : decode cX9_mean 2 = .ok (.putfield 54, 3) := by decide +kernel
theorem dX9_mean_5 : decode cX9_mean 5 = .ok (.aload_n 0, 1) := by decide +kernel
theorem dX9_mean_6 : decode cX9_mean 6 = .ok (.getfield 184, 3) := by decide +kernel
theorem dX9_mean_9 : decode cX9_mean 9 = .ok (.ifCond .ne 6, 3) := by decide +kernel
theorem dX9_mean_12 : decode cX9_mean 12 = .ok (.ldc 206, 2) := by decide +kernel
theorem dX9_mean_14 : decode cX9_mean 14 = .ok (.ireturn, 1) := by decide +kernel
theorem dX9_mean_15 : decode cX9_mean 15 = .ok (.iload_n 1, 1) := by decide +kernel
theorem dX9_mean_16 : decode cX9_mean 16 = .ok (.i2l, 1) := by decide +kernel
theorem dX9_mean_17 : decode cX9_mean 17 = .ok (.lconst 1, 1) := by decide +kernel
theorem dX9_mean_18 : decode cX9_mean 18 = .ok (.ldc2_w 255, 3) := by decide +kernel
theorem dX9_mean_21 : decode cX9_mean 21 = .ok (.invokestatic 64, 3) := by decide +kernel
theorem dX9_mean_24 : decode cX9_mean 24 = .ok (.ifCond .eq 26, 3) := by decide +kernel
theorem dX9_mean_27 : decode cX9_mean 27 = .ok (.aload_n 0, 1) := by decide +kernel
theorem dX9_mean_28 : decode cX9_mean 28 = .ok (.getfield 19, 3) := by decide +kernel
theorem dX9_mean_31 : decode cX9_mean 31 = .ok (.iconst 2, 1) := by decide +kernel
theorem dX9_mean_32 : decode cX9_mean 32 = .ok (.iaload, 1) := by decide +kernel
theorem dX9_mean_33 : decode cX9_mean 33 = .ok (.iload_n 1, 1) := by decide +kernel
theorem dX9_mean_34 : decode cX9_mean 34 = .ok (.iadd, 1) := by decide +kernel
theorem dX9_mean_35 : decode cX9_mean 35 = .ok (.bipush 12, 2) := by decide +kernel
theorem dX9_mean_37 : decode cX9_mean 37 = .ok (.if_icmp .gt 13, 3) := by decide +kernel
theorem dX9_mean_40 : decode cX9_mean 40 = .ok (.iload_n 2, 1) := by decide +kernel
theorem dX9_mean_41 : decode cX9_mean 41 = .ok (.i2l, 1) := by decide +kernel
theorem dX9_mean_42 : decode cX9_mean 42 = .ok (.lconst 0, 1) := by decide +kernel
theorem dX9_mean_43 : decode cX9_mean 43 = .ok (.lconst 1, 1) := by decide +kernel
theorem dX9_mean_44 : decode cX9_mean 44 = .ok (.invokestatic 64, 3) := by decide +kernel
theorem dX9_mean_47 : decode cX9_mean 47 = .ok (.ifCond .ne 6, 3) := by decide +kernel
theorem dX9_mean_50 : decode cX9_mean 50 = .ok (.ldc 74, 2) := by decide +kernel
theorem dX9_mean_52 : decode cX9_mean 52 = .ok (.ireturn, 1) := by decide +kernel
theorem dX9_mean_53 : decode cX9_mean 53 = .ok (.iconst 0, 1) := by decide +kernel
theorem dX9_mean_54 : decode cX9_mean 54 = .ok (.istore_n 3, 1) := by decide +kernel
theorem dX9_mean_55 : decode cX9_mean 55 = .ok (.iload_n 3, 1) := by decide +kernel
theorem dX9_mean_56 : decode cX9_mean 56 = .ok (.iconst 4, 1) := by decide +kernel
theorem dX9_mean_57 : decode cX9_mean 57 = .ok (.if_icmp .ge 24, 3) := by decide +kernel
theorem dX9_mean_60 : decode cX9_mean 60 = .ok (.aload_n 0, 1) := by decide +kernel
theorem dX9_mean_61 : decode cX9_mean 61 = .ok (.getfield 34, 3) := by decide +kernel
theorem dX9_mean_64 : decode cX9_mean 64 = .ok (.iload_n 3, 1) := by decide +kernel
theorem dX9_mean_65 : decode cX9_mean 65 = .ok (.iload_n 3, 1) := by decide +kernel
theorem dX9_mean_66 : decode cX9_mean 66 = .ok (.ifCond .ne 7, 3) := by decide +kernel
theorem dX9_mean_69 : decode cX9_mean 69 = .ok (.lconst 1, 1) := by decide +kernel
theorem dX9_mean_70 : decode cX9_mean 70 = .ok (.goto 4, 3) := by decide +kernel
theorem dX9_mean_73 : decode cX9_mean 73 = .ok (.lconst 0, 1) := by decide +kernel
theorem dX9_mean_74 : decode cX9_mean 74 = .ok (.lastore, 1) := by decide +kernel
theorem dX9_mean_75 : decode cX9_mean 75 = .ok (.iinc 3 1, 3) := by decide +kernel
theorem dX9_mean_78 : decode cX9_mean 78 = .ok (.goto (-23), 3) := by decide +kernel
theorem dX9_mean_81 : decode cX9_mean 81 = .ok (.lconst 1, 1) := by decide +kernel
theorem dX9_mean_82 : decode cX9_mean 82 = .ok (.lstore_n 3, 1) := by decide +kernel
theorem dX9_mean_83 : decode cX9_mean 83 = .ok (.iconst 0, 1) := by decide +kernel
theorem dX9_mean_84 : decode cX9_mean 84 = .ok (.istore 5, 2) := by decide +kernel
theorem dX9_mean_86 : decode cX9_mean 86 = .ok (.iload 5, 2) := by decide +kernel
theorem dX9_mean_88 : decode cX9_mean 88 = .ok (.iload_n 1, 1) := by decide +kernel
theorem dX9_mean_89 : decode cX9_mean 89 = .ok (.if_icmp .ge 91, 3) := by decide +kernel
theorem dX9_mean_92 : decode cX9_mean 92 = .ok (.aload_n 0, 1) := by decide +kernel
theorem dX9_mean_93 : decode cX9_mean 93 = .ok (.getfield 19, 3) := by decide +kernel
theorem dX9_mean_96 : decode cX9_mean 96 = .ok (.iconst 3, 1) := by decide +kernel
theorem dX9_mean_97 : decode cX9_mean 97 = .ok (.aload_n 0, 1) := by decide +kernel
theorem dX9_mean_98 : decode cX9_mean 98 = .ok (.getfield 19, 3) := by decide +kernel
theorem dX9_mean_101 : decode cX9_mean 101 = .ok (.iconst 2, 1) := by decide +kernel
theorem dX9_mean_102 : decode cX9_mean 102 = .ok (.iaload, 1) := by decide +kernel
theorem dX9_mean_103 : decode cX9_mean 103 = .ok (.iadd, 1) := by decide +kernel
theorem dX9_mean_104 : decode cX9_mean 104 = .ok (.iload 5, 2) := by decide +kernel
theorem dX9_mean_106 : decode cX9_mean 106 = .ok (.iadd, 1) := by decide +kernel
theorem dX9_mean_107 : decode cX9_mean 107 = .ok (.iaload, 1) := by decide +kernel
theorem dX9_mean_108 : decode cX9_mean 108 = .ok (.istore 6, 2) := by decide +kernel
theorem dX9_mean_110 : decode cX9_mean 110 = .ok (.iconst 3, 1) := by decide +kernel
theorem dX9_mean_111 : decode cX9_mean 111 = .ok (.istore 7, 2) := by decide +kernel
theorem dX9_mean_113 : decode cX9_mean 113 = .ok (.iload 7, 2) := by decide +kernel
theorem dX9_mean_115 : decode cX9_mean 115 = .ok (.ifCond .lt 53, 3) := by decide +kernel
theorem dX9_mean_118 : decode cX9_mean 118 = .ok (.aload_n 0, 1) := by decide +kernel
theorem dX9_mean_119 : decode cX9_mean 119 = .ok (.getfield 34, 3) := by decide +kernel
theorem dX9_mean_122 : decode cX9_mean 122 = .ok (.iload 7, 2) := by decide +kernel
theorem dX9_mean_124 : decode cX9_mean 124 = .ok (.aload_n 0, 1) := by decide +kernel
theorem dX9_mean_125 : decode cX9_mean 125 = .ok (.getfield 34, 3) := by decide +kernel
theorem dX9_mean_128 : decode cX9_mean 128 = .ok (.iload 7, 2) := by decide +kernel
theorem dX9_mean_130 : decode cX9_mean 130 = .ok (.laload, 1) := by decide +kernel
theorem dX9_mean_131 : decode cX9_mean 131 = .ok (.bipush 100, 2) := by decide +kernel
theorem dX9_mean_133 : decode cX9_mean 133 = .ok (.iload 6, 2) := by decide +kernel
theorem dX9_mean_135 : decode cX9_mean 135 = .ok (.isub, 1) := by decide +kernel
theorem dX9_mean_136 : decode cX9_mean 136 = .ok (.i2l, 1) := by decide +kernel
theorem dX9_mean_137 : decode cX9_mean 137 = .ok (.lmul, 1) := by decide +kernel
theorem dX9_mean_138 : decode cX9_mean 138 = .ok (.iload 7, 2) := by decide +kernel
theorem dX9_mean_140 : decode cX9_mean 140 = .ok (.ifCond .le 19, 3) := by decide +kernel
theorem dX9_mean_143 : decode cX9_mean 143 = .ok (.aload_n 0, 1) := by decide +kernel
theorem dX9_mean_144 : decode cX9_mean 144 = .ok (.getfield 34, 3) := by decide +kernel
theorem dX9_mean_147 : decode cX9_mean 147 = .ok (.iload 7, 2) := by decide +kernel
theorem dX9_mean_149 : decode cX9_mean 149 = .ok (.iconst 1, 1) := by decide +kernel
theorem dX9_mean_150 : decode cX9_mean 150 = .ok (.isub, 1) := by decide +kernel
theorem dX9_mean_151 : decode cX9_mean 151 = .ok (.laload, 1) := by decide +kernel
theorem dX9_mean_152 : decode cX9_mean 152 = .ok (.iload 6, 2) := by decide +kernel
theorem dX9_mean_154 : decode cX9_mean 154 = .ok (.i2l, 1) := by decide +kernel
theorem dX9_mean_155 : decode cX9_mean 155 = .ok (.lmul, 1) := by decide +kernel
theorem dX9_mean_156 : decode cX9_mean 156 = .ok (.goto 4, 3) := by decide +kernel
theorem dX9_mean_159 : decode cX9_mean 159 = .ok (.lconst 0, 1) := by decide +kernel
theorem dX9_mean_160 : decode cX9_mean 160 = .ok (.ladd, 1) := by decide +kernel
theorem dX9_mean_161 : decode cX9_mean 161 = .ok (.lastore, 1) := by decide +kernel
theorem dX9_mean_162 : decode cX9_mean 162 = .ok (.iinc 7 (-1), 3) := by decide +kernel
theorem dX9_mean_165 : decode cX9_mean 165 = .ok (.goto (-52), 3) := by decide +kernel
theorem dX9_mean_168 : decode cX9_mean 168 = .ok (.lload_n 3, 1) := by decide +kernel
theorem dX9_mean_169 : decode cX9_mean 169 = .ok (.ldc2_w 234, 3) := by decide +kernel
theorem dX9_mean_172 : decode cX9_mean 172 = .ok (.lmul, 1) := by decide +kernel
theorem dX9_mean_173 : decode cX9_mean 173 = .ok (.lstore_n 3, 1) := by decide +kernel
theorem dX9_mean_174 : decode cX9_mean 174 = .ok (.iinc 5 1, 3) := by decide +kernel
theorem dX9_mean_177 : decode cX9_mean 177 = .ok (.goto (-91), 3) := by decide +kernel
theorem dX9_mean_180 : decode cX9_mean 180 = .ok (.lconst 0, 1) := by decide +kernel
theorem dX9_mean_181 : decode cX9_mean 181 = .ok (.lstore 5, 2) := by decide +kernel
theorem dX9_mean_183 : decode cX9_mean 183 = .ok (.iconst 0, 1) := by decide +kernel
theorem dX9_mean_184 : decode cX9_mean 184 = .ok (.istore 7, 2) := by decide +kernel
theorem dX9_mean_186 : decode cX9_mean 186 = .ok (.iload 7, 2) := by decide +kernel
theorem dX9_mean_188 : decode cX9_mean 188 = .ok (.iconst 4, 1) := by decide +kernel
theorem dX9_mean_189 : decode cX9_mean 189 = .ok (.if_icmp .ge 33, 3) := by decide +kernel
theorem dX9_mean_192 : decode cX9_mean 192 = .ok (.lload 5, 2) := by decide +kernel
theorem dX9_mean_194 : decode cX9_mean 194 = .ok (.aload_n 0, 1) := by decide +kernel
theorem dX9_mean_195 : decode cX9_mean 195 = .ok (.getfield 34, 3) := by decide +kernel
theorem dX9_mean_198 : decode cX9_mean 198 = .ok (.iload 7, 2) := by decide +kernel
theorem dX9_mean_200 : decode cX9_mean 200 = .ok (.laload, 1) := by decide +kernel
theorem dX9_mean_201 : decode cX9_mean 201 = .ok (.aload_n 0, 1) := by decide +kernel
theorem dX9_mean_202 : decode cX9_mean 202 = .ok (.aload_n 0, 1) := by decide +kernel
theorem dX9_mean_203 : decode cX9_mean 203 = .ok (.iload 7, 2) := by decide +kernel
theorem dX9_mean_205 : decode cX9_mean 205 = .ok (.invokevirtual 249, 3) := by decide +kernel
theorem dX9_mean_208 : decode cX9_mean 208 = .ok (.invokevirtual 252, 3) := by decide +kernel
theorem dX9_mean_211 : decode cX9_mean 211 = .ok (.i2l, 1) := by decide +kernel
theorem dX9_mean_212 : decode cX9_mean 212 = .ok (.lmul, 1) := by decide +kernel
theorem dX9_mean_213 : decode cX9_mean 213 = .ok (.ladd, 1) := by decide +kernel
theorem dX9_mean_214 : decode cX9_mean 214 = .ok (.lstore 5, 2) := by decide +kernel
theorem dX9_mean_216 : decode cX9_mean 216 = .ok (.iinc 7 1, 3) := by decide +kernel
theorem dX9_mean_219 : decode cX9_mean 219 = .ok (.goto (-33), 3) := by decide +kernel
theorem dX9_mean_222 : decode cX9_mean 222 = .ok (.lload 5, 2) := by decide +kernel
theorem dX9_mean_224 : decode cX9_mean 224 = .ok (.lstore 7, 2) := by decide +kernel
theorem dX9_mean_226 : decode cX9_mean 226 = .ok (.lload_n 3, 1) := by decide +kernel
theorem dX9_mean_227 : decode cX9_mean 227 = .ok (.lstore 9, 2) := by decide +kernel
theorem dX9_mean_229 : decode cX9_mean 229 = .ok (.lload 9, 2) := by decide +kernel
theorem dX9_mean_231 : decode cX9_mean 231 = .ok (.lconst 0, 1) := by decide +kernel
theorem dX9_mean_232 : decode cX9_mean 232 = .ok (.lcmp, 1) := by decide +kernel
theorem dX9_mean_233 : decode cX9_mean 233 = .ok (.ifCond .eq 21, 3) := by decide +kernel
theorem dX9_mean_236 : decode cX9_mean 236 = .ok (.lload 7, 2) := by decide +kernel
theorem dX9_mean_238 : decode cX9_mean 238 = .ok (.lload 9, 2) := by decide +kernel
theorem dX9_mean_240 : decode cX9_mean 240 = .ok (.lrem, 1) := by decide +kernel
theorem dX9_mean_241 : decode cX9_mean 241 = .ok (.lstore 11, 2) := by decide +kernel
theorem dX9_mean_243 : decode cX9_mean 243 = .ok (.lload 9, 2) := by decide +kernel
theorem dX9_mean_245 : decode cX9_mean 245 = .ok (.lstore 7, 2) := by decide +kernel
theorem dX9_mean_247 : decode cX9_mean 247 = .ok (.lload 11, 2) := by decide +kernel
theorem dX9_mean_249 : decode cX9_mean 249 = .ok (.lstore 9, 2) := by decide +kernel
theorem dX9_mean_251 : decode cX9_mean 251 = .ok (.goto (-22), 3) := by decide +kernel
theorem dX9_mean_254 : decode cX9_mean 254 = .ok (.iload_n 2, 1) := by decide +kernel
theorem dX9_mean_255 : decode cX9_mean 255 = .ok (.ifCond .ne 8, 3) := by decide +kernel
theorem dX9_mean_258 : decode cX9_mean 258 = .ok (.lload 5, 2) := by decide +kernel
theorem dX9_mean_260 : decode cX9_mean 260 = .ok (.goto 4, 3) := by decide +kernel
theorem dX9_mean_263 : decode cX9_mean 263 = .ok (.lload_n 3, 1) := by decide +kernel
theorem dX9_mean_264 : decode cX9_mean 264 = .ok (.lload 7, 2) := by decide +kernel
theorem dX9_mean_266 : decode cX9_mean 266 = .ok (.ldiv, 1) := by decide +kernel
theorem dX9_mean_267 : decode cX9_mean 267 = .ok (.l2i, 1) := by decide +kernel
theorem dX9_mean_268 : decode cX9_mean 268 = .ok (.ireturn, 1) := by decide +kernel
theorem dX9_lostBy_0 : decode cX9_lostBy 0 = .ok (.iconst 0, 1) := by decide +kernel
theorem dX9_lostBy_1 : decode cX9_lostBy 1 = .ok (.istore 4, 2) := by decide +kernel
theorem dX9_lostBy_3 : decode cX9_lostBy 3 = .ok (.iload_n 2, 1) := by decide +kernel
theorem dX9_lostBy_4 : decode cX9_lostBy 4 = .ok (.istore 5, 2) := by decide +kernel
theorem dX9_lostBy_6 : decode cX9_lostBy 6 = .ok (.iconst 0, 1) := by decide +kernel
theorem dX9_lostBy_7 : decode cX9_lostBy 7 = .ok (.istore 6, 2) := by decide +kernel
theorem dX9_lostBy_9 : decode cX9_lostBy 9 = .ok (.iload 6, 2) := by decide +kernel
theorem dX9_lostBy_11 : decode cX9_lostBy 11 = .ok (.iload_n 3, 1) := by decide +kernel
theorem dX9_lostBy_12 : decode cX9_lostBy 12 = .ok (.if_icmp .ge 67, 3) := by decide +kernel
theorem dX9_lostBy_15 : decode cX9_lostBy 15 = .ok (.iload 5, 2) := by decide +kernel
theorem dX9_lostBy_17 : decode cX9_lostBy 17 = .ok (.aload_n 0, 1) := by decide +kernel
theorem dX9_lostBy_18 : decode cX9_lostBy 18 = .ok (.getfield 19, 3) := by decide +kernel
theorem dX9_lostBy_21 : decode cX9_lostBy 21 = .ok (.bipush 15, 2) := by decide +kernel
theorem dX9_lostBy_23 : decode cX9_lostBy 23 = .ok (.iconst 2, 1) := by decide +kernel
theorem dX9_lostBy_24 : decode cX9_lostBy 24 = .ok (.iload_n 1, 1) := by decide +kernel
theorem dX9_lostBy_25 : decode cX9_lostBy 25 = .ok (.imul, 1) := by decide +kernel
theorem dX9_lostBy_26 : decode cX9_lostBy 26 = .ok (.iadd, 1) := by decide +kernel
theorem dX9_lostBy_27 : decode cX9_lostBy 27 = .ok (.iconst 1, 1) := by decide +kernel
theorem dX9_lostBy_28 : decode cX9_lostBy 28 = .ok (.iadd, 1) := by decide +kernel
theorem dX9_lostBy_29 : decode cX9_lostBy 29 = .ok (.iaload, 1) := by decide +kernel
theorem dX9_lostBy_30 : decode cX9_lostBy 30 = .ok (.if_icmp .le 49, 3) := by decide +kernel
theorem dX9_lostBy_33 : decode cX9_lostBy 33 = .ok (.aload_n 0, 1) := by decide +kernel
theorem dX9_lostBy_34 : decode cX9_lostBy 34 = .ok (.getfield 38, 3) := by decide +kernel
theorem dX9_lostBy_37 : decode cX9_lostBy 37 = .ok (.iload 5, 2) := by decide +kernel
theorem dX9_lostBy_39 : decode cX9_lostBy 39 = .ok (.iconst 1, 1) := by decide +kernel
theorem dX9_lostBy_40 : decode cX9_lostBy 40 = .ok (.isub, 1) := by decide +kernel
theorem dX9_lostBy_41 : decode cX9_lostBy 41 = .ok (.iaload, 1) := by decide +kernel
theorem dX9_lostBy_42 : decode cX9_lostBy 42 = .ok (.istore 7, 2) := by decide +kernel
theorem dX9_lostBy_44 : decode cX9_lostBy 44 = .ok (.aload_n 0, 1) := by decide +kernel
theorem dX9_lostBy_45 : decode cX9_lostBy 45 = .ok (.iload 7, 2) := by decide +kernel
theorem dX9_lostBy_47 : decode cX9_lostBy 47 = .ok (.iconst 0, 1) := by decide +kernel
theorem dX9_lostBy_48 : decode cX9_lostBy 48 = .ok (.invokevirtual 216, 3) := by decide +kernel
theorem dX9_lostBy_51 : decode cX9_lostBy 51 = .ok (.iconst 5, 1) := by decide +kernel
theorem dX9_lostBy_52 : decode cX9_lostBy 52 = .ok (.if_icmp .ne 6, 3) := by decide +kernel
theorem dX9_lostBy_55 : decode cX9_lostBy 55 = .ok (.iload 4, 2) := by decide +kernel
theorem dX9_lostBy_57 : decode cX9_lostBy 57 = .ok (.ireturn, 1) := by decide +kernel
theorem dX9_lostBy_58 : decode cX9_lostBy 58 = .ok (.iload 4, 2) := by decide +kernel
theorem dX9_lostBy_60 : decode cX9_lostBy 60 = .ok (.aload_n 0, 1) := by decide +kernel
theorem dX9_lostBy_61 : decode cX9_lostBy 61 = .ok (.iload 7, 2) := by decide +kernel
theorem dX9_lostBy_63 : decode cX9_lostBy 63 = .ok (.iconst 1, 1) := by decide +kernel
theorem dX9_lostBy_64 : decode cX9_lostBy 64 = .ok (.invokevirtual 216, 3) := by decide +kernel
theorem dX9_lostBy_67 : decode cX9_lostBy 67 = .ok (.iadd, 1) := by decide +kernel
theorem dX9_lostBy_68 : decode cX9_lostBy 68 = .ok (.istore 4, 2) := by decide +kernel
theorem dX9_lostBy_70 : decode cX9_lostBy 70 = .ok (.iinc 5 (-1), 3) := by decide +kernel
theorem dX9_lostBy_73 : decode cX9_lostBy 73 = .ok (.iinc 6 1, 3) := by decide +kernel
theorem dX9_lostBy_76 : decode cX9_lostBy 76 = .ok (.goto (-67), 3) := by decide +kernel
theorem dX9_lostBy_79 : decode cX9_lostBy 79 = .ok (.iload 4, 2) := by decide +kernel
theorem dX9_lostBy_81 : decode cX9_lostBy 81 = .ok (.ireturn, 1) := by decide +kernel
theorem dX9_nextOrder_0 : decode cX9_nextOrder 0 = .ok (.iload_n 1, 1) := by decide +kernel
theorem dX9_nextOrder_1 : decode cX9_nextOrder 1 = .ok (.iconst 2, 1) := by decide +kernel
theorem dX9_nextOrder_2 : decode cX9_nextOrder 2 = .ok (.isub, 1) := by decide +kernel
theorem dX9_nextOrder_3 : decode cX9_nextOrder 3 = .ok (.istore_n 2, 1) := by decide +kernel
theorem dX9_nextOrder_4 : decode cX9_nextOrder 4 = .ok (.iload_n 2, 1) := by decide +kernel
theorem dX9_nextOrder_5 : decode cX9_nextOrder 5 = .ok (.ifCond .lt 26, 3) := by decide +kernel
theorem dX9_nextOrder_8 : decode cX9_nextOrder 8 = .ok (.aload_n 0, 1) := by decide +kernel
theorem dX9_nextOrder_9 : decode cX9_nextOrder 9 = .ok (.getfield 38, 3) := by decide +kernel
theorem dX9_nextOrder_12 : decode cX9_nextOrder 12 = .ok (.iload_n 2, 1) := by decide +kernel
theorem dX9_nextOrder_13 : decode cX9_nextOrder 13 = .ok (.iaload, 1) := by decide +kernel
theorem dX9_nextOrder_14 : decode cX9_nextOrder 14 = .ok (.aload_n 0, 1) := by decide +kernel
theorem dX9_nextOrder_15 : decode cX9_nextOrder 15 = .ok (.getfield 38, 3) := by decide +kernel
theorem dX9_nextOrder_18 : decode cX9_nextOrder 18 = .ok (.iload_n 2, 1) := by decide +kernel
theorem dX9_nextOrder_19 : decode cX9_nextOrder 19 = .ok (.iconst 1, 1) := by decide +kernel
theorem dX9_nextOrder_20 : decode cX9_nextOrder 20 = .ok (.iadd, 1) := by decide +kernel
theorem dX9_nextOrder_21 : decode cX9_nextOrder 21 = .ok (.iaload, 1) := by decide +kernel
theorem dX9_nextOrder_22 : decode cX9_nextOrder 22 = .ok (.if_icmp .le 9, 3) := by decide +kernel
theorem dX9_nextOrder_25 : decode cX9_nextOrder 25 = .ok (.iinc 2 (-1), 3) := by decide +kernel
theorem dX9_nextOrder_28 : decode cX9_nextOrder 28 = .ok (.goto (-24), 3) := by decide +kernel
theorem dX9_nextOrder_31 : decode cX9_nextOrder 31 = .ok (.iload_n 2, 1) := by decide +kernel
theorem dX9_nextOrder_32 : decode cX9_nextOrder 32 = .ok (.ifCond .ge 5, 3) := by decide +kernel
theorem dX9_nextOrder_35 : decode cX9_nextOrder 35 = .ok (.iconst 0, 1) := by decide +kernel
theorem dX9_nextOrder_36 : decode cX9_nextOrder 36 = .ok (.ireturn, 1) := by decide +kernel
theorem dX9_nextOrder_37 : decode cX9_nextOrder 37 = .ok (.iload_n 1, 1) := by decide +kernel
theorem dX9_nextOrder_38 : decode cX9_nextOrder 38 = .ok (.iconst 1, 1) := by decide +kernel
theorem dX9_nextOrder_39 : decode cX9_nextOrder 39 = .ok (.isub, 1) := by decide +kernel
theorem dX9_nextOrder_40 : decode cX9_nextOrder 40 = .ok (.istore_n 3, 1) := by decide +kernel
theorem dX9_nextOrder_41 : decode cX9_nextOrder 41 = .ok (.aload_n 0, 1) := by decide +kernel
theorem dX9_nextOrder_42 : decode cX9_nextOrder 42 = .ok (.getfield 38, 3) := by decide +kernel
theorem dX9_nextOrder_45 : decode cX9_nextOrder 45 = .ok (.iload_n 3, 1) := by decide +kernel
theorem dX9_nextOrder_46 : decode cX9_nextOrder 46 = .ok (.iaload, 1) := by decide +kernel
theorem dX9_nextOrder_47 : decode cX9_nextOrder 47 = .ok (.aload_n 0, 1) := by decide +kernel
theorem dX9_nextOrder_48 : decode cX9_nextOrder 48 = .ok (.getfield 38, 3) := by decide +kernel
theorem dX9_nextOrder_51 : decode cX9_nextOrder 51 = .ok (.iload_n 2, 1) := by decide +kernel
theorem dX9_nextOrder_52 : decode cX9_nextOrder 52 = .ok (.iaload, 1) := by decide +kernel
theorem dX9_nextOrder_53 : decode cX9_nextOrder 53 = .ok (.if_icmp .ge 9, 3) := by decide +kernel
theorem dX9_nextOrder_56 : decode cX9_nextOrder 56 = .ok (.iinc 3 (-1), 3) := by decide +kernel
theorem dX9_nextOrder_59 : decode cX9_nextOrder 59 = .ok (.goto (-18), 3) := by decide +kernel
theorem dX9_nextOrder_62 : decode cX9_nextOrder 62 = .ok (.aload_n 0, 1) := by decide +kernel
theorem dX9_nextOrder_63 : decode cX9_nextOrder 63 = .ok (.getfield 38, 3) := by decide +kernel
theorem dX9_nextOrder_66 : decode cX9_nextOrder 66 = .ok (.iload_n 2, 1) := by decide +kernel
theorem dX9_nextOrder_67 : decode cX9_nextOrder 67 = .ok (.iaload, 1) := by decide +kernel
theorem dX9_nextOrder_68 : decode cX9_nextOrder 68 = .ok (.istore 4, 2) := by decide +kernel
theorem dX9_nextOrder_70 : decode cX9_nextOrder 70 = .ok (.aload_n 0, 1) := by decide +kernel
theorem dX9_nextOrder_71 : decode cX9_nextOrder 71 = .ok (.getfield 38, 3) := by decide +kernel
end
section
theorem dX9_nextOrder_74 : decode cX9_nextOrder 74 = .ok (.iload_n 2, 1) := by decide +kernel
theorem dX9_nextOrder_75 : decode cX9_nextOrder 75 = .ok (.aload_n 0, 1) := by decide +kernel
theorem dX9_nextOrder_76 : decode cX9_nextOrder 76 = .ok (.getfield 38, 3) := by decide +kernel
theorem dX9_nextOrder_79 : decode cX9_nextOrder 79 = .ok (.iload_n 3, 1) := by decide +kernel
theorem dX9_nextOrder_80 : decode cX9_nextOrder 80 = .ok (.iaload, 1) := by decide +kernel
theorem dX9_nextOrder_81 : decode cX9_nextOrder 81 = .ok (.iastore, 1) := by decide +kernel
theorem dX9_nextOrder_82 : decode cX9_nextOrder 82 = .ok (.aload_n 0, 1) := by decide +kernel
theorem dX9_nextOrder_83 : decode cX9_nextOrder 83 = .ok (.getfield 38, 3) := by decide +kernel
theorem dX9_nextOrder_86 : decode cX9_nextOrder 86 = .ok (.iload_n 3, 1) := by decide +kernel
theorem dX9_nextOrder_87 : decode cX9_nextOrder 87 = .ok (.iload 4, 2) := by decide +kernel
theorem dX9_nextOrder_89 : decode cX9_nextOrder 89 = .ok (.iastore, 1) := by decide +kernel
theorem dX9_nextOrder_90 : decode cX9_nextOrder 90 = .ok (.iload_n 1, 1) := by decide +kernel
theorem dX9_nextOrder_91 : decode cX9_nextOrder 91 = .ok (.iconst 1, 1) := by decide +kernel
theorem dX9_nextOrder_92 : decode cX9_nextOrder 92 = .ok (.isub, 1) := by decide +kernel
theorem dX9_nextOrder_93 : decode cX9_nextOrder 93 = .ok (.istore 5, 2) := by decide +kernel
theorem dX9_nextOrder_95 : decode cX9_nextOrder 95 = .ok (.iload_n 2, 1) := by decide +kernel
theorem dX9_nextOrder_96 : decode cX9_nextOrder 96 = .ok (.iconst 1, 1) := by decide +kernel
theorem dX9_nextOrder_97 : decode cX9_nextOrder 97 = .ok (.iadd, 1) := by decide +kernel
theorem dX9_nextOrder_98 : decode cX9_nextOrder 98 = .ok (.istore 6, 2) := by decide +kernel
theorem dX9_nextOrder_100 : decode cX9_nextOrder 100 = .ok (.iload 6, 2) := by decide +kernel
theorem dX9_nextOrder_102 : decode cX9_nextOrder 102 = .ok (.iload 5, 2) := by decide +kernel
theorem dX9_nextOrder_104 : decode cX9_nextOrder 104 = .ok (.if_icmp .ge 44, 3) := by decide +kernel
theorem dX9_nextOrder_107 : decode cX9_nextOrder 107 = .ok (.aload_n 0, 1) := by decide +kernel
theorem dX9_nextOrder_108 : decode cX9_nextOrder 108 = .ok (.getfield 38, 3) := by decide +kernel
theorem dX9_nextOrder_111 : decode cX9_nextOrder 111 = .ok (.iload 6, 2) := by decide +kernel
theorem dX9_nextOrder_113 : decode cX9_nextOrder 113 = .ok (.iaload, 1) := by decide +kernel
theorem dX9_nextOrder_114 : decode cX9_nextOrder 114 = .ok (.istore 4, 2) := by decide +kernel
theorem dX9_nextOrder_116 : decode cX9_nextOrder 116 = .ok (.aload_n 0, 1) := by decide +kernel
theorem dX9_nextOrder_117 : decode cX9_nextOrder 117 = .ok (.getfield 38, 3) := by decide +kernel
theorem dX9_nextOrder_120 : decode cX9_nextOrder 120 = .ok (.iload 6, 2) := by decide +kernel
theorem dX9_nextOrder_122 : decode cX9_nextOrder 122 = .ok (.aload_n 0, 1) := by decide +kernel
theorem dX9_nextOrder_123 : decode cX9_nextOrder 123 = .ok (.getfield 38, 3) := by decide +kernel
theorem dX9_nextOrder_126 : decode cX9_nextOrder 126 = .ok (.iload 5, 2) := by decide +kernel
theorem dX9_nextOrder_128 : decode cX9_nextOrder 128 = .ok (.iaload, 1) := by decide +kernel
theorem dX9_nextOrder_129 : decode cX9_nextOrder 129 = .ok (.iastore, 1) := by decide +kernel
theorem dX9_nextOrder_130 : decode cX9_nextOrder 130 = .ok (.aload_n 0, 1) := by decide +kernel
theorem dX9_nextOrder_131 : decode cX9_nextOrder 131 = .ok (.getfield 38, 3) := by decide +kernel
theorem dX9_nextOrder_134 : decode cX9_nextOrder 134 = .ok (.iload 5, 2) := by decide +kernel
theorem dX9_nextOrder_136 : decode cX9_nextOrder 136 = .ok (.iload 4, 2) := by decide +kernel
theorem dX9_nextOrder_138 : decode cX9_nextOrder 138 = .ok (.iastore, 1) := by decide +kernel
theorem dX9_nextOrder_139 : decode cX9_nextOrder 139 = .ok (.iinc 5 (-1), 3) := by decide +kernel
theorem dX9_nextOrder_142 : decode cX9_nextOrder 142 = .ok (.iinc 6 1, 3) := by decide +kernel
theorem dX9_nextOrder_145 : decode cX9_nextOrder 145 = .ok (.goto (-45), 3) := by decide +kernel
theorem dX9_nextOrder_148 : decode cX9_nextOrder 148 = .ok (.iconst 1, 1) := by decide +kernel
theorem dX9_nextOrder_149 : decode cX9_nextOrder 149 = .ok (.ireturn, 1) := by decide +kernel
theorem dX9_layFirst_0 : decode cX9_layFirst 0 = .ok (.iconst 0, 1) := by decide +kernel
theorem dX9_layFirst_1 : decode cX9_layFirst 1 = .ok (.istore_n 2, 1) := by decide +kernel
theorem dX9_layFirst_2 : decode cX9_layFirst 2 = .ok (.iconst 0, 1) := by decide +kernel
theorem dX9_layFirst_3 : decode cX9_layFirst 3 = .ok (.istore_n 3, 1) := by decide +kernel
theorem dX9_layFirst_4 : decode cX9_layFirst 4 = .ok (.iload_n 3, 1) := by decide +kernel
theorem dX9_layFirst_5 : decode cX9_layFirst 5 = .ok (.aload_n 0, 1) := by decide +kernel
theorem dX9_layFirst_6 : decode cX9_layFirst 6 = .ok (.getfield 19, 3) := by decide +kernel
theorem dX9_layFirst_9 : decode cX9_layFirst 9 = .ok (.iconst 1, 1) := by decide +kernel
theorem dX9_layFirst_10 : decode cX9_layFirst 10 = .ok (.iaload, 1) := by decide +kernel
theorem dX9_layFirst_11 : decode cX9_layFirst 11 = .ok (.if_icmp .ge 28, 3) := by decide +kernel
theorem dX9_layFirst_14 : decode cX9_layFirst 14 = .ok (.aload_n 0, 1) := by decide +kernel
theorem dX9_layFirst_15 : decode cX9_layFirst 15 = .ok (.iload_n 3, 1) := by decide +kernel
theorem dX9_layFirst_16 : decode cX9_layFirst 16 = .ok (.invokevirtual 203, 3) := by decide +kernel
theorem dX9_layFirst_19 : decode cX9_layFirst 19 = .ok (.iload_n 1, 1) := by decide +kernel
theorem dX9_layFirst_20 : decode cX9_layFirst 20 = .ok (.if_icmp .ne 13, 3) := by decide +kernel
theorem dX9_layFirst_23 : decode cX9_layFirst 23 = .ok (.aload_n 0, 1) := by decide +kernel
theorem dX9_layFirst_24 : decode cX9_layFirst 24 = .ok (.getfield 38, 3) := by decide +kernel
theorem dX9_layFirst_27 : decode cX9_layFirst 27 = .ok (.iload_n 2, 1) := by decide +kernel
theorem dX9_layFirst_28 : decode cX9_layFirst 28 = .ok (.iload_n 3, 1) := by decide +kernel
theorem dX9_layFirst_29 : decode cX9_layFirst 29 = .ok (.iastore, 1) := by decide +kernel
theorem dX9_layFirst_30 : decode cX9_layFirst 30 = .ok (.iinc 2 1, 3) := by decide +kernel
theorem dX9_layFirst_33 : decode cX9_layFirst 33 = .ok (.iinc 3 1, 3) := by decide +kernel
theorem dX9_layFirst_36 : decode cX9_layFirst 36 = .ok (.goto (-32), 3) := by decide +kernel
theorem dX9_layFirst_39 : decode cX9_layFirst 39 = .ok (.return_, 1) := by decide +kernel
theorem dX9_order_0 : decode cX9_order 0 = .ok (.aload_n 0, 1) := by decide +kernel
theorem dX9_order_1 : decode cX9_order 1 = .ok (.iconst 0, 1) := by decide +kernel
theorem dX9_order_2 : decode cX9_order 2 = .ok (.putfield 54, 3) := by decide +kernel
theorem dX9_order_5 : decode cX9_order 5 = .ok (.aload_n 0, 1) := by decide +kernel
theorem dX9_order_6 : decode cX9_order 6 = .ok (.iload_n 1, 1) := by decide +kernel
theorem dX9_order_7 : decode cX9_order 7 = .ok (.invokevirtual 219, 3) := by decide +kernel
theorem dX9_order_10 : decode cX9_order 10 = .ok (.ifCond .eq 20, 3) := by decide +kernel
theorem dX9_order_13 : decode cX9_order 13 = .ok (.iload_n 2, 1) := by decide +kernel
theorem dX9_order_14 : decode cX9_order 14 = .ok (.i2l, 1) := by decide +kernel
theorem dX9_order_15 : decode cX9_order 15 = .ok (.lconst 0, 1) := by decide +kernel
theorem dX9_order_16 : decode cX9_order 16 = .ok (.ldc2_w 247, 3) := by decide +kernel
theorem dX9_order_19 : decode cX9_order 19 = .ok (.invokestatic 64, 3) := by decide +kernel
theorem dX9_order_22 : decode cX9_order 22 = .ok (.ifCond .eq 8, 3) := by decide +kernel
theorem dX9_order_25 : decode cX9_order 25 = .ok (.iload_n 3, 1) := by decide +kernel
theorem dX9_order_26 : decode cX9_order 26 = .ok (.iconst (-1), 1) := by decide +kernel
theorem dX9_order_27 : decode cX9_order 27 = .ok (.if_icmp .ge 6, 3) := by decide +kernel
theorem dX9_order_30 : decode cX9_order 30 = .ok (.ldc 74, 2) := by decide +kernel
theorem dX9_order_32 : decode cX9_order 32 = .ok (.ireturn, 1) := by decide +kernel
theorem dX9_order_33 : decode cX9_order 33 = .ok (.aload_n 0, 1) := by decide +kernel
theorem dX9_order_34 : decode cX9_order 34 = .ok (.iload_n 1, 1) := by decide +kernel
theorem dX9_order_35 : decode cX9_order 35 = .ok (.invokevirtual 191, 3) := by decide +kernel
theorem dX9_order_38 : decode cX9_order 38 = .ok (.istore 4, 2) := by decide +kernel
theorem dX9_order_40 : decode cX9_order 40 = .ok (.iload 4, 2) := by decide +kernel
theorem dX9_order_42 : decode cX9_order 42 = .ok (.bipush 7, 2) := by decide +kernel
theorem dX9_order_44 : decode cX9_order 44 = .ok (.if_icmp .le 6, 3) := by decide +kernel
theorem dX9_order_47 : decode cX9_order 47 = .ok (.ldc 90, 2) := by decide +kernel
theorem dX9_order_49 : decode cX9_order 49 = .ok (.ireturn, 1) := by decide +kernel
theorem dX9_order_50 : decode cX9_order 50 = .ok (.aload_n 0, 1) := by decide +kernel
theorem dX9_order_51 : decode cX9_order 51 = .ok (.iload_n 1, 1) := by decide +kernel
theorem dX9_order_52 : decode cX9_order 52 = .ok (.invokevirtual 257, 3) := by decide +kernel
theorem dX9_order_55 : decode cX9_order 55 = .ok (.ldc 90, 2) := by decide +kernel
theorem dX9_order_57 : decode cX9_order 57 = .ok (.istore 5, 2) := by decide +kernel
theorem dX9_order_59 : decode cX9_order 59 = .ok (.iconst 1, 1) := by decide +kernel
theorem dX9_order_60 : decode cX9_order 60 = .ok (.istore 6, 2) := by decide +kernel
theorem dX9_order_62 : decode cX9_order 62 = .ok (.iload 6, 2) := by decide +kernel
theorem dX9_order_64 : decode cX9_order 64 = .ok (.ifCond .eq 72, 3) := by decide +kernel
theorem dX9_order_67 : decode cX9_order 67 = .ok (.aload_n 0, 1) := by decide +kernel
theorem dX9_order_68 : decode cX9_order 68 = .ok (.iload_n 1, 1) := by decide +kernel
theorem dX9_order_69 : decode cX9_order 69 = .ok (.iload 4, 2) := by decide +kernel
theorem dX9_order_71 : decode cX9_order 71 = .ok (.iload_n 2, 1) := by decide +kernel
theorem dX9_order_72 : decode cX9_order 72 = .ok (.invokevirtual 260, 3) := by decide +kernel
theorem dX9_order_75 : decode cX9_order 75 = .ok (.istore 7, 2) := by decide +kernel
theorem dX9_order_77 : decode cX9_order 77 = .ok (.iload 5, 2) := by decide +kernel
theorem dX9_order_79 : decode cX9_order 79 = .ok (.ldc 90, 2) := by decide +kernel
theorem dX9_order_81 : decode cX9_order 81 = .ok (.if_icmp .eq 10, 3) := by decide +kernel
theorem dX9_order_84 : decode cX9_order 84 = .ok (.iload 7, 2) := by decide +kernel
theorem dX9_order_86 : decode cX9_order 86 = .ok (.iload 5, 2) := by decide +kernel
theorem dX9_order_88 : decode cX9_order 88 = .ok (.if_icmp .ge 37, 3) := by decide +kernel
theorem dX9_order_91 : decode cX9_order 91 = .ok (.iload 7, 2) := by decide +kernel
theorem dX9_order_93 : decode cX9_order 93 = .ok (.istore 5, 2) := by decide +kernel
theorem dX9_order_95 : decode cX9_order 95 = .ok (.iconst 0, 1) := by decide +kernel
theorem dX9_order_96 : decode cX9_order 96 = .ok (.istore 8, 2) := by decide +kernel
theorem dX9_order_98 : decode cX9_order 98 = .ok (.iload 8, 2) := by decide +kernel
theorem dX9_order_100 : decode cX9_order 100 = .ok (.iload 4, 2) := by decide +kernel
theorem dX9_order_102 : decode cX9_order 102 = .ok (.if_icmp .ge 23, 3) := by decide +kernel
theorem dX9_order_105 : decode cX9_order 105 = .ok (.aload_n 0, 1) := by decide +kernel
theorem dX9_order_106 : decode cX9_order 106 = .ok (.getfield 41, 3) := by decide +kernel
theorem dX9_order_109 : decode cX9_order 109 = .ok (.iload 8, 2) := by decide +kernel
theorem dX9_order_111 : decode cX9_order 111 = .ok (.aload_n 0, 1) := by decide +kernel
theorem dX9_order_112 : decode cX9_order 112 = .ok (.getfield 38, 3) := by decide +kernel
theorem dX9_order_115 : decode cX9_order 115 = .ok (.iload 8, 2) := by decide +kernel
theorem dX9_order_117 : decode cX9_order 117 = .ok (.iaload, 1) := by decide +kernel
theorem dX9_order_118 : decode cX9_order 118 = .ok (.iastore, 1) := by decide +kernel
theorem dX9_order_119 : decode cX9_order 119 = .ok (.iinc 8 1, 3) := by decide +kernel
theorem dX9_order_122 : decode cX9_order 122 = .ok (.goto (-24), 3) := by decide +kernel
theorem dX9_order_125 : decode cX9_order 125 = .ok (.aload_n 0, 1) := by decide +kernel
theorem dX9_order_126 : decode cX9_order 126 = .ok (.iload 4, 2) := by decide +kernel
theorem dX9_order_128 : decode cX9_order 128 = .ok (.invokevirtual 264, 3) := by decide +kernel
theorem dX9_order_131 : decode cX9_order 131 = .ok (.istore 6, 2) := by decide +kernel
theorem dX9_order_133 : decode cX9_order 133 = .ok (.goto (-71), 3) := by decide +kernel
theorem dX9_order_136 : decode cX9_order 136 = .ok (.iload_n 3, 1) := by decide +kernel
theorem dX9_order_137 : decode cX9_order 137 = .ok (.ifCond .ge 8, 3) := by decide +kernel
theorem dX9_order_140 : decode cX9_order 140 = .ok (.iload 5, 2) := by decide +kernel
theorem dX9_order_142 : decode cX9_order 142 = .ok (.goto 20, 3) := by decide +kernel
theorem dX9_order_145 : decode cX9_order 145 = .ok (.iload_n 3, 1) := by decide +kernel
theorem dX9_order_146 : decode cX9_order 146 = .ok (.iload 4, 2) := by decide +kernel
theorem dX9_order_148 : decode cX9_order 148 = .ok (.if_icmp .ge 12, 3) := by decide +kernel
theorem dX9_order_151 : decode cX9_order 151 = .ok (.aload_n 0, 1) := by decide +kernel
theorem dX9_order_152 : decode cX9_order 152 = .ok (.getfield 41, 3) := by decide +kernel
theorem dX9_order_155 : decode cX9_order 155 = .ok (.iload_n 3, 1) := by decide +kernel
theorem dX9_order_156 : decode cX9_order 156 = .ok (.iaload, 1) := by decide +kernel
theorem dX9_order_157 : decode cX9_order 157 = .ok (.goto 5, 3) := by decide +kernel
theorem dX9_order_160 : decode cX9_order 160 = .ok (.ldc 90, 2) := by decide +kernel
theorem dX9_order_162 : decode cX9_order 162 = .ok (.ireturn, 1) := by decide +kernel
theorem dX9_isCovered_0 : decode cX9_isCovered 0 = .ok (.aload_n 0, 1) := by decide +kernel
theorem dX9_isCovered_1 : decode cX9_isCovered 1 = .ok (.iload_n 1, 1) := by decide +kernel
theorem dX9_isCovered_2 : decode cX9_isCovered 2 = .ok (.invokevirtual 191, 3) := by decide +kernel
theorem dX9_isCovered_5 : decode cX9_isCovered 5 = .ok (.iload_n 2, 1) := by decide +kernel
theorem dX9_isCovered_6 : decode cX9_isCovered 6 = .ok (.iadd, 1) := by decide +kernel
theorem dX9_isCovered_7 : decode cX9_isCovered 7 = .ok (.istore 4, 2) := by decide +kernel
theorem dX9_isCovered_9 : decode cX9_isCovered 9 = .ok (.iconst 0, 1) := by decide +kernel
theorem dX9_isCovered_10 : decode cX9_isCovered 10 = .ok (.istore 5, 2) := by decide +kernel
theorem dX9_isCovered_12 : decode cX9_isCovered 12 = .ok (.iload 5, 2) := by decide +kernel
theorem dX9_isCovered_14 : decode cX9_isCovered 14 = .ok (.iload_n 3, 1) := by decide +kernel
theorem dX9_isCovered_15 : decode cX9_isCovered 15 = .ok (.if_icmp .ge 76, 3) := by decide +kernel
theorem dX9_isCovered_18 : decode cX9_isCovered 18 = .ok (.iload 4, 2) := by decide +kernel
theorem dX9_isCovered_20 : decode cX9_isCovered 20 = .ok (.aload_n 0, 1) := by decide +kernel
theorem dX9_isCovered_21 : decode cX9_isCovered 21 = .ok (.getfield 19, 3) := by decide +kernel
theorem dX9_isCovered_24 : decode cX9_isCovered 24 = .ok (.bipush 15, 2) := by decide +kernel
theorem dX9_isCovered_26 : decode cX9_isCovered 26 = .ok (.iconst 2, 1) := by decide +kernel
theorem dX9_isCovered_27 : decode cX9_isCovered 27 = .ok (.iload_n 1, 1) := by decide +kernel
theorem dX9_isCovered_28 : decode cX9_isCovered 28 = .ok (.imul, 1) := by decide +kernel
theorem dX9_isCovered_29 : decode cX9_isCovered 29 = .ok (.iadd, 1) := by decide +kernel
theorem dX9_isCovered_30 : decode cX9_isCovered 30 = .ok (.iconst 1, 1) := by decide +kernel
theorem dX9_isCovered_31 : decode cX9_isCovered 31 = .ok (.iadd, 1) := by decide +kernel
theorem dX9_isCovered_32 : decode cX9_isCovered 32 = .ok (.iaload, 1) := by decide +kernel
theorem dX9_isCovered_33 : decode cX9_isCovered 33 = .ok (.if_icmp .le 58, 3) := by decide +kernel
theorem dX9_isCovered_36 : decode cX9_isCovered 36 = .ok (.iload 4, 2) := by decide +kernel
theorem dX9_isCovered_38 : decode cX9_isCovered 38 = .ok (.aload_n 0, 1) := by decide +kernel
theorem dX9_isCovered_39 : decode cX9_isCovered 39 = .ok (.iload_n 1, 1) := by decide +kernel
theorem dX9_isCovered_40 : decode cX9_isCovered 40 = .ok (.invokevirtual 191, 3) := by decide +kernel
theorem dX9_isCovered_43 : decode cX9_isCovered 43 = .ok (.if_icmp .gt 39, 3) := by decide +kernel
theorem dX9_isCovered_46 : decode cX9_isCovered 46 = .ok (.aload_n 0, 1) := by decide +kernel
theorem dX9_isCovered_47 : decode cX9_isCovered 47 = .ok (.iload_n 1, 1) := by decide +kernel
theorem dX9_isCovered_48 : decode cX9_isCovered 48 = .ok (.iload 4, 2) := by decide +kernel
theorem dX9_isCovered_50 : decode cX9_isCovered 50 = .ok (.iconst 1, 1) := by decide +kernel
theorem dX9_isCovered_51 : decode cX9_isCovered 51 = .ok (.isub, 1) := by decide +kernel
theorem dX9_isCovered_52 : decode cX9_isCovered 52 = .ok (.invokevirtual 194, 3) := by decide +kernel
theorem dX9_isCovered_55 : decode cX9_isCovered 55 = .ok (.istore 6, 2) := by decide +kernel
theorem dX9_isCovered_57 : decode cX9_isCovered 57 = .ok (.aload_n 0, 1) := by decide +kernel
theorem dX9_isCovered_58 : decode cX9_isCovered 58 = .ok (.iload 6, 2) := by decide +kernel
theorem dX9_isCovered_60 : decode cX9_isCovered 60 = .ok (.iconst 0, 1) := by decide +kernel
theorem dX9_isCovered_61 : decode cX9_isCovered 61 = .ok (.invokevirtual 216, 3) := by decide +kernel
theorem dX9_isCovered_64 : decode cX9_isCovered 64 = .ok (.iconst 5, 1) := by decide +kernel
theorem dX9_isCovered_65 : decode cX9_isCovered 65 = .ok (.if_icmp .ne 5, 3) := by decide +kernel
theorem dX9_isCovered_68 : decode cX9_isCovered 68 = .ok (.iconst 1, 1) := by decide +kernel
theorem dX9_isCovered_69 : decode cX9_isCovered 69 = .ok (.ireturn, 1) := by decide +kernel
theorem dX9_isCovered_70 : decode cX9_isCovered 70 = .ok (.aload_n 0, 1) := by decide +kernel
theorem dX9_isCovered_71 : decode cX9_isCovered 71 = .ok (.iload 6, 2) := by decide +kernel
theorem dX9_isCovered_73 : decode cX9_isCovered 73 = .ok (.iconst 1, 1) := by decide +kernel
theorem dX9_isCovered_74 : decode cX9_isCovered 74 = .ok (.invokevirtual 216, 3) := by decide +kernel
theorem dX9_isCovered_77 : decode cX9_isCovered 77 = .ok (.ifCond .le 5, 3) := by decide +kernel
theorem dX9_isCovered_80 : decode cX9_isCovered 80 = .ok (.iconst 0, 1) := by decide +kernel
theorem dX9_isCovered_81 : decode cX9_isCovered 81 = .ok (.ireturn, 1) := by decide +kernel
theorem dX9_isCovered_82 : decode cX9_isCovered 82 = .ok (.iinc 4 (-1), 3) := by decide +kernel
theorem dX9_isCovered_85 : decode cX9_isCovered 85 = .ok (.iinc 5 1, 3) := by decide +kernel
theorem dX9_isCovered_88 : decode cX9_isCovered 88 = .ok (.goto (-76), 3) := by decide +kernel
theorem dX9_isCovered_91 : decode cX9_isCovered 91 = .ok (.iconst 1, 1) := by decide +kernel
theorem dX9_isCovered_92 : decode cX9_isCovered 92 = .ok (.ireturn, 1) := by decide +kernel
theorem dX9_cover_0 : decode cX9_cover 0 = .ok (.aload_n 0, 1) := by decide +kernel
theorem dX9_cover_1 : decode cX9_cover 1 = .ok (.iconst 0, 1) := by decide +kernel
theorem dX9_cover_2 : decode cX9_cover 2 = .ok (.putfield 54, 3) := by decide +kernel
theorem dX9_cover_5 : decode cX9_cover 5 = .ok (.aload_n 0, 1) := by decide +kernel
theorem dX9_cover_6 : decode cX9_cover 6 = .ok (.iload_n 1, 1) := by decide +kernel
theorem dX9_cover_7 : decode cX9_cover 7 = .ok (.invokevirtual 219, 3) := by decide +kernel
theorem dX9_cover_10 : decode cX9_cover 10 = .ok (.ifCond .eq 15, 3) := by decide +kernel
theorem dX9_cover_13 : decode cX9_cover 13 = .ok (.iload_n 2, 1) := by decide +kernel
theorem dX9_cover_14 : decode cX9_cover 14 = .ok (.i2l, 1) := by decide +kernel
theorem dX9_cover_15 : decode cX9_cover 15 = .ok (.lconst 0, 1) := by decide +kernel
theorem dX9_cover_16 : decode cX9_cover 16 = .ok (.ldc2_w 247, 3) := by decide +kernel
theorem dX9_cover_19 : decode cX9_cover 19 = .ok (.invokestatic 64, 3) := by decide +kernel
theorem dX9_cover_22 : decode cX9_cover 22 = .ok (.ifCond .ne 6, 3) := by decide +kernel
theorem dX9_cover_25 : decode cX9_cover 25 = .ok (.ldc 74, 2) := by decide +kernel
theorem dX9_cover_27 : decode cX9_cover 27 = .ok (.ireturn, 1) := by decide +kernel
theorem dX9_cover_28 : decode cX9_cover 28 = .ok (.iconst 0, 1) := by decide +kernel
theorem dX9_cover_29 : decode cX9_cover 29 = .ok (.istore_n 3, 1) := by decide +kernel
theorem dX9_cover_30 : decode cX9_cover 30 = .ok (.iload_n 3, 1) := by decide +kernel
theorem dX9_cover_31 : decode cX9_cover 31 = .ok (.aload_n 0, 1) := by decide +kernel
theorem dX9_cover_32 : decode cX9_cover 32 = .ok (.getfield 19, 3) := by decide +kernel
theorem dX9_cover_35 : decode cX9_cover 35 = .ok (.bipush 15, 2) := by decide +kernel
theorem dX9_cover_37 : decode cX9_cover 37 = .ok (.iconst 2, 1) := by decide +kernel
theorem dX9_cover_38 : decode cX9_cover 38 = .ok (.iload_n 1, 1) := by decide +kernel
theorem dX9_cover_39 : decode cX9_cover 39 = .ok (.imul, 1) := by decide +kernel
theorem dX9_cover_40 : decode cX9_cover 40 = .ok (.iadd, 1) := by decide +kernel
theorem dX9_cover_41 : decode cX9_cover 41 = .ok (.iaload, 1) := by decide +kernel
theorem dX9_cover_42 : decode cX9_cover 42 = .ok (.aload_n 0, 1) := by decide +kernel
theorem dX9_cover_43 : decode cX9_cover 43 = .ok (.iload_n 1, 1) := by decide +kernel
theorem dX9_cover_44 : decode cX9_cover 44 = .ok (.invokevirtual 191, 3) := by decide +kernel
theorem dX9_cover_47 : decode cX9_cover 47 = .ok (.isub, 1) := by decide +kernel
theorem dX9_cover_48 : decode cX9_cover 48 = .ok (.if_icmp .gt 21, 3) := by decide +kernel
theorem dX9_cover_51 : decode cX9_cover 51 = .ok (.aload_n 0, 1) := by decide +kernel
theorem dX9_cover_52 : decode cX9_cover 52 = .ok (.iload_n 1, 1) := by decide +kernel
theorem dX9_cover_53 : decode cX9_cover 53 = .ok (.iload_n 3, 1) := by decide +kernel
theorem dX9_cover_54 : decode cX9_cover 54 = .ok (.iload_n 2, 1) := by decide +kernel
theorem dX9_cover_55 : decode cX9_cover 55 = .ok (.invokevirtual 267, 3) := by decide +kernel
theorem dX9_cover_58 : decode cX9_cover 58 = .ok (.ifCond .eq 5, 3) := by decide +kernel
theorem dX9_cover_61 : decode cX9_cover 61 = .ok (.iload_n 3, 1) := by decide +kernel
theorem dX9_cover_62 : decode cX9_cover 62 = .ok (.ireturn, 1) := by decide +kernel
theorem dX9_cover_63 : decode cX9_cover 63 = .ok (.iinc 3 1, 3) := by decide +kernel
theorem dX9_cover_66 : decode cX9_cover 66 = .ok (.goto (-36), 3) := by decide +kernel
theorem dX9_cover_69 : decode cX9_cover 69 = .ok (.ldc 90, 2) := by decide +kernel
theorem dX9_cover_71 : decode cX9_cover 71 = .ok (.ireturn, 1) := by decide +kernel
theorem dX9_leastOn_0 : decode cX9_leastOn 0 = .ok (.iconst 0, 1) := by decide +kernel
theorem dX9_leastOn_1 : decode cX9_leastOn 1 = .ok (.istore_n 2, 1) := by decide +kernel
theorem dX9_leastOn_2 : decode cX9_leastOn 2 = .ok (.iconst 1, 1) := by decide +kernel
theorem dX9_leastOn_3 : decode cX9_leastOn 3 = .ok (.istore_n 3, 1) := by decide +kernel
theorem dX9_leastOn_4 : decode cX9_leastOn 4 = .ok (.iload_n 3, 1) := by decide +kernel
theorem dX9_leastOn_5 : decode cX9_leastOn 5 = .ok (.aload_n 0, 1) := by decide +kernel
theorem dX9_leastOn_6 : decode cX9_leastOn 6 = .ok (.iload_n 1, 1) := by decide +kernel
theorem dX9_leastOn_7 : decode cX9_leastOn 7 = .ok (.invokevirtual 191, 3) := by decide +kernel
theorem dX9_leastOn_10 : decode cX9_leastOn 10 = .ok (.if_icmp .ge 40, 3) := by decide +kernel
theorem dX9_leastOn_13 : decode cX9_leastOn 13 = .ok (.aload_n 0, 1) := by decide +kernel
theorem dX9_leastOn_14 : decode cX9_leastOn 14 = .ok (.aload_n 0, 1) := by decide +kernel
theorem dX9_leastOn_15 : decode cX9_leastOn 15 = .ok (.iload_n 1, 1) := by decide +kernel
theorem dX9_leastOn_16 : decode cX9_leastOn 16 = .ok (.iload_n 3, 1) := by decide +kernel
theorem dX9_leastOn_17 : decode cX9_leastOn 17 = .ok (.invokevirtual 194, 3) := by decide +kernel
theorem dX9_leastOn_20 : decode cX9_leastOn 20 = .ok (.iconst 1, 1) := by decide +kernel
theorem dX9_leastOn_21 : decode cX9_leastOn 21 = .ok (.invokevirtual 216, 3) := by decide +kernel
theorem dX9_leastOn_24 : decode cX9_leastOn 24 = .ok (.aload_n 0, 1) := by decide +kernel
theorem dX9_leastOn_25 : decode cX9_leastOn 25 = .ok (.aload_n 0, 1) := by decide +kernel
theorem dX9_leastOn_26 : decode cX9_leastOn 26 = .ok (.iload_n 1, 1) := by decide +kernel
theorem dX9_leastOn_27 : decode cX9_leastOn 27 = .ok (.iload_n 2, 1) := by decide +kernel
theorem dX9_leastOn_28 : decode cX9_leastOn 28 = .ok (.invokevirtual 194, 3) := by decide +kernel
theorem dX9_leastOn_31 : decode cX9_leastOn 31 = .ok (.iconst 1, 1) := by decide +kernel
theorem dX9_leastOn_32 : decode cX9_leastOn 32 = .ok (.invokevirtual 216, 3) := by decide +kernel
theorem dX9_leastOn_35 : decode cX9_leastOn 35 = .ok (.if_icmp .ge 7, 3) := by decide +kernel
theorem dX9_leastOn_38 : decode cX9_leastOn 38 = .ok (.iload_n 3, 1) := by decide +kernel
theorem dX9_leastOn_39 : decode cX9_leastOn 39 = .ok (.goto 4, 3) := by decide +kernel
theorem dX9_leastOn_42 : decode cX9_leastOn 42 = .ok (.iload_n 2, 1) := by decide +kernel
theorem dX9_leastOn_43 : decode cX9_leastOn 43 = .ok (.istore_n 2, 1) := by decide +kernel
theorem dX9_leastOn_44 : decode cX9_leastOn 44 = .ok (.iinc 3 1, 3) := by decide +kernel
theorem dX9_leastOn_47 : decode cX9_leastOn 47 = .ok (.goto (-43), 3) := by decide +kernel
theorem dX9_leastOn_50 : decode cX9_leastOn 50 = .ok (.aload_n 0, 1) := by decide +kernel
theorem dX9_leastOn_51 : decode cX9_leastOn 51 = .ok (.iload_n 1, 1) := by decide +kernel
theorem dX9_leastOn_52 : decode cX9_leastOn 52 = .ok (.iload_n 2, 1) := by decide +kernel
theorem dX9_leastOn_53 : decode cX9_leastOn 53 = .ok (.invokevirtual 194, 3) := by decide +kernel
theorem dX9_leastOn_56 : decode cX9_leastOn 56 = .ok (.ireturn, 1) := by decide +kernel
theorem dX9_lostOn_0 : decode cX9_lostOn 0 = .ok (.aload_n 0, 1) := by decide +kernel
theorem dX9_lostOn_1 : decode cX9_lostOn 1 = .ok (.iload_n 1, 1) := by decide +kernel
theorem dX9_lostOn_2 : decode cX9_lostOn 2 = .ok (.invokevirtual 191, 3) := by decide +kernel
theorem dX9_lostOn_5 : decode cX9_lostOn 5 = .ok (.aload_n 0, 1) := by decide +kernel
theorem dX9_lostOn_6 : decode cX9_lostOn 6 = .ok (.getfield 19, 3) := by decide +kernel
theorem dX9_lostOn_9 : decode cX9_lostOn 9 = .ok (.bipush 15, 2) := by decide +kernel
theorem dX9_lostOn_11 : decode cX9_lostOn 11 = .ok (.iconst 2, 1) := by decide +kernel
theorem dX9_lostOn_12 : decode cX9_lostOn 12 = .ok (.iload_n 1, 1) := by decide +kernel
theorem dX9_lostOn_13 : decode cX9_lostOn 13 = .ok (.imul, 1) := by decide +kernel
theorem dX9_lostOn_14 : decode cX9_lostOn 14 = .ok (.iadd, 1) := by decide +kernel
theorem dX9_lostOn_15 : decode cX9_lostOn 15 = .ok (.iconst 1, 1) := by decide +kernel
theorem dX9_lostOn_16 : decode cX9_lostOn 16 = .ok (.iadd, 1) := by decide +kernel
theorem dX9_lostOn_17 : decode cX9_lostOn 17 = .ok (.iaload, 1) := by decide +kernel
theorem dX9_lostOn_18 : decode cX9_lostOn 18 = .ok (.if_icmp .le 22, 3) := by decide +kernel
theorem dX9_lostOn_21 : decode cX9_lostOn 21 = .ok (.aload_n 0, 1) := by decide +kernel
theorem dX9_lostOn_22 : decode cX9_lostOn 22 = .ok (.iload_n 2, 1) := by decide +kernel
theorem dX9_lostOn_23 : decode cX9_lostOn 23 = .ok (.iconst 0, 1) := by decide +kernel
theorem dX9_lostOn_24 : decode cX9_lostOn 24 = .ok (.invokevirtual 216, 3) := by decide +kernel
theorem dX9_lostOn_27 : decode cX9_lostOn 27 = .ok (.iconst 5, 1) := by decide +kernel
theorem dX9_lostOn_28 : decode cX9_lostOn 28 = .ok (.if_icmp .eq 12, 3) := by decide +kernel
theorem dX9_lostOn_31 : decode cX9_lostOn 31 = .ok (.aload_n 0, 1) := by decide +kernel
theorem dX9_lostOn_32 : decode cX9_lostOn 32 = .ok (.iload_n 2, 1) := by decide +kernel
theorem dX9_lostOn_33 : decode cX9_lostOn 33 = .ok (.iconst 1, 1) := by decide +kernel
theorem dX9_lostOn_34 : decode cX9_lostOn 34 = .ok (.invokevirtual 216, 3) := by decide +kernel
theorem dX9_lostOn_37 : decode cX9_lostOn 37 = .ok (.goto 4, 3) := by decide +kernel
theorem dX9_lostOn_40 : decode cX9_lostOn 40 = .ok (.iconst 0, 1) := by decide +kernel
theorem dX9_lostOn_41 : decode cX9_lostOn 41 = .ok (.ireturn, 1) := by decide +kernel
theorem dX9_lend_0 : decode cX9_lend 0 = .ok (.aload_n 0, 1) := by decide +kernel
theorem dX9_lend_1 : decode cX9_lend 1 = .ok (.iconst 0, 1) := by decide +kernel
theorem dX9_lend_2 : decode cX9_lend 2 = .ok (.putfield 54, 3) := by decide +kernel
theorem dX9_lend_5 : decode cX9_lend 5 = .ok (.aload_n 0, 1) := by decide +kernel
theorem dX9_lend_6 : decode cX9_lend 6 = .ok (.iload_n 1, 1) := by decide +kernel
theorem dX9_lend_7 : decode cX9_lend 7 = .ok (.invokevirtual 219, 3) := by decide +kernel
theorem dX9_lend_10 : decode cX9_lend 10 = .ok (.ifCond .eq 16, 3) := by decide +kernel
theorem dX9_lend_13 : decode cX9_lend 13 = .ok (.aload_n 0, 1) := by decide +kernel
theorem dX9_lend_14 : decode cX9_lend 14 = .ok (.iload_n 2, 1) := by decide +kernel
theorem dX9_lend_15 : decode cX9_lend 15 = .ok (.invokevirtual 219, 3) := by decide +kernel
theorem dX9_lend_18 : decode cX9_lend 18 = .ok (.ifCond .eq 8, 3) := by decide +kernel
theorem dX9_lend_21 : decode cX9_lend 21 = .ok (.iload_n 1, 1) := by decide +kernel
theorem dX9_lend_22 : decode cX9_lend 22 = .ok (.iload_n 2, 1) := by decide +kernel
theorem dX9_lend_23 : decode cX9_lend 23 = .ok (.if_icmp .ne 6, 3) := by decide +kernel
theorem dX9_lend_26 : decode cX9_lend 26 = .ok (.ldc 74, 2) := by decide +kernel
theorem dX9_lend_28 : decode cX9_lend 28 = .ok (.ireturn, 1) := by decide +kernel
theorem dX9_lend_29 : decode cX9_lend 29 = .ok (.aload_n 0, 1) := by decide +kernel
theorem dX9_lend_30 : decode cX9_lend 30 = .ok (.iload_n 1, 1) := by decide +kernel
theorem dX9_lend_31 : decode cX9_lend 31 = .ok (.invokevirtual 191, 3) := by decide +kernel
theorem dX9_lend_34 : decode cX9_lend 34 = .ok (.ifCond .eq 11, 3) := by decide +kernel
theorem dX9_lend_37 : decode cX9_lend 37 = .ok (.aload_n 0, 1) := by decide +kernel
theorem dX9_lend_38 : decode cX9_lend 38 = .ok (.iload_n 2, 1) := by decide +kernel
theorem dX9_lend_39 : decode cX9_lend 39 = .ok (.invokevirtual 191, 3) := by decide +kernel
theorem dX9_lend_42 : decode cX9_lend 42 = .ok (.ifCond .ne 6, 3) := by decide +kernel
theorem dX9_lend_45 : decode cX9_lend 45 = .ok (.ldc 90, 2) := by decide +kernel
theorem dX9_lend_47 : decode cX9_lend 47 = .ok (.ireturn, 1) := by decide +kernel
theorem dX9_lend_48 : decode cX9_lend 48 = .ok (.aload_n 0, 1) := by decide +kernel
theorem dX9_lend_49 : decode cX9_lend 49 = .ok (.iload_n 1, 1) := by decide +kernel
theorem dX9_lend_50 : decode cX9_lend 50 = .ok (.aload_n 0, 1) := by decide +kernel
theorem dX9_lend_51 : decode cX9_lend 51 = .ok (.iload_n 1, 1) := by decide +kernel
theorem dX9_lend_52 : decode cX9_lend 52 = .ok (.aload_n 0, 1) := by decide +kernel
theorem dX9_lend_53 : decode cX9_lend 53 = .ok (.iload_n 1, 1) := by decide +kernel
theorem dX9_lend_54 : decode cX9_lend 54 = .ok (.invokevirtual 191, 3) := by decide +kernel
theorem dX9_lend_57 : decode cX9_lend 57 = .ok (.iconst 1, 1) := by decide +kernel
theorem dX9_lend_58 : decode cX9_lend 58 = .ok (.isub, 1) := by decide +kernel
theorem dX9_lend_59 : decode cX9_lend 59 = .ok (.invokevirtual 194, 3) := by decide +kernel
theorem dX9_lend_62 : decode cX9_lend 62 = .ok (.invokevirtual 271, 3) := by decide +kernel
theorem dX9_lend_65 : decode cX9_lend 65 = .ok (.aload_n 0, 1) := by decide +kernel
theorem dX9_lend_66 : decode cX9_lend 66 = .ok (.iload_n 2, 1) := by decide +kernel
theorem dX9_lend_67 : decode cX9_lend 67 = .ok (.aload_n 0, 1) := by decide +kernel
theorem dX9_lend_68 : decode cX9_lend 68 = .ok (.iload_n 2, 1) := by decide +kernel
theorem dX9_lend_69 : decode cX9_lend 69 = .ok (.aload_n 0, 1) := by decide +kernel
theorem dX9_lend_70 : decode cX9_lend 70 = .ok (.iload_n 2, 1) := by decide +kernel
theorem dX9_lend_71 : decode cX9_lend 71 = .ok (.invokevirtual 191, 3) := by decide +kernel
theorem dX9_lend_74 : decode cX9_lend 74 = .ok (.iconst 1, 1) := by decide +kernel
theorem dX9_lend_75 : decode cX9_lend 75 = .ok (.isub, 1) := by decide +kernel
theorem dX9_lend_76 : decode cX9_lend 76 = .ok (.invokevirtual 194, 3) := by decide +kernel
theorem dX9_lend_79 : decode cX9_lend 79 = .ok (.invokevirtual 271, 3) := by decide +kernel
theorem dX9_lend_82 : decode cX9_lend 82 = .ok (.iadd, 1) := by decide +kernel
theorem dX9_lend_83 : decode cX9_lend 83 = .ok (.istore_n 3, 1) := by decide +kernel
theorem dX9_lend_84 : decode cX9_lend 84 = .ok (.iload_n 3, 1) := by decide +kernel
theorem dX9_lend_85 : decode cX9_lend 85 = .ok (.aload_n 0, 1) := by decide +kernel
theorem dX9_lend_86 : decode cX9_lend 86 = .ok (.iload_n 1, 1) := by decide +kernel
theorem dX9_lend_87 : decode cX9_lend 87 = .ok (.aload_n 0, 1) := by decide +kernel
theorem dX9_lend_88 : decode cX9_lend 88 = .ok (.iload_n 2, 1) := by decide +kernel
theorem dX9_lend_89 : decode cX9_lend 89 = .ok (.invokevirtual 274, 3) := by decide +kernel
theorem dX9_lend_92 : decode cX9_lend 92 = .ok (.invokevirtual 271, 3) := by decide +kernel
theorem dX9_lend_95 : decode cX9_lend 95 = .ok (.isub, 1) := by decide +kernel
theorem dX9_lend_96 : decode cX9_lend 96 = .ok (.aload_n 0, 1) := by decide +kernel
theorem dX9_lend_97 : decode cX9_lend 97 = .ok (.iload_n 2, 1) := by decide +kernel
theorem dX9_lend_98 : decode cX9_lend 98 = .ok (.aload_n 0, 1) := by decide +kernel
theorem dX9_lend_99 : decode cX9_lend 99 = .ok (.iload_n 1, 1) := by decide +kernel
theorem dX9_lend_100 : decode cX9_lend 100 = .ok (.invokevirtual 274, 3) := by decide +kernel
theorem dX9_lend_103 : decode cX9_lend 103 = .ok (.invokevirtual 271, 3) := by decide +kernel
theorem dX9_lend_106 : decode cX9_lend 106 = .ok (.isub, 1) := by decide +kernel
theorem dX9_lend_107 : decode cX9_lend 107 = .ok (.ireturn, 1) := by decide +kernel
theorem dX9_beach_0 : decode cX9_beach 0 = .ok (.aload_n 0, 1) := by decide +kernel
theorem dX9_beach_1 : decode cX9_beach 1 = .ok (.iconst 0, 1) := by decide +kernel
theorem dX9_beach_2 : decode cX9_beach 2 = .ok (.putfield 54, 3) := by decide +kernel
theorem dX9_beach_5 : decode cX9_beach 5 = .ok (.aload_n 0, 1) := by decide +kernel
theorem dX9_beach_6 : decode cX9_beach 6 = .ok (.getfield 184, 3) := by decide +kernel
theorem dX9_beach_9 : decode cX9_beach 9 = .ok (.ifCond .ne 6, 3) := by decide +kernel
theorem dX9_beach_12 : decode cX9_beach 12 = .ok (.ldc 206, 2) := by decide +kernel
theorem dX9_beach_14 : decode cX9_beach 14 = .ok (.ireturn, 1) := by decide +kernel
theorem dX9_beach_15 : decode cX9_beach 15 = .ok (.iload_n 1, 1) := by decide +kernel
theorem dX9_beach_16 : decode cX9_beach 16 = .ok (.invokestatic 68, 3) := by decide +kernel
theorem dX9_beach_19 : decode cX9_beach 19 = .ok (.ifCond .eq 28, 3) := by decide +kernel
theorem dX9_beach_22 : decode cX9_beach 22 = .ok (.iload_n 3, 1) := by decide +kernel
theorem dX9_beach_23 : decode cX9_beach 23 = .ok (.i2l, 1) := by decide +kernel
theorem dX9_beach_24 : decode cX9_beach 24 = .ok (.lconst 0, 1) := by decide +kernel
theorem dX9_beach_25 : decode cX9_beach 25 = .ok (.ldc2_w 277, 3) := by decide +kernel
theorem dX9_beach_28 : decode cX9_beach 28 = .ok (.invokestatic 64, 3) := by decide +kernel
theorem dX9_beach_31 : decode cX9_beach 31 = .ok (.ifCond .eq 16, 3) := by decide +kernel
theorem dX9_beach_34 : decode cX9_beach 34 = .ok (.iload 4, 2) := by decide +kernel
theorem dX9_beach_36 : decode cX9_beach 36 = .ok (.i2l, 1) := by decide +kernel
theorem dX9_beach_37 : decode cX9_beach 37 = .ok (.lconst 0, 1) := by decide +kernel
theorem dX9_beach_38 : decode cX9_beach 38 = .ok (.ldc2_w 247, 3) := by decide +kernel
theorem dX9_beach_41 : decode cX9_beach 41 = .ok (.invokestatic 64, 3) := by decide +kernel
theorem dX9_beach_44 : decode cX9_beach 44 = .ok (.ifCond .ne 6, 3) := by decide +kernel
theorem dX9_beach_47 : decode cX9_beach 47 = .ok (.ldc 74, 2) := by decide +kernel
theorem dX9_beach_49 : decode cX9_beach 49 = .ok (.ireturn, 1) := by decide +kernel
theorem dX9_beach_50 : decode cX9_beach 50 = .ok (.aload_n 0, 1) := by decide +kernel
theorem dX9_beach_51 : decode cX9_beach 51 = .ok (.getfield 7, 3) := by decide +kernel
theorem dX9_beach_54 : decode cX9_beach 54 = .ok (.iload_n 1, 1) := by decide +kernel
theorem dX9_beach_55 : decode cX9_beach 55 = .ok (.iaload, 1) := by decide +kernel
theorem dX9_beach_56 : decode cX9_beach 56 = .ok (.ifCond .ge 9, 3) := by decide +kernel
theorem dX9_beach_59 : decode cX9_beach 59 = .ok (.aload_n 0, 1) := by decide +kernel
theorem dX9_beach_60 : decode cX9_beach 60 = .ok (.iconst 1, 1) := by decide +kernel
theorem dX9_beach_61 : decode cX9_beach 61 = .ok (.invokevirtual 75, 3) := by decide +kernel
theorem dX9_beach_64 : decode cX9_beach 64 = .ok (.ireturn, 1) := by decide +kernel
theorem dX9_beach_65 : decode cX9_beach 65 = .ok (.iload_n 2, 1) := by decide +kernel
theorem dX9_beach_66 : decode cX9_beach 66 = .ok (.ifCond .lt 19, 3) := by decide +kernel
theorem dX9_beach_69 : decode cX9_beach 69 = .ok (.iload_n 2, 1) := by decide +kernel
theorem dX9_beach_70 : decode cX9_beach 70 = .ok (.i2l, 1) := by decide +kernel
theorem dX9_beach_71 : decode cX9_beach 71 = .ok (.iload_n 3, 1) := by decide +kernel
theorem dX9_beach_72 : decode cX9_beach 72 = .ok (.i2l, 1) := by decide +kernel
theorem dX9_beach_73 : decode cX9_beach 73 = .ok (.ladd, 1) := by decide +kernel
theorem dX9_beach_74 : decode cX9_beach 74 = .ok (.aload_n 0, 1) := by decide +kernel
theorem dX9_beach_75 : decode cX9_beach 75 = .ok (.getfield 13, 3) := by decide +kernel
theorem dX9_beach_78 : decode cX9_beach 78 = .ok (.iload_n 1, 1) := by decide +kernel
theorem dX9_beach_79 : decode cX9_beach 79 = .ok (.iaload, 1) := by decide +kernel
theorem dX9_beach_80 : decode cX9_beach 80 = .ok (.i2l, 1) := by decide +kernel
theorem dX9_beach_81 : decode cX9_beach 81 = .ok (.lcmp, 1) := by decide +kernel
theorem dX9_beach_82 : decode cX9_beach 82 = .ok (.ifCond .le 9, 3) := by decide +kernel
theorem dX9_beach_85 : decode cX9_beach 85 = .ok (.aload_n 0, 1) := by decide +kernel
theorem dX9_beach_86 : decode cX9_beach 86 = .ok (.iconst 2, 1) := by decide +kernel
theorem dX9_beach_87 : decode cX9_beach 87 = .ok (.invokevirtual 75, 3) := by decide +kernel
theorem dX9_beach_90 : decode cX9_beach 90 = .ok (.ireturn, 1) := by decide +kernel
theorem dX9_beach_91 : decode cX9_beach 91 = .ok (.iconst 0, 1) := by decide +kernel
theorem dX9_beach_92 : decode cX9_beach 92 = .ok (.istore 5, 2) := by decide +kernel
theorem dX9_beach_94 : decode cX9_beach 94 = .ok (.iload 5, 2) := by decide +kernel
theorem dX9_beach_96 : decode cX9_beach 96 = .ok (.iload_n 3, 1) := by decide +kernel
theorem dX9_beach_97 : decode cX9_beach 97 = .ok (.if_icmp .ge 33, 3) := by decide +kernel
theorem dX9_beach_100 : decode cX9_beach 100 = .ok (.aload_n 0, 1) := by decide +kernel
theorem dX9_beach_101 : decode cX9_beach 101 = .ok (.aload_n 0, 1) := by decide +kernel
theorem dX9_beach_102 : decode cX9_beach 102 = .ok (.getfield 16, 3) := by decide +kernel
theorem dX9_beach_105 : decode cX9_beach 105 = .ok (.bipush 40, 2) := by decide +kernel
theorem dX9_beach_107 : decode cX9_beach 107 = .ok (.iload_n 1, 1) := by decide +kernel
theorem dX9_beach_108 : decode cX9_beach 108 = .ok (.imul, 1) := by decide +kernel
theorem dX9_beach_109 : decode cX9_beach 109 = .ok (.iload_n 2, 1) := by decide +kernel
theorem dX9_beach_110 : decode cX9_beach 110 = .ok (.iadd, 1) := by decide +kernel
theorem dX9_beach_111 : decode cX9_beach 111 = .ok (.iload 5, 2) := by decide +kernel
theorem dX9_beach_113 : decode cX9_beach 113 = .ok (.iadd, 1) := by decide +kernel
theorem dX9_beach_114 : decode cX9_beach 114 = .ok (.iaload, 1) := by decide +kernel
theorem dX9_beach_115 : decode cX9_beach 115 = .ok (.invokevirtual 200, 3) := by decide +kernel
theorem dX9_beach_118 : decode cX9_beach 118 = .ok (.ifCond .ne 6, 3) := by decide +kernel
theorem dX9_beach_121 : decode cX9_beach 121 = .ok (.ldc 74, 2) := by decide +kernel
theorem dX9_beach_123 : decode cX9_beach 123 = .ok (.ireturn, 1) := by decide +kernel
theorem dX9_beach_124 : decode cX9_beach 124 = .ok (.iinc 5 1, 3) := by decide +kernel
theorem dX9_beach_127 : decode cX9_beach 127 = .ok (.goto (-33), 3) := by decide +kernel
theorem dX9_beach_130 : decode cX9_beach 130 = .ok (.aload_n 0, 1) := by decide +kernel
theorem dX9_beach_131 : decode cX9_beach 131 = .ok (.iconst 0, 1) := by decide +kernel
theorem dX9_beach_132 : decode cX9_beach 132 = .ok (.putfield 58, 3) := by decide +kernel
theorem dX9_beach_135 : decode cX9_beach 135 = .ok (.aload_n 0, 1) := by decide +kernel
theorem dX9_beach_136 : decode cX9_beach 136 = .ok (.invokevirtual 236, 3) := by decide +kernel
theorem dX9_beach_139 : decode cX9_beach 139 = .ok (.iconst 0, 1) := by decide +kernel
theorem dX9_beach_140 : decode cX9_beach 140 = .ok (.istore 5, 2) := by decide +kernel
theorem dX9_beach_142 : decode cX9_beach 142 = .ok (.iconst 0, 1) := by decide +kernel
theorem dX9_beach_143 : decode cX9_beach 143 = .ok (.istore 6, 2) := by decide +kernel
theorem dX9_beach_145 : decode cX9_beach 145 = .ok (.iload 6, 2) := by decide +kernel
theorem dX9_beach_147 : decode cX9_beach 147 = .ok (.iload 4, 2) := by decide +kernel
theorem dX9_beach_149 : decode cX9_beach 149 = .ok (.if_icmp .ge 80, 3) := by decide +kernel
theorem dX9_beach_152 : decode cX9_beach 152 = .ok (.aload_n 0, 1) := by decide +kernel
theorem dX9_beach_153 : decode cX9_beach 153 = .ok (.invokevirtual 239, 3) := by decide +kernel
theorem dX9_beach_156 : decode cX9_beach 156 = .ok (.istore 7, 2) := by decide +kernel
theorem dX9_beach_158 : decode cX9_beach 158 = .ok (.iload 5, 2) := by decide +kernel
theorem dX9_beach_160 : decode cX9_beach 160 = .ok (.iload_n 3, 1) := by decide +kernel
theorem dX9_beach_161 : decode cX9_beach 161 = .ok (.if_icmp .ge 55, 3) := by decide +kernel
theorem dX9_beach_164 : decode cX9_beach 164 = .ok (.iload 7, 2) := by decide +kernel
theorem dX9_beach_166 : decode cX9_beach 166 = .ok (.aload_n 0, 1) := by decide +kernel
theorem dX9_beach_167 : decode cX9_beach 167 = .ok (.getfield 16, 3) := by decide +kernel
theorem dX9_beach_170 : decode cX9_beach 170 = .ok (.bipush 40, 2) := by decide +kernel
theorem dX9_beach_172 : decode cX9_beach 172 = .ok (.iload_n 1, 1) := by decide +kernel
theorem dX9_beach_173 : decode cX9_beach 173 = .ok (.imul, 1) := by decide +kernel
theorem dX9_beach_174 : decode cX9_beach 174 = .ok (.iload_n 2, 1) := by decide +kernel
theorem dX9_beach_175 : decode cX9_beach 175 = .ok (.iadd, 1) := by decide +kernel
theorem dX9_beach_176 : decode cX9_beach 176 = .ok (.iload 5, 2) := by decide +kernel
theorem dX9_beach_178 : decode cX9_beach 178 = .ok (.iadd, 1) := by decide +kernel
theorem dX9_beach_179 : decode cX9_beach 179 = .ok (.iaload, 1) := by decide +kernel
theorem dX9_beach_180 : decode cX9_beach 180 = .ok (.ishr, 1) := by decide +kernel
theorem dX9_beach_181 : decode cX9_beach 181 = .ok (.iconst 1, 1) := by decide +kernel
theorem dX9_beach_182 : decode cX9_beach 182 = .ok (.iand, 1) := by decide +kernel
theorem dX9_beach_183 : decode cX9_beach 183 = .ok (.iconst 1, 1) := by decide +kernel
theorem dX9_beach_184 : decode cX9_beach 184 = .ok (.if_icmp .ne 32, 3) := by decide +kernel
theorem dX9_beach_187 : decode cX9_beach 187 = .ok (.iload 7, 2) := by decide +kernel
theorem dX9_beach_189 : decode cX9_beach 189 = .ok (.iconst 1, 1) := by decide +kernel
theorem dX9_beach_190 : decode cX9_beach 190 = .ok (.aload_n 0, 1) := by decide +kernel
theorem dX9_beach_191 : decode cX9_beach 191 = .ok (.getfield 16, 3) := by decide +kernel
theorem dX9_beach_194 : decode cX9_beach 194 = .ok (.bipush 40, 2) := by decide +kernel
theorem dX9_beach_196 : decode cX9_beach 196 = .ok (.iload_n 1, 1) := by decide +kernel
theorem dX9_beach_197 : decode cX9_beach 197 = .ok (.imul, 1) := by decide +kernel
theorem dX9_beach_198 : decode cX9_beach 198 = .ok (.iload_n 2, 1) := by decide +kernel
theorem dX9_beach_199 : decode cX9_beach 199 = .ok (.iadd, 1) := by decide +kernel
theorem dX9_beach_200 : decode cX9_beach 200 = .ok (.iload 5, 2) := by decide +kernel
theorem dX9_beach_202 : decode cX9_beach 202 = .ok (.iadd, 1) := by decide +kernel
theorem dX9_beach_203 : decode cX9_beach 203 = .ok (.iaload, 1) := by decide +kernel
theorem dX9_beach_204 : decode cX9_beach 204 = .ok (.ishl, 1) := by decide +kernel
theorem dX9_beach_205 : decode cX9_beach 205 = .ok (.iconst (-1), 1) := by decide +kernel
theorem dX9_beach_206 : decode cX9_beach 206 = .ok (.ixor, 1) := by decide +kernel
theorem dX9_beach_207 : decode cX9_beach 207 = .ok (.iand, 1) := by decide +kernel
theorem dX9_beach_208 : decode cX9_beach 208 = .ok (.istore 7, 2) := by decide +kernel
theorem dX9_beach_210 : decode cX9_beach 210 = .ok (.iinc 5 1, 3) := by decide +kernel
theorem dX9_beach_213 : decode cX9_beach 213 = .ok (.goto (-55), 3) := by decide +kernel
theorem dX9_beach_216 : decode cX9_beach 216 = .ok (.iload 7, 2) := by decide +kernel
theorem dX9_beach_218 : decode cX9_beach 218 = .ok (.ifCond .eq 5, 3) := by decide +kernel
theorem dX9_beach_221 : decode cX9_beach 221 = .ok (.iconst 0, 1) := by decide +kernel
theorem dX9_beach_222 : decode cX9_beach 222 = .ok (.ireturn, 1) := by decide +kernel
theorem dX9_beach_223 : decode cX9_beach 223 = .ok (.iinc 6 1, 3) := by decide +kernel
theorem dX9_beach_226 : decode cX9_beach 226 = .ok (.goto (-81), 3) := by decide +kernel
theorem dX9_beach_229 : decode cX9_beach 229 = .ok (.iload 5, 2) := by decide +kernel
theorem dX9_beach_231 : decode cX9_beach 231 = .ok (.iload_n 3, 1) := by decide +kernel
theorem dX9_beach_232 : decode cX9_beach 232 = .ok (.if_icmp .ne 7, 3) := by decide +kernel
theorem dX9_beach_235 : decode cX9_beach 235 = .ok (.iconst 1, 1) := by decide +kernel
theorem dX9_beach_236 : decode cX9_beach 236 = .ok (.goto 4, 3) := by decide +kernel
theorem dX9_beach_239 : decode cX9_beach 239 = .ok (.iconst 0, 1) := by decide +kernel
theorem dX9_beach_240 : decode cX9_beach 240 = .ok (.ireturn, 1) := by decide +kernel
theorem dX9_window_0 : decode cX9_window 0 = .ok (.aload_n 0, 1) := by decide +kernel
theorem dX9_window_1 : decode cX9_window 1 = .ok (.iconst 0, 1) := by decide +kernel
theorem dX9_window_2 : decode cX9_window 2 = .ok (.putfield 54, 3) := by decide +kernel
theorem dX9_window_5 : decode cX9_window 5 = .ok (.aload_n 0, 1) := by decide +kernel
theorem dX9_window_6 : decode cX9_window 6 = .ok (.getfield 184, 3) := by decide +kernel
theorem dX9_window_9 : decode cX9_window 9 = .ok (.ifCond .ne 6, 3) := by decide +kernel
theorem dX9_window_12 : decode cX9_window 12 = .ok (.ldc 206, 2) := by decide +kernel
theorem dX9_window_14 : decode cX9_window 14 = .ok (.ireturn, 1) := by decide +kernel
theorem dX9_window_15 : decode cX9_window 15 = .ok (.iconst 0, 1) := by decide +kernel
theorem dX9_window_16 : decode cX9_window 16 = .ok (.istore_n 1, 1) := by decide +kernel
theorem dX9_window_17 : decode cX9_window 17 = .ok (.iconst 0, 1) := by decide +kernel
theorem dX9_window_18 : decode cX9_window 18 = .ok (.istore_n 2, 1) := by decide +kernel
theorem dX9_window_19 : decode cX9_window 19 = .ok (.iload_n 2, 1) := by decide +kernel
theorem dX9_window_20 : decode cX9_window 20 = .ok (.aload_n 0, 1) := by decide +kernel
theorem dX9_window_21 : decode cX9_window 21 = .ok (.getfield 19, 3) := by decide +kernel
theorem dX9_window_24 : decode cX9_window 24 = .ok (.iconst 0, 1) := by decide +kernel
theorem dX9_window_25 : decode cX9_window 25 = .ok (.iaload, 1) := by decide +kernel
theorem dX9_window_26 : decode cX9_window 26 = .ok (.if_icmp .ge 79, 3) := by decide +kernel
theorem dX9_window_29 : decode cX9_window 29 = .ok (.aload_n 0, 1) := by decide +kernel
theorem dX9_window_30 : decode cX9_window 30 = .ok (.iload_n 2, 1) := by decide +kernel
theorem dX9_window_31 : decode cX9_window 31 = .ok (.invokevirtual 191, 3) := by decide +kernel
theorem dX9_window_34 : decode cX9_window 34 = .ok (.istore_n 3, 1) := by decide +kernel
theorem dX9_window_35 : decode cX9_window 35 = .ok (.iload_n 1, 1) := by decide +kernel
theorem dX9_window_36 : decode cX9_window 36 = .ok (.iload_n 3, 1) := by decide +kernel
theorem dX9_window_37 : decode cX9_window 37 = .ok (.ifCond .le 19, 3) := by decide +kernel
theorem dX9_window_40 : decode cX9_window 40 = .ok (.aload_n 0, 1) := by decide +kernel
theorem dX9_window_41 : decode cX9_window 41 = .ok (.iload_n 2, 1) := by decide +kernel
theorem dX9_window_42 : decode cX9_window 42 = .ok (.aload_n 0, 1) := by decide +kernel
theorem dX9_window_43 : decode cX9_window 43 = .ok (.iload_n 2, 1) := by decide +kernel
theorem dX9_window_44 : decode cX9_window 44 = .ok (.iload_n 3, 1) := by decide +kernel
theorem dX9_window_45 : decode cX9_window 45 = .ok (.iconst 1, 1) := by decide +kernel
theorem dX9_window_46 : decode cX9_window 46 = .ok (.isub, 1) := by decide +kernel
theorem dX9_window_47 : decode cX9_window 47 = .ok (.invokevirtual 194, 3) := by decide +kernel
theorem dX9_window_50 : decode cX9_window 50 = .ok (.invokevirtual 271, 3) := by decide +kernel
theorem dX9_window_53 : decode cX9_window 53 = .ok (.goto 4, 3) := by decide +kernel
theorem dX9_window_56 : decode cX9_window 56 = .ok (.iconst 0, 1) := by decide +kernel
theorem dX9_window_57 : decode cX9_window 57 = .ok (.iadd, 1) := by decide +kernel
theorem dX9_window_58 : decode cX9_window 58 = .ok (.istore_n 1, 1) := by decide +kernel
theorem dX9_window_59 : decode cX9_window 59 = .ok (.iload_n 3, 1) := by decide +kernel
theorem dX9_window_60 : decode cX9_window 60 = .ok (.iconst 2, 1) := by decide +kernel
theorem dX9_window_61 : decode cX9_window 61 = .ok (.if_icmp .le 38, 3) := by decide +kernel
theorem dX9_window_64 : decode cX9_window 64 = .ok (.iload_n 3, 1) := by decide +kernel
theorem dX9_window_65 : decode cX9_window 65 = .ok (.aload_n 0, 1) := by decide +kernel
theorem dX9_window_66 : decode cX9_window 66 = .ok (.getfield 19, 3) := by decide +kernel
theorem dX9_window_69 : decode cX9_window 69 = .ok (.bipush 15, 2) := by decide +kernel
theorem dX9_window_71 : decode cX9_window 71 = .ok (.iconst 2, 1) := by decide +kernel
theorem dX9_window_72 : decode cX9_window 72 = .ok (.iload_n 2, 1) := by decide +kernel
theorem dX9_window_73 : decode cX9_window 73 = .ok (.imul, 1) := by decide +kernel
theorem dX9_window_74 : decode cX9_window 74 = .ok (.iadd, 1) := by decide +kernel
theorem dX9_window_75 : decode cX9_window 75 = .ok (.iconst 1, 1) := by decide +kernel
theorem dX9_window_76 : decode cX9_window 76 = .ok (.iadd, 1) := by decide +kernel
theorem dX9_window_77 : decode cX9_window 77 = .ok (.iaload, 1) := by decide +kernel
theorem dX9_window_78 : decode cX9_window 78 = .ok (.iconst 2, 1) := by decide +kernel
theorem dX9_window_79 : decode cX9_window 79 = .ok (.iadd, 1) := by decide +kernel
theorem dX9_window_80 : decode cX9_window 80 = .ok (.if_icmp .le 19, 3) := by decide +kernel
theorem dX9_window_83 : decode cX9_window 83 = .ok (.iload_n 1, 1) := by decide +kernel
theorem dX9_window_84 : decode cX9_window 84 = .ok (.aload_n 0, 1) := by decide +kernel
theorem dX9_window_85 : decode cX9_window 85 = .ok (.iload_n 2, 1) := by decide +kernel
theorem dX9_window_86 : decode cX9_window 86 = .ok (.aload_n 0, 1) := by decide +kernel
theorem dX9_window_87 : decode cX9_window 87 = .ok (.iload_n 2, 1) := by decide +kernel
theorem dX9_window_88 : decode cX9_window 88 = .ok (.iload_n 3, 1) := by decide +kernel
theorem dX9_window_89 : decode cX9_window 89 = .ok (.iconst 3, 1) := by decide +kernel
theorem dX9_window_90 : decode cX9_window 90 = .ok (.isub, 1) := by decide +kernel
theorem dX9_window_91 : decode cX9_window 91 = .ok (.invokevirtual 194, 3) := by decide +kernel
theorem dX9_window_94 : decode cX9_window 94 = .ok (.invokevirtual 271, 3) := by decide +kernel
theorem dX9_window_97 : decode cX9_window 97 = .ok (.iadd, 1) := by decide +kernel
theorem dX9_window_98 : decode cX9_window 98 = .ok (.istore_n 1, 1) := by decide +kernel
theorem dX9_window_99 : decode cX9_window 99 = .ok (.iinc 2 1, 3) := by decide +kernel
theorem dX9_window_102 : decode cX9_window 102 = .ok (.goto (-83), 3) := by decide +kernel
theorem dX9_window_105 : decode cX9_window 105 = .ok (.iload_n 1, 1) := by decide +kernel
theorem dX9_window_106 : decode cX9_window 106 = .ok (.ireturn, 1) := by decide +kernel
theorem dX9_missed_0 : decode cX9_missed 0 = .ok (.aload_n 0, 1) := by decide +kernel
theorem dX9_missed_1 : decode cX9_missed 1 = .ok (.iconst 0, 1) := by decide +kernel
theorem dX9_missed_2 : decode cX9_missed 2 = .ok (.putfield 54, 3) := by decide +kernel
theorem dX9_missed_5 : decode cX9_missed 5 = .ok (.aload_n 0, 1) := by decide +kernel
theorem dX9_missed_6 : decode cX9_missed 6 = .ok (.getfield 184, 3) := by decide +kernel
theorem dX9_missed_9 : decode cX9_missed 9 = .ok (.ifCond .ne 6, 3) := by decide +kernel
theorem dX9_missed_12 : decode cX9_missed 12 = .ok (.ldc 206, 2) := by decide +kernel
theorem dX9_missed_14 : decode cX9_missed 14 = .ok (.ireturn, 1) := by decide +kernel
theorem dX9_missed_15 : decode cX9_missed 15 = .ok (.iload_n 1, 1) := by decide +kernel
theorem dX9_missed_16 : decode cX9_missed 16 = .ok (.i2l, 1) := by decide +kernel
theorem dX9_missed_17 : decode cX9_missed 17 = .ok (.lconst 0, 1) := by decide +kernel
theorem dX9_missed_18 : decode cX9_missed 18 = .ok (.lconst 1, 1) := by decide +kernel
theorem dX9_missed_19 : decode cX9_missed 19 = .ok (.invokestatic 64, 3) := by decide +kernel
theorem dX9_missed_22 : decode cX9_missed 22 = .ok (.ifCond .ne 6, 3) := by decide +kernel
theorem dX9_missed_25 : decode cX9_missed 25 = .ok (.ldc 74, 2) := by decide +kernel
theorem dX9_missed_27 : decode cX9_missed 27 = .ok (.ireturn, 1) := by decide +kernel
theorem dX9_missed_28 : decode cX9_missed 28 = .ok (.iconst 0, 1) := by decide +kernel
theorem dX9_missed_29 : decode cX9_missed 29 = .ok (.istore_n 2, 1) := by decide +kernel
theorem dX9_missed_30 : decode cX9_missed 30 = .ok (.iconst 0, 1) := by decide +kernel
theorem dX9_missed_31 : decode cX9_missed 31 = .ok (.istore_n 3, 1) := by decide +kernel
theorem dX9_missed_32 : decode cX9_missed 32 = .ok (.iconst 0, 1) := by decide +kernel
theorem dX9_missed_33 : decode cX9_missed 33 = .ok (.istore 4, 2) := by decide +kernel
theorem dX9_missed_35 : decode cX9_missed 35 = .ok (.iload 4, 2) := by decide +kernel
theorem dX9_missed_37 : decode cX9_missed 37 = .ok (.aload_n 0, 1) := by decide +kernel
theorem dX9_missed_38 : decode cX9_missed 38 = .ok (.getfield 19, 3) := by decide +kernel
theorem dX9_missed_41 : decode cX9_missed 41 = .ok (.iconst 1, 1) := by decide +kernel
theorem dX9_missed_42 : decode cX9_missed 42 = .ok (.iaload, 1) := by decide +kernel
theorem dX9_missed_43 : decode cX9_missed 43 = .ok (.if_icmp .ge 54, 3) := by decide +kernel
theorem dX9_missed_46 : decode cX9_missed 46 = .ok (.iload_n 2, 1) := by decide +kernel
theorem dX9_missed_47 : decode cX9_missed 47 = .ok (.aload_n 0, 1) := by decide +kernel
theorem dX9_missed_48 : decode cX9_missed 48 = .ok (.iload 4, 2) := by decide +kernel
theorem dX9_missed_50 : decode cX9_missed 50 = .ok (.invokevirtual 244, 3) := by decide +kernel
theorem dX9_missed_53 : decode cX9_missed 53 = .ok (.ifCond .eq 10, 3) := by decide +kernel
theorem dX9_missed_56 : decode cX9_missed 56 = .ok (.iconst 1, 1) := by decide +kernel
theorem dX9_missed_57 : decode cX9_missed 57 = .ok (.iload 4, 2) := by decide +kernel
theorem dX9_missed_59 : decode cX9_missed 59 = .ok (.ishl, 1) := by decide +kernel
theorem dX9_missed_60 : decode cX9_missed 60 = .ok (.goto 4, 3) := by decide +kernel
theorem dX9_missed_63 : decode cX9_missed 63 = .ok (.iconst 0, 1) := by decide +kernel
theorem dX9_missed_64 : decode cX9_missed 64 = .ok (.ior, 1) := by decide +kernel
theorem dX9_missed_65 : decode cX9_missed 65 = .ok (.istore_n 2, 1) := by decide +kernel
theorem dX9_missed_66 : decode cX9_missed 66 = .ok (.iload_n 3, 1) := by decide +kernel
theorem dX9_missed_67 : decode cX9_missed 67 = .ok (.aload_n 0, 1) := by decide +kernel
theorem dX9_missed_68 : decode cX9_missed 68 = .ok (.iload 4, 2) := by decide +kernel
theorem dX9_missed_70 : decode cX9_missed 70 = .ok (.invokevirtual 203, 3) := by decide +kernel
theorem dX9_missed_73 : decode cX9_missed 73 = .ok (.ldc 90, 2) := by decide +kernel
theorem dX9_missed_75 : decode cX9_missed 75 = .ok (.if_icmp .ne 13, 3) := by decide +kernel
theorem dX9_missed_78 : decode cX9_missed 78 = .ok (.aload_n 0, 1) := by decide +kernel
theorem dX9_missed_79 : decode cX9_missed 79 = .ok (.iload 4, 2) := by decide +kernel
theorem dX9_missed_81 : decode cX9_missed 81 = .ok (.iconst 1, 1) := by decide +kernel
theorem dX9_missed_82 : decode cX9_missed 82 = .ok (.invokevirtual 216, 3) := by decide +kernel
theorem dX9_missed_85 : decode cX9_missed 85 = .ok (.goto 4, 3) := by decide +kernel
theorem dX9_missed_88 : decode cX9_missed 88 = .ok (.iconst 0, 1) := by decide +kernel
theorem dX9_missed_89 : decode cX9_missed 89 = .ok (.iadd, 1) := by decide +kernel
theorem dX9_missed_90 : decode cX9_missed 90 = .ok (.istore_n 3, 1) := by decide +kernel
theorem dX9_missed_91 : decode cX9_missed 91 = .ok (.iinc 4 1, 3) := by decide +kernel
theorem dX9_missed_94 : decode cX9_missed 94 = .ok (.goto (-59), 3) := by decide +kernel
theorem dX9_missed_97 : decode cX9_missed 97 = .ok (.iload_n 1, 1) := by decide +kernel
theorem dX9_missed_98 : decode cX9_missed 98 = .ok (.ifCond .ne 7, 3) := by decide +kernel
theorem dX9_missed_101 : decode cX9_missed 101 = .ok (.iload_n 2, 1) := by decide +kernel
theorem dX9_missed_102 : decode cX9_missed 102 = .ok (.goto 4, 3) := by decide +kernel
theorem dX9_missed_105 : decode cX9_missed 105 = .ok (.iload_n 3, 1) := by decide +kernel
theorem dX9_missed_106 : decode cX9_missed 106 = .ok (.ireturn, 1) := by decide +kernel
theorem dX9_image_0 : decode cX9_image 0 = .ok (.aload_n 0, 1) := by decide +kernel
theorem dX9_image_1 : decode cX9_image 1 = .ok (.iconst 0, 1) := by decide +kernel
theorem dX9_image_2 : decode cX9_image 2 = .ok (.putfield 54, 3) := by decide +kernel
theorem dX9_image_5 : decode cX9_image 5 = .ok (.iload_n 1, 1) := by decide +kernel
theorem dX9_image_6 : decode cX9_image 6 = .ok (.i2l, 1) := by decide +kernel
theorem dX9_image_7 : decode cX9_image 7 = .ok (.lconst 0, 1) := by decide +kernel
theorem dX9_image_8 : decode cX9_image 8 = .ok (.lconst 1, 1) := by decide +kernel
theorem dX9_image_9 : decode cX9_image 9 = .ok (.invokestatic 64, 3) := by decide +kernel
theorem dX9_image_12 : decode cX9_image 12 = .ok (.ifCond .ne 6, 3) := by decide +kernel
theorem dX9_image_15 : decode cX9_image 15 = .ok (.ldc 74, 2) := by decide +kernel
theorem dX9_image_17 : decode cX9_image 17 = .ok (.ireturn, 1) := by decide +kernel
theorem dX9_image_18 : decode cX9_image 18 = .ok (.aload_n 0, 1) := by decide +kernel
theorem dX9_image_19 : decode cX9_image 19 = .ok (.getfield 184, 3) := by decide +kernel
theorem dX9_image_22 : decode cX9_image 22 = .ok (.ifCond .ne 6, 3) := by decide +kernel
theorem dX9_image_25 : decode cX9_image 25 = .ok (.ldc 206, 2) := by decide +kernel
theorem dX9_image_27 : decode cX9_image 27 = .ok (.ireturn, 1) := by decide +kernel
theorem dX9_image_28 : decode cX9_image 28 = .ok (.iconst 0, 1) := by decide +kernel
theorem dX9_image_29 : decode cX9_image 29 = .ok (.istore_n 2, 1) := by decide +kernel
theorem dX9_image_30 : decode cX9_image 30 = .ok (.iload_n 2, 1) := by decide +kernel
theorem dX9_image_31 : decode cX9_image 31 = .ok (.bipush 127, 2) := by decide +kernel
theorem dX9_image_33 : decode cX9_image 33 = .ok (.if_icmp .ge 26, 3) := by decide +kernel
theorem dX9_image_36 : decode cX9_image 36 = .ok (.aload_n 0, 1) := by decide +kernel
theorem dX9_image_37 : decode cX9_image 37 = .ok (.getfield 48, 3) := by decide +kernel
theorem dX9_image_40 : decode cX9_image 40 = .ok (.bipush 127, 2) := by decide +kernel
theorem dX9_image_42 : decode cX9_image 42 = .ok (.iload_n 1, 1) := by decide +kernel
theorem dX9_image_43 : decode cX9_image 43 = .ok (.imul, 1) := by decide +kernel
theorem dX9_image_44 : decode cX9_image 44 = .ok (.iload_n 2, 1) := by decide +kernel
theorem dX9_image_45 : decode cX9_image 45 = .ok (.iadd, 1) := by decide +kernel
theorem dX9_image_46 : decode cX9_image 46 = .ok (.aload_n 0, 1) := by decide +kernel
theorem dX9_image_47 : decode cX9_image 47 = .ok (.getfield 19, 3) := by decide +kernel
theorem dX9_image_50 : decode cX9_image 50 = .ok (.iload_n 2, 1) := by decide +kernel
theorem dX9_image_51 : decode cX9_image 51 = .ok (.iaload, 1) := by decide +kernel
theorem dX9_image_52 : decode cX9_image 52 = .ok (.iastore, 1) := by decide +kernel
theorem dX9_image_53 : decode cX9_image 53 = .ok (.iinc 2 1, 3) := by decide +kernel
theorem dX9_image_56 : decode cX9_image 56 = .ok (.goto (-26), 3) := by decide +kernel
theorem dX9_image_59 : decode cX9_image 59 = .ok (.aload_n 0, 1) := by decide +kernel
theorem dX9_image_60 : decode cX9_image 60 = .ok (.getfield 44, 3) := by decide +kernel
theorem dX9_image_63 : decode cX9_image 63 = .ok (.iload_n 1, 1) := by decide +kernel
theorem dX9_image_64 : decode cX9_image 64 = .ok (.iconst 1, 1) := by decide +kernel
theorem dX9_image_65 : decode cX9_image 65 = .ok (.bastore, 1) := by decide +kernel
theorem dX9_image_66 : decode cX9_image 66 = .ok (.iconst 1, 1) := by decide +kernel
theorem dX9_image_67 : decode cX9_image 67 = .ok (.ireturn, 1) := by decide +kernel
theorem dX9_restore_0 : decode cX9_restore 0 = .ok (.aload_n 0, 1) := by decide +kernel
theorem dX9_restore_1 : decode cX9_restore 1 = .ok (.iconst 0, 1) := by decide +kernel
theorem dX9_restore_2 : decode cX9_restore 2 = .ok (.putfield 54, 3) := by decide +kernel
theorem dX9_restore_5 : decode cX9_restore 5 = .ok (.iload_n 1, 1) := by decide +kernel
theorem dX9_restore_6 : decode cX9_restore 6 = .ok (.i2l, 1) := by decide +kernel
theorem dX9_restore_7 : decode cX9_restore 7 = .ok (.lconst 0, 1) := by decide +kernel
theorem dX9_restore_8 : decode cX9_restore 8 = .ok (.lconst 1, 1) := by decide +kernel
theorem dX9_restore_9 : decode cX9_restore 9 = .ok (.invokestatic 64, 3) := by decide +kernel
theorem dX9_restore_12 : decode cX9_restore 12 = .ok (.ifCond .ne 6, 3) := by decide +kernel
theorem dX9_restore_15 : decode cX9_restore 15 = .ok (.ldc 74, 2) := by decide +kernel
theorem dX9_restore_17 : decode cX9_restore 17 = .ok (.ireturn, 1) := by decide +kernel
theorem dX9_restore_18 : decode cX9_restore 18 = .ok (.aload_n 0, 1) := by decide +kernel
theorem dX9_restore_19 : decode cX9_restore 19 = .ok (.getfield 44, 3) := by decide +kernel
theorem dX9_restore_22 : decode cX9_restore 22 = .ok (.iload_n 1, 1) := by decide +kernel
theorem dX9_restore_23 : decode cX9_restore 23 = .ok (.baload, 1) := by decide +kernel
theorem dX9_restore_24 : decode cX9_restore 24 = .ok (.ifCond .ne 6, 3) := by decide +kernel
theorem dX9_restore_27 : decode cX9_restore 27 = .ok (.ldc 206, 2) := by decide +kernel
theorem dX9_restore_29 : decode cX9_restore 29 = .ok (.ireturn, 1) := by decide +kernel
theorem dX9_restore_30 : decode cX9_restore 30 = .ok (.iconst 0, 1) := by decide +kernel
theorem dX9_restore_31 : decode cX9_restore 31 = .ok (.istore_n 2, 1) := by decide +kernel
theorem dX9_restore_32 : decode cX9_restore 32 = .ok (.iload_n 2, 1) := by decide +kernel
theorem dX9_restore_33 : decode cX9_restore 33 = .ok (.bipush 127, 2) := by decide +kernel
theorem dX9_restore_35 : decode cX9_restore 35 = .ok (.if_icmp .ge 26, 3) := by decide +kernel
theorem dX9_restore_38 : decode cX9_restore 38 = .ok (.aload_n 0, 1) := by decide +kernel
theorem dX9_restore_39 : decode cX9_restore 39 = .ok (.getfield 19, 3) := by decide +kernel
theorem dX9_restore_42 : decode cX9_restore 42 = .ok (.iload_n 2, 1) := by decide +kernel
theorem dX9_restore_43 : decode cX9_restore 43 = .ok (.aload_n 0, 1) := by decide +kernel
theorem dX9_restore_44 : decode cX9_restore 44 = .ok (.getfield 48, 3) := by decide +kernel
theorem dX9_restore_47 : decode cX9_restore 47 = .ok (.bipush 127, 2) := by decide +kernel
theorem dX9_restore_49 : decode cX9_restore 49 = .ok (.iload_n 1, 1) := by decide +kernel
theorem dX9_restore_50 : decode cX9_restore 50 = .ok (.imul, 1) := by decide +kernel
theorem dX9_restore_51 : decode cX9_restore 51 = .ok (.iload_n 2, 1) := by decide +kernel
theorem dX9_restore_52 : decode cX9_restore 52 = .ok (.iadd, 1) := by decide +kernel
theorem dX9_restore_53 : decode cX9_restore 53 = .ok (.iaload, 1) := by decide +kernel
theorem dX9_restore_54 : decode cX9_restore 54 = .ok (.iastore, 1) := by decide +kernel
theorem dX9_restore_55 : decode cX9_restore 55 = .ok (.iinc 2 1, 3) := by decide +kernel
theorem dX9_restore_58 : decode cX9_restore 58 = .ok (.goto (-26), 3) := by decide +kernel
theorem dX9_restore_61 : decode cX9_restore 61 = .ok (.aload_n 0, 1) := by decide +kernel
theorem dX9_restore_62 : decode cX9_restore 62 = .ok (.iconst 0, 1) := by decide +kernel
theorem dX9_restore_63 : decode cX9_restore 63 = .ok (.putfield 188, 3) := by decide +kernel
theorem dX9_restore_66 : decode cX9_restore 66 = .ok (.iconst 1, 1) := by decide +kernel
theorem dX9_restore_67 : decode cX9_restore 67 = .ok (.ireturn, 1) := by decide +kernel
theorem dX9_isOf_0 : decode cX9_isOf 0 = .ok (.iload_n 1, 1) := by decide +kernel
theorem dX9_isOf_1 : decode cX9_isOf 1 = .ok (.ifCond .eq 28, 3) := by decide +kernel
theorem dX9_isOf_4 : decode cX9_isOf 4 = .ok (.iload_n 0, 1) := by decide +kernel
theorem dX9_isOf_5 : decode cX9_isOf 5 = .ok (.iload_n 1, 1) := by decide +kernel
theorem dX9_isOf_6 : decode cX9_isOf 6 = .ok (.if_icmp .eq 23, 3) := by decide +kernel
theorem dX9_isOf_9 : decode cX9_isOf 9 = .ok (.iload_n 1, 1) := by decide +kernel
theorem dX9_isOf_10 : decode cX9_isOf 10 = .ok (.iconst 1, 1) := by decide +kernel
theorem dX9_isOf_11 : decode cX9_isOf 11 = .ok (.if_icmp .ne 8, 3) := by decide +kernel
theorem dX9_isOf_14 : decode cX9_isOf 14 = .ok (.iload_n 0, 1) := by decide +kernel
theorem dX9_isOf_15 : decode cX9_isOf 15 = .ok (.iconst 5, 1) := by decide +kernel
theorem dX9_isOf_16 : decode cX9_isOf 16 = .ok (.if_icmp .lt 13, 3) := by decide +kernel
theorem dX9_isOf_19 : decode cX9_isOf 19 = .ok (.iload_n 1, 1) := by decide +kernel
theorem dX9_isOf_20 : decode cX9_isOf 20 = .ok (.iconst 2, 1) := by decide +kernel
theorem dX9_isOf_21 : decode cX9_isOf 21 = .ok (.if_icmp .ne 12, 3) := by decide +kernel
theorem dX9_isOf_24 : decode cX9_isOf 24 = .ok (.iload_n 0, 1) := by decide +kernel
theorem dX9_isOf_25 : decode cX9_isOf 25 = .ok (.iconst 3, 1) := by decide +kernel
theorem dX9_isOf_26 : decode cX9_isOf 26 = .ok (.if_icmp .ne 7, 3) := by decide +kernel
theorem dX9_isOf_29 : decode cX9_isOf 29 = .ok (.iconst 1, 1) := by decide +kernel
theorem dX9_isOf_30 : decode cX9_isOf 30 = .ok (.goto 4, 3) := by decide +kernel
theorem dX9_isOf_33 : decode cX9_isOf 33 = .ok (.iconst 0, 1) := by decide +kernel
theorem dX9_isOf_34 : decode cX9_isOf 34 = .ok (.ireturn, 1) := by decide +kernel
theorem dX9_kind_0 : decode cX9_kind 0 = .ok (.aload_n 0, 1) := by decide +kernel
theorem dX9_kind_1 : decode cX9_kind 1 = .ok (.iconst 0, 1) := by decide +kernel
theorem dX9_kind_2 : decode cX9_kind 2 = .ok (.putfield 54, 3) := by decide +kernel
theorem dX9_kind_5 : decode cX9_kind 5 = .ok (.aload_n 0, 1) := by decide +kernel
theorem dX9_kind_6 : decode cX9_kind 6 = .ok (.iload_n 1, 1) := by decide +kernel
theorem dX9_kind_7 : decode cX9_kind 7 = .ok (.invokevirtual 200, 3) := by decide +kernel
theorem dX9_kind_10 : decode cX9_kind 10 = .ok (.ifCond .eq 12, 3) := by decide +kernel
theorem dX9_kind_13 : decode cX9_kind 13 = .ok (.aload_n 0, 1) := by decide +kernel
theorem dX9_kind_14 : decode cX9_kind 14 = .ok (.iload_n 1, 1) := by decide +kernel
theorem dX9_kind_15 : decode cX9_kind 15 = .ok (.iconst 0, 1) := by decide +kernel
theorem dX9_kind_16 : decode cX9_kind 16 = .ok (.invokevirtual 216, 3) := by decide +kernel
theorem dX9_kind_19 : decode cX9_kind 19 = .ok (.goto 5, 3) := by decide +kernel
theorem dX9_kind_22 : decode cX9_kind 22 = .ok (.ldc 74, 2) := by decide +kernel
theorem dX9_kind_24 : decode cX9_kind 24 = .ok (.ireturn, 1) := by decide +kernel
theorem dX9_as_0 : decode cX9_as 0 = .ok (.aload_n 0, 1) := by decide +kernel
theorem dX9_as_1 : decode cX9_as 1 = .ok (.iconst 0, 1) := by decide +kernel
theorem dX9_as_2 : decode cX9_as 2 = .ok (.putfield 54, 3) := by decide +kernel
theorem dX9_as_5 : decode cX9_as 5 = .ok (.aload_n 0, 1) := by decide +kernel
theorem dX9_as_6 : decode cX9_as 6 = .ok (.iload_n 1, 1) := by decide +kernel
theorem dX9_as_7 : decode cX9_as 7 = .ok (.invokevirtual 200, 3) := by decide +kernel
theorem dX9_as_10 : decode cX9_as 10 = .ok (.ifCond .eq 15, 3) := by decide +kernel
theorem dX9_as_13 : decode cX9_as 13 = .ok (.iload_n 2, 1) := by decide +kernel
theorem dX9_as_14 : decode cX9_as 14 = .ok (.i2l, 1) := by decide +kernel
theorem dX9_as_15 : decode cX9_as 15 = .ok (.lconst 0, 1) := by decide +kernel
theorem dX9_as_16 : decode cX9_as 16 = .ok (.ldc2_w 242, 3) := by decide +kernel
theorem dX9_as_19 : decode cX9_as 19 = .ok (.invokestatic 64, 3) := by decide +kernel
theorem dX9_as_22 : decode cX9_as 22 = .ok (.ifCond .ne 6, 3) := by decide +kernel
theorem dX9_as_25 : decode cX9_as 25 = .ok (.ldc 74, 2) := by decide +kernel
theorem dX9_as_27 : decode cX9_as 27 = .ok (.ireturn, 1) := by decide +kernel
theorem dX9_as_28 : decode cX9_as 28 = .ok (.aload_n 0, 1) := by decide +kernel
theorem dX9_as_29 : decode cX9_as 29 = .ok (.iconst 0, 1) := by decide +kernel
theorem dX9_as_30 : decode cX9_as 30 = .ok (.putfield 58, 3) := by decide +kernel
theorem dX9_as_33 : decode cX9_as 33 = .ok (.aload_n 0, 1) := by decide +kernel
theorem dX9_as_34 : decode cX9_as 34 = .ok (.iload_n 1, 1) := by decide +kernel
theorem dX9_as_35 : decode cX9_as 35 = .ok (.iconst 0, 1) := by decide +kernel
theorem dX9_as_36 : decode cX9_as 36 = .ok (.invokevirtual 216, 3) := by decide +kernel
theorem dX9_as_39 : decode cX9_as 39 = .ok (.iload_n 2, 1) := by decide +kernel
theorem dX9_as_40 : decode cX9_as 40 = .ok (.invokestatic 279, 3) := by decide +kernel
theorem dX9_as_43 : decode cX9_as 43 = .ok (.ifCond .eq 7, 3) := by decide +kernel
theorem dX9_as_46 : decode cX9_as 46 = .ok (.iload_n 1, 1) := by decide +kernel
theorem dX9_as_47 : decode cX9_as 47 = .ok (.goto 8, 3) := by decide +kernel
theorem dX9_as_50 : decode cX9_as 50 = .ok (.aload_n 0, 1) := by decide +kernel
theorem dX9_as_51 : decode cX9_as 51 = .ok (.iconst 3, 1) := by decide +kernel
theorem dX9_as_52 : decode cX9_as 52 = .ok (.invokevirtual 75, 3) := by decide +kernel
theorem dX9_as_55 : decode cX9_as 55 = .ok (.ireturn, 1) := by decide +kernel
theorem dX9_began_0 : decode cX9_began 0 = .ok (.aload_n 0, 1) := by decide +kernel
theorem dX9_began_1 : decode cX9_began 1 = .ok (.getfield 283, 3) := by decide +kernel
theorem dX9_began_4 : decode cX9_began 4 = .ok (.bipush 16, 2) := by decide +kernel
theorem dX9_began_6 : decode cX9_began 6 = .ok (.if_icmp .ge 23, 3) := by decide +kernel
theorem dX9_began_9 : decode cX9_began 9 = .ok (.aload_n 0, 1) := by decide +kernel
theorem dX9_began_10 : decode cX9_began 10 = .ok (.getfield 51, 3) := by decide +kernel
theorem dX9_began_13 : decode cX9_began 13 = .ok (.aload_n 0, 1) := by decide +kernel
theorem dX9_began_14 : decode cX9_began 14 = .ok (.getfield 283, 3) := by decide +kernel
theorem dX9_began_17 : decode cX9_began 17 = .ok (.iload_n 1, 1) := by decide +kernel
theorem dX9_began_18 : decode cX9_began 18 = .ok (.iastore, 1) := by decide +kernel
theorem dX9_began_19 : decode cX9_began 19 = .ok (.aload_n 0, 1) := by decide +kernel
theorem dX9_began_20 : decode cX9_began 20 = .ok (.dup, 1) := by decide +kernel
theorem dX9_began_21 : decode cX9_began 21 = .ok (.getfield 283, 3) := by decide +kernel
theorem dX9_began_24 : decode cX9_began 24 = .ok (.iconst 1, 1) := by decide +kernel
theorem dX9_began_25 : decode cX9_began 25 = .ok (.iadd, 1) := by decide +kernel
theorem dX9_began_26 : decode cX9_began 26 = .ok (.putfield 283, 3) := by decide +kernel
theorem dX9_began_29 : decode cX9_began 29 = .ok (.return_, 1) := by decide +kernel
theorem dX9_plainSize_0 : decode cX9_plainSize 0 = .ok (.aload_n 0, 1) := by decide +kernel
theorem dX9_plainSize_1 : decode cX9_plainSize 1 = .ok (.bipush 10, 2) := by decide +kernel
theorem dX9_plainSize_3 : decode cX9_plainSize 3 = .ok (.invokevirtual 286, 3) := by decide +kernel
theorem dX9_plainSize_6 : decode cX9_plainSize 6 = .ok (.aload_n 0, 1) := by decide +kernel
theorem dX9_plainSize_7 : decode cX9_plainSize 7 = .ok (.iload_n 1, 1) := by decide +kernel
theorem dX9_plainSize_8 : decode cX9_plainSize 8 = .ok (.iconst 1, 1) := by decide +kernel
theorem dX9_plainSize_9 : decode cX9_plainSize 9 = .ok (.invokevirtual 216, 3) := by decide +kernel
theorem dX9_plainSize_12 : decode cX9_plainSize 12 = .ok (.ireturn, 1) := by decide +kernel
theorem dX9_slateSize_0 : decode cX9_slateSize 0 = .ok (.aload_n 0, 1) := by decide +kernel
theorem dX9_slateSize_1 : decode cX9_slateSize 1 = .ok (.bipush 13, 2) := by decide +kernel
theorem dX9_slateSize_3 : decode cX9_slateSize 3 = .ok (.invokevirtual 286, 3) := by decide +kernel
theorem dX9_slateSize_6 : decode cX9_slateSize 6 = .ok (.aload_n 0, 1) := by decide +kernel
theorem dX9_slateSize_7 : decode cX9_slateSize 7 = .ok (.iload_n 1, 1) := by decide +kernel
theorem dX9_slateSize_8 : decode cX9_slateSize 8 = .ok (.invokevirtual 289, 3) := by decide +kernel
theorem dX9_slateSize_11 : decode cX9_slateSize 11 = .ok (.bipush 100, 2) := by decide +kernel
theorem dX9_slateSize_13 : decode cX9_slateSize 13 = .ok (.isub, 1) := by decide +kernel
theorem dX9_slateSize_14 : decode cX9_slateSize 14 = .ok (.ireturn, 1) := by decide +kernel
theorem dX9_markOf_0 : decode cX9_markOf 0 = .ok (.aload_n 0, 1) := by decide +kernel
theorem dX9_markOf_1 : decode cX9_markOf 1 = .ok (.iload_n 1, 1) := by decide +kernel
theorem dX9_markOf_2 : decode cX9_markOf 2 = .ok (.iconst 0, 1) := by decide +kernel
theorem dX9_markOf_3 : decode cX9_markOf 3 = .ok (.invokevirtual 216, 3) := by decide +kernel
theorem dX9_markOf_6 : decode cX9_markOf 6 = .ok (.istore_n 2, 1) := by decide +kernel
theorem dX9_markOf_7 : decode cX9_markOf 7 = .ok (.iload_n 2, 1) := by decide +kernel
theorem dX9_markOf_8 : decode cX9_markOf 8 = .ok (.iconst 5, 1) := by decide +kernel
theorem dX9_markOf_9 : decode cX9_markOf 9 = .ok (.if_icmp .ne 23, 3) := by decide +kernel
theorem dX9_markOf_12 : decode cX9_markOf 12 = .ok (.aload_n 0, 1) := by decide +kernel
theorem dX9_markOf_13 : decode cX9_markOf 13 = .ok (.bipush 23, 2) := by decide +kernel
theorem dX9_markOf_15 : decode cX9_markOf 15 = .ok (.invokevirtual 286, 3) := by decide +kernel
theorem dX9_markOf_18 : decode cX9_markOf 18 = .ok (.aload_n 0, 1) := by decide +kernel
theorem dX9_markOf_19 : decode cX9_markOf 19 = .ok (.bipush 20, 2) := by decide +kernel
theorem dX9_markOf_21 : decode cX9_markOf 21 = .ok (.invokevirtual 286, 3) := by decide +kernel
theorem dX9_markOf_24 : decode cX9_markOf 24 = .ok (.iload_n 1, 1) := by decide +kernel
theorem dX9_markOf_25 : decode cX9_markOf 25 = .ok (.aload_n 0, 1) := by decide +kernel
theorem dX9_markOf_26 : decode cX9_markOf 26 = .ok (.iload_n 1, 1) := by decide +kernel
theorem dX9_markOf_27 : decode cX9_markOf 27 = .ok (.invokevirtual 292, 3) := by decide +kernel
theorem dX9_markOf_30 : decode cX9_markOf 30 = .ok (.isub, 1) := by decide +kernel
theorem dX9_markOf_31 : decode cX9_markOf 31 = .ok (.ireturn, 1) := by decide +kernel
theorem dX9_markOf_32 : decode cX9_markOf 32 = .ok (.iload_n 2, 1) := by decide +kernel
theorem dX9_markOf_33 : decode cX9_markOf 33 = .ok (.iconst 3, 1) := by decide +kernel
theorem dX9_markOf_34 : decode cX9_markOf 34 = .ok (.if_icmp .ne 9, 3) := by decide +kernel
theorem dX9_markOf_37 : decode cX9_markOf 37 = .ok (.aload_n 0, 1) := by decide +kernel
theorem dX9_markOf_38 : decode cX9_markOf 38 = .ok (.bipush 24, 2) := by decide +kernel
theorem dX9_markOf_40 : decode cX9_markOf 40 = .ok (.invokevirtual 286, 3) := by decide +kernel
theorem dX9_markOf_43 : decode cX9_markOf 43 = .ok (.iload_n 2, 1) := by decide +kernel
theorem dX9_markOf_44 : decode cX9_markOf 44 = .ok (.iconst 2, 1) := by decide +kernel
theorem dX9_markOf_45 : decode cX9_markOf 45 = .ok (.if_icmp .eq 8, 3) := by decide +kernel
theorem dX9_markOf_48 : decode cX9_markOf 48 = .ok (.iload_n 2, 1) := by decide +kernel
theorem dX9_markOf_49 : decode cX9_markOf 49 = .ok (.iconst 3, 1) := by decide +kernel
theorem dX9_markOf_50 : decode cX9_markOf 50 = .ok (.if_icmp .ne 9, 3) := by decide +kernel
theorem dX9_markOf_53 : decode cX9_markOf 53 = .ok (.aload_n 0, 1) := by decide +kernel
theorem dX9_markOf_54 : decode cX9_markOf 54 = .ok (.bipush 22, 2) := by decide +kernel
theorem dX9_markOf_56 : decode cX9_markOf 56 = .ok (.invokevirtual 286, 3) := by decide +kernel
theorem dX9_markOf_59 : decode cX9_markOf 59 = .ok (.aload_n 0, 1) := by decide +kernel
theorem dX9_markOf_60 : decode cX9_markOf 60 = .ok (.bipush 21, 2) := by decide +kernel
theorem dX9_markOf_62 : decode cX9_markOf 62 = .ok (.invokevirtual 286, 3) := by decide +kernel
theorem dX9_markOf_65 : decode cX9_markOf 65 = .ok (.aload_n 0, 1) := by decide +kernel
theorem dX9_markOf_66 : decode cX9_markOf 66 = .ok (.bipush 20, 2) := by decide +kernel
theorem dX9_markOf_68 : decode cX9_markOf 68 = .ok (.invokevirtual 286, 3) := by decide +kernel
theorem dX9_markOf_71 : decode cX9_markOf 71 = .ok (.iload_n 1, 1) := by decide +kernel
theorem dX9_markOf_72 : decode cX9_markOf 72 = .ok (.aload_n 0, 1) := by decide +kernel
theorem dX9_markOf_73 : decode cX9_markOf 73 = .ok (.iload_n 1, 1) := by decide +kernel
theorem dX9_markOf_74 : decode cX9_markOf 74 = .ok (.iconst 2, 1) := by decide +kernel
theorem dX9_markOf_75 : decode cX9_markOf 75 = .ok (.invokevirtual 216, 3) := by decide +kernel
theorem dX9_markOf_78 : decode cX9_markOf 78 = .ok (.iadd, 1) := by decide +kernel
theorem dX9_markOf_79 : decode cX9_markOf 79 = .ok (.iload_n 2, 1) := by decide +kernel
theorem dX9_markOf_80 : decode cX9_markOf 80 = .ok (.iconst 2, 1) := by decide +kernel
theorem dX9_markOf_81 : decode cX9_markOf 81 = .ok (.if_icmp .eq 8, 3) := by decide +kernel
theorem dX9_markOf_84 : decode cX9_markOf 84 = .ok (.iload_n 2, 1) := by decide +kernel
theorem dX9_markOf_85 : decode cX9_markOf 85 = .ok (.iconst 3, 1) := by decide +kernel
theorem dX9_markOf_86 : decode cX9_markOf 86 = .ok (.if_icmp .ne 9, 3) := by decide +kernel
theorem dX9_markOf_89 : decode cX9_markOf 89 = .ok (.sipush 1000, 3) := by decide +kernel
theorem dX9_markOf_92 : decode cX9_markOf 92 = .ok (.goto 4, 3) := by decide +kernel
theorem dX9_markOf_95 : decode cX9_markOf 95 = .ok (.iconst 0, 1) := by decide +kernel
theorem dX9_markOf_96 : decode cX9_markOf 96 = .ok (.isub, 1) := by decide +kernel
theorem dX9_markOf_97 : decode cX9_markOf 97 = .ok (.istore_n 3, 1) := by decide +kernel
theorem dX9_markOf_98 : decode cX9_markOf 98 = .ok (.iload_n 2, 1) := by decide +kernel
theorem dX9_markOf_99 : decode cX9_markOf 99 = .ok (.iconst 3, 1) := by decide +kernel
theorem dX9_markOf_100 : decode cX9_markOf 100 = .ok (.if_icmp .ne 9, 3) := by decide +kernel
theorem dX9_markOf_103 : decode cX9_markOf 103 = .ok (.iconst 2, 1) := by decide +kernel
theorem dX9_markOf_104 : decode cX9_markOf 104 = .ok (.iload_n 3, 1) := by decide +kernel
theorem dX9_markOf_105 : decode cX9_markOf 105 = .ok (.imul, 1) := by decide +kernel
theorem dX9_markOf_106 : decode cX9_markOf 106 = .ok (.goto 4, 3) := by decide +kernel
theorem dX9_markOf_109 : decode cX9_markOf 109 = .ok (.iload_n 3, 1) := by decide +kernel
theorem dX9_markOf_110 : decode cX9_markOf 110 = .ok (.ireturn, 1) := by decide +kernel
theorem dX9_sizeOf_0 : decode cX9_sizeOf 0 = .ok (.aload_n 0, 1) := by decide +kernel
theorem dX9_sizeOf_1 : decode cX9_sizeOf 1 = .ok (.iload_n 1, 1) := by decide +kernel
theorem dX9_sizeOf_2 : decode cX9_sizeOf 2 = .ok (.iconst 0, 1) := by decide +kernel
theorem dX9_sizeOf_3 : decode cX9_sizeOf 3 = .ok (.invokevirtual 216, 3) := by decide +kernel
theorem dX9_sizeOf_6 : decode cX9_sizeOf 6 = .ok (.istore_n 2, 1) := by decide +kernel
theorem dX9_sizeOf_7 : decode cX9_sizeOf 7 = .ok (.iload_n 2, 1) := by decide +kernel
theorem dX9_sizeOf_8 : decode cX9_sizeOf 8 = .ok (.iconst 5, 1) := by decide +kernel
theorem dX9_sizeOf_9 : decode cX9_sizeOf 9 = .ok (.if_icmp .ne 9, 3) := by decide +kernel
theorem dX9_sizeOf_12 : decode cX9_sizeOf 12 = .ok (.aload_n 0, 1) := by decide +kernel
theorem dX9_sizeOf_13 : decode cX9_sizeOf 13 = .ok (.iload_n 1, 1) := by decide +kernel
theorem dX9_sizeOf_14 : decode cX9_sizeOf 14 = .ok (.invokevirtual 292, 3) := by decide +kernel
theorem dX9_sizeOf_17 : decode cX9_sizeOf 17 = .ok (.ireturn, 1) := by decide +kernel
theorem dX9_sizeOf_18 : decode cX9_sizeOf 18 = .ok (.iload_n 2, 1) := by decide +kernel
theorem dX9_sizeOf_19 : decode cX9_sizeOf 19 = .ok (.iconst 3, 1) := by decide +kernel
theorem dX9_sizeOf_20 : decode cX9_sizeOf 20 = .ok (.if_icmp .eq 8, 3) := by decide +kernel
theorem dX9_sizeOf_23 : decode cX9_sizeOf 23 = .ok (.iload_n 2, 1) := by decide +kernel
theorem dX9_sizeOf_24 : decode cX9_sizeOf 24 = .ok (.iconst 4, 1) := by decide +kernel
theorem dX9_sizeOf_25 : decode cX9_sizeOf 25 = .ok (.if_icmp .ne 19, 3) := by decide +kernel
theorem dX9_sizeOf_28 : decode cX9_sizeOf 28 = .ok (.aload_n 0, 1) := by decide +kernel
theorem dX9_sizeOf_29 : decode cX9_sizeOf 29 = .ok (.iload_n 2, 1) := by decide +kernel
theorem dX9_sizeOf_30 : decode cX9_sizeOf 30 = .ok (.iconst 3, 1) := by decide +kernel
theorem dX9_sizeOf_31 : decode cX9_sizeOf 31 = .ok (.if_icmp .ne 8, 3) := by decide +kernel
theorem dX9_sizeOf_34 : decode cX9_sizeOf 34 = .ok (.bipush 12, 2) := by decide +kernel
theorem dX9_sizeOf_36 : decode cX9_sizeOf 36 = .ok (.goto 5, 3) := by decide +kernel
theorem dX9_sizeOf_39 : decode cX9_sizeOf 39 = .ok (.bipush 14, 2) := by decide +kernel
theorem dX9_sizeOf_41 : decode cX9_sizeOf 41 = .ok (.invokevirtual 286, 3) := by decide +kernel
theorem dX9_sizeOf_44 : decode cX9_sizeOf 44 = .ok (.aload_n 0, 1) := by decide +kernel
theorem dX9_sizeOf_45 : decode cX9_sizeOf 45 = .ok (.bipush 11, 2) := by decide +kernel
theorem dX9_sizeOf_47 : decode cX9_sizeOf 47 = .ok (.invokevirtual 286, 3) := by decide +kernel
theorem dX9_sizeOf_50 : decode cX9_sizeOf 50 = .ok (.aload_n 0, 1) := by decide +kernel
theorem dX9_sizeOf_51 : decode cX9_sizeOf 51 = .ok (.iload_n 1, 1) := by decide +kernel
theorem dX9_sizeOf_52 : decode cX9_sizeOf 52 = .ok (.invokevirtual 289, 3) := by decide +kernel
theorem dX9_sizeOf_55 : decode cX9_sizeOf 55 = .ok (.istore_n 3, 1) := by decide +kernel
theorem dX9_sizeOf_56 : decode cX9_sizeOf 56 = .ok (.iload_n 3, 1) := by decide +kernel
theorem dX9_sizeOf_57 : decode cX9_sizeOf 57 = .ok (.aload_n 0, 1) := by decide +kernel
theorem dX9_sizeOf_58 : decode cX9_sizeOf 58 = .ok (.iload_n 1, 1) := by decide +kernel
theorem dX9_sizeOf_59 : decode cX9_sizeOf 59 = .ok (.invokevirtual 295, 3) := by decide +kernel
theorem dX9_sizeOf_62 : decode cX9_sizeOf 62 = .ok (.iadd, 1) := by decide +kernel
theorem dX9_sizeOf_63 : decode cX9_sizeOf 63 = .ok (.istore_n 3, 1) := by decide +kernel
theorem dX9_sizeOf_64 : decode cX9_sizeOf 64 = .ok (.iload_n 2, 1) := by decide +kernel
theorem dX9_sizeOf_65 : decode cX9_sizeOf 65 = .ok (.iconst 3, 1) := by decide +kernel
theorem dX9_sizeOf_66 : decode cX9_sizeOf 66 = .ok (.if_icmp .ne 8, 3) := by decide +kernel
theorem dX9_sizeOf_69 : decode cX9_sizeOf 69 = .ok (.iload_n 3, 1) := by decide +kernel
theorem dX9_sizeOf_70 : decode cX9_sizeOf 70 = .ok (.ineg, 1) := by decide +kernel
theorem dX9_sizeOf_71 : decode cX9_sizeOf 71 = .ok (.goto 15, 3) := by decide +kernel
theorem dX9_sizeOf_74 : decode cX9_sizeOf 74 = .ok (.iload_n 2, 1) := by decide +kernel
theorem dX9_sizeOf_75 : decode cX9_sizeOf 75 = .ok (.iconst 4, 1) := by decide +kernel
theorem dX9_sizeOf_76 : decode cX9_sizeOf 76 = .ok (.if_icmp .ne 9, 3) := by decide +kernel
theorem dX9_sizeOf_79 : decode cX9_sizeOf 79 = .ok (.iconst 2, 1) := by decide +kernel
theorem dX9_sizeOf_80 : decode cX9_sizeOf 80 = .ok (.iload_n 3, 1) := by decide +kernel
theorem dX9_sizeOf_81 : decode cX9_sizeOf 81 = .ok (.imul, 1) := by decide +kernel
theorem dX9_sizeOf_82 : decode cX9_sizeOf 82 = .ok (.goto 4, 3) := by decide +kernel
theorem dX9_sizeOf_85 : decode cX9_sizeOf 85 = .ok (.iload_n 3, 1) := by decide +kernel
theorem dX9_sizeOf_86 : decode cX9_sizeOf 86 = .ok (.ireturn, 1) := by decide +kernel
theorem dX9_ask_0 : decode cX9_ask 0 = .ok (.aload_n 0, 1) := by decide +kernel
theorem dX9_ask_1 : decode cX9_ask 1 = .ok (.iconst 0, 1) := by decide +kernel
theorem dX9_ask_2 : decode cX9_ask 2 = .ok (.putfield 54, 3) := by decide +kernel
theorem dX9_ask_5 : decode cX9_ask 5 = .ok (.aload_n 0, 1) := by decide +kernel
theorem dX9_ask_6 : decode cX9_ask 6 = .ok (.iload_n 1, 1) := by decide +kernel
theorem dX9_ask_7 : decode cX9_ask 7 = .ok (.invokevirtual 200, 3) := by decide +kernel
theorem dX9_ask_10 : decode cX9_ask 10 = .ok (.ifCond .eq 13, 3) := by decide +kernel
theorem dX9_ask_13 : decode cX9_ask 13 = .ok (.iload_n 2, 1) := by decide +kernel
theorem dX9_ask_14 : decode cX9_ask 14 = .ok (.i2l, 1) := by decide +kernel
theorem dX9_ask_15 : decode cX9_ask 15 = .ok (.lconst 0, 1) := by decide +kernel
theorem dX9_ask_16 : decode cX9_ask 16 = .ok (.lconst 1, 1) := by decide +kernel
theorem dX9_ask_17 : decode cX9_ask 17 = .ok (.invokestatic 64, 3) := by decide +kernel
theorem dX9_ask_20 : decode cX9_ask 20 = .ok (.ifCond .ne 6, 3) := by decide +kernel
theorem dX9_ask_23 : decode cX9_ask 23 = .ok (.ldc 74, 2) := by decide +kernel
theorem dX9_ask_25 : decode cX9_ask 25 = .ok (.ireturn, 1) := by decide +kernel
theorem dX9_ask_26 : decode cX9_ask 26 = .ok (.aload_n 0, 1) := by decide +kernel
theorem dX9_ask_27 : decode cX9_ask 27 = .ok (.iconst 0, 1) := by decide +kernel
theorem dX9_ask_28 : decode cX9_ask 28 = .ok (.putfield 283, 3) := by decide +kernel
theorem dX9_ask_31 : decode cX9_ask 31 = .ok (.iload_n 2, 1) := by decide +kernel
theorem dX9_ask_32 : decode cX9_ask 32 = .ok (.ifCond .ne 11, 3) := by decide +kernel
theorem dX9_ask_35 : decode cX9_ask 35 = .ok (.aload_n 0, 1) := by decide +kernel
theorem dX9_ask_36 : decode cX9_ask 36 = .ok (.iload_n 1, 1) := by decide +kernel
theorem dX9_ask_37 : decode cX9_ask 37 = .ok (.invokevirtual 298, 3) := by decide +kernel
theorem dX9_ask_40 : decode cX9_ask 40 = .ok (.goto 8, 3) := by decide +kernel
theorem dX9_ask_43 : decode cX9_ask 43 = .ok (.aload_n 0, 1) := by decide +kernel
theorem dX9_ask_44 : decode cX9_ask 44 = .ok (.iload_n 1, 1) := by decide +kernel
theorem dX9_ask_45 : decode cX9_ask 45 = .ok (.invokevirtual 295, 3) := by decide +kernel
theorem dX9_ask_48 : decode cX9_ask 48 = .ok (.ireturn, 1) := by decide +kernel
theorem dX9_trace_0 : decode cX9_trace 0 = .ok (.aload_n 0, 1) := by decide +kernel
theorem dX9_trace_1 : decode cX9_trace 1 = .ok (.iconst 0, 1) := by decide +kernel
theorem dX9_trace_2 : decode cX9_trace 2 = .ok (.putfield 54, 3) := by decide +kernel
theorem dX9_trace_5 : decode cX9_trace 5 = .ok (.iload_n 1, 1) := by decide +kernel
theorem dX9_trace_6 : decode cX9_trace 6 = .ok (.i2l, 1) := by decide +kernel
theorem dX9_trace_7 : decode cX9_trace 7 = .ok (.lconst 0, 1) := by decide +kernel
theorem dX9_trace_8 : decode cX9_trace 8 = .ok (.aload_n 0, 1) := by decide +kernel
theorem dX9_trace_9 : decode cX9_trace 9 = .ok (.getfield 283, 3) := by decide +kernel
theorem dX9_trace_12 : decode cX9_trace 12 = .ok (.iconst 1, 1) := by decide +kernel
theorem dX9_trace_13 : decode cX9_trace 13 = .ok (.isub, 1) := by decide +kernel
theorem dX9_trace_14 : decode cX9_trace 14 = .ok (.i2l, 1) := by decide +kernel
theorem dX9_trace_15 : decode cX9_trace 15 = .ok (.invokestatic 64, 3) := by decide +kernel
theorem dX9_trace_18 : decode cX9_trace 18 = .ok (.ifCond .eq 12, 3) := by decide +kernel
theorem dX9_trace_21 : decode cX9_trace 21 = .ok (.aload_n 0, 1) := by decide +kernel
theorem dX9_trace_22 : decode cX9_trace 22 = .ok (.getfield 51, 3) := by decide +kernel
theorem dX9_trace_25 : decode cX9_trace 25 = .ok (.iload_n 1, 1) := by decide +kernel
theorem dX9_trace_26 : decode cX9_trace 26 = .ok (.iaload, 1) := by decide +kernel
theorem dX9_trace_27 : decode cX9_trace 27 = .ok (.goto 5, 3) := by decide +kernel
theorem dX9_trace_30 : decode cX9_trace 30 = .ok (.ldc 90, 2) := by decide +kernel
theorem dX9_trace_32 : decode cX9_trace 32 = .ok (.ireturn, 1) := by decide +kernel
theorem dX9_count_0 : decode cX9_count 0 = .ok (.aload_n 0, 1) := by decide +kernel
theorem dX9_count_1 : decode cX9_count 1 = .ok (.iconst 0, 1) := by decide +kernel
theorem dX9_count_2 : decode cX9_count 2 = .ok (.putfield 54, 3) := by decide +kernel
theorem dX9_count_5 : decode cX9_count 5 = .ok (.iconst 0, 1) := by decide +kernel
theorem dX9_count_6 : decode cX9_count 6 = .ok (.istore_n 2, 1) := by decide +kernel
theorem dX9_count_7 : decode cX9_count 7 = .ok (.iload_n 1, 1) := by decide +kernel
theorem dX9_count_8 : decode cX9_count 8 = .ok (.tableswitch 134 0 6 #[44, 77, 77, 77, 86, 91, 129], 44) := by decide +kernel
theorem dX9_count_52 : decode cX9_count 52 = .ok (.iconst 0, 1) := by decide +kernel
theorem dX9_count_53 : decode cX9_count 53 = .ok (.istore_n 3, 1) := by decide +kernel
theorem dX9_count_54 : decode cX9_count 54 = .ok (.iload_n 3, 1) := by decide +kernel
theorem dX9_count_55 : decode cX9_count 55 = .ok (.bipush 8, 2) := by decide +kernel
theorem dX9_count_57 : decode cX9_count 57 = .ok (.if_icmp .ge 26, 3) := by decide +kernel
theorem dX9_count_60 : decode cX9_count 60 = .ok (.iload_n 2, 1) := by decide +kernel
theorem dX9_count_61 : decode cX9_count 61 = .ok (.aload_n 0, 1) := by decide +kernel
theorem dX9_count_62 : decode cX9_count 62 = .ok (.getfield 7, 3) := by decide +kernel
theorem dX9_count_65 : decode cX9_count 65 = .ok (.iload_n 3, 1) := by decide +kernel
theorem dX9_count_66 : decode cX9_count 66 = .ok (.iaload, 1) := by decide +kernel
theorem dX9_count_67 : decode cX9_count 67 = .ok (.ifCond .lt 7, 3) := by decide +kernel
theorem dX9_count_70 : decode cX9_count 70 = .ok (.iconst 1, 1) := by decide +kernel
theorem dX9_count_71 : decode cX9_count 71 = .ok (.goto 4, 3) := by decide +kernel
theorem dX9_count_74 : decode cX9_count 74 = .ok (.iconst 0, 1) := by decide +kernel
theorem dX9_count_75 : decode cX9_count 75 = .ok (.iadd, 1) := by decide +kernel
theorem dX9_count_76 : decode cX9_count 76 = .ok (.istore_n 2, 1) := by decide +kernel
theorem dX9_count_77 : decode cX9_count 77 = .ok (.iinc 3 1, 3) := by decide +kernel
theorem dX9_count_80 : decode cX9_count 80 = .ok (.goto (-26), 3) := by decide +kernel
theorem dX9_count_83 : decode cX9_count 83 = .ok (.iload_n 2, 1) := by decide +kernel
theorem dX9_count_84 : decode cX9_count 84 = .ok (.ireturn, 1) := by decide +kernel
theorem dX9_count_85 : decode cX9_count 85 = .ok (.aload_n 0, 1) := by decide +kernel
theorem dX9_count_86 : decode cX9_count 86 = .ok (.getfield 19, 3) := by decide +kernel
theorem dX9_count_89 : decode cX9_count 89 = .ok (.iload_n 1, 1) := by decide +kernel
theorem dX9_count_90 : decode cX9_count 90 = .ok (.iconst 1, 1) := by decide +kernel
theorem dX9_count_91 : decode cX9_count 91 = .ok (.isub, 1) := by decide +kernel
theorem dX9_count_92 : decode cX9_count 92 = .ok (.iaload, 1) := by decide +kernel
theorem dX9_count_93 : decode cX9_count 93 = .ok (.ireturn, 1) := by decide +kernel
theorem dX9_count_94 : decode cX9_count 94 = .ok (.aload_n 0, 1) := by decide +kernel
theorem dX9_count_95 : decode cX9_count 95 = .ok (.getfield 188, 3) := by decide +kernel
theorem dX9_count_98 : decode cX9_count 98 = .ok (.ireturn, 1) := by decide +kernel
theorem dX9_count_99 : decode cX9_count 99 = .ok (.iconst 0, 1) := by decide +kernel
theorem dX9_count_100 : decode cX9_count 100 = .ok (.istore_n 3, 1) := by decide +kernel
theorem dX9_count_101 : decode cX9_count 101 = .ok (.iload_n 3, 1) := by decide +kernel
theorem dX9_count_102 : decode cX9_count 102 = .ok (.aload_n 0, 1) := by decide +kernel
theorem dX9_count_103 : decode cX9_count 103 = .ok (.getfield 19, 3) := by decide +kernel
theorem dX9_count_106 : decode cX9_count 106 = .ok (.iconst 1, 1) := by decide +kernel
theorem dX9_count_107 : decode cX9_count 107 = .ok (.iaload, 1) := by decide +kernel
theorem dX9_count_108 : decode cX9_count 108 = .ok (.if_icmp .ge 27, 3) := by decide +kernel
theorem dX9_count_111 : decode cX9_count 111 = .ok (.iload_n 2, 1) := by decide +kernel
theorem dX9_count_112 : decode cX9_count 112 = .ok (.aload_n 0, 1) := by decide +kernel
theorem dX9_count_113 : decode cX9_count 113 = .ok (.iload_n 3, 1) := by decide +kernel
theorem dX9_count_114 : decode cX9_count 114 = .ok (.invokevirtual 203, 3) := by decide +kernel
theorem dX9_count_117 : decode cX9_count 117 = .ok (.ldc 90, 2) := by decide +kernel
theorem dX9_count_119 : decode cX9_count 119 = .ok (.if_icmp .ne 7, 3) := by decide +kernel
theorem dX9_count_122 : decode cX9_count 122 = .ok (.iconst 1, 1) := by decide +kernel
theorem dX9_count_123 : decode cX9_count 123 = .ok (.goto 4, 3) := by decide +kernel
theorem dX9_count_126 : decode cX9_count 126 = .ok (.iconst 0, 1) := by decide +kernel
theorem dX9_count_127 : decode cX9_count 127 = .ok (.iadd, 1) := by decide +kernel
theorem dX9_count_128 : decode cX9_count 128 = .ok (.istore_n 2, 1) := by decide +kernel
theorem dX9_count_129 : decode cX9_count 129 = .ok (.iinc 3 1, 3) := by decide +kernel
theorem dX9_count_132 : decode cX9_count 132 = .ok (.goto (-31), 3) := by decide +kernel
theorem dX9_count_135 : decode cX9_count 135 = .ok (.iload_n 2, 1) := by decide +kernel
theorem dX9_count_136 : decode cX9_count 136 = .ok (.ireturn, 1) := by decide +kernel
theorem dX9_count_137 : decode cX9_count 137 = .ok (.aload_n 0, 1) := by decide +kernel
theorem dX9_count_138 : decode cX9_count 138 = .ok (.getfield 81, 3) := by decide +kernel
theorem dX9_count_141 : decode cX9_count 141 = .ok (.ireturn, 1) := by decide +kernel
theorem dX9_count_142 : decode cX9_count 142 = .ok (.ldc 74, 2) := by decide +kernel
theorem dX9_count_144 : decode cX9_count 144 = .ok (.ireturn, 1) := by decide +kernel
theorem dX9_status_0 : decode cX9_status 0 = .ok (.aload_n 0, 1) := by decide +kernel
theorem dX9_status_1 : decode cX9_status 1 = .ok (.iconst 0, 1) := by decide +kernel
theorem dX9_status_2 : decode cX9_status 2 = .ok (.putfield 54, 3) := by decide +kernel
theorem dX9_status_5 : decode cX9_status 5 = .ok (.aload_n 0, 1) := by decide +kernel
theorem dX9_status_6 : decode cX9_status 6 = .ok (.getfield 58, 3) := by decide +kernel
theorem dX9_status_9 : decode cX9_status 9 = .ok (.ireturn, 1) := by decide +kernel
theorem dJ6_bitCount_0f7a4_0 : decode cJ6_bitCount_0f7a4 0 = .ok (.iload_n 0, 1) := by decide +kernel
theorem dJ6_bitCount_0f7a4_1 : decode cJ6_bitCount_0f7a4 1 = .ok (.iload_n 0, 1) := by decide +kernel
theorem dJ6_bitCount_0f7a4_2 : decode cJ6_bitCount_0f7a4 2 = .ok (.iconst 1, 1) := by decide +kernel
theorem dJ6_bitCount_0f7a4_3 : decode cJ6_bitCount_0f7a4 3 = .ok (.iushr, 1) := by decide +kernel
theorem dJ6_bitCount_0f7a4_4 : decode cJ6_bitCount_0f7a4 4 = .ok (.ldc_w 265, 3) := by decide +kernel
theorem dJ6_bitCount_0f7a4_7 : decode cJ6_bitCount_0f7a4 7 = .ok (.iand, 1) := by decide +kernel
theorem dJ6_bitCount_0f7a4_8 : decode cJ6_bitCount_0f7a4 8 = .ok (.isub, 1) := by decide +kernel
theorem dJ6_bitCount_0f7a4_9 : decode cJ6_bitCount_0f7a4 9 = .ok (.istore_n 0, 1) := by decide +kernel
theorem dJ6_bitCount_0f7a4_10 : decode cJ6_bitCount_0f7a4 10 = .ok (.iload_n 0, 1) := by decide +kernel
theorem dJ6_bitCount_0f7a4_11 : decode cJ6_bitCount_0f7a4 11 = .ok (.ldc_w 266, 3) := by decide +kernel
theorem dJ6_bitCount_0f7a4_14 : decode cJ6_bitCount_0f7a4 14 = .ok (.iand, 1) := by decide +kernel
theorem dJ6_bitCount_0f7a4_15 : decode cJ6_bitCount_0f7a4 15 = .ok (.iload_n 0, 1) := by decide +kernel
theorem dJ6_bitCount_0f7a4_16 : decode cJ6_bitCount_0f7a4 16 = .ok (.iconst 2, 1) := by decide +kernel
theorem dJ6_bitCount_0f7a4_17 : decode cJ6_bitCount_0f7a4 17 = .ok (.iushr, 1) := by decide +kernel
theorem dJ6_bitCount_0f7a4_18 : decode cJ6_bitCount_0f7a4 18 = .ok (.ldc_w 266, 3) := by decide +kernel
theorem dJ6_bitCount_0f7a4_21 : decode cJ6_bitCount_0f7a4 21 = .ok (.iand, 1) := by decide +kernel
theorem dJ6_bitCount_0f7a4_22 : decode cJ6_bitCount_0f7a4 22 = .ok (.iadd, 1) := by decide +kernel
theorem dJ6_bitCount_0f7a4_23 : decode cJ6_bitCount_0f7a4 23 = .ok (.istore_n 0, 1) := by decide +kernel
theorem dJ6_bitCount_0f7a4_24 : decode cJ6_bitCount_0f7a4 24 = .ok (.iload_n 0, 1) := by decide +kernel
theorem dJ6_bitCount_0f7a4_25 : decode cJ6_bitCount_0f7a4 25 = .ok (.iload_n 0, 1) := by decide +kernel
theorem dJ6_bitCount_0f7a4_26 : decode cJ6_bitCount_0f7a4 26 = .ok (.iconst 4, 1) := by decide +kernel
theorem dJ6_bitCount_0f7a4_27 : decode cJ6_bitCount_0f7a4 27 = .ok (.iushr, 1) := by decide +kernel
theorem dJ6_bitCount_0f7a4_28 : decode cJ6_bitCount_0f7a4 28 = .ok (.iadd, 1) := by decide +kernel
theorem dJ6_bitCount_0f7a4_29 : decode cJ6_bitCount_0f7a4 29 = .ok (.ldc_w 267, 3) := by decide +kernel
theorem dJ6_bitCount_0f7a4_32 : decode cJ6_bitCount_0f7a4 32 = .ok (.iand, 1) := by decide +kernel
theorem dJ6_bitCount_0f7a4_33 : decode cJ6_bitCount_0f7a4 33 = .ok (.istore_n 0, 1) := by decide +kernel
theorem dJ6_bitCount_0f7a4_34 : decode cJ6_bitCount_0f7a4 34 = .ok (.iload_n 0, 1) := by decide +kernel
theorem dJ6_bitCount_0f7a4_35 : decode cJ6_bitCount_0f7a4 35 = .ok (.iload_n 0, 1) := by decide +kernel
theorem dJ6_bitCount_0f7a4_36 : decode cJ6_bitCount_0f7a4 36 = .ok (.bipush 8, 2) := by decide +kernel
theorem dJ6_bitCount_0f7a4_38 : decode cJ6_bitCount_0f7a4 38 = .ok (.iushr, 1) := by decide +kernel
theorem dJ6_bitCount_0f7a4_39 : decode cJ6_bitCount_0f7a4 39 = .ok (.iadd, 1) := by decide +kernel
theorem dJ6_bitCount_0f7a4_40 : decode cJ6_bitCount_0f7a4 40 = .ok (.istore_n 0, 1) := by decide +kernel
theorem dJ6_bitCount_0f7a4_41 : decode cJ6_bitCount_0f7a4 41 = .ok (.iload_n 0, 1) := by decide +kernel
theorem dJ6_bitCount_0f7a4_42 : decode cJ6_bitCount_0f7a4 42 = .ok (.iload_n 0, 1) := by decide +kernel
theorem dJ6_bitCount_0f7a4_43 : decode cJ6_bitCount_0f7a4 43 = .ok (.bipush 16, 2) := by decide +kernel
theorem dJ6_bitCount_0f7a4_45 : decode cJ6_bitCount_0f7a4 45 = .ok (.iushr, 1) := by decide +kernel
theorem dJ6_bitCount_0f7a4_46 : decode cJ6_bitCount_0f7a4 46 = .ok (.iadd, 1) := by decide +kernel
theorem dJ6_bitCount_0f7a4_47 : decode cJ6_bitCount_0f7a4 47 = .ok (.istore_n 0, 1) := by decide +kernel
theorem dJ6_bitCount_0f7a4_48 : decode cJ6_bitCount_0f7a4 48 = .ok (.iload_n 0, 1) := by decide +kernel
theorem dJ6_bitCount_0f7a4_49 : decode cJ6_bitCount_0f7a4 49 = .ok (.bipush 63, 2) := by decide +kernel
theorem dJ6_bitCount_0f7a4_51 : decode cJ6_bitCount_0f7a4 51 = .ok (.iand, 1) := by decide +kernel
theorem dJ6_bitCount_0f7a4_52 : decode cJ6_bitCount_0f7a4 52 = .ok (.ireturn, 1) := by decide +kernel
theorem dJ9_max_7cf53_0 : decode cJ9_max_7cf53 0 = .ok (.iload_n 0, 1) := by decide +kernel
theorem dJ9_max_7cf53_1 : decode cJ9_max_7cf53 1 = .ok (.iload_n 1, 1) := by decide +kernel
theorem dJ9_max_7cf53_2 : decode cJ9_max_7cf53 2 = .ok (.if_icmp .lt 7, 3) := by decide +kernel
theorem dJ9_max_7cf53_5 : decode cJ9_max_7cf53 5 = .ok (.iload_n 0, 1) := by decide +kernel
theorem dJ9_max_7cf53_6 : decode cJ9_max_7cf53 6 = .ok (.goto 4, 3) := by decide +kernel
theorem dJ9_max_7cf53_9 : decode cJ9_max_7cf53 9 = .ok (.iload_n 1, 1) := by decide +kernel
theorem dJ9_max_7cf53_10 : decode cJ9_max_7cf53 10 = .ok (.ireturn, 1) := by decide +kernel
theorem dJ9_min_7cf53_0 : decode cJ9_min_7cf53 0 = .ok (.iload_n 0, 1) := by decide +kernel
theorem dJ9_min_7cf53_1 : decode cJ9_min_7cf53 1 = .ok (.iload_n 1, 1) := by decide +kernel
theorem dJ9_min_7cf53_2 : decode cJ9_min_7cf53 2 = .ok (.if_icmp .gt 7, 3) := by decide +kernel
theorem dJ9_min_7cf53_5 : decode cJ9_min_7cf53 5 = .ok (.iload_n 0, 1) := by decide +kernel
theorem dJ9_min_7cf53_6 : decode cJ9_min_7cf53 6 = .ok (.goto 4, 3) := by decide +kernel
theorem dJ9_min_7cf53_9 : decode cJ9_min_7cf53 9 = .ok (.iload_n 1, 1) := by decide +kernel
theorem dJ9_min_7cf53_10 : decode cJ9_min_7cf53 10 = .ok (.ireturn, 1) := by decide +kernel
theorem dJ0_length_8abf5_0 : decode cJ0_length_8abf5 0 = .ok (.aload_n 0, 1) := by decide +kernel
theorem dJ0_length_8abf5_1 : decode cJ0_length_8abf5 1 = .ok (.getfield 9, 3) := by decide +kernel
theorem dJ0_length_8abf5_4 : decode cJ0_length_8abf5 4 = .ok (.arraylength, 1) := by decide +kernel
theorem dJ0_length_8abf5_5 : decode cJ0_length_8abf5 5 = .ok (.aload_n 0, 1) := by decide +kernel
theorem dJ0_length_8abf5_6 : decode cJ0_length_8abf5 6 = .ok (.invokevirtual 335, 3) := by decide +kernel
theorem dJ0_length_8abf5_9 : decode cJ0_length_8abf5 9 = .ok (.ishr, 1) := by decide +kernel
theorem dJ0_length_8abf5_10 : decode cJ0_length_8abf5 10 = .ok (.ireturn, 1) := by decide +kernel
theorem dJ0_charAt_5068e_0 : decode cJ0_charAt_5068e 0 = .ok (.aload_n 0, 1) := by decide +kernel
theorem dJ0_charAt_5068e_1 : decode cJ0_charAt_5068e 1 = .ok (.invokevirtual 492, 3) := by decide +kernel
theorem dJ0_charAt_5068e_4 : decode cJ0_charAt_5068e 4 = .ok (.ifCond .eq 12, 3) := by decide +kernel
theorem dJ0_charAt_5068e_7 : decode cJ0_charAt_5068e 7 = .ok (.aload_n 0, 1) := by decide +kernel
theorem dJ0_charAt_5068e_8 : decode cJ0_charAt_5068e 8 = .ok (.getfield 9, 3) := by decide +kernel
theorem dJ0_charAt_5068e_11 : decode cJ0_charAt_5068e 11 = .ok (.iload_n 1, 1) := by decide +kernel
theorem dJ0_charAt_5068e_12 : decode cJ0_charAt_5068e 12 = .ok (.invokestatic 495, 3) := by decide +kernel
theorem dJ0_charAt_5068e_15 : decode cJ0_charAt_5068e 15 = .ok (.ireturn, 1) := by decide +kernel
theorem dJ0_charAt_5068e_16 : decode cJ0_charAt_5068e 16 = .ok (.aload_n 0, 1) := by decide +kernel
theorem dJ0_charAt_5068e_17 : decode cJ0_charAt_5068e 17 = .ok (.getfield 9, 3) := by decide +kernel
theorem dJ0_charAt_5068e_20 : decode cJ0_charAt_5068e 20 = .ok (.iload_n 1, 1) := by decide +kernel
theorem dJ0_charAt_5068e_21 : decode cJ0_charAt_5068e 21 = .ok (.invokestatic 498, 3) := by decide +kernel
theorem dJ0_charAt_5068e_24 : decode cJ0_charAt_5068e 24 = .ok (.ireturn, 1) := by decide +kernel
theorem dJ0_coder_7d493_0 : decode cJ0_coder_7d493 0 = .ok (.getstatic 38, 3) := by decide +kernel
theorem dJ0_coder_7d493_3 : decode cJ0_coder_7d493 3 = .ok (.ifCond .eq 10, 3) := by decide +kernel
theorem dJ0_coder_7d493_6 : decode cJ0_coder_7d493 6 = .ok (.aload_n 0, 1) := by decide +kernel
theorem dJ0_coder_7d493_7 : decode cJ0_coder_7d493 7 = .ok (.getfield 15, 3) := by decide +kernel
theorem dJ0_coder_7d493_10 : decode cJ0_coder_7d493 10 = .ok (.goto 4, 3) := by decide +kernel
theorem dJ0_coder_7d493_13 : decode cJ0_coder_7d493 13 = .ok (.iconst 1, 1) := by decide +kernel
theorem dJ0_coder_7d493_14 : decode cJ0_coder_7d493 14 = .ok (.ireturn, 1) := by decide +kernel
theorem dJ0_isLatin1_aae02_0 : decode cJ0_isLatin1_aae02 0 = .ok (.getstatic 38, 3) := by decide +kernel
theorem dJ0_isLatin1_aae02_3 : decode cJ0_isLatin1_aae02 3 = .ok (.ifCond .eq 14, 3) := by decide +kernel
theorem dJ0_isLatin1_aae02_6 : decode cJ0_isLatin1_aae02 6 = .ok (.aload_n 0, 1) := by decide +kernel
theorem dJ0_isLatin1_aae02_7 : decode cJ0_isLatin1_aae02 7 = .ok (.getfield 15, 3) := by decide +kernel
theorem dJ0_isLatin1_aae02_10 : decode cJ0_isLatin1_aae02 10 = .ok (.ifCond .ne 7, 3) := by decide +kernel
theorem dJ0_isLatin1_aae02_13 : decode cJ0_isLatin1_aae02 13 = .ok (.iconst 1, 1) := by decide +kernel
theorem dJ0_isLatin1_aae02_14 : decode cJ0_isLatin1_aae02 14 = .ok (.goto 4, 3) := by decide +kernel
theorem dJ0_isLatin1_aae02_17 : decode cJ0_isLatin1_aae02 17 = .ok (.iconst 0, 1) := by decide +kernel
theorem dJ0_isLatin1_aae02_18 : decode cJ0_isLatin1_aae02 18 = .ok (.ireturn, 1) := by decide +kernel
theorem dJ0_checkIndex_df160_0 : decode cJ0_checkIndex_df160 0 = .ok (.iload_n 0, 1) := by decide +kernel
theorem dJ0_checkIndex_df160_1 : decode cJ0_checkIndex_df160 1 = .ok (.iload_n 1, 1) := by decide +kernel
theorem dJ0_checkIndex_df160_2 : decode cJ0_checkIndex_df160 2 = .ok (.getstatic 1053, 3) := by decide +kernel
theorem dJ0_checkIndex_df160_5 : decode cJ0_checkIndex_df160 5 = .ok (.invokestatic 1059, 3) := by decide +kernel
theorem dJ0_checkIndex_df160_8 : decode cJ0_checkIndex_df160 8 = .ok (.pop, 1) := by decide +kernel
theorem dJ0_checkIndex_df160_9 : decode cJ0_checkIndex_df160 9 = .ok (.return_, 1) := by decide +kernel
theorem dJ1_charAt_3b067_0 : decode cJ1_charAt_3b067 0 = .ok (.iload_n 1, 1) := by decide +kernel
theorem dJ1_charAt_3b067_1 : decode cJ1_charAt_3b067 1 = .ok (.aload_n 0, 1) := by decide +kernel
theorem dJ1_charAt_3b067_2 : decode cJ1_charAt_3b067 2 = .ok (.arraylength, 1) := by decide +kernel
theorem dJ1_charAt_3b067_3 : decode cJ1_charAt_3b067 3 = .ok (.invokestatic 9, 3) := by decide +kernel
theorem dJ1_charAt_3b067_6 : decode cJ1_charAt_3b067 6 = .ok (.aload_n 0, 1) := by decide +kernel
theorem dJ1_charAt_3b067_7 : decode cJ1_charAt_3b067 7 = .ok (.iload_n 1, 1) := by decide +kernel
theorem dJ1_charAt_3b067_8 : decode cJ1_charAt_3b067 8 = .ok (.baload, 1) := by decide +kernel
theorem dJ1_charAt_3b067_9 : decode cJ1_charAt_3b067 9 = .ok (.sipush 255, 3) := by decide +kernel
theorem dJ1_charAt_3b067_12 : decode cJ1_charAt_3b067 12 = .ok (.iand, 1) := by decide +kernel
theorem dJ1_charAt_3b067_13 : decode cJ1_charAt_3b067 13 = .ok (.i2c, 1) := by decide +kernel
theorem dJ1_charAt_3b067_14 : decode cJ1_charAt_3b067 14 = .ok (.ireturn, 1) := by decide +kernel
theorem dJ2_getChar_3b067_0 : decode cJ2_getChar_3b067 0 = .ok (.getstatic 44, 3) := by decide +kernel
theorem dJ2_getChar_3b067_3 : decode cJ2_getChar_3b067 3 = .ok (.ifCond .ne 25, 3) := by decide +kernel
theorem dJ2_getChar_3b067_6 : decode cJ2_getChar_3b067 6 = .ok (.iload_n 1, 1) := by decide +kernel
theorem dJ2_getChar_3b067_7 : decode cJ2_getChar_3b067 7 = .ok (.ifCond .lt 11, 3) := by decide +kernel
theorem dJ2_getChar_3b067_10 : decode cJ2_getChar_3b067 10 = .ok (.iload_n 1, 1) := by decide +kernel
theorem dJ2_getChar_3b067_11 : decode cJ2_getChar_3b067 11 = .ok (.aload_n 0, 1) := by decide +kernel
theorem dJ2_getChar_3b067_12 : decode cJ2_getChar_3b067 12 = .ok (.invokestatic 48, 3) := by decide +kernel
theorem dJ2_getChar_3b067_15 : decode cJ2_getChar_3b067 15 = .ok (.if_icmp .lt 13, 3) := by decide +kernel
theorem dJ2_getChar_3b067_18 : decode cJ2_getChar_3b067 18 = .ok (.new 52, 3) := by decide +kernel
theorem dJ2_getChar_3b067_21 : decode cJ2_getChar_3b067 21 = .ok (.dup, 1) := by decide +kernel
theorem dJ2_getChar_3b067_22 : decode cJ2_getChar_3b067 22 = .ok (.ldc 54, 2) := by decide +kernel
theorem dJ2_getChar_3b067_24 : decode cJ2_getChar_3b067 24 = .ok (.invokespecial 56, 3) := by decide +kernel
theorem dJ2_getChar_3b067_27 : decode cJ2_getChar_3b067 27 = .ok (.athrow, 1) := by decide +kernel
theorem dJ2_getChar_3b067_28 : decode cJ2_getChar_3b067 28 = .ok (.iload_n 1, 1) := by decide +kernel
theorem dJ2_getChar_3b067_29 : decode cJ2_getChar_3b067 29 = .ok (.iconst 1, 1) := by decide +kernel
theorem dJ2_getChar_3b067_30 : decode cJ2_getChar_3b067 30 = .ok (.ishl, 1) := by decide +kernel
theorem dJ2_getChar_3b067_31 : decode cJ2_getChar_3b067 31 = .ok (.istore_n 1, 1) := by decide +kernel
theorem dJ2_getChar_3b067_32 : decode cJ2_getChar_3b067 32 = .ok (.aload_n 0, 1) := by decide +kernel
theorem dJ2_getChar_3b067_33 : decode cJ2_getChar_3b067 33 = .ok (.iload_n 1, 1) := by decide +kernel
theorem dJ2_getChar_3b067_34 : decode cJ2_getChar_3b067 34 = .ok (.iinc 1 1, 3) := by decide +kernel
theorem dJ2_getChar_3b067_37 : decode cJ2_getChar_3b067 37 = .ok (.baload, 1) := by decide +kernel
theorem dJ2_getChar_3b067_38 : decode cJ2_getChar_3b067 38 = .ok (.sipush 255, 3) := by decide +kernel
theorem dJ2_getChar_3b067_41 : decode cJ2_getChar_3b067 41 = .ok (.iand, 1) := by decide +kernel
theorem dJ2_getChar_3b067_42 : decode cJ2_getChar_3b067 42 = .ok (.getstatic 59, 3) := by decide +kernel
theorem dJ2_getChar_3b067_45 : decode cJ2_getChar_3b067 45 = .ok (.ishl, 1) := by decide +kernel
theorem dJ2_getChar_3b067_46 : decode cJ2_getChar_3b067 46 = .ok (.aload_n 0, 1) := by decide +kernel
theorem dJ2_getChar_3b067_47 : decode cJ2_getChar_3b067 47 = .ok (.iload_n 1, 1) := by decide +kernel
theorem dJ2_getChar_3b067_48 : decode cJ2_getChar_3b067 48 = .ok (.baload, 1) := by decide +kernel
theorem dJ2_getChar_3b067_49 : decode cJ2_getChar_3b067 49 = .ok (.sipush 255, 3) := by decide +kernel
theorem dJ2_getChar_3b067_52 : decode cJ2_getChar_3b067 52 = .ok (.iand, 1) := by decide +kernel
theorem dJ2_getChar_3b067_53 : decode cJ2_getChar_3b067 53 = .ok (.getstatic 63, 3) := by decide +kernel
theorem dJ2_getChar_3b067_56 : decode cJ2_getChar_3b067 56 = .ok (.ishl, 1) := by decide +kernel
theorem dJ2_getChar_3b067_57 : decode cJ2_getChar_3b067 57 = .ok (.ior, 1) := by decide +kernel
theorem dJ2_getChar_3b067_58 : decode cJ2_getChar_3b067 58 = .ok (.i2c, 1) := by decide +kernel
theorem dJ2_getChar_3b067_59 : decode cJ2_getChar_3b067 59 = .ok (.ireturn, 1) := by decide +kernel
theorem dJ2_length_9d52b_0 : decode cJ2_length_9d52b 0 = .ok (.aload_n 0, 1) := by decide +kernel
theorem dJ2_length_9d52b_1 : decode cJ2_length_9d52b 1 = .ok (.arraylength, 1) := by decide +kernel
theorem dJ2_length_9d52b_2 : decode cJ2_length_9d52b 2 = .ok (.iconst 1, 1) := by decide +kernel
theorem dJ2_length_9d52b_3 : decode cJ2_length_9d52b 3 = .ok (.ishr, 1) := by decide +kernel
theorem dJ2_length_9d52b_4 : decode cJ2_length_9d52b 4 = .ok (.ireturn, 1) := by decide +kernel
theorem dJ2_charAt_3b067_0 : decode cJ2_charAt_3b067 0 = .ok (.iload_n 1, 1) := by decide +kernel
theorem dJ2_charAt_3b067_1 : decode cJ2_charAt_3b067 1 = .ok (.aload_n 0, 1) := by decide +kernel
theorem dJ2_charAt_3b067_2 : decode cJ2_charAt_3b067 2 = .ok (.invokestatic 67, 3) := by decide +kernel
theorem dJ2_charAt_3b067_5 : decode cJ2_charAt_3b067 5 = .ok (.aload_n 0, 1) := by decide +kernel
theorem dJ2_charAt_3b067_6 : decode cJ2_charAt_3b067 6 = .ok (.iload_n 1, 1) := by decide +kernel
theorem dJ2_charAt_3b067_7 : decode cJ2_charAt_3b067 7 = .ok (.invokestatic 71, 3) := by decide +kernel
theorem dJ2_charAt_3b067_10 : decode cJ2_charAt_3b067 10 = .ok (.ireturn, 1) := by decide +kernel
theorem dJ2_checkIndex_2214a_0 : decode cJ2_checkIndex_2214a 0 = .ok (.iload_n 0, 1) := by decide +kernel
theorem dJ2_checkIndex_2214a_1 : decode cJ2_checkIndex_2214a 1 = .ok (.aload_n 1, 1) := by decide +kernel
theorem dJ2_checkIndex_2214a_2 : decode cJ2_checkIndex_2214a 2 = .ok (.invokestatic 48, 3) := by decide +kernel
theorem dJ2_checkIndex_2214a_5 : decode cJ2_checkIndex_2214a 5 = .ok (.invokestatic 414, 3) := by decide +kernel
theorem dJ2_checkIndex_2214a_8 : decode cJ2_checkIndex_2214a 8 = .ok (.return_, 1) := by decide +kernel
theorem dJ3_checkIndex_8e157_0 : decode cJ3_checkIndex_8e157 0 = .ok (.iload_n 0, 1) := by decide +kernel
theorem dJ3_checkIndex_8e157_1 : decode cJ3_checkIndex_8e157 1 = .ok (.ifCond .lt 8, 3) := by decide +kernel
theorem dJ3_checkIndex_8e157_4 : decode cJ3_checkIndex_8e157 4 = .ok (.iload_n 0, 1) := by decide +kernel
theorem dJ3_checkIndex_8e157_5 : decode cJ3_checkIndex_8e157 5 = .ok (.iload_n 1, 1) := by decide +kernel
theorem dJ3_checkIndex_8e157_6 : decode cJ3_checkIndex_8e157 6 = .ok (.if_icmp .lt 10, 3) := by decide +kernel
theorem dJ3_checkIndex_8e157_9 : decode cJ3_checkIndex_8e157 9 = .ok (.aload_n 2, 1) := by decide +kernel
theorem dJ3_checkIndex_8e157_10 : decode cJ3_checkIndex_8e157 10 = .ok (.iload_n 0, 1) := by decide +kernel
theorem dJ3_checkIndex_8e157_11 : decode cJ3_checkIndex_8e157 11 = .ok (.iload_n 1, 1) := by decide +kernel
theorem dJ3_checkIndex_8e157_12 : decode cJ3_checkIndex_8e157 12 = .ok (.invokestatic 95, 3) := by decide +kernel
theorem dJ3_checkIndex_8e157_15 : decode cJ3_checkIndex_8e157 15 = .ok (.athrow, 1) := by decide +kernel
theorem dJ3_checkIndex_8e157_16 : decode cJ3_checkIndex_8e157 16 = .ok (.iload_n 0, 1) := by decide +kernel
theorem dJ3_checkIndex_8e157_17 : decode cJ3_checkIndex_8e157 17 = .ok (.ireturn, 1) := by decide +kernel
theorem dL_law_0 : decode cL_law 0 = .ok (.new 7, 3) := by decide +kernel
theorem dL_law_3 : decode cL_law 3 = .ok (.dup, 1) := by decide +kernel
theorem dL_law_4 : decode cL_law 4 = .ok (.invokespecial 9, 3) := by decide +kernel
theorem dL_law_7 : decode cL_law 7 = .ok (.astore_n 1, 1) := by decide +kernel
theorem dL_law_8 : decode cL_law 8 = .ok (.new 10, 3) := by decide +kernel
theorem dL_law_11 : decode cL_law 11 = .ok (.dup, 1) := by decide +kernel
theorem dL_law_12 : decode cL_law 12 = .ok (.invokespecial 12, 3) := by decide +kernel
theorem dL_law_15 : decode cL_law 15 = .ok (.astore_n 2, 1) := by decide +kernel
theorem dL_law_16 : decode cL_law 16 = .ok (.iconst 0, 1) := by decide +kernel
theorem dL_law_17 : decode cL_law 17 = .ok (.istore_n 3, 1) := by decide +kernel
theorem dL_law_18 : decode cL_law 18 = .ok (.iload_n 3, 1) := by decide +kernel
theorem dL_law_19 : decode cL_law 19 = .ok (.aload_n 0, 1) := by decide +kernel
theorem dL_law_20 : decode cL_law 20 = .ok (.arraylength, 1) := by decide +kernel
theorem dL_law_21 : decode cL_law 21 = .ok (.bipush 6, 2) := by decide +kernel
theorem dL_law_23 : decode cL_law 23 = .ok (.isub, 1) := by decide +kernel
theorem dL_law_24 : decode cL_law 24 = .ok (.if_icmp .gt 1050, 3) := by decide +kernel
theorem dL_law_27 : decode cL_law 27 = .ok (.aload_n 0, 1) := by decide +kernel
theorem dL_law_28 : decode cL_law 28 = .ok (.iload_n 3, 1) := by decide +kernel
theorem dL_law_29 : decode cL_law 29 = .ok (.iaload, 1) := by decide +kernel
theorem dL_law_30 : decode cL_law 30 = .ok (.bipush 31, 2) := by decide +kernel
theorem dL_law_32 : decode cL_law 32 = .ok (.iand, 1) := by decide +kernel
theorem dL_law_33 : decode cL_law 33 = .ok (.tableswitch 1035 0 29 #[135, 178, 221, 284, 307, 370, 383, 396, 419, 452, 475, 498, 511, 544, 577, 610, 643, 686, 719, 752, 805, 818, 841, 864, 887, 910, 943, 976, 999, 1022], 135) := by decide +kernel
theorem dL_law_168 : decode cL_law 168 = .ok (.aload_n 1, 1) := by decide +kernel
theorem dL_law_169 : decode cL_law 169 = .ok (.aload_n 0, 1) := by decide +kernel
theorem dL_law_170 : decode cL_law 170 = .ok (.iload_n 3, 1) := by decide +kernel
theorem dL_law_171 : decode cL_law 171 = .ok (.iconst 1, 1) := by decide +kernel
theorem dL_law_172 : decode cL_law 172 = .ok (.iadd, 1) := by decide +kernel
theorem dL_law_173 : decode cL_law 173 = .ok (.iaload, 1) := by decide +kernel
theorem dL_law_174 : decode cL_law 174 = .ok (.aload_n 0, 1) := by decide +kernel
theorem dL_law_175 : decode cL_law 175 = .ok (.iload_n 3, 1) := by decide +kernel
theorem dL_law_176 : decode cL_law 176 = .ok (.iconst 2, 1) := by decide +kernel
theorem dL_law_177 : decode cL_law 177 = .ok (.iadd, 1) := by decide +kernel
theorem dL_law_178 : decode cL_law 178 = .ok (.iaload, 1) := by decide +kernel
theorem dL_law_179 : decode cL_law 179 = .ok (.aload_n 0, 1) := by decide +kernel
theorem dL_law_180 : decode cL_law 180 = .ok (.iload_n 3, 1) := by decide +kernel
theorem dL_law_181 : decode cL_law 181 = .ok (.iconst 3, 1) := by decide +kernel
theorem dL_law_182 : decode cL_law 182 = .ok (.iadd, 1) := by decide +kernel
theorem dL_law_183 : decode cL_law 183 = .ok (.iaload, 1) := by decide +kernel
theorem dL_law_184 : decode cL_law 184 = .ok (.invokevirtual 13, 3) := by decide +kernel
theorem dL_law_187 : decode cL_law 187 = .ok (.aload_n 2, 1) := by decide +kernel
theorem dL_law_188 : decode cL_law 188 = .ok (.aload_n 0, 1) := by decide +kernel
theorem dL_law_189 : decode cL_law 189 = .ok (.iload_n 3, 1) := by decide +kernel
theorem dL_law_190 : decode cL_law 190 = .ok (.iconst 1, 1) := by decide +kernel
theorem dL_law_191 : decode cL_law 191 = .ok (.iadd, 1) := by decide +kernel
theorem dL_law_192 : decode cL_law 192 = .ok (.iaload, 1) := by decide +kernel
theorem dL_law_193 : decode cL_law 193 = .ok (.aload_n 0, 1) := by decide +kernel
theorem dL_law_194 : decode cL_law 194 = .ok (.iload_n 3, 1) := by decide +kernel
theorem dL_law_195 : decode cL_law 195 = .ok (.iconst 2, 1) := by decide +kernel
theorem dL_law_196 : decode cL_law 196 = .ok (.iadd, 1) := by decide +kernel
theorem dL_law_197 : decode cL_law 197 = .ok (.iaload, 1) := by decide +kernel
theorem dL_law_198 : decode cL_law 198 = .ok (.aload_n 0, 1) := by decide +kernel
theorem dL_law_199 : decode cL_law 199 = .ok (.iload_n 3, 1) := by decide +kernel
theorem dL_law_200 : decode cL_law 200 = .ok (.iconst 3, 1) := by decide +kernel
theorem dL_law_201 : decode cL_law 201 = .ok (.iadd, 1) := by decide +kernel
theorem dL_law_202 : decode cL_law 202 = .ok (.iaload, 1) := by decide +kernel
theorem dL_law_203 : decode cL_law 203 = .ok (.invokevirtual 17, 3) := by decide +kernel
theorem dL_law_206 : decode cL_law 206 = .ok (.if_icmp .eq 862, 3) := by decide +kernel
theorem dL_law_209 : decode cL_law 209 = .ok (.iconst 0, 1) := by decide +kernel
theorem dL_law_210 : decode cL_law 210 = .ok (.ireturn, 1) := by decide +kernel
theorem dL_law_211 : decode cL_law 211 = .ok (.aload_n 1, 1) := by decide +kernel
theorem dL_law_212 : decode cL_law 212 = .ok (.aload_n 0, 1) := by decide +kernel
theorem dL_law_213 : decode cL_law 213 = .ok (.iload_n 3, 1) := by decide +kernel
theorem dL_law_214 : decode cL_law 214 = .ok (.iconst 1, 1) := by decide +kernel
theorem dL_law_215 : decode cL_law 215 = .ok (.iadd, 1) := by decide +kernel
theorem dL_law_216 : decode cL_law 216 = .ok (.iaload, 1) := by decide +kernel
theorem dL_law_217 : decode cL_law 217 = .ok (.aload_n 0, 1) := by decide +kernel
theorem dL_law_218 : decode cL_law 218 = .ok (.iload_n 3, 1) := by decide +kernel
theorem dL_law_219 : decode cL_law 219 = .ok (.iconst 2, 1) := by decide +kernel
theorem dL_law_220 : decode cL_law 220 = .ok (.iadd, 1) := by decide +kernel
theorem dL_law_221 : decode cL_law 221 = .ok (.iaload, 1) := by decide +kernel
theorem dL_law_222 : decode cL_law 222 = .ok (.aload_n 0, 1) := by decide +kernel
theorem dL_law_223 : decode cL_law 223 = .ok (.iload_n 3, 1) := by decide +kernel
theorem dL_law_224 : decode cL_law 224 = .ok (.iconst 3, 1) := by decide +kernel
theorem dL_law_225 : decode cL_law 225 = .ok (.iadd, 1) := by decide +kernel
theorem dL_law_226 : decode cL_law 226 = .ok (.iaload, 1) := by decide +kernel
theorem dL_law_227 : decode cL_law 227 = .ok (.invokevirtual 18, 3) := by decide +kernel
theorem dL_law_230 : decode cL_law 230 = .ok (.aload_n 2, 1) := by decide +kernel
theorem dL_law_231 : decode cL_law 231 = .ok (.aload_n 0, 1) := by decide +kernel
theorem dL_law_232 : decode cL_law 232 = .ok (.iload_n 3, 1) := by decide +kernel
theorem dL_law_233 : decode cL_law 233 = .ok (.iconst 1, 1) := by decide +kernel
theorem dL_law_234 : decode cL_law 234 = .ok (.iadd, 1) := by decide +kernel
theorem dL_law_235 : decode cL_law 235 = .ok (.iaload, 1) := by decide +kernel
theorem dL_law_236 : decode cL_law 236 = .ok (.aload_n 0, 1) := by decide +kernel
theorem dL_law_237 : decode cL_law 237 = .ok (.iload_n 3, 1) := by decide +kernel
theorem dL_law_238 : decode cL_law 238 = .ok (.iconst 2, 1) := by decide +kernel
theorem dL_law_239 : decode cL_law 239 = .ok (.iadd, 1) := by decide +kernel
theorem dL_law_240 : decode cL_law 240 = .ok (.iaload, 1) := by decide +kernel
theorem dL_law_241 : decode cL_law 241 = .ok (.aload_n 0, 1) := by decide +kernel
theorem dL_law_242 : decode cL_law 242 = .ok (.iload_n 3, 1) := by decide +kernel
theorem dL_law_243 : decode cL_law 243 = .ok (.iconst 3, 1) := by decide +kernel
theorem dL_law_244 : decode cL_law 244 = .ok (.iadd, 1) := by decide +kernel
theorem dL_law_245 : decode cL_law 245 = .ok (.iaload, 1) := by decide +kernel
theorem dL_law_246 : decode cL_law 246 = .ok (.invokevirtual 21, 3) := by decide +kernel
theorem dL_law_249 : decode cL_law 249 = .ok (.if_icmp .eq 819, 3) := by decide +kernel
theorem dL_law_252 : decode cL_law 252 = .ok (.iconst 0, 1) := by decide +kernel
theorem dL_law_253 : decode cL_law 253 = .ok (.ireturn, 1) := by decide +kernel
theorem dL_law_254 : decode cL_law 254 = .ok (.aload_n 1, 1) := by decide +kernel
theorem dL_law_255 : decode cL_law 255 = .ok (.aload_n 0, 1) := by decide +kernel
theorem dL_law_256 : decode cL_law 256 = .ok (.iload_n 3, 1) := by decide +kernel
theorem dL_law_257 : decode cL_law 257 = .ok (.iconst 1, 1) := by decide +kernel
theorem dL_law_258 : decode cL_law 258 = .ok (.iadd, 1) := by decide +kernel
theorem dL_law_259 : decode cL_law 259 = .ok (.iaload, 1) := by decide +kernel
theorem dL_law_260 : decode cL_law 260 = .ok (.aload_n 0, 1) := by decide +kernel
theorem dL_law_261 : decode cL_law 261 = .ok (.iload_n 3, 1) := by decide +kernel
theorem dL_law_262 : decode cL_law 262 = .ok (.iconst 2, 1) := by decide +kernel
theorem dL_law_263 : decode cL_law 263 = .ok (.iadd, 1) := by decide +kernel
theorem dL_law_264 : decode cL_law 264 = .ok (.iaload, 1) := by decide +kernel
theorem dL_law_265 : decode cL_law 265 = .ok (.aload_n 0, 1) := by decide +kernel
theorem dL_law_266 : decode cL_law 266 = .ok (.iload_n 3, 1) := by decide +kernel
theorem dL_law_267 : decode cL_law 267 = .ok (.iconst 3, 1) := by decide +kernel
theorem dL_law_268 : decode cL_law 268 = .ok (.iadd, 1) := by decide +kernel
theorem dL_law_269 : decode cL_law 269 = .ok (.iaload, 1) := by decide +kernel
theorem dL_law_270 : decode cL_law 270 = .ok (.aload_n 0, 1) := by decide +kernel
theorem dL_law_271 : decode cL_law 271 = .ok (.iload_n 3, 1) := by decide +kernel
theorem dL_law_272 : decode cL_law 272 = .ok (.iconst 4, 1) := by decide +kernel
theorem dL_law_273 : decode cL_law 273 = .ok (.iadd, 1) := by decide +kernel
theorem dL_law_274 : decode cL_law 274 = .ok (.iaload, 1) := by decide +kernel
theorem dL_law_275 : decode cL_law 275 = .ok (.aload_n 0, 1) := by decide +kernel
theorem dL_law_276 : decode cL_law 276 = .ok (.iload_n 3, 1) := by decide +kernel
theorem dL_law_277 : decode cL_law 277 = .ok (.iconst 5, 1) := by decide +kernel
theorem dL_law_278 : decode cL_law 278 = .ok (.iadd, 1) := by decide +kernel
theorem dL_law_279 : decode cL_law 279 = .ok (.iaload, 1) := by decide +kernel
theorem dL_law_280 : decode cL_law 280 = .ok (.invokevirtual 22, 3) := by decide +kernel
theorem dL_law_283 : decode cL_law 283 = .ok (.aload_n 2, 1) := by decide +kernel
theorem dL_law_284 : decode cL_law 284 = .ok (.aload_n 0, 1) := by decide +kernel
theorem dL_law_285 : decode cL_law 285 = .ok (.iload_n 3, 1) := by decide +kernel
theorem dL_law_286 : decode cL_law 286 = .ok (.iconst 1, 1) := by decide +kernel
theorem dL_law_287 : decode cL_law 287 = .ok (.iadd, 1) := by decide +kernel
theorem dL_law_288 : decode cL_law 288 = .ok (.iaload, 1) := by decide +kernel
theorem dL_law_289 : decode cL_law 289 = .ok (.aload_n 0, 1) := by decide +kernel
theorem dL_law_290 : decode cL_law 290 = .ok (.iload_n 3, 1) := by decide +kernel
theorem dL_law_291 : decode cL_law 291 = .ok (.iconst 2, 1) := by decide +kernel
theorem dL_law_292 : decode cL_law 292 = .ok (.iadd, 1) := by decide +kernel
theorem dL_law_293 : decode cL_law 293 = .ok (.iaload, 1) := by decide +kernel
theorem dL_law_294 : decode cL_law 294 = .ok (.aload_n 0, 1) := by decide +kernel
theorem dL_law_295 : decode cL_law 295 = .ok (.iload_n 3, 1) := by decide +kernel
theorem dL_law_296 : decode cL_law 296 = .ok (.iconst 3, 1) := by decide +kernel
theorem dL_law_297 : decode cL_law 297 = .ok (.iadd, 1) := by decide +kernel
theorem dL_law_298 : decode cL_law 298 = .ok (.iaload, 1) := by decide +kernel
theorem dL_law_299 : decode cL_law 299 = .ok (.aload_n 0, 1) := by decide +kernel
theorem dL_law_300 : decode cL_law 300 = .ok (.iload_n 3, 1) := by decide +kernel
theorem dL_law_301 : decode cL_law 301 = .ok (.iconst 4, 1) := by decide +kernel
theorem dL_law_302 : decode cL_law 302 = .ok (.iadd, 1) := by decide +kernel
theorem dL_law_303 : decode cL_law 303 = .ok (.iaload, 1) := by decide +kernel
theorem dL_law_304 : decode cL_law 304 = .ok (.aload_n 0, 1) := by decide +kernel
theorem dL_law_305 : decode cL_law 305 = .ok (.iload_n 3, 1) := by decide +kernel
theorem dL_law_306 : decode cL_law 306 = .ok (.iconst 5, 1) := by decide +kernel
theorem dL_law_307 : decode cL_law 307 = .ok (.iadd, 1) := by decide +kernel
theorem dL_law_308 : decode cL_law 308 = .ok (.iaload, 1) := by decide +kernel
theorem dL_law_309 : decode cL_law 309 = .ok (.invokevirtual 26, 3) := by decide +kernel
theorem dL_law_312 : decode cL_law 312 = .ok (.if_icmp .eq 756, 3) := by decide +kernel
end
section
theorem dL_law_315 : decode cL_law 315 = .ok (.iconst 0, 1) := by decide +kernel
theorem dL_law_316 : decode cL_law 316 = .ok (.ireturn, 1) := by decide +kernel
theorem dL_law_317 : decode cL_law 317 = .ok (.aload_n 1, 1) := by decide +kernel
theorem dL_law_318 : decode cL_law 318 = .ok (.aload_n 0, 1) := by decide +kernel
theorem dL_law_319 : decode cL_law 319 = .ok (.iload_n 3, 1) := by decide +kernel
theorem dL_law_320 : decode cL_law 320 = .ok (.iconst 1, 1) := by decide +kernel
theorem dL_law_321 : decode cL_law 321 = .ok (.iadd, 1) := by decide +kernel
theorem dL_law_322 : decode cL_law 322 = .ok (.iaload, 1) := by decide +kernel
theorem dL_law_323 : decode cL_law 323 = .ok (.invokevirtual 27, 3) := by decide +kernel
theorem dL_law_326 : decode cL_law 326 = .ok (.aload_n 2, 1) := by decide +kernel
theorem dL_law_327 : decode cL_law 327 = .ok (.aload_n 0, 1) := by decide +kernel
theorem dL_law_328 : decode cL_law 328 = .ok (.iload_n 3, 1) := by decide +kernel
theorem dL_law_329 : decode cL_law 329 = .ok (.iconst 1, 1) := by decide +kernel
theorem dL_law_330 : decode cL_law 330 = .ok (.iadd, 1) := by decide +kernel
theorem dL_law_331 : decode cL_law 331 = .ok (.iaload, 1) := by decide +kernel
theorem dL_law_332 : decode cL_law 332 = .ok (.invokevirtual 31, 3) := by decide +kernel
theorem dL_law_335 : decode cL_law 335 = .ok (.if_icmp .eq 733, 3) := by decide +kernel
theorem dL_law_338 : decode cL_law 338 = .ok (.iconst 0, 1) := by decide +kernel
theorem dL_law_339 : decode cL_law 339 = .ok (.ireturn, 1) := by decide +kernel
theorem dL_law_340 : decode cL_law 340 = .ok (.aload_n 1, 1) := by decide +kernel
theorem dL_law_341 : decode cL_law 341 = .ok (.aload_n 0, 1) := by decide +kernel
theorem dL_law_342 : decode cL_law 342 = .ok (.iload_n 3, 1) := by decide +kernel
theorem dL_law_343 : decode cL_law 343 = .ok (.iconst 1, 1) := by decide +kernel
theorem dL_law_344 : decode cL_law 344 = .ok (.iadd, 1) := by decide +kernel
theorem dL_law_345 : decode cL_law 345 = .ok (.iaload, 1) := by decide +kernel
theorem dL_law_346 : decode cL_law 346 = .ok (.i2l, 1) := by decide +kernel
theorem dL_law_347 : decode cL_law 347 = .ok (.bipush 32, 2) := by decide +kernel
theorem dL_law_349 : decode cL_law 349 = .ok (.lshl, 1) := by decide +kernel
theorem dL_law_350 : decode cL_law 350 = .ok (.aload_n 0, 1) := by decide +kernel
theorem dL_law_351 : decode cL_law 351 = .ok (.iload_n 3, 1) := by decide +kernel
theorem dL_law_352 : decode cL_law 352 = .ok (.iconst 2, 1) := by decide +kernel
theorem dL_law_353 : decode cL_law 353 = .ok (.iadd, 1) := by decide +kernel
theorem dL_law_354 : decode cL_law 354 = .ok (.iaload, 1) := by decide +kernel
theorem dL_law_355 : decode cL_law 355 = .ok (.i2l, 1) := by decide +kernel
theorem dL_law_356 : decode cL_law 356 = .ok (.ldc2_w 32, 3) := by decide +kernel
theorem dL_law_359 : decode cL_law 359 = .ok (.land, 1) := by decide +kernel
theorem dL_law_360 : decode cL_law 360 = .ok (.lor, 1) := by decide +kernel
theorem dL_law_361 : decode cL_law 361 = .ok (.aload_n 0, 1) := by decide +kernel
theorem dL_law_362 : decode cL_law 362 = .ok (.iload_n 3, 1) := by decide +kernel
theorem dL_law_363 : decode cL_law 363 = .ok (.iconst 3, 1) := by decide +kernel
theorem dL_law_364 : decode cL_law 364 = .ok (.iadd, 1) := by decide +kernel
theorem dL_law_365 : decode cL_law 365 = .ok (.iaload, 1) := by decide +kernel
theorem dL_law_366 : decode cL_law 366 = .ok (.invokevirtual 34, 3) := by decide +kernel
theorem dL_law_369 : decode cL_law 369 = .ok (.aload_n 2, 1) := by decide +kernel
theorem dL_law_370 : decode cL_law 370 = .ok (.aload_n 0, 1) := by decide +kernel
theorem dL_law_371 : decode cL_law 371 = .ok (.iload_n 3, 1) := by decide +kernel
theorem dL_law_372 : decode cL_law 372 = .ok (.iconst 1, 1) := by decide +kernel
theorem dL_law_373 : decode cL_law 373 = .ok (.iadd, 1) := by decide +kernel
theorem dL_law_374 : decode cL_law 374 = .ok (.iaload, 1) := by decide +kernel
theorem dL_law_375 : decode cL_law 375 = .ok (.i2l, 1) := by decide +kernel
theorem dL_law_376 : decode cL_law 376 = .ok (.bipush 32, 2) := by decide +kernel
theorem dL_law_378 : decode cL_law 378 = .ok (.lshl, 1) := by decide +kernel
theorem dL_law_379 : decode cL_law 379 = .ok (.aload_n 0, 1) := by decide +kernel
theorem dL_law_380 : decode cL_law 380 = .ok (.iload_n 3, 1) := by decide +kernel
theorem dL_law_381 : decode cL_law 381 = .ok (.iconst 2, 1) := by decide +kernel
theorem dL_law_382 : decode cL_law 382 = .ok (.iadd, 1) := by decide +kernel
theorem dL_law_383 : decode cL_law 383 = .ok (.iaload, 1) := by decide +kernel
theorem dL_law_384 : decode cL_law 384 = .ok (.i2l, 1) := by decide +kernel
theorem dL_law_385 : decode cL_law 385 = .ok (.ldc2_w 32, 3) := by decide +kernel
theorem dL_law_388 : decode cL_law 388 = .ok (.land, 1) := by decide +kernel
theorem dL_law_389 : decode cL_law 389 = .ok (.lor, 1) := by decide +kernel
theorem dL_law_390 : decode cL_law 390 = .ok (.aload_n 0, 1) := by decide +kernel
theorem dL_law_391 : decode cL_law 391 = .ok (.iload_n 3, 1) := by decide +kernel
theorem dL_law_392 : decode cL_law 392 = .ok (.iconst 3, 1) := by decide +kernel
theorem dL_law_393 : decode cL_law 393 = .ok (.iadd, 1) := by decide +kernel
theorem dL_law_394 : decode cL_law 394 = .ok (.iaload, 1) := by decide +kernel
theorem dL_law_395 : decode cL_law 395 = .ok (.invokevirtual 38, 3) := by decide +kernel
theorem dL_law_398 : decode cL_law 398 = .ok (.if_icmp .eq 670, 3) := by decide +kernel
theorem dL_law_401 : decode cL_law 401 = .ok (.iconst 0, 1) := by decide +kernel
theorem dL_law_402 : decode cL_law 402 = .ok (.ireturn, 1) := by decide +kernel
theorem dL_law_403 : decode cL_law 403 = .ok (.aload_n 1, 1) := by decide +kernel
theorem dL_law_404 : decode cL_law 404 = .ok (.invokevirtual 39, 3) := by decide +kernel
theorem dL_law_407 : decode cL_law 407 = .ok (.aload_n 2, 1) := by decide +kernel
theorem dL_law_408 : decode cL_law 408 = .ok (.invokevirtual 43, 3) := by decide +kernel
theorem dL_law_411 : decode cL_law 411 = .ok (.if_icmp .eq 657, 3) := by decide +kernel
theorem dL_law_414 : decode cL_law 414 = .ok (.iconst 0, 1) := by decide +kernel
theorem dL_law_415 : decode cL_law 415 = .ok (.ireturn, 1) := by decide +kernel
theorem dL_law_416 : decode cL_law 416 = .ok (.aload_n 1, 1) := by decide +kernel
theorem dL_law_417 : decode cL_law 417 = .ok (.invokevirtual 44, 3) := by decide +kernel
theorem dL_law_420 : decode cL_law 420 = .ok (.aload_n 2, 1) := by decide +kernel
theorem dL_law_421 : decode cL_law 421 = .ok (.invokevirtual 47, 3) := by decide +kernel
theorem dL_law_424 : decode cL_law 424 = .ok (.if_icmp .eq 644, 3) := by decide +kernel
theorem dL_law_427 : decode cL_law 427 = .ok (.iconst 0, 1) := by decide +kernel
theorem dL_law_428 : decode cL_law 428 = .ok (.ireturn, 1) := by decide +kernel
theorem dL_law_429 : decode cL_law 429 = .ok (.aload_n 1, 1) := by decide +kernel
theorem dL_law_430 : decode cL_law 430 = .ok (.aload_n 0, 1) := by decide +kernel
theorem dL_law_431 : decode cL_law 431 = .ok (.iload_n 3, 1) := by decide +kernel
theorem dL_law_432 : decode cL_law 432 = .ok (.iconst 1, 1) := by decide +kernel
theorem dL_law_433 : decode cL_law 433 = .ok (.iadd, 1) := by decide +kernel
theorem dL_law_434 : decode cL_law 434 = .ok (.iaload, 1) := by decide +kernel
theorem dL_law_435 : decode cL_law 435 = .ok (.invokevirtual 48, 3) := by decide +kernel
theorem dL_law_438 : decode cL_law 438 = .ok (.aload_n 2, 1) := by decide +kernel
theorem dL_law_439 : decode cL_law 439 = .ok (.aload_n 0, 1) := by decide +kernel
theorem dL_law_440 : decode cL_law 440 = .ok (.iload_n 3, 1) := by decide +kernel
theorem dL_law_441 : decode cL_law 441 = .ok (.iconst 1, 1) := by decide +kernel
theorem dL_law_442 : decode cL_law 442 = .ok (.iadd, 1) := by decide +kernel
theorem dL_law_443 : decode cL_law 443 = .ok (.iaload, 1) := by decide +kernel
theorem dL_law_444 : decode cL_law 444 = .ok (.invokevirtual 51, 3) := by decide +kernel
theorem dL_law_447 : decode cL_law 447 = .ok (.if_icmp .eq 621, 3) := by decide +kernel
theorem dL_law_450 : decode cL_law 450 = .ok (.iconst 0, 1) := by decide +kernel
theorem dL_law_451 : decode cL_law 451 = .ok (.ireturn, 1) := by decide +kernel
theorem dL_law_452 : decode cL_law 452 = .ok (.aload_n 1, 1) := by decide +kernel
theorem dL_law_453 : decode cL_law 453 = .ok (.aload_n 0, 1) := by decide +kernel
theorem dL_law_454 : decode cL_law 454 = .ok (.iload_n 3, 1) := by decide +kernel
theorem dL_law_455 : decode cL_law 455 = .ok (.iconst 1, 1) := by decide +kernel
theorem dL_law_456 : decode cL_law 456 = .ok (.iadd, 1) := by decide +kernel
theorem dL_law_457 : decode cL_law 457 = .ok (.iaload, 1) := by decide +kernel
theorem dL_law_458 : decode cL_law 458 = .ok (.aload_n 0, 1) := by decide +kernel
theorem dL_law_459 : decode cL_law 459 = .ok (.iload_n 3, 1) := by decide +kernel
theorem dL_law_460 : decode cL_law 460 = .ok (.iconst 2, 1) := by decide +kernel
theorem dL_law_461 : decode cL_law 461 = .ok (.iadd, 1) := by decide +kernel
theorem dL_law_462 : decode cL_law 462 = .ok (.iaload, 1) := by decide +kernel
theorem dL_law_463 : decode cL_law 463 = .ok (.invokevirtual 52, 3) := by decide +kernel
theorem dL_law_466 : decode cL_law 466 = .ok (.aload_n 2, 1) := by decide +kernel
theorem dL_law_467 : decode cL_law 467 = .ok (.aload_n 0, 1) := by decide +kernel
theorem dL_law_468 : decode cL_law 468 = .ok (.iload_n 3, 1) := by decide +kernel
theorem dL_law_469 : decode cL_law 469 = .ok (.iconst 1, 1) := by decide +kernel
theorem dL_law_470 : decode cL_law 470 = .ok (.iadd, 1) := by decide +kernel
theorem dL_law_471 : decode cL_law 471 = .ok (.iaload, 1) := by decide +kernel
theorem dL_law_472 : decode cL_law 472 = .ok (.aload_n 0, 1) := by decide +kernel
theorem dL_law_473 : decode cL_law 473 = .ok (.iload_n 3, 1) := by decide +kernel
theorem dL_law_474 : decode cL_law 474 = .ok (.iconst 2, 1) := by decide +kernel
theorem dL_law_475 : decode cL_law 475 = .ok (.iadd, 1) := by decide +kernel
theorem dL_law_476 : decode cL_law 476 = .ok (.iaload, 1) := by decide +kernel
theorem dL_law_477 : decode cL_law 477 = .ok (.invokevirtual 56, 3) := by decide +kernel
theorem dL_law_480 : decode cL_law 480 = .ok (.if_icmp .eq 588, 3) := by decide +kernel
theorem dL_law_483 : decode cL_law 483 = .ok (.iconst 0, 1) := by decide +kernel
theorem dL_law_484 : decode cL_law 484 = .ok (.ireturn, 1) := by decide +kernel
theorem dL_law_485 : decode cL_law 485 = .ok (.aload_n 1, 1) := by decide +kernel
theorem dL_law_486 : decode cL_law 486 = .ok (.aload_n 0, 1) := by decide +kernel
theorem dL_law_487 : decode cL_law 487 = .ok (.iload_n 3, 1) := by decide +kernel
theorem dL_law_488 : decode cL_law 488 = .ok (.iconst 1, 1) := by decide +kernel
theorem dL_law_489 : decode cL_law 489 = .ok (.iadd, 1) := by decide +kernel
theorem dL_law_490 : decode cL_law 490 = .ok (.iaload, 1) := by decide +kernel
theorem dL_law_491 : decode cL_law 491 = .ok (.invokevirtual 57, 3) := by decide +kernel
theorem dL_law_494 : decode cL_law 494 = .ok (.aload_n 2, 1) := by decide +kernel
theorem dL_law_495 : decode cL_law 495 = .ok (.aload_n 0, 1) := by decide +kernel
theorem dL_law_496 : decode cL_law 496 = .ok (.iload_n 3, 1) := by decide +kernel
theorem dL_law_497 : decode cL_law 497 = .ok (.iconst 1, 1) := by decide +kernel
theorem dL_law_498 : decode cL_law 498 = .ok (.iadd, 1) := by decide +kernel
theorem dL_law_499 : decode cL_law 499 = .ok (.iaload, 1) := by decide +kernel
theorem dL_law_500 : decode cL_law 500 = .ok (.invokevirtual 60, 3) := by decide +kernel
theorem dL_law_503 : decode cL_law 503 = .ok (.if_icmp .eq 565, 3) := by decide +kernel
theorem dL_law_506 : decode cL_law 506 = .ok (.iconst 0, 1) := by decide +kernel
theorem dL_law_507 : decode cL_law 507 = .ok (.ireturn, 1) := by decide +kernel
theorem dL_law_508 : decode cL_law 508 = .ok (.aload_n 1, 1) := by decide +kernel
theorem dL_law_509 : decode cL_law 509 = .ok (.aload_n 0, 1) := by decide +kernel
theorem dL_law_510 : decode cL_law 510 = .ok (.iload_n 3, 1) := by decide +kernel
theorem dL_law_511 : decode cL_law 511 = .ok (.iconst 1, 1) := by decide +kernel
theorem dL_law_512 : decode cL_law 512 = .ok (.iadd, 1) := by decide +kernel
theorem dL_law_513 : decode cL_law 513 = .ok (.iaload, 1) := by decide +kernel
theorem dL_law_514 : decode cL_law 514 = .ok (.invokevirtual 61, 3) := by decide +kernel
theorem dL_law_517 : decode cL_law 517 = .ok (.aload_n 2, 1) := by decide +kernel
theorem dL_law_518 : decode cL_law 518 = .ok (.aload_n 0, 1) := by decide +kernel
theorem dL_law_519 : decode cL_law 519 = .ok (.iload_n 3, 1) := by decide +kernel
theorem dL_law_520 : decode cL_law 520 = .ok (.iconst 1, 1) := by decide +kernel
theorem dL_law_521 : decode cL_law 521 = .ok (.iadd, 1) := by decide +kernel
theorem dL_law_522 : decode cL_law 522 = .ok (.iaload, 1) := by decide +kernel
theorem dL_law_523 : decode cL_law 523 = .ok (.invokevirtual 64, 3) := by decide +kernel
theorem dL_law_526 : decode cL_law 526 = .ok (.if_icmp .eq 542, 3) := by decide +kernel
theorem dL_law_529 : decode cL_law 529 = .ok (.iconst 0, 1) := by decide +kernel
theorem dL_law_530 : decode cL_law 530 = .ok (.ireturn, 1) := by decide +kernel
theorem dL_law_531 : decode cL_law 531 = .ok (.aload_n 1, 1) := by decide +kernel
theorem dL_law_532 : decode cL_law 532 = .ok (.invokevirtual 65, 3) := by decide +kernel
theorem dL_law_535 : decode cL_law 535 = .ok (.aload_n 2, 1) := by decide +kernel
theorem dL_law_536 : decode cL_law 536 = .ok (.invokevirtual 68, 3) := by decide +kernel
theorem dL_law_539 : decode cL_law 539 = .ok (.if_icmp .eq 529, 3) := by decide +kernel
theorem dL_law_542 : decode cL_law 542 = .ok (.iconst 0, 1) := by decide +kernel
theorem dL_law_543 : decode cL_law 543 = .ok (.ireturn, 1) := by decide +kernel
theorem dL_law_544 : decode cL_law 544 = .ok (.aload_n 1, 1) := by decide +kernel
theorem dL_law_545 : decode cL_law 545 = .ok (.aload_n 0, 1) := by decide +kernel
theorem dL_law_546 : decode cL_law 546 = .ok (.iload_n 3, 1) := by decide +kernel
theorem dL_law_547 : decode cL_law 547 = .ok (.iconst 1, 1) := by decide +kernel
theorem dL_law_548 : decode cL_law 548 = .ok (.iadd, 1) := by decide +kernel
theorem dL_law_549 : decode cL_law 549 = .ok (.iaload, 1) := by decide +kernel
theorem dL_law_550 : decode cL_law 550 = .ok (.aload_n 0, 1) := by decide +kernel
theorem dL_law_551 : decode cL_law 551 = .ok (.iload_n 3, 1) := by decide +kernel
theorem dL_law_552 : decode cL_law 552 = .ok (.iconst 2, 1) := by decide +kernel
theorem dL_law_553 : decode cL_law 553 = .ok (.iadd, 1) := by decide +kernel
theorem dL_law_554 : decode cL_law 554 = .ok (.iaload, 1) := by decide +kernel
theorem dL_law_555 : decode cL_law 555 = .ok (.invokevirtual 69, 3) := by decide +kernel
theorem dL_law_558 : decode cL_law 558 = .ok (.aload_n 2, 1) := by decide +kernel
theorem dL_law_559 : decode cL_law 559 = .ok (.aload_n 0, 1) := by decide +kernel
theorem dL_law_560 : decode cL_law 560 = .ok (.iload_n 3, 1) := by decide +kernel
theorem dL_law_561 : decode cL_law 561 = .ok (.iconst 1, 1) := by decide +kernel
theorem dL_law_562 : decode cL_law 562 = .ok (.iadd, 1) := by decide +kernel
theorem dL_law_563 : decode cL_law 563 = .ok (.iaload, 1) := by decide +kernel
theorem dL_law_564 : decode cL_law 564 = .ok (.aload_n 0, 1) := by decide +kernel
theorem dL_law_565 : decode cL_law 565 = .ok (.iload_n 3, 1) := by decide +kernel
theorem dL_law_566 : decode cL_law 566 = .ok (.iconst 2, 1) := by decide +kernel
theorem dL_law_567 : decode cL_law 567 = .ok (.iadd, 1) := by decide +kernel
theorem dL_law_568 : decode cL_law 568 = .ok (.iaload, 1) := by decide +kernel
theorem dL_law_569 : decode cL_law 569 = .ok (.invokevirtual 72, 3) := by decide +kernel
theorem dL_law_572 : decode cL_law 572 = .ok (.if_icmp .eq 496, 3) := by decide +kernel
theorem dL_law_575 : decode cL_law 575 = .ok (.iconst 0, 1) := by decide +kernel
theorem dL_law_576 : decode cL_law 576 = .ok (.ireturn, 1) := by decide +kernel
theorem dL_law_577 : decode cL_law 577 = .ok (.aload_n 1, 1) := by decide +kernel
theorem dL_law_578 : decode cL_law 578 = .ok (.aload_n 0, 1) := by decide +kernel
theorem dL_law_579 : decode cL_law 579 = .ok (.iload_n 3, 1) := by decide +kernel
theorem dL_law_580 : decode cL_law 580 = .ok (.iconst 1, 1) := by decide +kernel
theorem dL_law_581 : decode cL_law 581 = .ok (.iadd, 1) := by decide +kernel
theorem dL_law_582 : decode cL_law 582 = .ok (.iaload, 1) := by decide +kernel
theorem dL_law_583 : decode cL_law 583 = .ok (.aload_n 0, 1) := by decide +kernel
theorem dL_law_584 : decode cL_law 584 = .ok (.iload_n 3, 1) := by decide +kernel
theorem dL_law_585 : decode cL_law 585 = .ok (.iconst 2, 1) := by decide +kernel
theorem dL_law_586 : decode cL_law 586 = .ok (.iadd, 1) := by decide +kernel
theorem dL_law_587 : decode cL_law 587 = .ok (.iaload, 1) := by decide +kernel
theorem dL_law_588 : decode cL_law 588 = .ok (.invokevirtual 73, 3) := by decide +kernel
theorem dL_law_591 : decode cL_law 591 = .ok (.aload_n 2, 1) := by decide +kernel
theorem dL_law_592 : decode cL_law 592 = .ok (.aload_n 0, 1) := by decide +kernel
theorem dL_law_593 : decode cL_law 593 = .ok (.iload_n 3, 1) := by decide +kernel
theorem dL_law_594 : decode cL_law 594 = .ok (.iconst 1, 1) := by decide +kernel
theorem dL_law_595 : decode cL_law 595 = .ok (.iadd, 1) := by decide +kernel
theorem dL_law_596 : decode cL_law 596 = .ok (.iaload, 1) := by decide +kernel
theorem dL_law_597 : decode cL_law 597 = .ok (.aload_n 0, 1) := by decide +kernel
theorem dL_law_598 : decode cL_law 598 = .ok (.iload_n 3, 1) := by decide +kernel
theorem dL_law_599 : decode cL_law 599 = .ok (.iconst 2, 1) := by decide +kernel
theorem dL_law_600 : decode cL_law 600 = .ok (.iadd, 1) := by decide +kernel
theorem dL_law_601 : decode cL_law 601 = .ok (.iaload, 1) := by decide +kernel
theorem dL_law_602 : decode cL_law 602 = .ok (.invokevirtual 76, 3) := by decide +kernel
theorem dL_law_605 : decode cL_law 605 = .ok (.if_icmp .eq 463, 3) := by decide +kernel
theorem dL_law_608 : decode cL_law 608 = .ok (.iconst 0, 1) := by decide +kernel
theorem dL_law_609 : decode cL_law 609 = .ok (.ireturn, 1) := by decide +kernel
theorem dL_law_610 : decode cL_law 610 = .ok (.aload_n 1, 1) := by decide +kernel
theorem dL_law_611 : decode cL_law 611 = .ok (.aload_n 0, 1) := by decide +kernel
theorem dL_law_612 : decode cL_law 612 = .ok (.iload_n 3, 1) := by decide +kernel
theorem dL_law_613 : decode cL_law 613 = .ok (.iconst 1, 1) := by decide +kernel
theorem dL_law_614 : decode cL_law 614 = .ok (.iadd, 1) := by decide +kernel
theorem dL_law_615 : decode cL_law 615 = .ok (.iaload, 1) := by decide +kernel
theorem dL_law_616 : decode cL_law 616 = .ok (.aload_n 0, 1) := by decide +kernel
theorem dL_law_617 : decode cL_law 617 = .ok (.iload_n 3, 1) := by decide +kernel
theorem dL_law_618 : decode cL_law 618 = .ok (.iconst 2, 1) := by decide +kernel
theorem dL_law_619 : decode cL_law 619 = .ok (.iadd, 1) := by decide +kernel
theorem dL_law_620 : decode cL_law 620 = .ok (.iaload, 1) := by decide +kernel
theorem dL_law_621 : decode cL_law 621 = .ok (.invokevirtual 77, 3) := by decide +kernel
theorem dL_law_624 : decode cL_law 624 = .ok (.aload_n 2, 1) := by decide +kernel
theorem dL_law_625 : decode cL_law 625 = .ok (.aload_n 0, 1) := by decide +kernel
theorem dL_law_626 : decode cL_law 626 = .ok (.iload_n 3, 1) := by decide +kernel
theorem dL_law_627 : decode cL_law 627 = .ok (.iconst 1, 1) := by decide +kernel
theorem dL_law_628 : decode cL_law 628 = .ok (.iadd, 1) := by decide +kernel
theorem dL_law_629 : decode cL_law 629 = .ok (.iaload, 1) := by decide +kernel
theorem dL_law_630 : decode cL_law 630 = .ok (.aload_n 0, 1) := by decide +kernel
theorem dL_law_631 : decode cL_law 631 = .ok (.iload_n 3, 1) := by decide +kernel
theorem dL_law_632 : decode cL_law 632 = .ok (.iconst 2, 1) := by decide +kernel
theorem dL_law_633 : decode cL_law 633 = .ok (.iadd, 1) := by decide +kernel
theorem dL_law_634 : decode cL_law 634 = .ok (.iaload, 1) := by decide +kernel
theorem dL_law_635 : decode cL_law 635 = .ok (.invokevirtual 80, 3) := by decide +kernel
theorem dL_law_638 : decode cL_law 638 = .ok (.if_icmp .eq 430, 3) := by decide +kernel
theorem dL_law_641 : decode cL_law 641 = .ok (.iconst 0, 1) := by decide +kernel
theorem dL_law_642 : decode cL_law 642 = .ok (.ireturn, 1) := by decide +kernel
theorem dL_law_643 : decode cL_law 643 = .ok (.aload_n 1, 1) := by decide +kernel
theorem dL_law_644 : decode cL_law 644 = .ok (.aload_n 0, 1) := by decide +kernel
theorem dL_law_645 : decode cL_law 645 = .ok (.iload_n 3, 1) := by decide +kernel
theorem dL_law_646 : decode cL_law 646 = .ok (.iconst 1, 1) := by decide +kernel
theorem dL_law_647 : decode cL_law 647 = .ok (.iadd, 1) := by decide +kernel
theorem dL_law_648 : decode cL_law 648 = .ok (.iaload, 1) := by decide +kernel
theorem dL_law_649 : decode cL_law 649 = .ok (.aload_n 0, 1) := by decide +kernel
theorem dL_law_650 : decode cL_law 650 = .ok (.iload_n 3, 1) := by decide +kernel
theorem dL_law_651 : decode cL_law 651 = .ok (.iconst 2, 1) := by decide +kernel
theorem dL_law_652 : decode cL_law 652 = .ok (.iadd, 1) := by decide +kernel
theorem dL_law_653 : decode cL_law 653 = .ok (.iaload, 1) := by decide +kernel
theorem dL_law_654 : decode cL_law 654 = .ok (.invokevirtual 81, 3) := by decide +kernel
theorem dL_law_657 : decode cL_law 657 = .ok (.aload_n 2, 1) := by decide +kernel
theorem dL_law_658 : decode cL_law 658 = .ok (.aload_n 0, 1) := by decide +kernel
theorem dL_law_659 : decode cL_law 659 = .ok (.iload_n 3, 1) := by decide +kernel
theorem dL_law_660 : decode cL_law 660 = .ok (.iconst 1, 1) := by decide +kernel
theorem dL_law_661 : decode cL_law 661 = .ok (.iadd, 1) := by decide +kernel
theorem dL_law_662 : decode cL_law 662 = .ok (.iaload, 1) := by decide +kernel
theorem dL_law_663 : decode cL_law 663 = .ok (.aload_n 0, 1) := by decide +kernel
theorem dL_law_664 : decode cL_law 664 = .ok (.iload_n 3, 1) := by decide +kernel
theorem dL_law_665 : decode cL_law 665 = .ok (.iconst 2, 1) := by decide +kernel
theorem dL_law_666 : decode cL_law 666 = .ok (.iadd, 1) := by decide +kernel
theorem dL_law_667 : decode cL_law 667 = .ok (.iaload, 1) := by decide +kernel
theorem dL_law_668 : decode cL_law 668 = .ok (.invokevirtual 84, 3) := by decide +kernel
theorem dL_law_671 : decode cL_law 671 = .ok (.if_icmp .eq 397, 3) := by decide +kernel
theorem dL_law_674 : decode cL_law 674 = .ok (.iconst 0, 1) := by decide +kernel
theorem dL_law_675 : decode cL_law 675 = .ok (.ireturn, 1) := by decide +kernel
theorem dL_law_676 : decode cL_law 676 = .ok (.aload_n 1, 1) := by decide +kernel
theorem dL_law_677 : decode cL_law 677 = .ok (.aload_n 0, 1) := by decide +kernel
theorem dL_law_678 : decode cL_law 678 = .ok (.iload_n 3, 1) := by decide +kernel
theorem dL_law_679 : decode cL_law 679 = .ok (.iconst 1, 1) := by decide +kernel
theorem dL_law_680 : decode cL_law 680 = .ok (.iadd, 1) := by decide +kernel
theorem dL_law_681 : decode cL_law 681 = .ok (.iaload, 1) := by decide +kernel
theorem dL_law_682 : decode cL_law 682 = .ok (.aload_n 0, 1) := by decide +kernel
theorem dL_law_683 : decode cL_law 683 = .ok (.iload_n 3, 1) := by decide +kernel
theorem dL_law_684 : decode cL_law 684 = .ok (.iconst 2, 1) := by decide +kernel
theorem dL_law_685 : decode cL_law 685 = .ok (.iadd, 1) := by decide +kernel
theorem dL_law_686 : decode cL_law 686 = .ok (.iaload, 1) := by decide +kernel
theorem dL_law_687 : decode cL_law 687 = .ok (.aload_n 0, 1) := by decide +kernel
theorem dL_law_688 : decode cL_law 688 = .ok (.iload_n 3, 1) := by decide +kernel
theorem dL_law_689 : decode cL_law 689 = .ok (.iconst 3, 1) := by decide +kernel
theorem dL_law_690 : decode cL_law 690 = .ok (.iadd, 1) := by decide +kernel
theorem dL_law_691 : decode cL_law 691 = .ok (.iaload, 1) := by decide +kernel
theorem dL_law_692 : decode cL_law 692 = .ok (.invokevirtual 85, 3) := by decide +kernel
theorem dL_law_695 : decode cL_law 695 = .ok (.aload_n 2, 1) := by decide +kernel
theorem dL_law_696 : decode cL_law 696 = .ok (.aload_n 0, 1) := by decide +kernel
theorem dL_law_697 : decode cL_law 697 = .ok (.iload_n 3, 1) := by decide +kernel
theorem dL_law_698 : decode cL_law 698 = .ok (.iconst 1, 1) := by decide +kernel
theorem dL_law_699 : decode cL_law 699 = .ok (.iadd, 1) := by decide +kernel
theorem dL_law_700 : decode cL_law 700 = .ok (.iaload, 1) := by decide +kernel
theorem dL_law_701 : decode cL_law 701 = .ok (.aload_n 0, 1) := by decide +kernel
theorem dL_law_702 : decode cL_law 702 = .ok (.iload_n 3, 1) := by decide +kernel
theorem dL_law_703 : decode cL_law 703 = .ok (.iconst 2, 1) := by decide +kernel
theorem dL_law_704 : decode cL_law 704 = .ok (.iadd, 1) := by decide +kernel
theorem dL_law_705 : decode cL_law 705 = .ok (.iaload, 1) := by decide +kernel
theorem dL_law_706 : decode cL_law 706 = .ok (.aload_n 0, 1) := by decide +kernel
theorem dL_law_707 : decode cL_law 707 = .ok (.iload_n 3, 1) := by decide +kernel
theorem dL_law_708 : decode cL_law 708 = .ok (.iconst 3, 1) := by decide +kernel
theorem dL_law_709 : decode cL_law 709 = .ok (.iadd, 1) := by decide +kernel
theorem dL_law_710 : decode cL_law 710 = .ok (.iaload, 1) := by decide +kernel
theorem dL_law_711 : decode cL_law 711 = .ok (.invokevirtual 88, 3) := by decide +kernel
theorem dL_law_714 : decode cL_law 714 = .ok (.if_icmp .eq 354, 3) := by decide +kernel
theorem dL_law_717 : decode cL_law 717 = .ok (.iconst 0, 1) := by decide +kernel
theorem dL_law_718 : decode cL_law 718 = .ok (.ireturn, 1) := by decide +kernel
theorem dL_law_719 : decode cL_law 719 = .ok (.aload_n 1, 1) := by decide +kernel
theorem dL_law_720 : decode cL_law 720 = .ok (.aload_n 0, 1) := by decide +kernel
theorem dL_law_721 : decode cL_law 721 = .ok (.iload_n 3, 1) := by decide +kernel
theorem dL_law_722 : decode cL_law 722 = .ok (.iconst 1, 1) := by decide +kernel
theorem dL_law_723 : decode cL_law 723 = .ok (.iadd, 1) := by decide +kernel
theorem dL_law_724 : decode cL_law 724 = .ok (.iaload, 1) := by decide +kernel
theorem dL_law_725 : decode cL_law 725 = .ok (.aload_n 0, 1) := by decide +kernel
theorem dL_law_726 : decode cL_law 726 = .ok (.iload_n 3, 1) := by decide +kernel
theorem dL_law_727 : decode cL_law 727 = .ok (.iconst 2, 1) := by decide +kernel
theorem dL_law_728 : decode cL_law 728 = .ok (.iadd, 1) := by decide +kernel
theorem dL_law_729 : decode cL_law 729 = .ok (.iaload, 1) := by decide +kernel
theorem dL_law_730 : decode cL_law 730 = .ok (.invokevirtual 89, 3) := by decide +kernel
theorem dL_law_733 : decode cL_law 733 = .ok (.aload_n 2, 1) := by decide +kernel
theorem dL_law_734 : decode cL_law 734 = .ok (.aload_n 0, 1) := by decide +kernel
theorem dL_law_735 : decode cL_law 735 = .ok (.iload_n 3, 1) := by decide +kernel
theorem dL_law_736 : decode cL_law 736 = .ok (.iconst 1, 1) := by decide +kernel
theorem dL_law_737 : decode cL_law 737 = .ok (.iadd, 1) := by decide +kernel
theorem dL_law_738 : decode cL_law 738 = .ok (.iaload, 1) := by decide +kernel
theorem dL_law_739 : decode cL_law 739 = .ok (.aload_n 0, 1) := by decide +kernel
theorem dL_law_740 : decode cL_law 740 = .ok (.iload_n 3, 1) := by decide +kernel
theorem dL_law_741 : decode cL_law 741 = .ok (.iconst 2, 1) := by decide +kernel
theorem dL_law_742 : decode cL_law 742 = .ok (.iadd, 1) := by decide +kernel
theorem dL_law_743 : decode cL_law 743 = .ok (.iaload, 1) := by decide +kernel
theorem dL_law_744 : decode cL_law 744 = .ok (.invokevirtual 92, 3) := by decide +kernel
theorem dL_law_747 : decode cL_law 747 = .ok (.if_icmp .eq 321, 3) := by decide +kernel
theorem dL_law_750 : decode cL_law 750 = .ok (.iconst 0, 1) := by decide +kernel
theorem dL_law_751 : decode cL_law 751 = .ok (.ireturn, 1) := by decide +kernel
theorem dL_law_752 : decode cL_law 752 = .ok (.aload_n 1, 1) := by decide +kernel
theorem dL_law_753 : decode cL_law 753 = .ok (.aload_n 0, 1) := by decide +kernel
theorem dL_law_754 : decode cL_law 754 = .ok (.iload_n 3, 1) := by decide +kernel
theorem dL_law_755 : decode cL_law 755 = .ok (.iconst 1, 1) := by decide +kernel
theorem dL_law_756 : decode cL_law 756 = .ok (.iadd, 1) := by decide +kernel
theorem dL_law_757 : decode cL_law 757 = .ok (.iaload, 1) := by decide +kernel
theorem dL_law_758 : decode cL_law 758 = .ok (.aload_n 0, 1) := by decide +kernel
theorem dL_law_759 : decode cL_law 759 = .ok (.iload_n 3, 1) := by decide +kernel
theorem dL_law_760 : decode cL_law 760 = .ok (.iconst 2, 1) := by decide +kernel
theorem dL_law_761 : decode cL_law 761 = .ok (.iadd, 1) := by decide +kernel
theorem dL_law_762 : decode cL_law 762 = .ok (.iaload, 1) := by decide +kernel
theorem dL_law_763 : decode cL_law 763 = .ok (.invokevirtual 93, 3) := by decide +kernel
theorem dL_law_766 : decode cL_law 766 = .ok (.aload_n 2, 1) := by decide +kernel
theorem dL_law_767 : decode cL_law 767 = .ok (.aload_n 0, 1) := by decide +kernel
theorem dL_law_768 : decode cL_law 768 = .ok (.iload_n 3, 1) := by decide +kernel
theorem dL_law_769 : decode cL_law 769 = .ok (.iconst 1, 1) := by decide +kernel
theorem dL_law_770 : decode cL_law 770 = .ok (.iadd, 1) := by decide +kernel
theorem dL_law_771 : decode cL_law 771 = .ok (.iaload, 1) := by decide +kernel
theorem dL_law_772 : decode cL_law 772 = .ok (.aload_n 0, 1) := by decide +kernel
theorem dL_law_773 : decode cL_law 773 = .ok (.iload_n 3, 1) := by decide +kernel
theorem dL_law_774 : decode cL_law 774 = .ok (.iconst 2, 1) := by decide +kernel
theorem dL_law_775 : decode cL_law 775 = .ok (.iadd, 1) := by decide +kernel
theorem dL_law_776 : decode cL_law 776 = .ok (.iaload, 1) := by decide +kernel
theorem dL_law_777 : decode cL_law 777 = .ok (.invokevirtual 96, 3) := by decide +kernel
theorem dL_law_780 : decode cL_law 780 = .ok (.if_icmp .eq 288, 3) := by decide +kernel
theorem dL_law_783 : decode cL_law 783 = .ok (.iconst 0, 1) := by decide +kernel
theorem dL_law_784 : decode cL_law 784 = .ok (.ireturn, 1) := by decide +kernel
theorem dL_law_785 : decode cL_law 785 = .ok (.aload_n 1, 1) := by decide +kernel
theorem dL_law_786 : decode cL_law 786 = .ok (.aload_n 0, 1) := by decide +kernel
theorem dL_law_787 : decode cL_law 787 = .ok (.iload_n 3, 1) := by decide +kernel
theorem dL_law_788 : decode cL_law 788 = .ok (.iconst 1, 1) := by decide +kernel
theorem dL_law_789 : decode cL_law 789 = .ok (.iadd, 1) := by decide +kernel
theorem dL_law_790 : decode cL_law 790 = .ok (.iaload, 1) := by decide +kernel
theorem dL_law_791 : decode cL_law 791 = .ok (.aload_n 0, 1) := by decide +kernel
theorem dL_law_792 : decode cL_law 792 = .ok (.iload_n 3, 1) := by decide +kernel
theorem dL_law_793 : decode cL_law 793 = .ok (.iconst 2, 1) := by decide +kernel
theorem dL_law_794 : decode cL_law 794 = .ok (.iadd, 1) := by decide +kernel
theorem dL_law_795 : decode cL_law 795 = .ok (.iaload, 1) := by decide +kernel
theorem dL_law_796 : decode cL_law 796 = .ok (.aload_n 0, 1) := by decide +kernel
theorem dL_law_797 : decode cL_law 797 = .ok (.iload_n 3, 1) := by decide +kernel
theorem dL_law_798 : decode cL_law 798 = .ok (.iconst 3, 1) := by decide +kernel
theorem dL_law_799 : decode cL_law 799 = .ok (.iadd, 1) := by decide +kernel
theorem dL_law_800 : decode cL_law 800 = .ok (.iaload, 1) := by decide +kernel
theorem dL_law_801 : decode cL_law 801 = .ok (.aload_n 0, 1) := by decide +kernel
theorem dL_law_802 : decode cL_law 802 = .ok (.iload_n 3, 1) := by decide +kernel
theorem dL_law_803 : decode cL_law 803 = .ok (.iconst 4, 1) := by decide +kernel
theorem dL_law_804 : decode cL_law 804 = .ok (.iadd, 1) := by decide +kernel
theorem dL_law_805 : decode cL_law 805 = .ok (.iaload, 1) := by decide +kernel
theorem dL_law_806 : decode cL_law 806 = .ok (.invokevirtual 97, 3) := by decide +kernel
theorem dL_law_809 : decode cL_law 809 = .ok (.aload_n 2, 1) := by decide +kernel
theorem dL_law_810 : decode cL_law 810 = .ok (.aload_n 0, 1) := by decide +kernel
theorem dL_law_811 : decode cL_law 811 = .ok (.iload_n 3, 1) := by decide +kernel
theorem dL_law_812 : decode cL_law 812 = .ok (.iconst 1, 1) := by decide +kernel
theorem dL_law_813 : decode cL_law 813 = .ok (.iadd, 1) := by decide +kernel
theorem dL_law_814 : decode cL_law 814 = .ok (.iaload, 1) := by decide +kernel
theorem dL_law_815 : decode cL_law 815 = .ok (.aload_n 0, 1) := by decide +kernel
theorem dL_law_816 : decode cL_law 816 = .ok (.iload_n 3, 1) := by decide +kernel
theorem dL_law_817 : decode cL_law 817 = .ok (.iconst 2, 1) := by decide +kernel
theorem dL_law_818 : decode cL_law 818 = .ok (.iadd, 1) := by decide +kernel
theorem dL_law_819 : decode cL_law 819 = .ok (.iaload, 1) := by decide +kernel
theorem dL_law_820 : decode cL_law 820 = .ok (.aload_n 0, 1) := by decide +kernel
theorem dL_law_821 : decode cL_law 821 = .ok (.iload_n 3, 1) := by decide +kernel
theorem dL_law_822 : decode cL_law 822 = .ok (.iconst 3, 1) := by decide +kernel
theorem dL_law_823 : decode cL_law 823 = .ok (.iadd, 1) := by decide +kernel
theorem dL_law_824 : decode cL_law 824 = .ok (.iaload, 1) := by decide +kernel
theorem dL_law_825 : decode cL_law 825 = .ok (.aload_n 0, 1) := by decide +kernel
theorem dL_law_826 : decode cL_law 826 = .ok (.iload_n 3, 1) := by decide +kernel
theorem dL_law_827 : decode cL_law 827 = .ok (.iconst 4, 1) := by decide +kernel
theorem dL_law_828 : decode cL_law 828 = .ok (.iadd, 1) := by decide +kernel
theorem dL_law_829 : decode cL_law 829 = .ok (.iaload, 1) := by decide +kernel
theorem dL_law_830 : decode cL_law 830 = .ok (.invokevirtual 101, 3) := by decide +kernel
theorem dL_law_833 : decode cL_law 833 = .ok (.if_icmp .eq 235, 3) := by decide +kernel
theorem dL_law_836 : decode cL_law 836 = .ok (.iconst 0, 1) := by decide +kernel
theorem dL_law_837 : decode cL_law 837 = .ok (.ireturn, 1) := by decide +kernel
theorem dL_law_838 : decode cL_law 838 = .ok (.aload_n 1, 1) := by decide +kernel
theorem dL_law_839 : decode cL_law 839 = .ok (.invokevirtual 102, 3) := by decide +kernel
theorem dL_law_842 : decode cL_law 842 = .ok (.aload_n 2, 1) := by decide +kernel
theorem dL_law_843 : decode cL_law 843 = .ok (.invokevirtual 105, 3) := by decide +kernel
theorem dL_law_846 : decode cL_law 846 = .ok (.if_icmp .eq 222, 3) := by decide +kernel
theorem dL_law_849 : decode cL_law 849 = .ok (.iconst 0, 1) := by decide +kernel
theorem dL_law_850 : decode cL_law 850 = .ok (.ireturn, 1) := by decide +kernel
theorem dL_law_851 : decode cL_law 851 = .ok (.aload_n 1, 1) := by decide +kernel
theorem dL_law_852 : decode cL_law 852 = .ok (.aload_n 0, 1) := by decide +kernel
theorem dL_law_853 : decode cL_law 853 = .ok (.iload_n 3, 1) := by decide +kernel
theorem dL_law_854 : decode cL_law 854 = .ok (.iconst 1, 1) := by decide +kernel
theorem dL_law_855 : decode cL_law 855 = .ok (.iadd, 1) := by decide +kernel
theorem dL_law_856 : decode cL_law 856 = .ok (.iaload, 1) := by decide +kernel
theorem dL_law_857 : decode cL_law 857 = .ok (.invokevirtual 106, 3) := by decide +kernel
theorem dL_law_860 : decode cL_law 860 = .ok (.aload_n 2, 1) := by decide +kernel
theorem dL_law_861 : decode cL_law 861 = .ok (.aload_n 0, 1) := by decide +kernel
theorem dL_law_862 : decode cL_law 862 = .ok (.iload_n 3, 1) := by decide +kernel
theorem dL_law_863 : decode cL_law 863 = .ok (.iconst 1, 1) := by decide +kernel
theorem dL_law_864 : decode cL_law 864 = .ok (.iadd, 1) := by decide +kernel
theorem dL_law_865 : decode cL_law 865 = .ok (.iaload, 1) := by decide +kernel
theorem dL_law_866 : decode cL_law 866 = .ok (.invokevirtual 109, 3) := by decide +kernel
theorem dL_law_869 : decode cL_law 869 = .ok (.if_icmp .eq 199, 3) := by decide +kernel
theorem dL_law_872 : decode cL_law 872 = .ok (.iconst 0, 1) := by decide +kernel
theorem dL_law_873 : decode cL_law 873 = .ok (.ireturn, 1) := by decide +kernel
theorem dL_law_874 : decode cL_law 874 = .ok (.aload_n 1, 1) := by decide +kernel
theorem dL_law_875 : decode cL_law 875 = .ok (.aload_n 0, 1) := by decide +kernel
theorem dL_law_876 : decode cL_law 876 = .ok (.iload_n 3, 1) := by decide +kernel
theorem dL_law_877 : decode cL_law 877 = .ok (.iconst 1, 1) := by decide +kernel
theorem dL_law_878 : decode cL_law 878 = .ok (.iadd, 1) := by decide +kernel
theorem dL_law_879 : decode cL_law 879 = .ok (.iaload, 1) := by decide +kernel
theorem dL_law_880 : decode cL_law 880 = .ok (.invokevirtual 110, 3) := by decide +kernel
theorem dL_law_883 : decode cL_law 883 = .ok (.aload_n 2, 1) := by decide +kernel
theorem dL_law_884 : decode cL_law 884 = .ok (.aload_n 0, 1) := by decide +kernel
theorem dL_law_885 : decode cL_law 885 = .ok (.iload_n 3, 1) := by decide +kernel
theorem dL_law_886 : decode cL_law 886 = .ok (.iconst 1, 1) := by decide +kernel
theorem dL_law_887 : decode cL_law 887 = .ok (.iadd, 1) := by decide +kernel
theorem dL_law_888 : decode cL_law 888 = .ok (.iaload, 1) := by decide +kernel
theorem dL_law_889 : decode cL_law 889 = .ok (.invokevirtual 113, 3) := by decide +kernel
theorem dL_law_892 : decode cL_law 892 = .ok (.if_icmp .eq 176, 3) := by decide +kernel
theorem dL_law_895 : decode cL_law 895 = .ok (.iconst 0, 1) := by decide +kernel
theorem dL_law_896 : decode cL_law 896 = .ok (.ireturn, 1) := by decide +kernel
theorem dL_law_897 : decode cL_law 897 = .ok (.aload_n 1, 1) := by decide +kernel
theorem dL_law_898 : decode cL_law 898 = .ok (.aload_n 0, 1) := by decide +kernel
theorem dL_law_899 : decode cL_law 899 = .ok (.iload_n 3, 1) := by decide +kernel
theorem dL_law_900 : decode cL_law 900 = .ok (.iconst 1, 1) := by decide +kernel
theorem dL_law_901 : decode cL_law 901 = .ok (.iadd, 1) := by decide +kernel
theorem dL_law_902 : decode cL_law 902 = .ok (.iaload, 1) := by decide +kernel
theorem dL_law_903 : decode cL_law 903 = .ok (.invokevirtual 114, 3) := by decide +kernel
theorem dL_law_906 : decode cL_law 906 = .ok (.aload_n 2, 1) := by decide +kernel
theorem dL_law_907 : decode cL_law 907 = .ok (.aload_n 0, 1) := by decide +kernel
theorem dL_law_908 : decode cL_law 908 = .ok (.iload_n 3, 1) := by decide +kernel
theorem dL_law_909 : decode cL_law 909 = .ok (.iconst 1, 1) := by decide +kernel
theorem dL_law_910 : decode cL_law 910 = .ok (.iadd, 1) := by decide +kernel
theorem dL_law_911 : decode cL_law 911 = .ok (.iaload, 1) := by decide +kernel
theorem dL_law_912 : decode cL_law 912 = .ok (.invokevirtual 117, 3) := by decide +kernel
theorem dL_law_915 : decode cL_law 915 = .ok (.if_icmp .eq 153, 3) := by decide +kernel
theorem dL_law_918 : decode cL_law 918 = .ok (.iconst 0, 1) := by decide +kernel
theorem dL_law_919 : decode cL_law 919 = .ok (.ireturn, 1) := by decide +kernel
theorem dL_law_920 : decode cL_law 920 = .ok (.aload_n 1, 1) := by decide +kernel
theorem dL_law_921 : decode cL_law 921 = .ok (.aload_n 0, 1) := by decide +kernel
theorem dL_law_922 : decode cL_law 922 = .ok (.iload_n 3, 1) := by decide +kernel
theorem dL_law_923 : decode cL_law 923 = .ok (.iconst 1, 1) := by decide +kernel
theorem dL_law_924 : decode cL_law 924 = .ok (.iadd, 1) := by decide +kernel
theorem dL_law_925 : decode cL_law 925 = .ok (.iaload, 1) := by decide +kernel
theorem dL_law_926 : decode cL_law 926 = .ok (.invokevirtual 118, 3) := by decide +kernel
theorem dL_law_929 : decode cL_law 929 = .ok (.aload_n 2, 1) := by decide +kernel
theorem dL_law_930 : decode cL_law 930 = .ok (.aload_n 0, 1) := by decide +kernel
theorem dL_law_931 : decode cL_law 931 = .ok (.iload_n 3, 1) := by decide +kernel
theorem dL_law_932 : decode cL_law 932 = .ok (.iconst 1, 1) := by decide +kernel
theorem dL_law_933 : decode cL_law 933 = .ok (.iadd, 1) := by decide +kernel
theorem dL_law_934 : decode cL_law 934 = .ok (.iaload, 1) := by decide +kernel
theorem dL_law_935 : decode cL_law 935 = .ok (.invokevirtual 121, 3) := by decide +kernel
theorem dL_law_938 : decode cL_law 938 = .ok (.if_icmp .eq 130, 3) := by decide +kernel
theorem dL_law_941 : decode cL_law 941 = .ok (.iconst 0, 1) := by decide +kernel
theorem dL_law_942 : decode cL_law 942 = .ok (.ireturn, 1) := by decide +kernel
theorem dL_law_943 : decode cL_law 943 = .ok (.aload_n 1, 1) := by decide +kernel
theorem dL_law_944 : decode cL_law 944 = .ok (.aload_n 0, 1) := by decide +kernel
theorem dL_law_945 : decode cL_law 945 = .ok (.iload_n 3, 1) := by decide +kernel
theorem dL_law_946 : decode cL_law 946 = .ok (.iconst 1, 1) := by decide +kernel
theorem dL_law_947 : decode cL_law 947 = .ok (.iadd, 1) := by decide +kernel
theorem dL_law_948 : decode cL_law 948 = .ok (.iaload, 1) := by decide +kernel
theorem dL_law_949 : decode cL_law 949 = .ok (.aload_n 0, 1) := by decide +kernel
theorem dL_law_950 : decode cL_law 950 = .ok (.iload_n 3, 1) := by decide +kernel
theorem dL_law_951 : decode cL_law 951 = .ok (.iconst 2, 1) := by decide +kernel
theorem dL_law_952 : decode cL_law 952 = .ok (.iadd, 1) := by decide +kernel
theorem dL_law_953 : decode cL_law 953 = .ok (.iaload, 1) := by decide +kernel
theorem dL_law_954 : decode cL_law 954 = .ok (.invokevirtual 122, 3) := by decide +kernel
theorem dL_law_957 : decode cL_law 957 = .ok (.aload_n 2, 1) := by decide +kernel
theorem dL_law_958 : decode cL_law 958 = .ok (.aload_n 0, 1) := by decide +kernel
theorem dL_law_959 : decode cL_law 959 = .ok (.iload_n 3, 1) := by decide +kernel
theorem dL_law_960 : decode cL_law 960 = .ok (.iconst 1, 1) := by decide +kernel
theorem dL_law_961 : decode cL_law 961 = .ok (.iadd, 1) := by decide +kernel
theorem dL_law_962 : decode cL_law 962 = .ok (.iaload, 1) := by decide +kernel
theorem dL_law_963 : decode cL_law 963 = .ok (.aload_n 0, 1) := by decide +kernel
theorem dL_law_964 : decode cL_law 964 = .ok (.iload_n 3, 1) := by decide +kernel
theorem dL_law_965 : decode cL_law 965 = .ok (.iconst 2, 1) := by decide +kernel
theorem dL_law_966 : decode cL_law 966 = .ok (.iadd, 1) := by decide +kernel
theorem dL_law_967 : decode cL_law 967 = .ok (.iaload, 1) := by decide +kernel
theorem dL_law_968 : decode cL_law 968 = .ok (.invokevirtual 125, 3) := by decide +kernel
theorem dL_law_971 : decode cL_law 971 = .ok (.if_icmp .eq 97, 3) := by decide +kernel
theorem dL_law_974 : decode cL_law 974 = .ok (.iconst 0, 1) := by decide +kernel
theorem dL_law_975 : decode cL_law 975 = .ok (.ireturn, 1) := by decide +kernel
theorem dL_law_976 : decode cL_law 976 = .ok (.aload_n 1, 1) := by decide +kernel
theorem dL_law_977 : decode cL_law 977 = .ok (.aload_n 0, 1) := by decide +kernel
theorem dL_law_978 : decode cL_law 978 = .ok (.iload_n 3, 1) := by decide +kernel
theorem dL_law_979 : decode cL_law 979 = .ok (.iconst 1, 1) := by decide +kernel
theorem dL_law_980 : decode cL_law 980 = .ok (.iadd, 1) := by decide +kernel
theorem dL_law_981 : decode cL_law 981 = .ok (.iaload, 1) := by decide +kernel
theorem dL_law_982 : decode cL_law 982 = .ok (.aload_n 0, 1) := by decide +kernel
theorem dL_law_983 : decode cL_law 983 = .ok (.iload_n 3, 1) := by decide +kernel
theorem dL_law_984 : decode cL_law 984 = .ok (.iconst 2, 1) := by decide +kernel
theorem dL_law_985 : decode cL_law 985 = .ok (.iadd, 1) := by decide +kernel
theorem dL_law_986 : decode cL_law 986 = .ok (.iaload, 1) := by decide +kernel
theorem dL_law_987 : decode cL_law 987 = .ok (.invokevirtual 126, 3) := by decide +kernel
theorem dL_law_990 : decode cL_law 990 = .ok (.aload_n 2, 1) := by decide +kernel
theorem dL_law_991 : decode cL_law 991 = .ok (.aload_n 0, 1) := by decide +kernel
theorem dL_law_992 : decode cL_law 992 = .ok (.iload_n 3, 1) := by decide +kernel
theorem dL_law_993 : decode cL_law 993 = .ok (.iconst 1, 1) := by decide +kernel
theorem dL_law_994 : decode cL_law 994 = .ok (.iadd, 1) := by decide +kernel
theorem dL_law_995 : decode cL_law 995 = .ok (.iaload, 1) := by decide +kernel
theorem dL_law_996 : decode cL_law 996 = .ok (.aload_n 0, 1) := by decide +kernel
theorem dL_law_997 : decode cL_law 997 = .ok (.iload_n 3, 1) := by decide +kernel
theorem dL_law_998 : decode cL_law 998 = .ok (.iconst 2, 1) := by decide +kernel
theorem dL_law_999 : decode cL_law 999 = .ok (.iadd, 1) := by decide +kernel
theorem dL_law_1000 : decode cL_law 1000 = .ok (.iaload, 1) := by decide +kernel
theorem dL_law_1001 : decode cL_law 1001 = .ok (.invokevirtual 129, 3) := by decide +kernel
theorem dL_law_1004 : decode cL_law 1004 = .ok (.if_icmp .eq 64, 3) := by decide +kernel
theorem dL_law_1007 : decode cL_law 1007 = .ok (.iconst 0, 1) := by decide +kernel
theorem dL_law_1008 : decode cL_law 1008 = .ok (.ireturn, 1) := by decide +kernel
theorem dL_law_1009 : decode cL_law 1009 = .ok (.aload_n 1, 1) := by decide +kernel
theorem dL_law_1010 : decode cL_law 1010 = .ok (.aload_n 0, 1) := by decide +kernel
theorem dL_law_1011 : decode cL_law 1011 = .ok (.iload_n 3, 1) := by decide +kernel
theorem dL_law_1012 : decode cL_law 1012 = .ok (.iconst 1, 1) := by decide +kernel
theorem dL_law_1013 : decode cL_law 1013 = .ok (.iadd, 1) := by decide +kernel
theorem dL_law_1014 : decode cL_law 1014 = .ok (.iaload, 1) := by decide +kernel
theorem dL_law_1015 : decode cL_law 1015 = .ok (.invokevirtual 130, 3) := by decide +kernel
theorem dL_law_1018 : decode cL_law 1018 = .ok (.aload_n 2, 1) := by decide +kernel
theorem dL_law_1019 : decode cL_law 1019 = .ok (.aload_n 0, 1) := by decide +kernel
theorem dL_law_1020 : decode cL_law 1020 = .ok (.iload_n 3, 1) := by decide +kernel
theorem dL_law_1021 : decode cL_law 1021 = .ok (.iconst 1, 1) := by decide +kernel
theorem dL_law_1022 : decode cL_law 1022 = .ok (.iadd, 1) := by decide +kernel
theorem dL_law_1023 : decode cL_law 1023 = .ok (.iaload, 1) := by decide +kernel
theorem dL_law_1024 : decode cL_law 1024 = .ok (.invokevirtual 133, 3) := by decide +kernel
theorem dL_law_1027 : decode cL_law 1027 = .ok (.if_icmp .eq 41, 3) := by decide +kernel
theorem dL_law_1030 : decode cL_law 1030 = .ok (.iconst 0, 1) := by decide +kernel
theorem dL_law_1031 : decode cL_law 1031 = .ok (.ireturn, 1) := by decide +kernel
theorem dL_law_1032 : decode cL_law 1032 = .ok (.aload_n 1, 1) := by decide +kernel
theorem dL_law_1033 : decode cL_law 1033 = .ok (.aload_n 0, 1) := by decide +kernel
theorem dL_law_1034 : decode cL_law 1034 = .ok (.iload_n 3, 1) := by decide +kernel
theorem dL_law_1035 : decode cL_law 1035 = .ok (.iconst 1, 1) := by decide +kernel
theorem dL_law_1036 : decode cL_law 1036 = .ok (.iadd, 1) := by decide +kernel
theorem dL_law_1037 : decode cL_law 1037 = .ok (.iaload, 1) := by decide +kernel
theorem dL_law_1038 : decode cL_law 1038 = .ok (.invokevirtual 134, 3) := by decide +kernel
theorem dL_law_1041 : decode cL_law 1041 = .ok (.aload_n 2, 1) := by decide +kernel
theorem dL_law_1042 : decode cL_law 1042 = .ok (.aload_n 0, 1) := by decide +kernel
theorem dL_law_1043 : decode cL_law 1043 = .ok (.iload_n 3, 1) := by decide +kernel
theorem dL_law_1044 : decode cL_law 1044 = .ok (.iconst 1, 1) := by decide +kernel
theorem dL_law_1045 : decode cL_law 1045 = .ok (.iadd, 1) := by decide +kernel
theorem dL_law_1046 : decode cL_law 1046 = .ok (.iaload, 1) := by decide +kernel
theorem dL_law_1047 : decode cL_law 1047 = .ok (.invokevirtual 137, 3) := by decide +kernel
theorem dL_law_1050 : decode cL_law 1050 = .ok (.if_icmp .eq 18, 3) := by decide +kernel
theorem dL_law_1053 : decode cL_law 1053 = .ok (.iconst 0, 1) := by decide +kernel
theorem dL_law_1054 : decode cL_law 1054 = .ok (.ireturn, 1) := by decide +kernel
theorem dL_law_1055 : decode cL_law 1055 = .ok (.aload_n 1, 1) := by decide +kernel
theorem dL_law_1056 : decode cL_law 1056 = .ok (.invokevirtual 138, 3) := by decide +kernel
theorem dL_law_1059 : decode cL_law 1059 = .ok (.aload_n 2, 1) := by decide +kernel
theorem dL_law_1060 : decode cL_law 1060 = .ok (.invokevirtual 141, 3) := by decide +kernel
theorem dL_law_1063 : decode cL_law 1063 = .ok (.if_icmp .eq 5, 3) := by decide +kernel
theorem dL_law_1066 : decode cL_law 1066 = .ok (.iconst 0, 1) := by decide +kernel
theorem dL_law_1067 : decode cL_law 1067 = .ok (.ireturn, 1) := by decide +kernel
theorem dL_law_1068 : decode cL_law 1068 = .ok (.iinc 3 6, 3) := by decide +kernel
theorem dL_law_1071 : decode cL_law 1071 = .ok (.goto (-1053), 3) := by decide +kernel
theorem dL_law_1074 : decode cL_law 1074 = .ok (.iconst 1, 1) := by decide +kernel
theorem dL_law_1075 : decode cL_law 1075 = .ok (.ireturn, 1) := by decide +kernel
end
section
/-! ===== the base: data of all the cells by handles, a method's run and contract in words of them ===== -/
abbrev HD : Type := Nat → Int → Int
abbrev XC : Type := Launch × va_G × (Nat → Nat) × (Nat → ClassId)
abbrev MR : Type := MethodName × ByteArray × Nat × Option FieldType
abbrev iI (z : Int) : Int32 := Int32.ofInt z
abbrev iL (z : Int) : Int64 := Int64.ofInt z
abbrev iv (z : Int) : Value := .int (Int32.ofInt z)
abbrev jv (z : Int) : Value := .long (Int64.ofInt z)
abbrev rv (X : XC) (h : Nat) : Value := .ref (X.2.2.1 h)
def rg (z : Int) : Prop := -2147483648 ≤ z ∧ z < 2147483648
theorem rg_of {z : Int} (h : rg z) : (iI z).toInt = z := by
  rw [Int32.toInt_ofInt]
  unfold rg at h
  have e : (Int32.size : Int) = 4294967296 := rfl
  rw [Int.bmod_eq_of_le] <;> omega
theorem rg_le {a b : Int} (ha : rg a) (hb : rg b) : iI a ≤ iI b ↔ a ≤ b := by
  rw [Int32.le_iff_toInt_le, rg_of ha, rg_of hb]
theorem rg_lt {a b : Int} (ha : rg a) (hb : rg b) : iI a < iI b ↔ a < b := by
  rw [Int32.lt_iff_toInt_lt, rg_of ha, rg_of hb]
theorem rg_eq {a b : Int} (ha : rg a) (hb : rg b) : iI a = iI b ↔ a = b := by
  rw [← Int32.toInt_inj, rg_of ha, rg_of hb]
theorem rg_0 : rg 0 := by unfold rg; omega
theorem iI_0 : (0 : Int32) = iI 0 := rfl
theorem rg_cl {z : Int} (h : rg z) (h0 : 0 ≤ z) : (iI z).toNatClampNeg = z.toNat := by
  show (iI z).toInt.toNat = z.toNat
  rw [rg_of h]
theorem rg_in {z : Int} {n : Nat} (h0 : 0 ≤ z) (h1 : z < n) (hn : n < 2147483648) : vp_in (iI z) n := by
  have hr : rg z := by unfold rg; omega
  rw [vp_in_iff, rg_of hr]
  omega
theorem iI_to (x : Int32) : iI x.toInt = x := Int32.ofInt_toInt x
theorem rg_to (x : Int32) : rg x.toInt := ⟨Int32.le_toInt x, Int32.toInt_lt x⟩
def up (I : HD) (h : Nat) (i z : Int) : HD := fun a b => if a = h ∧ b = i then z else I a b
theorem up_s {I : HD} {h : Nat} {i z : Int} : up I h i z h i = z := by simp [up]
theorem up_h {I : HD} {h : Nat} {i z : Int} {a : Nat} {b : Int} (n : a ≠ h) : up I h i z a b = I a b := by simp [up, n]
theorem up_i {I : HD} {h : Nat} {i z : Int} {a : Nat} {b : Int} (n : b ≠ i) : up I h i z a b = I a b := by simp [up, n]
def lw_good : List Cond := lw_tbl.filter goodWord
def lw_nest : List Cond := lw_tbl.filter (fun w => match w with
  | .fieldLinkNest .. => true
  | .methodLinkNest .. => true
  | _ => false)
theorem lw_gd {w : Cond} (h : w ∈ lw_tbl) (g : goodWord w = true) : w ∈ lw_good := List.mem_filter.mpr ⟨h, g⟩
abbrev NN : Nat := 297
def oiv (X : XC) (I : HD) (h t n : Nat) : va_E := .inl (X.2.2.2 t, n, .inl (fun i => iI (I h i)))
/-- the cell of a handle: what it is, and what it holds -/
def cell (X : XC) (I : HD) (h : Nat) : va_E :=
  if h < 2 then
    if h = 0 then .inr (8, [rv X 1, rv X 18, rv X 45, rv X 21, rv X 23, rv X 24, rv X 26, rv X 28, iv (I 0 8), iv (I 0 9)])
    else .inl (X.2.2.2 5, 8, .inr (.inr (.inr (.inr (fun i => some (X.2.2.1 (2 + i)))))))
  else if h < 10 then .inr (5, [rv X (h + 8), iv (I h 1), iv (I h 2)])
  else if h < 18 then oiv X I h 0 40
  else if h < 45 then
    match h with
    | 18 => .inr (4, [rv X 19, rv X 54, iv (I 18 2), iv (I 18 3), iv (I 18 4), iv (I 18 5), iv (I 18 6), iv (I 18 7)])
    | 19 => .inr (7, [rv X 20, iv (I 19 1)])
    | 20 => oiv X I 20 1 500
    | 21 => .inr (0, [rv X 22, iv (I 21 1), iv (I 21 2)])
    | 22 => .inl (X.2.2.2 4, 24, .inr (.inr (.inr (.inr (fun i => some (X.2.2.1 (45 + 9 * (4 + i))))))))
    | 23 => .inl (X.2.2.2 4, 2, .inr (.inr (.inr (.inr (fun i => some (X.2.2.1 (45 + 9 * (2 + i))))))))
    | 24 => .inr (2, [rv X 25, iv (I 24 1), iv (I 24 2)])
    | 25 => .inl (X.2.2.2 2, 4, .inr (.inl (fun i => iL (I 25 i))))
    | 26 => .inr (6, [rv X 27, iv (I 26 1)])
    | 27 => oiv X I 27 0 7
    | 28 => .inr (1, [rv X 29, iv (I 28 1)])
    | 29 => oiv X I 29 0 16
    | 30 => .inr (9, [iv (I 30 0), iv (I 30 1), rv X 31, rv X 32, rv X 33, rv X 34, rv X 35, iv (I 30 7), rv X 36, iv (I 30 9), rv X 37, iv (I 30 11), iv (I 30 12), iv (I 30 13), iv (I 30 14), iv (I 30 15), iv (I 30 16), iv (I 30 17), iv (I 30 18), iv (I 30 19), rv X 38, rv X 39, rv X 40, rv X 41, rv X 42, rv X 43, rv X 44, iv (I 30 27)])
    | 31 => oiv X I 31 0 8
    | 32 => oiv X I 32 0 8
    | 33 => oiv X I 33 0 320
    | 34 => oiv X I 34 0 127
    | 35 => oiv X I 35 0 127
    | 36 => oiv X I 36 0 3048
    | 37 => oiv X I 37 0 500
    | 38 => oiv X I 38 0 4
    | 39 => .inl (X.2.2.2 2, 4, .inr (.inl (fun i => iL (I 39 i))))
    | 40 => oiv X I 40 0 7
    | 41 => oiv X I 41 0 7
    | 42 => oiv X I 42 3 2
    | 43 => oiv X I 43 0 254
    | _ => oiv X I h 0 16
  else match (h - 45) % 9 with
    | 0 => .inr (3, [rv X (h + 1), rv X (h + 2), rv X (h + 3), rv X (h + 4), rv X (h + 5), rv X (h + 6), rv X (h + 7), rv X (h + 8), iv (I h 8), iv (I h 9), iv (I h 10), iv (I h 11)])
    | 1 => oiv X I h 0 12
    | 2 => oiv X I h 0 4
    | 3 => oiv X I h 0 4
    | 4 => oiv X I h 0 4
    | 5 => oiv X I h 0 36
    | _ => oiv X I h 0 16
def wl (X : XC) (I : HD) : va_W := (List.range NN).map (fun h => (X.2.2.1 h, cell X I h))
abbrev tysX (X : XC) : List (ClassId × FieldType) := [(X.2.2.2 0, .int), (X.2.2.2 1, .byte), (X.2.2.2 2, .long), (X.2.2.2 3, .boolean), (X.2.2.2 4, .object RX3), (X.2.2.2 5, .object RX5)]
def AA (X : XC) : Nat → Prop := fun q => ∃ h, h < NN ∧ q = X.2.2.1 h
theorem cell_c {X : XC} {I I2 : HD} {h : Nat} (e : ∀ i, I2 h i = I h i) : cell X I2 h = cell X I h := by
  have e' : I2 h = I h := funext e
  unfold cell
  repeat' split
  all_goals first | rfl | (subst_vars; simp only [oiv, e']; done) | simp only [oiv, e']
theorem wl_get {X : XC} {I : HD} {h : Nat} (hh : h < NN) : (wl X I)[h]? = some (X.2.2.1 h, cell X I h) := by
  simp [wl, hh]
theorem wl_set {X : XC} {I : HD} {h : Nat} {i z : Int} {e : va_E} (hh : h < NN) (he : cell X (up I h i z) h = e) : (wl X I).set h (X.2.2.1 h, e) = wl X (up I h i z) := by
  apply List.ext_getElem?
  intro k
  rw [List.getElem?_set]
  by_cases hk : h = k
  · subst hk
    rw [if_pos rfl, wl_get hh, he]
    simp [wl, hh]
  · rw [if_neg hk]
    simp only [wl, List.getElem?_map]
    cases hr : (List.range NN)[k]? with
    | none => rfl
    | some v =>
      have hv : v = k := by
        rw [List.getElem?_range] at hr
        · exact (Option.some.inj hr).symm
        · by_cases q : k < NN
          · exact q
          · rw [List.getElem?_eq_none (by simp; omega)] at hr; cases hr
      subst hv
      simp only [Option.map_some, Option.some.injEq, Prod.mk.injEq, true_and]
      exact (cell_c (fun j => up_h (fun q => hk q.symm))).symm
/-- what a state has, as long as nothing but the cells of the handles is written -/
def Cx (X : XC) (U : State) : Prop := va_K X.2.1 vwCl (tysX X) U ∧ (∀ w ∈ lw_nest, va_Nw w U) ∧ (∀ i j, i < NN → j < NN → X.2.2.1 i = X.2.2.1 j → i = j)
theorem wl_D {X : XC} {I : HD} (h : ∀ i j, i < NN → j < NN → X.2.2.1 i = X.2.2.1 j → i = j) : va_D (AA X) (wl X I) := by
  have key : ∀ (k : Nat) (q : Nat × va_E), (wl X I)[k]? = some q → k < NN ∧ q.1 = X.2.2.1 k := by
    intro k q hk
    have hl : k < (wl X I).length := (List.getElem?_eq_some_iff.mp hk).1
    have hk2 : k < NN := by simpa [wl] using hl
    rw [wl_get hk2] at hk
    cases hk
    exact ⟨hk2, rfl⟩
  refine ⟨fun i j p q hi hj e => ?_, fun k q hk => ?_⟩
  · obtain ⟨a1, a2⟩ := key i p hi
    obtain ⟨b1, b2⟩ := key j q hj
    exact h i j a1 b1 (by rw [← a2, ← b2, e])
  · obtain ⟨a1, a2⟩ := key k q hk
    exact ⟨k, a1, a2⟩
/-! ===== a run inside a method, and a method's contract ===== -/
abbrev rmD (D : Nat) : Room := { frames := D, cells := 0, slots := 0, locals := 40 * D }
def wsM (M : MR) : List Cond := Cond.code M.1 M.2.1 M.2.2.1 M.2.2.2 :: lw_good
abbrev KP : Type := Option Value → HD → Prop
def QK (X : XC) (K : KP) : Array Value → State → Outcome → State → Prop := fun _ st oc t => (∃ (r : Option Value) (I : HD), oc = .returned r ∧ K r I ∧ va_P X.2.1 vwCl (wl X I) t.heap) ∧ va_F (AA X) st t
def Cl (X : XC) (D : Nat) (M : MR) (av : List Value) (I : HD) (K : KP) : Prop :=
  Met X.1 M.1 (wsM M) (rmD D) (va_Pc av (fun U => va_P X.2.1 vwCl (wl X I) U.heap ∧ Cx X U)) (QK X K) 0 0 (AA X)
def Rn (X : XC) (D : Nat) (M : MR) (K : KP) (pc : Nat) (lv : List (Nat × Value)) (st : List Value) (I : HD) : Prop :=
  ∀ (p : Program) (e : Env) (s : State) (m : MethodId) (args : Array Value) (below : List Frame) (meth : Method) (c : Code) (H : Heap) (locs : List Loc) (ls : Array Slot),
    p.tables.exec = Jvm.exec → c.code = M.2.1 → c.maxLocals = M.2.2.1 → meth.sig.returnType = M.2.2.2 → meth.locks = false → s.vm.findClass M.1.cls = some m.cls → (∀ w ∈ wsM M, w.before args s = true) → Cx X s → va_P X.2.1 vwCl (wl X I) H → va_S (AA X) s.heap H locs → lv_has ls M.2.2.1 lv →
    W p X.1 e (rmD D) s m args below meth c H locs 0 0 (MQ below (QK X K) args s 0 0 (AA X)) (F0 m pc ls st)
theorem Cx.moved {X : XC} {u U : State} (hW : u.WarmedH U.vm) (h : Cx X u) : Cx X U := by
  refine ⟨va_K.moved hW.alike h.1, fun w hw => ?_, h.2.2⟩
  have h2 := h.2.1 w hw
  have h3 := (List.mem_filter.mp hw).2
  cases w <;> first | (cases h3; done) | exact va_Nw.warmF hW h2 | exact va_Nw.warmM hW h2
theorem Cx.blind {X : XC} {U : State} {g : JFrame} {mk : MethodId} {a : Array Value} (h : Cx X U) : Cx X (U.calling g mk a) :=
  ⟨va_K.moved (u := U) (U := U.calling g mk a) (Vm.Alike.refl U.vm) h.1, fun w hw => va_Nw.same (by
    have h3 := (List.mem_filter.mp hw).2
    cases w <;> first | (cases h3; done) | rfl) (rfl : U.vm = (U.calling g mk a).vm) (h.2.1 w hw), h.2.2⟩
theorem Cl.of {X : XC} {D : Nat} {M : MR} {av : List Value} {I : HD} {K : KP} (hy : plainName M.1.cls = true) (hl : (lg_sl av).length ≤ M.2.2.1) (h : Rn X D M K 0 (lv_args 0 av) [] I) : Cl X D M av I K := by
  refine Met.ofW (cc := M.2.1) (maxL := M.2.2.1) (ret := M.2.2.2) hy rfl ?_
  intro p e s m args below meth c s₁ B hml hv
  obtain ⟨rfl, hP, hC⟩ := hv
  have hts := atoms_spec (ws := wsM M) B.pre
  have hl := lv_entry av (n := M.2.2.1) hl
  rw [lg_entry_eq]
  exact h p e s m _ below meth c s.heap [] _ B.exec B.bytes hml B.returns B.notSynchronized (findClass_of_methodNamed B.named) hts hC hP va_S.rf hl
end
section
/-! ===== rows: an instruction each ===== -/
def rl (z : Int) : Prop := -9223372036854775808 ≤ z ∧ z < 9223372036854775808
theorem rl_of {z : Int} (h : rl z) : (iL z).toInt = z := by
  rw [Int64.toInt_ofInt]
  unfold rl at h
  have e : (Int64.size : Int) = 18446744073709551616 := rfl
  rw [Int.bmod_eq_of_le] <;> omega
theorem rl_rg {z : Int} (h : rg z) : rl z := by unfold rg at h; unfold rl; omega
theorem rl_eq {a b : Int} (ha : rl a) (hb : rl b) : iL a = iL b ↔ a = b := by
  rw [← Int64.toInt_inj, rl_of ha, rl_of hb]
theorem rl_lt {a b : Int} (ha : rl a) (hb : rl b) : iL a < iL b ↔ a < b := by
  rw [Int64.lt_iff_toInt_lt, rl_of ha, rl_of hb]
theorem r_iconst {X : XC} {D : Nat} {M : MR} {K : KP} {pc : Nat} {lv : List (Nat × Value)} {st : List Value} {I : HD} {z : Int} (hd : decode M.2.1 pc = .ok (.iconst z, 1)) (k : Rn X D M K (pc + 1) lv (iv z :: st) I) : Rn X D M K pc lv (st) I := by
  intro p e s m args below meth c H locs ls hx hb hml hr hlk hown hts hC hP hS hl
  refine lv_iconst hx hb hd rfl ?_
  exact k p e s m args below meth c H locs ls hx hb hml hr hlk hown hts hC hP hS hl
theorem r_bipush {X : XC} {D : Nat} {M : MR} {K : KP} {pc : Nat} {lv : List (Nat × Value)} {st : List Value} {I : HD} {z : Int} (hz : (Int8.ofInt z).toInt32 = iI z) (hd : decode M.2.1 pc = .ok (.bipush z, 2)) (k : Rn X D M K (pc + 2) lv (iv z :: st) I) : Rn X D M K pc lv (st) I := by
  intro p e s m args below meth c H locs ls hx hb hml hr hlk hown hts hC hP hS hl
  refine lv_bipush hx hb hd hz ?_
  exact k p e s m args below meth c H locs ls hx hb hml hr hlk hown hts hC hP hS hl
theorem r_sipush {X : XC} {D : Nat} {M : MR} {K : KP} {pc : Nat} {lv : List (Nat × Value)} {st : List Value} {I : HD} {z : Int} (hz : (Int16.ofInt z).toInt32 = iI z) (hd : decode M.2.1 pc = .ok (.sipush z, 3)) (k : Rn X D M K (pc + 3) lv (iv z :: st) I) : Rn X D M K pc lv (st) I := by
  intro p e s m args below meth c H locs ls hx hb hml hr hlk hown hts hC hP hS hl
  refine lv_sipush hx hb hd hz ?_
  exact k p e s m args below meth c H locs ls hx hb hml hr hlk hown hts hC hP hS hl
theorem r_lconst {X : XC} {D : Nat} {M : MR} {K : KP} {pc : Nat} {lv : List (Nat × Value)} {st : List Value} {I : HD} {n : Fin 2} {z : Int} (hz : Int64.ofNat (n : Nat) = iL z) (hd : decode M.2.1 pc = .ok (.lconst n, 1)) (k : Rn X D M K (pc + 1) lv (jv z :: st) I) : Rn X D M K pc lv (st) I := by
  intro p e s m args below meth c H locs ls hx hb hml hr hlk hown hts hC hP hS hl
  refine lv_lconst hx hb hd hz ?_
  exact k p e s m args below meth c H locs ls hx hb hml hr hlk hown hts hC hP hS hl
theorem r_ldc {X : XC} {D : Nat} {M : MR} {K : KP} {pc : Nat} {lv : List (Nat × Value)} {st : List Value} {I : HD} {i : Nat} {z : Int} (hk : Cond.constant M.1.cls i (iI z) ∈ lw_good) (hd : decode M.2.1 pc = .ok (.ldc i, 2)) (k : Rn X D M K (pc + 2) lv (iv z :: st) I) : Rn X D M K pc lv (st) I := by
  intro p e s m args below meth c H locs ls hx hb hml hr hlk hown hts hC hP hS hl
  refine lv_ldc hx hb hown (hts _ (List.mem_cons_of_mem _ hk)) hd ?_
  exact k p e s m args below meth c H locs ls hx hb hml hr hlk hown hts hC hP hS hl
theorem r_ldcw {X : XC} {D : Nat} {M : MR} {K : KP} {pc : Nat} {lv : List (Nat × Value)} {st : List Value} {I : HD} {i : Nat} {z : Int} (hk : Cond.constant M.1.cls i (iI z) ∈ lw_good) (hd : decode M.2.1 pc = .ok (.ldc_w i, 3)) (k : Rn X D M K (pc + 3) lv (iv z :: st) I) : Rn X D M K pc lv (st) I := by
  intro p e s m args below meth c H locs ls hx hb hml hr hlk hown hts hC hP hS hl
  refine lv_ldcw hx hb hown (hts _ (List.mem_cons_of_mem _ hk)) hd ?_
  exact k p e s m args below meth c H locs ls hx hb hml hr hlk hown hts hC hP hS hl
theorem r_ldc2 {X : XC} {D : Nat} {M : MR} {K : KP} {pc : Nat} {lv : List (Nat × Value)} {st : List Value} {I : HD} {i : Nat} {z : Int} (hk : Cond.constantLong M.1.cls i (iL z) ∈ lw_good) (hd : decode M.2.1 pc = .ok (.ldc2_w i, 3)) (k : Rn X D M K (pc + 3) lv (jv z :: st) I) : Rn X D M K pc lv (st) I := by
  intro p e s m args below meth c H locs ls hx hb hml hr hlk hown hts hC hP hS hl
  refine lv_ldc2 hx hb hown (hts _ (List.mem_cons_of_mem _ hk)) hd ?_
  exact k p e s m args below meth c H locs ls hx hb hml hr hlk hown hts hC hP hS hl
theorem r_iload_n {X : XC} {D : Nat} {M : MR} {K : KP} {pc : Nat} {lv : List (Nat × Value)} {st : List Value} {I : HD} {a : Fin 4} {i : Nat} {z : Int} (q : Nat) (hi : (a : Nat) = i) (hq : lv[q]? = some (i, iv z)) (hd : decode M.2.1 pc = .ok (.iload_n a, 1)) (k : Rn X D M K (pc + 1) lv (iv z :: st) I) : Rn X D M K pc lv (st) I := by
  intro p e s m args below meth c H locs ls hx hb hml hr hlk hown hts hC hP hS hl
  refine lv_iload_n hx hb hd hi (lv_at hl q hq) ?_
  exact k p e s m args below meth c H locs ls hx hb hml hr hlk hown hts hC hP hS hl
theorem r_iload {X : XC} {D : Nat} {M : MR} {K : KP} {pc : Nat} {lv : List (Nat × Value)} {st : List Value} {I : HD} {i : Nat} {z : Int} (q : Nat) (hq : lv[q]? = some (i, iv z)) (hd : decode M.2.1 pc = .ok (.iload i, 2)) (k : Rn X D M K (pc + 2) lv (iv z :: st) I) : Rn X D M K pc lv (st) I := by
  intro p e s m args below meth c H locs ls hx hb hml hr hlk hown hts hC hP hS hl
  refine lv_iload hx hb hd (lv_at hl q hq) ?_
  exact k p e s m args below meth c H locs ls hx hb hml hr hlk hown hts hC hP hS hl
theorem r_lload_n {X : XC} {D : Nat} {M : MR} {K : KP} {pc : Nat} {lv : List (Nat × Value)} {st : List Value} {I : HD} {a : Fin 4} {i : Nat} {z : Int} (q : Nat) (hi : (a : Nat) = i) (hq : lv[q]? = some (i, jv z)) (hd : decode M.2.1 pc = .ok (.lload_n a, 1)) (k : Rn X D M K (pc + 1) lv (jv z :: st) I) : Rn X D M K pc lv (st) I := by
  intro p e s m args below meth c H locs ls hx hb hml hr hlk hown hts hC hP hS hl
  refine lv_lload_n hx hb hd hi (lv_at hl q hq) ?_
  exact k p e s m args below meth c H locs ls hx hb hml hr hlk hown hts hC hP hS hl
theorem r_lload {X : XC} {D : Nat} {M : MR} {K : KP} {pc : Nat} {lv : List (Nat × Value)} {st : List Value} {I : HD} {i : Nat} {z : Int} (q : Nat) (hq : lv[q]? = some (i, jv z)) (hd : decode M.2.1 pc = .ok (.lload i, 2)) (k : Rn X D M K (pc + 2) lv (jv z :: st) I) : Rn X D M K pc lv (st) I := by
  intro p e s m args below meth c H locs ls hx hb hml hr hlk hown hts hC hP hS hl
  refine lv_lload hx hb hd (lv_at hl q hq) ?_
  exact k p e s m args below meth c H locs ls hx hb hml hr hlk hown hts hC hP hS hl
theorem r_aload_n {X : XC} {D : Nat} {M : MR} {K : KP} {pc : Nat} {lv : List (Nat × Value)} {st : List Value} {I : HD} {a : Fin 4} {i : Nat} {x : Nat} (q : Nat) (hi : (a : Nat) = i) (hq : lv[q]? = some (i, .ref x)) (hd : decode M.2.1 pc = .ok (.aload_n a, 1)) (k : Rn X D M K (pc + 1) lv (.ref x :: st) I) : Rn X D M K pc lv (st) I := by
  intro p e s m args below meth c H locs ls hx hb hml hr hlk hown hts hC hP hS hl
  refine lv_aload_n hx hb hd hi (lv_at hl q hq) ?_
  exact k p e s m args below meth c H locs ls hx hb hml hr hlk hown hts hC hP hS hl
theorem r_aload {X : XC} {D : Nat} {M : MR} {K : KP} {pc : Nat} {lv : List (Nat × Value)} {st : List Value} {I : HD} {i : Nat} {x : Nat} (q : Nat) (hq : lv[q]? = some (i, .ref x)) (hd : decode M.2.1 pc = .ok (.aload i, 2)) (k : Rn X D M K (pc + 2) lv (.ref x :: st) I) : Rn X D M K pc lv (st) I := by
  intro p e s m args below meth c H locs ls hx hb hml hr hlk hown hts hC hP hS hl
  refine lv_aload hx hb hd (lv_at hl q hq) ?_
  exact k p e s m args below meth c H locs ls hx hb hml hr hlk hown hts hC hP hS hl
theorem r_istore_n {X : XC} {D : Nat} {M : MR} {K : KP} {pc : Nat} {lv : List (Nat × Value)} {st : List Value} {I : HD} {z : Int} {a : Fin 4} {i : Nat} (ha : (a : Nat) = i) (lv2 : List (Nat × Value)) (hi : i < M.2.2.1) (hl2 : (i, iv z) :: lv.filter (fun q => !(q.1 == i) && !(q.1 + 1 == i && q.2.category == 2)) = lv2) (hd : decode M.2.1 pc = .ok (.istore_n a, 1)) (k : Rn X D M K (pc + 1) lv2 st I) : Rn X D M K pc lv (iv z :: st) I := by
  intro p e s m args below meth c H locs ls hx hb hml hr hlk hown hts hC hP hS hl
  refine lv_istore_n hx hb hd ha hl hi hl2 (fun ls2 h2 => ?_)
  exact k p e s m args below meth c H locs ls2 hx hb hml hr hlk hown hts hC hP hS h2
theorem r_istore {X : XC} {D : Nat} {M : MR} {K : KP} {pc : Nat} {lv : List (Nat × Value)} {st : List Value} {I : HD} {z : Int} {i : Nat} (lv2 : List (Nat × Value)) (hi : i < M.2.2.1) (hl2 : (i, iv z) :: lv.filter (fun q => !(q.1 == i) && !(q.1 + 1 == i && q.2.category == 2)) = lv2) (hd : decode M.2.1 pc = .ok (.istore i, 2)) (k : Rn X D M K (pc + 2) lv2 st I) : Rn X D M K pc lv (iv z :: st) I := by
  intro p e s m args below meth c H locs ls hx hb hml hr hlk hown hts hC hP hS hl
  refine lv_istore hx hb hd hl hi hl2 (fun ls2 h2 => ?_)
  exact k p e s m args below meth c H locs ls2 hx hb hml hr hlk hown hts hC hP hS h2
theorem r_lstore_n {X : XC} {D : Nat} {M : MR} {K : KP} {pc : Nat} {lv : List (Nat × Value)} {st : List Value} {I : HD} {z : Int} {a : Fin 4} {i : Nat} (ha : (a : Nat) = i) (lv2 : List (Nat × Value)) (hi : i + 1 < M.2.2.1) (hl2 : (i, jv z) :: lv.filter (fun q => !(q.1 == i) && (!(q.1 == i + 1) && !(q.1 + 1 == i && q.2.category == 2))) = lv2) (hd : decode M.2.1 pc = .ok (.lstore_n a, 1)) (k : Rn X D M K (pc + 1) lv2 st I) : Rn X D M K pc lv (jv z :: st) I := by
  intro p e s m args below meth c H locs ls hx hb hml hr hlk hown hts hC hP hS hl
  refine lv_lstore_n hx hb hd ha hl hi hl2 (fun ls2 h2 => ?_)
  exact k p e s m args below meth c H locs ls2 hx hb hml hr hlk hown hts hC hP hS h2
theorem r_lstore {X : XC} {D : Nat} {M : MR} {K : KP} {pc : Nat} {lv : List (Nat × Value)} {st : List Value} {I : HD} {z : Int} {i : Nat} (lv2 : List (Nat × Value)) (hi : i + 1 < M.2.2.1) (hl2 : (i, jv z) :: lv.filter (fun q => !(q.1 == i) && (!(q.1 == i + 1) && !(q.1 + 1 == i && q.2.category == 2))) = lv2) (hd : decode M.2.1 pc = .ok (.lstore i, 2)) (k : Rn X D M K (pc + 2) lv2 st I) : Rn X D M K pc lv (jv z :: st) I := by
  intro p e s m args below meth c H locs ls hx hb hml hr hlk hown hts hC hP hS hl
  refine lv_lstore hx hb hd hl hi hl2 (fun ls2 h2 => ?_)
  exact k p e s m args below meth c H locs ls2 hx hb hml hr hlk hown hts hC hP hS h2
theorem r_astore_n {X : XC} {D : Nat} {M : MR} {K : KP} {pc : Nat} {lv : List (Nat × Value)} {st : List Value} {I : HD} {x : Nat} {a : Fin 4} {i : Nat} (ha : (a : Nat) = i) (lv2 : List (Nat × Value)) (hi : i < M.2.2.1) (hl2 : (i, .ref x) :: lv.filter (fun q => !(q.1 == i) && !(q.1 + 1 == i && q.2.category == 2)) = lv2) (hd : decode M.2.1 pc = .ok (.astore_n a, 1)) (k : Rn X D M K (pc + 1) lv2 st I) : Rn X D M K pc lv (.ref x :: st) I := by
  intro p e s m args below meth c H locs ls hx hb hml hr hlk hown hts hC hP hS hl
  refine lv_astore_n hx hb hd ha hl hi hl2 (fun ls2 h2 => ?_)
  exact k p e s m args below meth c H locs ls2 hx hb hml hr hlk hown hts hC hP hS h2
theorem r_astore {X : XC} {D : Nat} {M : MR} {K : KP} {pc : Nat} {lv : List (Nat × Value)} {st : List Value} {I : HD} {x : Nat} {i : Nat} (lv2 : List (Nat × Value)) (hi : i < M.2.2.1) (hl2 : (i, .ref x) :: lv.filter (fun q => !(q.1 == i) && !(q.1 + 1 == i && q.2.category == 2)) = lv2) (hd : decode M.2.1 pc = .ok (.astore i, 2)) (k : Rn X D M K (pc + 2) lv2 st I) : Rn X D M K pc lv (.ref x :: st) I := by
  intro p e s m args below meth c H locs ls hx hb hml hr hlk hown hts hC hP hS hl
  refine lv_astore hx hb hd hl hi hl2 (fun ls2 h2 => ?_)
  exact k p e s m args below meth c H locs ls2 hx hb hml hr hlk hown hts hC hP hS h2
theorem r_iinc {X : XC} {D : Nat} {M : MR} {K : KP} {pc : Nat} {lv : List (Nat × Value)} {st : List Value} {I : HD} {z n : Int} {i : Nat} (q : Nat) (lv2 : List (Nat × Value)) (hq : lv[q]? = some (i, iv z)) (hi : i < M.2.2.1) (hl2 : (i, iv (z + n)) :: lv.filter (fun q => !(q.1 == i) && !(q.1 + 1 == i && q.2.category == 2)) = lv2) (hd : decode M.2.1 pc = .ok (.iinc i n, 3)) (k : Rn X D M K (pc + 3) lv2 st I) : Rn X D M K pc lv st I := by
  intro p e s m args below meth c H locs ls hx hb hml hr hlk hown hts hC hP hS hl
  refine lv_iinc (v := iI (z + n)) hx hb hd hl hq (Int32.ofInt_add z n).symm hi hl2 (fun ls2 h2 => ?_)
  exact k p e s m args below meth c H locs ls2 hx hb hml hr hlk hown hts hC hP hS h2
theorem r_iadd {X : XC} {D : Nat} {M : MR} {K : KP} {pc : Nat} {lv : List (Nat × Value)} {st : List Value} {I : HD} {a b : Int} (hd : decode M.2.1 pc = .ok (.iadd, 1)) (k : Rn X D M K (pc + 1) lv (iv (a + b) :: st) I) : Rn X D M K pc lv (iv b :: iv a :: st) I := by
  intro p e s m args below meth c H locs ls hx hb hml hr hlk hown hts hC hP hS hl
  refine lv_iadd hx hb hd ?_
  rw [show iI a + iI b = iI (a + b) from (Int32.ofInt_add a b).symm]
  exact k p e s m args below meth c H locs ls hx hb hml hr hlk hown hts hC hP hS hl
theorem r_isub {X : XC} {D : Nat} {M : MR} {K : KP} {pc : Nat} {lv : List (Nat × Value)} {st : List Value} {I : HD} {a b : Int} (hd : decode M.2.1 pc = .ok (.isub, 1)) (k : Rn X D M K (pc + 1) lv (iv (a - b) :: st) I) : Rn X D M K pc lv (iv b :: iv a :: st) I := by
  intro p e s m args below meth c H locs ls hx hb hml hr hlk hown hts hC hP hS hl
  refine lv_isub hx hb hd ?_
  rw [show iI a - iI b = iI (a - b) from (Int32.ofInt_sub a b).symm]
  exact k p e s m args below meth c H locs ls hx hb hml hr hlk hown hts hC hP hS hl
theorem r_imul {X : XC} {D : Nat} {M : MR} {K : KP} {pc : Nat} {lv : List (Nat × Value)} {st : List Value} {I : HD} {a b : Int} (hd : decode M.2.1 pc = .ok (.imul, 1)) (k : Rn X D M K (pc + 1) lv (iv (a * b) :: st) I) : Rn X D M K pc lv (iv b :: iv a :: st) I := by
  intro p e s m args below meth c H locs ls hx hb hml hr hlk hown hts hC hP hS hl
  refine lv_imul hx hb hd ?_
  rw [show iI a * iI b = iI (a * b) from (Int32.ofInt_mul a b).symm]
  exact k p e s m args below meth c H locs ls hx hb hml hr hlk hown hts hC hP hS hl
theorem r_iand {X : XC} {D : Nat} {M : MR} {K : KP} {pc : Nat} {lv : List (Nat × Value)} {st : List Value} {I : HD} {a b z : Int} (hz : iI a &&& iI b = iI z) (hd : decode M.2.1 pc = .ok (.iand, 1)) (k : Rn X D M K (pc + 1) lv (iv z :: st) I) : Rn X D M K pc lv (iv b :: iv a :: st) I := by
  intro p e s m args below meth c H locs ls hx hb hml hr hlk hown hts hC hP hS hl
  refine lv_iand hx hb hd ?_
  rw [hz]
  exact k p e s m args below meth c H locs ls hx hb hml hr hlk hown hts hC hP hS hl
theorem r_ior {X : XC} {D : Nat} {M : MR} {K : KP} {pc : Nat} {lv : List (Nat × Value)} {st : List Value} {I : HD} {a b z : Int} (hz : iI a ||| iI b = iI z) (hd : decode M.2.1 pc = .ok (.ior, 1)) (k : Rn X D M K (pc + 1) lv (iv z :: st) I) : Rn X D M K pc lv (iv b :: iv a :: st) I := by
  intro p e s m args below meth c H locs ls hx hb hml hr hlk hown hts hC hP hS hl
  refine lv_ior hx hb hd ?_
  rw [hz]
  exact k p e s m args below meth c H locs ls hx hb hml hr hlk hown hts hC hP hS hl
theorem r_ixor {X : XC} {D : Nat} {M : MR} {K : KP} {pc : Nat} {lv : List (Nat × Value)} {st : List Value} {I : HD} {a b z : Int} (hz : iI a ^^^ iI b = iI z) (hd : decode M.2.1 pc = .ok (.ixor, 1)) (k : Rn X D M K (pc + 1) lv (iv z :: st) I) : Rn X D M K pc lv (iv b :: iv a :: st) I := by
  intro p e s m args below meth c H locs ls hx hb hml hr hlk hown hts hC hP hS hl
  refine lv_ixor hx hb hd ?_
  rw [hz]
  exact k p e s m args below meth c H locs ls hx hb hml hr hlk hown hts hC hP hS hl
theorem r_ishl {X : XC} {D : Nat} {M : MR} {K : KP} {pc : Nat} {lv : List (Nat × Value)} {st : List Value} {I : HD} {a b z : Int} (hz : iI a <<< (iI b &&& 31) = iI z) (hd : decode M.2.1 pc = .ok (.ishl, 1)) (k : Rn X D M K (pc + 1) lv (iv z :: st) I) : Rn X D M K pc lv (iv b :: iv a :: st) I := by
  intro p e s m args below meth c H locs ls hx hb hml hr hlk hown hts hC hP hS hl
  refine lv_ishl hx hb hd ?_
  rw [hz]
  exact k p e s m args below meth c H locs ls hx hb hml hr hlk hown hts hC hP hS hl
theorem r_ishr {X : XC} {D : Nat} {M : MR} {K : KP} {pc : Nat} {lv : List (Nat × Value)} {st : List Value} {I : HD} {a b z : Int} (hz : iI a >>> (iI b &&& 31) = iI z) (hd : decode M.2.1 pc = .ok (.ishr, 1)) (k : Rn X D M K (pc + 1) lv (iv z :: st) I) : Rn X D M K pc lv (iv b :: iv a :: st) I := by
  intro p e s m args below meth c H locs ls hx hb hml hr hlk hown hts hC hP hS hl
  refine lv_ishr hx hb hd ?_
  rw [hz]
  exact k p e s m args below meth c H locs ls hx hb hml hr hlk hown hts hC hP hS hl
theorem r_irem {X : XC} {D : Nat} {M : MR} {K : KP} {pc : Nat} {lv : List (Nat × Value)} {st : List Value} {I : HD} {a b z : Int} (hne : ¬ iI b = 0) (hz : iI a - iI a / iI b * iI b = iI z) (hd : decode M.2.1 pc = .ok (.irem, 1)) (k : Rn X D M K (pc + 1) lv (iv z :: st) I) : Rn X D M K pc lv (iv b :: iv a :: st) I := by
  intro p e s m args below meth c H locs ls hx hb hml hr hlk hown hts hC hP hS hl
  refine lv_irem hx hb hd hne ?_
  rw [hz]
  exact k p e s m args below meth c H locs ls hx hb hml hr hlk hown hts hC hP hS hl
theorem r_ineg {X : XC} {D : Nat} {M : MR} {K : KP} {pc : Nat} {lv : List (Nat × Value)} {st : List Value} {I : HD} {a : Int} (hd : decode M.2.1 pc = .ok (.ineg, 1)) (k : Rn X D M K (pc + 1) lv (iv (-a) :: st) I) : Rn X D M K pc lv (iv a :: st) I := by
  intro p e s m args below meth c H locs ls hx hb hml hr hlk hown hts hC hP hS hl
  refine lv_ineg hx hb hd ?_
  rw [show -iI a = iI (-a) from (Int32.ofInt_neg a).symm]
  exact k p e s m args below meth c H locs ls hx hb hml hr hlk hown hts hC hP hS hl
theorem r_ladd {X : XC} {D : Nat} {M : MR} {K : KP} {pc : Nat} {lv : List (Nat × Value)} {st : List Value} {I : HD} {a b : Int} (hd : decode M.2.1 pc = .ok (.ladd, 1)) (k : Rn X D M K (pc + 1) lv (jv (a + b) :: st) I) : Rn X D M K pc lv (jv b :: jv a :: st) I := by
  intro p e s m args below meth c H locs ls hx hb hml hr hlk hown hts hC hP hS hl
  refine lv_ladd hx hb hd ?_
  rw [show iL a + iL b = iL (a + b) from (Int64.ofInt_add a b).symm]
  exact k p e s m args below meth c H locs ls hx hb hml hr hlk hown hts hC hP hS hl
theorem r_lsub {X : XC} {D : Nat} {M : MR} {K : KP} {pc : Nat} {lv : List (Nat × Value)} {st : List Value} {I : HD} {a b : Int} (hd : decode M.2.1 pc = .ok (.lsub, 1)) (k : Rn X D M K (pc + 1) lv (jv (a - b) :: st) I) : Rn X D M K pc lv (jv b :: jv a :: st) I := by
  intro p e s m args below meth c H locs ls hx hb hml hr hlk hown hts hC hP hS hl
  refine lv_lsub hx hb hd ?_
  rw [show iL a - iL b = iL (a - b) from (Int64.ofInt_sub a b).symm]
  exact k p e s m args below meth c H locs ls hx hb hml hr hlk hown hts hC hP hS hl
theorem r_lmul {X : XC} {D : Nat} {M : MR} {K : KP} {pc : Nat} {lv : List (Nat × Value)} {st : List Value} {I : HD} {a b : Int} (hd : decode M.2.1 pc = .ok (.lmul, 1)) (k : Rn X D M K (pc + 1) lv (jv (a * b) :: st) I) : Rn X D M K pc lv (jv b :: jv a :: st) I := by
  intro p e s m args below meth c H locs ls hx hb hml hr hlk hown hts hC hP hS hl
  refine lv_lmul hx hb hd ?_
  rw [show iL a * iL b = iL (a * b) from (Int64.ofInt_mul a b).symm]
  exact k p e s m args below meth c H locs ls hx hb hml hr hlk hown hts hC hP hS hl
theorem r_ldiv {X : XC} {D : Nat} {M : MR} {K : KP} {pc : Nat} {lv : List (Nat × Value)} {st : List Value} {I : HD} {a b z : Int} (hne : ¬ iL b = 0) (hz : iL a / iL b = iL z) (hd : decode M.2.1 pc = .ok (.ldiv, 1)) (k : Rn X D M K (pc + 1) lv (jv z :: st) I) : Rn X D M K pc lv (jv b :: jv a :: st) I := by
  intro p e s m args below meth c H locs ls hx hb hml hr hlk hown hts hC hP hS hl
  refine lv_ldiv hx hb hd hne ?_
  rw [hz]
  exact k p e s m args below meth c H locs ls hx hb hml hr hlk hown hts hC hP hS hl
theorem r_lrem {X : XC} {D : Nat} {M : MR} {K : KP} {pc : Nat} {lv : List (Nat × Value)} {st : List Value} {I : HD} {a b z : Int} (hne : ¬ iL b = 0) (hz : iL a - iL a / iL b * iL b = iL z) (hd : decode M.2.1 pc = .ok (.lrem, 1)) (k : Rn X D M K (pc + 1) lv (jv z :: st) I) : Rn X D M K pc lv (jv b :: jv a :: st) I := by
  intro p e s m args below meth c H locs ls hx hb hml hr hlk hown hts hC hP hS hl
  refine lv_lrem hx hb hd hne ?_
  rw [hz]
  exact k p e s m args below meth c H locs ls hx hb hml hr hlk hown hts hC hP hS hl
theorem r_land {X : XC} {D : Nat} {M : MR} {K : KP} {pc : Nat} {lv : List (Nat × Value)} {st : List Value} {I : HD} {a b z : Int} (hz : iL a &&& iL b = iL z) (hd : decode M.2.1 pc = .ok (.land, 1)) (k : Rn X D M K (pc + 1) lv (jv z :: st) I) : Rn X D M K pc lv (jv b :: jv a :: st) I := by
  intro p e s m args below meth c H locs ls hx hb hml hr hlk hown hts hC hP hS hl
  refine lv_land hx hb hd ?_
  rw [hz]
  exact k p e s m args below meth c H locs ls hx hb hml hr hlk hown hts hC hP hS hl
theorem r_lor {X : XC} {D : Nat} {M : MR} {K : KP} {pc : Nat} {lv : List (Nat × Value)} {st : List Value} {I : HD} {a b z : Int} (hz : iL a ||| iL b = iL z) (hd : decode M.2.1 pc = .ok (.lor, 1)) (k : Rn X D M K (pc + 1) lv (jv z :: st) I) : Rn X D M K pc lv (jv b :: jv a :: st) I := by
  intro p e s m args below meth c H locs ls hx hb hml hr hlk hown hts hC hP hS hl
  refine lv_lor hx hb hd ?_
  rw [hz]
  exact k p e s m args below meth c H locs ls hx hb hml hr hlk hown hts hC hP hS hl
theorem r_lshr {X : XC} {D : Nat} {M : MR} {K : KP} {pc : Nat} {lv : List (Nat × Value)} {st : List Value} {I : HD} {a b z : Int} (hz : iL a >>> ((iI b).toInt64 &&& 63) = iL z) (hd : decode M.2.1 pc = .ok (.lshr, 1)) (k : Rn X D M K (pc + 1) lv (jv z :: st) I) : Rn X D M K pc lv (iv b :: jv a :: st) I := by
  intro p e s m args below meth c H locs ls hx hb hml hr hlk hown hts hC hP hS hl
  refine lv_lshr hx hb hd hz ?_
  exact k p e s m args below meth c H locs ls hx hb hml hr hlk hown hts hC hP hS hl
theorem r_lshl {X : XC} {D : Nat} {M : MR} {K : KP} {pc : Nat} {lv : List (Nat × Value)} {st : List Value} {I : HD} {a b z : Int} (hz : iL a <<< ((iI b).toInt64 &&& 63) = iL z) (hd : decode M.2.1 pc = .ok (.lshl, 1)) (k : Rn X D M K (pc + 1) lv (jv z :: st) I) : Rn X D M K pc lv (iv b :: jv a :: st) I := by
  intro p e s m args below meth c H locs ls hx hb hml hr hlk hown hts hC hP hS hl
  refine lv_lshl hx hb hd hz ?_
  exact k p e s m args below meth c H locs ls hx hb hml hr hlk hown hts hC hP hS hl
theorem r_i2l {X : XC} {D : Nat} {M : MR} {K : KP} {pc : Nat} {lv : List (Nat × Value)} {st : List Value} {I : HD} {a : Int} (ha : rg a) (hd : decode M.2.1 pc = .ok (.i2l, 1)) (k : Rn X D M K (pc + 1) lv (jv a :: st) I) : Rn X D M K pc lv (iv a :: st) I := by
  intro p e s m args below meth c H locs ls hx hb hml hr hlk hown hts hC hP hS hl
  refine lv_i2l (v := iL a) hx hb hd (by rw [← Int64.toInt_inj, Int32.toInt_toInt64, rg_of ha, rl_of (rl_rg ha)]) ?_
  exact k p e s m args below meth c H locs ls hx hb hml hr hlk hown hts hC hP hS hl
theorem r_l2i {X : XC} {D : Nat} {M : MR} {K : KP} {pc : Nat} {lv : List (Nat × Value)} {st : List Value} {I : HD} {a : Int} (hd : decode M.2.1 pc = .ok (.l2i, 1)) (k : Rn X D M K (pc + 1) lv (iv a :: st) I) : Rn X D M K pc lv (jv a :: st) I := by
  intro p e s m args below meth c H locs ls hx hb hml hr hlk hown hts hC hP hS hl
  refine lv_l2i (v := iI a) hx hb hd Int64.toInt32_ofInt ?_
  exact k p e s m args below meth c H locs ls hx hb hml hr hlk hown hts hC hP hS hl
theorem r_i2b {X : XC} {D : Nat} {M : MR} {K : KP} {pc : Nat} {lv : List (Nat × Value)} {st : List Value} {I : HD} {a z : Int} (hz : (iI a).toInt8.toInt32 = iI z) (hd : decode M.2.1 pc = .ok (.i2b, 1)) (k : Rn X D M K (pc + 1) lv (iv z :: st) I) : Rn X D M K pc lv (iv a :: st) I := by
  intro p e s m args below meth c H locs ls hx hb hml hr hlk hown hts hC hP hS hl
  refine lv_i2b hx hb hd hz ?_
  exact k p e s m args below meth c H locs ls hx hb hml hr hlk hown hts hC hP hS hl
theorem r_i2s {X : XC} {D : Nat} {M : MR} {K : KP} {pc : Nat} {lv : List (Nat × Value)} {st : List Value} {I : HD} {a z : Int} (hz : (iI a).toInt16.toInt32 = iI z) (hd : decode M.2.1 pc = .ok (.i2s, 1)) (k : Rn X D M K (pc + 1) lv (iv z :: st) I) : Rn X D M K pc lv (iv a :: st) I := by
  intro p e s m args below meth c H locs ls hx hb hml hr hlk hown hts hC hP hS hl
  refine lv_i2s hx hb hd hz ?_
  exact k p e s m args below meth c H locs ls hx hb hml hr hlk hown hts hC hP hS hl
theorem r_dup {X : XC} {D : Nat} {M : MR} {K : KP} {pc : Nat} {lv : List (Nat × Value)} {st : List Value} {I : HD} {v : Value} (hv : v.category = 1) (hd : decode M.2.1 pc = .ok (.dup, 1)) (k : Rn X D M K (pc + 1) lv (v :: v :: st) I) : Rn X D M K pc lv (v :: st) I := by
  intro p e s m args below meth c H locs ls hx hb hml hr hlk hown hts hC hP hS hl
  refine lv_dup hx hb hd hv ?_
  exact k p e s m args below meth c H locs ls hx hb hml hr hlk hown hts hC hP hS hl
theorem r_pop {X : XC} {D : Nat} {M : MR} {K : KP} {pc : Nat} {lv : List (Nat × Value)} {st : List Value} {I : HD} {v : Value} (hv : v.category = 1) (hd : decode M.2.1 pc = .ok (.pop, 1)) (k : Rn X D M K (pc + 1) lv (st) I) : Rn X D M K pc lv (v :: st) I := by
  intro p e s m args below meth c H locs ls hx hb hml hr hlk hown hts hC hP hS hl
  refine lv_pop hx hb hd hv ?_
  exact k p e s m args below meth c H locs ls hx hb hml hr hlk hown hts hC hP hS hl
theorem r_dup2 {X : XC} {D : Nat} {M : MR} {K : KP} {pc : Nat} {lv : List (Nat × Value)} {st : List Value} {I : HD} {v w : Value} (hv : v.category = 1) (hw : w.category = 1) (hd : decode M.2.1 pc = .ok (.dup2, 1)) (k : Rn X D M K (pc + 1) lv (v :: w :: v :: w :: st) I) : Rn X D M K pc lv (v :: w :: st) I := by
  intro p e s m args below meth c H locs ls hx hb hml hr hlk hown hts hC hP hS hl
  refine lv_dup2_11 hx hb hd hv hw ?_
  exact k p e s m args below meth c H locs ls hx hb hml hr hlk hown hts hC hP hS hl
theorem r_lcmp {X : XC} {D : Nat} {M : MR} {K : KP} {pc : Nat} {lv : List (Nat × Value)} {st : List Value} {I : HD} {a b : Int} (hd : decode M.2.1 pc = .ok (.lcmp, 1)) (k : Rn X D M K (pc + 1) lv (.int (lg_cmp (iL a) (iL b)) :: st) I) : Rn X D M K pc lv (jv b :: jv a :: st) I := by
  intro p e s m args below meth c H locs ls hx hb hml hr hlk hown hts hC hP hS hl
  refine W.lcmp hx hb hd ?_
  exact k p e s m args below meth c H locs ls hx hb hml hr hlk hown hts hC hP hS hl
theorem r_icmp_eq {X : XC} {D : Nat} {M : MR} {K : KP} {pc : Nat} {lv : List (Nat × Value)} {st : List Value} {I : HD} {a b off : Int} (tgt : Nat) (ha : rg a) (hb0 : rg b) (hd : decode M.2.1 pc = .ok (.if_icmp .eq off, 3)) (ht : (pc : Int) + off = (tgt : Int)) (kt : a = b → Rn X D M K tgt lv st I) (kf : ¬ a = b → Rn X D M K (pc + 3) lv st I) : Rn X D M K pc lv (iv b :: iv a :: st) I := by
  intro p e s m args below meth c H locs ls hx hb hml hr hlk hown hts hC hP hS hl
  have e9 := rg_eq ha hb0
  exact lv_icmp_eq hx hb hd ht (fun h => kt (e9.mp h) p e s m args below meth c H locs ls hx hb hml hr hlk hown hts hC hP hS hl) (fun h => kf (fun q => h (e9.mpr q)) p e s m args below meth c H locs ls hx hb hml hr hlk hown hts hC hP hS hl)
theorem r_icmp_ne {X : XC} {D : Nat} {M : MR} {K : KP} {pc : Nat} {lv : List (Nat × Value)} {st : List Value} {I : HD} {a b off : Int} (tgt : Nat) (ha : rg a) (hb0 : rg b) (hd : decode M.2.1 pc = .ok (.if_icmp .ne off, 3)) (ht : (pc : Int) + off = (tgt : Int)) (kt : ¬ a = b → Rn X D M K tgt lv st I) (kf : a = b → Rn X D M K (pc + 3) lv st I) : Rn X D M K pc lv (iv b :: iv a :: st) I := by
  intro p e s m args below meth c H locs ls hx hb hml hr hlk hown hts hC hP hS hl
  have e9 := rg_eq ha hb0
  exact lv_icmp_ne hx hb hd ht (fun h => kt (fun q => h (e9.mpr q)) p e s m args below meth c H locs ls hx hb hml hr hlk hown hts hC hP hS hl) (fun h => kf (e9.mp h) p e s m args below meth c H locs ls hx hb hml hr hlk hown hts hC hP hS hl)
theorem r_icmp_lt {X : XC} {D : Nat} {M : MR} {K : KP} {pc : Nat} {lv : List (Nat × Value)} {st : List Value} {I : HD} {a b off : Int} (tgt : Nat) (ha : rg a) (hb0 : rg b) (hd : decode M.2.1 pc = .ok (.if_icmp .lt off, 3)) (ht : (pc : Int) + off = (tgt : Int)) (kt : a < b → Rn X D M K tgt lv st I) (kf : b ≤ a → Rn X D M K (pc + 3) lv st I) : Rn X D M K pc lv (iv b :: iv a :: st) I := by
  intro p e s m args below meth c H locs ls hx hb hml hr hlk hown hts hC hP hS hl
  have e9 := rg_lt ha hb0
  exact lv_icmp_lt hx hb hd ht (fun h => kt (e9.mp h) p e s m args below meth c H locs ls hx hb hml hr hlk hown hts hC hP hS hl) (fun h => kf (by have q : ¬ (a < b) := fun z => h (e9.mpr z); omega) p e s m args below meth c H locs ls hx hb hml hr hlk hown hts hC hP hS hl)
theorem r_icmp_ge {X : XC} {D : Nat} {M : MR} {K : KP} {pc : Nat} {lv : List (Nat × Value)} {st : List Value} {I : HD} {a b off : Int} (tgt : Nat) (ha : rg a) (hb0 : rg b) (hd : decode M.2.1 pc = .ok (.if_icmp .ge off, 3)) (ht : (pc : Int) + off = (tgt : Int)) (kt : b ≤ a → Rn X D M K tgt lv st I) (kf : a < b → Rn X D M K (pc + 3) lv st I) : Rn X D M K pc lv (iv b :: iv a :: st) I := by
  intro p e s m args below meth c H locs ls hx hb hml hr hlk hown hts hC hP hS hl
  have e9 := rg_le hb0 ha
  exact lv_icmp_ge hx hb hd ht (fun h => kt (e9.mp h) p e s m args below meth c H locs ls hx hb hml hr hlk hown hts hC hP hS hl) (fun h => kf (by have q : ¬ (b ≤ a) := fun z => h (e9.mpr z); omega) p e s m args below meth c H locs ls hx hb hml hr hlk hown hts hC hP hS hl)
theorem r_icmp_gt {X : XC} {D : Nat} {M : MR} {K : KP} {pc : Nat} {lv : List (Nat × Value)} {st : List Value} {I : HD} {a b off : Int} (tgt : Nat) (ha : rg a) (hb0 : rg b) (hd : decode M.2.1 pc = .ok (.if_icmp .gt off, 3)) (ht : (pc : Int) + off = (tgt : Int)) (kt : b < a → Rn X D M K tgt lv st I) (kf : a ≤ b → Rn X D M K (pc + 3) lv st I) : Rn X D M K pc lv (iv b :: iv a :: st) I := by
  intro p e s m args below meth c H locs ls hx hb hml hr hlk hown hts hC hP hS hl
  have e9 := rg_lt hb0 ha
  exact lv_icmp_gt hx hb hd ht (fun h => kt (e9.mp h) p e s m args below meth c H locs ls hx hb hml hr hlk hown hts hC hP hS hl) (fun h => kf (by have q : ¬ (b < a) := fun z => h (e9.mpr z); omega) p e s m args below meth c H locs ls hx hb hml hr hlk hown hts hC hP hS hl)
theorem r_icmp_le {X : XC} {D : Nat} {M : MR} {K : KP} {pc : Nat} {lv : List (Nat × Value)} {st : List Value} {I : HD} {a b off : Int} (tgt : Nat) (ha : rg a) (hb0 : rg b) (hd : decode M.2.1 pc = .ok (.if_icmp .le off, 3)) (ht : (pc : Int) + off = (tgt : Int)) (kt : a ≤ b → Rn X D M K tgt lv st I) (kf : b < a → Rn X D M K (pc + 3) lv st I) : Rn X D M K pc lv (iv b :: iv a :: st) I := by
  intro p e s m args below meth c H locs ls hx hb hml hr hlk hown hts hC hP hS hl
  have e9 := rg_le ha hb0
  exact lv_icmp_le hx hb hd ht (fun h => kt (e9.mp h) p e s m args below meth c H locs ls hx hb hml hr hlk hown hts hC hP hS hl) (fun h => kf (by have q : ¬ (a ≤ b) := fun z => h (e9.mpr z); omega) p e s m args below meth c H locs ls hx hb hml hr hlk hown hts hC hP hS hl)
theorem r_if_eq {X : XC} {D : Nat} {M : MR} {K : KP} {pc : Nat} {lv : List (Nat × Value)} {st : List Value} {I : HD} {a off : Int} (tgt : Nat) (ha : rg a) (hd : decode M.2.1 pc = .ok (.ifCond .eq off, 3)) (ht : (pc : Int) + off = (tgt : Int)) (kt : a = 0 → Rn X D M K tgt lv st I) (kf : ¬ a = 0 → Rn X D M K (pc + 3) lv st I) : Rn X D M K pc lv (iv a :: st) I := by
  intro p e s m args below meth c H locs ls hx hb hml hr hlk hown hts hC hP hS hl
  have e9 := rg_eq ha rg_0
  exact lv_if_eq hx hb hd ht (fun h => kt (e9.mp h) p e s m args below meth c H locs ls hx hb hml hr hlk hown hts hC hP hS hl) (fun h => kf (fun q => h (e9.mpr q)) p e s m args below meth c H locs ls hx hb hml hr hlk hown hts hC hP hS hl)
theorem r_if_ne {X : XC} {D : Nat} {M : MR} {K : KP} {pc : Nat} {lv : List (Nat × Value)} {st : List Value} {I : HD} {a off : Int} (tgt : Nat) (ha : rg a) (hd : decode M.2.1 pc = .ok (.ifCond .ne off, 3)) (ht : (pc : Int) + off = (tgt : Int)) (kt : ¬ a = 0 → Rn X D M K tgt lv st I) (kf : a = 0 → Rn X D M K (pc + 3) lv st I) : Rn X D M K pc lv (iv a :: st) I := by
  intro p e s m args below meth c H locs ls hx hb hml hr hlk hown hts hC hP hS hl
  have e9 := rg_eq ha rg_0
  exact lv_if_ne hx hb hd ht (fun h => kt (fun q => h (e9.mpr q)) p e s m args below meth c H locs ls hx hb hml hr hlk hown hts hC hP hS hl) (fun h => kf (e9.mp h) p e s m args below meth c H locs ls hx hb hml hr hlk hown hts hC hP hS hl)
theorem r_if_lt {X : XC} {D : Nat} {M : MR} {K : KP} {pc : Nat} {lv : List (Nat × Value)} {st : List Value} {I : HD} {a off : Int} (tgt : Nat) (ha : rg a) (hd : decode M.2.1 pc = .ok (.ifCond .lt off, 3)) (ht : (pc : Int) + off = (tgt : Int)) (kt : a < 0 → Rn X D M K tgt lv st I) (kf : 0 ≤ a → Rn X D M K (pc + 3) lv st I) : Rn X D M K pc lv (iv a :: st) I := by
  intro p e s m args below meth c H locs ls hx hb hml hr hlk hown hts hC hP hS hl
  have e9 := rg_lt ha rg_0
  exact lv_if_lt hx hb hd ht (fun h => kt (e9.mp h) p e s m args below meth c H locs ls hx hb hml hr hlk hown hts hC hP hS hl) (fun h => kf (by have q : ¬ (a < 0) := fun z => h (e9.mpr z); omega) p e s m args below meth c H locs ls hx hb hml hr hlk hown hts hC hP hS hl)
theorem r_if_ge {X : XC} {D : Nat} {M : MR} {K : KP} {pc : Nat} {lv : List (Nat × Value)} {st : List Value} {I : HD} {a off : Int} (tgt : Nat) (ha : rg a) (hd : decode M.2.1 pc = .ok (.ifCond .ge off, 3)) (ht : (pc : Int) + off = (tgt : Int)) (kt : 0 ≤ a → Rn X D M K tgt lv st I) (kf : a < 0 → Rn X D M K (pc + 3) lv st I) : Rn X D M K pc lv (iv a :: st) I := by
  intro p e s m args below meth c H locs ls hx hb hml hr hlk hown hts hC hP hS hl
  have e9 := rg_le rg_0 ha
  exact lv_if_ge hx hb hd ht (fun h => kt (e9.mp h) p e s m args below meth c H locs ls hx hb hml hr hlk hown hts hC hP hS hl) (fun h => kf (by have q : ¬ (0 ≤ a) := fun z => h (e9.mpr z); omega) p e s m args below meth c H locs ls hx hb hml hr hlk hown hts hC hP hS hl)
theorem r_if_gt {X : XC} {D : Nat} {M : MR} {K : KP} {pc : Nat} {lv : List (Nat × Value)} {st : List Value} {I : HD} {a off : Int} (tgt : Nat) (ha : rg a) (hd : decode M.2.1 pc = .ok (.ifCond .gt off, 3)) (ht : (pc : Int) + off = (tgt : Int)) (kt : 0 < a → Rn X D M K tgt lv st I) (kf : a ≤ 0 → Rn X D M K (pc + 3) lv st I) : Rn X D M K pc lv (iv a :: st) I := by
  intro p e s m args below meth c H locs ls hx hb hml hr hlk hown hts hC hP hS hl
  have e9 := rg_lt rg_0 ha
  exact lv_if_gt hx hb hd ht (fun h => kt (e9.mp h) p e s m args below meth c H locs ls hx hb hml hr hlk hown hts hC hP hS hl) (fun h => kf (by have q : ¬ (0 < a) := fun z => h (e9.mpr z); omega) p e s m args below meth c H locs ls hx hb hml hr hlk hown hts hC hP hS hl)
theorem r_if_le {X : XC} {D : Nat} {M : MR} {K : KP} {pc : Nat} {lv : List (Nat × Value)} {st : List Value} {I : HD} {a off : Int} (tgt : Nat) (ha : rg a) (hd : decode M.2.1 pc = .ok (.ifCond .le off, 3)) (ht : (pc : Int) + off = (tgt : Int)) (kt : a ≤ 0 → Rn X D M K tgt lv st I) (kf : 0 < a → Rn X D M K (pc + 3) lv st I) : Rn X D M K pc lv (iv a :: st) I := by
  intro p e s m args below meth c H locs ls hx hb hml hr hlk hown hts hC hP hS hl
  have e9 := rg_le ha rg_0
  exact lv_if_le hx hb hd ht (fun h => kt (e9.mp h) p e s m args below meth c H locs ls hx hb hml hr hlk hown hts hC hP hS hl) (fun h => kf (by have q : ¬ (a ≤ 0) := fun z => h (e9.mpr z); omega) p e s m args below meth c H locs ls hx hb hml hr hlk hown hts hC hP hS hl)
theorem r_goto {X : XC} {D : Nat} {M : MR} {K : KP} {pc : Nat} {lv : List (Nat × Value)} {st : List Value} {I : HD} {off : Int} (tgt : Nat) (hd : decode M.2.1 pc = .ok (.goto off, 3)) (ht : (pc : Int) + off = (tgt : Int)) (k : Rn X D M K tgt lv st I) : Rn X D M K pc lv st I := by
  intro p e s m args below meth c H locs ls hx hb hml hr hlk hown hts hC hP hS hl
  exact lv_goto hx hb hd ht (k p e s m args below meth c H locs ls hx hb hml hr hlk hown hts hC hP hS hl)
theorem r_lv {X : XC} {D : Nat} {M : MR} {K : KP} {pc : Nat} {lv : List (Nat × Value)} {st : List Value} {I : HD} (ks : List Nat) (lv2 : List (Nat × Value)) (h2 : lv_pick lv ks = lv2) (k : Rn X D M K pc lv2 st I) : Rn X D M K pc lv st I := by
  intro p e s m args below meth c H locs ls hx hb hml hr hlk hown hts hC hP hS hl
  exact k p e s m args below meth c H locs ls hx hb hml hr hlk hown hts hC hP hS (lv_sub hl ks h2)
end
section
/-! ===== rows: fields, arrays, calls, returns ===== -/
def ckX (ci : Nat) (C : String) (N : Nat) (T : u_T) (ty : Nat → FieldType) : Prop := vwCl[ci]? = some (C, T, N) ∧ (∀ w ∈ u_ws C T N, w ∈ lw_good) ∧ (∀ k, k < N → parseFieldDescriptor (T k).2.2.1 = some (ty k)) ∧ (∀ a, a < N → ∀ b, b < N → a ≠ b → (T a).2.1 ≠ (T b).2.1)
theorem hinW {M : MR} {ws : List Cond} (h : ∀ w ∈ ws, w ∈ lw_good) : ∀ w ∈ ws, w ∈ wsM M := fun w hw => List.mem_cons_of_mem _ (h w hw)
theorem upd_iI {f : Nat → Int32} {I : HD} {h : Nat} {i z : Int} (h0 : 0 ≤ i) (hf : f = fun j : Nat => iI (I h j)) : (fun j : Nat => iI (up I h i z h j)) = upd f i.toNat (iI z) := by
  subst hf
  funext j
  unfold up upd
  by_cases q : (j : Int) = i
  · have q2 : j = i.toNat := by omega
    rw [if_pos ⟨rfl, q⟩, if_pos q2]
  · have q2 : ¬ j = i.toNat := by omega
    rw [if_neg (fun z => q z.2), if_neg q2]
theorem upd_iL {f : Nat → Int64} {I : HD} {h : Nat} {i z : Int} (h0 : 0 ≤ i) (hf : f = fun j : Nat => iL (I h j)) : (fun j : Nat => iL (up I h i z h j)) = vp_updL f i.toNat (iL z) := by
  subst hf
  funext j
  unfold up vp_updL
  by_cases q : (j : Int) = i
  · have q2 : j = i.toNat := by omega
    rw [if_pos ⟨rfl, q⟩, if_pos q2]
  · have q2 : ¬ j = i.toNat := by omega
    rw [if_neg (fun z => q z.2), if_neg q2]
theorem r_get {X : XC} {D : Nat} {M : MR} {K : KP} {pc : Nat} {lv : List (Nat × Value)} {st : List Value} {I : HD} {h ci j N idx : Nat} {C : String} {T : u_T} {ty : Nat → FieldType} {fs : List Value} {v : Value} (ck : ckX ci C N T ty) (hh : h < NN) (hc : cell X I h = .inr (ci, fs)) (hj : j < N) (hv : fs[j]? = some v) (hk : Cond.fieldLink M.1.cls idx (T j).1 (T j).2.1 (T j).2.2.1 ∈ lw_good) (hd : decode M.2.1 pc = .ok (.getfield idx, 3)) (k : Rn X D M K (pc + 3) lv (v :: st) I) : Rn X D M K pc lv (rv X h :: st) I := by
  intro p e s m args below meth c H locs ls hx hb hml hr hlk hown hts hC hP hS hl
  exact va_get hx hb hts (hinW ck.2.1) hown hC.1 hP h (by rw [wl_get hh, hc]) ck.1 j hj (hts _ (List.mem_cons_of_mem _ hk)) (fun _ h9 => h9) hv hd (k p e s m args below meth c H locs ls hx hb hml hr hlk hown hts hC hP hS hl)
theorem r_put {X : XC} {D : Nat} {M : MR} {K : KP} {pc : Nat} {lv : List (Nat × Value)} {st : List Value} {I : HD} {h ci N idx : Nat} {C : String} {T : u_T} {ty : Nat → FieldType} {fs : List Value} {z : Int} {t : FieldType} (j : Nat) (ck : ckX ci C N T ty) (hh : h < NN) (hc : cell X I h = .inr (ci, fs)) (hc2 : cell X (up I h j z) h = .inr (ci, fs.set j (iv z))) (hj : j < N) (hjl : j < fs.length) (hk : Cond.fieldLink M.1.cls idx (T j).1 (T j).2.1 (T j).2.2.1 ∈ lw_good) (hfin : (T j).2.2.2 = false) (hty : parseFieldDescriptor (T j).2.2.1 = some t) (hn : narrow t (iv z) = iv z) (hfit : fits t (iv z) = true) (hd : decode M.2.1 pc = .ok (.putfield idx, 3)) (k : Rn X D M K (pc + 3) lv st (up I h j z)) : Rn X D M K pc lv (iv z :: rv X h :: st) I := by
  intro p e s m args below meth c H locs ls hx hb hml hr hlk hown hts hC hP hS hl
  refine va_put hx hb hts (hinW ck.2.1) ty ck.2.2.1 ck.2.2.2 hown hC.1 hP (wl_D hC.2.2) hS h (by rw [wl_get hh, hc]) ck.1 j hj (hts _ (List.mem_cons_of_mem _ hk)) (fun _ h9 => h9) hfin hty hn hfit hjl hd (fun H1 locs1 hP1 _ hS1 => ?_)
  rw [wl_set hh hc2] at hP1
  exact k p e s m args below meth c H1 locs1 ls hx hb hml hr hlk hown hts hC hP1 hS1 hl
theorem r_getN {X : XC} {D : Nat} {M : MR} {K : KP} {pc : Nat} {lv : List (Nat × Value)} {st : List Value} {I : HD} {host : String} {h ci j N idx : Nat} {C : String} {T : u_T} {ty : Nat → FieldType} {fs : List Value} {v : Value} (ck : ckX ci C N T ty) (hh : h < NN) (hc : cell X I h = .inr (ci, fs)) (hj : j < N) (hv : fs[j]? = some v) (hk : Cond.fieldLinkNest M.1.cls idx (T j).1 (T j).2.1 (T j).2.2.1 host ∈ lw_nest) (hd : decode M.2.1 pc = .ok (.getfield idx, 3)) (k : Rn X D M K (pc + 3) lv (v :: st) I) : Rn X D M K pc lv (rv X h :: st) I := by
  intro p e s m args below meth c H locs ls hx hb hml hr hlk hown hts hC hP hS hl
  exact va_getN hx hb hts (hinW ck.2.1) hown hC.1 hP h (by rw [wl_get hh, hc]) ck.1 j hj (va_Nw.use rfl (hC.2.1 _ hk)) (fun _ h9 => h9) hv hd (k p e s m args below meth c H locs ls hx hb hml hr hlk hown hts hC hP hS hl)
theorem r_putN {X : XC} {D : Nat} {M : MR} {K : KP} {pc : Nat} {lv : List (Nat × Value)} {st : List Value} {I : HD} {host : String} {h ci N idx : Nat} {C : String} {T : u_T} {ty : Nat → FieldType} {fs : List Value} {z : Int} {t : FieldType} (j : Nat) (ck : ckX ci C N T ty) (hh : h < NN) (hc : cell X I h = .inr (ci, fs)) (hc2 : cell X (up I h j z) h = .inr (ci, fs.set j (iv z))) (hj : j < N) (hjl : j < fs.length) (hk : Cond.fieldLinkNest M.1.cls idx (T j).1 (T j).2.1 (T j).2.2.1 host ∈ lw_nest) (hfin : (T j).2.2.2 = false) (hty : parseFieldDescriptor (T j).2.2.1 = some t) (hn : narrow t (iv z) = iv z) (hfit : fits t (iv z) = true) (hd : decode M.2.1 pc = .ok (.putfield idx, 3)) (k : Rn X D M K (pc + 3) lv st (up I h j z)) : Rn X D M K pc lv (iv z :: rv X h :: st) I := by
  intro p e s m args below meth c H locs ls hx hb hml hr hlk hown hts hC hP hS hl
  refine va_putN hx hb hts (hinW ck.2.1) ty ck.2.2.1 ck.2.2.2 hown hC.1 hP (wl_D hC.2.2) hS h (by rw [wl_get hh, hc]) ck.1 j hj (va_Nw.use rfl (hC.2.1 _ hk)) (fun _ h9 => h9) hfin hty hn hfit hjl hd (fun H1 locs1 hP1 _ hS1 => ?_)
  rw [wl_set hh hc2] at hP1
  exact k p e s m args below meth c H1 locs1 ls hx hb hml hr hlk hown hts hC hP1 hS1 hl
theorem r_iald {X : XC} {D : Nat} {M : MR} {K : KP} {pc : Nat} {lv : List (Nat × Value)} {st : List Value} {I : HD} {h n : Nat} {i z : Int} (hh : h < NN) (hc : cell X I h = oiv X I h 0 n) (h0 : 0 ≤ i) (h1 : i < n) (hn : n < 2147483648) (hz : I h i = z) (hd : decode M.2.1 pc = .ok (.iaload, 1)) (k : Rn X D M K (pc + 1) lv (iv z :: st) I) : Rn X D M K pc lv (iv i :: rv X h :: st) I := by
  intro p e s m args below meth c H locs ls hx hb hml hr hlk hown hts hC hP hS hl
  refine va_iald hx hb hC.1 hP h 0 (by rw [wl_get hh, hc]; rfl) rfl (rg_in h0 h1 hn) hd ?_
  rw [rg_cl (by unfold rg; omega) h0, Int.toNat_of_nonneg h0, hz]
  exact k p e s m args below meth c H locs ls hx hb hml hr hlk hown hts hC hP hS hl
theorem r_bald {X : XC} {D : Nat} {M : MR} {K : KP} {pc : Nat} {lv : List (Nat × Value)} {st : List Value} {I : HD} {h n : Nat} {i z : Int} (hh : h < NN) (hc : cell X I h = oiv X I h 1 n) (h0 : 0 ≤ i) (h1 : i < n) (hn : n < 2147483648) (hz : I h i = z) (hd : decode M.2.1 pc = .ok (.baload, 1)) (k : Rn X D M K (pc + 1) lv (iv z :: st) I) : Rn X D M K pc lv (iv i :: rv X h :: st) I := by
  intro p e s m args below meth c H locs ls hx hb hml hr hlk hown hts hC hP hS hl
  refine va_bald hx hb hC.1 hP h 1 (by rw [wl_get hh, hc]; rfl) rfl (rg_in h0 h1 hn) hd ?_
  rw [rg_cl (by unfold rg; omega) h0, Int.toNat_of_nonneg h0, hz]
  exact k p e s m args below meth c H locs ls hx hb hml hr hlk hown hts hC hP hS hl
theorem r_zald {X : XC} {D : Nat} {M : MR} {K : KP} {pc : Nat} {lv : List (Nat × Value)} {st : List Value} {I : HD} {h n : Nat} {i z : Int} (hh : h < NN) (hc : cell X I h = oiv X I h 3 n) (h0 : 0 ≤ i) (h1 : i < n) (hn : n < 2147483648) (hz : I h i = z) (hd : decode M.2.1 pc = .ok (.baload, 1)) (k : Rn X D M K (pc + 1) lv (iv z :: st) I) : Rn X D M K pc lv (iv i :: rv X h :: st) I := by
  intro p e s m args below meth c H locs ls hx hb hml hr hlk hown hts hC hP hS hl
  refine va_zald hx hb hC.1 hP h 3 (by rw [wl_get hh, hc]; rfl) rfl (rg_in h0 h1 hn) hd ?_
  rw [rg_cl (by unfold rg; omega) h0, Int.toNat_of_nonneg h0, hz]
  exact k p e s m args below meth c H locs ls hx hb hml hr hlk hown hts hC hP hS hl
theorem r_iast {X : XC} {D : Nat} {M : MR} {K : KP} {pc : Nat} {lv : List (Nat × Value)} {st : List Value} {I : HD} {h n : Nat} {i z : Int} (hh : h < NN) (hc : ∀ I2, cell X I2 h = oiv X I2 h 0 n) (h0 : 0 ≤ i) (h1 : i < n) (hn : n < 2147483648) (hd : decode M.2.1 pc = .ok (.iastore, 1)) (k : Rn X D M K (pc + 1) lv st (up I h i z)) : Rn X D M K pc lv (iv z :: iv i :: rv X h :: st) I := by
  intro p e s m args below meth c H locs ls hx hb hml hr hlk hown hts hC hP hS hl
  refine va_iast hx hb hC.1 hP (wl_D hC.2.2) hS h 0 (by rw [wl_get hh, hc]; rfl) rfl (rg_in h0 h1 hn) hd (fun H1 locs1 hP1 _ hS1 => ?_)
  rw [rg_cl (by unfold rg; omega) h0, wl_set hh (by rw [hc]; unfold oiv; rw [upd_iI h0 rfl])] at hP1
  exact k p e s m args below meth c H1 locs1 ls hx hb hml hr hlk hown hts hC hP1 hS1 hl
theorem r_bast {X : XC} {D : Nat} {M : MR} {K : KP} {pc : Nat} {lv : List (Nat × Value)} {st : List Value} {I : HD} {h n : Nat} {i z : Int} (hh : h < NN) (hc : ∀ I2, cell X I2 h = oiv X I2 h 1 n) (h0 : 0 ≤ i) (h1 : i < n) (hn : n < 2147483648) (hnar : vp_nar .byte (iI z) = iI z) (hd : decode M.2.1 pc = .ok (.bastore, 1)) (k : Rn X D M K (pc + 1) lv st (up I h i z)) : Rn X D M K pc lv (iv z :: iv i :: rv X h :: st) I := by
  intro p e s m args below meth c H locs ls hx hb hml hr hlk hown hts hC hP hS hl
  refine va_bast hx hb hC.1 hP (wl_D hC.2.2) hS h 1 (by rw [wl_get hh, hc]; rfl) rfl (rg_in h0 h1 hn) hd (fun H1 locs1 hP1 _ hS1 => ?_)
  rw [rg_cl (by unfold rg; omega) h0, hnar, wl_set hh (by rw [hc]; unfold oiv; rw [upd_iI h0 rfl])] at hP1
  exact k p e s m args below meth c H1 locs1 ls hx hb hml hr hlk hown hts hC hP1 hS1 hl
theorem r_zast {X : XC} {D : Nat} {M : MR} {K : KP} {pc : Nat} {lv : List (Nat × Value)} {st : List Value} {I : HD} {h n : Nat} {i z : Int} (hh : h < NN) (hc : ∀ I2, cell X I2 h = oiv X I2 h 3 n) (h0 : 0 ≤ i) (h1 : i < n) (hn : n < 2147483648) (hnar : vp_nar .boolean (iI z) = iI z) (hd : decode M.2.1 pc = .ok (.bastore, 1)) (k : Rn X D M K (pc + 1) lv st (up I h i z)) : Rn X D M K pc lv (iv z :: iv i :: rv X h :: st) I := by
  intro p e s m args below meth c H locs ls hx hb hml hr hlk hown hts hC hP hS hl
  refine va_zast hx hb hC.1 hP (wl_D hC.2.2) hS h 3 (by rw [wl_get hh, hc]; rfl) rfl (rg_in h0 h1 hn) hd (fun H1 locs1 hP1 _ hS1 => ?_)
  rw [rg_cl (by unfold rg; omega) h0, hnar, wl_set hh (by rw [hc]; unfold oiv; rw [upd_iI h0 rfl])] at hP1
  exact k p e s m args below meth c H1 locs1 ls hx hb hml hr hlk hown hts hC hP1 hS1 hl
theorem r_lald {X : XC} {D : Nat} {M : MR} {K : KP} {pc : Nat} {lv : List (Nat × Value)} {st : List Value} {I : HD} {h n : Nat} {i : Int} (hh : h < NN) (hc : cell X I h = .inl (X.2.2.2 2, n, .inr (.inl (fun j => iL (I h j))))) {z : Int} (h0 : 0 ≤ i) (h1 : i < n) (hn : n < 2147483648) (hz : I h i = z) (hd : decode M.2.1 pc = .ok (.laload, 1)) (k : Rn X D M K (pc + 1) lv (jv z :: st) I) : Rn X D M K pc lv (iv i :: rv X h :: st) I := by
  intro p e s m args below meth c H locs ls hx hb hml hr hlk hown hts hC hP hS hl
  refine va_lald hx hb hC.1 hP h 2 (by rw [wl_get hh, hc]) rfl (rg_in h0 h1 hn) hd ?_
  rw [rg_cl (by unfold rg; omega) h0, Int.toNat_of_nonneg h0, hz]
  exact k p e s m args below meth c H locs ls hx hb hml hr hlk hown hts hC hP hS hl
theorem r_last {X : XC} {D : Nat} {M : MR} {K : KP} {pc : Nat} {lv : List (Nat × Value)} {st : List Value} {I : HD} {h n : Nat} {i z : Int} (hh : h < NN) (hc : ∀ I2, cell X I2 h = .inl (X.2.2.2 2, n, .inr (.inl (fun j => iL (I2 h j))))) (h0 : 0 ≤ i) (h1 : i < n) (hn : n < 2147483648) (hd : decode M.2.1 pc = .ok (.lastore, 1)) (k : Rn X D M K (pc + 1) lv st (up I h i z)) : Rn X D M K pc lv (jv z :: iv i :: rv X h :: st) I := by
  intro p e s m args below meth c H locs ls hx hb hml hr hlk hown hts hC hP hS hl
  refine va_last hx hb hC.1 hP (wl_D hC.2.2) hS h 2 (by rw [wl_get hh, hc]) rfl (rg_in h0 h1 hn) hd (fun H1 locs1 hP1 _ hS1 => ?_)
  rw [rg_cl (by unfold rg; omega) h0, wl_set hh (by rw [hc]; rw [upd_iL h0 rfl])] at hP1
  exact k p e s m args below meth c H1 locs1 ls hx hb hml hr hlk hown hts hC hP1 hS1 hl
theorem r_aald {X : XC} {D : Nat} {M : MR} {K : KP} {pc : Nat} {lv : List (Nat × Value)} {st : List Value} {I : HD} {h n t : Nat} {i : Int} {C : String} {g : Nat → Nat} (hh : h < NN) (hc : cell X I h = .inl (X.2.2.2 t, n, .inr (.inr (.inr (.inr (fun j => some (X.2.2.1 (g j)))))))) (ht : (tysX X)[t]? = some (X.2.2.2 t, .object C)) (h0 : 0 ≤ i) (h1 : i < n) (hn : n < 2147483648) (hd : decode M.2.1 pc = .ok (.aaload, 1)) (k : Rn X D M K (pc + 1) lv (rv X (g i.toNat) :: st) I) : Rn X D M K pc lv (iv i :: rv X h :: st) I := by
  intro p e s m args below meth c H locs ls hx hb hml hr hlk hown hts hC hP hS hl
  refine va_aldq hx hb hC.1 hP h t (by rw [wl_get hh, hc]) ht (rg_in h0 h1 hn) hd ?_
  rw [rg_cl (by unfold rg; omega) h0]
  exact k p e s m args below meth c H locs ls hx hb hml hr hlk hown hts hC hP hS hl
theorem r_vret {X : XC} {D : Nat} {M : MR} {K : KP} {pc : Nat} {lv : List (Nat × Value)} {st : List Value} {I : HD} (hr0 : M.2.2.2 = none) (hd : decode M.2.1 pc = .ok (.return_, 1)) (hk : K none I) : Rn X D M K pc lv [] I := by
  intro p e s m args below meth c H locs ls hx hb hml hr hlk hown hts hC hP hS hl
  exact W.vret hx hb (hr.trans hr0) (fun t ht hW => ⟨⟨none, I, rfl, hk, by rw [ht]; exact hP⟩, hS.F ht⟩) hS.2.2 hd
theorem r_iret {X : XC} {D : Nat} {M : MR} {K : KP} {pc : Nat} {lv : List (Nat × Value)} {st : List Value} {I : HD} {z : Int} (hr0 : M.2.2.2 = some .int) (hd : decode M.2.1 pc = .ok (.ireturn, 1)) (hk : K (some (iv z)) I) : Rn X D M K pc lv [iv z] I := by
  intro p e s m args below meth c H locs ls hx hb hml hr hlk hown hts hC hP hS hl
  exact W.iret hx hb (hr.trans hr0) (fun t ht hW => ⟨⟨_, I, rfl, hk, by rw [ht]; exact hP⟩, hS.F ht⟩) hS.2.2 hd
theorem r_zret {X : XC} {D : Nat} {M : MR} {K : KP} {pc : Nat} {lv : List (Nat × Value)} {st : List Value} {I : HD} {z : Int} {ty : FieldType} (hr0 : M.2.2.2 = some ty) (hn : narrow ty (iv z) = iv z) (hd : decode M.2.1 pc = .ok (.ireturn, 1)) (hk : K (some (iv z)) I) : Rn X D M K pc lv [iv z] I := by
  intro p e s m args below meth c H locs ls hx hb hml hr hlk hown hts hC hP hS hl
  exact W.zret hx hb (hr.trans hr0) hn (fun t ht hW => ⟨⟨_, I, rfl, hk, by rw [ht]; exact hP⟩, hS.F ht⟩) hS.2.2 hd
theorem r_lret {X : XC} {D : Nat} {M : MR} {K : KP} {pc : Nat} {lv : List (Nat × Value)} {st : List Value} {I : HD} {z : Int} (hr0 : M.2.2.2 = some .long) (hd : decode M.2.1 pc = .ok (.lreturn, 1)) (hk : K (some (jv z)) I) : Rn X D M K pc lv [jv z] I := by
  intro p e s m args below meth c H locs ls hx hb hml hr hlk hown hts hC hP hS hl
  exact W.lret hx hb (hr.trans hr0) (fun t ht hW => ⟨⟨_, I, rfl, hk, by rw [ht]; exact hP⟩, hS.F ht⟩) hS.2.2 hd
/-- behind a call: any answer -/
theorem r_back9 {p : Program} {l : Launch} {e : Env} {R : Room} {s : State} {m : MethodId} {args : Array Value} {below : List Frame} {meth : Method} {c : Code} {H : Heap} {locs : List Loc} {Q : State → Prop} {X : XC} {pc : Nat} {ls : Array Slot} {rest st0 : List Value} {a : Array Value} {H0 : Heap} {K1 : KP}
    (hr : va_Run p l e R s m args below meth c H locs 0 0 0 0 (F0 m pc ls st0) rest (QK X K1 a) (AA X)) (hS : va_S (AA X) H0 H locs)
    (kk : ∀ (r : Option Value) (I : HD) (H1 : Heap) (locs1 : List Loc), K1 r I → va_P X.2.1 vwCl (wl X I) H1 → va_S (AA X) H0 H1 locs1 → W p l e R s m args below meth c H1 locs1 0 0 Q (F0 m (pc + 3) ls (r.toList ++ rest))) : W p l e R s m args below meth c H locs 0 0 Q (F0 m pc ls st0) := by
  intro T hT XX
  obtain ⟨v, st₀, t, T', L, h0, X', hL, e1, e2, ⟨⟨r, I, hv, hp, hb⟩, hz, hk⟩, st⟩ := hr T hT XX
  cases hv
  rw [h0] at hz hk
  obtain ⟨t2, a1, b1⟩ := kk v I T'.heap (locs ++ L) hp (by rw [e1]; exact hb)
    ⟨Nat.le_trans hS.1 (by rw [e1]; exact hz), fun q h1 h2 => by rw [e1, hk q (Nat.lt_of_lt_of_le h1 hS.1) h2]; exact hS.2.1 q h1 h2, fun q hq => by
      rcases List.mem_append.mp hq with h | h
      · exact hS.2.2 q h
      · exact hL q h⟩ T' rfl X'
  exact ⟨t2, st t2 a1, b1⟩
/-- a method that can be called: what the tables say of it -/
def okC (M : MR) (n : Nat) : Prop := Cond.code M.1 M.2.1 M.2.2.1 M.2.2.2 ∈ lw_good ∧ Cond.initialized M.1.cls ∈ lw_good ∧ (M.1.cls ≠ "java/lang/invoke/MethodHandle" ∧ M.1.cls ≠ "java/lang/invoke/VarHandle" ∧ (parseMethodDescriptor M.1.desc).map (fun d => d.parameters.length) = some n) ∧ M.2.2.1 ≤ 21
def okV (M : MR) (n : Nat) : Prop := okC M n ∧ Cond.instanceMethod M.1 ∈ lw_good ∧ Cond.selects M.1.cls M.1 M.1 ∈ lw_good
def okS (M : MR) (n : Nat) : Prop := okC M n ∧ Cond.static M.1 ∈ lw_good
theorem Cl.blind {X : XC} {av : List Value} {I : HD} : FrameBlind (va_Pc av (fun U => va_P X.2.1 vwCl (wl X I) U.heap ∧ Cx X U)) := fun a U g mk h => ⟨h.1, h.2.1, h.2.2.blind⟩
theorem good_w {w : Cond} (h : w ∈ lw_good) : (w.onTables && w.keeps) = true ∨ ∃ ty, w = .arrayClass ty := good_of_word (List.mem_filter.mp h).2
theorem wsM_good {M M2 : MR} {n : Nat} (h : okC M2 n) : GoodIn (wsM M) (wsM M2) := by
  intro w hw
  rcases List.mem_cons.mp hw with rfl | hw
  · exact ⟨List.mem_cons_of_mem _ h.1, good_w h.1⟩
  · exact ⟨List.mem_cons_of_mem _ hw, good_w hw⟩
theorem cb_of {X : XC} {D D2 : Nat} {M M2 : MR} {n idx : Nat} {s : State} {args : Array Value} (ok : okC M2 n) (hD : D2 < D) (hts : ∀ w ∈ wsM M, w.before args s = true) (hk : Cond.methodLink M.1.cls idx M2.1 ∈ lw_good) :
    CallB (rmD D) s args M.1.cls idx M2.1 M2.2.1 M2.2.2.1 M2.2.2.2 (wsM M2) (rmD D2) 0 0 n := by
  have h8 : 8 + (M2.2.2.1 + 11) + 40 * D2 ≤ 40 * D := by have := ok.2.2.2; omega
  exact callB_of n hts (wsM_good ok) rfl rfl rfl (hts _ (List.mem_cons_of_mem _ ok.2.1)) (hts _ (List.mem_cons_of_mem _ hk)) ok.2.2.1 ⟨hD, h8⟩
theorem r_callV {X : XC} {D : Nat} {M : MR} {K : KP} {pc : Nat} {lv : List (Nat × Value)} {st : List Value} {I : HD} {D2 : Nat} {M2 : MR} {K2 : KP} {n idx h ci : Nat} {fs As : List Value} {T : u_T} {N : Nat} (ok : okV M2 n) (hD : D2 < D) (hh : h < NN) (hc : cell X I h = .inr (ci, fs)) (hcl : vwCl[ci]? = some (M2.1.cls, T, N)) (hn : As.length = n) (hst : (st.map fun v => v.category).sum ≤ 8) (hk : Cond.methodLink M.1.cls idx M2.1 ∈ lw_good) (hM : Cl X D2 M2 (rv X h :: As) I K2) (hd : decode M.2.1 pc = .ok (.invokevirtual idx, 3)) (k : ∀ (r : Option Value) (I2 : HD), K2 r I2 → Rn X D M K (pc + 3) lv (r.toList ++ st) I2) : Rn X D M K pc lv (As.reverse ++ rv X h :: st) I := by
  intro p e s m args below meth c H locs ls hx hb hml hr hlk hown hts hC hP hS hl
  refine r_back9 (va_runV (As := As) (rest := st) ⟨hx, hb, hml, hown, hts⟩ hM ⟨cb_of (X := X) ok.1 hD hts hk, hts _ (List.mem_cons_of_mem _ ok.2.1), hts _ (List.mem_cons_of_mem _ ok.2.2)⟩ ⟨Cl.blind, va_recv hC.1 hP hcl (q0 := h) (by rw [wl_get hh, hc]), fun U hU hW => ⟨rfl, by rw [hU]; exact hP, hC.moved hW⟩⟩ rfl hn hl.1 rfl (lv_room hst) hd ⟨Nat.le_refl _, Nat.le_refl _⟩) hS (fun r I2 H1 locs1 h1 hP1 hS1 => ?_)
  exact k r I2 h1 p e s m args below meth c H1 locs1 ls hx hb hml hr hlk hown hts hC hP1 hS1 hl
theorem r_callS {X : XC} {D : Nat} {M : MR} {K : KP} {pc : Nat} {lv : List (Nat × Value)} {st : List Value} {I : HD} {D2 : Nat} {M2 : MR} {K2 : KP} {n idx : Nat} {As : List Value} (ok : okS M2 n) (hD : D2 < D) (hcl : M2.1.cls = M.1.cls) (hn : As.length = n) (hst : (st.map fun v => v.category).sum ≤ 8) (hk : Cond.methodLink M.1.cls idx M2.1 ∈ lw_good) (hM : Cl X D2 M2 As I K2) (hd : decode M.2.1 pc = .ok (.invokestatic idx, 3)) (k : ∀ (r : Option Value) (I2 : HD), K2 r I2 → Rn X D M K (pc + 3) lv (r.toList ++ st) I2) : Rn X D M K pc lv (As.reverse ++ st) I := by
  intro p e s m args below meth c H locs ls hx hb hml hr hlk hown hts hC hP hS hl
  refine r_back9 (va_runS (As := As) (rest := st) ⟨hx, hb, hml, hown, hts⟩ hM ⟨cb_of (X := X) ok.1 hD hts hk, hts _ (List.mem_cons_of_mem _ ok.2)⟩ ⟨Cl.blind, fun U hU hW => ⟨rfl, by rw [hU]; exact hP, hC.moved hW⟩⟩ rfl hn hl.1 rfl (lv_room hst) hd ⟨Nat.le_refl _, Nat.le_refl _⟩) hS (fun r I2 H1 locs1 h1 hP1 hS1 => ?_)
  exact k r I2 h1 p e s m args below meth c H1 locs1 ls hx hb hml hr hlk hown hts hC hP1 hS1 hl
/-- an answer and what the data are then -/
def Ki (z : Int) (J : HD) : KP := fun r I2 => r = some (iv z) ∧ I2 = J
def Kj (z : Int) (J : HD) : KP := fun r I2 => r = some (jv z) ∧ I2 = J
def Kv (J : HD) : KP := fun r I2 => r = none ∧ I2 = J
theorem r_callVi {X : XC} {D : Nat} {M : MR} {K : KP} {pc : Nat} {lv : List (Nat × Value)} {st : List Value} {I : HD} {D2 : Nat} {M2 : MR} {z : Int} {J : HD} {n idx h ci : Nat} {fs As : List Value} {T : u_T} {N : Nat} (ok : okV M2 n) (hD : D2 < D) (hh : h < NN) (hc : cell X I h = .inr (ci, fs)) (hcl : vwCl[ci]? = some (M2.1.cls, T, N)) (hn : As.length = n) (hst : (st.map fun v => v.category).sum ≤ 8) (hk : Cond.methodLink M.1.cls idx M2.1 ∈ lw_good) (hM : Cl X D2 M2 (rv X h :: As) I (Ki z J)) (hd : decode M.2.1 pc = .ok (.invokevirtual idx, 3)) (k : Rn X D M K (pc + 3) lv (iv z :: st) J) : Rn X D M K pc lv (As.reverse ++ rv X h :: st) I := by
  refine r_callV ok hD hh hc hcl hn hst hk hM hd ?_
  rintro _ _ ⟨rfl, rfl⟩
  exact k
theorem r_callSi {X : XC} {D : Nat} {M : MR} {K : KP} {pc : Nat} {lv : List (Nat × Value)} {st : List Value} {I : HD} {D2 : Nat} {M2 : MR} {z : Int} {J : HD} {n idx : Nat} {As : List Value} (ok : okS M2 n) (hD : D2 < D) (hcl : M2.1.cls = M.1.cls) (hn : As.length = n) (hst : (st.map fun v => v.category).sum ≤ 8) (hk : Cond.methodLink M.1.cls idx M2.1 ∈ lw_good) (hM : Cl X D2 M2 As I (Ki z J)) (hd : decode M.2.1 pc = .ok (.invokestatic idx, 3)) (k : Rn X D M K (pc + 3) lv (iv z :: st) J) : Rn X D M K pc lv (As.reverse ++ st) I := by
  refine r_callS ok hD hcl hn hst hk hM hd ?_
  rintro _ _ ⟨rfl, rfl⟩
  exact k
theorem r_callVv {X : XC} {D : Nat} {M : MR} {K : KP} {pc : Nat} {lv : List (Nat × Value)} {st : List Value} {I : HD} {D2 : Nat} {M2 : MR} {J : HD} {n idx h ci : Nat} {fs As : List Value} {T : u_T} {N : Nat} (ok : okV M2 n) (hD : D2 < D) (hh : h < NN) (hc : cell X I h = .inr (ci, fs)) (hcl : vwCl[ci]? = some (M2.1.cls, T, N)) (hn : As.length = n) (hst : (st.map fun v => v.category).sum ≤ 8) (hk : Cond.methodLink M.1.cls idx M2.1 ∈ lw_good) (hM : Cl X D2 M2 (rv X h :: As) I (Kv J)) (hd : decode M.2.1 pc = .ok (.invokevirtual idx, 3)) (k : Rn X D M K (pc + 3) lv (st) J) : Rn X D M K pc lv (As.reverse ++ rv X h :: st) I := by
  refine r_callV ok hD hh hc hcl hn hst hk hM hd ?_
  rintro _ _ ⟨rfl, rfl⟩
  exact k
theorem r_callSv {X : XC} {D : Nat} {M : MR} {K : KP} {pc : Nat} {lv : List (Nat × Value)} {st : List Value} {I : HD} {D2 : Nat} {M2 : MR} {J : HD} {n idx : Nat} {As : List Value} (ok : okS M2 n) (hD : D2 < D) (hcl : M2.1.cls = M.1.cls) (hn : As.length = n) (hst : (st.map fun v => v.category).sum ≤ 8) (hk : Cond.methodLink M.1.cls idx M2.1 ∈ lw_good) (hM : Cl X D2 M2 As I (Kv J)) (hd : decode M.2.1 pc = .ok (.invokestatic idx, 3)) (k : Rn X D M K (pc + 3) lv (st) J) : Rn X D M K pc lv (As.reverse ++ st) I := by
  refine r_callS ok hD hcl hn hst hk hM hd ?_
  rintro _ _ ⟨rfl, rfl⟩
  exact k
theorem r_callVj {X : XC} {D : Nat} {M : MR} {K : KP} {pc : Nat} {lv : List (Nat × Value)} {st : List Value} {I : HD} {D2 : Nat} {M2 : MR} {z : Int} {J : HD} {n idx h ci : Nat} {fs As : List Value} {T : u_T} {N : Nat} (ok : okV M2 n) (hD : D2 < D) (hh : h < NN) (hc : cell X I h = .inr (ci, fs)) (hcl : vwCl[ci]? = some (M2.1.cls, T, N)) (hn : As.length = n) (hst : (st.map fun v => v.category).sum ≤ 8) (hk : Cond.methodLink M.1.cls idx M2.1 ∈ lw_good) (hM : Cl X D2 M2 (rv X h :: As) I (Kj z J)) (hd : decode M.2.1 pc = .ok (.invokevirtual idx, 3)) (k : Rn X D M K (pc + 3) lv (jv z :: st) J) : Rn X D M K pc lv (As.reverse ++ rv X h :: st) I := by
  refine r_callV ok hD hh hc hcl hn hst hk hM hd ?_
  rintro _ _ ⟨rfl, rfl⟩
  exact k
theorem r_callSj {X : XC} {D : Nat} {M : MR} {K : KP} {pc : Nat} {lv : List (Nat × Value)} {st : List Value} {I : HD} {D2 : Nat} {M2 : MR} {z : Int} {J : HD} {n idx : Nat} {As : List Value} (ok : okS M2 n) (hD : D2 < D) (hcl : M2.1.cls = M.1.cls) (hn : As.length = n) (hst : (st.map fun v => v.category).sum ≤ 8) (hk : Cond.methodLink M.1.cls idx M2.1 ∈ lw_good) (hM : Cl X D2 M2 As I (Kj z J)) (hd : decode M.2.1 pc = .ok (.invokestatic idx, 3)) (k : Rn X D M K (pc + 3) lv (jv z :: st) J) : Rn X D M K pc lv (As.reverse ++ st) I := by
  refine r_callS ok hD hcl hn hst hk hM hd ?_
  rintro _ _ ⟨rfl, rfl⟩
  exact k
theorem mo_max : Cond.static Lib.Math.max.name ∈ lw_good ∧ Cond.initialized "java/lang/Math" ∈ lw_good ∧ Cond.code Lib.Math.max.name Lib.Math.max.code 2 (some .int) ∈ lw_good := ⟨lw_gd (by decide +kernel) (by decide +kernel), lw_gd (by decide +kernel) (by decide +kernel), lw_gd (by decide +kernel) (by decide +kernel)⟩
theorem r_mmax {X : XC} {D : Nat} {M : MR} {K : KP} {pc : Nat} {lv : List (Nat × Value)} {st : List Value} {I : HD} {a b : Int} {idx : Nat} (ha : rg a) (hb0 : rg b) (hD : 0 < D) (hst : (st.map fun v => v.category).sum ≤ 8) (hk : Cond.methodLink M.1.cls idx Lib.Math.max.name ∈ lw_good) (hd : decode M.2.1 pc = .ok (.invokestatic idx, 3)) (k : Rn X D M K (pc + 3) lv (iv (max a b) :: st) I) : Rn X D M K pc lv (iv b :: iv a :: st) I := by
  intro p e s m args below meth c H locs ls hx hb hml hr hlk hown hts hC hP hS hl
  have hw : ∀ {w : Cond}, w ∈ lw_good → w.before args s = true := fun h => hts _ (List.mem_cons_of_mem _ h)
  refine va_mmax hx hb (hml.trans hl.1.symm) hown (hw hk) (hw mo_max.1) (hw mo_max.2.1) (hw mo_max.2.2) (by show 1 ≤ D; omega) (by show _ + 13 ≤ 40 * D; omega) (Nat.le_refl _) (Nat.le_refl _) hd ?_
  have e9 := rg_lt ha hb0
  by_cases q : a < b
  · rw [if_pos (e9.mpr q)]; rw [show max a b = b by omega] at k; exact k p e s m args below meth c H locs ls hx hb hml hr hlk hown hts hC hP hS hl
  · rw [if_neg (fun z => q (e9.mp z))]; rw [show max a b = a by omega] at k; exact k p e s m args below meth c H locs ls hx hb hml hr hlk hown hts hC hP hS hl
theorem mo_min : Cond.static Lib.Math.min.name ∈ lw_good ∧ Cond.initialized "java/lang/Math" ∈ lw_good ∧ Cond.code Lib.Math.min.name Lib.Math.min.code 2 (some .int) ∈ lw_good := ⟨lw_gd (by decide +kernel) (by decide +kernel), lw_gd (by decide +kernel) (by decide +kernel), lw_gd (by decide +kernel) (by decide +kernel)⟩
theorem r_mmin {X : XC} {D : Nat} {M : MR} {K : KP} {pc : Nat} {lv : List (Nat × Value)} {st : List Value} {I : HD} {a b : Int} {idx : Nat} (ha : rg a) (hb0 : rg b) (hD : 0 < D) (hst : (st.map fun v => v.category).sum ≤ 8) (hk : Cond.methodLink M.1.cls idx Lib.Math.min.name ∈ lw_good) (hd : decode M.2.1 pc = .ok (.invokestatic idx, 3)) (k : Rn X D M K (pc + 3) lv (iv (min a b) :: st) I) : Rn X D M K pc lv (iv b :: iv a :: st) I := by
  intro p e s m args below meth c H locs ls hx hb hml hr hlk hown hts hC hP hS hl
  have hw : ∀ {w : Cond}, w ∈ lw_good → w.before args s = true := fun h => hts _ (List.mem_cons_of_mem _ h)
  refine va_mmin hx hb (hml.trans hl.1.symm) hown (hw hk) (hw mo_min.1) (hw mo_min.2.1) (hw mo_min.2.2) (by show 1 ≤ D; omega) (by show _ + 13 ≤ 40 * D; omega) (Nat.le_refl _) (Nat.le_refl _) hd ?_
  have e9 := rg_lt hb0 ha
  by_cases q : b < a
  · rw [if_pos (e9.mpr q)]; rw [show min a b = b by omega] at k; exact k p e s m args below meth c H locs ls hx hb hml hr hlk hown hts hC hP hS hl
  · rw [if_neg (fun z => q (e9.mp z))]; rw [show min a b = a by omega] at k; exact k p e s m args below meth c H locs ls hx hb hml hr hlk hown hts hC hP hS hl
end
section
/-! ===== facts: methods, fields, constants, links ===== -/
abbrev mX0_init : MR := (yX0_init, cX0_init, 2, none)
abbrev mX0_keep : MR := (yX0_keep, cX0_keep, 2, none)
abbrev mX0_takeBack : MR := (yX0_takeBack, cX0_takeBack, 2, none)
abbrev mX0_forget : MR := (yX0_forget, cX0_forget, 1, none)
abbrev mX1_init : MR := (yX1_init, cX1_init, 1, none)
abbrev mX1_isKind : MR := (yX1_isKind, cX1_isKind, 1, (some .boolean))
abbrev mX1_isOneOf : MR := (yX1_isOneOf, cX1_isOneOf, 4, (some .boolean))
abbrev mX1_begin : MR := (yX1_begin, cX1_begin, 4, (some .int))
abbrev mX1_bodyFor : MR := (yX1_bodyFor, cX1_bodyFor, 4, (some .int))
abbrev mX1_leave : MR := (yX1_leave, cX1_leave, 2, none)
abbrev mX1_gives : MR := (yX1_gives, cX1_gives, 6, (some .int))
abbrev mX2_init : MR := (yX2_init, cX2_init, 1, none)
abbrev mX2_foresee : MR := (yX2_foresee, cX2_foresee, 9, none)
abbrev mX2_weigh : MR := (yX2_weigh, cX2_weigh, 6, none)
abbrev mX2_commonDivisor : MR := (yX2_commonDivisor, cX2_commonDivisor, 11, (some .long))
abbrev mX3_init : MR := (yX3_init, cX3_init, 1, none)
abbrev mX3_clear : MR := (yX3_clear, cX3_clear, 1, none)
abbrev mX3_takeOver : MR := (yX3_takeOver, cX3_takeOver, 2, none)
abbrev mX3_isThere : MR := (yX3_isThere, cX3_isThere, 1, (some .boolean))
abbrev mX3_hasDesk : MR := (yX3_hasDesk, cX3_hasDesk, 2, (some .boolean))
abbrev mX3_hasSheet : MR := (yX3_hasSheet, cX3_hasSheet, 2, (some .boolean))
abbrev mX3_hasRoom : MR := (yX3_hasRoom, cX3_hasRoom, 2, (some .boolean))
abbrev mX3_furnish : MR := (yX3_furnish, cX3_furnish, 3, none)
abbrev mX3_bring : MR := (yX3_bring, cX3_bring, 6, (some .int))
abbrev mX3_at : MR := (yX3_at, cX3_at, 3, (some .int))
abbrev mX3_putOn : MR := (yX3_putOn, cX3_putOn, 3, none)
abbrev mX3_takeOff : MR := (yX3_takeOff, cX3_takeOff, 5, none)
abbrev mX3_deskOf : MR := (yX3_deskOf, cX3_deskOf, 3, (some .int))
abbrev mX3_above : MR := (yX3_above, cX3_above, 5, (some .int))
abbrev mX3_setOn : MR := (yX3_setOn, cX3_setOn, 4, (some .int))
abbrev mX3_isGone : MR := (yX3_isGone, cX3_isGone, 2, (some .boolean))
abbrev mX3_isMet : MR := (yX3_isMet, cX3_isMet, 2, (some .boolean))
abbrev mX3_isMissed : MR := (yX3_isMissed, cX3_isMissed, 2, (some .boolean))
abbrev mX3_missedSet : MR := (yX3_missedSet, cX3_missedSet, 3, (some .int))
abbrev mX3_goneSet : MR := (yX3_goneSet, cX3_goneSet, 3, (some .int))
abbrev mX3_worthOf : MR := (yX3_worthOf, cX3_worthOf, 4, (some .int))
abbrev mX3_takenFrom : MR := (yX3_takenFrom, cX3_takenFrom, 5, (some .int))
abbrev mX3_lostFrom : MR := (yX3_lostFrom, cX3_lostFrom, 5, (some .int))
abbrev mX3_takenByGust : MR := (yX3_takenByGust, cX3_takenByGust, 4, (some .int))
abbrev mX3_takenBy : MR := (yX3_takenBy, cX3_takenBy, 4, (some .int))
abbrev mX3_blow : MR := (yX3_blow, cX3_blow, 3, (some .int))
abbrev mX3_lostIfUppermost : MR := (yX3_lostIfUppermost, cX3_lostIfUppermost, 3, (some .int))
abbrev mX3_lostThrough : MR := (yX3_lostThrough, cX3_lostThrough, 3, (some .int))
abbrev mX3_leastOn : MR := (yX3_leastOn, cX3_leastOn, 4, (some .int))
abbrev mX4_init : MR := (yX4_init, cX4_init, 1, none)
abbrev mX4_read : MR := (yX4_read, cX4_read, 1, (some .boolean))
abbrev mX4_readWind : MR := (yX4_readWind, cX4_readWind, 2, (some .boolean))
abbrev mX4_readDesks : MR := (yX4_readDesks, cX4_readDesks, 2, (some .boolean))
abbrev mX4_readDesk : MR := (yX4_readDesk, cX4_readDesk, 2, (some .boolean))
abbrev mX4_readSheets : MR := (yX4_readSheets, cX4_readSheets, 2, (some .boolean))
abbrev mX4_readSheet : MR := (yX4_readSheet, cX4_readSheet, 4, (some .boolean))
abbrev mX4_sortTold : MR := (yX4_sortTold, cX4_sortTold, 1, (some .int))
abbrev mX4_takeNumber : MR := (yX4_takeNumber, cX4_takeNumber, 3, (some .boolean))
abbrev mX4_takeSemicolon : MR := (yX4_takeSemicolon, cX4_takeSemicolon, 1, (some .boolean))
abbrev mX4_fail : MR := (yX4_fail, cX4_fail, 2, (some .boolean))
abbrev mX4_isWord : MR := (yX4_isWord, cX4_isWord, 3, (some .boolean))
abbrev mX4_step : MR := (yX4_step, cX4_step, 1, none)
abbrev mX4_isBlank : MR := (yX4_isBlank, cX4_isBlank, 1, (some .boolean))
abbrev mX4_isLetter : MR := (yX4_isLetter, cX4_isLetter, 1, (some .boolean))
abbrev mX4_isFigure : MR := (yX4_isFigure, cX4_isFigure, 1, (some .boolean))
abbrev mX5_init : MR := (yX5_init, cX5_init, 1, none)
abbrev mX5_isMissing : MR := (yX5_isMissing, cX5_isMissing, 1, (some .boolean))
abbrev mX5_begin : MR := (yX5_begin, cX5_begin, 4, none)
abbrev mX5_end : MR := (yX5_end, cX5_end, 1, none)
abbrev mX5_hasPlaces : MR := (yX5_hasPlaces, cX5_hasPlaces, 3, (some .boolean))
abbrev mX5_put : MR := (yX5_put, cX5_put, 4, (some .int))
abbrev mX6_init : MR := (yX6_init, cX6_init, 1, none)
abbrev mX6_arrange : MR := (yX6_arrange, cX6_arrange, 8, none)
abbrev mX6_firstThatKeepsLost : MR := (yX6_firstThatKeepsLost, cX6_firstThatKeepsLost, 6, (some .int))
abbrev mX6_leastLost : MR := (yX6_leastLost, cX6_leastLost, 9, (some .int))
abbrev mX6_cheapest : MR := (yX6_cheapest, cX6_cheapest, 4, (some .int))
abbrev mX7_init : MR := (yX7_init, cX7_init, 1, none)
abbrev mX7_hasRoom : MR := (yX7_hasRoom, cX7_hasRoom, 2, (some .boolean))
abbrev mX7_join : MR := (yX7_join, cX7_join, 5, none)
abbrev mX7_at : MR := (yX7_at, cX7_at, 2, (some .int))
abbrev mX8_init : MR := (yX8_init, cX8_init, 2, none)
abbrev mX8_row : MR := (yX8_row, cX8_row, 4, (some .int))
abbrev mX8_set : MR := (yX8_set, cX8_set, 5, (some .int))
abbrev mX8_copy : MR := (yX8_copy, cX8_copy, 8, (some .int))
abbrev mX8_drop : MR := (yX8_drop, cX8_drop, 4, (some .int))
abbrev mX8_feed : MR := (yX8_feed, cX8_feed, 4, (some .int))
abbrev mX8_office : MR := (yX8_office, cX8_office, 2, (some .int))
abbrev mX8_fault : MR := (yX8_fault, cX8_fault, 1, (some .int))
abbrev mX8_lift : MR := (yX8_lift, cX8_lift, 4, (some .int))
abbrev mX8_lay : MR := (yX8_lay, cX8_lay, 4, (some .int))
abbrev mX8_blank : MR := (yX8_blank, cX8_blank, 2, (some .int))
abbrev mX8_quarter : MR := (yX8_quarter, cX8_quarter, 5, (some .int))
abbrev mX8_undo : MR := (yX8_undo, cX8_undo, 1, (some .int))
abbrev mX8_sheet : MR := (yX8_sheet, cX8_sheet, 3, (some .int))
abbrev mX8_desk : MR := (yX8_desk, cX8_desk, 4, (some .int))
abbrev mX8_taken : MR := (yX8_taken, cX8_taken, 4, (some .int))
abbrev mX8_mean : MR := (yX8_mean, cX8_mean, 3, (some .int))
abbrev mX8_order : MR := (yX8_order, cX8_order, 5, (some .int))
abbrev mX8_cover : MR := (yX8_cover, cX8_cover, 5, (some .int))
abbrev mX8_lend : MR := (yX8_lend, cX8_lend, 5, (some .int))
abbrev mX8_beach : MR := (yX8_beach, cX8_beach, 7, (some .int))
abbrev mX8_window : MR := (yX8_window, cX8_window, 3, (some .int))
abbrev mX8_missed : MR := (yX8_missed, cX8_missed, 2, (some .int))
abbrev mX8_image : MR := (yX8_image, cX8_image, 2, (some .int))
abbrev mX8_restore : MR := (yX8_restore, cX8_restore, 2, (some .int))
abbrev mX8_kind : MR := (yX8_kind, cX8_kind, 2, (some .int))
abbrev mX8_as : MR := (yX8_as, cX8_as, 3, (some .int))
abbrev mX8_ask : MR := (yX8_ask, cX8_ask, 3, (some .int))
abbrev mX8_trace : MR := (yX8_trace, cX8_trace, 2, (some .int))
abbrev mX8_count : MR := (yX8_count, cX8_count, 2, (some .int))
abbrev mX8_status : MR := (yX8_status, cX8_status, 1, (some .int))
abbrev mX8_isRow : MR := (yX8_isRow, cX8_isRow, 1, (some .boolean))
abbrev mX8_isGusts : MR := (yX8_isGusts, cX8_isGusts, 1, (some .boolean))
abbrev mX8_isImage : MR := (yX8_isImage, cX8_isImage, 1, (some .boolean))
abbrev mX8_found : MR := (yX8_found, cX8_found, 2, (some .int))
abbrev mX8_well : MR := (yX8_well, cX8_well, 2, (some .int))
abbrev mX8_standingRows : MR := (yX8_standingRows, cX8_standingRows, 3, (some .int))
abbrev mX8_fits : MR := (yX8_fits, cX8_fits, 10, (some .boolean))
abbrev mX9_init : MR := (yX9_init, cX9_init, 1, none)
abbrev mX9_in : MR := (yX9_in, cX9_in, 6, (some .boolean))
abbrev mX9_finding : MR := (yX9_finding, cX9_finding, 2, (some .int))
abbrev mX9_isRow : MR := (yX9_isRow, cX9_isRow, 1, (some .boolean))
abbrev mX9_row : MR := (yX9_row, cX9_row, 5, (some .int))
abbrev mX9_set : MR := (yX9_set, cX9_set, 4, (some .int))
abbrev mX9_copy : MR := (yX9_copy, cX9_copy, 9, (some .int))
abbrev mX9_drop : MR := (yX9_drop, cX9_drop, 2, (some .int))
abbrev mX9_feed : MR := (yX9_feed, cX9_feed, 5, (some .int))
abbrev mX9_byteAt : MR := (yX9_byteAt, cX9_byteAt, 2, (some .int))
abbrev mX9_isLetter : MR := (yX9_isLetter, cX9_isLetter, 1, (some .boolean))
abbrev mX9_isFigure : MR := (yX9_isFigure, cX9_isFigure, 1, (some .boolean))
abbrev mX9_next : MR := (yX9_next, cX9_next, 2, none)
abbrev mX9_begin : MR := (yX9_begin, cX9_begin, 1, none)
abbrev mX9_bad : MR := (yX9_bad, cX9_bad, 2, none)
abbrev mX9_must : MR := (yX9_must, cX9_must, 2, none)
abbrev mX9_name : MR := (yX9_name, cX9_name, 4, (some .long))
abbrev mX9_figures : MR := (yX9_figures, cX9_figures, 3, (some .int))
abbrev mX9_number : MR := (yX9_number, cX9_number, 4, (some .int))
abbrev mX9_kindBy : MR := (yX9_kindBy, cX9_kindBy, 2, (some .int))
abbrev mX9_mustEnd : MR := (yX9_mustEnd, cX9_mustEnd, 1, none)
abbrev mX9_begins : MR := (yX9_begins, cX9_begins, 3, none)
abbrev mX9_readWind : MR := (yX9_readWind, cX9_readWind, 2, none)
abbrev mX9_readDesk : MR := (yX9_readDesk, cX9_readDesk, 3, none)
abbrev mX9_readSheet : MR := (yX9_readSheet, cX9_readSheet, 6, none)
abbrev mX9_office : MR := (yX9_office, cX9_office, 2, (some .int))
abbrev mX9_fault : MR := (yX9_fault, cX9_fault, 1, (some .int))
abbrev mX9_isDesk : MR := (yX9_isDesk, cX9_isDesk, 2, (some .boolean))
abbrev mX9_isSheet : MR := (yX9_isSheet, cX9_isSheet, 2, (some .boolean))
abbrev mX9_of : MR := (yX9_of, cX9_of, 3, (some .int))
abbrev mX9_manyOn : MR := (yX9_manyOn, cX9_manyOn, 2, (some .int))
abbrev mX9_lies : MR := (yX9_lies, cX9_lies, 3, (some .int))
abbrev mX9_deskOf : MR := (yX9_deskOf, cX9_deskOf, 4, (some .int))
abbrev mX9_placeOf : MR := (yX9_placeOf, cX9_placeOf, 4, (some .int))
abbrev mX9_hasRoom : MR := (yX9_hasRoom, cX9_hasRoom, 2, (some .boolean))
abbrev mX9_leaves : MR := (yX9_leaves, cX9_leaves, 4, none)
abbrev mX9_comes : MR := (yX9_comes, cX9_comes, 3, none)
abbrev mX9_keep : MR := (yX9_keep, cX9_keep, 2, none)
abbrev mX9_lift : MR := (yX9_lift, cX9_lift, 4, (some .int))
abbrev mX9_lay : MR := (yX9_lay, cX9_lay, 4, (some .int))
abbrev mX9_blank : MR := (yX9_blank, cX9_blank, 3, (some .int))
abbrev mX9_layLeft : MR := (yX9_layLeft, cX9_layLeft, 2, none)
abbrev mX9_topOf : MR := (yX9_topOf, cX9_topOf, 4, (some .int))
abbrev mX9_gust : MR := (yX9_gust, cX9_gust, 4, (some .int))
abbrev mX9_quarter : MR := (yX9_quarter, cX9_quarter, 6, (some .int))
abbrev mX9_undo : MR := (yX9_undo, cX9_undo, 2, (some .int))
abbrev mX9_isMissed : MR := (yX9_isMissed, cX9_isMissed, 2, (some .boolean))
abbrev mX9_sheet : MR := (yX9_sheet, cX9_sheet, 4, (some .int))
abbrev mX9_desk : MR := (yX9_desk, cX9_desk, 3, (some .int))
abbrev mX9_worthOf : MR := (yX9_worthOf, cX9_worthOf, 4, (some .int))
abbrev mX9_takenBy : MR := (yX9_takenBy, cX9_takenBy, 4, (some .int))
abbrev mX9_taken : MR := (yX9_taken, cX9_taken, 3, (some .int))
abbrev mX9_mean : MR := (yX9_mean, cX9_mean, 13, (some .int))
abbrev mX9_lostBy : MR := (yX9_lostBy, cX9_lostBy, 8, (some .int))
abbrev mX9_nextOrder : MR := (yX9_nextOrder, cX9_nextOrder, 7, (some .boolean))
abbrev mX9_layFirst : MR := (yX9_layFirst, cX9_layFirst, 4, none)
abbrev mX9_order : MR := (yX9_order, cX9_order, 9, (some .int))
abbrev mX9_isCovered : MR := (yX9_isCovered, cX9_isCovered, 7, (some .boolean))
abbrev mX9_cover : MR := (yX9_cover, cX9_cover, 4, (some .int))
abbrev mX9_leastOn : MR := (yX9_leastOn, cX9_leastOn, 4, (some .int))
abbrev mX9_lostOn : MR := (yX9_lostOn, cX9_lostOn, 3, (some .int))
abbrev mX9_lend : MR := (yX9_lend, cX9_lend, 4, (some .int))
abbrev mX9_beach : MR := (yX9_beach, cX9_beach, 8, (some .int))
abbrev mX9_window : MR := (yX9_window, cX9_window, 4, (some .int))
abbrev mX9_missed : MR := (yX9_missed, cX9_missed, 5, (some .int))
abbrev mX9_image : MR := (yX9_image, cX9_image, 3, (some .int))
abbrev mX9_restore : MR := (yX9_restore, cX9_restore, 3, (some .int))
abbrev mX9_isOf : MR := (yX9_isOf, cX9_isOf, 2, (some .boolean))
abbrev mX9_kind : MR := (yX9_kind, cX9_kind, 2, (some .int))
abbrev mX9_as : MR := (yX9_as, cX9_as, 3, (some .int))
abbrev mX9_began : MR := (yX9_began, cX9_began, 2, none)
abbrev mX9_plainSize : MR := (yX9_plainSize, cX9_plainSize, 2, (some .int))
abbrev mX9_slateSize : MR := (yX9_slateSize, cX9_slateSize, 2, (some .int))
abbrev mX9_markOf : MR := (yX9_markOf, cX9_markOf, 4, (some .int))
abbrev mX9_sizeOf : MR := (yX9_sizeOf, cX9_sizeOf, 4, (some .int))
abbrev mX9_ask : MR := (yX9_ask, cX9_ask, 3, (some .int))
abbrev mX9_trace : MR := (yX9_trace, cX9_trace, 2, (some .int))
abbrev mX9_count : MR := (yX9_count, cX9_count, 4, (some .int))
abbrev mX9_status : MR := (yX9_status, cX9_status, 1, (some .int))
theorem okX0_keep : okV mX0_keep 1 := ⟨⟨lw_gd (List.mem_of_getElem? (i := 576) (by decide +kernel)) (by decide +kernel), lw_gd (List.mem_of_getElem? (i := 66) (by decide +kernel)) (by decide +kernel), ⟨by decide +kernel, by decide +kernel, by decide +kernel⟩, by decide⟩, lw_gd (List.mem_of_getElem? (i := 574) (by decide +kernel)) (by decide +kernel), lw_gd (List.mem_of_getElem? (i := 575) (by decide +kernel)) (by decide +kernel)⟩
theorem okX0_takeBack : okV mX0_takeBack 1 := ⟨⟨lw_gd (List.mem_of_getElem? (i := 634) (by decide +kernel)) (by decide +kernel), lw_gd (List.mem_of_getElem? (i := 66) (by decide +kernel)) (by decide +kernel), ⟨by decide +kernel, by decide +kernel, by decide +kernel⟩, by decide⟩, lw_gd (List.mem_of_getElem? (i := 632) (by decide +kernel)) (by decide +kernel), lw_gd (List.mem_of_getElem? (i := 633) (by decide +kernel)) (by decide +kernel)⟩
theorem okX0_forget : okV mX0_forget 0 := ⟨⟨lw_gd (List.mem_of_getElem? (i := 547) (by decide +kernel)) (by decide +kernel), lw_gd (List.mem_of_getElem? (i := 66) (by decide +kernel)) (by decide +kernel), ⟨by decide +kernel, by decide +kernel, by decide +kernel⟩, by decide⟩, lw_gd (List.mem_of_getElem? (i := 545) (by decide +kernel)) (by decide +kernel), lw_gd (List.mem_of_getElem? (i := 546) (by decide +kernel)) (by decide +kernel)⟩
theorem okX1_isKind : okS mX1_isKind 1 := ⟨⟨lw_gd (List.mem_of_getElem? (i := 794) (by decide +kernel)) (by decide +kernel), lw_gd (List.mem_of_getElem? (i := 69) (by decide +kernel)) (by decide +kernel), ⟨by decide +kernel, by decide +kernel, by decide +kernel⟩, by decide⟩, lw_gd (List.mem_of_getElem? (i := 793) (by decide +kernel)) (by decide +kernel)⟩
theorem okX1_isOneOf : okS mX1_isOneOf 2 := ⟨⟨lw_gd (List.mem_of_getElem? (i := 797) (by decide +kernel)) (by decide +kernel), lw_gd (List.mem_of_getElem? (i := 69) (by decide +kernel)) (by decide +kernel), ⟨by decide +kernel, by decide +kernel, by decide +kernel⟩, by decide⟩, lw_gd (List.mem_of_getElem? (i := 796) (by decide +kernel)) (by decide +kernel)⟩
theorem okX1_begin : okV mX1_begin 3 := ⟨⟨lw_gd (List.mem_of_getElem? (i := 808) (by decide +kernel)) (by decide +kernel), lw_gd (List.mem_of_getElem? (i := 69) (by decide +kernel)) (by decide +kernel), ⟨by decide +kernel, by decide +kernel, by decide +kernel⟩, by decide⟩, lw_gd (List.mem_of_getElem? (i := 806) (by decide +kernel)) (by decide +kernel), lw_gd (List.mem_of_getElem? (i := 807) (by decide +kernel)) (by decide +kernel)⟩
theorem okX1_bodyFor : okS mX1_bodyFor 3 := ⟨⟨lw_gd (List.mem_of_getElem? (i := 811) (by decide +kernel)) (by decide +kernel), lw_gd (List.mem_of_getElem? (i := 69) (by decide +kernel)) (by decide +kernel), ⟨by decide +kernel, by decide +kernel, by decide +kernel⟩, by decide⟩, lw_gd (List.mem_of_getElem? (i := 810) (by decide +kernel)) (by decide +kernel)⟩
theorem okX1_leave : okV mX1_leave 1 := ⟨⟨lw_gd (List.mem_of_getElem? (i := 822) (by decide +kernel)) (by decide +kernel), lw_gd (List.mem_of_getElem? (i := 69) (by decide +kernel)) (by decide +kernel), ⟨by decide +kernel, by decide +kernel, by decide +kernel⟩, by decide⟩, lw_gd (List.mem_of_getElem? (i := 821) (by decide +kernel)) (by decide +kernel), lw_gd (List.mem_of_getElem? (i := 17) (by decide +kernel)) (by decide +kernel)⟩
theorem okX1_gives : okS mX1_gives 5 := ⟨⟨lw_gd (List.mem_of_getElem? (i := 818) (by decide +kernel)) (by decide +kernel), lw_gd (List.mem_of_getElem? (i := 69) (by decide +kernel)) (by decide +kernel), ⟨by decide +kernel, by decide +kernel, by decide +kernel⟩, by decide⟩, lw_gd (List.mem_of_getElem? (i := 817) (by decide +kernel)) (by decide +kernel)⟩
theorem okX2_foresee : okV mX2_foresee 2 := ⟨⟨lw_gd (List.mem_of_getElem? (i := 681) (by decide +kernel)) (by decide +kernel), lw_gd (List.mem_of_getElem? (i := 67) (by decide +kernel)) (by decide +kernel), ⟨by decide +kernel, by decide +kernel, by decide +kernel⟩, by decide⟩, lw_gd (List.mem_of_getElem? (i := 679) (by decide +kernel)) (by decide +kernel), lw_gd (List.mem_of_getElem? (i := 680) (by decide +kernel)) (by decide +kernel)⟩
theorem okX2_weigh : okV mX2_weigh 2 := ⟨⟨lw_gd (List.mem_of_getElem? (i := 685) (by decide +kernel)) (by decide +kernel), lw_gd (List.mem_of_getElem? (i := 67) (by decide +kernel)) (by decide +kernel), ⟨by decide +kernel, by decide +kernel, by decide +kernel⟩, by decide⟩, lw_gd (List.mem_of_getElem? (i := 684) (by decide +kernel)) (by decide +kernel), lw_gd (List.mem_of_getElem? (i := 13) (by decide +kernel)) (by decide +kernel)⟩
theorem okX2_commonDivisor : okS mX2_commonDivisor 2 := ⟨⟨lw_gd (List.mem_of_getElem? (i := 691) (by decide +kernel)) (by decide +kernel), lw_gd (List.mem_of_getElem? (i := 67) (by decide +kernel)) (by decide +kernel), ⟨by decide +kernel, by decide +kernel, by decide +kernel⟩, by decide⟩, lw_gd (List.mem_of_getElem? (i := 690) (by decide +kernel)) (by decide +kernel)⟩
theorem okX3_clear : okV mX3_clear 0 := ⟨⟨lw_gd (List.mem_of_getElem? (i := 403) (by decide +kernel)) (by decide +kernel), lw_gd (List.mem_of_getElem? (i := 65) (by decide +kernel)) (by decide +kernel), ⟨by decide +kernel, by decide +kernel, by decide +kernel⟩, by decide⟩, lw_gd (List.mem_of_getElem? (i := 401) (by decide +kernel)) (by decide +kernel), lw_gd (List.mem_of_getElem? (i := 402) (by decide +kernel)) (by decide +kernel)⟩
theorem okX3_takeOver : okV mX3_takeOver 1 := ⟨⟨lw_gd (List.mem_of_getElem? (i := 542) (by decide +kernel)) (by decide +kernel), lw_gd (List.mem_of_getElem? (i := 65) (by decide +kernel)) (by decide +kernel), ⟨by decide +kernel, by decide +kernel, by decide +kernel⟩, by decide⟩, lw_gd (List.mem_of_getElem? (i := 540) (by decide +kernel)) (by decide +kernel), lw_gd (List.mem_of_getElem? (i := 541) (by decide +kernel)) (by decide +kernel)⟩
theorem okX3_isThere : okV mX3_isThere 0 := ⟨⟨lw_gd (List.mem_of_getElem? (i := 607) (by decide +kernel)) (by decide +kernel), lw_gd (List.mem_of_getElem? (i := 65) (by decide +kernel)) (by decide +kernel), ⟨by decide +kernel, by decide +kernel, by decide +kernel⟩, by decide⟩, lw_gd (List.mem_of_getElem? (i := 605) (by decide +kernel)) (by decide +kernel), lw_gd (List.mem_of_getElem? (i := 606) (by decide +kernel)) (by decide +kernel)⟩
theorem okX3_hasDesk : okV mX3_hasDesk 1 := ⟨⟨lw_gd (List.mem_of_getElem? (i := 524) (by decide +kernel)) (by decide +kernel), lw_gd (List.mem_of_getElem? (i := 65) (by decide +kernel)) (by decide +kernel), ⟨by decide +kernel, by decide +kernel, by decide +kernel⟩, by decide⟩, lw_gd (List.mem_of_getElem? (i := 522) (by decide +kernel)) (by decide +kernel), lw_gd (List.mem_of_getElem? (i := 523) (by decide +kernel)) (by decide +kernel)⟩
theorem okX3_hasSheet : okV mX3_hasSheet 1 := ⟨⟨lw_gd (List.mem_of_getElem? (i := 559) (by decide +kernel)) (by decide +kernel), lw_gd (List.mem_of_getElem? (i := 65) (by decide +kernel)) (by decide +kernel), ⟨by decide +kernel, by decide +kernel, by decide +kernel⟩, by decide⟩, lw_gd (List.mem_of_getElem? (i := 557) (by decide +kernel)) (by decide +kernel), lw_gd (List.mem_of_getElem? (i := 558) (by decide +kernel)) (by decide +kernel)⟩
theorem okX3_hasRoom : okV mX3_hasRoom 1 := ⟨⟨lw_gd (List.mem_of_getElem? (i := 528) (by decide +kernel)) (by decide +kernel), lw_gd (List.mem_of_getElem? (i := 65) (by decide +kernel)) (by decide +kernel), ⟨by decide +kernel, by decide +kernel, by decide +kernel⟩, by decide⟩, lw_gd (List.mem_of_getElem? (i := 526) (by decide +kernel)) (by decide +kernel), lw_gd (List.mem_of_getElem? (i := 527) (by decide +kernel)) (by decide +kernel)⟩
theorem okX3_furnish : okV mX3_furnish 2 := ⟨⟨lw_gd (List.mem_of_getElem? (i := 502) (by decide +kernel)) (by decide +kernel), lw_gd (List.mem_of_getElem? (i := 65) (by decide +kernel)) (by decide +kernel), ⟨by decide +kernel, by decide +kernel, by decide +kernel⟩, by decide⟩, lw_gd (List.mem_of_getElem? (i := 500) (by decide +kernel)) (by decide +kernel), lw_gd (List.mem_of_getElem? (i := 501) (by decide +kernel)) (by decide +kernel)⟩
theorem okX3_bring : okV mX3_bring 4 := ⟨⟨lw_gd (List.mem_of_getElem? (i := 532) (by decide +kernel)) (by decide +kernel), lw_gd (List.mem_of_getElem? (i := 65) (by decide +kernel)) (by decide +kernel), ⟨by decide +kernel, by decide +kernel, by decide +kernel⟩, by decide⟩, lw_gd (List.mem_of_getElem? (i := 530) (by decide +kernel)) (by decide +kernel), lw_gd (List.mem_of_getElem? (i := 531) (by decide +kernel)) (by decide +kernel)⟩
theorem okX3_at : okV mX3_at 2 := ⟨⟨lw_gd (List.mem_of_getElem? (i := 571) (by decide +kernel)) (by decide +kernel), lw_gd (List.mem_of_getElem? (i := 65) (by decide +kernel)) (by decide +kernel), ⟨by decide +kernel, by decide +kernel, by decide +kernel⟩, by decide⟩, lw_gd (List.mem_of_getElem? (i := 569) (by decide +kernel)) (by decide +kernel), lw_gd (List.mem_of_getElem? (i := 570) (by decide +kernel)) (by decide +kernel)⟩
theorem okX3_putOn : okV mX3_putOn 2 := ⟨⟨lw_gd (List.mem_of_getElem? (i := 536) (by decide +kernel)) (by decide +kernel), lw_gd (List.mem_of_getElem? (i := 65) (by decide +kernel)) (by decide +kernel), ⟨by decide +kernel, by decide +kernel, by decide +kernel⟩, by decide⟩, lw_gd (List.mem_of_getElem? (i := 534) (by decide +kernel)) (by decide +kernel), lw_gd (List.mem_of_getElem? (i := 535) (by decide +kernel)) (by decide +kernel)⟩
theorem okX3_takeOff : okV mX3_takeOff 1 := ⟨⟨lw_gd (List.mem_of_getElem? (i := 586) (by decide +kernel)) (by decide +kernel), lw_gd (List.mem_of_getElem? (i := 65) (by decide +kernel)) (by decide +kernel), ⟨by decide +kernel, by decide +kernel, by decide +kernel⟩, by decide⟩, lw_gd (List.mem_of_getElem? (i := 584) (by decide +kernel)) (by decide +kernel), lw_gd (List.mem_of_getElem? (i := 585) (by decide +kernel)) (by decide +kernel)⟩
theorem okX3_deskOf : okV mX3_deskOf 1 := ⟨⟨lw_gd (List.mem_of_getElem? (i := 563) (by decide +kernel)) (by decide +kernel), lw_gd (List.mem_of_getElem? (i := 65) (by decide +kernel)) (by decide +kernel), ⟨by decide +kernel, by decide +kernel, by decide +kernel⟩, by decide⟩, lw_gd (List.mem_of_getElem? (i := 561) (by decide +kernel)) (by decide +kernel), lw_gd (List.mem_of_getElem? (i := 562) (by decide +kernel)) (by decide +kernel)⟩
theorem okX3_above : okV mX3_above 1 := ⟨⟨lw_gd (List.mem_of_getElem? (i := 581) (by decide +kernel)) (by decide +kernel), lw_gd (List.mem_of_getElem? (i := 65) (by decide +kernel)) (by decide +kernel), ⟨by decide +kernel, by decide +kernel, by decide +kernel⟩, by decide⟩, lw_gd (List.mem_of_getElem? (i := 579) (by decide +kernel)) (by decide +kernel), lw_gd (List.mem_of_getElem? (i := 580) (by decide +kernel)) (by decide +kernel)⟩
theorem okX3_setOn : okV mX3_setOn 1 := ⟨⟨lw_gd (List.mem_of_getElem? (i := 567) (by decide +kernel)) (by decide +kernel), lw_gd (List.mem_of_getElem? (i := 65) (by decide +kernel)) (by decide +kernel), ⟨by decide +kernel, by decide +kernel, by decide +kernel⟩, by decide⟩, lw_gd (List.mem_of_getElem? (i := 565) (by decide +kernel)) (by decide +kernel), lw_gd (List.mem_of_getElem? (i := 566) (by decide +kernel)) (by decide +kernel)⟩
theorem okX3_isGone : okV mX3_isGone 1 := ⟨⟨lw_gd (List.mem_of_getElem? (i := 642) (by decide +kernel)) (by decide +kernel), lw_gd (List.mem_of_getElem? (i := 65) (by decide +kernel)) (by decide +kernel), ⟨by decide +kernel, by decide +kernel, by decide +kernel⟩, by decide⟩, lw_gd (List.mem_of_getElem? (i := 640) (by decide +kernel)) (by decide +kernel), lw_gd (List.mem_of_getElem? (i := 641) (by decide +kernel)) (by decide +kernel)⟩
theorem okX3_isMet : okV mX3_isMet 1 := ⟨⟨lw_gd (List.mem_of_getElem? (i := 647) (by decide +kernel)) (by decide +kernel), lw_gd (List.mem_of_getElem? (i := 65) (by decide +kernel)) (by decide +kernel), ⟨by decide +kernel, by decide +kernel, by decide +kernel⟩, by decide⟩, lw_gd (List.mem_of_getElem? (i := 645) (by decide +kernel)) (by decide +kernel), lw_gd (List.mem_of_getElem? (i := 646) (by decide +kernel)) (by decide +kernel)⟩
theorem okX3_isMissed : okV mX3_isMissed 1 := ⟨⟨lw_gd (List.mem_of_getElem? (i := 651) (by decide +kernel)) (by decide +kernel), lw_gd (List.mem_of_getElem? (i := 65) (by decide +kernel)) (by decide +kernel), ⟨by decide +kernel, by decide +kernel, by decide +kernel⟩, by decide⟩, lw_gd (List.mem_of_getElem? (i := 649) (by decide +kernel)) (by decide +kernel), lw_gd (List.mem_of_getElem? (i := 650) (by decide +kernel)) (by decide +kernel)⟩
theorem okX3_missedSet : okV mX3_missedSet 0 := ⟨⟨lw_gd (List.mem_of_getElem? (i := 767) (by decide +kernel)) (by decide +kernel), lw_gd (List.mem_of_getElem? (i := 65) (by decide +kernel)) (by decide +kernel), ⟨by decide +kernel, by decide +kernel, by decide +kernel⟩, by decide⟩, lw_gd (List.mem_of_getElem? (i := 765) (by decide +kernel)) (by decide +kernel), lw_gd (List.mem_of_getElem? (i := 766) (by decide +kernel)) (by decide +kernel)⟩
theorem okX3_goneSet : okV mX3_goneSet 0 := ⟨⟨lw_gd (List.mem_of_getElem? (i := 772) (by decide +kernel)) (by decide +kernel), lw_gd (List.mem_of_getElem? (i := 65) (by decide +kernel)) (by decide +kernel), ⟨by decide +kernel, by decide +kernel, by decide +kernel⟩, by decide⟩, lw_gd (List.mem_of_getElem? (i := 770) (by decide +kernel)) (by decide +kernel), lw_gd (List.mem_of_getElem? (i := 771) (by decide +kernel)) (by decide +kernel)⟩
theorem okX3_worthOf : okV mX3_worthOf 1 := ⟨⟨lw_gd (List.mem_of_getElem? (i := 673) (by decide +kernel)) (by decide +kernel), lw_gd (List.mem_of_getElem? (i := 65) (by decide +kernel)) (by decide +kernel), ⟨by decide +kernel, by decide +kernel, by decide +kernel⟩, by decide⟩, lw_gd (List.mem_of_getElem? (i := 671) (by decide +kernel)) (by decide +kernel), lw_gd (List.mem_of_getElem? (i := 672) (by decide +kernel)) (by decide +kernel)⟩
theorem okX3_takenFrom : okV mX3_takenFrom 2 := ⟨⟨lw_gd (List.mem_of_getElem? (i := 623) (by decide +kernel)) (by decide +kernel), lw_gd (List.mem_of_getElem? (i := 65) (by decide +kernel)) (by decide +kernel), ⟨by decide +kernel, by decide +kernel, by decide +kernel⟩, by decide⟩, lw_gd (List.mem_of_getElem? (i := 621) (by decide +kernel)) (by decide +kernel), lw_gd (List.mem_of_getElem? (i := 622) (by decide +kernel)) (by decide +kernel)⟩
theorem okX3_lostFrom : okV mX3_lostFrom 2 := ⟨⟨lw_gd (List.mem_of_getElem? (i := 724) (by decide +kernel)) (by decide +kernel), lw_gd (List.mem_of_getElem? (i := 65) (by decide +kernel)) (by decide +kernel), ⟨by decide +kernel, by decide +kernel, by decide +kernel⟩, by decide⟩, lw_gd (List.mem_of_getElem? (i := 722) (by decide +kernel)) (by decide +kernel), lw_gd (List.mem_of_getElem? (i := 723) (by decide +kernel)) (by decide +kernel)⟩
theorem okX3_takenByGust : okV mX3_takenByGust 1 := ⟨⟨lw_gd (List.mem_of_getElem? (i := 619) (by decide +kernel)) (by decide +kernel), lw_gd (List.mem_of_getElem? (i := 65) (by decide +kernel)) (by decide +kernel), ⟨by decide +kernel, by decide +kernel, by decide +kernel⟩, by decide⟩, lw_gd (List.mem_of_getElem? (i := 617) (by decide +kernel)) (by decide +kernel), lw_gd (List.mem_of_getElem? (i := 618) (by decide +kernel)) (by decide +kernel)⟩
theorem okX3_takenBy : okV mX3_takenBy 1 := ⟨⟨lw_gd (List.mem_of_getElem? (i := 669) (by decide +kernel)) (by decide +kernel), lw_gd (List.mem_of_getElem? (i := 65) (by decide +kernel)) (by decide +kernel), ⟨by decide +kernel, by decide +kernel, by decide +kernel⟩, by decide⟩, lw_gd (List.mem_of_getElem? (i := 667) (by decide +kernel)) (by decide +kernel), lw_gd (List.mem_of_getElem? (i := 668) (by decide +kernel)) (by decide +kernel)⟩
theorem okX3_blow : okV mX3_blow 0 := ⟨⟨lw_gd (List.mem_of_getElem? (i := 615) (by decide +kernel)) (by decide +kernel), lw_gd (List.mem_of_getElem? (i := 65) (by decide +kernel)) (by decide +kernel), ⟨by decide +kernel, by decide +kernel, by decide +kernel⟩, by decide⟩, lw_gd (List.mem_of_getElem? (i := 613) (by decide +kernel)) (by decide +kernel), lw_gd (List.mem_of_getElem? (i := 614) (by decide +kernel)) (by decide +kernel)⟩
theorem okX3_lostIfUppermost : okV mX3_lostIfUppermost 2 := ⟨⟨lw_gd (List.mem_of_getElem? (i := 736) (by decide +kernel)) (by decide +kernel), lw_gd (List.mem_of_getElem? (i := 65) (by decide +kernel)) (by decide +kernel), ⟨by decide +kernel, by decide +kernel, by decide +kernel⟩, by decide⟩, lw_gd (List.mem_of_getElem? (i := 734) (by decide +kernel)) (by decide +kernel), lw_gd (List.mem_of_getElem? (i := 735) (by decide +kernel)) (by decide +kernel)⟩
theorem okX3_lostThrough : okV mX3_lostThrough 1 := ⟨⟨lw_gd (List.mem_of_getElem? (i := 759) (by decide +kernel)) (by decide +kernel), lw_gd (List.mem_of_getElem? (i := 65) (by decide +kernel)) (by decide +kernel), ⟨by decide +kernel, by decide +kernel, by decide +kernel⟩, by decide⟩, lw_gd (List.mem_of_getElem? (i := 757) (by decide +kernel)) (by decide +kernel), lw_gd (List.mem_of_getElem? (i := 758) (by decide +kernel)) (by decide +kernel)⟩
theorem okX3_leastOn : okV mX3_leastOn 1 := ⟨⟨lw_gd (List.mem_of_getElem? (i := 732) (by decide +kernel)) (by decide +kernel), lw_gd (List.mem_of_getElem? (i := 65) (by decide +kernel)) (by decide +kernel), ⟨by decide +kernel, by decide +kernel, by decide +kernel⟩, by decide⟩, lw_gd (List.mem_of_getElem? (i := 730) (by decide +kernel)) (by decide +kernel), lw_gd (List.mem_of_getElem? (i := 731) (by decide +kernel)) (by decide +kernel)⟩
theorem okX4_read : okV mX4_read 0 := ⟨⟨lw_gd (List.mem_of_getElem? (i := 399) (by decide +kernel)) (by decide +kernel), lw_gd (List.mem_of_getElem? (i := 63) (by decide +kernel)) (by decide +kernel), ⟨by decide +kernel, by decide +kernel, by decide +kernel⟩, by decide⟩, lw_gd (List.mem_of_getElem? (i := 397) (by decide +kernel)) (by decide +kernel), lw_gd (List.mem_of_getElem? (i := 398) (by decide +kernel)) (by decide +kernel)⟩
theorem okX4_readWind : okV mX4_readWind 0 := ⟨⟨lw_gd (List.mem_of_getElem? (i := 424) (by decide +kernel)) (by decide +kernel), lw_gd (List.mem_of_getElem? (i := 63) (by decide +kernel)) (by decide +kernel), ⟨by decide +kernel, by decide +kernel, by decide +kernel⟩, by decide⟩, lw_gd (List.mem_of_getElem? (i := 423) (by decide +kernel)) (by decide +kernel), lw_gd (List.mem_of_getElem? (i := 3) (by decide +kernel)) (by decide +kernel)⟩
theorem okX4_readDesks : okV mX4_readDesks 0 := ⟨⟨lw_gd (List.mem_of_getElem? (i := 493) (by decide +kernel)) (by decide +kernel), lw_gd (List.mem_of_getElem? (i := 63) (by decide +kernel)) (by decide +kernel), ⟨by decide +kernel, by decide +kernel, by decide +kernel⟩, by decide⟩, lw_gd (List.mem_of_getElem? (i := 492) (by decide +kernel)) (by decide +kernel), lw_gd (List.mem_of_getElem? (i := 8) (by decide +kernel)) (by decide +kernel)⟩
theorem okX4_readDesk : okV mX4_readDesk 0 := ⟨⟨lw_gd (List.mem_of_getElem? (i := 498) (by decide +kernel)) (by decide +kernel), lw_gd (List.mem_of_getElem? (i := 63) (by decide +kernel)) (by decide +kernel), ⟨by decide +kernel, by decide +kernel, by decide +kernel⟩, by decide⟩, lw_gd (List.mem_of_getElem? (i := 497) (by decide +kernel)) (by decide +kernel), lw_gd (List.mem_of_getElem? (i := 9) (by decide +kernel)) (by decide +kernel)⟩
theorem okX4_readSheets : okV mX4_readSheets 0 := ⟨⟨lw_gd (List.mem_of_getElem? (i := 506) (by decide +kernel)) (by decide +kernel), lw_gd (List.mem_of_getElem? (i := 63) (by decide +kernel)) (by decide +kernel), ⟨by decide +kernel, by decide +kernel, by decide +kernel⟩, by decide⟩, lw_gd (List.mem_of_getElem? (i := 505) (by decide +kernel)) (by decide +kernel), lw_gd (List.mem_of_getElem? (i := 10) (by decide +kernel)) (by decide +kernel)⟩
theorem okX4_readSheet : okV mX4_readSheet 0 := ⟨⟨lw_gd (List.mem_of_getElem? (i := 511) (by decide +kernel)) (by decide +kernel), lw_gd (List.mem_of_getElem? (i := 63) (by decide +kernel)) (by decide +kernel), ⟨by decide +kernel, by decide +kernel, by decide +kernel⟩, by decide⟩, lw_gd (List.mem_of_getElem? (i := 510) (by decide +kernel)) (by decide +kernel), lw_gd (List.mem_of_getElem? (i := 11) (by decide +kernel)) (by decide +kernel)⟩
theorem okX4_sortTold : okV mX4_sortTold 0 := ⟨⟨lw_gd (List.mem_of_getElem? (i := 515) (by decide +kernel)) (by decide +kernel), lw_gd (List.mem_of_getElem? (i := 63) (by decide +kernel)) (by decide +kernel), ⟨by decide +kernel, by decide +kernel, by decide +kernel⟩, by decide⟩, lw_gd (List.mem_of_getElem? (i := 514) (by decide +kernel)) (by decide +kernel), lw_gd (List.mem_of_getElem? (i := 12) (by decide +kernel)) (by decide +kernel)⟩
theorem okX4_takeNumber : okV mX4_takeNumber 2 := ⟨⟨lw_gd (List.mem_of_getElem? (i := 485) (by decide +kernel)) (by decide +kernel), lw_gd (List.mem_of_getElem? (i := 63) (by decide +kernel)) (by decide +kernel), ⟨by decide +kernel, by decide +kernel, by decide +kernel⟩, by decide⟩, lw_gd (List.mem_of_getElem? (i := 484) (by decide +kernel)) (by decide +kernel), lw_gd (List.mem_of_getElem? (i := 6) (by decide +kernel)) (by decide +kernel)⟩
theorem okX4_takeSemicolon : okV mX4_takeSemicolon 0 := ⟨⟨lw_gd (List.mem_of_getElem? (i := 489) (by decide +kernel)) (by decide +kernel), lw_gd (List.mem_of_getElem? (i := 63) (by decide +kernel)) (by decide +kernel), ⟨by decide +kernel, by decide +kernel, by decide +kernel⟩, by decide⟩, lw_gd (List.mem_of_getElem? (i := 488) (by decide +kernel)) (by decide +kernel), lw_gd (List.mem_of_getElem? (i := 7) (by decide +kernel)) (by decide +kernel)⟩
theorem okX4_fail : okV mX4_fail 1 := ⟨⟨lw_gd (List.mem_of_getElem? (i := 481) (by decide +kernel)) (by decide +kernel), lw_gd (List.mem_of_getElem? (i := 63) (by decide +kernel)) (by decide +kernel), ⟨by decide +kernel, by decide +kernel, by decide +kernel⟩, by decide⟩, lw_gd (List.mem_of_getElem? (i := 480) (by decide +kernel)) (by decide +kernel), lw_gd (List.mem_of_getElem? (i := 5) (by decide +kernel)) (by decide +kernel)⟩
theorem okX4_isWord : okV mX4_isWord 1 := ⟨⟨lw_gd (List.mem_of_getElem? (i := 429) (by decide +kernel)) (by decide +kernel), lw_gd (List.mem_of_getElem? (i := 63) (by decide +kernel)) (by decide +kernel), ⟨by decide +kernel, by decide +kernel, by decide +kernel⟩, by decide⟩, lw_gd (List.mem_of_getElem? (i := 428) (by decide +kernel)) (by decide +kernel), lw_gd (List.mem_of_getElem? (i := 4) (by decide +kernel)) (by decide +kernel)⟩
theorem okX4_step : okV mX4_step 0 := ⟨⟨lw_gd (List.mem_of_getElem? (i := 407) (by decide +kernel)) (by decide +kernel), lw_gd (List.mem_of_getElem? (i := 63) (by decide +kernel)) (by decide +kernel), ⟨by decide +kernel, by decide +kernel, by decide +kernel⟩, by decide⟩, lw_gd (List.mem_of_getElem? (i := 406) (by decide +kernel)) (by decide +kernel), lw_gd (List.mem_of_getElem? (i := 2) (by decide +kernel)) (by decide +kernel)⟩
theorem okX4_isBlank : okS mX4_isBlank 1 := ⟨⟨lw_gd (List.mem_of_getElem? (i := 414) (by decide +kernel)) (by decide +kernel), lw_gd (List.mem_of_getElem? (i := 63) (by decide +kernel)) (by decide +kernel), ⟨by decide +kernel, by decide +kernel, by decide +kernel⟩, by decide⟩, lw_gd (List.mem_of_getElem? (i := 413) (by decide +kernel)) (by decide +kernel)⟩
theorem okX4_isLetter : okS mX4_isLetter 1 := ⟨⟨lw_gd (List.mem_of_getElem? (i := 417) (by decide +kernel)) (by decide +kernel), lw_gd (List.mem_of_getElem? (i := 63) (by decide +kernel)) (by decide +kernel), ⟨by decide +kernel, by decide +kernel, by decide +kernel⟩, by decide⟩, lw_gd (List.mem_of_getElem? (i := 416) (by decide +kernel)) (by decide +kernel)⟩
theorem okX4_isFigure : okS mX4_isFigure 1 := ⟨⟨lw_gd (List.mem_of_getElem? (i := 420) (by decide +kernel)) (by decide +kernel), lw_gd (List.mem_of_getElem? (i := 63) (by decide +kernel)) (by decide +kernel), ⟨by decide +kernel, by decide +kernel, by decide +kernel⟩, by decide⟩, lw_gd (List.mem_of_getElem? (i := 419) (by decide +kernel)) (by decide +kernel)⟩
theorem okX5_isMissing : okV mX5_isMissing 0 := ⟨⟨lw_gd (List.mem_of_getElem? (i := 355) (by decide +kernel)) (by decide +kernel), lw_gd (List.mem_of_getElem? (i := 70) (by decide +kernel)) (by decide +kernel), ⟨by decide +kernel, by decide +kernel, by decide +kernel⟩, by decide⟩, lw_gd (List.mem_of_getElem? (i := 353) (by decide +kernel)) (by decide +kernel), lw_gd (List.mem_of_getElem? (i := 354) (by decide +kernel)) (by decide +kernel)⟩
theorem okX5_begin : okV mX5_begin 2 := ⟨⟨lw_gd (List.mem_of_getElem? (i := 343) (by decide +kernel)) (by decide +kernel), lw_gd (List.mem_of_getElem? (i := 70) (by decide +kernel)) (by decide +kernel), ⟨by decide +kernel, by decide +kernel, by decide +kernel⟩, by decide⟩, lw_gd (List.mem_of_getElem? (i := 341) (by decide +kernel)) (by decide +kernel), lw_gd (List.mem_of_getElem? (i := 342) (by decide +kernel)) (by decide +kernel)⟩
theorem okX5_end : okV mX5_end 0 := ⟨⟨lw_gd (List.mem_of_getElem? (i := 378) (by decide +kernel)) (by decide +kernel), lw_gd (List.mem_of_getElem? (i := 70) (by decide +kernel)) (by decide +kernel), ⟨by decide +kernel, by decide +kernel, by decide +kernel⟩, by decide⟩, lw_gd (List.mem_of_getElem? (i := 376) (by decide +kernel)) (by decide +kernel), lw_gd (List.mem_of_getElem? (i := 377) (by decide +kernel)) (by decide +kernel)⟩
theorem okX5_hasPlaces : okV mX5_hasPlaces 2 := ⟨⟨lw_gd (List.mem_of_getElem? (i := 359) (by decide +kernel)) (by decide +kernel), lw_gd (List.mem_of_getElem? (i := 70) (by decide +kernel)) (by decide +kernel), ⟨by decide +kernel, by decide +kernel, by decide +kernel⟩, by decide⟩, lw_gd (List.mem_of_getElem? (i := 357) (by decide +kernel)) (by decide +kernel), lw_gd (List.mem_of_getElem? (i := 358) (by decide +kernel)) (by decide +kernel)⟩
theorem okX5_put : okV mX5_put 2 := ⟨⟨lw_gd (List.mem_of_getElem? (i := 363) (by decide +kernel)) (by decide +kernel), lw_gd (List.mem_of_getElem? (i := 70) (by decide +kernel)) (by decide +kernel), ⟨by decide +kernel, by decide +kernel, by decide +kernel⟩, by decide⟩, lw_gd (List.mem_of_getElem? (i := 361) (by decide +kernel)) (by decide +kernel), lw_gd (List.mem_of_getElem? (i := 362) (by decide +kernel)) (by decide +kernel)⟩
theorem okX6_arrange : okV mX6_arrange 3 := ⟨⟨lw_gd (List.mem_of_getElem? (i := 699) (by decide +kernel)) (by decide +kernel), lw_gd (List.mem_of_getElem? (i := 68) (by decide +kernel)) (by decide +kernel), ⟨by decide +kernel, by decide +kernel, by decide +kernel⟩, by decide⟩, lw_gd (List.mem_of_getElem? (i := 697) (by decide +kernel)) (by decide +kernel), lw_gd (List.mem_of_getElem? (i := 698) (by decide +kernel)) (by decide +kernel)⟩
theorem okX6_firstThatKeepsLost : okV mX6_firstThatKeepsLost 4 := ⟨⟨lw_gd (List.mem_of_getElem? (i := 715) (by decide +kernel)) (by decide +kernel), lw_gd (List.mem_of_getElem? (i := 68) (by decide +kernel)) (by decide +kernel), ⟨by decide +kernel, by decide +kernel, by decide +kernel⟩, by decide⟩, lw_gd (List.mem_of_getElem? (i := 714) (by decide +kernel)) (by decide +kernel), lw_gd (List.mem_of_getElem? (i := 15) (by decide +kernel)) (by decide +kernel)⟩
theorem okX6_leastLost : okV mX6_leastLost 4 := ⟨⟨lw_gd (List.mem_of_getElem? (i := 708) (by decide +kernel)) (by decide +kernel), lw_gd (List.mem_of_getElem? (i := 68) (by decide +kernel)) (by decide +kernel), ⟨by decide +kernel, by decide +kernel, by decide +kernel⟩, by decide⟩, lw_gd (List.mem_of_getElem? (i := 707) (by decide +kernel)) (by decide +kernel), lw_gd (List.mem_of_getElem? (i := 14) (by decide +kernel)) (by decide +kernel)⟩
theorem okX6_cheapest : okS mX6_cheapest 2 := ⟨⟨lw_gd (List.mem_of_getElem? (i := 711) (by decide +kernel)) (by decide +kernel), lw_gd (List.mem_of_getElem? (i := 68) (by decide +kernel)) (by decide +kernel), ⟨by decide +kernel, by decide +kernel, by decide +kernel⟩, by decide⟩, lw_gd (List.mem_of_getElem? (i := 710) (by decide +kernel)) (by decide +kernel)⟩
theorem okX7_hasRoom : okV mX7_hasRoom 1 := ⟨⟨lw_gd (List.mem_of_getElem? (i := 386) (by decide +kernel)) (by decide +kernel), lw_gd (List.mem_of_getElem? (i := 64) (by decide +kernel)) (by decide +kernel), ⟨by decide +kernel, by decide +kernel, by decide +kernel⟩, by decide⟩, lw_gd (List.mem_of_getElem? (i := 384) (by decide +kernel)) (by decide +kernel), lw_gd (List.mem_of_getElem? (i := 385) (by decide +kernel)) (by decide +kernel)⟩
theorem okX7_join : okV mX7_join 2 := ⟨⟨lw_gd (List.mem_of_getElem? (i := 391) (by decide +kernel)) (by decide +kernel), lw_gd (List.mem_of_getElem? (i := 64) (by decide +kernel)) (by decide +kernel), ⟨by decide +kernel, by decide +kernel, by decide +kernel⟩, by decide⟩, lw_gd (List.mem_of_getElem? (i := 389) (by decide +kernel)) (by decide +kernel), lw_gd (List.mem_of_getElem? (i := 390) (by decide +kernel)) (by decide +kernel)⟩
theorem okX7_at : okV mX7_at 1 := ⟨⟨lw_gd (List.mem_of_getElem? (i := 411) (by decide +kernel)) (by decide +kernel), lw_gd (List.mem_of_getElem? (i := 64) (by decide +kernel)) (by decide +kernel), ⟨by decide +kernel, by decide +kernel, by decide +kernel⟩, by decide⟩, lw_gd (List.mem_of_getElem? (i := 409) (by decide +kernel)) (by decide +kernel), lw_gd (List.mem_of_getElem? (i := 410) (by decide +kernel)) (by decide +kernel)⟩
theorem okX8_row : okV mX8_row 3 := ⟨⟨lw_gd (List.mem_of_getElem? (i := 330) (by decide +kernel)) (by decide +kernel), lw_gd (List.mem_of_getElem? (i := 62) (by decide +kernel)) (by decide +kernel), ⟨by decide +kernel, by decide +kernel, by decide +kernel⟩, by decide⟩, lw_gd (List.mem_of_getElem? (i := 328) (by decide +kernel)) (by decide +kernel), lw_gd (List.mem_of_getElem? (i := 329) (by decide +kernel)) (by decide +kernel)⟩
theorem okX8_set : okV mX8_set 3 := ⟨⟨lw_gd (List.mem_of_getElem? (i := 351) (by decide +kernel)) (by decide +kernel), lw_gd (List.mem_of_getElem? (i := 62) (by decide +kernel)) (by decide +kernel), ⟨by decide +kernel, by decide +kernel, by decide +kernel⟩, by decide⟩, lw_gd (List.mem_of_getElem? (i := 349) (by decide +kernel)) (by decide +kernel), lw_gd (List.mem_of_getElem? (i := 350) (by decide +kernel)) (by decide +kernel)⟩
theorem okX8_copy : okV mX8_copy 5 := ⟨⟨lw_gd (List.mem_of_getElem? (i := 367) (by decide +kernel)) (by decide +kernel), lw_gd (List.mem_of_getElem? (i := 62) (by decide +kernel)) (by decide +kernel), ⟨by decide +kernel, by decide +kernel, by decide +kernel⟩, by decide⟩, lw_gd (List.mem_of_getElem? (i := 365) (by decide +kernel)) (by decide +kernel), lw_gd (List.mem_of_getElem? (i := 366) (by decide +kernel)) (by decide +kernel)⟩
theorem okX8_drop : okV mX8_drop 1 := ⟨⟨lw_gd (List.mem_of_getElem? (i := 374) (by decide +kernel)) (by decide +kernel), lw_gd (List.mem_of_getElem? (i := 62) (by decide +kernel)) (by decide +kernel), ⟨by decide +kernel, by decide +kernel, by decide +kernel⟩, by decide⟩, lw_gd (List.mem_of_getElem? (i := 372) (by decide +kernel)) (by decide +kernel), lw_gd (List.mem_of_getElem? (i := 373) (by decide +kernel)) (by decide +kernel)⟩
theorem okX8_feed : okV mX8_feed 2 := ⟨⟨lw_gd (List.mem_of_getElem? (i := 382) (by decide +kernel)) (by decide +kernel), lw_gd (List.mem_of_getElem? (i := 62) (by decide +kernel)) (by decide +kernel), ⟨by decide +kernel, by decide +kernel, by decide +kernel⟩, by decide⟩, lw_gd (List.mem_of_getElem? (i := 380) (by decide +kernel)) (by decide +kernel), lw_gd (List.mem_of_getElem? (i := 381) (by decide +kernel)) (by decide +kernel)⟩
theorem okX8_office : okV mX8_office 0 := ⟨⟨lw_gd (List.mem_of_getElem? (i := 395) (by decide +kernel)) (by decide +kernel), lw_gd (List.mem_of_getElem? (i := 62) (by decide +kernel)) (by decide +kernel), ⟨by decide +kernel, by decide +kernel, by decide +kernel⟩, by decide⟩, lw_gd (List.mem_of_getElem? (i := 393) (by decide +kernel)) (by decide +kernel), lw_gd (List.mem_of_getElem? (i := 394) (by decide +kernel)) (by decide +kernel)⟩
theorem okX8_fault : okV mX8_fault 0 := ⟨⟨lw_gd (List.mem_of_getElem? (i := 551) (by decide +kernel)) (by decide +kernel), lw_gd (List.mem_of_getElem? (i := 62) (by decide +kernel)) (by decide +kernel), ⟨by decide +kernel, by decide +kernel, by decide +kernel⟩, by decide⟩, lw_gd (List.mem_of_getElem? (i := 549) (by decide +kernel)) (by decide +kernel), lw_gd (List.mem_of_getElem? (i := 550) (by decide +kernel)) (by decide +kernel)⟩
theorem okX8_lift : okV mX8_lift 1 := ⟨⟨lw_gd (List.mem_of_getElem? (i := 555) (by decide +kernel)) (by decide +kernel), lw_gd (List.mem_of_getElem? (i := 62) (by decide +kernel)) (by decide +kernel), ⟨by decide +kernel, by decide +kernel, by decide +kernel⟩, by decide⟩, lw_gd (List.mem_of_getElem? (i := 553) (by decide +kernel)) (by decide +kernel), lw_gd (List.mem_of_getElem? (i := 554) (by decide +kernel)) (by decide +kernel)⟩
theorem okX8_lay : okV mX8_lay 2 := ⟨⟨lw_gd (List.mem_of_getElem? (i := 592) (by decide +kernel)) (by decide +kernel), lw_gd (List.mem_of_getElem? (i := 62) (by decide +kernel)) (by decide +kernel), ⟨by decide +kernel, by decide +kernel, by decide +kernel⟩, by decide⟩, lw_gd (List.mem_of_getElem? (i := 590) (by decide +kernel)) (by decide +kernel), lw_gd (List.mem_of_getElem? (i := 591) (by decide +kernel)) (by decide +kernel)⟩
theorem okX8_blank : okV mX8_blank 1 := ⟨⟨lw_gd (List.mem_of_getElem? (i := 598) (by decide +kernel)) (by decide +kernel), lw_gd (List.mem_of_getElem? (i := 62) (by decide +kernel)) (by decide +kernel), ⟨by decide +kernel, by decide +kernel, by decide +kernel⟩, by decide⟩, lw_gd (List.mem_of_getElem? (i := 596) (by decide +kernel)) (by decide +kernel), lw_gd (List.mem_of_getElem? (i := 597) (by decide +kernel)) (by decide +kernel)⟩
theorem okX8_quarter : okV mX8_quarter 1 := ⟨⟨lw_gd (List.mem_of_getElem? (i := 603) (by decide +kernel)) (by decide +kernel), lw_gd (List.mem_of_getElem? (i := 62) (by decide +kernel)) (by decide +kernel), ⟨by decide +kernel, by decide +kernel, by decide +kernel⟩, by decide⟩, lw_gd (List.mem_of_getElem? (i := 601) (by decide +kernel)) (by decide +kernel), lw_gd (List.mem_of_getElem? (i := 602) (by decide +kernel)) (by decide +kernel)⟩
theorem okX8_undo : okV mX8_undo 0 := ⟨⟨lw_gd (List.mem_of_getElem? (i := 630) (by decide +kernel)) (by decide +kernel), lw_gd (List.mem_of_getElem? (i := 62) (by decide +kernel)) (by decide +kernel), ⟨by decide +kernel, by decide +kernel, by decide +kernel⟩, by decide⟩, lw_gd (List.mem_of_getElem? (i := 628) (by decide +kernel)) (by decide +kernel), lw_gd (List.mem_of_getElem? (i := 629) (by decide +kernel)) (by decide +kernel)⟩
theorem okX8_sheet : okV mX8_sheet 2 := ⟨⟨lw_gd (List.mem_of_getElem? (i := 638) (by decide +kernel)) (by decide +kernel), lw_gd (List.mem_of_getElem? (i := 62) (by decide +kernel)) (by decide +kernel), ⟨by decide +kernel, by decide +kernel, by decide +kernel⟩, by decide⟩, lw_gd (List.mem_of_getElem? (i := 636) (by decide +kernel)) (by decide +kernel), lw_gd (List.mem_of_getElem? (i := 637) (by decide +kernel)) (by decide +kernel)⟩
theorem okX8_desk : okV mX8_desk 2 := ⟨⟨lw_gd (List.mem_of_getElem? (i := 657) (by decide +kernel)) (by decide +kernel), lw_gd (List.mem_of_getElem? (i := 62) (by decide +kernel)) (by decide +kernel), ⟨by decide +kernel, by decide +kernel, by decide +kernel⟩, by decide⟩, lw_gd (List.mem_of_getElem? (i := 655) (by decide +kernel)) (by decide +kernel), lw_gd (List.mem_of_getElem? (i := 656) (by decide +kernel)) (by decide +kernel)⟩
theorem okX8_taken : okV mX8_taken 2 := ⟨⟨lw_gd (List.mem_of_getElem? (i := 662) (by decide +kernel)) (by decide +kernel), lw_gd (List.mem_of_getElem? (i := 62) (by decide +kernel)) (by decide +kernel), ⟨by decide +kernel, by decide +kernel, by decide +kernel⟩, by decide⟩, lw_gd (List.mem_of_getElem? (i := 660) (by decide +kernel)) (by decide +kernel), lw_gd (List.mem_of_getElem? (i := 661) (by decide +kernel)) (by decide +kernel)⟩
theorem okX8_mean : okV mX8_mean 2 := ⟨⟨lw_gd (List.mem_of_getElem? (i := 677) (by decide +kernel)) (by decide +kernel), lw_gd (List.mem_of_getElem? (i := 62) (by decide +kernel)) (by decide +kernel), ⟨by decide +kernel, by decide +kernel, by decide +kernel⟩, by decide⟩, lw_gd (List.mem_of_getElem? (i := 675) (by decide +kernel)) (by decide +kernel), lw_gd (List.mem_of_getElem? (i := 676) (by decide +kernel)) (by decide +kernel)⟩
theorem okX8_order : okV mX8_order 3 := ⟨⟨lw_gd (List.mem_of_getElem? (i := 695) (by decide +kernel)) (by decide +kernel), lw_gd (List.mem_of_getElem? (i := 62) (by decide +kernel)) (by decide +kernel), ⟨by decide +kernel, by decide +kernel, by decide +kernel⟩, by decide⟩, lw_gd (List.mem_of_getElem? (i := 693) (by decide +kernel)) (by decide +kernel), lw_gd (List.mem_of_getElem? (i := 694) (by decide +kernel)) (by decide +kernel)⟩
theorem okX8_cover : okV mX8_cover 2 := ⟨⟨lw_gd (List.mem_of_getElem? (i := 719) (by decide +kernel)) (by decide +kernel), lw_gd (List.mem_of_getElem? (i := 62) (by decide +kernel)) (by decide +kernel), ⟨by decide +kernel, by decide +kernel, by decide +kernel⟩, by decide⟩, lw_gd (List.mem_of_getElem? (i := 717) (by decide +kernel)) (by decide +kernel), lw_gd (List.mem_of_getElem? (i := 718) (by decide +kernel)) (by decide +kernel)⟩
theorem okX8_lend : okV mX8_lend 2 := ⟨⟨lw_gd (List.mem_of_getElem? (i := 728) (by decide +kernel)) (by decide +kernel), lw_gd (List.mem_of_getElem? (i := 62) (by decide +kernel)) (by decide +kernel), ⟨by decide +kernel, by decide +kernel, by decide +kernel⟩, by decide⟩, lw_gd (List.mem_of_getElem? (i := 726) (by decide +kernel)) (by decide +kernel), lw_gd (List.mem_of_getElem? (i := 727) (by decide +kernel)) (by decide +kernel)⟩
theorem okX8_beach : okV mX8_beach 4 := ⟨⟨lw_gd (List.mem_of_getElem? (i := 740) (by decide +kernel)) (by decide +kernel), lw_gd (List.mem_of_getElem? (i := 62) (by decide +kernel)) (by decide +kernel), ⟨by decide +kernel, by decide +kernel, by decide +kernel⟩, by decide⟩, lw_gd (List.mem_of_getElem? (i := 738) (by decide +kernel)) (by decide +kernel), lw_gd (List.mem_of_getElem? (i := 739) (by decide +kernel)) (by decide +kernel)⟩
theorem okX8_window : okV mX8_window 0 := ⟨⟨lw_gd (List.mem_of_getElem? (i := 755) (by decide +kernel)) (by decide +kernel), lw_gd (List.mem_of_getElem? (i := 62) (by decide +kernel)) (by decide +kernel), ⟨by decide +kernel, by decide +kernel, by decide +kernel⟩, by decide⟩, lw_gd (List.mem_of_getElem? (i := 753) (by decide +kernel)) (by decide +kernel), lw_gd (List.mem_of_getElem? (i := 754) (by decide +kernel)) (by decide +kernel)⟩
theorem okX8_missed : okV mX8_missed 1 := ⟨⟨lw_gd (List.mem_of_getElem? (i := 763) (by decide +kernel)) (by decide +kernel), lw_gd (List.mem_of_getElem? (i := 62) (by decide +kernel)) (by decide +kernel), ⟨by decide +kernel, by decide +kernel, by decide +kernel⟩, by decide⟩, lw_gd (List.mem_of_getElem? (i := 761) (by decide +kernel)) (by decide +kernel), lw_gd (List.mem_of_getElem? (i := 762) (by decide +kernel)) (by decide +kernel)⟩
theorem okX8_image : okV mX8_image 1 := ⟨⟨lw_gd (List.mem_of_getElem? (i := 776) (by decide +kernel)) (by decide +kernel), lw_gd (List.mem_of_getElem? (i := 62) (by decide +kernel)) (by decide +kernel), ⟨by decide +kernel, by decide +kernel, by decide +kernel⟩, by decide⟩, lw_gd (List.mem_of_getElem? (i := 774) (by decide +kernel)) (by decide +kernel), lw_gd (List.mem_of_getElem? (i := 775) (by decide +kernel)) (by decide +kernel)⟩
theorem okX8_restore : okV mX8_restore 1 := ⟨⟨lw_gd (List.mem_of_getElem? (i := 783) (by decide +kernel)) (by decide +kernel), lw_gd (List.mem_of_getElem? (i := 62) (by decide +kernel)) (by decide +kernel), ⟨by decide +kernel, by decide +kernel, by decide +kernel⟩, by decide⟩, lw_gd (List.mem_of_getElem? (i := 781) (by decide +kernel)) (by decide +kernel), lw_gd (List.mem_of_getElem? (i := 782) (by decide +kernel)) (by decide +kernel)⟩
theorem okX8_kind : okV mX8_kind 1 := ⟨⟨lw_gd (List.mem_of_getElem? (i := 787) (by decide +kernel)) (by decide +kernel), lw_gd (List.mem_of_getElem? (i := 62) (by decide +kernel)) (by decide +kernel), ⟨by decide +kernel, by decide +kernel, by decide +kernel⟩, by decide⟩, lw_gd (List.mem_of_getElem? (i := 785) (by decide +kernel)) (by decide +kernel), lw_gd (List.mem_of_getElem? (i := 786) (by decide +kernel)) (by decide +kernel)⟩
theorem okX8_as : okV mX8_as 2 := ⟨⟨lw_gd (List.mem_of_getElem? (i := 791) (by decide +kernel)) (by decide +kernel), lw_gd (List.mem_of_getElem? (i := 62) (by decide +kernel)) (by decide +kernel), ⟨by decide +kernel, by decide +kernel, by decide +kernel⟩, by decide⟩, lw_gd (List.mem_of_getElem? (i := 789) (by decide +kernel)) (by decide +kernel), lw_gd (List.mem_of_getElem? (i := 790) (by decide +kernel)) (by decide +kernel)⟩
theorem okX8_ask : okV mX8_ask 2 := ⟨⟨lw_gd (List.mem_of_getElem? (i := 804) (by decide +kernel)) (by decide +kernel), lw_gd (List.mem_of_getElem? (i := 62) (by decide +kernel)) (by decide +kernel), ⟨by decide +kernel, by decide +kernel, by decide +kernel⟩, by decide⟩, lw_gd (List.mem_of_getElem? (i := 802) (by decide +kernel)) (by decide +kernel), lw_gd (List.mem_of_getElem? (i := 803) (by decide +kernel)) (by decide +kernel)⟩
theorem okX8_trace : okV mX8_trace 1 := ⟨⟨lw_gd (List.mem_of_getElem? (i := 826) (by decide +kernel)) (by decide +kernel), lw_gd (List.mem_of_getElem? (i := 62) (by decide +kernel)) (by decide +kernel), ⟨by decide +kernel, by decide +kernel, by decide +kernel⟩, by decide⟩, lw_gd (List.mem_of_getElem? (i := 824) (by decide +kernel)) (by decide +kernel), lw_gd (List.mem_of_getElem? (i := 825) (by decide +kernel)) (by decide +kernel)⟩
theorem okX8_count : okV mX8_count 1 := ⟨⟨lw_gd (List.mem_of_getElem? (i := 830) (by decide +kernel)) (by decide +kernel), lw_gd (List.mem_of_getElem? (i := 62) (by decide +kernel)) (by decide +kernel), ⟨by decide +kernel, by decide +kernel, by decide +kernel⟩, by decide⟩, lw_gd (List.mem_of_getElem? (i := 828) (by decide +kernel)) (by decide +kernel), lw_gd (List.mem_of_getElem? (i := 829) (by decide +kernel)) (by decide +kernel)⟩
theorem okX8_status : okV mX8_status 0 := ⟨⟨lw_gd (List.mem_of_getElem? (i := 838) (by decide +kernel)) (by decide +kernel), lw_gd (List.mem_of_getElem? (i := 62) (by decide +kernel)) (by decide +kernel), ⟨by decide +kernel, by decide +kernel, by decide +kernel⟩, by decide⟩, lw_gd (List.mem_of_getElem? (i := 836) (by decide +kernel)) (by decide +kernel), lw_gd (List.mem_of_getElem? (i := 837) (by decide +kernel)) (by decide +kernel)⟩
theorem okX8_isRow : okS mX8_isRow 1 := ⟨⟨lw_gd (List.mem_of_getElem? (i := 333) (by decide +kernel)) (by decide +kernel), lw_gd (List.mem_of_getElem? (i := 62) (by decide +kernel)) (by decide +kernel), ⟨by decide +kernel, by decide +kernel, by decide +kernel⟩, by decide⟩, lw_gd (List.mem_of_getElem? (i := 332) (by decide +kernel)) (by decide +kernel)⟩
theorem okX8_isGusts : okS mX8_isGusts 1 := ⟨⟨lw_gd (List.mem_of_getElem? (i := 665) (by decide +kernel)) (by decide +kernel), lw_gd (List.mem_of_getElem? (i := 62) (by decide +kernel)) (by decide +kernel), ⟨by decide +kernel, by decide +kernel, by decide +kernel⟩, by decide⟩, lw_gd (List.mem_of_getElem? (i := 664) (by decide +kernel)) (by decide +kernel)⟩
theorem okX8_isImage : okS mX8_isImage 1 := ⟨⟨lw_gd (List.mem_of_getElem? (i := 779) (by decide +kernel)) (by decide +kernel), lw_gd (List.mem_of_getElem? (i := 62) (by decide +kernel)) (by decide +kernel), ⟨by decide +kernel, by decide +kernel, by decide +kernel⟩, by decide⟩, lw_gd (List.mem_of_getElem? (i := 778) (by decide +kernel)) (by decide +kernel)⟩
theorem okX8_found : okV mX8_found 1 := ⟨⟨lw_gd (List.mem_of_getElem? (i := 338) (by decide +kernel)) (by decide +kernel), lw_gd (List.mem_of_getElem? (i := 62) (by decide +kernel)) (by decide +kernel), ⟨by decide +kernel, by decide +kernel, by decide +kernel⟩, by decide⟩, lw_gd (List.mem_of_getElem? (i := 337) (by decide +kernel)) (by decide +kernel), lw_gd (List.mem_of_getElem? (i := 0) (by decide +kernel)) (by decide +kernel)⟩
theorem okX8_well : okV mX8_well 1 := ⟨⟨lw_gd (List.mem_of_getElem? (i := 347) (by decide +kernel)) (by decide +kernel), lw_gd (List.mem_of_getElem? (i := 62) (by decide +kernel)) (by decide +kernel), ⟨by decide +kernel, by decide +kernel, by decide +kernel⟩, by decide⟩, lw_gd (List.mem_of_getElem? (i := 346) (by decide +kernel)) (by decide +kernel), lw_gd (List.mem_of_getElem? (i := 1) (by decide +kernel)) (by decide +kernel)⟩
theorem okX8_standingRows : okV mX8_standingRows 0 := ⟨⟨lw_gd (List.mem_of_getElem? (i := 834) (by decide +kernel)) (by decide +kernel), lw_gd (List.mem_of_getElem? (i := 62) (by decide +kernel)) (by decide +kernel), ⟨by decide +kernel, by decide +kernel, by decide +kernel⟩, by decide⟩, lw_gd (List.mem_of_getElem? (i := 833) (by decide +kernel)) (by decide +kernel), lw_gd (List.mem_of_getElem? (i := 18) (by decide +kernel)) (by decide +kernel)⟩
theorem okX8_fits : okV mX8_fits 4 := ⟨⟨lw_gd (List.mem_of_getElem? (i := 744) (by decide +kernel)) (by decide +kernel), lw_gd (List.mem_of_getElem? (i := 62) (by decide +kernel)) (by decide +kernel), ⟨by decide +kernel, by decide +kernel, by decide +kernel⟩, by decide⟩, lw_gd (List.mem_of_getElem? (i := 743) (by decide +kernel)) (by decide +kernel), lw_gd (List.mem_of_getElem? (i := 16) (by decide +kernel)) (by decide +kernel)⟩
theorem okX9_in : okS mX9_in 3 := ⟨⟨lw_gd (List.mem_of_getElem? (i := 941) (by decide +kernel)) (by decide +kernel), lw_gd (List.mem_of_getElem? (i := 71) (by decide +kernel)) (by decide +kernel), ⟨by decide +kernel, by decide +kernel, by decide +kernel⟩, by decide⟩, lw_gd (List.mem_of_getElem? (i := 940) (by decide +kernel)) (by decide +kernel)⟩
theorem okX9_finding : okV mX9_finding 1 := ⟨⟨lw_gd (List.mem_of_getElem? (i := 947) (by decide +kernel)) (by decide +kernel), lw_gd (List.mem_of_getElem? (i := 71) (by decide +kernel)) (by decide +kernel), ⟨by decide +kernel, by decide +kernel, by decide +kernel⟩, by decide⟩, lw_gd (List.mem_of_getElem? (i := 946) (by decide +kernel)) (by decide +kernel), lw_gd (List.mem_of_getElem? (i := 19) (by decide +kernel)) (by decide +kernel)⟩
theorem okX9_isRow : okS mX9_isRow 1 := ⟨⟨lw_gd (List.mem_of_getElem? (i := 937) (by decide +kernel)) (by decide +kernel), lw_gd (List.mem_of_getElem? (i := 71) (by decide +kernel)) (by decide +kernel), ⟨by decide +kernel, by decide +kernel, by decide +kernel⟩, by decide⟩, lw_gd (List.mem_of_getElem? (i := 936) (by decide +kernel)) (by decide +kernel)⟩
theorem okX9_row : okV mX9_row 3 := ⟨⟨lw_gd (List.mem_of_getElem? (i := 934) (by decide +kernel)) (by decide +kernel), lw_gd (List.mem_of_getElem? (i := 71) (by decide +kernel)) (by decide +kernel), ⟨by decide +kernel, by decide +kernel, by decide +kernel⟩, by decide⟩, lw_gd (List.mem_of_getElem? (i := 932) (by decide +kernel)) (by decide +kernel), lw_gd (List.mem_of_getElem? (i := 933) (by decide +kernel)) (by decide +kernel)⟩
theorem okX9_set : okV mX9_set 3 := ⟨⟨lw_gd (List.mem_of_getElem? (i := 952) (by decide +kernel)) (by decide +kernel), lw_gd (List.mem_of_getElem? (i := 71) (by decide +kernel)) (by decide +kernel), ⟨by decide +kernel, by decide +kernel, by decide +kernel⟩, by decide⟩, lw_gd (List.mem_of_getElem? (i := 950) (by decide +kernel)) (by decide +kernel), lw_gd (List.mem_of_getElem? (i := 951) (by decide +kernel)) (by decide +kernel)⟩
theorem okX9_copy : okV mX9_copy 5 := ⟨⟨lw_gd (List.mem_of_getElem? (i := 956) (by decide +kernel)) (by decide +kernel), lw_gd (List.mem_of_getElem? (i := 71) (by decide +kernel)) (by decide +kernel), ⟨by decide +kernel, by decide +kernel, by decide +kernel⟩, by decide⟩, lw_gd (List.mem_of_getElem? (i := 954) (by decide +kernel)) (by decide +kernel), lw_gd (List.mem_of_getElem? (i := 955) (by decide +kernel)) (by decide +kernel)⟩
theorem okX9_drop : okV mX9_drop 1 := ⟨⟨lw_gd (List.mem_of_getElem? (i := 960) (by decide +kernel)) (by decide +kernel), lw_gd (List.mem_of_getElem? (i := 71) (by decide +kernel)) (by decide +kernel), ⟨by decide +kernel, by decide +kernel, by decide +kernel⟩, by decide⟩, lw_gd (List.mem_of_getElem? (i := 958) (by decide +kernel)) (by decide +kernel), lw_gd (List.mem_of_getElem? (i := 959) (by decide +kernel)) (by decide +kernel)⟩
theorem okX9_feed : okV mX9_feed 2 := ⟨⟨lw_gd (List.mem_of_getElem? (i := 964) (by decide +kernel)) (by decide +kernel), lw_gd (List.mem_of_getElem? (i := 71) (by decide +kernel)) (by decide +kernel), ⟨by decide +kernel, by decide +kernel, by decide +kernel⟩, by decide⟩, lw_gd (List.mem_of_getElem? (i := 962) (by decide +kernel)) (by decide +kernel), lw_gd (List.mem_of_getElem? (i := 963) (by decide +kernel)) (by decide +kernel)⟩
theorem okX9_byteAt : okV mX9_byteAt 1 := ⟨⟨lw_gd (List.mem_of_getElem? (i := 983) (by decide +kernel)) (by decide +kernel), lw_gd (List.mem_of_getElem? (i := 71) (by decide +kernel)) (by decide +kernel), ⟨by decide +kernel, by decide +kernel, by decide +kernel⟩, by decide⟩, lw_gd (List.mem_of_getElem? (i := 982) (by decide +kernel)) (by decide +kernel), lw_gd (List.mem_of_getElem? (i := 22) (by decide +kernel)) (by decide +kernel)⟩
theorem okX9_isLetter : okS mX9_isLetter 1 := ⟨⟨lw_gd (List.mem_of_getElem? (i := 987) (by decide +kernel)) (by decide +kernel), lw_gd (List.mem_of_getElem? (i := 71) (by decide +kernel)) (by decide +kernel), ⟨by decide +kernel, by decide +kernel, by decide +kernel⟩, by decide⟩, lw_gd (List.mem_of_getElem? (i := 986) (by decide +kernel)) (by decide +kernel)⟩
theorem okX9_isFigure : okS mX9_isFigure 1 := ⟨⟨lw_gd (List.mem_of_getElem? (i := 990) (by decide +kernel)) (by decide +kernel), lw_gd (List.mem_of_getElem? (i := 71) (by decide +kernel)) (by decide +kernel), ⟨by decide +kernel, by decide +kernel, by decide +kernel⟩, by decide⟩, lw_gd (List.mem_of_getElem? (i := 989) (by decide +kernel)) (by decide +kernel)⟩
theorem okX9_next : okV mX9_next 0 := ⟨⟨lw_gd (List.mem_of_getElem? (i := 979) (by decide +kernel)) (by decide +kernel), lw_gd (List.mem_of_getElem? (i := 71) (by decide +kernel)) (by decide +kernel), ⟨by decide +kernel, by decide +kernel, by decide +kernel⟩, by decide⟩, lw_gd (List.mem_of_getElem? (i := 978) (by decide +kernel)) (by decide +kernel), lw_gd (List.mem_of_getElem? (i := 21) (by decide +kernel)) (by decide +kernel)⟩
theorem okX9_begin : okV mX9_begin 0 := ⟨⟨lw_gd (List.mem_of_getElem? (i := 975) (by decide +kernel)) (by decide +kernel), lw_gd (List.mem_of_getElem? (i := 71) (by decide +kernel)) (by decide +kernel), ⟨by decide +kernel, by decide +kernel, by decide +kernel⟩, by decide⟩, lw_gd (List.mem_of_getElem? (i := 974) (by decide +kernel)) (by decide +kernel), lw_gd (List.mem_of_getElem? (i := 20) (by decide +kernel)) (by decide +kernel)⟩
theorem okX9_bad : okV mX9_bad 1 := ⟨⟨lw_gd (List.mem_of_getElem? (i := 1007) (by decide +kernel)) (by decide +kernel), lw_gd (List.mem_of_getElem? (i := 71) (by decide +kernel)) (by decide +kernel), ⟨by decide +kernel, by decide +kernel, by decide +kernel⟩, by decide⟩, lw_gd (List.mem_of_getElem? (i := 1006) (by decide +kernel)) (by decide +kernel), lw_gd (List.mem_of_getElem? (i := 26) (by decide +kernel)) (by decide +kernel)⟩
theorem okX9_must : okV mX9_must 1 := ⟨⟨lw_gd (List.mem_of_getElem? (i := 1003) (by decide +kernel)) (by decide +kernel), lw_gd (List.mem_of_getElem? (i := 71) (by decide +kernel)) (by decide +kernel), ⟨by decide +kernel, by decide +kernel, by decide +kernel⟩, by decide⟩, lw_gd (List.mem_of_getElem? (i := 1002) (by decide +kernel)) (by decide +kernel), lw_gd (List.mem_of_getElem? (i := 25) (by decide +kernel)) (by decide +kernel)⟩
theorem okX9_name : okV mX9_name 0 := ⟨⟨lw_gd (List.mem_of_getElem? (i := 998) (by decide +kernel)) (by decide +kernel), lw_gd (List.mem_of_getElem? (i := 71) (by decide +kernel)) (by decide +kernel), ⟨by decide +kernel, by decide +kernel, by decide +kernel⟩, by decide⟩, lw_gd (List.mem_of_getElem? (i := 997) (by decide +kernel)) (by decide +kernel), lw_gd (List.mem_of_getElem? (i := 24) (by decide +kernel)) (by decide +kernel)⟩
theorem okX9_figures : okV mX9_figures 0 := ⟨⟨lw_gd (List.mem_of_getElem? (i := 1015) (by decide +kernel)) (by decide +kernel), lw_gd (List.mem_of_getElem? (i := 71) (by decide +kernel)) (by decide +kernel), ⟨by decide +kernel, by decide +kernel, by decide +kernel⟩, by decide⟩, lw_gd (List.mem_of_getElem? (i := 1014) (by decide +kernel)) (by decide +kernel), lw_gd (List.mem_of_getElem? (i := 28) (by decide +kernel)) (by decide +kernel)⟩
theorem okX9_number : okV mX9_number 2 := ⟨⟨lw_gd (List.mem_of_getElem? (i := 1011) (by decide +kernel)) (by decide +kernel), lw_gd (List.mem_of_getElem? (i := 71) (by decide +kernel)) (by decide +kernel), ⟨by decide +kernel, by decide +kernel, by decide +kernel⟩, by decide⟩, lw_gd (List.mem_of_getElem? (i := 1010) (by decide +kernel)) (by decide +kernel), lw_gd (List.mem_of_getElem? (i := 27) (by decide +kernel)) (by decide +kernel)⟩
theorem okX9_kindBy : okS mX9_kindBy 1 := ⟨⟨lw_gd (List.mem_of_getElem? (i := 1036) (by decide +kernel)) (by decide +kernel), lw_gd (List.mem_of_getElem? (i := 71) (by decide +kernel)) (by decide +kernel), ⟨by decide +kernel, by decide +kernel, by decide +kernel⟩, by decide⟩, lw_gd (List.mem_of_getElem? (i := 1035) (by decide +kernel)) (by decide +kernel)⟩
theorem okX9_mustEnd : okV mX9_mustEnd 0 := ⟨⟨lw_gd (List.mem_of_getElem? (i := 1019) (by decide +kernel)) (by decide +kernel), lw_gd (List.mem_of_getElem? (i := 71) (by decide +kernel)) (by decide +kernel), ⟨by decide +kernel, by decide +kernel, by decide +kernel⟩, by decide⟩, lw_gd (List.mem_of_getElem? (i := 1018) (by decide +kernel)) (by decide +kernel), lw_gd (List.mem_of_getElem? (i := 29) (by decide +kernel)) (by decide +kernel)⟩
theorem okX9_begins : okV mX9_begins 2 := ⟨⟨lw_gd (List.mem_of_getElem? (i := 1028) (by decide +kernel)) (by decide +kernel), lw_gd (List.mem_of_getElem? (i := 71) (by decide +kernel)) (by decide +kernel), ⟨by decide +kernel, by decide +kernel, by decide +kernel⟩, by decide⟩, lw_gd (List.mem_of_getElem? (i := 1027) (by decide +kernel)) (by decide +kernel), lw_gd (List.mem_of_getElem? (i := 31) (by decide +kernel)) (by decide +kernel)⟩
theorem okX9_readWind : okV mX9_readWind 0 := ⟨⟨lw_gd (List.mem_of_getElem? (i := 994) (by decide +kernel)) (by decide +kernel), lw_gd (List.mem_of_getElem? (i := 71) (by decide +kernel)) (by decide +kernel), ⟨by decide +kernel, by decide +kernel, by decide +kernel⟩, by decide⟩, lw_gd (List.mem_of_getElem? (i := 993) (by decide +kernel)) (by decide +kernel), lw_gd (List.mem_of_getElem? (i := 23) (by decide +kernel)) (by decide +kernel)⟩
theorem okX9_readDesk : okV mX9_readDesk 0 := ⟨⟨lw_gd (List.mem_of_getElem? (i := 1024) (by decide +kernel)) (by decide +kernel), lw_gd (List.mem_of_getElem? (i := 71) (by decide +kernel)) (by decide +kernel), ⟨by decide +kernel, by decide +kernel, by decide +kernel⟩, by decide⟩, lw_gd (List.mem_of_getElem? (i := 1023) (by decide +kernel)) (by decide +kernel), lw_gd (List.mem_of_getElem? (i := 30) (by decide +kernel)) (by decide +kernel)⟩
theorem okX9_readSheet : okV mX9_readSheet 0 := ⟨⟨lw_gd (List.mem_of_getElem? (i := 1033) (by decide +kernel)) (by decide +kernel), lw_gd (List.mem_of_getElem? (i := 71) (by decide +kernel)) (by decide +kernel), ⟨by decide +kernel, by decide +kernel, by decide +kernel⟩, by decide⟩, lw_gd (List.mem_of_getElem? (i := 1032) (by decide +kernel)) (by decide +kernel), lw_gd (List.mem_of_getElem? (i := 32) (by decide +kernel)) (by decide +kernel)⟩
theorem okX9_office : okV mX9_office 0 := ⟨⟨lw_gd (List.mem_of_getElem? (i := 971) (by decide +kernel)) (by decide +kernel), lw_gd (List.mem_of_getElem? (i := 71) (by decide +kernel)) (by decide +kernel), ⟨by decide +kernel, by decide +kernel, by decide +kernel⟩, by decide⟩, lw_gd (List.mem_of_getElem? (i := 969) (by decide +kernel)) (by decide +kernel), lw_gd (List.mem_of_getElem? (i := 970) (by decide +kernel)) (by decide +kernel)⟩
theorem okX9_fault : okV mX9_fault 0 := ⟨⟨lw_gd (List.mem_of_getElem? (i := 1046) (by decide +kernel)) (by decide +kernel), lw_gd (List.mem_of_getElem? (i := 71) (by decide +kernel)) (by decide +kernel), ⟨by decide +kernel, by decide +kernel, by decide +kernel⟩, by decide⟩, lw_gd (List.mem_of_getElem? (i := 1044) (by decide +kernel)) (by decide +kernel), lw_gd (List.mem_of_getElem? (i := 1045) (by decide +kernel)) (by decide +kernel)⟩
theorem okX9_isDesk : okV mX9_isDesk 1 := ⟨⟨lw_gd (List.mem_of_getElem? (i := 1095) (by decide +kernel)) (by decide +kernel), lw_gd (List.mem_of_getElem? (i := 71) (by decide +kernel)) (by decide +kernel), ⟨by decide +kernel, by decide +kernel, by decide +kernel⟩, by decide⟩, lw_gd (List.mem_of_getElem? (i := 1094) (by decide +kernel)) (by decide +kernel), lw_gd (List.mem_of_getElem? (i := 42) (by decide +kernel)) (by decide +kernel)⟩
theorem okX9_isSheet : okV mX9_isSheet 1 := ⟨⟨lw_gd (List.mem_of_getElem? (i := 1054) (by decide +kernel)) (by decide +kernel), lw_gd (List.mem_of_getElem? (i := 71) (by decide +kernel)) (by decide +kernel), ⟨by decide +kernel, by decide +kernel, by decide +kernel⟩, by decide⟩, lw_gd (List.mem_of_getElem? (i := 1053) (by decide +kernel)) (by decide +kernel), lw_gd (List.mem_of_getElem? (i := 33) (by decide +kernel)) (by decide +kernel)⟩
theorem okX9_of : okV mX9_of 2 := ⟨⟨lw_gd (List.mem_of_getElem? (i := 1087) (by decide +kernel)) (by decide +kernel), lw_gd (List.mem_of_getElem? (i := 71) (by decide +kernel)) (by decide +kernel), ⟨by decide +kernel, by decide +kernel, by decide +kernel⟩, by decide⟩, lw_gd (List.mem_of_getElem? (i := 1086) (by decide +kernel)) (by decide +kernel), lw_gd (List.mem_of_getElem? (i := 41) (by decide +kernel)) (by decide +kernel)⟩
theorem okX9_manyOn : okV mX9_manyOn 1 := ⟨⟨lw_gd (List.mem_of_getElem? (i := 1062) (by decide +kernel)) (by decide +kernel), lw_gd (List.mem_of_getElem? (i := 71) (by decide +kernel)) (by decide +kernel), ⟨by decide +kernel, by decide +kernel, by decide +kernel⟩, by decide⟩, lw_gd (List.mem_of_getElem? (i := 1061) (by decide +kernel)) (by decide +kernel), lw_gd (List.mem_of_getElem? (i := 35) (by decide +kernel)) (by decide +kernel)⟩
theorem okX9_lies : okV mX9_lies 2 := ⟨⟨lw_gd (List.mem_of_getElem? (i := 1066) (by decide +kernel)) (by decide +kernel), lw_gd (List.mem_of_getElem? (i := 71) (by decide +kernel)) (by decide +kernel), ⟨by decide +kernel, by decide +kernel, by decide +kernel⟩, by decide⟩, lw_gd (List.mem_of_getElem? (i := 1065) (by decide +kernel)) (by decide +kernel), lw_gd (List.mem_of_getElem? (i := 36) (by decide +kernel)) (by decide +kernel)⟩
theorem okX9_deskOf : okV mX9_deskOf 1 := ⟨⟨lw_gd (List.mem_of_getElem? (i := 1058) (by decide +kernel)) (by decide +kernel), lw_gd (List.mem_of_getElem? (i := 71) (by decide +kernel)) (by decide +kernel), ⟨by decide +kernel, by decide +kernel, by decide +kernel⟩, by decide⟩, lw_gd (List.mem_of_getElem? (i := 1057) (by decide +kernel)) (by decide +kernel), lw_gd (List.mem_of_getElem? (i := 34) (by decide +kernel)) (by decide +kernel)⟩
theorem okX9_placeOf : okV mX9_placeOf 2 := ⟨⟨lw_gd (List.mem_of_getElem? (i := 1075) (by decide +kernel)) (by decide +kernel), lw_gd (List.mem_of_getElem? (i := 71) (by decide +kernel)) (by decide +kernel), ⟨by decide +kernel, by decide +kernel, by decide +kernel⟩, by decide⟩, lw_gd (List.mem_of_getElem? (i := 1074) (by decide +kernel)) (by decide +kernel), lw_gd (List.mem_of_getElem? (i := 38) (by decide +kernel)) (by decide +kernel)⟩
theorem okX9_hasRoom : okV mX9_hasRoom 1 := ⟨⟨lw_gd (List.mem_of_getElem? (i := 1099) (by decide +kernel)) (by decide +kernel), lw_gd (List.mem_of_getElem? (i := 71) (by decide +kernel)) (by decide +kernel), ⟨by decide +kernel, by decide +kernel, by decide +kernel⟩, by decide⟩, lw_gd (List.mem_of_getElem? (i := 1098) (by decide +kernel)) (by decide +kernel), lw_gd (List.mem_of_getElem? (i := 43) (by decide +kernel)) (by decide +kernel)⟩
theorem okX9_leaves : okV mX9_leaves 2 := ⟨⟨lw_gd (List.mem_of_getElem? (i := 1079) (by decide +kernel)) (by decide +kernel), lw_gd (List.mem_of_getElem? (i := 71) (by decide +kernel)) (by decide +kernel), ⟨by decide +kernel, by decide +kernel, by decide +kernel⟩, by decide⟩, lw_gd (List.mem_of_getElem? (i := 1078) (by decide +kernel)) (by decide +kernel), lw_gd (List.mem_of_getElem? (i := 39) (by decide +kernel)) (by decide +kernel)⟩
theorem okX9_comes : okV mX9_comes 2 := ⟨⟨lw_gd (List.mem_of_getElem? (i := 1083) (by decide +kernel)) (by decide +kernel), lw_gd (List.mem_of_getElem? (i := 71) (by decide +kernel)) (by decide +kernel), ⟨by decide +kernel, by decide +kernel, by decide +kernel⟩, by decide⟩, lw_gd (List.mem_of_getElem? (i := 1082) (by decide +kernel)) (by decide +kernel), lw_gd (List.mem_of_getElem? (i := 40) (by decide +kernel)) (by decide +kernel)⟩
theorem okX9_keep : okV mX9_keep 0 := ⟨⟨lw_gd (List.mem_of_getElem? (i := 1071) (by decide +kernel)) (by decide +kernel), lw_gd (List.mem_of_getElem? (i := 71) (by decide +kernel)) (by decide +kernel), ⟨by decide +kernel, by decide +kernel, by decide +kernel⟩, by decide⟩, lw_gd (List.mem_of_getElem? (i := 1070) (by decide +kernel)) (by decide +kernel), lw_gd (List.mem_of_getElem? (i := 37) (by decide +kernel)) (by decide +kernel)⟩
theorem okX9_lift : okV mX9_lift 1 := ⟨⟨lw_gd (List.mem_of_getElem? (i := 1050) (by decide +kernel)) (by decide +kernel), lw_gd (List.mem_of_getElem? (i := 71) (by decide +kernel)) (by decide +kernel), ⟨by decide +kernel, by decide +kernel, by decide +kernel⟩, by decide⟩, lw_gd (List.mem_of_getElem? (i := 1048) (by decide +kernel)) (by decide +kernel), lw_gd (List.mem_of_getElem? (i := 1049) (by decide +kernel)) (by decide +kernel)⟩
theorem okX9_lay : okV mX9_lay 2 := ⟨⟨lw_gd (List.mem_of_getElem? (i := 1091) (by decide +kernel)) (by decide +kernel), lw_gd (List.mem_of_getElem? (i := 71) (by decide +kernel)) (by decide +kernel), ⟨by decide +kernel, by decide +kernel, by decide +kernel⟩, by decide⟩, lw_gd (List.mem_of_getElem? (i := 1089) (by decide +kernel)) (by decide +kernel), lw_gd (List.mem_of_getElem? (i := 1090) (by decide +kernel)) (by decide +kernel)⟩
theorem okX9_blank : okV mX9_blank 1 := ⟨⟨lw_gd (List.mem_of_getElem? (i := 1103) (by decide +kernel)) (by decide +kernel), lw_gd (List.mem_of_getElem? (i := 71) (by decide +kernel)) (by decide +kernel), ⟨by decide +kernel, by decide +kernel, by decide +kernel⟩, by decide⟩, lw_gd (List.mem_of_getElem? (i := 1101) (by decide +kernel)) (by decide +kernel), lw_gd (List.mem_of_getElem? (i := 1102) (by decide +kernel)) (by decide +kernel)⟩
theorem okX9_layLeft : okV mX9_layLeft 0 := ⟨⟨lw_gd (List.mem_of_getElem? (i := 1115) (by decide +kernel)) (by decide +kernel), lw_gd (List.mem_of_getElem? (i := 71) (by decide +kernel)) (by decide +kernel), ⟨by decide +kernel, by decide +kernel, by decide +kernel⟩, by decide⟩, lw_gd (List.mem_of_getElem? (i := 1114) (by decide +kernel)) (by decide +kernel), lw_gd (List.mem_of_getElem? (i := 44) (by decide +kernel)) (by decide +kernel)⟩
theorem okX9_topOf : okV mX9_topOf 1 := ⟨⟨lw_gd (List.mem_of_getElem? (i := 1123) (by decide +kernel)) (by decide +kernel), lw_gd (List.mem_of_getElem? (i := 71) (by decide +kernel)) (by decide +kernel), ⟨by decide +kernel, by decide +kernel, by decide +kernel⟩, by decide⟩, lw_gd (List.mem_of_getElem? (i := 1122) (by decide +kernel)) (by decide +kernel), lw_gd (List.mem_of_getElem? (i := 46) (by decide +kernel)) (by decide +kernel)⟩
theorem okX9_gust : okV mX9_gust 0 := ⟨⟨lw_gd (List.mem_of_getElem? (i := 1119) (by decide +kernel)) (by decide +kernel), lw_gd (List.mem_of_getElem? (i := 71) (by decide +kernel)) (by decide +kernel), ⟨by decide +kernel, by decide +kernel, by decide +kernel⟩, by decide⟩, lw_gd (List.mem_of_getElem? (i := 1118) (by decide +kernel)) (by decide +kernel), lw_gd (List.mem_of_getElem? (i := 45) (by decide +kernel)) (by decide +kernel)⟩
theorem okX9_quarter : okV mX9_quarter 1 := ⟨⟨lw_gd (List.mem_of_getElem? (i := 1107) (by decide +kernel)) (by decide +kernel), lw_gd (List.mem_of_getElem? (i := 71) (by decide +kernel)) (by decide +kernel), ⟨by decide +kernel, by decide +kernel, by decide +kernel⟩, by decide⟩, lw_gd (List.mem_of_getElem? (i := 1105) (by decide +kernel)) (by decide +kernel), lw_gd (List.mem_of_getElem? (i := 1106) (by decide +kernel)) (by decide +kernel)⟩
theorem okX9_undo : okV mX9_undo 0 := ⟨⟨lw_gd (List.mem_of_getElem? (i := 1127) (by decide +kernel)) (by decide +kernel), lw_gd (List.mem_of_getElem? (i := 71) (by decide +kernel)) (by decide +kernel), ⟨by decide +kernel, by decide +kernel, by decide +kernel⟩, by decide⟩, lw_gd (List.mem_of_getElem? (i := 1125) (by decide +kernel)) (by decide +kernel), lw_gd (List.mem_of_getElem? (i := 1126) (by decide +kernel)) (by decide +kernel)⟩
theorem okX9_isMissed : okV mX9_isMissed 1 := ⟨⟨lw_gd (List.mem_of_getElem? (i := 1136) (by decide +kernel)) (by decide +kernel), lw_gd (List.mem_of_getElem? (i := 71) (by decide +kernel)) (by decide +kernel), ⟨by decide +kernel, by decide +kernel, by decide +kernel⟩, by decide⟩, lw_gd (List.mem_of_getElem? (i := 1135) (by decide +kernel)) (by decide +kernel), lw_gd (List.mem_of_getElem? (i := 47) (by decide +kernel)) (by decide +kernel)⟩
theorem okX9_sheet : okV mX9_sheet 2 := ⟨⟨lw_gd (List.mem_of_getElem? (i := 1131) (by decide +kernel)) (by decide +kernel), lw_gd (List.mem_of_getElem? (i := 71) (by decide +kernel)) (by decide +kernel), ⟨by decide +kernel, by decide +kernel, by decide +kernel⟩, by decide⟩, lw_gd (List.mem_of_getElem? (i := 1129) (by decide +kernel)) (by decide +kernel), lw_gd (List.mem_of_getElem? (i := 1130) (by decide +kernel)) (by decide +kernel)⟩
theorem okX9_desk : okV mX9_desk 2 := ⟨⟨lw_gd (List.mem_of_getElem? (i := 1140) (by decide +kernel)) (by decide +kernel), lw_gd (List.mem_of_getElem? (i := 71) (by decide +kernel)) (by decide +kernel), ⟨by decide +kernel, by decide +kernel, by decide +kernel⟩, by decide⟩, lw_gd (List.mem_of_getElem? (i := 1138) (by decide +kernel)) (by decide +kernel), lw_gd (List.mem_of_getElem? (i := 1139) (by decide +kernel)) (by decide +kernel)⟩
theorem okX9_worthOf : okV mX9_worthOf 1 := ⟨⟨lw_gd (List.mem_of_getElem? (i := 1153) (by decide +kernel)) (by decide +kernel), lw_gd (List.mem_of_getElem? (i := 71) (by decide +kernel)) (by decide +kernel), ⟨by decide +kernel, by decide +kernel, by decide +kernel⟩, by decide⟩, lw_gd (List.mem_of_getElem? (i := 1152) (by decide +kernel)) (by decide +kernel), lw_gd (List.mem_of_getElem? (i := 49) (by decide +kernel)) (by decide +kernel)⟩
theorem okX9_takenBy : okV mX9_takenBy 1 := ⟨⟨lw_gd (List.mem_of_getElem? (i := 1149) (by decide +kernel)) (by decide +kernel), lw_gd (List.mem_of_getElem? (i := 71) (by decide +kernel)) (by decide +kernel), ⟨by decide +kernel, by decide +kernel, by decide +kernel⟩, by decide⟩, lw_gd (List.mem_of_getElem? (i := 1148) (by decide +kernel)) (by decide +kernel), lw_gd (List.mem_of_getElem? (i := 48) (by decide +kernel)) (by decide +kernel)⟩
theorem okX9_taken : okV mX9_taken 2 := ⟨⟨lw_gd (List.mem_of_getElem? (i := 1144) (by decide +kernel)) (by decide +kernel), lw_gd (List.mem_of_getElem? (i := 71) (by decide +kernel)) (by decide +kernel), ⟨by decide +kernel, by decide +kernel, by decide +kernel⟩, by decide⟩, lw_gd (List.mem_of_getElem? (i := 1142) (by decide +kernel)) (by decide +kernel), lw_gd (List.mem_of_getElem? (i := 1143) (by decide +kernel)) (by decide +kernel)⟩
theorem okX9_mean : okV mX9_mean 2 := ⟨⟨lw_gd (List.mem_of_getElem? (i := 1157) (by decide +kernel)) (by decide +kernel), lw_gd (List.mem_of_getElem? (i := 71) (by decide +kernel)) (by decide +kernel), ⟨by decide +kernel, by decide +kernel, by decide +kernel⟩, by decide⟩, lw_gd (List.mem_of_getElem? (i := 1155) (by decide +kernel)) (by decide +kernel), lw_gd (List.mem_of_getElem? (i := 1156) (by decide +kernel)) (by decide +kernel)⟩
theorem okX9_lostBy : okV mX9_lostBy 3 := ⟨⟨lw_gd (List.mem_of_getElem? (i := 1170) (by decide +kernel)) (by decide +kernel), lw_gd (List.mem_of_getElem? (i := 71) (by decide +kernel)) (by decide +kernel), ⟨by decide +kernel, by decide +kernel, by decide +kernel⟩, by decide⟩, lw_gd (List.mem_of_getElem? (i := 1169) (by decide +kernel)) (by decide +kernel), lw_gd (List.mem_of_getElem? (i := 51) (by decide +kernel)) (by decide +kernel)⟩
theorem okX9_nextOrder : okV mX9_nextOrder 1 := ⟨⟨lw_gd (List.mem_of_getElem? (i := 1174) (by decide +kernel)) (by decide +kernel), lw_gd (List.mem_of_getElem? (i := 71) (by decide +kernel)) (by decide +kernel), ⟨by decide +kernel, by decide +kernel, by decide +kernel⟩, by decide⟩, lw_gd (List.mem_of_getElem? (i := 1173) (by decide +kernel)) (by decide +kernel), lw_gd (List.mem_of_getElem? (i := 52) (by decide +kernel)) (by decide +kernel)⟩
theorem okX9_layFirst : okV mX9_layFirst 1 := ⟨⟨lw_gd (List.mem_of_getElem? (i := 1166) (by decide +kernel)) (by decide +kernel), lw_gd (List.mem_of_getElem? (i := 71) (by decide +kernel)) (by decide +kernel), ⟨by decide +kernel, by decide +kernel, by decide +kernel⟩, by decide⟩, lw_gd (List.mem_of_getElem? (i := 1165) (by decide +kernel)) (by decide +kernel), lw_gd (List.mem_of_getElem? (i := 50) (by decide +kernel)) (by decide +kernel)⟩
theorem okX9_order : okV mX9_order 3 := ⟨⟨lw_gd (List.mem_of_getElem? (i := 1162) (by decide +kernel)) (by decide +kernel), lw_gd (List.mem_of_getElem? (i := 71) (by decide +kernel)) (by decide +kernel), ⟨by decide +kernel, by decide +kernel, by decide +kernel⟩, by decide⟩, lw_gd (List.mem_of_getElem? (i := 1160) (by decide +kernel)) (by decide +kernel), lw_gd (List.mem_of_getElem? (i := 1161) (by decide +kernel)) (by decide +kernel)⟩
theorem okX9_isCovered : okV mX9_isCovered 3 := ⟨⟨lw_gd (List.mem_of_getElem? (i := 1182) (by decide +kernel)) (by decide +kernel), lw_gd (List.mem_of_getElem? (i := 71) (by decide +kernel)) (by decide +kernel), ⟨by decide +kernel, by decide +kernel, by decide +kernel⟩, by decide⟩, lw_gd (List.mem_of_getElem? (i := 1181) (by decide +kernel)) (by decide +kernel), lw_gd (List.mem_of_getElem? (i := 53) (by decide +kernel)) (by decide +kernel)⟩
theorem okX9_cover : okV mX9_cover 2 := ⟨⟨lw_gd (List.mem_of_getElem? (i := 1178) (by decide +kernel)) (by decide +kernel), lw_gd (List.mem_of_getElem? (i := 71) (by decide +kernel)) (by decide +kernel), ⟨by decide +kernel, by decide +kernel, by decide +kernel⟩, by decide⟩, lw_gd (List.mem_of_getElem? (i := 1176) (by decide +kernel)) (by decide +kernel), lw_gd (List.mem_of_getElem? (i := 1177) (by decide +kernel)) (by decide +kernel)⟩
theorem okX9_leastOn : okV mX9_leastOn 1 := ⟨⟨lw_gd (List.mem_of_getElem? (i := 1194) (by decide +kernel)) (by decide +kernel), lw_gd (List.mem_of_getElem? (i := 71) (by decide +kernel)) (by decide +kernel), ⟨by decide +kernel, by decide +kernel, by decide +kernel⟩, by decide⟩, lw_gd (List.mem_of_getElem? (i := 1193) (by decide +kernel)) (by decide +kernel), lw_gd (List.mem_of_getElem? (i := 55) (by decide +kernel)) (by decide +kernel)⟩
theorem okX9_lostOn : okV mX9_lostOn 2 := ⟨⟨lw_gd (List.mem_of_getElem? (i := 1190) (by decide +kernel)) (by decide +kernel), lw_gd (List.mem_of_getElem? (i := 71) (by decide +kernel)) (by decide +kernel), ⟨by decide +kernel, by decide +kernel, by decide +kernel⟩, by decide⟩, lw_gd (List.mem_of_getElem? (i := 1189) (by decide +kernel)) (by decide +kernel), lw_gd (List.mem_of_getElem? (i := 54) (by decide +kernel)) (by decide +kernel)⟩
theorem okX9_lend : okV mX9_lend 2 := ⟨⟨lw_gd (List.mem_of_getElem? (i := 1186) (by decide +kernel)) (by decide +kernel), lw_gd (List.mem_of_getElem? (i := 71) (by decide +kernel)) (by decide +kernel), ⟨by decide +kernel, by decide +kernel, by decide +kernel⟩, by decide⟩, lw_gd (List.mem_of_getElem? (i := 1184) (by decide +kernel)) (by decide +kernel), lw_gd (List.mem_of_getElem? (i := 1185) (by decide +kernel)) (by decide +kernel)⟩
theorem okX9_beach : okV mX9_beach 4 := ⟨⟨lw_gd (List.mem_of_getElem? (i := 1198) (by decide +kernel)) (by decide +kernel), lw_gd (List.mem_of_getElem? (i := 71) (by decide +kernel)) (by decide +kernel), ⟨by decide +kernel, by decide +kernel, by decide +kernel⟩, by decide⟩, lw_gd (List.mem_of_getElem? (i := 1196) (by decide +kernel)) (by decide +kernel), lw_gd (List.mem_of_getElem? (i := 1197) (by decide +kernel)) (by decide +kernel)⟩
theorem okX9_window : okV mX9_window 0 := ⟨⟨lw_gd (List.mem_of_getElem? (i := 1203) (by decide +kernel)) (by decide +kernel), lw_gd (List.mem_of_getElem? (i := 71) (by decide +kernel)) (by decide +kernel), ⟨by decide +kernel, by decide +kernel, by decide +kernel⟩, by decide⟩, lw_gd (List.mem_of_getElem? (i := 1201) (by decide +kernel)) (by decide +kernel), lw_gd (List.mem_of_getElem? (i := 1202) (by decide +kernel)) (by decide +kernel)⟩
theorem okX9_missed : okV mX9_missed 1 := ⟨⟨lw_gd (List.mem_of_getElem? (i := 1207) (by decide +kernel)) (by decide +kernel), lw_gd (List.mem_of_getElem? (i := 71) (by decide +kernel)) (by decide +kernel), ⟨by decide +kernel, by decide +kernel, by decide +kernel⟩, by decide⟩, lw_gd (List.mem_of_getElem? (i := 1205) (by decide +kernel)) (by decide +kernel), lw_gd (List.mem_of_getElem? (i := 1206) (by decide +kernel)) (by decide +kernel)⟩
theorem okX9_image : okV mX9_image 1 := ⟨⟨lw_gd (List.mem_of_getElem? (i := 1211) (by decide +kernel)) (by decide +kernel), lw_gd (List.mem_of_getElem? (i := 71) (by decide +kernel)) (by decide +kernel), ⟨by decide +kernel, by decide +kernel, by decide +kernel⟩, by decide⟩, lw_gd (List.mem_of_getElem? (i := 1209) (by decide +kernel)) (by decide +kernel), lw_gd (List.mem_of_getElem? (i := 1210) (by decide +kernel)) (by decide +kernel)⟩
theorem okX9_restore : okV mX9_restore 1 := ⟨⟨lw_gd (List.mem_of_getElem? (i := 1215) (by decide +kernel)) (by decide +kernel), lw_gd (List.mem_of_getElem? (i := 71) (by decide +kernel)) (by decide +kernel), ⟨by decide +kernel, by decide +kernel, by decide +kernel⟩, by decide⟩, lw_gd (List.mem_of_getElem? (i := 1213) (by decide +kernel)) (by decide +kernel), lw_gd (List.mem_of_getElem? (i := 1214) (by decide +kernel)) (by decide +kernel)⟩
theorem okX9_isOf : okS mX9_isOf 2 := ⟨⟨lw_gd (List.mem_of_getElem? (i := 1226) (by decide +kernel)) (by decide +kernel), lw_gd (List.mem_of_getElem? (i := 71) (by decide +kernel)) (by decide +kernel), ⟨by decide +kernel, by decide +kernel, by decide +kernel⟩, by decide⟩, lw_gd (List.mem_of_getElem? (i := 1225) (by decide +kernel)) (by decide +kernel)⟩
theorem okX9_kind : okV mX9_kind 1 := ⟨⟨lw_gd (List.mem_of_getElem? (i := 1219) (by decide +kernel)) (by decide +kernel), lw_gd (List.mem_of_getElem? (i := 71) (by decide +kernel)) (by decide +kernel), ⟨by decide +kernel, by decide +kernel, by decide +kernel⟩, by decide⟩, lw_gd (List.mem_of_getElem? (i := 1217) (by decide +kernel)) (by decide +kernel), lw_gd (List.mem_of_getElem? (i := 1218) (by decide +kernel)) (by decide +kernel)⟩
theorem okX9_as : okV mX9_as 2 := ⟨⟨lw_gd (List.mem_of_getElem? (i := 1223) (by decide +kernel)) (by decide +kernel), lw_gd (List.mem_of_getElem? (i := 71) (by decide +kernel)) (by decide +kernel), ⟨by decide +kernel, by decide +kernel, by decide +kernel⟩, by decide⟩, lw_gd (List.mem_of_getElem? (i := 1221) (by decide +kernel)) (by decide +kernel), lw_gd (List.mem_of_getElem? (i := 1222) (by decide +kernel)) (by decide +kernel)⟩
theorem okX9_began : okV mX9_began 1 := ⟨⟨lw_gd (List.mem_of_getElem? (i := 1242) (by decide +kernel)) (by decide +kernel), lw_gd (List.mem_of_getElem? (i := 71) (by decide +kernel)) (by decide +kernel), ⟨by decide +kernel, by decide +kernel, by decide +kernel⟩, by decide⟩, lw_gd (List.mem_of_getElem? (i := 1241) (by decide +kernel)) (by decide +kernel), lw_gd (List.mem_of_getElem? (i := 58) (by decide +kernel)) (by decide +kernel)⟩
theorem okX9_plainSize : okV mX9_plainSize 1 := ⟨⟨lw_gd (List.mem_of_getElem? (i := 1246) (by decide +kernel)) (by decide +kernel), lw_gd (List.mem_of_getElem? (i := 71) (by decide +kernel)) (by decide +kernel), ⟨by decide +kernel, by decide +kernel, by decide +kernel⟩, by decide⟩, lw_gd (List.mem_of_getElem? (i := 1245) (by decide +kernel)) (by decide +kernel), lw_gd (List.mem_of_getElem? (i := 59) (by decide +kernel)) (by decide +kernel)⟩
theorem okX9_slateSize : okV mX9_slateSize 1 := ⟨⟨lw_gd (List.mem_of_getElem? (i := 1238) (by decide +kernel)) (by decide +kernel), lw_gd (List.mem_of_getElem? (i := 71) (by decide +kernel)) (by decide +kernel), ⟨by decide +kernel, by decide +kernel, by decide +kernel⟩, by decide⟩, lw_gd (List.mem_of_getElem? (i := 1237) (by decide +kernel)) (by decide +kernel), lw_gd (List.mem_of_getElem? (i := 57) (by decide +kernel)) (by decide +kernel)⟩
theorem okX9_markOf : okV mX9_markOf 1 := ⟨⟨lw_gd (List.mem_of_getElem? (i := 1250) (by decide +kernel)) (by decide +kernel), lw_gd (List.mem_of_getElem? (i := 71) (by decide +kernel)) (by decide +kernel), ⟨by decide +kernel, by decide +kernel, by decide +kernel⟩, by decide⟩, lw_gd (List.mem_of_getElem? (i := 1249) (by decide +kernel)) (by decide +kernel), lw_gd (List.mem_of_getElem? (i := 60) (by decide +kernel)) (by decide +kernel)⟩
theorem okX9_sizeOf : okV mX9_sizeOf 1 := ⟨⟨lw_gd (List.mem_of_getElem? (i := 1234) (by decide +kernel)) (by decide +kernel), lw_gd (List.mem_of_getElem? (i := 71) (by decide +kernel)) (by decide +kernel), ⟨by decide +kernel, by decide +kernel, by decide +kernel⟩, by decide⟩, lw_gd (List.mem_of_getElem? (i := 1233) (by decide +kernel)) (by decide +kernel), lw_gd (List.mem_of_getElem? (i := 56) (by decide +kernel)) (by decide +kernel)⟩
theorem okX9_ask : okV mX9_ask 2 := ⟨⟨lw_gd (List.mem_of_getElem? (i := 1230) (by decide +kernel)) (by decide +kernel), lw_gd (List.mem_of_getElem? (i := 71) (by decide +kernel)) (by decide +kernel), ⟨by decide +kernel, by decide +kernel, by decide +kernel⟩, by decide⟩, lw_gd (List.mem_of_getElem? (i := 1228) (by decide +kernel)) (by decide +kernel), lw_gd (List.mem_of_getElem? (i := 1229) (by decide +kernel)) (by decide +kernel)⟩
theorem okX9_trace : okV mX9_trace 1 := ⟨⟨lw_gd (List.mem_of_getElem? (i := 1254) (by decide +kernel)) (by decide +kernel), lw_gd (List.mem_of_getElem? (i := 71) (by decide +kernel)) (by decide +kernel), ⟨by decide +kernel, by decide +kernel, by decide +kernel⟩, by decide⟩, lw_gd (List.mem_of_getElem? (i := 1252) (by decide +kernel)) (by decide +kernel), lw_gd (List.mem_of_getElem? (i := 1253) (by decide +kernel)) (by decide +kernel)⟩
theorem okX9_count : okV mX9_count 1 := ⟨⟨lw_gd (List.mem_of_getElem? (i := 1258) (by decide +kernel)) (by decide +kernel), lw_gd (List.mem_of_getElem? (i := 71) (by decide +kernel)) (by decide +kernel), ⟨by decide +kernel, by decide +kernel, by decide +kernel⟩, by decide⟩, lw_gd (List.mem_of_getElem? (i := 1256) (by decide +kernel)) (by decide +kernel), lw_gd (List.mem_of_getElem? (i := 1257) (by decide +kernel)) (by decide +kernel)⟩
theorem okX9_status : okV mX9_status 0 := ⟨⟨lw_gd (List.mem_of_getElem? (i := 1262) (by decide +kernel)) (by decide +kernel), lw_gd (List.mem_of_getElem? (i := 71) (by decide +kernel)) (by decide +kernel), ⟨by decide +kernel, by decide +kernel, by decide +kernel⟩, by decide⟩, lw_gd (List.mem_of_getElem? (i := 1260) (by decide +kernel)) (by decide +kernel), lw_gd (List.mem_of_getElem? (i := 1261) (by decide +kernel)) (by decide +kernel)⟩
theorem ckX0 : ckX 0 RX0 3 TX0 tyX0 := ⟨rfl, fun w h => List.mem_filter.mpr ⟨(by decide +kernel : ∀ w ∈ wsX00, w ∈ lw_tbl) w h, (by decide +kernel : ∀ w ∈ wsX00, goodWord w = true) w h⟩, tyX0_ok, nmX0⟩
theorem ckX1 : ckX 1 RX1 2 TX1 tyX1 := ⟨rfl, fun w h => List.mem_filter.mpr ⟨(by decide +kernel : ∀ w ∈ wsX10, w ∈ lw_tbl) w h, (by decide +kernel : ∀ w ∈ wsX10, goodWord w = true) w h⟩, tyX1_ok, nmX1⟩
theorem ckX2 : ckX 2 RX2 3 TX2 tyX2 := ⟨rfl, fun w h => List.mem_filter.mpr ⟨(by decide +kernel : ∀ w ∈ wsX20, w ∈ lw_tbl) w h, (by decide +kernel : ∀ w ∈ wsX20, goodWord w = true) w h⟩, tyX2_ok, nmX2⟩
theorem ckX3 : ckX 3 RX3 12 TX3 tyX3 := ⟨rfl, fun w h => List.mem_filter.mpr ⟨(by decide +kernel : ∀ w ∈ wsX30, w ∈ lw_tbl) w h, (by decide +kernel : ∀ w ∈ wsX30, goodWord w = true) w h⟩, tyX3_ok, nmX3⟩
theorem ckX4 : ckX 4 RX4 8 TX4 tyX4 := ⟨rfl, fun w h => List.mem_filter.mpr ⟨(by decide +kernel : ∀ w ∈ wsX40, w ∈ lw_tbl) w h, (by decide +kernel : ∀ w ∈ wsX40, goodWord w = true) w h⟩, tyX4_ok, nmX4⟩
theorem ckX5 : ckX 5 RX5 3 TX5 tyX5 := ⟨rfl, fun w h => List.mem_filter.mpr ⟨(by decide +kernel : ∀ w ∈ wsX50, w ∈ lw_tbl) w h, (by decide +kernel : ∀ w ∈ wsX50, goodWord w = true) w h⟩, tyX5_ok, nmX5⟩
theorem ckX6 : ckX 6 RX6 2 TX6 tyX6 := ⟨rfl, fun w h => List.mem_filter.mpr ⟨(by decide +kernel : ∀ w ∈ wsX60, w ∈ lw_tbl) w h, (by decide +kernel : ∀ w ∈ wsX60, goodWord w = true) w h⟩, tyX6_ok, nmX6⟩
theorem ckX7 : ckX 7 RX7 2 TX7 tyX7 := ⟨rfl, fun w h => List.mem_filter.mpr ⟨(by decide +kernel : ∀ w ∈ wsX70, w ∈ lw_tbl) w h, (by decide +kernel : ∀ w ∈ wsX70, goodWord w = true) w h⟩, tyX7_ok, nmX7⟩
theorem ckX8 : ckX 8 RX8 10 TX8 tyX8 := ⟨rfl, fun w h => List.mem_filter.mpr ⟨(by decide +kernel : ∀ w ∈ wsX80, w ∈ lw_tbl) w h, (by decide +kernel : ∀ w ∈ wsX80, goodWord w = true) w h⟩, tyX8_ok, nmX8⟩
theorem ckX9 : ckX 9 RX9 28 TX9 tyX9 := ⟨rfl, fun w h => List.mem_filter.mpr ⟨(by decide +kernel : ∀ w ∈ wsX90, w ∈ lw_tbl) w h, (by decide +kernel : ∀ w ∈ wsX90, goodWord w = true) w h⟩, tyX9_ok, nmX9⟩
theorem kf_X0_11 : Cond.fieldLink RX0 11 (TX0 0).1 (TX0 0).2.1 (TX0 0).2.2.1 ∈ lw_good := lw_gd (List.mem_of_getElem? (i := 218) (by decide +kernel)) (by decide +kernel)
theorem kf_X0_17 : Cond.fieldLink RX0 17 (TX0 1).1 (TX0 1).2.1 (TX0 1).2.2.1 ∈ lw_good := lw_gd (List.mem_of_getElem? (i := 219) (by decide +kernel)) (by decide +kernel)
theorem kf_X0_21 : Cond.fieldLink RX0 21 (TX0 2).1 (TX0 2).2.1 (TX0 2).2.2.1 ∈ lw_good := lw_gd (List.mem_of_getElem? (i := 220) (by decide +kernel)) (by decide +kernel)
theorem km_X0_25 : Cond.methodLink RX0 25 yX3_takeOver ∈ lw_good := lw_gd (List.mem_of_getElem? (i := 577) (by decide +kernel)) (by decide +kernel)
theorem kf_X1_9 : Cond.fieldLink RX1 9 (TX1 0).1 (TX1 0).2.1 (TX1 0).2.2.1 ∈ lw_good := lw_gd (List.mem_of_getElem? (i := 269) (by decide +kernel)) (by decide +kernel)
theorem kf_X1_13 : Cond.fieldLink RX1 13 (TX1 1).1 (TX1 1).2.1 (TX1 1).2.2.1 ∈ lw_good := lw_gd (List.mem_of_getElem? (i := 271) (by decide +kernel)) (by decide +kernel)
theorem km_X1_17 : Cond.methodLink RX1 17 yX1_isKind ∈ lw_good := lw_gd (List.mem_of_getElem? (i := 798) (by decide +kernel)) (by decide +kernel)
theorem km_X1_24 : Cond.methodLink RX1 24 yX1_bodyFor ∈ lw_good := lw_gd (List.mem_of_getElem? (i := 809) (by decide +kernel)) (by decide +kernel)
theorem km_X1_28 : Cond.methodLink RX1 28 yX1_gives ∈ lw_good := lw_gd (List.mem_of_getElem? (i := 816) (by decide +kernel)) (by decide +kernel)
theorem kf_X1_32 : Cond.fieldLinkNest RX1 32 (TX3 5).1 (TX3 5).2.1 (TX3 5).2.2.1 "TopSheet" ∈ lw_nest := List.mem_filter.mpr ⟨List.mem_of_getElem? (i := 132) (by decide +kernel), rfl⟩
theorem km_X1_43 : Cond.methodLink RX1 43 yX1_leave ∈ lw_good := lw_gd (List.mem_of_getElem? (i := 819) (by decide +kernel)) (by decide +kernel)
theorem kf_X1_47 : Cond.fieldLinkNest RX1 47 (TX3 6).1 (TX3 6).2.1 (TX3 6).2.2.1 "TopSheet" ∈ lw_nest := List.mem_filter.mpr ⟨List.mem_of_getElem? (i := 136) (by decide +kernel), rfl⟩
theorem kf_X1_50 : Cond.fieldLinkNest RX1 50 (TX3 7).1 (TX3 7).2.1 (TX3 7).2.2.1 "TopSheet" ∈ lw_nest := List.mem_filter.mpr ⟨List.mem_of_getElem? (i := 139) (by decide +kernel), rfl⟩
theorem kf_X2_9 : Cond.fieldLink RX2 9 (TX2 0).1 (TX2 0).2.1 (TX2 0).2.2.1 ∈ lw_good := lw_gd (List.mem_of_getElem? (i := 235) (by decide +kernel)) (by decide +kernel)
theorem kf_X2_15 : Cond.fieldLink RX2 15 (TX2 1).1 (TX2 1).2.1 (TX2 1).2.2.1 ∈ lw_good := lw_gd (List.mem_of_getElem? (i := 236) (by decide +kernel)) (by decide +kernel)
theorem kf_X2_19 : Cond.fieldLink RX2 19 (TX2 2).1 (TX2 2).2.1 (TX2 2).2.2.1 ∈ lw_good := lw_gd (List.mem_of_getElem? (i := 238) (by decide +kernel)) (by decide +kernel)
theorem km_X2_22 : Cond.methodLink RX2 22 yX2_weigh ∈ lw_good := lw_gd (List.mem_of_getElem? (i := 682) (by decide +kernel)) (by decide +kernel)
theorem km_X2_26 : Cond.methodLink RX2 26 yX3_takenBy ∈ lw_good := lw_gd (List.mem_of_getElem? (i := 686) (by decide +kernel)) (by decide +kernel)
theorem km_X2_32 : Cond.methodLink RX2 32 yX3_worthOf ∈ lw_good := lw_gd (List.mem_of_getElem? (i := 687) (by decide +kernel)) (by decide +kernel)
theorem kc_X2_35 : Cond.constantLong RX2 35 (iL (100)) ∈ lw_good := lw_gd (List.mem_of_getElem? (i := 688) (by decide +kernel)) (by decide +kernel)
theorem km_X2_37 : Cond.methodLink RX2 37 yX2_commonDivisor ∈ lw_good := lw_gd (List.mem_of_getElem? (i := 689) (by decide +kernel)) (by decide +kernel)
theorem kf_X2_41 : Cond.fieldLinkNest RX2 41 (TX3 0).1 (TX3 0).2.1 (TX3 0).2.2.1 "TopSheet" ∈ lw_nest := List.mem_filter.mpr ⟨List.mem_of_getElem? (i := 118) (by decide +kernel), rfl⟩
theorem kf_X2_45 : Cond.fieldLinkNest RX2 45 (TX3 10).1 (TX3 10).2.1 (TX3 10).2.2.1 "TopSheet" ∈ lw_nest := List.mem_filter.mpr ⟨List.mem_of_getElem? (i := 148) (by decide +kernel), rfl⟩
theorem kf_X3_9 : Cond.fieldLink RX3 9 (TX3 0).1 (TX3 0).2.1 (TX3 0).2.2.1 ∈ lw_good := lw_gd (List.mem_of_getElem? (i := 117) (by decide +kernel)) (by decide +kernel)
theorem kf_X3_15 : Cond.fieldLink RX3 15 (TX3 1).1 (TX3 1).2.1 (TX3 1).2.2.1 ∈ lw_good := lw_gd (List.mem_of_getElem? (i := 121) (by decide +kernel)) (by decide +kernel)
theorem kf_X3_18 : Cond.fieldLink RX3 18 (TX3 2).1 (TX3 2).2.1 (TX3 2).2.2.1 ∈ lw_good := lw_gd (List.mem_of_getElem? (i := 123) (by decide +kernel)) (by decide +kernel)
theorem kf_X3_21 : Cond.fieldLink RX3 21 (TX3 3).1 (TX3 3).2.1 (TX3 3).2.2.1 ∈ lw_good := lw_gd (List.mem_of_getElem? (i := 126) (by decide +kernel)) (by decide +kernel)
theorem kf_X3_24 : Cond.fieldLink RX3 24 (TX3 4).1 (TX3 4).2.1 (TX3 4).2.2.1 ∈ lw_good := lw_gd (List.mem_of_getElem? (i := 129) (by decide +kernel)) (by decide +kernel)
theorem kf_X3_27 : Cond.fieldLink RX3 27 (TX3 5).1 (TX3 5).2.1 (TX3 5).2.2.1 ∈ lw_good := lw_gd (List.mem_of_getElem? (i := 130) (by decide +kernel)) (by decide +kernel)
theorem kf_X3_30 : Cond.fieldLink RX3 30 (TX3 6).1 (TX3 6).2.1 (TX3 6).2.2.1 ∈ lw_good := lw_gd (List.mem_of_getElem? (i := 134) (by decide +kernel)) (by decide +kernel)
theorem kf_X3_33 : Cond.fieldLink RX3 33 (TX3 7).1 (TX3 7).2.1 (TX3 7).2.2.1 ∈ lw_good := lw_gd (List.mem_of_getElem? (i := 138) (by decide +kernel)) (by decide +kernel)
theorem kf_X3_36 : Cond.fieldLink RX3 36 (TX3 8).1 (TX3 8).2.1 (TX3 8).2.2.1 ∈ lw_good := lw_gd (List.mem_of_getElem? (i := 141) (by decide +kernel)) (by decide +kernel)
theorem kf_X3_40 : Cond.fieldLink RX3 40 (TX3 9).1 (TX3 9).2.1 (TX3 9).2.2.1 ∈ lw_good := lw_gd (List.mem_of_getElem? (i := 144) (by decide +kernel)) (by decide +kernel)
theorem kf_X3_43 : Cond.fieldLink RX3 43 (TX3 10).1 (TX3 10).2.1 (TX3 10).2.2.1 ∈ lw_good := lw_gd (List.mem_of_getElem? (i := 147) (by decide +kernel)) (by decide +kernel)
theorem kf_X3_46 : Cond.fieldLink RX3 46 (TX3 11).1 (TX3 11).2.1 (TX3 11).2.2.1 ∈ lw_good := lw_gd (List.mem_of_getElem? (i := 150) (by decide +kernel)) (by decide +kernel)
theorem km_X3_55 : Cond.methodLink RX3 55 yX3_putOn ∈ lw_good := lw_gd (List.mem_of_getElem? (i := 533) (by decide +kernel)) (by decide +kernel)
theorem km_X3_59 : Cond.methodLink RX3 59 yX3_hasRoom ∈ lw_good := lw_gd (List.mem_of_getElem? (i := 537) (by decide +kernel)) (by decide +kernel)
theorem km_X3_63 : Cond.methodLink RX3 63 yX3_deskOf ∈ lw_good := lw_gd (List.mem_of_getElem? (i := 582) (by decide +kernel)) (by decide +kernel)
theorem km_X3_67 : Cond.methodLink RX3 67 yX3_above ∈ lw_good := lw_gd (List.mem_of_getElem? (i := 587) (by decide +kernel)) (by decide +kernel)
theorem km_X3_70 : Cond.methodLink RX3 70 yX3_at ∈ lw_good := lw_gd (List.mem_of_getElem? (i := 568) (by decide +kernel)) (by decide +kernel)
theorem km_X3_74 : Cond.methodLink RX3 74 yX3_setOn ∈ lw_good := lw_gd (List.mem_of_getElem? (i := 564) (by decide +kernel)) (by decide +kernel)
theorem km_X3_77 : Cond.methodLink RX3 77 yX3_isMet ∈ lw_good := lw_gd (List.mem_of_getElem? (i := 652) (by decide +kernel)) (by decide +kernel)
theorem km_X3_80 : Cond.methodLink RX3 80 yX3_isGone ∈ lw_good := lw_gd (List.mem_of_getElem? (i := 653) (by decide +kernel)) (by decide +kernel)
theorem km_X3_83 : Cond.methodLink RX3 83 yX3_isMissed ∈ lw_good := lw_gd (List.mem_of_getElem? (i := 768) (by decide +kernel)) (by decide +kernel)
theorem km_X3_91 : Cond.methodLink RX3 91 yX3_takenFrom ∈ lw_good := lw_gd (List.mem_of_getElem? (i := 620) (by decide +kernel)) (by decide +kernel)
theorem km_X3_94 : Cond.methodLink RX3 94 yX3_takenByGust ∈ lw_good := lw_gd (List.mem_of_getElem? (i := 616) (by decide +kernel)) (by decide +kernel)
theorem kf_X4_12 : Cond.fieldLink RX4 12 (TX4 0).1 (TX4 0).2.1 (TX4 0).2.2.1 ∈ lw_good := lw_gd (List.mem_of_getElem? (i := 178) (by decide +kernel)) (by decide +kernel)
theorem kf_X4_21 : Cond.fieldLink RX4 21 (TX4 1).1 (TX4 1).2.1 (TX4 1).2.2.1 ∈ lw_good := lw_gd (List.mem_of_getElem? (i := 180) (by decide +kernel)) (by decide +kernel)
theorem kf_X4_25 : Cond.fieldLink RX4 25 (TX4 2).1 (TX4 2).2.1 (TX4 2).2.2.1 ∈ lw_good := lw_gd (List.mem_of_getElem? (i := 182) (by decide +kernel)) (by decide +kernel)
theorem kf_X4_29 : Cond.fieldLink RX4 29 (TX4 3).1 (TX4 3).2.1 (TX4 3).2.2.1 ∈ lw_good := lw_gd (List.mem_of_getElem? (i := 183) (by decide +kernel)) (by decide +kernel)
theorem kf_X4_32 : Cond.fieldLink RX4 32 (TX4 4).1 (TX4 4).2.1 (TX4 4).2.2.1 ∈ lw_good := lw_gd (List.mem_of_getElem? (i := 185) (by decide +kernel)) (by decide +kernel)
theorem kf_X4_35 : Cond.fieldLink RX4 35 (TX4 5).1 (TX4 5).2.1 (TX4 5).2.2.1 ∈ lw_good := lw_gd (List.mem_of_getElem? (i := 186) (by decide +kernel)) (by decide +kernel)
theorem kf_X4_38 : Cond.fieldLink RX4 38 (TX4 6).1 (TX4 6).2.1 (TX4 6).2.2.1 ∈ lw_good := lw_gd (List.mem_of_getElem? (i := 187) (by decide +kernel)) (by decide +kernel)
theorem kf_X4_41 : Cond.fieldLink RX4 41 (TX4 7).1 (TX4 7).2.1 (TX4 7).2.2.1 ∈ lw_good := lw_gd (List.mem_of_getElem? (i := 188) (by decide +kernel)) (by decide +kernel)
theorem km_X4_44 : Cond.methodLink RX4 44 yX3_clear ∈ lw_good := lw_gd (List.mem_of_getElem? (i := 400) (by decide +kernel)) (by decide +kernel)
theorem km_X4_47 : Cond.methodLink RX4 47 yX4_step ∈ lw_good := lw_gd (List.mem_of_getElem? (i := 404) (by decide +kernel)) (by decide +kernel)
theorem km_X4_50 : Cond.methodLink RX4 50 yX4_readWind ∈ lw_good := lw_gd (List.mem_of_getElem? (i := 421) (by decide +kernel)) (by decide +kernel)
theorem km_X4_54 : Cond.methodLink RX4 54 yX4_readDesks ∈ lw_good := lw_gd (List.mem_of_getElem? (i := 490) (by decide +kernel)) (by decide +kernel)
theorem km_X4_57 : Cond.methodLink RX4 57 yX4_readSheets ∈ lw_good := lw_gd (List.mem_of_getElem? (i := 503) (by decide +kernel)) (by decide +kernel)
theorem km_X4_62 : Cond.methodLink RX4 62 yX4_isWord ∈ lw_good := lw_gd (List.mem_of_getElem? (i := 426) (by decide +kernel)) (by decide +kernel)
theorem km_X4_66 : Cond.methodLink RX4 66 yX4_fail ∈ lw_good := lw_gd (List.mem_of_getElem? (i := 478) (by decide +kernel)) (by decide +kernel)
theorem km_X4_70 : Cond.methodLink RX4 70 yX4_takeNumber ∈ lw_good := lw_gd (List.mem_of_getElem? (i := 482) (by decide +kernel)) (by decide +kernel)
theorem kf_X4_74 : Cond.fieldLinkNest RX4 74 (TX3 0).1 (TX3 0).2.1 (TX3 0).2.2.1 "TopSheet" ∈ lw_nest := List.mem_filter.mpr ⟨List.mem_of_getElem? (i := 119) (by decide +kernel), rfl⟩
theorem km_X4_77 : Cond.methodLink RX4 77 yX4_takeSemicolon ∈ lw_good := lw_gd (List.mem_of_getElem? (i := 486) (by decide +kernel)) (by decide +kernel)
theorem km_X4_82 : Cond.methodLink RX4 82 yX4_readDesk ∈ lw_good := lw_gd (List.mem_of_getElem? (i := 495) (by decide +kernel)) (by decide +kernel)
theorem km_X4_85 : Cond.methodLink RX4 85 yX3_furnish ∈ lw_good := lw_gd (List.mem_of_getElem? (i := 499) (by decide +kernel)) (by decide +kernel)
theorem km_X4_91 : Cond.methodLink RX4 91 yX4_readSheet ∈ lw_good := lw_gd (List.mem_of_getElem? (i := 508) (by decide +kernel)) (by decide +kernel)
theorem km_X4_94 : Cond.methodLink RX4 94 yX4_sortTold ∈ lw_good := lw_gd (List.mem_of_getElem? (i := 512) (by decide +kernel)) (by decide +kernel)
theorem km_X4_98 : Cond.methodLink RX4 98 yX3_hasDesk ∈ lw_good := lw_gd (List.mem_of_getElem? (i := 521) (by decide +kernel)) (by decide +kernel)
theorem km_X4_101 : Cond.methodLink RX4 101 yX3_hasRoom ∈ lw_good := lw_gd (List.mem_of_getElem? (i := 525) (by decide +kernel)) (by decide +kernel)
theorem kf_X4_104 : Cond.fieldLinkNest RX4 104 (TX3 8).1 (TX3 8).2.1 (TX3 8).2.2.1 "TopSheet" ∈ lw_nest := List.mem_filter.mpr ⟨List.mem_of_getElem? (i := 143) (by decide +kernel), rfl⟩
theorem km_X4_107 : Cond.methodLink RX4 107 yX3_bring ∈ lw_good := lw_gd (List.mem_of_getElem? (i := 529) (by decide +kernel)) (by decide +kernel)
theorem km_X4_126 : Cond.methodLink RX4 126 yX7_at ∈ lw_good := lw_gd (List.mem_of_getElem? (i := 408) (by decide +kernel)) (by decide +kernel)
theorem kf_X4_134 : Cond.fieldLinkNest RX4 134 (TX7 1).1 (TX7 1).2.1 (TX7 1).2.2.1 "TopSheet" ∈ lw_nest := List.mem_filter.mpr ⟨List.mem_of_getElem? (i := 104) (by decide +kernel), rfl⟩
theorem km_X4_136 : Cond.methodLink RX4 136 yX4_isBlank ∈ lw_good := lw_gd (List.mem_of_getElem? (i := 412) (by decide +kernel)) (by decide +kernel)
theorem km_X4_139 : Cond.methodLink RX4 139 yX4_isLetter ∈ lw_good := lw_gd (List.mem_of_getElem? (i := 415) (by decide +kernel)) (by decide +kernel)
theorem km_X4_142 : Cond.methodLink RX4 142 yX4_isFigure ∈ lw_good := lw_gd (List.mem_of_getElem? (i := 418) (by decide +kernel)) (by decide +kernel)
theorem kf_X5_9 : Cond.fieldLink RX5 9 (TX5 0).1 (TX5 0).2.1 (TX5 0).2.2.1 ∈ lw_good := lw_gd (List.mem_of_getElem? (i := 283) (by decide +kernel)) (by decide +kernel)
theorem kf_X5_15 : Cond.fieldLink RX5 15 (TX5 1).1 (TX5 1).2.1 (TX5 1).2.2.1 ∈ lw_good := lw_gd (List.mem_of_getElem? (i := 285) (by decide +kernel)) (by decide +kernel)
theorem kf_X5_19 : Cond.fieldLink RX5 19 (TX5 2).1 (TX5 2).2.1 (TX5 2).2.2.1 ∈ lw_good := lw_gd (List.mem_of_getElem? (i := 287) (by decide +kernel)) (by decide +kernel)
theorem kf_X6_9 : Cond.fieldLink RX6 9 (TX6 0).1 (TX6 0).2.1 (TX6 0).2.2.1 ∈ lw_good := lw_gd (List.mem_of_getElem? (i := 254) (by decide +kernel)) (by decide +kernel)
theorem kf_X6_15 : Cond.fieldLink RX6 15 (TX6 1).1 (TX6 1).2.1 (TX6 1).2.2.1 ∈ lw_good := lw_gd (List.mem_of_getElem? (i := 256) (by decide +kernel)) (by decide +kernel)
theorem kf_X6_19 : Cond.fieldLinkNest RX6 19 (TX3 3).1 (TX3 3).2.1 (TX3 3).2.2.1 "TopSheet" ∈ lw_nest := List.mem_filter.mpr ⟨List.mem_of_getElem? (i := 127) (by decide +kernel), rfl⟩
theorem kf_X6_30 : Cond.fieldLinkNest RX6 30 (TX3 2).1 (TX3 2).2.1 (TX3 2).2.2.1 "TopSheet" ∈ lw_nest := List.mem_filter.mpr ⟨List.mem_of_getElem? (i := 124) (by decide +kernel), rfl⟩
theorem km_X6_36 : Cond.methodLink RX6 36 yX3_setOn ∈ lw_good := lw_gd (List.mem_of_getElem? (i := 704) (by decide +kernel)) (by decide +kernel)
theorem km_X6_40 : Cond.methodLink RX6 40 yX6_leastLost ∈ lw_good := lw_gd (List.mem_of_getElem? (i := 705) (by decide +kernel)) (by decide +kernel)
theorem km_X6_44 : Cond.methodLink RX6 44 yX6_firstThatKeepsLost ∈ lw_good := lw_gd (List.mem_of_getElem? (i := 712) (by decide +kernel)) (by decide +kernel)
theorem kf_X6_47 : Cond.fieldLinkNest RX6 47 (TX3 9).1 (TX3 9).2.1 (TX3 9).2.2.1 "TopSheet" ∈ lw_nest := List.mem_filter.mpr ⟨List.mem_of_getElem? (i := 145) (by decide +kernel), rfl⟩
theorem km_X6_50 : Cond.methodLink RX6 50 yX6_cheapest ∈ lw_good := lw_gd (List.mem_of_getElem? (i := 709) (by decide +kernel)) (by decide +kernel)
theorem kf_X6_54 : Cond.fieldLinkNest RX6 54 (TX3 5).1 (TX3 5).2.1 (TX3 5).2.2.1 "TopSheet" ∈ lw_nest := List.mem_filter.mpr ⟨List.mem_of_getElem? (i := 131) (by decide +kernel), rfl⟩
theorem kf_X6_57 : Cond.fieldLinkNest RX6 57 (TX3 6).1 (TX3 6).2.1 (TX3 6).2.2.1 "TopSheet" ∈ lw_nest := List.mem_filter.mpr ⟨List.mem_of_getElem? (i := 135) (by decide +kernel), rfl⟩
theorem kf_X7_9 : Cond.fieldLink RX7 9 (TX7 0).1 (TX7 0).2.1 (TX7 0).2.2.1 ∈ lw_good := lw_gd (List.mem_of_getElem? (i := 101) (by decide +kernel)) (by decide +kernel)
theorem kf_X7_15 : Cond.fieldLink RX7 15 (TX7 1).1 (TX7 1).2.1 (TX7 1).2.2.1 ∈ lw_good := lw_gd (List.mem_of_getElem? (i := 102) (by decide +kernel)) (by decide +kernel)
theorem kf_X8_11 : Cond.fieldLink RX8 11 (TX8 0).1 (TX8 0).2.1 (TX8 0).2.2.1 ∈ lw_good := lw_gd (List.mem_of_getElem? (i := 296) (by decide +kernel)) (by decide +kernel)
theorem kf_X8_18 : Cond.fieldLink RX8 18 (TX8 1).1 (TX8 1).2.1 (TX8 1).2.2.1 ∈ lw_good := lw_gd (List.mem_of_getElem? (i := 297) (by decide +kernel)) (by decide +kernel)
theorem kf_X8_25 : Cond.fieldLink RX8 25 (TX8 2).1 (TX8 2).2.1 (TX8 2).2.2.1 ∈ lw_good := lw_gd (List.mem_of_getElem? (i := 298) (by decide +kernel)) (by decide +kernel)
theorem kf_X8_32 : Cond.fieldLink RX8 32 (TX8 3).1 (TX8 3).2.1 (TX8 3).2.2.1 ∈ lw_good := lw_gd (List.mem_of_getElem? (i := 299) (by decide +kernel)) (by decide +kernel)
theorem kf_X8_36 : Cond.fieldLink RX8 36 (TX8 4).1 (TX8 4).2.1 (TX8 4).2.2.1 ∈ lw_good := lw_gd (List.mem_of_getElem? (i := 300) (by decide +kernel)) (by decide +kernel)
theorem kf_X8_43 : Cond.fieldLink RX8 43 (TX8 5).1 (TX8 5).2.1 (TX8 5).2.2.1 ∈ lw_good := lw_gd (List.mem_of_getElem? (i := 301) (by decide +kernel)) (by decide +kernel)
theorem kf_X8_50 : Cond.fieldLink RX8 50 (TX8 6).1 (TX8 6).2.1 (TX8 6).2.2.1 ∈ lw_good := lw_gd (List.mem_of_getElem? (i := 302) (by decide +kernel)) (by decide +kernel)
theorem kf_X8_57 : Cond.fieldLink RX8 57 (TX8 7).1 (TX8 7).2.1 (TX8 7).2.2.1 ∈ lw_good := lw_gd (List.mem_of_getElem? (i := 303) (by decide +kernel)) (by decide +kernel)
theorem kf_X8_61 : Cond.fieldLink RX8 61 (TX8 8).1 (TX8 8).2.1 (TX8 8).2.2.1 ∈ lw_good := lw_gd (List.mem_of_getElem? (i := 304) (by decide +kernel)) (by decide +kernel)
theorem kf_X8_65 : Cond.fieldLink RX8 65 (TX8 9).1 (TX8 9).2.1 (TX8 9).2.2.1 ∈ lw_good := lw_gd (List.mem_of_getElem? (i := 305) (by decide +kernel)) (by decide +kernel)
theorem km_X8_69 : Cond.methodLink RX8 69 yX8_isRow ∈ lw_good := lw_gd (List.mem_of_getElem? (i := 331) (by decide +kernel)) (by decide +kernel)
theorem kc_X8_73 : Cond.constant RX8 73 (iI (-1000001)) ∈ lw_good := lw_gd (List.mem_of_getElem? (i := 334) (by decide +kernel)) (by decide +kernel)
theorem km_X8_74 : Cond.methodLink RX8 74 yX8_found ∈ lw_good := lw_gd (List.mem_of_getElem? (i := 335) (by decide +kernel)) (by decide +kernel)
theorem km_X8_78 : Cond.methodLink RX8 78 yX5_begin ∈ lw_good := lw_gd (List.mem_of_getElem? (i := 340) (by decide +kernel)) (by decide +kernel)
theorem km_X8_82 : Cond.methodLink RX8 82 yX8_well ∈ lw_good := lw_gd (List.mem_of_getElem? (i := 344) (by decide +kernel)) (by decide +kernel)
theorem km_X8_85 : Cond.methodLink RX8 85 yX5_isMissing ∈ lw_good := lw_gd (List.mem_of_getElem? (i := 352) (by decide +kernel)) (by decide +kernel)
theorem km_X8_89 : Cond.methodLink RX8 89 yX5_hasPlaces ∈ lw_good := lw_gd (List.mem_of_getElem? (i := 356) (by decide +kernel)) (by decide +kernel)
theorem km_X8_93 : Cond.methodLink RX8 93 yX5_put ∈ lw_good := lw_gd (List.mem_of_getElem? (i := 360) (by decide +kernel)) (by decide +kernel)
theorem kf_X8_97 : Cond.fieldLinkNest RX8 97 (TX5 1).1 (TX5 1).2.1 (TX5 1).2.2.1 "TopSheet" ∈ lw_nest := List.mem_filter.mpr ⟨List.mem_of_getElem? (i := 286) (by decide +kernel), rfl⟩
theorem kf_X8_100 : Cond.fieldLinkNest RX8 100 (TX5 0).1 (TX5 0).2.1 (TX5 0).2.2.1 "TopSheet" ∈ lw_nest := List.mem_filter.mpr ⟨List.mem_of_getElem? (i := 284) (by decide +kernel), rfl⟩
theorem kf_X8_110 : Cond.fieldLinkNest RX8 110 (TX5 2).1 (TX5 2).2.1 (TX5 2).2.2.1 "TopSheet" ∈ lw_nest := List.mem_filter.mpr ⟨List.mem_of_getElem? (i := 288) (by decide +kernel), rfl⟩
theorem km_X8_113 : Cond.methodLink RX8 113 yX5_end ∈ lw_good := lw_gd (List.mem_of_getElem? (i := 375) (by decide +kernel)) (by decide +kernel)
theorem kf_X8_116 : Cond.fieldLinkNest RX8 116 (TX4 0).1 (TX4 0).2.1 (TX4 0).2.2.1 "TopSheet" ∈ lw_nest := List.mem_filter.mpr ⟨List.mem_of_getElem? (i := 179) (by decide +kernel), rfl⟩
theorem km_X8_120 : Cond.methodLink RX8 120 yX7_hasRoom ∈ lw_good := lw_gd (List.mem_of_getElem? (i := 383) (by decide +kernel)) (by decide +kernel)
theorem kc_X8_125 : Cond.constant RX8 125 (iI (-1000003)) ∈ lw_good := lw_gd (List.mem_of_getElem? (i := 387) (by decide +kernel)) (by decide +kernel)
theorem km_X8_126 : Cond.methodLink RX8 126 yX7_join ∈ lw_good := lw_gd (List.mem_of_getElem? (i := 388) (by decide +kernel)) (by decide +kernel)
theorem kf_X8_130 : Cond.fieldLinkNest RX8 130 (TX7 1).1 (TX7 1).2.1 (TX7 1).2.2.1 "TopSheet" ∈ lw_nest := List.mem_filter.mpr ⟨List.mem_of_getElem? (i := 103) (by decide +kernel), rfl⟩
theorem km_X8_131 : Cond.methodLink RX8 131 yX4_read ∈ lw_good := lw_gd (List.mem_of_getElem? (i := 396) (by decide +kernel)) (by decide +kernel)
theorem kf_X8_134 : Cond.fieldLinkNest RX8 134 (TX4 7).1 (TX4 7).2.1 (TX4 7).2.2.1 "TopSheet" ∈ lw_nest := List.mem_filter.mpr ⟨List.mem_of_getElem? (i := 189) (by decide +kernel), rfl⟩
theorem kc_X8_137 : Cond.constant RX8 137 (iI (-1000100)) ∈ lw_good := lw_gd (List.mem_of_getElem? (i := 538) (by decide +kernel)) (by decide +kernel)
theorem kf_X8_138 : Cond.fieldLinkNest RX8 138 (TX4 3).1 (TX4 3).2.1 (TX4 3).2.2.1 "TopSheet" ∈ lw_nest := List.mem_filter.mpr ⟨List.mem_of_getElem? (i := 184) (by decide +kernel), rfl⟩
theorem kf_X8_141 : Cond.fieldLinkNest RX8 141 (TX4 1).1 (TX4 1).2.1 (TX4 1).2.2.1 "TopSheet" ∈ lw_nest := List.mem_filter.mpr ⟨List.mem_of_getElem? (i := 181) (by decide +kernel), rfl⟩
theorem km_X8_144 : Cond.methodLink RX8 144 yX3_takeOver ∈ lw_good := lw_gd (List.mem_of_getElem? (i := 539) (by decide +kernel)) (by decide +kernel)
theorem km_X8_148 : Cond.methodLink RX8 148 yX0_forget ∈ lw_good := lw_gd (List.mem_of_getElem? (i := 544) (by decide +kernel)) (by decide +kernel)
theorem kf_X8_151 : Cond.fieldLinkNest RX8 151 (TX3 8).1 (TX3 8).2.1 (TX3 8).2.2.1 "TopSheet" ∈ lw_nest := List.mem_filter.mpr ⟨List.mem_of_getElem? (i := 142) (by decide +kernel), rfl⟩
theorem km_X8_154 : Cond.methodLink RX8 154 yX3_hasSheet ∈ lw_good := lw_gd (List.mem_of_getElem? (i := 556) (by decide +kernel)) (by decide +kernel)
theorem km_X8_157 : Cond.methodLink RX8 157 yX3_deskOf ∈ lw_good := lw_gd (List.mem_of_getElem? (i := 560) (by decide +kernel)) (by decide +kernel)
theorem kc_X8_160 : Cond.constant RX8 160 (iI (-1000002)) ∈ lw_good := lw_gd (List.mem_of_getElem? (i := 572) (by decide +kernel)) (by decide +kernel)
theorem km_X8_161 : Cond.methodLink RX8 161 yX0_keep ∈ lw_good := lw_gd (List.mem_of_getElem? (i := 573) (by decide +kernel)) (by decide +kernel)
theorem km_X8_164 : Cond.methodLink RX8 164 yX3_above ∈ lw_good := lw_gd (List.mem_of_getElem? (i := 578) (by decide +kernel)) (by decide +kernel)
theorem km_X8_167 : Cond.methodLink RX8 167 yX3_takeOff ∈ lw_good := lw_gd (List.mem_of_getElem? (i := 583) (by decide +kernel)) (by decide +kernel)
theorem km_X8_171 : Cond.methodLink RX8 171 yX3_putOn ∈ lw_good := lw_gd (List.mem_of_getElem? (i := 588) (by decide +kernel)) (by decide +kernel)
theorem kf_X8_174 : Cond.fieldLinkNest RX8 174 (TX3 10).1 (TX3 10).2.1 (TX3 10).2.2.1 "TopSheet" ∈ lw_nest := List.mem_filter.mpr ⟨List.mem_of_getElem? (i := 149) (by decide +kernel), rfl⟩
theorem kf_X8_177 : Cond.fieldLinkNest RX8 177 (TX3 7).1 (TX3 7).2.1 (TX3 7).2.2.1 "TopSheet" ∈ lw_nest := List.mem_filter.mpr ⟨List.mem_of_getElem? (i := 140) (by decide +kernel), rfl⟩
theorem kf_X8_180 : Cond.fieldLinkNest RX8 180 (TX3 11).1 (TX3 11).2.1 (TX3 11).2.2.1 "TopSheet" ∈ lw_nest := List.mem_filter.mpr ⟨List.mem_of_getElem? (i := 151) (by decide +kernel), rfl⟩
theorem km_X8_183 : Cond.methodLink RX8 183 yX3_hasDesk ∈ lw_good := lw_gd (List.mem_of_getElem? (i := 593) (by decide +kernel)) (by decide +kernel)
theorem km_X8_186 : Cond.methodLink RX8 186 yX3_hasRoom ∈ lw_good := lw_gd (List.mem_of_getElem? (i := 594) (by decide +kernel)) (by decide +kernel)
theorem kf_X8_187 : Cond.fieldLinkNest RX8 187 (TX3 3).1 (TX3 3).2.1 (TX3 3).2.2.1 "TopSheet" ∈ lw_nest := List.mem_filter.mpr ⟨List.mem_of_getElem? (i := 128) (by decide +kernel), rfl⟩
theorem kf_X8_190 : Cond.fieldLinkNest RX8 190 (TX3 9).1 (TX3 9).2.1 (TX3 9).2.2.1 "TopSheet" ∈ lw_nest := List.mem_filter.mpr ⟨List.mem_of_getElem? (i := 146) (by decide +kernel), rfl⟩
theorem km_X8_193 : Cond.methodLink RX8 193 yX3_bring ∈ lw_good := lw_gd (List.mem_of_getElem? (i := 599) (by decide +kernel)) (by decide +kernel)
theorem km_X8_197 : Cond.methodLink RX8 197 yX3_isThere ∈ lw_good := lw_gd (List.mem_of_getElem? (i := 604) (by decide +kernel)) (by decide +kernel)
theorem kc_X8_200 : Cond.constant RX8 200 (iI (999999)) ∈ lw_good := lw_gd (List.mem_of_getElem? (i := 608) (by decide +kernel)) (by decide +kernel)
theorem kc_X8_201 : Cond.constantLong RX8 201 (iL (16807)) ∈ lw_good := lw_gd (List.mem_of_getElem? (i := 609) (by decide +kernel)) (by decide +kernel)
theorem kc_X8_203 : Cond.constantLong RX8 203 (iL (2147483647)) ∈ lw_good := lw_gd (List.mem_of_getElem? (i := 610) (by decide +kernel)) (by decide +kernel)
theorem kc_X8_205 : Cond.constantLong RX8 205 (iL (100)) ∈ lw_good := lw_gd (List.mem_of_getElem? (i := 611) (by decide +kernel)) (by decide +kernel)
theorem kf_X8_207 : Cond.fieldLinkNest RX8 207 (TX3 0).1 (TX3 0).2.1 (TX3 0).2.2.1 "TopSheet" ∈ lw_nest := List.mem_filter.mpr ⟨List.mem_of_getElem? (i := 120) (by decide +kernel), rfl⟩
theorem km_X8_210 : Cond.methodLink RX8 210 yX3_blow ∈ lw_good := lw_gd (List.mem_of_getElem? (i := 612) (by decide +kernel)) (by decide +kernel)
theorem kf_X8_214 : Cond.fieldLinkNest RX8 214 (TX0 2).1 (TX0 2).2.1 (TX0 2).2.2.1 "TopSheet" ∈ lw_nest := List.mem_filter.mpr ⟨List.mem_of_getElem? (i := 221) (by decide +kernel), rfl⟩
theorem km_X8_217 : Cond.methodLink RX8 217 yX0_takeBack ∈ lw_good := lw_gd (List.mem_of_getElem? (i := 631) (by decide +kernel)) (by decide +kernel)
theorem kf_X8_220 : Cond.fieldLinkNest RX8 220 (TX3 6).1 (TX3 6).2.1 (TX3 6).2.2.1 "TopSheet" ∈ lw_nest := List.mem_filter.mpr ⟨List.mem_of_getElem? (i := 137) (by decide +kernel), rfl⟩
theorem km_X8_223 : Cond.methodLink RX8 223 yX3_isGone ∈ lw_good := lw_gd (List.mem_of_getElem? (i := 639) (by decide +kernel)) (by decide +kernel)
theorem kc_X8_226 : Cond.constant RX8 226 (iI (-1000000)) ∈ lw_good := lw_gd (List.mem_of_getElem? (i := 643) (by decide +kernel)) (by decide +kernel)
theorem km_X8_227 : Cond.methodLink RX8 227 yX3_isMet ∈ lw_good := lw_gd (List.mem_of_getElem? (i := 644) (by decide +kernel)) (by decide +kernel)
theorem km_X8_230 : Cond.methodLink RX8 230 yX3_isMissed ∈ lw_good := lw_gd (List.mem_of_getElem? (i := 648) (by decide +kernel)) (by decide +kernel)
theorem km_X8_233 : Cond.methodLink RX8 233 yX3_at ∈ lw_good := lw_gd (List.mem_of_getElem? (i := 658) (by decide +kernel)) (by decide +kernel)
theorem kf_X8_236 : Cond.fieldLinkNest RX8 236 (TX3 1).1 (TX3 1).2.1 (TX3 1).2.2.1 "TopSheet" ∈ lw_nest := List.mem_filter.mpr ⟨List.mem_of_getElem? (i := 122) (by decide +kernel), rfl⟩
theorem kf_X8_239 : Cond.fieldLinkNest RX8 239 (TX3 2).1 (TX3 2).2.1 (TX3 2).2.2.1 "TopSheet" ∈ lw_nest := List.mem_filter.mpr ⟨List.mem_of_getElem? (i := 125) (by decide +kernel), rfl⟩
theorem km_X8_242 : Cond.methodLink RX8 242 yX8_isGusts ∈ lw_good := lw_gd (List.mem_of_getElem? (i := 663) (by decide +kernel)) (by decide +kernel)
theorem km_X8_245 : Cond.methodLink RX8 245 yX3_takenBy ∈ lw_good := lw_gd (List.mem_of_getElem? (i := 666) (by decide +kernel)) (by decide +kernel)
theorem km_X8_248 : Cond.methodLink RX8 248 yX3_worthOf ∈ lw_good := lw_gd (List.mem_of_getElem? (i := 670) (by decide +kernel)) (by decide +kernel)
theorem km_X8_251 : Cond.methodLink RX8 251 yX2_foresee ∈ lw_good := lw_gd (List.mem_of_getElem? (i := 678) (by decide +kernel)) (by decide +kernel)
theorem kf_X8_255 : Cond.fieldLinkNest RX8 255 (TX2 1).1 (TX2 1).2.1 (TX2 1).2.2.1 "TopSheet" ∈ lw_nest := List.mem_filter.mpr ⟨List.mem_of_getElem? (i := 237) (by decide +kernel), rfl⟩
theorem kf_X8_258 : Cond.fieldLinkNest RX8 258 (TX2 2).1 (TX2 2).2.1 (TX2 2).2.2.1 "TopSheet" ∈ lw_nest := List.mem_filter.mpr ⟨List.mem_of_getElem? (i := 239) (by decide +kernel), rfl⟩
theorem km_X8_261 : Cond.methodLink RX8 261 yX6_arrange ∈ lw_good := lw_gd (List.mem_of_getElem? (i := 696) (by decide +kernel)) (by decide +kernel)
theorem kf_X8_265 : Cond.fieldLinkNest RX8 265 (TX6 1).1 (TX6 1).2.1 (TX6 1).2.2.1 "TopSheet" ∈ lw_nest := List.mem_filter.mpr ⟨List.mem_of_getElem? (i := 257) (by decide +kernel), rfl⟩
theorem kf_X8_268 : Cond.fieldLinkNest RX8 268 (TX6 0).1 (TX6 0).2.1 (TX6 0).2.2.1 "TopSheet" ∈ lw_nest := List.mem_filter.mpr ⟨List.mem_of_getElem? (i := 255) (by decide +kernel), rfl⟩
theorem km_X8_276 : Cond.methodLink RX8 276 yX3_lostFrom ∈ lw_good := lw_gd (List.mem_of_getElem? (i := 721) (by decide +kernel)) (by decide +kernel)
theorem km_X8_279 : Cond.methodLink RX8 279 yX3_leastOn ∈ lw_good := lw_gd (List.mem_of_getElem? (i := 729) (by decide +kernel)) (by decide +kernel)
theorem km_X8_282 : Cond.methodLink RX8 282 yX3_lostIfUppermost ∈ lw_good := lw_gd (List.mem_of_getElem? (i := 733) (by decide +kernel)) (by decide +kernel)
theorem km_X8_285 : Cond.methodLink RX8 285 yX8_fits ∈ lw_good := lw_gd (List.mem_of_getElem? (i := 741) (by decide +kernel)) (by decide +kernel)
theorem km_X8_289 : Cond.methodLink RX8 289 yX3_lostThrough ∈ lw_good := lw_gd (List.mem_of_getElem? (i := 756) (by decide +kernel)) (by decide +kernel)
theorem km_X8_292 : Cond.methodLink RX8 292 yX3_missedSet ∈ lw_good := lw_gd (List.mem_of_getElem? (i := 764) (by decide +kernel)) (by decide +kernel)
theorem km_X8_295 : Cond.methodLink RX8 295 yX3_goneSet ∈ lw_good := lw_gd (List.mem_of_getElem? (i := 769) (by decide +kernel)) (by decide +kernel)
theorem km_X8_298 : Cond.methodLink RX8 298 yX8_isImage ∈ lw_good := lw_gd (List.mem_of_getElem? (i := 777) (by decide +kernel)) (by decide +kernel)
theorem kf_X8_301 : Cond.fieldLinkNest RX8 301 (TX3 5).1 (TX3 5).2.1 (TX3 5).2.2.1 "TopSheet" ∈ lw_nest := List.mem_filter.mpr ⟨List.mem_of_getElem? (i := 133) (by decide +kernel), rfl⟩
theorem km_X8_304 : Cond.methodLink RX8 304 yX1_isKind ∈ lw_good := lw_gd (List.mem_of_getElem? (i := 792) (by decide +kernel)) (by decide +kernel)
theorem km_X8_307 : Cond.methodLink RX8 307 yX1_isOneOf ∈ lw_good := lw_gd (List.mem_of_getElem? (i := 795) (by decide +kernel)) (by decide +kernel)
theorem km_X8_310 : Cond.methodLink RX8 310 yX1_begin ∈ lw_good := lw_gd (List.mem_of_getElem? (i := 805) (by decide +kernel)) (by decide +kernel)
theorem kf_X8_313 : Cond.fieldLinkNest RX8 313 (TX1 1).1 (TX1 1).2.1 (TX1 1).2.2.1 "TopSheet" ∈ lw_nest := List.mem_filter.mpr ⟨List.mem_of_getElem? (i := 272) (by decide +kernel), rfl⟩
theorem kf_X8_316 : Cond.fieldLinkNest RX8 316 (TX1 0).1 (TX1 0).2.1 (TX1 0).2.2.1 "TopSheet" ∈ lw_nest := List.mem_filter.mpr ⟨List.mem_of_getElem? (i := 270) (by decide +kernel), rfl⟩
theorem km_X8_319 : Cond.methodLink RX8 319 yX8_standingRows ∈ lw_good := lw_gd (List.mem_of_getElem? (i := 831) (by decide +kernel)) (by decide +kernel)
theorem kc_X8_327 : Cond.constant RX8 327 (iI (-1000010)) ∈ lw_good := lw_gd (List.mem_of_getElem? (i := 339) (by decide +kernel)) (by decide +kernel)
theorem km_X8_328 : Cond.methodLink RX8 328 yX3_takenByGust ∈ lw_good := lw_gd (List.mem_of_getElem? (i := 745) (by decide +kernel)) (by decide +kernel)
theorem kf_X9_7 : Cond.fieldLink RX9 7 (TX9 2).1 (TX9 2).2.1 (TX9 2).2.2.1 ∈ lw_good := lw_gd (List.mem_of_getElem? (i := 847) (by decide +kernel)) (by decide +kernel)
theorem kf_X9_13 : Cond.fieldLink RX9 13 (TX9 3).1 (TX9 3).2.1 (TX9 3).2.2.1 ∈ lw_good := lw_gd (List.mem_of_getElem? (i := 848) (by decide +kernel)) (by decide +kernel)
theorem kf_X9_16 : Cond.fieldLink RX9 16 (TX9 4).1 (TX9 4).2.1 (TX9 4).2.2.1 ∈ lw_good := lw_gd (List.mem_of_getElem? (i := 849) (by decide +kernel)) (by decide +kernel)
theorem kf_X9_19 : Cond.fieldLink RX9 19 (TX9 5).1 (TX9 5).2.1 (TX9 5).2.2.1 ∈ lw_good := lw_gd (List.mem_of_getElem? (i := 850) (by decide +kernel)) (by decide +kernel)
theorem kf_X9_22 : Cond.fieldLink RX9 22 (TX9 6).1 (TX9 6).2.1 (TX9 6).2.2.1 ∈ lw_good := lw_gd (List.mem_of_getElem? (i := 851) (by decide +kernel)) (by decide +kernel)
theorem kf_X9_25 : Cond.fieldLink RX9 25 (TX9 8).1 (TX9 8).2.1 (TX9 8).2.2.1 ∈ lw_good := lw_gd (List.mem_of_getElem? (i := 853) (by decide +kernel)) (by decide +kernel)
theorem kf_X9_28 : Cond.fieldLink RX9 28 (TX9 10).1 (TX9 10).2.1 (TX9 10).2.2.1 ∈ lw_good := lw_gd (List.mem_of_getElem? (i := 855) (by decide +kernel)) (by decide +kernel)
theorem kf_X9_31 : Cond.fieldLink RX9 31 (TX9 20).1 (TX9 20).2.1 (TX9 20).2.2.1 ∈ lw_good := lw_gd (List.mem_of_getElem? (i := 865) (by decide +kernel)) (by decide +kernel)
theorem kf_X9_34 : Cond.fieldLink RX9 34 (TX9 21).1 (TX9 21).2.1 (TX9 21).2.2.1 ∈ lw_good := lw_gd (List.mem_of_getElem? (i := 866) (by decide +kernel)) (by decide +kernel)
theorem kf_X9_38 : Cond.fieldLink RX9 38 (TX9 22).1 (TX9 22).2.1 (TX9 22).2.2.1 ∈ lw_good := lw_gd (List.mem_of_getElem? (i := 867) (by decide +kernel)) (by decide +kernel)
theorem kf_X9_41 : Cond.fieldLink RX9 41 (TX9 23).1 (TX9 23).2.1 (TX9 23).2.2.1 ∈ lw_good := lw_gd (List.mem_of_getElem? (i := 868) (by decide +kernel)) (by decide +kernel)
theorem kf_X9_44 : Cond.fieldLink RX9 44 (TX9 24).1 (TX9 24).2.1 (TX9 24).2.2.1 ∈ lw_good := lw_gd (List.mem_of_getElem? (i := 869) (by decide +kernel)) (by decide +kernel)
theorem kf_X9_48 : Cond.fieldLink RX9 48 (TX9 25).1 (TX9 25).2.1 (TX9 25).2.2.1 ∈ lw_good := lw_gd (List.mem_of_getElem? (i := 870) (by decide +kernel)) (by decide +kernel)
theorem kf_X9_51 : Cond.fieldLink RX9 51 (TX9 26).1 (TX9 26).2.1 (TX9 26).2.2.1 ∈ lw_good := lw_gd (List.mem_of_getElem? (i := 871) (by decide +kernel)) (by decide +kernel)
theorem kf_X9_58 : Cond.fieldLink RX9 58 (TX9 1).1 (TX9 1).2.1 (TX9 1).2.2.1 ∈ lw_good := lw_gd (List.mem_of_getElem? (i := 846) (by decide +kernel)) (by decide +kernel)
theorem kc_X9_61 : Cond.constant RX9 61 (iI (-1000010)) ∈ lw_good := lw_gd (List.mem_of_getElem? (i := 948) (by decide +kernel)) (by decide +kernel)
theorem kc_X9_62 : Cond.constantLong RX9 62 (iL (7)) ∈ lw_good := lw_gd (List.mem_of_getElem? (i := 938) (by decide +kernel)) (by decide +kernel)
theorem km_X9_64 : Cond.methodLink RX9 64 yX9_in ∈ lw_good := lw_gd (List.mem_of_getElem? (i := 939) (by decide +kernel)) (by decide +kernel)
theorem kf_X9_54 : Cond.fieldLink RX9 54 (TX9 0).1 (TX9 0).2.1 (TX9 0).2.2.1 ∈ lw_good := lw_gd (List.mem_of_getElem? (i := 845) (by decide +kernel)) (by decide +kernel)
theorem km_X9_68 : Cond.methodLink RX9 68 yX9_isRow ∈ lw_good := lw_gd (List.mem_of_getElem? (i := 935) (by decide +kernel)) (by decide +kernel)
theorem kc_X9_72 : Cond.constantLong RX9 72 (iL (2)) ∈ lw_good := lw_gd (List.mem_of_getElem? (i := 942) (by decide +kernel)) (by decide +kernel)
theorem kc_X9_74 : Cond.constant RX9 74 (iI (-1000001)) ∈ lw_good := lw_gd (List.mem_of_getElem? (i := 943) (by decide +kernel)) (by decide +kernel)
theorem km_X9_75 : Cond.methodLink RX9 75 yX9_finding ∈ lw_good := lw_gd (List.mem_of_getElem? (i := 944) (by decide +kernel)) (by decide +kernel)
theorem kc_X9_79 : Cond.constantLong RX9 79 (iL (8)) ∈ lw_good := lw_gd (List.mem_of_getElem? (i := 965) (by decide +kernel)) (by decide +kernel)
theorem kf_X9_81 : Cond.fieldLink RX9 81 (TX9 11).1 (TX9 11).2.1 (TX9 11).2.2.1 ∈ lw_good := lw_gd (List.mem_of_getElem? (i := 856) (by decide +kernel)) (by decide +kernel)
theorem kc_X9_84 : Cond.constant RX9 84 (iI (-1000003)) ∈ lw_good := lw_gd (List.mem_of_getElem? (i := 966) (by decide +kernel)) (by decide +kernel)
theorem kc_X9_85 : Cond.constantLong RX9 85 (iL (255)) ∈ lw_good := lw_gd (List.mem_of_getElem? (i := 967) (by decide +kernel)) (by decide +kernel)
theorem kf_X9_87 : Cond.fieldLink RX9 87 (TX9 13).1 (TX9 13).2.1 (TX9 13).2.2.1 ∈ lw_good := lw_gd (List.mem_of_getElem? (i := 858) (by decide +kernel)) (by decide +kernel)
theorem kc_X9_90 : Cond.constant RX9 90 (iI (-1000000)) ∈ lw_good := lw_gd (List.mem_of_getElem? (i := 984) (by decide +kernel)) (by decide +kernel)
theorem kf_X9_91 : Cond.fieldLink RX9 91 (TX9 14).1 (TX9 14).2.1 (TX9 14).2.2.1 ∈ lw_good := lw_gd (List.mem_of_getElem? (i := 859) (by decide +kernel)) (by decide +kernel)
theorem km_X9_94 : Cond.methodLink RX9 94 yX9_byteAt ∈ lw_good := lw_gd (List.mem_of_getElem? (i := 980) (by decide +kernel)) (by decide +kernel)
theorem kf_X9_97 : Cond.fieldLink RX9 97 (TX9 16).1 (TX9 16).2.1 (TX9 16).2.2.1 ∈ lw_good := lw_gd (List.mem_of_getElem? (i := 861) (by decide +kernel)) (by decide +kernel)
theorem kf_X9_100 : Cond.fieldLink RX9 100 (TX9 15).1 (TX9 15).2.1 (TX9 15).2.2.1 ∈ lw_good := lw_gd (List.mem_of_getElem? (i := 860) (by decide +kernel)) (by decide +kernel)
theorem km_X9_103 : Cond.methodLink RX9 103 yX9_isLetter ∈ lw_good := lw_gd (List.mem_of_getElem? (i := 985) (by decide +kernel)) (by decide +kernel)
theorem km_X9_106 : Cond.methodLink RX9 106 yX9_isFigure ∈ lw_good := lw_gd (List.mem_of_getElem? (i := 988) (by decide +kernel)) (by decide +kernel)
theorem kf_X9_109 : Cond.fieldLink RX9 109 (TX9 17).1 (TX9 17).2.1 (TX9 17).2.2.1 ∈ lw_good := lw_gd (List.mem_of_getElem? (i := 862) (by decide +kernel)) (by decide +kernel)
theorem kf_X9_112 : Cond.fieldLink RX9 112 (TX9 18).1 (TX9 18).2.1 (TX9 18).2.2.1 ∈ lw_good := lw_gd (List.mem_of_getElem? (i := 863) (by decide +kernel)) (by decide +kernel)
theorem km_X9_115 : Cond.methodLink RX9 115 yX9_next ∈ lw_good := lw_gd (List.mem_of_getElem? (i := 976) (by decide +kernel)) (by decide +kernel)
theorem kf_X9_118 : Cond.fieldLink RX9 118 (TX9 19).1 (TX9 19).2.1 (TX9 19).2.2.1 ∈ lw_good := lw_gd (List.mem_of_getElem? (i := 864) (by decide +kernel)) (by decide +kernel)
theorem km_X9_121 : Cond.methodLink RX9 121 yX9_bad ∈ lw_good := lw_gd (List.mem_of_getElem? (i := 1004) (by decide +kernel)) (by decide +kernel)
theorem km_X9_125 : Cond.methodLink RX9 125 yX9_figures ∈ lw_good := lw_gd (List.mem_of_getElem? (i := 1012) (by decide +kernel)) (by decide +kernel)
theorem km_X9_129 : Cond.methodLink RX9 129 yX9_must ∈ lw_good := lw_gd (List.mem_of_getElem? (i := 1000) (by decide +kernel)) (by decide +kernel)
theorem kc_X9_133 : Cond.constantLong RX9 133 (iL (33602666401721972)) ∈ lw_good := lw_gd (List.mem_of_getElem? (i := 1037) (by decide +kernel)) (by decide +kernel)
theorem kc_X9_135 : Cond.constantLong RX9 135 (iL (2003397740)) ∈ lw_good := lw_gd (List.mem_of_getElem? (i := 1038) (by decide +kernel)) (by decide +kernel)
theorem kc_X9_137 : Cond.constantLong RX9 137 (iL (1651076204)) ∈ lw_good := lw_gd (List.mem_of_getElem? (i := 1039) (by decide +kernel)) (by decide +kernel)
theorem kc_X9_139 : Cond.constantLong RX9 139 (iL (422725119595)) ∈ lw_good := lw_gd (List.mem_of_getElem? (i := 1040) (by decide +kernel)) (by decide +kernel)
theorem kc_X9_141 : Cond.constantLong RX9 141 (iL (495739565157)) ∈ lw_good := lw_gd (List.mem_of_getElem? (i := 1041) (by decide +kernel)) (by decide +kernel)
theorem km_X9_143 : Cond.methodLink RX9 143 yX9_name ∈ lw_good := lw_gd (List.mem_of_getElem? (i := 995) (by decide +kernel)) (by decide +kernel)
theorem kc_X9_147 : Cond.constantLong RX9 147 (iL (2003398244)) ∈ lw_good := lw_gd (List.mem_of_getElem? (i := 999) (by decide +kernel)) (by decide +kernel)
theorem km_X9_149 : Cond.methodLink RX9 149 yX9_number ∈ lw_good := lw_gd (List.mem_of_getElem? (i := 1008) (by decide +kernel)) (by decide +kernel)
theorem km_X9_153 : Cond.methodLink RX9 153 yX9_mustEnd ∈ lw_good := lw_gd (List.mem_of_getElem? (i := 1016) (by decide +kernel)) (by decide +kernel)
theorem km_X9_156 : Cond.methodLink RX9 156 yX9_begins ∈ lw_good := lw_gd (List.mem_of_getElem? (i := 1025) (by decide +kernel)) (by decide +kernel)
theorem km_X9_160 : Cond.methodLink RX9 160 yX9_kindBy ∈ lw_good := lw_gd (List.mem_of_getElem? (i := 1034) (by decide +kernel)) (by decide +kernel)
theorem km_X9_164 : Cond.methodLink RX9 164 yX9_begin ∈ lw_good := lw_gd (List.mem_of_getElem? (i := 972) (by decide +kernel)) (by decide +kernel)
theorem km_X9_167 : Cond.methodLink RX9 167 yX9_readWind ∈ lw_good := lw_gd (List.mem_of_getElem? (i := 991) (by decide +kernel)) (by decide +kernel)
theorem kc_X9_170 : Cond.constantLong RX9 170 (iL (1684370283)) ∈ lw_good := lw_gd (List.mem_of_getElem? (i := 1020) (by decide +kernel)) (by decide +kernel)
theorem km_X9_172 : Cond.methodLink RX9 172 yX9_readDesk ∈ lw_good := lw_gd (List.mem_of_getElem? (i := 1021) (by decide +kernel)) (by decide +kernel)
theorem kc_X9_175 : Cond.constantLong RX9 175 (iL (495672714612)) ∈ lw_good := lw_gd (List.mem_of_getElem? (i := 1029) (by decide +kernel)) (by decide +kernel)
theorem km_X9_177 : Cond.methodLink RX9 177 yX9_readSheet ∈ lw_good := lw_gd (List.mem_of_getElem? (i := 1030) (by decide +kernel)) (by decide +kernel)
theorem kf_X9_180 : Cond.fieldLink RX9 180 (TX9 12).1 (TX9 12).2.1 (TX9 12).2.2.1 ∈ lw_good := lw_gd (List.mem_of_getElem? (i := 857) (by decide +kernel)) (by decide +kernel)
theorem kc_X9_183 : Cond.constant RX9 183 (iI (-1000100)) ∈ lw_good := lw_gd (List.mem_of_getElem? (i := 1042) (by decide +kernel)) (by decide +kernel)
theorem kf_X9_184 : Cond.fieldLink RX9 184 (TX9 7).1 (TX9 7).2.1 (TX9 7).2.2.1 ∈ lw_good := lw_gd (List.mem_of_getElem? (i := 852) (by decide +kernel)) (by decide +kernel)
theorem kf_X9_188 : Cond.fieldLink RX9 188 (TX9 9).1 (TX9 9).2.1 (TX9 9).2.2.1 ∈ lw_good := lw_gd (List.mem_of_getElem? (i := 854) (by decide +kernel)) (by decide +kernel)
theorem km_X9_191 : Cond.methodLink RX9 191 yX9_manyOn ∈ lw_good := lw_gd (List.mem_of_getElem? (i := 1059) (by decide +kernel)) (by decide +kernel)
theorem km_X9_194 : Cond.methodLink RX9 194 yX9_lies ∈ lw_good := lw_gd (List.mem_of_getElem? (i := 1063) (by decide +kernel)) (by decide +kernel)
theorem km_X9_197 : Cond.methodLink RX9 197 yX9_placeOf ∈ lw_good := lw_gd (List.mem_of_getElem? (i := 1072) (by decide +kernel)) (by decide +kernel)
theorem km_X9_200 : Cond.methodLink RX9 200 yX9_isSheet ∈ lw_good := lw_gd (List.mem_of_getElem? (i := 1051) (by decide +kernel)) (by decide +kernel)
theorem km_X9_203 : Cond.methodLink RX9 203 yX9_deskOf ∈ lw_good := lw_gd (List.mem_of_getElem? (i := 1055) (by decide +kernel)) (by decide +kernel)
theorem kc_X9_206 : Cond.constant RX9 206 (iI (-1000002)) ∈ lw_good := lw_gd (List.mem_of_getElem? (i := 1067) (by decide +kernel)) (by decide +kernel)
theorem km_X9_207 : Cond.methodLink RX9 207 yX9_keep ∈ lw_good := lw_gd (List.mem_of_getElem? (i := 1068) (by decide +kernel)) (by decide +kernel)
theorem km_X9_210 : Cond.methodLink RX9 210 yX9_leaves ∈ lw_good := lw_gd (List.mem_of_getElem? (i := 1076) (by decide +kernel)) (by decide +kernel)
theorem km_X9_213 : Cond.methodLink RX9 213 yX9_comes ∈ lw_good := lw_gd (List.mem_of_getElem? (i := 1080) (by decide +kernel)) (by decide +kernel)
theorem km_X9_216 : Cond.methodLink RX9 216 yX9_of ∈ lw_good := lw_gd (List.mem_of_getElem? (i := 1084) (by decide +kernel)) (by decide +kernel)
theorem km_X9_219 : Cond.methodLink RX9 219 yX9_isDesk ∈ lw_good := lw_gd (List.mem_of_getElem? (i := 1092) (by decide +kernel)) (by decide +kernel)
theorem km_X9_222 : Cond.methodLink RX9 222 yX9_hasRoom ∈ lw_good := lw_gd (List.mem_of_getElem? (i := 1096) (by decide +kernel)) (by decide +kernel)
theorem km_X9_225 : Cond.methodLink RX9 225 yX9_topOf ∈ lw_good := lw_gd (List.mem_of_getElem? (i := 1120) (by decide +kernel)) (by decide +kernel)
theorem kc_X9_228 : Cond.constantLong RX9 228 (iL (999999)) ∈ lw_good := lw_gd (List.mem_of_getElem? (i := 1108) (by decide +kernel)) (by decide +kernel)
theorem kc_X9_230 : Cond.constantLong RX9 230 (iL (16807)) ∈ lw_good := lw_gd (List.mem_of_getElem? (i := 1109) (by decide +kernel)) (by decide +kernel)
theorem kc_X9_232 : Cond.constantLong RX9 232 (iL (2147483647)) ∈ lw_good := lw_gd (List.mem_of_getElem? (i := 1110) (by decide +kernel)) (by decide +kernel)
theorem kc_X9_234 : Cond.constantLong RX9 234 (iL (100)) ∈ lw_good := lw_gd (List.mem_of_getElem? (i := 1111) (by decide +kernel)) (by decide +kernel)
theorem km_X9_236 : Cond.methodLink RX9 236 yX9_layLeft ∈ lw_good := lw_gd (List.mem_of_getElem? (i := 1112) (by decide +kernel)) (by decide +kernel)
theorem km_X9_239 : Cond.methodLink RX9 239 yX9_gust ∈ lw_good := lw_gd (List.mem_of_getElem? (i := 1116) (by decide +kernel)) (by decide +kernel)
theorem kc_X9_242 : Cond.constantLong RX9 242 (iL (5)) ∈ lw_good := lw_gd (List.mem_of_getElem? (i := 1132) (by decide +kernel)) (by decide +kernel)
theorem km_X9_244 : Cond.methodLink RX9 244 yX9_isMissed ∈ lw_good := lw_gd (List.mem_of_getElem? (i := 1133) (by decide +kernel)) (by decide +kernel)
theorem kc_X9_247 : Cond.constantLong RX9 247 (iL (9)) ∈ lw_good := lw_gd (List.mem_of_getElem? (i := 1145) (by decide +kernel)) (by decide +kernel)
theorem km_X9_249 : Cond.methodLink RX9 249 yX9_takenBy ∈ lw_good := lw_gd (List.mem_of_getElem? (i := 1146) (by decide +kernel)) (by decide +kernel)
theorem km_X9_252 : Cond.methodLink RX9 252 yX9_worthOf ∈ lw_good := lw_gd (List.mem_of_getElem? (i := 1150) (by decide +kernel)) (by decide +kernel)
theorem kc_X9_255 : Cond.constantLong RX9 255 (iL (3)) ∈ lw_good := lw_gd (List.mem_of_getElem? (i := 1158) (by decide +kernel)) (by decide +kernel)
theorem km_X9_257 : Cond.methodLink RX9 257 yX9_layFirst ∈ lw_good := lw_gd (List.mem_of_getElem? (i := 1163) (by decide +kernel)) (by decide +kernel)
theorem km_X9_260 : Cond.methodLink RX9 260 yX9_lostBy ∈ lw_good := lw_gd (List.mem_of_getElem? (i := 1167) (by decide +kernel)) (by decide +kernel)
theorem km_X9_264 : Cond.methodLink RX9 264 yX9_nextOrder ∈ lw_good := lw_gd (List.mem_of_getElem? (i := 1171) (by decide +kernel)) (by decide +kernel)
theorem km_X9_267 : Cond.methodLink RX9 267 yX9_isCovered ∈ lw_good := lw_gd (List.mem_of_getElem? (i := 1179) (by decide +kernel)) (by decide +kernel)
theorem km_X9_271 : Cond.methodLink RX9 271 yX9_lostOn ∈ lw_good := lw_gd (List.mem_of_getElem? (i := 1187) (by decide +kernel)) (by decide +kernel)
theorem km_X9_274 : Cond.methodLink RX9 274 yX9_leastOn ∈ lw_good := lw_gd (List.mem_of_getElem? (i := 1191) (by decide +kernel)) (by decide +kernel)
theorem kc_X9_277 : Cond.constantLong RX9 277 (iL (16)) ∈ lw_good := lw_gd (List.mem_of_getElem? (i := 1199) (by decide +kernel)) (by decide +kernel)
theorem km_X9_279 : Cond.methodLink RX9 279 yX9_isOf ∈ lw_good := lw_gd (List.mem_of_getElem? (i := 1224) (by decide +kernel)) (by decide +kernel)
theorem kf_X9_283 : Cond.fieldLink RX9 283 (TX9 27).1 (TX9 27).2.1 (TX9 27).2.2.1 ∈ lw_good := lw_gd (List.mem_of_getElem? (i := 872) (by decide +kernel)) (by decide +kernel)
theorem km_X9_286 : Cond.methodLink RX9 286 yX9_began ∈ lw_good := lw_gd (List.mem_of_getElem? (i := 1239) (by decide +kernel)) (by decide +kernel)
theorem km_X9_289 : Cond.methodLink RX9 289 yX9_plainSize ∈ lw_good := lw_gd (List.mem_of_getElem? (i := 1243) (by decide +kernel)) (by decide +kernel)
theorem km_X9_292 : Cond.methodLink RX9 292 yX9_slateSize ∈ lw_good := lw_gd (List.mem_of_getElem? (i := 1235) (by decide +kernel)) (by decide +kernel)
theorem km_X9_295 : Cond.methodLink RX9 295 yX9_markOf ∈ lw_good := lw_gd (List.mem_of_getElem? (i := 1247) (by decide +kernel)) (by decide +kernel)
theorem km_X9_298 : Cond.methodLink RX9 298 yX9_sizeOf ∈ lw_good := lw_gd (List.mem_of_getElem? (i := 1231) (by decide +kernel)) (by decide +kernel)
theorem kmmin_X3 : Cond.methodLink RX3 86 Lib.Math.min.name ∈ lw_good := lw_gd (List.mem_of_getElem? (i := 624) (by decide +kernel)) (by decide +kernel)
theorem kmmin_X6 : Cond.methodLink RX6 24 Lib.Math.min.name ∈ lw_good := lw_gd (List.mem_of_getElem? (i := 700) (by decide +kernel)) (by decide +kernel)
theorem kmmax_X6 : Cond.methodLink RX6 33 Lib.Math.max.name ∈ lw_good := lw_gd (List.mem_of_getElem? (i := 701) (by decide +kernel)) (by decide +kernel)
theorem kmmax_X8 : Cond.methodLink RX8 271 Lib.Math.max.name ∈ lw_good := lw_gd (List.mem_of_getElem? (i := 720) (by decide +kernel)) (by decide +kernel)
end
section
/-! ===== the cells of the offices and of the rows ===== -/
abbrev oH (o : Nat) : Nat := 45 + 9 * o
abbrev rH (i : Nat) : Nat := 2 + i
abbrev iH (i : Nat) : Nat := 10 + i
theorem oH_lt {o : Nat} (h : o < 28) : oH o < NN := by show 45 + 9 * o < 297; omega
theorem rH_lt {i : Nat} (h : i < 8) : rH i < NN := by show 2 + i < 297; omega
theorem iH_lt {i : Nat} (h : i < 8) : iH i < NN := by show 10 + i < 297; omega
theorem oH_lt1 {o : Nat} (h : o < 28) : oH o + 1 < NN := by show 45 + 9 * o + 1 < 297; omega
theorem oH_lt2 {o : Nat} (h : o < 28) : oH o + 2 < NN := by show 45 + 9 * o + 2 < 297; omega
theorem oH_lt3 {o : Nat} (h : o < 28) : oH o + 3 < NN := by show 45 + 9 * o + 3 < 297; omega
theorem oH_lt4 {o : Nat} (h : o < 28) : oH o + 4 < NN := by show 45 + 9 * o + 4 < 297; omega
theorem oH_lt5 {o : Nat} (h : o < 28) : oH o + 5 < NN := by show 45 + 9 * o + 5 < 297; omega
theorem oH_lt6 {o : Nat} (h : o < 28) : oH o + 6 < NN := by show 45 + 9 * o + 6 < 297; omega
theorem oH_lt7 {o : Nat} (h : o < 28) : oH o + 7 < NN := by show 45 + 9 * o + 7 < 297; omega
theorem oH_lt8 {o : Nat} (h : o < 28) : oH o + 8 < NN := by show 45 + 9 * o + 8 < 297; omega
theorem cellO {X : XC} {I : HD} {o : Nat} (ho : o < 28) : cell X I (oH o) = .inr (3, [rv X (oH o + 1), rv X (oH o + 2), rv X (oH o + 3), rv X (oH o + 4), rv X (oH o + 5), rv X (oH o + 6), rv X (oH o + 7), rv X (oH o + 8), iv (I (oH o) 8), iv (I (oH o) 9), iv (I (oH o) 10), iv (I (oH o) 11)]) := by
  unfold cell
  rw [if_neg (by show ¬ 45 + 9 * o < 2; omega), if_neg (by show ¬ 45 + 9 * o < 10; omega), if_neg (by show ¬ 45 + 9 * o < 18; omega), if_neg (by show ¬ 45 + 9 * o < 45; omega)]
  rw [show (oH o - 45) % 9 = 0 by show (45 + 9 * o - 45) % 9 = 0; omega]
  rfl
theorem cellOp8 {X : XC} {I : HD} {o : Nat} {z : Int} (ho : o < 28) : cell X (up I (oH o) 8 z) (oH o) = .inr (3, [rv X (oH o + 1), rv X (oH o + 2), rv X (oH o + 3), rv X (oH o + 4), rv X (oH o + 5), rv X (oH o + 6), rv X (oH o + 7), rv X (oH o + 8), iv (I (oH o) 8), iv (I (oH o) 9), iv (I (oH o) 10), iv (I (oH o) 11)].set 8 (iv z)) := by
  rw [cellO ho]
  simp [up]
theorem cellOp9 {X : XC} {I : HD} {o : Nat} {z : Int} (ho : o < 28) : cell X (up I (oH o) 9 z) (oH o) = .inr (3, [rv X (oH o + 1), rv X (oH o + 2), rv X (oH o + 3), rv X (oH o + 4), rv X (oH o + 5), rv X (oH o + 6), rv X (oH o + 7), rv X (oH o + 8), iv (I (oH o) 8), iv (I (oH o) 9), iv (I (oH o) 10), iv (I (oH o) 11)].set 9 (iv z)) := by
  rw [cellO ho]
  simp [up]
theorem cellOp10 {X : XC} {I : HD} {o : Nat} {z : Int} (ho : o < 28) : cell X (up I (oH o) 10 z) (oH o) = .inr (3, [rv X (oH o + 1), rv X (oH o + 2), rv X (oH o + 3), rv X (oH o + 4), rv X (oH o + 5), rv X (oH o + 6), rv X (oH o + 7), rv X (oH o + 8), iv (I (oH o) 8), iv (I (oH o) 9), iv (I (oH o) 10), iv (I (oH o) 11)].set 10 (iv z)) := by
  rw [cellO ho]
  simp [up]
theorem cellOp11 {X : XC} {I : HD} {o : Nat} {z : Int} (ho : o < 28) : cell X (up I (oH o) 11 z) (oH o) = .inr (3, [rv X (oH o + 1), rv X (oH o + 2), rv X (oH o + 3), rv X (oH o + 4), rv X (oH o + 5), rv X (oH o + 6), rv X (oH o + 7), rv X (oH o + 8), iv (I (oH o) 8), iv (I (oH o) 9), iv (I (oH o) 10), iv (I (oH o) 11)].set 11 (iv z)) := by
  rw [cellO ho]
  simp [up]
theorem cellO1 {X : XC} {o : Nat} (ho : o < 28) (I : HD) : cell X I (oH o + 1) = oiv X I (oH o + 1) 0 12 := by
  unfold cell
  rw [if_neg (by show ¬ 45 + 9 * o + 1 < 2; omega), if_neg (by show ¬ 45 + 9 * o + 1 < 10; omega), if_neg (by show ¬ 45 + 9 * o + 1 < 18; omega), if_neg (by show ¬ 45 + 9 * o + 1 < 45; omega)]
  rw [show (oH o + 1 - 45) % 9 = 1 by show (45 + 9 * o + 1 - 45) % 9 = 1; omega]
  rfl
theorem cellO2 {X : XC} {o : Nat} (ho : o < 28) (I : HD) : cell X I (oH o + 2) = oiv X I (oH o + 2) 0 4 := by
  unfold cell
  rw [if_neg (by show ¬ 45 + 9 * o + 2 < 2; omega), if_neg (by show ¬ 45 + 9 * o + 2 < 10; omega), if_neg (by show ¬ 45 + 9 * o + 2 < 18; omega), if_neg (by show ¬ 45 + 9 * o + 2 < 45; omega)]
  rw [show (oH o + 2 - 45) % 9 = 2 by show (45 + 9 * o + 2 - 45) % 9 = 2; omega]
  rfl
theorem cellO3 {X : XC} {o : Nat} (ho : o < 28) (I : HD) : cell X I (oH o + 3) = oiv X I (oH o + 3) 0 4 := by
  unfold cell
  rw [if_neg (by show ¬ 45 + 9 * o + 3 < 2; omega), if_neg (by show ¬ 45 + 9 * o + 3 < 10; omega), if_neg (by show ¬ 45 + 9 * o + 3 < 18; omega), if_neg (by show ¬ 45 + 9 * o + 3 < 45; omega)]
  rw [show (oH o + 3 - 45) % 9 = 3 by show (45 + 9 * o + 3 - 45) % 9 = 3; omega]
  rfl
theorem cellO4 {X : XC} {o : Nat} (ho : o < 28) (I : HD) : cell X I (oH o + 4) = oiv X I (oH o + 4) 0 4 := by
  unfold cell
  rw [if_neg (by show ¬ 45 + 9 * o + 4 < 2; omega), if_neg (by show ¬ 45 + 9 * o + 4 < 10; omega), if_neg (by show ¬ 45 + 9 * o + 4 < 18; omega), if_neg (by show ¬ 45 + 9 * o + 4 < 45; omega)]
  rw [show (oH o + 4 - 45) % 9 = 4 by show (45 + 9 * o + 4 - 45) % 9 = 4; omega]
  rfl
theorem cellO5 {X : XC} {o : Nat} (ho : o < 28) (I : HD) : cell X I (oH o + 5) = oiv X I (oH o + 5) 0 36 := by
  unfold cell
  rw [if_neg (by show ¬ 45 + 9 * o + 5 < 2; omega), if_neg (by show ¬ 45 + 9 * o + 5 < 10; omega), if_neg (by show ¬ 45 + 9 * o + 5 < 18; omega), if_neg (by show ¬ 45 + 9 * o + 5 < 45; omega)]
  rw [show (oH o + 5 - 45) % 9 = 5 by show (45 + 9 * o + 5 - 45) % 9 = 5; omega]
  rfl
theorem cellO6 {X : XC} {o : Nat} (ho : o < 28) (I : HD) : cell X I (oH o + 6) = oiv X I (oH o + 6) 0 16 := by
  unfold cell
  rw [if_neg (by show ¬ 45 + 9 * o + 6 < 2; omega), if_neg (by show ¬ 45 + 9 * o + 6 < 10; omega), if_neg (by show ¬ 45 + 9 * o + 6 < 18; omega), if_neg (by show ¬ 45 + 9 * o + 6 < 45; omega)]
  rw [show (oH o + 6 - 45) % 9 = 6 by show (45 + 9 * o + 6 - 45) % 9 = 6; omega]
  rfl
theorem cellO7 {X : XC} {o : Nat} (ho : o < 28) (I : HD) : cell X I (oH o + 7) = oiv X I (oH o + 7) 0 16 := by
  unfold cell
  rw [if_neg (by show ¬ 45 + 9 * o + 7 < 2; omega), if_neg (by show ¬ 45 + 9 * o + 7 < 10; omega), if_neg (by show ¬ 45 + 9 * o + 7 < 18; omega), if_neg (by show ¬ 45 + 9 * o + 7 < 45; omega)]
  rw [show (oH o + 7 - 45) % 9 = 7 by show (45 + 9 * o + 7 - 45) % 9 = 7; omega]
  rfl
theorem cellO8 {X : XC} {o : Nat} (ho : o < 28) (I : HD) : cell X I (oH o + 8) = oiv X I (oH o + 8) 0 16 := by
  unfold cell
  rw [if_neg (by show ¬ 45 + 9 * o + 8 < 2; omega), if_neg (by show ¬ 45 + 9 * o + 8 < 10; omega), if_neg (by show ¬ 45 + 9 * o + 8 < 18; omega), if_neg (by show ¬ 45 + 9 * o + 8 < 45; omega)]
  rw [show (oH o + 8 - 45) % 9 = 8 by show (45 + 9 * o + 8 - 45) % 9 = 8; omega]
  rfl
theorem cellR {X : XC} {I : HD} {i : Nat} (hi : i < 8) : cell X I (rH i) = .inr (5, [rv X (iH i), iv (I (rH i) 1), iv (I (rH i) 2)]) := by
  unfold cell
  rw [if_neg (by show ¬ 2 + i < 2; omega), if_pos (by show 2 + i < 10; omega), show rH i + 8 = iH i by show 2 + i + 8 = 10 + i; omega]
theorem cellRi {X : XC} {i : Nat} (hi : i < 8) (I : HD) : cell X I (iH i) = oiv X I (iH i) 0 40 := by
  unfold cell
  rw [if_neg (by show ¬ 10 + i < 2; omega), if_neg (by show ¬ 10 + i < 10; omega), if_pos (by show 10 + i < 18; omega)]
theorem cellRp1 {X : XC} {I : HD} {i : Nat} {z : Int} (hi : i < 8) : cell X (up I (rH i) 1 z) (rH i) = .inr (5, [rv X (iH i), iv (I (rH i) 1), iv (I (rH i) 2)].set 1 (iv z)) := by
  rw [cellR hi]
  simp [up]
theorem cellRp2 {X : XC} {I : HD} {i : Nat} {z : Int} (hi : i < 8) : cell X (up I (rH i) 2 z) (rH i) = .inr (5, [rv X (iH i), iv (I (rH i) 1), iv (I (rH i) 2)].set 2 (iv z)) := by
  rw [cellR hi]
  simp [up]
end
section
/-! ===== what an office is: its 127 numbers (0 desks, 1 sheets, 2 quarter, 3 and on the wind, 15 + 2 d room, 16 + 2 d stones, 23 + 10 d how many lie there, 24 + 10 d + k which, 63 + 4 p sort, worth, need, met) ===== -/
abbrev OF : Type := Int → Int
noncomputable def bI (P : Prop) : Int := @ite Int P (Classical.propDecidable P) 1 0
theorem bI_t {P : Prop} (h : P) : bI P = 1 := by unfold bI; exact if_pos h
theorem bI_f {P : Prop} (h : ¬ P) : bI P = 0 := by unfold bI; exact if_neg h
theorem bI_0 {P : Prop} : bI P = 0 ↔ ¬ P := by
  by_cases h : P
  · rw [bI_t h]; simp [h]
  · rw [bI_f h]; simp [h]
theorem bI_n {P : Prop} : ¬ bI P = 0 ↔ P := by
  by_cases h : P
  · rw [bI_t h]; simp [h]
  · rw [bI_f h]; simp [h]
theorem bI_p {P : Prop} : 0 < bI P ↔ P := by
  by_cases h : P
  · rw [bI_t h]; simp [h]
  · rw [bI_f h]; simp [h]
theorem bI_le {P : Prop} : 0 ≤ bI P ∧ bI P ≤ 1 := by
  by_cases h : P
  · rw [bI_t h]; omega
  · rw [bI_f h]; omega
theorem rg_bI {P : Prop} : rg (bI P) := by have := bI_le (P := P); unfold rg; omega
theorem bI_c {P Q : Prop} (h : P ↔ Q) : bI P = bI Q := by
  by_cases q : Q
  · rw [bI_t q, bI_t (h.mpr q)]
  · rw [bI_f q, bI_f (fun z => q (h.mp z))]
def Val (O : OF) : Prop := (0 ≤ O 0 ∧ O 0 ≤ 4 ∧ 0 ≤ O 1 ∧ O 1 ≤ 16 ∧ 0 ≤ O 2 ∧ O 2 ≤ 12) ∧ (∀ q, 0 ≤ q → q < 12 → 0 ≤ O (3 + q) ∧ O (3 + q) ≤ 100) ∧
  (∀ d, 0 ≤ d → d < O 0 → 1 ≤ O (15 + 2 * d) ∧ O (15 + 2 * d) ≤ 9 ∧ 0 ≤ O (16 + 2 * d) ∧ O (16 + 2 * d) ≤ 3 ∧ 0 ≤ O (23 + 10 * d) ∧ O (23 + 10 * d) ≤ O (15 + 2 * d)) ∧
  (∀ d k, 0 ≤ d → d < O 0 → 0 ≤ k → k < O (23 + 10 * d) → 0 ≤ O (24 + 10 * d + k) ∧ O (24 + 10 * d + k) < O 1) ∧
  (∀ p, 0 ≤ p → p < O 1 → 1 ≤ O (63 + 4 * p) ∧ O (63 + 4 * p) ≤ 5 ∧ 0 ≤ O (64 + 4 * p) ∧ O (64 + 4 * p) ≤ 99 ∧ 0 ≤ O (65 + 4 * p) ∧ O (65 + 4 * p) ≤ 12 ∧ 0 ≤ O (66 + 4 * p) ∧ O (66 + 4 * p) ≤ 1) ∧
  (∀ d k d2 k2, 0 ≤ d → d < O 0 → 0 ≤ k → k < O (23 + 10 * d) → 0 ≤ d2 → d2 < O 0 → 0 ≤ k2 → k2 < O (23 + 10 * d2) → O (24 + 10 * d + k) = O (24 + 10 * d2 + k2) → d = d2 ∧ k = k2)
theorem Val.a {O : OF} (h : Val O) : 0 ≤ O 0 ∧ O 0 ≤ 4 ∧ 0 ≤ O 1 ∧ O 1 ≤ 16 ∧ 0 ≤ O 2 ∧ O 2 ≤ 12 := h.1
theorem Val.w {O : OF} (h : Val O) {q : Int} (h0 : 0 ≤ q) (h1 : q < 12) : 0 ≤ O (3 + q) ∧ O (3 + q) ≤ 100 := h.2.1 q h0 h1
theorem Val.d {O : OF} (h : Val O) {d : Int} (h0 : 0 ≤ d) (h1 : d < O 0) : 1 ≤ O (15 + 2 * d) ∧ O (15 + 2 * d) ≤ 9 ∧ 0 ≤ O (16 + 2 * d) ∧ O (16 + 2 * d) ≤ 3 ∧ 0 ≤ O (23 + 10 * d) ∧ O (23 + 10 * d) ≤ O (15 + 2 * d) := h.2.2.1 d h0 h1
theorem Val.k {O : OF} (h : Val O) {d k : Int} (h0 : 0 ≤ d) (h1 : d < O 0) (h2 : 0 ≤ k) (h3 : k < O (23 + 10 * d)) : 0 ≤ O (24 + 10 * d + k) ∧ O (24 + 10 * d + k) < O 1 := h.2.2.2.1 d k h0 h1 h2 h3
theorem Val.p {O : OF} (h : Val O) {p : Int} (h0 : 0 ≤ p) (h1 : p < O 1) : 1 ≤ O (63 + 4 * p) ∧ O (63 + 4 * p) ≤ 5 ∧ 0 ≤ O (64 + 4 * p) ∧ O (64 + 4 * p) ≤ 99 ∧ 0 ≤ O (65 + 4 * p) ∧ O (65 + 4 * p) ≤ 12 ∧ 0 ≤ O (66 + 4 * p) ∧ O (66 + 4 * p) ≤ 1 := h.2.2.2.2.1 p h0 h1
theorem Val.u {O : OF} (h : Val O) {d k d2 k2 : Int} (h0 : 0 ≤ d) (h1 : d < O 0) (h2 : 0 ≤ k) (h3 : k < O (23 + 10 * d)) (g0 : 0 ≤ d2) (g1 : d2 < O 0) (g2 : 0 ≤ k2) (g3 : k2 < O (23 + 10 * d2)) (e : O (24 + 10 * d + k) = O (24 + 10 * d2 + k2)) : d = d2 ∧ k = k2 := h.2.2.2.2.2 d k d2 k2 h0 h1 h2 h3 g0 g1 g2 g3 e
/-- a set of numbers below n, as bits -/
noncomputable def bset (f : Int → Prop) : Nat → Nat
  | 0 => 0
  | n + 1 => bset f n + @ite Nat (f n) (Classical.propDecidable _) (2 ^ n) 0
theorem bset_lt (f : Int → Prop) : ∀ n : Nat, bset f n < 2 ^ n
  | 0 => by simp [bset]
  | n + 1 => by
    have h := bset_lt f n
    have e : 2 ^ (n + 1) = 2 ^ n + 2 ^ n := by omega
    show bset f n + @ite Nat (f n) (Classical.propDecidable _) (2 ^ n) 0 < _
    by_cases q : f n
    · rw [if_pos q]; omega
    · rw [if_neg q]; omega
/-- the class's cells of an office o hold the numbers O (as far as they are alive) -/
def RepC (O : OF) (I : HD) (o : Nat) : Prop := (I (oH o) 8 = O 0 ∧ I (oH o) 9 = O 1 ∧ I (oH o) 10 = O 2) ∧ (∀ q, 0 ≤ q → q < 12 → I (oH o + 1) q = O (3 + q)) ∧
  (∀ d, 0 ≤ d → d < O 0 → I (oH o + 2) d = O (15 + 2 * d) ∧ I (oH o + 3) d = O (16 + 2 * d) ∧ I (oH o + 4) d = O (23 + 10 * d)) ∧
  (∀ d k, 0 ≤ d → d < O 0 → 0 ≤ k → k < O (23 + 10 * d) → I (oH o + 5) (d * 9 + k) = O (24 + 10 * d + k)) ∧
  (∀ p, 0 ≤ p → p < O 1 → I (oH o + 6) p = O (63 + 4 * p) ∧ I (oH o + 7) p = O (64 + 4 * p) ∧ I (oH o + 8) p = O (65 + 4 * p)) ∧
  I (oH o) 11 = (bset (fun p => p < O 1 ∧ O (66 + 4 * p) = 1) 16 : Nat)
theorem RepC.f0 {O : OF} {I : HD} {o : Nat} (h : RepC O I o) : I (oH o) 8 = O 0 := h.1.1
theorem RepC.f1 {O : OF} {I : HD} {o : Nat} (h : RepC O I o) : I (oH o) 9 = O 1 := h.1.2.1
theorem RepC.f2 {O : OF} {I : HD} {o : Nat} (h : RepC O I o) : I (oH o) 10 = O 2 := h.1.2.2
theorem RepC.wind {O : OF} {I : HD} {o : Nat} (h : RepC O I o) {q : Int} (h0 : 0 ≤ q) (h1 : q < 12) : I (oH o + 1) q = O (3 + q) := h.2.1 q h0 h1
theorem RepC.room {O : OF} {I : HD} {o : Nat} (h : RepC O I o) {d : Int} (h0 : 0 ≤ d) (h1 : d < O 0) : I (oH o + 2) d = O (15 + 2 * d) := (h.2.2.1 d h0 h1).1
theorem RepC.ston {O : OF} {I : HD} {o : Nat} (h : RepC O I o) {d : Int} (h0 : 0 ≤ d) (h1 : d < O 0) : I (oH o + 3) d = O (16 + 2 * d) := (h.2.2.1 d h0 h1).2.1
theorem RepC.hgt {O : OF} {I : HD} {o : Nat} (h : RepC O I o) {d : Int} (h0 : 0 ≤ d) (h1 : d < O 0) : I (oH o + 4) d = O (23 + 10 * d) := (h.2.2.1 d h0 h1).2.2
theorem RepC.pile {O : OF} {I : HD} {o : Nat} (h : RepC O I o) {d k : Int} (h0 : 0 ≤ d) (h1 : d < O 0) (h2 : 0 ≤ k) (h3 : k < O (23 + 10 * d)) : I (oH o + 5) (d * 9 + k) = O (24 + 10 * d + k) := h.2.2.2.1 d k h0 h1 h2 h3
theorem RepC.sort {O : OF} {I : HD} {o : Nat} (h : RepC O I o) {p : Int} (h0 : 0 ≤ p) (h1 : p < O 1) : I (oH o + 6) p = O (63 + 4 * p) := (h.2.2.2.2.1 p h0 h1).1
theorem RepC.wrth {O : OF} {I : HD} {o : Nat} (h : RepC O I o) {p : Int} (h0 : 0 ≤ p) (h1 : p < O 1) : I (oH o + 7) p = O (64 + 4 * p) := (h.2.2.2.2.1 p h0 h1).2.1
theorem RepC.need {O : OF} {I : HD} {o : Nat} (h : RepC O I o) {p : Int} (h0 : 0 ≤ p) (h1 : p < O 1) : I (oH o + 8) p = O (65 + 4 * p) := (h.2.2.2.2.1 p h0 h1).2.2
theorem RepC.met {O : OF} {I : HD} {o : Nat} (h : RepC O I o) : I (oH o) 11 = (bset (fun p => p < O 1 ∧ O (66 + 4 * p) = 1) 16 : Nat) := h.2.2.2.2.2
/-- how many n gusts take from a desk -/
def slat (O : OF) (p : Int) : Prop := O (63 + 4 * p) = 5
def Tf (O : OF) (d n r : Int) : Prop := 0 ≤ r ∧ r ≤ n ∧ (r = 0 ∨ r ≤ O (23 + 10 * d) - O (16 + 2 * d)) ∧ (∀ t, 0 ≤ t → t < r → ¬ slat O (O (24 + 10 * d + (O (23 + 10 * d) - 1 - t)))) ∧
  (r = n ∨ O (23 + 10 * d) - O (16 + 2 * d) ≤ r ∨ slat O (O (24 + 10 * d + (O (23 + 10 * d) - 1 - r))))
noncomputable def tfv (O : OF) (d : Int) : Nat → Int
  | 0 => 0
  | n + 1 => @ite Int (tfv O d n = n ∧ (n : Int) < O (23 + 10 * d) - O (16 + 2 * d) ∧ ¬ slat O (O (24 + 10 * d + (O (23 + 10 * d) - 1 - n)))) (Classical.propDecidable _) (n + 1) (tfv O d n)
theorem Tf.uniq {O : OF} {d n r r2 : Int} (h : Tf O d n r) (g : Tf O d n r2) : r = r2 := by
  obtain ⟨h1, h2, h3, h4, h5⟩ := h
  obtain ⟨g1, g2, g3, g4, g5⟩ := g
  rcases Int.lt_trichotomy r r2 with q | q | q
  · rcases h5 with e | e | e
    · omega
    · omega
    · exact absurd e (g4 r h1 q)
  · exact q
  · rcases g5 with e | e | e
    · omega
    · omega
    · exact absurd e (h4 r2 g1 q)
theorem tfv_Tf (O : OF) (d : Int) : ∀ n : Nat, Tf O d n (tfv O d n)
  | 0 => ⟨by simp [tfv], by simp [tfv], Or.inl rfl, fun t h0 h1 => by simp [tfv] at h1; omega, Or.inl rfl⟩
  | n + 1 => by
    have ih := tfv_Tf O d n
    obtain ⟨h1, h2, h3, h4, h5⟩ := ih
    by_cases q : tfv O d n = n ∧ (n : Int) < O (23 + 10 * d) - O (16 + 2 * d) ∧ ¬ slat O (O (24 + 10 * d + (O (23 + 10 * d) - 1 - n)))
    · rw [show tfv O d (n + 1) = n + 1 from if_pos q]
      obtain ⟨q1, q2, q3⟩ := q
      refine ⟨by omega, by push_cast; omega, Or.inr (by omega), fun t h0 ht => ?_, Or.inl (by push_cast; rfl)⟩
      by_cases e : t = n
      · rw [e]; exact q3
      · exact h4 t h0 (by omega)
    · rw [show tfv O d (n + 1) = tfv O d n from if_neg q]
      refine ⟨h1, by push_cast; omega, h3, h4, ?_⟩
      rcases h5 with e | e | e
      · by_cases z : (n : Int) < O (23 + 10 * d) - O (16 + 2 * d)
        · exact Or.inr (Or.inr (by rw [e]; exact Classical.byContradiction fun y => q ⟨e, z, y⟩))
        · exact Or.inr (Or.inl (by omega))
      · exact Or.inr (Or.inl e)
      · exact Or.inr (Or.inr e)
end
section
/-! ===== bits ===== -/
theorem iI_n (n : Nat) : iI (n : Int) = nI n := by
  show Int32.ofInt (n : Int) = Int32.ofNat n
  apply Int32.toBitVec_inj.mp
  rw [Int32.toBitVec_ofInt, BitVec.ofInt_natCast]
  rfl
theorem nI_bv {n : Nat} (h : n < 2 ^ 32) : (nI n).toBitVec.toNat = n := pk_tn h
theorem iI_or {a b : Nat} (ha : a < 2 ^ 31) (hb : b < 2 ^ 31) : iI (a : Int) ||| iI (b : Int) = iI ((a ||| b : Nat) : Int) := by
  rw [iI_n, iI_n, iI_n]
  apply Int32.toBitVec_inj.mp
  apply BitVec.eq_of_toNat_eq
  rw [Int32.toBitVec_or, BitVec.toNat_or, nI_bv (by omega), nI_bv (by omega), nI_bv]
  have := Nat.or_lt_two_pow ha hb
  omega
theorem iI_and {a b : Nat} (ha : a < 2 ^ 31) (hb : b < 2 ^ 31) : iI (a : Int) &&& iI (b : Int) = iI ((a &&& b : Nat) : Int) := by
  rw [iI_n, iI_n, iI_n]
  apply Int32.toBitVec_inj.mp
  apply BitVec.eq_of_toNat_eq
  rw [Int32.toBitVec_and, BitVec.toNat_and, nI_bv (by omega), nI_bv (by omega), nI_bv]
  have := Nat.and_lt_two_pow a hb
  omega
theorem iI_not (a : Int) : iI a ^^^ iI (-1) = iI (-1 - a) := by
  rw [show iI (-1 - a) = iI (-1) - iI a from Int32.ofInt_sub (-1) a]
  generalize iI a = x
  apply Int32.toBitVec_inj.mp
  rw [Int32.toBitVec_xor, Int32.toBitVec_sub, show (iI (-1)).toBitVec = BitVec.allOnes 32 from by decide, BitVec.xor_allOnes, BitVec.allOnes_sub_eq_not]
theorem iI_31 {s : Int} (h0 : 0 ≤ s) (h1 : s < 32) : (iI s).toBitVec.smod 32 = BitVec.ofNat 32 s.toNat := by
  obtain ⟨n, rfl⟩ : ∃ n : Nat, s = n := ⟨s.toNat, by omega⟩
  have hn : n < 32 := by omega
  rw [iI_n]
  revert hn
  revert n
  intro n _ _ hn
  have : ∀ k, k < 32 → (nI k).toBitVec.smod 32 = BitVec.ofNat 32 ((k : Int)).toNat := by decide +kernel
  exact this n hn
theorem bset_bit (f : Int → Prop) : ∀ (n i : Nat), (bset f n).testBit i = true ↔ i < n ∧ f i
  | 0, i => by simp [bset]
  | n + 1, i => by
    have ih := bset_bit f n i
    have hl := bset_lt f n
    show (bset f n + @ite Nat (f n) (Classical.propDecidable _) (2 ^ n) 0).testBit i = true ↔ _
    by_cases q : f n
    · rw [if_pos q, Nat.add_comm]
      by_cases e : i = n
      · subst e
        rw [Nat.testBit_two_pow_add_eq, Nat.testBit_lt_two_pow hl]
        simp [q]
      · rcases Nat.lt_or_ge i n with z | z
        · rw [Nat.testBit_two_pow_add_gt z, ih]
          constructor
          · exact fun h => ⟨by omega, h.2⟩
          · exact fun h => ⟨z, h.2⟩
        · have h2 : 2 ^ n + bset f n < 2 ^ i := by
            have : 2 ^ (n + 1) ≤ 2 ^ i := Nat.pow_le_pow_right (by omega) (by omega)
            have e2 : 2 ^ (n + 1) = 2 ^ n + 2 ^ n := by omega
            omega
          rw [Nat.testBit_lt_two_pow h2]
          constructor
          · intro h; cases h
          · intro h; omega
    · rw [if_neg q, Nat.add_zero, ih]
      constructor
      · exact fun h => ⟨by omega, h.2⟩
      · intro h
        refine ⟨?_, h.2⟩
        by_cases e : i = n
        · subst e; exact absurd h.2 q
        · omega
theorem bset_congr {f g : Int → Prop} {n : Nat} (h : ∀ p : Int, 0 ≤ p → p < n → (f p ↔ g p)) : bset f n = bset g n := by
  apply Nat.eq_of_testBit_eq
  intro i
  apply Bool.eq_iff_iff.mpr
  rw [bset_bit, bset_bit]
  constructor
  · exact fun q => ⟨q.1, (h i (by omega) (by omega)).mp q.2⟩
  · exact fun q => ⟨q.1, (h i (by omega) (by omega)).mpr q.2⟩
theorem bset_none {f : Int → Prop} {n : Nat} (h : ∀ p : Int, 0 ≤ p → p < n → ¬ f p) : bset f n = 0 := by
  apply Nat.eq_of_testBit_eq
  intro i
  apply Bool.eq_iff_iff.mpr
  rw [bset_bit]
  constructor
  · exact fun q => absurd q.2 (h i (by omega) (by omega))
  · intro q; simp at q
theorem bset_or {f g : Int → Prop} {n : Nat} : bset f n ||| bset g n = bset (fun p => f p ∨ g p) n := by
  apply Nat.eq_of_testBit_eq
  intro i
  apply Bool.eq_iff_iff.mpr
  rw [Nat.testBit_or, Bool.or_eq_true, bset_bit, bset_bit, bset_bit]
  constructor
  · rintro (h | h)
    · exact ⟨h.1, Or.inl h.2⟩
    · exact ⟨h.1, Or.inr h.2⟩
  · rintro ⟨h, q | q⟩
    · exact Or.inl ⟨h, q⟩
    · exact Or.inr ⟨h, q⟩
theorem bset_one {n : Nat} {p : Nat} (h : p < n) : 2 ^ p = bset (fun x => x = p) n := by
  apply Nat.eq_of_testBit_eq
  intro i
  apply Bool.eq_iff_iff.mpr
  rw [bset_bit, Nat.testBit_two_pow]
  simp
  constructor
  · rintro rfl; exact ⟨h, rfl⟩
  · intro q; omega
/-- 1 << p -/
theorem sh_1 {p : Int} (h0 : 0 ≤ p) (h1 : p < 31) : iI 1 <<< (iI p &&& 31) = iI ((2 ^ p.toNat : Nat) : Int) := by
  obtain ⟨n, rfl⟩ : ∃ n : Nat, p = n := ⟨p.toNat, by omega⟩
  have hn : n < 31 := by omega
  have key : ∀ k, k < 31 → iI 1 <<< (nI k &&& 31) = nI (2 ^ k) := by decide +kernel
  rw [iI_n, iI_n, Int.toNat_natCast]
  exact key n hn
/-- a set with one more -/
theorem bs_add {f : Int → Prop} {p : Int} (h0 : 0 ≤ p) (h1 : p < 16) : iI ((bset f 16 : Nat) : Int) ||| iI ((2 ^ p.toNat : Nat) : Int) = iI ((bset (fun x => f x ∨ x = p) 16 : Nat) : Int) := by
  have ha := bset_lt f 16
  obtain ⟨n, rfl⟩ : ∃ n : Nat, p = n := ⟨p.toNat, by omega⟩
  have hn : n < 16 := by omega
  rw [Int.toNat_natCast, bset_one hn]
  have hb := bset_lt (fun x => x = (n : Int)) 16
  rw [iI_or (by omega) (by omega), bset_or]
/-- a set shifted down by p -/
theorem bs_shr {f : Int → Prop} {p : Int} (h0 : 0 ≤ p) (h1 : p < 16) : iI ((bset f 16 : Nat) : Int) >>> (iI p &&& 31) = iI ((bset f 16 >>> p.toNat : Nat) : Int) := by
  have ha := bset_lt f 16
  obtain ⟨n, rfl⟩ : ∃ n : Nat, p = n := ⟨p.toNat, by omega⟩
  have hn : n < 16 := by omega
  have k1 : ∀ k, k < 16 → nI k &&& 31 = nI k := by decide +kernel
  rw [iI_n, iI_n, iI_n, Int.toNat_natCast, k1 n hn, pk_shrN (by omega) (nI n) n (by
    have : ∀ k, k < 16 → ((nI k).toBitVec.smod 32).toNat = k := by decide +kernel
    exact this n hn), Nat.shiftRight_eq_div_pow]
/-- its last bit -/
theorem bs_bit {f : Int → Prop} {p : Int} (h0 : 0 ≤ p) (h1 : p < 16) : iI ((bset f 16 >>> p.toNat : Nat) : Int) &&& iI 1 = iI (bI (f p)) := by
  have ha := bset_lt f 16
  obtain ⟨n, rfl⟩ : ∃ n : Nat, p = n := ⟨p.toNat, by omega⟩
  have hn : n < 16 := by omega
  rw [Int.toNat_natCast]
  have hs : bset f 16 >>> n < 2 ^ 31 := by
    rw [Nat.shiftRight_eq_div_pow]
    have := Nat.div_le_self (bset f 16) (2 ^ n)
    omega
  rw [show (1 : Int) = ((1 : Nat) : Int) from rfl, iI_and hs (by omega)]
  have hb := bset_bit f 16 n
  rw [Nat.testBit, Nat.and_comm] at hb
  rcases Nat.mod_two_eq_zero_or_one (bset f 16 >>> n) with q | q
  · have e : bset f 16 >>> n &&& 1 = 0 := by rw [Nat.and_one_is_mod]; exact q
    rw [e] at hb ⊢
    rw [bI_f (fun z => by have := hb.mpr ⟨hn, z⟩; simp at this)]; rfl
  · have e : bset f 16 >>> n &&& 1 = 1 := by rw [Nat.and_one_is_mod]; exact q
    rw [e] at hb ⊢
    rw [bI_t (hb.mp (by simp)).2]; rfl
end
section
/-! ===== words of an office: where a sheet lies, what is gone, missed, taken, lost ===== -/
def onN (O : OF) (d n p : Int) : Prop := ∃ k, 0 ≤ k ∧ k < n ∧ O (24 + 10 * d + k) = p
def onD (O : OF) (d p : Int) : Prop := onN O d (O (23 + 10 * d)) p
theorem onN_0 {O : OF} {d p : Int} : ¬ onN O d 0 p := by rintro ⟨k, h0, h1, _⟩; omega
theorem onN_s {O : OF} {d k p : Int} (h : 0 ≤ k) : (onN O d k p ∨ p = O (24 + 10 * d + k)) ↔ onN O d (k + 1) p := by
  constructor
  · rintro (⟨j, h0, h1, h2⟩ | h2)
    · exact ⟨j, h0, by omega, h2⟩
    · exact ⟨k, h, by omega, h2.symm⟩
  · rintro ⟨j, h0, h1, h2⟩
    by_cases e : j = k
    · exact Or.inr (by rw [← h2, e])
    · exact Or.inl ⟨j, h0, by omega, h2⟩
def isD (O : OF) (p z : Int) : Prop := (z = -1 ∧ ∀ d, 0 ≤ d → d < O 0 → ¬ onD O d p) ∨ (0 ≤ z ∧ z < O 0 ∧ onD O z p)
noncomputable def dk (O : OF) (p : Int) : Int := @dite Int (∃ d, 0 ≤ d ∧ d < O 0 ∧ onD O d p) (Classical.propDecidable _) (fun h => Classical.choose h) (fun _ => -1)
theorem dk_is (O : OF) (p : Int) : isD O p (dk O p) := by
  unfold dk
  by_cases h : ∃ d, 0 ≤ d ∧ d < O 0 ∧ onD O d p
  · rw [dif_pos h]
    exact Or.inr (Classical.choose_spec h)
  · rw [dif_neg h]
    exact Or.inl ⟨rfl, fun d h0 h1 h2 => h ⟨d, h0, h1, h2⟩⟩
theorem isD_u {O : OF} {p z : Int} (hV : Val O) (h : isD O p z) : dk O p = z := by
  rcases dk_is O p with ⟨e, g⟩ | ⟨g0, g1, k, g2, g3, g4⟩
  · rcases h with ⟨e2, _⟩ | ⟨h0, h1, h2⟩
    · rw [e, e2]
    · exact absurd h2 (g z h0 h1)
  · rcases h with ⟨_, h⟩ | ⟨h0, h1, k2, h2, h3, h4⟩
    · exact absurd ⟨k, g2, g3, g4⟩ (h _ g0 g1)
    · exact (hV.u g0 g1 g2 g3 h0 h1 h2 h3 (by rw [g4, h4])).1
theorem dk_lt {O : OF} {p : Int} : -1 ≤ dk O p ∧ (dk O p = -1 ∨ dk O p < O 0) := by
  rcases dk_is O p with ⟨e, _⟩ | ⟨g0, g1, _⟩
  · rw [e]; omega
  · omega
theorem dk_on {O : OF} {p : Int} (h : 0 ≤ dk O p) : dk O p < O 0 ∧ onD O (dk O p) p := by
  rcases dk_is O p with ⟨e, _⟩ | ⟨g0, g1, g2⟩
  · omega
  · exact ⟨g1, g2⟩
theorem dk_no {O : OF} {p : Int} (h : dk O p < 0) : ∀ d, 0 ≤ d → d < O 0 → ¬ onD O d p := by
  rcases dk_is O p with ⟨_, e⟩ | ⟨g0, g1, g2⟩
  · exact e
  · omega
theorem dk_neg {O : OF} {p : Int} (h : ∀ d, 0 ≤ d → d < O 0 → ¬ onD O d p) : dk O p < 0 := by
  rcases dk_is O p with ⟨e, _⟩ | ⟨g0, g1, g2⟩
  · omega
  · exact absurd g2 (h _ g0 g1)
/-- how many lie above a sheet; 0 of one that is gone -/
def isA (O : OF) (p z : Int) : Prop := (dk O p < 0 ∧ z = 0) ∨ (0 ≤ dk O p ∧ 0 ≤ z ∧ z < O (23 + 10 * dk O p) ∧ O (24 + 10 * dk O p + (O (23 + 10 * dk O p) - 1 - z)) = p)
noncomputable def ab (O : OF) (p : Int) : Int := @dite Int (∃ z, isA O p z) (Classical.propDecidable _) (fun h => Classical.choose h) (fun _ => 0)
theorem ab_is (O : OF) (p : Int) : isA O p (ab O p) := by
  have h : ∃ z, isA O p z := by
    by_cases h : dk O p < 0
    · exact ⟨0, Or.inl ⟨h, rfl⟩⟩
    · obtain ⟨_, k, g0, g1, g2⟩ := dk_on (O := O) (p := p) (by omega)
      exact ⟨O (23 + 10 * dk O p) - 1 - k, Or.inr ⟨by omega, by omega, by omega, (congrArg O (by omega)).trans g2⟩⟩
  unfold ab
  rw [dif_pos h]
  exact Classical.choose_spec h
theorem isA_u {O : OF} {p z : Int} (hV : Val O) (h : isA O p z) : ab O p = z := by
  rcases ab_is O p with ⟨e, g⟩ | ⟨g0, g1, g2, g3⟩
  · rcases h with ⟨_, h⟩ | ⟨h0, _⟩
    · rw [g, h]
    · omega
  · rcases h with ⟨h, _⟩ | ⟨h0, h1, h2, h3⟩
    · omega
    · have hd := dk_on g0
      have := (hV.u (k := O (23 + 10 * dk O p) - 1 - ab O p) (k2 := O (23 + 10 * dk O p) - 1 - z) g0 hd.1 (by omega) (by omega) g0 hd.1 (by omega) (by omega) (g3.trans h3.symm)).2
      omega
def mis (O : OF) (p : Int) : Prop := O (65 + 4 * p) < 12 ∧ ¬ O (66 + 4 * p) = 1 ∧ (dk O p < 0 ∨ O (65 + 4 * p) < O 2)
/-- the worth of a set's sheets -/
noncomputable def wsum (O : OF) (f : Int → Prop) : Nat → Int
  | 0 => 0
  | n + 1 => wsum O f n + bI (f n) * O (64 + 4 * n)
theorem wsum_congr {O : OF} {f g : Int → Prop} : ∀ {n : Nat}, (∀ p : Int, 0 ≤ p → p < n → (f p ↔ g p)) → wsum O f n = wsum O g n
  | 0, _ => rfl
  | n + 1, h => by
    show wsum O f n + _ = wsum O g n + _
    rw [wsum_congr (n := n) (fun p h0 h1 => h p h0 (by omega)), bI_c (h n (by omega) (by omega))]
theorem wsum_le {O : OF} {f : Int → Prop} (hV : Val O) : ∀ {n : Nat}, (n : Int) ≤ O 1 → 0 ≤ wsum O f n ∧ wsum O f n ≤ 99 * n
  | 0, _ => by simp [wsum]
  | n + 1, h => by
    have ih := wsum_le (f := f) hV (n := n) (by omega)
    have hp := hV.p (p := n) (by omega) (by omega)
    show 0 ≤ wsum O f n + bI (f n) * O (64 + 4 * n) ∧ wsum O f n + bI (f n) * O (64 + 4 * n) ≤ 99 * ((n + 1 : Nat) : Int)
    by_cases q : f n
    · rw [bI_t q]; push_cast; omega
    · rw [bI_f q]; push_cast; omega
/-- the sheet of a desk that lies t below the uppermost -/
def tp (O : OF) (d t : Int) : Int := O (24 + 10 * d + (O (23 + 10 * d) - 1 - t))
/-- the worth of the uppermost n of a desk -/
def lsum (O : OF) (d : Int) : Nat → Int
  | 0 => 0
  | n + 1 => lsum O d n + O (64 + 4 * tp O d n)
theorem lsum_le {O : OF} {d : Int} (hV : Val O) (h0 : 0 ≤ d) (h1 : d < O 0) : ∀ {n : Nat}, (n : Int) ≤ O (23 + 10 * d) → 0 ≤ lsum O d n ∧ lsum O d n ≤ 99 * n
  | 0, _ => by simp [lsum]
  | n + 1, h => by
    have ih := lsum_le hV h0 h1 (n := n) (by omega)
    have hk := hV.k (d := d) (k := O (23 + 10 * d) - 1 - n) h0 h1 (by omega) (by omega)
    have hp := hV.p hk.1 hk.2
    show 0 ≤ lsum O d n + O (64 + 4 * tp O d n) ∧ lsum O d n + O (64 + 4 * tp O d n) ≤ 99 * ((n + 1 : Nat) : Int)
    unfold tp
    push_cast
    omega
/-- lost from a desk by n gusts -/
noncomputable def lost (O : OF) (d n : Int) : Int := lsum O d (tfv O d n.toNat).toNat
theorem tfv_le {O : OF} {d : Int} (n : Nat) (hV : Val O) (h0 : 0 ≤ d) (h1 : d < O 0) : 0 ≤ tfv O d n ∧ tfv O d n ≤ n ∧ tfv O d n ≤ O (23 + 10 * d) := by
  obtain ⟨a, b, c, _⟩ := tfv_Tf O d n
  have := hV.d h0 h1
  omega
theorem lost_le {O : OF} {d n : Int} (hV : Val O) (h0 : 0 ≤ d) (h1 : d < O 0) : 0 ≤ lost O d n ∧ lost O d n ≤ 891 := by
  have h := tfv_le n.toNat hV h0 h1
  have hd := hV.d h0 h1
  have := lsum_le hV h0 h1 (n := (tfv O d n.toNat).toNat) (by omega)
  unfold lost
  omega
/-- what the gust behind e others takes; what n take -/
def tbg (O : OF) (e p : Int) : Prop := ∃ d, 0 ≤ d ∧ d < O 0 ∧ e < tfv O d (e + 1).toNat ∧ p = tp O d e
def tbn (O : OF) (d e p : Int) : Prop := ∃ d2, 0 ≤ d2 ∧ d2 < d ∧ e < tfv O d2 (e + 1).toNat ∧ p = tp O d2 e
def tkn (O : OF) (n p : Int) : Prop := ∃ e, 0 ≤ e ∧ e < n ∧ tbg O e p
noncomputable def liu (O : OF) (p d : Int) : Int := bI (O (16 + 2 * d) < O (23 + 10 * d) ∧ ¬ slat O p) * O (64 + 4 * p)
noncomputable def lth (O : OF) (d : Int) : Int := bI (O (16 + 2 * d) ≤ O (23 + 10 * d) - 3 ∧ ¬ slat O (tp O d 2)) * O (64 + 4 * tp O d 2)
/-- the place of least worth among the lowest n + 1 of a desk -/
def lon (O : OF) (d : Int) : Nat → Int
  | 0 => 0
  | n + 1 => if O (64 + 4 * O (24 + 10 * d + (n + 1))) < O (64 + 4 * O (24 + 10 * d + lon O d n)) then n + 1 else lon O d n
theorem lon_le (O : OF) (d : Int) : ∀ n : Nat, 0 ≤ lon O d n ∧ lon O d n ≤ n
  | 0 => by simp [lon]
  | n + 1 => by
    have ih := lon_le O d n
    unfold lon
    split <;> push_cast <;> omega
end
section
/-! ===== steps of the words ===== -/
theorem bs_skip {f : Int → Prop} {p : Int} {n : Nat} (h : ¬ f p) : bset (fun x => x < p ∧ f x) n = bset (fun x => x < p + 1 ∧ f x) n :=
  bset_congr fun x _ _ => ⟨fun q => ⟨by omega, q.2⟩, fun q => ⟨by
    have : x ≠ p := fun e => h (e ▸ q.2)
    omega, q.2⟩⟩
theorem bs_take {f : Int → Prop} {p : Int} {n : Nat} (h : f p) : bset (fun x => (x < p ∧ f x) ∨ x = p) n = bset (fun x => x < p + 1 ∧ f x) n :=
  bset_congr fun x _ _ => ⟨fun q => by
    rcases q with q | q
    · exact ⟨by omega, q.2⟩
    · exact ⟨by omega, q ▸ h⟩, fun q => by
    by_cases e : x = p
    · exact Or.inr e
    · exact Or.inl ⟨by omega, q.2⟩⟩
theorem bs_all {n : Int} (h0 : 0 ≤ n) (h1 : n ≤ 16) : ((2 ^ n.toNat : Nat) : Int) - 1 = ((bset (fun x => x < n) 16 : Nat) : Int) := by
  obtain ⟨k, rfl⟩ : ∃ k : Nat, n = k := ⟨n.toNat, by omega⟩
  have key : bset (fun x => x < (k : Int)) 16 = 2 ^ k - 1 := by
    apply Nat.eq_of_testBit_eq
    intro i
    apply Bool.eq_iff_iff.mpr
    rw [bset_bit, Nat.testBit_two_pow_sub_one]
    simp
    omega
  rw [key, Int.toNat_natCast]
  have : 1 ≤ 2 ^ k := Nat.one_le_two_pow
  omega
theorem bs_andn {f g : Int → Prop} : iI ((bset f 16 : Nat) : Int) &&& iI (-1 - ((bset g 16 : Nat) : Int)) = iI ((bset (fun x => f x ∧ ¬ g x) 16 : Nat) : Int) := by
  have ha := bset_lt f 16
  have hb := bset_lt g 16
  have hc := bset_lt (fun x => f x ∧ ¬ g x) 16
  rw [← iI_not, iI_n, iI_n, iI_n]
  apply Int32.toBitVec_inj.mp
  rw [Int32.toBitVec_and, Int32.toBitVec_xor, show (iI (-1)).toBitVec = BitVec.allOnes 32 from by decide, BitVec.xor_allOnes]
  apply BitVec.eq_of_getLsbD_eq
  intro i hi
  rw [BitVec.getLsbD_and, BitVec.getLsbD_not]
  have e : ∀ {h : Int → Prop}, (nI (bset h 16)).toBitVec.getLsbD i = (bset h 16).testBit i := by
    intro h
    have hh := bset_lt h 16
    rw [BitVec.getLsbD, nI_bv (by omega)]
  rw [e, e, e]
  apply Bool.eq_iff_iff.mpr
  simp only [Bool.and_eq_true, bset_bit, decide_eq_true_eq, Bool.not_eq_true']
  constructor
  · rintro ⟨⟨h1, h2⟩, h3, h4⟩
    refine ⟨h1, h2, fun q => ?_⟩
    have := (bset_bit g 16 i).mpr ⟨h1, q⟩
    rw [this] at h4
    cases h4
  · rintro ⟨h1, h2, h3⟩
    refine ⟨⟨h1, h2⟩, hi, ?_⟩
    rcases Bool.eq_false_or_eq_true ((bset g 16).testBit i) with q | q
    · exact absurd ((bset_bit g 16 i).mp q).2 h3
    · exact q
theorem bs_or {f g : Int → Prop} : iI ((bset f 16 : Nat) : Int) ||| iI ((bset g 16 : Nat) : Int) = iI ((bset (fun x => f x ∨ g x) 16 : Nat) : Int) := by
  have ha := bset_lt f 16
  have hb := bset_lt g 16
  rw [iI_or (by omega) (by omega), bset_or]
theorem bs_c {f g : Int → Prop} {n : Nat} (h : ∀ p : Int, 0 ≤ p → p < n → (f p ↔ g p)) : iI ((bset f n : Nat) : Int) = iI ((bset g n : Nat) : Int) := by
  rw [bset_congr h]
theorem bs_c' {f g : Int → Prop} {n : Nat} (h : ∀ p : Int, 0 ≤ p → p < n → (f p ↔ g p)) : ((bset f n : Nat) : Int) = ((bset g n : Nat) : Int) := by
  rw [bset_congr h]
theorem bs_0 {f : Int → Prop} {n : Nat} (h : ∀ p : Int, 0 ≤ p → p < n → ¬ f p) : (0 : Int) = ((bset f n : Nat) : Int) := by
  rw [bset_none h]; rfl
theorem bs_le {f : Int → Prop} : 0 ≤ ((bset f 16 : Nat) : Int) ∧ ((bset f 16 : Nat) : Int) < 65536 := by
  have := bset_lt f 16
  omega
theorem rg_bs {f : Int → Prop} : rg ((bset f 16 : Nat) : Int) := by
  have := bs_le (f := f)
  unfold rg; omega
theorem wsum_s {O : OF} {f : Int → Prop} {i : Int} (h : 0 ≤ i) : wsum O f (i + 1).toNat = wsum O f i.toNat + bI (f i) * O (64 + 4 * i) := by
  obtain ⟨n, rfl⟩ : ∃ n : Nat, i = n := ⟨i.toNat, by omega⟩
  rw [show ((n : Int) + 1).toNat = n + 1 by omega, Int.toNat_natCast]
  rfl
theorem tfv_of {O : OF} {d n t : Int} (h0 : 0 ≤ n) (h : Tf O d n t) : tfv O d n.toNat = t := by
  have g := tfv_Tf O d n.toNat
  rw [Int.toNat_of_nonneg h0] at g
  exact Tf.uniq g h
theorem lsum_p {O : OF} {d t : Int} (h : 0 < t) : lsum O d t.toNat = lsum O d (t - 1).toNat + O (64 + 4 * O (24 + 10 * d + (O (23 + 10 * d) - t))) := by
  obtain ⟨n, rfl⟩ : ∃ n : Nat, t = n + 1 := ⟨(t - 1).toNat, by omega⟩
  rw [show ((n : Int) + 1).toNat = n + 1 by omega, show ((n : Int) + 1 - 1).toNat = n by omega]
  show lsum O d n + O (64 + 4 * tp O d n) = _
  unfold tp
  rw [show O (23 + 10 * d) - ((n : Int) + 1) = O (23 + 10 * d) - 1 - n by omega]
theorem tbn_s {O : OF} {d e p : Int} (h : 0 ≤ d) : tbn O (d + 1) e p ↔ tbn O d e p ∨ (e < tfv O d (e + 1).toNat ∧ p = tp O d e) := by
  constructor
  · rintro ⟨d2, h0, h1, h2, h3⟩
    by_cases q : d2 = d
    · subst q; exact Or.inr ⟨h2, h3⟩
    · exact Or.inl ⟨d2, h0, by omega, h2, h3⟩
  · rintro (⟨d2, h0, h1, h2⟩ | h2)
    · exact ⟨d2, h0, by omega, h2⟩
    · exact ⟨d, h, by omega, h2⟩
theorem tkn_s {O : OF} {e p : Int} (h : 0 ≤ e) : tkn O (e + 1) p ↔ tkn O e p ∨ tbg O e p := by
  constructor
  · rintro ⟨e2, h0, h1, h2⟩
    by_cases q : e2 = e
    · subst q; exact Or.inr h2
    · exact Or.inl ⟨e2, h0, by omega, h2⟩
  · rintro (⟨e2, h0, h1, h2⟩ | h2)
    · exact ⟨e2, h0, by omega, h2⟩
    · exact ⟨e, h, by omega, h2⟩
theorem lon_s {O : OF} {d k : Int} (h : 1 ≤ k) : lon O d k.toNat = if O (64 + 4 * O (24 + 10 * d + k)) < O (64 + 4 * O (24 + 10 * d + lon O d (k - 1).toNat)) then k else lon O d (k - 1).toNat := by
  obtain ⟨n, rfl⟩ : ∃ n : Nat, k = n + 1 := ⟨(k - 1).toNat, by omega⟩
  rw [show ((n : Int) + 1).toNat = n + 1 by omega, show ((n : Int) + 1 - 1).toNat = n by omega]
  rfl
end
section
/-! ===== more rows: lcmp with its branch; a whole row of numbers replaced ===== -/
def upA (I : HD) (h : Nat) (f : Int → Int) : HD := fun a => if a = h then f else I a
theorem upA_s {I : HD} {h : Nat} {f : Int → Int} : upA I h f h = f := by simp [upA]
theorem upA_h {I : HD} {h a : Nat} {f : Int → Int} (n : a ≠ h) : upA I h f a = I a := by simp [upA, n]
theorem upA_u {I : HD} {h : Nat} {f : Int → Int} {i z : Int} : up (upA I h f) h i z = upA I h (fun b => if b = i then z else f b) := by
  funext a b
  unfold up upA
  by_cases q : a = h
  · subst q
    by_cases r : b = i
    · simp [r]
    · simp [r]
  · simp [q]
theorem upA_i {I : HD} {h : Nat} {i z : Int} : up I h i z = upA I h (fun b => if b = i then z else I h b) := by
  funext a b
  unfold up upA
  by_cases q : a = h
  · subst q
    by_cases r : b = i
    · simp [r]
    · simp [r]
  · simp [q]
theorem upA_A {I : HD} {h : Nat} {f g : Int → Int} : upA (upA I h f) h g = upA I h g := by
  funext a
  unfold upA
  by_cases q : a = h
  · simp [q]
  · simp [q]
theorem upA_id {I : HD} {h : Nat} : upA I h (I h) = I := by
  funext a
  unfold upA
  by_cases q : a = h
  · simp [q]
  · simp [q]
theorem up_row {I : HD} {h a : Nat} {i z : Int} (n : a ≠ h) : up I h i z a = I a := by
  funext b
  exact up_h n
theorem lgc {a b : Int} (ha : rl a) (hb : rl b) : lg_cmp (iL a) (iL b) = iI (if a < b then -1 else if a = b then 0 else 1) := by
  have e1 := rl_lt hb ha
  have e2 := rl_eq ha hb
  show (if iL b < iL a then (1 : Int32) else if iL a = iL b then 0 else -1) = _
  by_cases h : a < b
  · rw [if_neg (fun z => by have := e1.mp z; omega), if_neg (fun z => by have := e2.mp z; omega), if_pos h]; rfl
  · by_cases q : a = b
    · rw [if_neg (fun z => by have := e1.mp z; omega), if_pos (e2.mpr q), if_neg h, if_pos q]; rfl
    · rw [if_pos (e1.mpr (by omega)), if_neg h, if_neg q]; rfl
theorem r_lcif_eq {X : XC} {D : Nat} {M : MR} {K : KP} {pc : Nat} {lv : List (Nat × Value)} {st : List Value} {I : HD} {a b off : Int} (tgt : Nat) (ha : rl a) (hb0 : rl b) (hd : decode M.2.1 pc = .ok (.lcmp, 1)) (hd2 : decode M.2.1 (pc + 1) = .ok (.ifCond .eq off, 3)) (ht : ((pc + 1 : Nat) : Int) + off = (tgt : Int)) (kt : a = b → Rn X D M K tgt lv st I) (kf : ¬ a = b → Rn X D M K (pc + 4) lv st I) : Rn X D M K pc lv (jv b :: jv a :: st) I := by
  refine r_lcmp hd ?_
  rw [lgc ha hb0]
  refine r_if_eq tgt (by unfold rg; split <;> (try split) <;> omega) hd2 ht (fun h => kt ?_) (fun h => kf ?_)
  · revert h; split <;> (try split) <;> intro h <;> omega
  · revert h; split <;> (try split) <;> intro h <;> omega
theorem r_lcif_ne {X : XC} {D : Nat} {M : MR} {K : KP} {pc : Nat} {lv : List (Nat × Value)} {st : List Value} {I : HD} {a b off : Int} (tgt : Nat) (ha : rl a) (hb0 : rl b) (hd : decode M.2.1 pc = .ok (.lcmp, 1)) (hd2 : decode M.2.1 (pc + 1) = .ok (.ifCond .ne off, 3)) (ht : ((pc + 1 : Nat) : Int) + off = (tgt : Int)) (kt : ¬ a = b → Rn X D M K tgt lv st I) (kf : a = b → Rn X D M K (pc + 4) lv st I) : Rn X D M K pc lv (jv b :: jv a :: st) I := by
  refine r_lcmp hd ?_
  rw [lgc ha hb0]
  refine r_if_ne tgt (by unfold rg; split <;> (try split) <;> omega) hd2 ht (fun h => kt ?_) (fun h => kf ?_)
  · revert h; split <;> (try split) <;> intro h <;> omega
  · revert h; split <;> (try split) <;> intro h <;> omega
theorem r_lcif_lt {X : XC} {D : Nat} {M : MR} {K : KP} {pc : Nat} {lv : List (Nat × Value)} {st : List Value} {I : HD} {a b off : Int} (tgt : Nat) (ha : rl a) (hb0 : rl b) (hd : decode M.2.1 pc = .ok (.lcmp, 1)) (hd2 : decode M.2.1 (pc + 1) = .ok (.ifCond .lt off, 3)) (ht : ((pc + 1 : Nat) : Int) + off = (tgt : Int)) (kt : a < b → Rn X D M K tgt lv st I) (kf : b ≤ a → Rn X D M K (pc + 4) lv st I) : Rn X D M K pc lv (jv b :: jv a :: st) I := by
  refine r_lcmp hd ?_
  rw [lgc ha hb0]
  refine r_if_lt tgt (by unfold rg; split <;> (try split) <;> omega) hd2 ht (fun h => kt ?_) (fun h => kf ?_)
  · revert h; split <;> (try split) <;> intro h <;> omega
  · revert h; split <;> (try split) <;> intro h <;> omega
theorem r_lcif_ge {X : XC} {D : Nat} {M : MR} {K : KP} {pc : Nat} {lv : List (Nat × Value)} {st : List Value} {I : HD} {a b off : Int} (tgt : Nat) (ha : rl a) (hb0 : rl b) (hd : decode M.2.1 pc = .ok (.lcmp, 1)) (hd2 : decode M.2.1 (pc + 1) = .ok (.ifCond .ge off, 3)) (ht : ((pc + 1 : Nat) : Int) + off = (tgt : Int)) (kt : b ≤ a → Rn X D M K tgt lv st I) (kf : a < b → Rn X D M K (pc + 4) lv st I) : Rn X D M K pc lv (jv b :: jv a :: st) I := by
  refine r_lcmp hd ?_
  rw [lgc ha hb0]
  refine r_if_ge tgt (by unfold rg; split <;> (try split) <;> omega) hd2 ht (fun h => kt ?_) (fun h => kf ?_)
  · revert h; split <;> (try split) <;> intro h <;> omega
  · revert h; split <;> (try split) <;> intro h <;> omega
theorem r_lcif_gt {X : XC} {D : Nat} {M : MR} {K : KP} {pc : Nat} {lv : List (Nat × Value)} {st : List Value} {I : HD} {a b off : Int} (tgt : Nat) (ha : rl a) (hb0 : rl b) (hd : decode M.2.1 pc = .ok (.lcmp, 1)) (hd2 : decode M.2.1 (pc + 1) = .ok (.ifCond .gt off, 3)) (ht : ((pc + 1 : Nat) : Int) + off = (tgt : Int)) (kt : b < a → Rn X D M K tgt lv st I) (kf : a ≤ b → Rn X D M K (pc + 4) lv st I) : Rn X D M K pc lv (jv b :: jv a :: st) I := by
  refine r_lcmp hd ?_
  rw [lgc ha hb0]
  refine r_if_gt tgt (by unfold rg; split <;> (try split) <;> omega) hd2 ht (fun h => kt ?_) (fun h => kf ?_)
  · revert h; split <;> (try split) <;> intro h <;> omega
  · revert h; split <;> (try split) <;> intro h <;> omega
theorem r_lcif_le {X : XC} {D : Nat} {M : MR} {K : KP} {pc : Nat} {lv : List (Nat × Value)} {st : List Value} {I : HD} {a b off : Int} (tgt : Nat) (ha : rl a) (hb0 : rl b) (hd : decode M.2.1 pc = .ok (.lcmp, 1)) (hd2 : decode M.2.1 (pc + 1) = .ok (.ifCond .le off, 3)) (ht : ((pc + 1 : Nat) : Int) + off = (tgt : Int)) (kt : a ≤ b → Rn X D M K tgt lv st I) (kf : b < a → Rn X D M K (pc + 4) lv st I) : Rn X D M K pc lv (jv b :: jv a :: st) I := by
  refine r_lcmp hd ?_
  rw [lgc ha hb0]
  refine r_if_le tgt (by unfold rg; split <;> (try split) <;> omega) hd2 ht (fun h => kt ?_) (fun h => kf ?_)
  · revert h; split <;> (try split) <;> intro h <;> omega
  · revert h; split <;> (try split) <;> intro h <;> omega
end
section
/-! ===== words for the reference ===== -/
noncomputable def dkN (O : OF) (p : Int) : Int := if dk O p < 0 then -1000000 else dk O p
theorem dkN_a {O : OF} {p : Int} (h : dk O p < 0) : dkN O p = -1000000 := if_pos h
theorem dkN_b {O : OF} {p : Int} (h : 0 ≤ dk O p) : dkN O p = dk O p := if_neg (by omega)
theorem nar_bI {P : Prop} : narrow .boolean (iv (bI P)) = iv (bI P) := by
  by_cases h : P
  · rw [bI_t h]; rfl
  · rw [bI_f h]; rfl
/-- a place of a desk where a sheet lies -/
def isPl (O : OF) (d p z : Int) : Prop := 0 ≤ z ∧ z < O (23 + 10 * d) ∧ O (24 + 10 * d + z) = p
/-- the uppermost sheet that the gust behind e others takes from a desk, else -1000000 -/
noncomputable def tpN (O : OF) (d : Int) (e : Int) : Int := if e < tfv O d (e + 1).toNat then tp O d e else -1000000
theorem tfv_s {O : OF} {d e : Int} (h : 0 ≤ e) : tfv O d (e + 1).toNat = if e < tfv O d (e + 1).toNat then tfv O d e.toNat + 1 else tfv O d e.toNat := by
  obtain ⟨n, rfl⟩ : ∃ n : Nat, e = n := ⟨e.toNat, by omega⟩
  rw [show ((n : Int) + 1).toNat = n + 1 by omega, Int.toNat_natCast]
  have g := (tfv_Tf O d n).2.1
  by_cases q : tfv O d n = n ∧ (n : Int) < O (23 + 10 * d) - O (16 + 2 * d) ∧ ¬ slat O (O (24 + 10 * d + (O (23 + 10 * d) - 1 - n)))
  · rw [show tfv O d (n + 1) = n + 1 from if_pos q, if_pos (by omega), q.1]
  · rw [show tfv O d (n + 1) = tfv O d n from if_neg q, if_neg (by omega)]
/-- the gust behind e others takes one of a desk: exactly if e were taken, one may yet go and it is no slate -/
theorem tfv_i {O : OF} {d e : Int} (h : 0 ≤ e) : e < tfv O d (e + 1).toNat ↔ (O (16 + 2 * d) < O (23 + 10 * d) - tfv O d e.toNat ∧ ¬ slat O (tp O d (tfv O d e.toNat))) := by
  obtain ⟨n, rfl⟩ : ∃ n : Nat, e = n := ⟨e.toNat, by omega⟩
  rw [show ((n : Int) + 1).toNat = n + 1 by omega, Int.toNat_natCast]
  obtain ⟨g1, g2, g3, g4, g5⟩ := tfv_Tf O d n
  by_cases q : tfv O d n = n ∧ (n : Int) < O (23 + 10 * d) - O (16 + 2 * d) ∧ ¬ slat O (O (24 + 10 * d + (O (23 + 10 * d) - 1 - n)))
  · rw [show tfv O d (n + 1) = n + 1 from if_pos q]
    constructor
    · intro _
      refine ⟨by omega, ?_⟩
      rw [q.1]; exact q.2.2
    · intro _; omega
  · rw [show tfv O d (n + 1) = tfv O d n from if_neg q]
    constructor
    · intro z; omega
    · rintro ⟨z1, z2⟩
      exfalso
      rcases g5 with e | e | e
      · rw [e] at z2
        exact q ⟨e, by omega, z2⟩
      · omega
      · exact z2 e
theorem tfv_e {O : OF} {d e : Int} (h : 0 ≤ e) (q : e < tfv O d (e + 1).toNat) : tfv O d e.toNat = e := by
  obtain ⟨n, rfl⟩ : ∃ n : Nat, e = n := ⟨e.toNat, by omega⟩
  have e1 := tfv_s (O := O) (d := d) (e := (n : Int)) h
  rw [if_pos q] at e1
  have g := (tfv_Tf O d n).2.1
  rw [Int.toNat_natCast] at e1 ⊢
  omega
theorem dkN_or (O : OF) (p : Int) : (dk O p < 0 ∧ dkN O p = -1000000) ∨ (0 ≤ dk O p ∧ dkN O p = dk O p) := by
  rcases (by omega : dk O p < 0 ∨ 0 ≤ dk O p) with z | z
  · exact Or.inl ⟨z, dkN_a z⟩
  · exact Or.inr ⟨z, dkN_b z⟩
end
section
/-! ===== arraycopy; offices changed ===== -/
def cpyF (f g : Int → Int) (sp dp n : Int) : Int → Int := fun k => if dp ≤ k ∧ k < dp + n then f (sp + (k - dp)) else g k
theorem cpy_iI {f g : Int → Int} {sp dp n : Int} (h1 : 0 ≤ sp) (h2 : 0 ≤ dp) (h3 : 0 ≤ n) : (fun j : Nat => iI (cpyF f g sp dp n j)) = va_cpy (fun j : Nat => iI (f j)) (fun j : Nat => iI (g j)) sp.toNat dp.toNat n.toNat := by
  funext j
  unfold cpyF va_cpy
  by_cases q : dp ≤ (j : Int) ∧ (j : Int) < dp + n
  · rw [if_pos q, if_pos (by omega)]
    rw [show sp + ((j : Int) - dp) = ((sp.toNat + (j - dp.toNat) : Nat) : Int) by omega]
  · rw [if_neg q, if_neg (by omega)]
theorem wl_setA {X : XC} {I : HD} {h : Nat} {f : Int → Int} {e : va_E} (hh : h < NN) (he : cell X (upA I h f) h = e) : (wl X I).set h (X.2.2.1 h, e) = wl X (upA I h f) := by
  apply List.ext_getElem?
  intro k
  rw [List.getElem?_set]
  by_cases hk : h = k
  · subst hk
    rw [if_pos rfl, wl_get hh, he]
    simp [wl, hh]
  · rw [if_neg hk]
    by_cases q : k < NN
    · rw [wl_get q, wl_get q]
      rw [cell_c (I := I) (I2 := upA I h f) (fun j => by rw [upA_h (fun z => hk z.symm)])]
    · rw [List.getElem?_eq_none (by simp [wl]; omega), List.getElem?_eq_none (by simp [wl]; omega)]
theorem mo_copy : Cond.native arraycopyName ∈ lw_tbl ∧ Cond.static arraycopyName ∈ lw_good ∧ Cond.initialized "java/lang/System" ∈ lw_good := ⟨by decide +kernel, lw_gd (by decide +kernel) (by decide +kernel), lw_gd (by decide +kernel) (by decide +kernel)⟩
theorem mo_nat : goodWord (Cond.native arraycopyName) = true := by decide +kernel
theorem r_copy {X : XC} {D : Nat} {M : MR} {K : KP} {pc : Nat} {lv : List (Nat × Value)} {st : List Value} {I : HD} {h g n0 n1 idx : Nat} {sp dp n : Int} (hh : h < NN) (hg : g < NN) (hc : cell X I h = oiv X I h 0 n0) (hc2 : ∀ I2, cell X I2 g = oiv X I2 g 0 n1) (h1 : 0 ≤ sp) (h2 : 0 ≤ dp) (h3 : 0 ≤ n) (h4 : sp + n ≤ n0) (h5 : dp + n ≤ n1) (hb1 : n0 < 100000) (hb2 : n1 < 100000) (hD : 0 < D) (hst : (st.map fun v => v.category).sum ≤ 8) (hk : Cond.methodLink M.1.cls idx arraycopyName ∈ lw_good) (hd : decode M.2.1 pc = .ok (.invokestatic idx, 3)) (k : Rn X D M K (pc + 3) lv st (upA I g (cpyF (I h) (I g) sp dp n))) : Rn X D M K pc lv (iv n :: iv dp :: rv X g :: iv sp :: rv X h :: st) I := by
  intro p e s m args below meth c H locs ls hx hb hml hr hlk hown hts hC hP hS hl
  have hw : ∀ {w : Cond}, w ∈ lw_good → w.before args s = true := fun h => hts _ (List.mem_cons_of_mem _ h)
  have r0 : ∀ {z : Int}, 0 ≤ z → z < 200000 → (iI z).toNatClampNeg = z.toNat ∧ ¬ iI z < 0 := fun {z} a b => ⟨rg_cl (by unfold rg; omega) a, fun q => by
    have := (rg_lt (a := z) (b := 0) (by unfold rg; omega) rg_0).mp q
    omega⟩
  have a1 := r0 h1 (by omega)
  have a2 := r0 h2 (by omega)
  have a3 := r0 h3 (by omega)
  have hF : 1 ≤ (rmD D).frames := hD
  have hL : (st.map fun v => v.category).sum + (nativeFrameWords "java/lang/System" "arraycopy" 5 + 11) ≤ (rmD D).locals := by
    have e1 : nativeFrameWords "java/lang/System" "arraycopy" 5 + 11 ≤ 32 := by decide +kernel
    have e2 : (rmD D).locals = 40 * D := rfl
    omega
  refine va_copyi hx hb (hml.trans hl.1.symm) hown (hw hk) (hw (lw_gd mo_copy.1 mo_nat)) (hw mo_copy.2.1) (hw mo_copy.2.2) hC.1 hP (wl_D hC.2.2) hS h g 0 0 (by rw [wl_get hh, hc]; rfl) (by rw [wl_get hg, hc2]; rfl) rfl rfl rfl a1.2 a2.2 a3.2 (by rw [a1.1, a3.1]; omega) (by rw [a2.1, a3.1]; omega) (fun _ _ => rfl) hF hL hd (fun H1 locs1 hP1 _ hS1 => ?_)
  rw [a1.1, a2.1, a3.1, wl_setA (f := cpyF (I h) (I g) sp dp n) hg (by rw [hc2]; unfold oiv; rw [upA_s, cpy_iI h1 h2 h3])] at hP1
  exact k p e s m args below meth c H1 locs1 ls hx hb hml hr hlk hown hts hC hP1 hS1 hl
/-- nothing but the office o is changed -/
def frO (I J : HD) (o : Nat) : Prop := ∀ a, (a < oH o ∨ oH o + 9 ≤ a) → J a = I a
theorem frO.rf {I : HD} {o : Nat} : frO I I o := fun _ _ => rfl
theorem frO.tr {I J L : HD} {o : Nat} (h : frO I J o) (g : frO J L o) : frO I L o := fun a q => (g a q).trans (h a q)
theorem frO.up {I J : HD} {o h : Nat} {i z : Int} (g : frO I J o) (h1 : oH o ≤ h) (h2 : h < oH o + 9) : frO I (up J h i z) o := fun a q => by
  rw [up_row (by omega)]
  exact g a q
theorem frO.upA {I J : HD} {o h : Nat} {f : Int → Int} (g : frO I J o) (h1 : oH o ≤ h) (h2 : h < oH o + 9) : frO I (upA J h f) o := fun a q => by
  rw [upA_h (by omega)]
  exact g a q
/-- an office holds what another held -/
def ofC (I J : HD) (s t : Nat) : Prop := (∀ j, 8 ≤ j → j < 12 → J (oH t) j = I (oH s) j) ∧ (∀ q, 0 ≤ q → q < 12 → J (oH t + 1) q = I (oH s + 1) q) ∧ (∀ q, 0 ≤ q → q < 4 → J (oH t + 2) q = I (oH s + 2) q ∧ J (oH t + 3) q = I (oH s + 3) q ∧ J (oH t + 4) q = I (oH s + 4) q) ∧ (∀ q, 0 ≤ q → q < 36 → J (oH t + 5) q = I (oH s + 5) q) ∧ (∀ q, 0 ≤ q → q < 16 → J (oH t + 6) q = I (oH s + 6) q ∧ J (oH t + 7) q = I (oH s + 7) q ∧ J (oH t + 8) q = I (oH s + 8) q)
theorem RepC.of {O : OF} {I J : HD} {s t : Nat} (hV : Val O) (h : RepC O I s) (c : ofC I J s t) : RepC O J t := by
  obtain ⟨c1, c2, c3, c4, c5⟩ := c
  have v := hV.a
  refine ⟨⟨(c1 8 (by omega) (by omega)).trans h.f0, (c1 9 (by omega) (by omega)).trans h.f1, (c1 10 (by omega) (by omega)).trans h.f2⟩, fun q a b => (c2 q a b).trans (h.wind a b), fun d a b => ?_, fun d k a b e f => ?_, fun p a b => ?_, (c1 11 (by omega) (by omega)).trans h.met⟩
  · obtain ⟨x, y, z⟩ := c3 d a (by omega)
    exact ⟨x.trans (h.room a b), y.trans (h.ston a b), z.trans (h.hgt a b)⟩
  · have vd := hV.d a b
    exact (c4 (d * 9 + k) (by omega) (by omega)).trans (h.pile a b e f)
  · obtain ⟨x, y, z⟩ := c5 p a (by omega)
    exact ⟨x.trans (h.sort a b), y.trans (h.wrth a b), z.trans (h.need a b)⟩
theorem RepC.fr {O : OF} {I J : HD} {o : Nat} (h : RepC O I o) (e : ∀ a, oH o ≤ a → a < oH o + 9 → J a = I a) : RepC O J o := by
  unfold RepC
  rw [e (oH o) (by omega) (by omega), e (oH o + 1) (by omega) (by omega), e (oH o + 2) (by omega) (by omega), e (oH o + 3) (by omega) (by omega), e (oH o + 4) (by omega) (by omega), e (oH o + 5) (by omega) (by omega), e (oH o + 6) (by omega) (by omega), e (oH o + 7) (by omega) (by omega), e (oH o + 8) (by omega) (by omega)]
  exact h
theorem Cl.mono {X : XC} {D : Nat} {M : MR} {av : List Value} {I : HD} {K K2 : KP} (hK : ∀ r J, K r J → K2 r J) (h : Cl X D M av I K) : Cl X D M av I K2 := by
  intro p e ha hc hk s m args below hf hfit hheap happ
  obtain ⟨n, o, h1, h2, h3, ⟨⟨r, J, q1, q2, q3⟩, q4⟩, h5⟩ := h p e ha hc hk s m args below hf hfit hheap happ
  exact ⟨n, o, h1, h2, h3, ⟨⟨r, J, q1, hK r J q2, q3⟩, q4⟩, h5⟩
theorem kmcp_X3 : Cond.methodLink RX3 49 arraycopyName ∈ lw_good := lw_gd (List.mem_of_getElem? (i := 543) (by decide +kernel)) (by decide +kernel)
theorem kmcp_X8 : Cond.methodLink RX8 104 arraycopyName ∈ lw_good := lw_gd (List.mem_of_getElem? (i := 368) (by decide +kernel)) (by decide +kernel)
theorem r_I {X : XC} {D : Nat} {M : MR} {K : KP} {pc : Nat} {lv : List (Nat × Value)} {st : List Value} {I : HD} {J : HD} (e : I = J) (k : Rn X D M K pc lv st J) : Rn X D M K pc lv st I := e ▸ k
/-- the first j arrays of an office are copied -/
def nOA (i : Nat) : Int := match i with
  | 1 => 12
  | 2 => 4
  | 3 => 4
  | 4 => 4
  | 5 => 36
  | _ => 16
def cpd (I J : HD) (s t j : Nat) : Prop := (∀ a, (a < oH t + 1 ∨ oH t + j < a) → J a = I a) ∧ ∀ (i : Nat) (q : Int), 1 ≤ i → i ≤ j → 0 ≤ q → q < nOA i → J (oH t + i) q = I (oH s + i) q
theorem cpd_0 {I : HD} {s t : Nat} : cpd I I s t 0 := ⟨fun _ _ => rfl, fun i q h1 h2 => by omega⟩
theorem cpd_s {I J L : HD} {s t j : Nat} {n : Int} (hst : s ≠ t) (hj : j < 8) (hn : n = nOA (j + 1)) (h : cpd I J s t j) (e : L = upA J (oH t + (j + 1)) (cpyF (J (oH s + (j + 1))) (J (oH t + (j + 1))) 0 0 n)) : cpd I L s t (j + 1) := by
  subst e
  refine ⟨fun a q => ?_, fun i q h1 h2 h3 h4 => ?_⟩
  · rw [upA_h (by omega)]
    exact h.1 a (by omega)
  · by_cases z : i = j + 1
    · subst z
      rw [upA_s]
      unfold cpyF
      rw [if_pos (by omega), h.1 (oH s + (j + 1)) (by
        show 45 + 9 * s + (j + 1) < 45 + 9 * t + 1 ∨ 45 + 9 * t + j < 45 + 9 * s + (j + 1)
        omega)]
      congr 1
      omega
    · rw [upA_h (by omega)]
      exact h.2 i q h1 (by omega) h3 h4
theorem cpd_8 {I J L : HD} {s t : Nat} (hst : s ≠ t) (h : cpd I J s t 8) (e : L = up (up (up (up J (oH t) 8 (J (oH s) 8)) (oH t) 9 (J (oH s) 9)) (oH t) 10 (J (oH s) 10)) (oH t) 11 (J (oH s) 11)) : frO I L t ∧ ofC I L s t := by
  have hs : J (oH s) = I (oH s) := h.1 _ (by show 45 + 9 * s < 45 + 9 * t + 1 ∨ 45 + 9 * t + 8 < 45 + 9 * s; omega)
  have hr : ∀ a, a ≠ oH t → L a = J a := fun a q => by rw [e, up_row q, up_row q, up_row q, up_row q]
  have hf : ∀ j, L (oH t) j = if j = 11 then I (oH s) 11 else if j = 10 then I (oH s) 10 else if j = 9 then I (oH s) 9 else if j = 8 then I (oH s) 8 else J (oH t) j := by
    intro j
    rw [e, hs]
    unfold up
    by_cases z1 : j = 11
    · simp [z1]
    · by_cases z2 : j = 10
      · simp [z2]
      · by_cases z3 : j = 9
        · simp [z3]
        · by_cases z4 : j = 8
          · simp [z4]
          · simp [z1, z2, z3, z4]
  have key : ∀ (i : Nat) (q : Int), 1 ≤ i → i ≤ 8 → 0 ≤ q → q < nOA i → L (oH t + i) q = I (oH s + i) q := fun i q a b c d => by
    rw [hr _ (by omega)]
    exact h.2 i q a b c d
  refine ⟨fun a q => ?_, fun j a b => ?_, fun q a b => key 1 q (by omega) (by omega) a b, fun q a b => ⟨key 2 q (by omega) (by omega) a b, key 3 q (by omega) (by omega) a b, key 4 q (by omega) (by omega) a b⟩, fun q a b => key 5 q (by omega) (by omega) a b, fun q a b => ⟨key 6 q (by omega) (by omega) a b, key 7 q (by omega) (by omega) a b, key 8 q (by omega) (by omega) a b⟩⟩
  · rw [hr a (by omega)]
    exact h.1 a (by omega)
  · rw [hf j]
    have : j = 8 ∨ j = 9 ∨ j = 10 ∨ j = 11 := by omega
    rcases this with rfl | rfl | rfl | rfl <;> simp
end
section
/-! ===== offices changed, in numbers ===== -/
def cmO (O : OF) (d p : Int) : OF := fun k => if k = 24 + 10 * d + O (23 + 10 * d) then p else if k = 23 + 10 * d then O (23 + 10 * d) + 1 else O k
def lvO (O : OF) (d z : Int) : OF := fun k => if 24 + 10 * d + z ≤ k ∧ k < 24 + 10 * d + (O (23 + 10 * d) - 1) then O (k + 1) else if k = 23 + 10 * d then O (23 + 10 * d) - 1 else O k
def shF (g : Int → Int) (a b : Int) : Int → Int := fun q => if a ≤ q ∧ q < b then g (q + 1) else g q
theorem shF_0 {g : Int → Int} {a : Int} : shF g a a = g := by
  funext q
  unfold shF
  rw [if_neg (by omega)]
theorem shF_s {I : HD} {h : Nat} {a b c z : Int} (hab : a ≤ b) (hc : c = b + 1) (hz : z = I h (b + 1)) : up (upA I h (shF (I h) a b)) h b z = upA I h (shF (I h) a c) := by
  rw [upA_u]
  congr 1
  funext q
  unfold shF
  subst hc hz
  by_cases e : q = b
  · subst e
    rw [if_pos rfl, if_pos (by omega)]
  · rw [if_neg e]
    by_cases e2 : a ≤ q ∧ q < b
    · rw [if_pos e2, if_pos (by omega)]
    · rw [if_neg e2, if_neg (by omega)]
theorem upA_z {I : HD} {h : Nat} : I = upA I h (I h) := upA_id.symm
theorem RepC.come {O : OF} {I J : HD} {o : Nat} {d p : Int} (hV : Val O) (hR : RepC O I o) (h0 : 0 ≤ d) (h1 : d < O 0) (hr : O (23 + 10 * d) < O (15 + 2 * d)) (e : J = up (up I (oH o + 5) (d * 9 + O (23 + 10 * d)) p) (oH o + 4) d (O (23 + 10 * d) + 1)) : frO I J o ∧ RepC (cmO O d p) J o := by
  subst e
  have v := hV.a
  have vd := hV.d h0 h1
  have hk : ∀ k, (k < 23 ∨ 63 ≤ k) → cmO O d p k = O k := fun k q => by unfold cmO; rw [if_neg (by omega), if_neg (by omega)]
  have hk2 : ∀ d2, d2 ≠ d → 0 ≤ d2 → d2 < 4 → cmO O d p (23 + 10 * d2) = O (23 + 10 * d2) := fun d2 q a b => by unfold cmO; rw [if_neg (by omega), if_neg (by omega)]
  have hk3 : cmO O d p (23 + 10 * d) = O (23 + 10 * d) + 1 := by unfold cmO; rw [if_neg (by omega), if_pos rfl]
  have hrow : ∀ a, a ≠ oH o + 4 → a ≠ oH o + 5 → up (up I (oH o + 5) (d * 9 + O (23 + 10 * d)) p) (oH o + 4) d (O (23 + 10 * d) + 1) a = I a := fun a x y => by rw [up_row x, up_row y]
  refine ⟨fun a q => hrow a (by omega) (by omega), ⟨?_, ?_, ?_⟩, fun q a b => ?_, fun d2 a b => ?_, fun d2 k a b e f => ?_, fun p2 a b => ?_, ?_⟩
  · rw [hrow _ (by omega) (by omega), hk 0 (by omega)]; exact hR.f0
  · rw [hrow _ (by omega) (by omega), hk 1 (by omega)]; exact hR.f1
  · rw [hrow _ (by omega) (by omega), hk 2 (by omega)]; exact hR.f2
  · rw [hrow _ (by omega) (by omega), hk _ (by omega)]; exact hR.wind a b
  · rw [hk 0 (by omega)] at b
    rw [hrow _ (by omega) (by omega), hrow _ (by omega) (by omega), hk _ (by omega), hk _ (by omega)]
    refine ⟨hR.room a b, hR.ston a b, ?_⟩
    by_cases z : d2 = d
    · subst z
      rw [up_s, hk3]
    · rw [up_i z, up_row (by omega), hk2 d2 z a (by omega)]
      exact hR.hgt a b
  · rw [hk 0 (by omega)] at b
    have vd2 := hV.d a b
    rw [up_row (by omega)]
    by_cases z : d2 = d
    · subst z
      rw [hk3] at f
      by_cases y : k = O (23 + 10 * d2)
      · rw [y, up_s]; unfold cmO; rw [if_pos rfl]
      · rw [up_i (by omega)]
        unfold cmO
        rw [if_neg (by omega), if_neg (by omega)]
        exact hR.pile a b e (by omega)
    · rw [hk2 d2 z a (by omega)] at f
      rw [up_i (by omega)]
      unfold cmO
      rw [if_neg (by omega), if_neg (by omega)]
      exact hR.pile a b e f
  · rw [hk 1 (by omega)] at b
    rw [hrow _ (by omega) (by omega), hrow _ (by omega) (by omega), hrow _ (by omega) (by omega), hk _ (by omega), hk _ (by omega), hk _ (by omega)]
    exact ⟨hR.sort a b, hR.wrth a b, hR.need a b⟩
  · rw [hrow _ (by omega) (by omega), hR.met, hk 1 (by omega)]
    exact bs_c' fun p2 a b => by rw [hk (66 + 4 * p2) (by omega)]
theorem RepC.leave {O : OF} {I J : HD} {o : Nat} {d z : Int} (hV : Val O) (hR : RepC O I o) (h0 : 0 ≤ d) (h1 : d < O 0) (hz0 : 0 ≤ z) (hz1 : z < O (23 + 10 * d)) (e : J = up (upA I (oH o + 5) (shF (I (oH o + 5)) (d * 9 + z) (d * 9 + (O (23 + 10 * d) - 1)))) (oH o + 4) d (O (23 + 10 * d) - 1)) : frO I J o ∧ RepC (lvO O d z) J o := by
  subst e
  have v := hV.a
  have vd := hV.d h0 h1
  have hk : ∀ k, (k < 23 ∨ 63 ≤ k) → lvO O d z k = O k := fun k q => by unfold lvO; rw [if_neg (by omega), if_neg (by omega)]
  have hk2 : ∀ d2, d2 ≠ d → 0 ≤ d2 → d2 < 4 → lvO O d z (23 + 10 * d2) = O (23 + 10 * d2) := fun d2 q a b => by unfold lvO; rw [if_neg (by omega), if_neg (by omega)]
  have hk3 : lvO O d z (23 + 10 * d) = O (23 + 10 * d) - 1 := by unfold lvO; rw [if_neg (by omega), if_pos rfl]
  have hrow : ∀ a, a ≠ oH o + 4 → a ≠ oH o + 5 → up (upA I (oH o + 5) (shF (I (oH o + 5)) (d * 9 + z) (d * 9 + (O (23 + 10 * d) - 1)))) (oH o + 4) d (O (23 + 10 * d) - 1) a = I a := fun a x y => by rw [up_row x, upA_h y]
  refine ⟨fun a q => hrow a (by omega) (by omega), ⟨?_, ?_, ?_⟩, fun q a b => ?_, fun d2 a b => ?_, fun d2 k a b e f => ?_, fun p2 a b => ?_, ?_⟩
  · rw [hrow _ (by omega) (by omega), hk 0 (by omega)]; exact hR.f0
  · rw [hrow _ (by omega) (by omega), hk 1 (by omega)]; exact hR.f1
  · rw [hrow _ (by omega) (by omega), hk 2 (by omega)]; exact hR.f2
  · rw [hrow _ (by omega) (by omega), hk _ (by omega)]; exact hR.wind a b
  · rw [hk 0 (by omega)] at b
    rw [hrow _ (by omega) (by omega), hrow _ (by omega) (by omega), hk _ (by omega), hk _ (by omega)]
    refine ⟨hR.room a b, hR.ston a b, ?_⟩
    by_cases y : d2 = d
    · subst y
      rw [up_s, hk3]
    · rw [up_i y, upA_h (by omega), hk2 d2 y a (by omega)]
      exact hR.hgt a b
  · rw [hk 0 (by omega)] at b
    have vd2 := hV.d a b
    rw [up_row (by omega), upA_s]
    by_cases y : d2 = d
    · subst y
      rw [hk3] at f
      unfold shF lvO
      by_cases x : z ≤ k
      · rw [if_pos (by omega), if_pos (by omega)]
        have := hR.pile a b (k := k + 1) (by omega) (by omega)
        rw [show d2 * 9 + k + 1 = d2 * 9 + (k + 1) by omega, this]
        congr 1
        omega
      · rw [if_neg (by omega), if_neg (by omega), if_neg (by omega)]
        exact hR.pile a b e (by omega)
    · rw [hk2 d2 y a (by omega)] at f
      unfold shF lvO
      rw [if_neg (by omega), if_neg (by omega), if_neg (by omega)]
      exact hR.pile a b e f
  · rw [hk 1 (by omega)] at b
    rw [hrow _ (by omega) (by omega), hrow _ (by omega) (by omega), hrow _ (by omega) (by omega), hk _ (by omega), hk _ (by omega), hk _ (by omega)]
    exact ⟨hR.sort a b, hR.wrth a b, hR.need a b⟩
  · rw [hrow _ (by omega) (by omega), hR.met, hk 1 (by omega)]
    exact bs_c' fun p2 a b => by rw [hk (66 + 4 * p2) (by omega)]
end
