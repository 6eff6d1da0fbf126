section
-- ===== PART A: goes FIRST, ahead of the names: the tables' words, and 'selects' of the private methods out of them =====
/-- a private method of a class that the tables say can be made, by its rows of tables_1 -/
def lw_okq (q : MethodName × Nat) : Prop := (q.1.cls ≠ "java/lang/invoke/MethodHandle" ∧ q.1.cls ≠ "java/lang/invoke/VarHandle") ∧ Cond.instantiable q.1.cls q.2 ∈ tables_1 ∧ Cond.privateMethod q.1 ∈ tables_1 ∧ Cond.instanceMethod q.1 ∈ tables_1
theorem lw_p0 : lw_okq (⟨"java/lang/Throwable", "fillInStackTrace", "(I)Ljava/lang/Throwable;"⟩, 6) := ⟨⟨by decide +kernel, by decide +kernel⟩, List.mem_of_getElem? (i := 234) (by decide +kernel), List.mem_of_getElem? (i := 232) (by decide +kernel), List.mem_of_getElem? (i := 233) (by decide +kernel)⟩
theorem lw_p1 : lw_okq (⟨"GroupTables", "groupOfPair", "(II)LGroupTables$Group;"⟩, 9) := ⟨⟨by decide +kernel, by decide +kernel⟩, List.mem_of_getElem? (i := 18) (by decide +kernel), List.mem_of_getElem? (i := 292) (by decide +kernel), List.mem_of_getElem? (i := 293) (by decide +kernel)⟩
theorem lw_p2 : lw_okq (⟨"GroupTables", "groupNumber", "(I)I"⟩, 9) := ⟨⟨by decide +kernel, by decide +kernel⟩, List.mem_of_getElem? (i := 18) (by decide +kernel), List.mem_of_getElem? (i := 296) (by decide +kernel), List.mem_of_getElem? (i := 297) (by decide +kernel)⟩
theorem lw_p3 : lw_okq (⟨"GroupTables", "groupWith", "(I)LGroupTables$Group;"⟩, 9) := ⟨⟨by decide +kernel, by decide +kernel⟩, List.mem_of_getElem? (i := 18) (by decide +kernel), List.mem_of_getElem? (i := 358) (by decide +kernel), List.mem_of_getElem? (i := 359) (by decide +kernel)⟩
theorem lw_p4 : lw_okq (⟨"GroupTables$Group", "counts", "(III)Z"⟩, 6) := ⟨⟨by decide +kernel, by decide +kernel⟩, List.mem_of_getElem? (i := 122) (by decide +kernel), List.mem_of_getElem? (i := 432) (by decide +kernel), List.mem_of_getElem? (i := 433) (by decide +kernel)⟩
theorem lw_p5 : lw_okq (⟨"GroupTables$Table", "arrange", "(IIII)V"⟩, 3) := ⟨⟨by decide +kernel, by decide +kernel⟩, List.mem_of_getElem? (i := 28) (by decide +kernel), List.mem_of_getElem? (i := 482) (by decide +kernel), List.mem_of_getElem? (i := 483) (by decide +kernel)⟩
theorem lw_p6 : lw_okq (⟨"GroupTables$Table", "noteRule", "(IIII)V"⟩, 3) := ⟨⟨by decide +kernel, by decide +kernel⟩, List.mem_of_getElem? (i := 28) (by decide +kernel), List.mem_of_getElem? (i := 494) (by decide +kernel), List.mem_of_getElem? (i := 495) (by decide +kernel)⟩
theorem lw_p7 : lw_okq (⟨"GroupTables$Table", "alikeEnd", "(IIII)Z"⟩, 3) := ⟨⟨by decide +kernel, by decide +kernel⟩, List.mem_of_getElem? (i := 28) (by decide +kernel), List.mem_of_getElem? (i := 499) (by decide +kernel), List.mem_of_getElem? (i := 500) (by decide +kernel)⟩
theorem lw_p8 : lw_okq (⟨"GroupTables$Table", "settle", "(LGroupTables$Group;III)V"⟩, 3) := ⟨⟨by decide +kernel, by decide +kernel⟩, List.mem_of_getElem? (i := 28) (by decide +kernel), List.mem_of_getElem? (i := 503) (by decide +kernel), List.mem_of_getElem? (i := 504) (by decide +kernel)⟩
theorem lw_p9 : lw_okq (⟨"GroupTables$Table", "markTied", "(LGroupTables$Group;II)V"⟩, 3) := ⟨⟨by decide +kernel, by decide +kernel⟩, List.mem_of_getElem? (i := 28) (by decide +kernel), List.mem_of_getElem? (i := 507) (by decide +kernel), List.mem_of_getElem? (i := 508) (by decide +kernel)⟩
theorem lw_p10 : lw_okq (⟨"GroupTables$Table", "markAll", "(LGroupTables$Group;II)V"⟩, 3) := ⟨⟨by decide +kernel, by decide +kernel⟩, List.mem_of_getElem? (i := 28) (by decide +kernel), List.mem_of_getElem? (i := 518) (by decide +kernel), List.mem_of_getElem? (i := 519) (by decide +kernel)⟩
theorem lw_p11 : lw_okq (⟨"GroupTables", "needGroup", "(I)V"⟩, 9) := ⟨⟨by decide +kernel, by decide +kernel⟩, List.mem_of_getElem? (i := 18) (by decide +kernel), List.mem_of_getElem? (i := 542) (by decide +kernel), List.mem_of_getElem? (i := 543) (by decide +kernel)⟩
theorem lw_p12 : lw_okq (⟨"GroupTables$Outlook", "open", "(LGroupTables$Group;III)V"⟩, 7) := ⟨⟨by decide +kernel, by decide +kernel⟩, List.mem_of_getElem? (i := 70) (by decide +kernel), List.mem_of_getElem? (i := 653) (by decide +kernel), List.mem_of_getElem? (i := 654) (by decide +kernel)⟩
theorem lw_p13 : lw_okq (⟨"GroupTables$LeftMatches", "add", "(LGroupTables$Group;IZI)I"⟩, 2) := ⟨⟨by decide +kernel, by decide +kernel⟩, List.mem_of_getElem? (i := 76) (by decide +kernel), List.mem_of_getElem? (i := 664) (by decide +kernel), List.mem_of_getElem? (i := 665) (by decide +kernel)⟩
theorem lw_p14 : lw_okq (⟨"GroupTables$Outlook", "waysPassed", "(I)I"⟩, 7) := ⟨⟨by decide +kernel, by decide +kernel⟩, List.mem_of_getElem? (i := 70) (by decide +kernel), List.mem_of_getElem? (i := 670) (by decide +kernel), List.mem_of_getElem? (i := 671) (by decide +kernel)⟩
theorem lw_p15 : lw_okq (⟨"GroupTables$Outlook", "isPassedAnyhow", "()Z"⟩, 7) := ⟨⟨by decide +kernel, by decide +kernel⟩, List.mem_of_getElem? (i := 70) (by decide +kernel), List.mem_of_getElem? (i := 674) (by decide +kernel), List.mem_of_getElem? (i := 675) (by decide +kernel)⟩
def lw_privs_1 : List (MethodName × Nat) := [(⟨"java/lang/Throwable", "fillInStackTrace", "(I)Ljava/lang/Throwable;"⟩, 6), (⟨"GroupTables", "groupOfPair", "(II)LGroupTables$Group;"⟩, 9), (⟨"GroupTables", "groupNumber", "(I)I"⟩, 9), (⟨"GroupTables", "groupWith", "(I)LGroupTables$Group;"⟩, 9), (⟨"GroupTables$Group", "counts", "(III)Z"⟩, 6), (⟨"GroupTables$Table", "arrange", "(IIII)V"⟩, 3), (⟨"GroupTables$Table", "noteRule", "(IIII)V"⟩, 3), (⟨"GroupTables$Table", "alikeEnd", "(IIII)Z"⟩, 3), (⟨"GroupTables$Table", "settle", "(LGroupTables$Group;III)V"⟩, 3), (⟨"GroupTables$Table", "markTied", "(LGroupTables$Group;II)V"⟩, 3), (⟨"GroupTables$Table", "markAll", "(LGroupTables$Group;II)V"⟩, 3), (⟨"GroupTables", "needGroup", "(I)V"⟩, 9), (⟨"GroupTables$Outlook", "open", "(LGroupTables$Group;III)V"⟩, 7), (⟨"GroupTables$LeftMatches", "add", "(LGroupTables$Group;IZI)I"⟩, 2), (⟨"GroupTables$Outlook", "waysPassed", "(I)I"⟩, 7), (⟨"GroupTables$Outlook", "isPassedAnyhow", "()Z"⟩, 7)]
theorem lw_r1 : ∀ q ∈ lw_privs_1, lw_okq q := List.forall_mem_cons.mpr ⟨lw_p0, List.forall_mem_cons.mpr ⟨lw_p1, List.forall_mem_cons.mpr ⟨lw_p2, List.forall_mem_cons.mpr ⟨lw_p3, List.forall_mem_cons.mpr ⟨lw_p4, List.forall_mem_cons.mpr ⟨lw_p5, List.forall_mem_cons.mpr ⟨lw_p6, List.forall_mem_cons.mpr ⟨lw_p7, List.forall_mem_cons.mpr ⟨lw_p8, List.forall_mem_cons.mpr ⟨lw_p9, List.forall_mem_cons.mpr ⟨lw_p10, List.forall_mem_cons.mpr ⟨lw_p11, List.forall_mem_cons.mpr ⟨lw_p12, List.forall_mem_cons.mpr ⟨lw_p13, List.forall_mem_cons.mpr ⟨lw_p14, List.forall_mem_cons.mpr ⟨lw_p15, fun _ h => absurd h List.not_mem_nil⟩⟩⟩⟩⟩⟩⟩⟩⟩⟩⟩⟩⟩⟩⟩⟩
theorem lw_p16 : lw_okq (⟨"GroupTables$Outlook", "canBePassed", "()Z"⟩, 7) := ⟨⟨by decide +kernel, by decide +kernel⟩, List.mem_of_getElem? (i := 70) (by decide +kernel), List.mem_of_getElem? (i := 679) (by decide +kernel), List.mem_of_getElem? (i := 680) (by decide +kernel)⟩
theorem lw_p17 : lw_okq (⟨"GroupTables$Outlook", "play", "(II)V"⟩, 7) := ⟨⟨by decide +kernel, by decide +kernel⟩, List.mem_of_getElem? (i := 70) (by decide +kernel), List.mem_of_getElem? (i := 683) (by decide +kernel), List.mem_of_getElem? (i := 684) (by decide +kernel)⟩
theorem lw_p18 : lw_okq (⟨"GroupTables$Outlook", "takeBack", "(II)V"⟩, 7) := ⟨⟨by decide +kernel, by decide +kernel⟩, List.mem_of_getElem? (i := 70) (by decide +kernel), List.mem_of_getElem? (i := 699) (by decide +kernel), List.mem_of_getElem? (i := 700) (by decide +kernel)⟩
theorem lw_p19 : lw_okq (⟨"GroupTables$Outlook", "lowestPassed", "(I)I"⟩, 7) := ⟨⟨by decide +kernel, by decide +kernel⟩, List.mem_of_getElem? (i := 70) (by decide +kernel), List.mem_of_getElem? (i := 726) (by decide +kernel), List.mem_of_getElem? (i := 727) (by decide +kernel)⟩
theorem lw_p20 : lw_okq (⟨"GroupTables$Scores", "countFrom", "(LGroupTables$Group;IILGroupTables$Table;I)I"⟩, 1) := ⟨⟨by decide +kernel, by decide +kernel⟩, List.mem_of_getElem? (i := 111) (by decide +kernel), List.mem_of_getElem? (i := 743) (by decide +kernel), List.mem_of_getElem? (i := 744) (by decide +kernel)⟩
theorem lw_p21 : lw_okq (⟨"GroupTablesModel", "goes", "(ZZZ)Z"⟩, 17) := ⟨⟨by decide +kernel, by decide +kernel⟩, List.mem_of_getElem? (i := 753) (by decide +kernel), List.mem_of_getElem? (i := 822) (by decide +kernel), List.mem_of_getElem? (i := 823) (by decide +kernel)⟩
theorem lw_p22 : lw_okq (⟨"GroupTablesModel", "isTeam", "(I)Z"⟩, 17) := ⟨⟨by decide +kernel, by decide +kernel⟩, List.mem_of_getElem? (i := 753) (by decide +kernel), List.mem_of_getElem? (i := 830) (by decide +kernel), List.mem_of_getElem? (i := 831) (by decide +kernel)⟩
theorem lw_p23 : lw_okq (⟨"GroupTablesModel", "arePair", "(II)Z"⟩, 17) := ⟨⟨by decide +kernel, by decide +kernel⟩, List.mem_of_getElem? (i := 753) (by decide +kernel), List.mem_of_getElem? (i := 834) (by decide +kernel), List.mem_of_getElem? (i := 835) (by decide +kernel)⟩
theorem lw_p24 : lw_okq (⟨"GroupTablesModel", "lays", "(IIII)V"⟩, 17) := ⟨⟨by decide +kernel, by decide +kernel⟩, List.mem_of_getElem? (i := 753) (by decide +kernel), List.mem_of_getElem? (i := 838) (by decide +kernel), List.mem_of_getElem? (i := 839) (by decide +kernel)⟩
theorem lw_p25 : lw_okq (⟨"GroupTablesModel", "at", "(II)I"⟩, 17) := ⟨⟨by decide +kernel, by decide +kernel⟩, List.mem_of_getElem? (i := 753) (by decide +kernel), List.mem_of_getElem? (i := 842) (by decide +kernel), List.mem_of_getElem? (i := 843) (by decide +kernel)⟩
theorem lw_p26 : lw_okq (⟨"GroupTablesModel", "left", "(I)I"⟩, 17) := ⟨⟨by decide +kernel, by decide +kernel⟩, List.mem_of_getElem? (i := 753) (by decide +kernel), List.mem_of_getElem? (i := 846) (by decide +kernel), List.mem_of_getElem? (i := 847) (by decide +kernel)⟩
theorem lw_p27 : lw_okq (⟨"GroupTablesModel", "isPlayed", "(II)Z"⟩, 17) := ⟨⟨by decide +kernel, by decide +kernel⟩, List.mem_of_getElem? (i := 753) (by decide +kernel), List.mem_of_getElem? (i := 850) (by decide +kernel), List.mem_of_getElem? (i := 851) (by decide +kernel)⟩
theorem lw_p28 : lw_okq (⟨"GroupTablesModel", "told", "(I)I"⟩, 17) := ⟨⟨by decide +kernel, by decide +kernel⟩, List.mem_of_getElem? (i := 753) (by decide +kernel), List.mem_of_getElem? (i := 878) (by decide +kernel), List.mem_of_getElem? (i := 879) (by decide +kernel)⟩
theorem lw_p29 : lw_okq (⟨"GroupTablesModel", "pointsOf", "(I)I"⟩, 17) := ⟨⟨by decide +kernel, by decide +kernel⟩, List.mem_of_getElem? (i := 753) (by decide +kernel), List.mem_of_getElem? (i := 898) (by decide +kernel), List.mem_of_getElem? (i := 899) (by decide +kernel)⟩
theorem lw_p30 : lw_okq (⟨"GroupTablesModel", "sums", "(III)I"⟩, 17) := ⟨⟨by decide +kernel, by decide +kernel⟩, List.mem_of_getElem? (i := 753) (by decide +kernel), List.mem_of_getElem? (i := 902) (by decide +kernel), List.mem_of_getElem? (i := 903) (by decide +kernel)⟩
theorem lw_p31 : lw_okq (⟨"GroupTablesModel", "pointsIn", "(II)I"⟩, 17) := ⟨⟨by decide +kernel, by decide +kernel⟩, List.mem_of_getElem? (i := 753) (by decide +kernel), List.mem_of_getElem? (i := 906) (by decide +kernel), List.mem_of_getElem? (i := 907) (by decide +kernel)⟩
def lw_privs_2 : List (MethodName × Nat) := [(⟨"GroupTables$Outlook", "canBePassed", "()Z"⟩, 7), (⟨"GroupTables$Outlook", "play", "(II)V"⟩, 7), (⟨"GroupTables$Outlook", "takeBack", "(II)V"⟩, 7), (⟨"GroupTables$Outlook", "lowestPassed", "(I)I"⟩, 7), (⟨"GroupTables$Scores", "countFrom", "(LGroupTables$Group;IILGroupTables$Table;I)I"⟩, 1), (⟨"GroupTablesModel", "goes", "(ZZZ)Z"⟩, 17), (⟨"GroupTablesModel", "isTeam", "(I)Z"⟩, 17), (⟨"GroupTablesModel", "arePair", "(II)Z"⟩, 17), (⟨"GroupTablesModel", "lays", "(IIII)V"⟩, 17), (⟨"GroupTablesModel", "at", "(II)I"⟩, 17), (⟨"GroupTablesModel", "left", "(I)I"⟩, 17), (⟨"GroupTablesModel", "isPlayed", "(II)Z"⟩, 17), (⟨"GroupTablesModel", "told", "(I)I"⟩, 17), (⟨"GroupTablesModel", "pointsOf", "(I)I"⟩, 17), (⟨"GroupTablesModel", "sums", "(III)I"⟩, 17), (⟨"GroupTablesModel", "pointsIn", "(II)I"⟩, 17)]
theorem lw_r2 : ∀ q ∈ lw_privs_2, lw_okq q := List.forall_mem_cons.mpr ⟨lw_p16, List.forall_mem_cons.mpr ⟨lw_p17, List.forall_mem_cons.mpr ⟨lw_p18, List.forall_mem_cons.mpr ⟨lw_p19, List.forall_mem_cons.mpr ⟨lw_p20, List.forall_mem_cons.mpr ⟨lw_p21, List.forall_mem_cons.mpr ⟨lw_p22, List.forall_mem_cons.mpr ⟨lw_p23, List.forall_mem_cons.mpr ⟨lw_p24, List.forall_mem_cons.mpr ⟨lw_p25, List.forall_mem_cons.mpr ⟨lw_p26, List.forall_mem_cons.mpr ⟨lw_p27, List.forall_mem_cons.mpr ⟨lw_p28, List.forall_mem_cons.mpr ⟨lw_p29, List.forall_mem_cons.mpr ⟨lw_p30, List.forall_mem_cons.mpr ⟨lw_p31, fun _ h => absurd h List.not_mem_nil⟩⟩⟩⟩⟩⟩⟩⟩⟩⟩⟩⟩⟩⟩⟩⟩
theorem lw_p32 : lw_okq (⟨"GroupTablesModel", "placeOf", "(I)I"⟩, 17) := ⟨⟨by decide +kernel, by decide +kernel⟩, List.mem_of_getElem? (i := 753) (by decide +kernel), List.mem_of_getElem? (i := 922) (by decide +kernel), List.mem_of_getElem? (i := 923) (by decide +kernel)⟩
theorem lw_p33 : lw_okq (⟨"GroupTablesModel", "orders", "(I)V"⟩, 17) := ⟨⟨by decide +kernel, by decide +kernel⟩, List.mem_of_getElem? (i := 753) (by decide +kernel), List.mem_of_getElem? (i := 926) (by decide +kernel), List.mem_of_getElem? (i := 927) (by decide +kernel)⟩
theorem lw_p34 : lw_okq (⟨"GroupTablesModel", "splits", "(II)Z"⟩, 17) := ⟨⟨by decide +kernel, by decide +kernel⟩, List.mem_of_getElem? (i := 753) (by decide +kernel), List.mem_of_getElem? (i := 930) (by decide +kernel), List.mem_of_getElem? (i := 931) (by decide +kernel)⟩
theorem lw_p35 : lw_okq (⟨"GroupTablesModel", "tiedRule", "(II)I"⟩, 17) := ⟨⟨by decide +kernel, by decide +kernel⟩, List.mem_of_getElem? (i := 753) (by decide +kernel), List.mem_of_getElem? (i := 934) (by decide +kernel), List.mem_of_getElem? (i := 935) (by decide +kernel)⟩
theorem lw_p36 : lw_okq (⟨"GroupTablesModel", "finalRule", "(II)I"⟩, 17) := ⟨⟨by decide +kernel, by decide +kernel⟩, List.mem_of_getElem? (i := 753) (by decide +kernel), List.mem_of_getElem? (i := 938) (by decide +kernel), List.mem_of_getElem? (i := 939) (by decide +kernel)⟩
theorem lw_p37 : lw_okq (⟨"GroupTablesModel", "isGroup", "(I)Z"⟩, 17) := ⟨⟨by decide +kernel, by decide +kernel⟩, List.mem_of_getElem? (i := 753) (by decide +kernel), List.mem_of_getElem? (i := 946) (by decide +kernel), List.mem_of_getElem? (i := 947) (by decide +kernel)⟩
theorem lw_p38 : lw_okq (⟨"GroupTablesModel", "teamOn", "(II)I"⟩, 17) := ⟨⟨by decide +kernel, by decide +kernel⟩, List.mem_of_getElem? (i := 753) (by decide +kernel), List.mem_of_getElem? (i := 950) (by decide +kernel), List.mem_of_getElem? (i := 951) (by decide +kernel)⟩
theorem lw_p39 : lw_okq (⟨"GroupTablesModel", "thirdSum", "(II)I"⟩, 17) := ⟨⟨by decide +kernel, by decide +kernel⟩, List.mem_of_getElem? (i := 753) (by decide +kernel), List.mem_of_getElem? (i := 966) (by decide +kernel), List.mem_of_getElem? (i := 967) (by decide +kernel)⟩
theorem lw_p40 : lw_okq (⟨"GroupTablesModel", "counting", "(I)I"⟩, 17) := ⟨⟨by decide +kernel, by decide +kernel⟩, List.mem_of_getElem? (i := 753) (by decide +kernel), List.mem_of_getElem? (i := 970) (by decide +kernel), List.mem_of_getElem? (i := 971) (by decide +kernel)⟩
theorem lw_p41 : lw_okq (⟨"GroupTablesModel", "rankOf", "(I)I"⟩, 17) := ⟨⟨by decide +kernel, by decide +kernel⟩, List.mem_of_getElem? (i := 753) (by decide +kernel), List.mem_of_getElem? (i := 978) (by decide +kernel), List.mem_of_getElem? (i := 979) (by decide +kernel)⟩
theorem lw_p42 : lw_okq (⟨"GroupTablesModel", "isBetter", "(II)Z"⟩, 17) := ⟨⟨by decide +kernel, by decide +kernel⟩, List.mem_of_getElem? (i := 753) (by decide +kernel), List.mem_of_getElem? (i := 982) (by decide +kernel), List.mem_of_getElem? (i := 983) (by decide +kernel)⟩
theorem lw_p43 : lw_okq (⟨"GroupTablesModel", "waysOf", "(I)I"⟩, 17) := ⟨⟨by decide +kernel, by decide +kernel⟩, List.mem_of_getElem? (i := 753) (by decide +kernel), List.mem_of_getElem? (i := 994) (by decide +kernel), List.mem_of_getElem? (i := 995) (by decide +kernel)⟩
theorem lw_p44 : lw_okq (⟨"GroupTablesModel", "counts", "(IZ)I"⟩, 17) := ⟨⟨by decide +kernel, by decide +kernel⟩, List.mem_of_getElem? (i := 753) (by decide +kernel), List.mem_of_getElem? (i := 1002) (by decide +kernel), List.mem_of_getElem? (i := 1003) (by decide +kernel)⟩
theorem lw_p45 : lw_okq (⟨"GroupTablesModel", "plays", "(II)V"⟩, 17) := ⟨⟨by decide +kernel, by decide +kernel⟩, List.mem_of_getElem? (i := 753) (by decide +kernel), List.mem_of_getElem? (i := 1006) (by decide +kernel), List.mem_of_getElem? (i := 1007) (by decide +kernel)⟩
theorem lw_p46 : lw_okq (⟨"GroupTablesModel", "before", "(II)I"⟩, 17) := ⟨⟨by decide +kernel, by decide +kernel⟩, List.mem_of_getElem? (i := 753) (by decide +kernel), List.mem_of_getElem? (i := 1010) (by decide +kernel), List.mem_of_getElem? (i := 1011) (by decide +kernel)⟩
def lw_privs_3 : List (MethodName × Nat) := [(⟨"GroupTablesModel", "placeOf", "(I)I"⟩, 17), (⟨"GroupTablesModel", "orders", "(I)V"⟩, 17), (⟨"GroupTablesModel", "splits", "(II)Z"⟩, 17), (⟨"GroupTablesModel", "tiedRule", "(II)I"⟩, 17), (⟨"GroupTablesModel", "finalRule", "(II)I"⟩, 17), (⟨"GroupTablesModel", "isGroup", "(I)Z"⟩, 17), (⟨"GroupTablesModel", "teamOn", "(II)I"⟩, 17), (⟨"GroupTablesModel", "thirdSum", "(II)I"⟩, 17), (⟨"GroupTablesModel", "counting", "(I)I"⟩, 17), (⟨"GroupTablesModel", "rankOf", "(I)I"⟩, 17), (⟨"GroupTablesModel", "isBetter", "(II)Z"⟩, 17), (⟨"GroupTablesModel", "waysOf", "(I)I"⟩, 17), (⟨"GroupTablesModel", "counts", "(IZ)I"⟩, 17), (⟨"GroupTablesModel", "plays", "(II)V"⟩, 17), (⟨"GroupTablesModel", "before", "(II)I"⟩, 17)]
theorem lw_r3 : ∀ q ∈ lw_privs_3, lw_okq q := List.forall_mem_cons.mpr ⟨lw_p32, List.forall_mem_cons.mpr ⟨lw_p33, List.forall_mem_cons.mpr ⟨lw_p34, List.forall_mem_cons.mpr ⟨lw_p35, List.forall_mem_cons.mpr ⟨lw_p36, List.forall_mem_cons.mpr ⟨lw_p37, List.forall_mem_cons.mpr ⟨lw_p38, List.forall_mem_cons.mpr ⟨lw_p39, List.forall_mem_cons.mpr ⟨lw_p40, List.forall_mem_cons.mpr ⟨lw_p41, List.forall_mem_cons.mpr ⟨lw_p42, List.forall_mem_cons.mpr ⟨lw_p43, List.forall_mem_cons.mpr ⟨lw_p44, List.forall_mem_cons.mpr ⟨lw_p45, List.forall_mem_cons.mpr ⟨lw_p46, fun _ h => absurd h List.not_mem_nil⟩⟩⟩⟩⟩⟩⟩⟩⟩⟩⟩⟩⟩⟩⟩
def lw_privs : List (MethodName × Nat) := lw_privs_1 ++ (lw_privs_2 ++ (lw_privs_3))
def lw_tbl : List Cond := k2_sels lw_privs ++ tables_1
theorem lw_privs_ok : ∀ q ∈ lw_privs, lw_okq q := by
  show ∀ q ∈ lw_privs_1 ++ (lw_privs_2 ++ (lw_privs_3)), lw_okq q
  exact List.forall_mem_append.mpr ⟨lw_r1, List.forall_mem_append.mpr ⟨lw_r2, lw_r3⟩⟩
-- ===== end of PART A; then your names; then what follows =====
end
section
/-! ===== BEGIN words of one list among another's, by their places ===== -/
theorem goodIn_r {big : List Cond} (ws : List Cond) (ps : List Nat) (hp : ws = ps.filterMap (fun i => big[i]?)) (h : ws.all goodWord = true) : GoodIn big ws := by
  intro w hw
  have h1 := List.all_eq_true.mp h w hw
  rw [hp] at hw
  obtain ⟨i, -, hi⟩ := List.mem_filterMap.mp hw
  have hm : w ∈ big := by first | exact List.mem_of_getElem? hi | exact List.getElem?_mem hi
  exact ⟨hm, good_of_word h1⟩
theorem goodIn_app {big a b : List Cond} (ha : GoodIn big a) (hb : GoodIn big b) : GoodIn big (a ++ b) := fun w h => (List.mem_append.mp h).elim (ha w) (hb w)
theorem goodIn_ca {big a b : List Cond} {c : Cond} (ha : GoodIn big (c :: a)) (hb : GoodIn big b) : GoodIn big (c :: (a ++ b)) := fun w h => (List.mem_cons.mp h).elim (fun e => ha w (List.mem_cons.mpr (Or.inl e))) (fun h => (List.mem_append.mp h).elim (fun h => ha w (List.mem_cons.mpr (Or.inr h))) (hb w))
theorem goodIn_sub {big ws : List Cond} (hm : ∀ w ∈ ws, w ∈ big) (h : ws.all goodWord = true) : GoodIn big ws := fun w hw => ⟨hm w hw, good_of_word (List.all_eq_true.mp h w hw)⟩
/-! ===== END ===== -/

/-! ===== BEGIN new T[n][m]: the outer array a place, the inner ones among the pooled ===== -/
/-- f, but v at every address of l -/
def vr_up {α : Type} (f : Nat → α) (l : List Nat) (v : α) : Nat → α := fun a => if a ∈ l then v else f a
theorem vr_up_in {α : Type} {f : Nat → α} {l : List Nat} {v : α} {a : Nat} (h : a ∈ l) : vr_up f l v a = v := if_pos h
theorem vr_up_ne {α : Type} {f : Nat → α} {l : List Nat} {v : α} {a : Nat} (h : a ∉ l) : vr_up f l v a = f a := if_neg h
theorem vr_rows {L l : List Nat} {f : Nat → va_E} {e : va_E} (h : ∀ a, a ∈ l → a ∉ L) : va_pl L f ++ l.map (fun a => (a, e)) = va_pl (L ++ l) (vr_up f l e) := by
  unfold va_pl
  rw [List.map_append]
  congr 1
  · apply List.map_congr_left
    intro a ha
    rw [vr_up_ne (fun q => h a q ha)]
  · apply List.map_congr_left
    intro a ha
    rw [vr_up_in ha]
theorem vr_lay {X rows : va_W} {x : Nat × va_E} {pl : va_W} {D : va_G} {cl : List vw_C} {H : Heap} (hP : va_P D cl (((X ++ pl) ++ [x]) ++ rows) H) : va_P D cl ((X ++ [x]) ++ (pl ++ rows)) H := by
  rw [List.append_assoc (X ++ pl)] at hP
  have h := va_P.swap hP
  rw [← List.append_assoc X] at h
  have h2 := va_P.swap h
  rw [List.append_assoc (X ++ [x])] at h2
  exact h2
theorem vr_layD {X rows : va_W} {x : Nat × va_E} {pl : va_W} {A : Nat → Prop} (hD : va_D A (((X ++ pl) ++ [x]) ++ rows)) : va_D A ((X ++ [x]) ++ (pl ++ rows)) := by
  rw [List.append_assoc (X ++ pl)] at hD
  have h := va_D.swap hD
  rw [← List.append_assoc X] at h
  have h2 := va_D.swap h
  rw [List.append_assoc (X ++ [x])] at h2
  exact h2
theorem vr_outer (c : ClassId) (N h0 : Nat) : ∀ i : Nat, Jvm.Free.Multi.outerC c N h0 i = arrV c N (fun j => va_rf (if j < i then some (h0 + 1 + j) else none))
  | 0 => by
    show ({ cls := c, slots := Array.replicate N .null, vm := .none } : Cell) = _
    rw [arrV_new]
    refine congrArg (arrV c N) (funext fun j => ?_)
    simp [va_rf]
  | i + 1 => by
    show (Jvm.Free.Multi.outerC c N h0 i).setSlot i (.ref (h0 + 1 + i)) = _
    rw [vr_outer c N h0 i, arrV_store]
    refine congrArg (arrV c N) (funext fun j => ?_)
    by_cases e : j = i
    · subst e
      simp [updV, va_rf]
    · by_cases h : j < i
      · simp [updV, e, h, Nat.lt_succ_of_lt h]
      · simp [updV, e, h, show ¬ j < i + 1 by omega]
/-- the tables name the array over arrays of ty -/
def va_AOA (ty : FieldType) (U : State) : Prop := (Cond.arrayOver (.array ty)).before #[] U = true
theorem va_AOA.use {ty : FieldType} {A : Array Value} {U : State} (h : va_AOA ty U) : (Cond.arrayOver (.array ty)).before A U = true := h
section VGM
variable {p : Program} {l : Launch} {e : Env} {R : Room} {s : State} {m : MethodId} {args : Array Value} {below : List Frame} {meth : Method} {c : Code} {H : Heap} {locs : List Loc} {cells slots : Nat} {Q : State → Prop}
variable {cc : ByteArray} {pc : Nat} {ls : Array Slot} {rest : List Value} {D : va_G} {cl : List vw_C} {A : Nat → Prop} {a : Nat} {tys : List (ClassId × FieldType)} {ws : va_W} {H0 : Heap}
theorem va_mna {X : va_W} {L : List Nat} {f : Nat → va_E} {cc : ByteArray} (hexec : p.tables.exec = Jvm.exec) (hb : c.code = cc) {own : String} {index : Nat} {ty : FieldType} {cy : ClassId} (hown : s.vm.findClass own = some m.cls) (hclink : (Cond.classLink own index ("[" ++ (FieldType.array ty).toString)).before args s = true) (hover : va_AOA ty s) (harr : (Cond.arrayClass ty).before args s = true) (hcy : s.vm.findClass (FieldType.array ty).toString = some cy)
    (hK : va_K D cl tys s) (hP : va_P D cl (X ++ va_pl L f) H) (hD : va_D A (X ++ va_pl L f)) (hS : va_S A H0 H locs) (hA : ∀ q, H0.size ≤ q → A q) {n k : Int32} {N' K' : Nat} {z : vp_A} (hn : ¬ n < 0) (hk : ¬ k < 0) (hN : n.toNatClampNeg = N') (hM : k.toNatClampNeg = K')
    (hb1 : N' * 4 ≤ 536870912) (hb2 : K' * componentBytes ty ≤ 536870912) (hb3 : K' ≤ 536870912) (hdf : fits ty (defaultValue ty) = true) (hdd : (defaultValue ty).isDefault = true) (hcells : cells + (1 + N') ≤ R.cells) (hslots : slots + (N' + N' * K') ≤ R.slots) (hz : ∀ c : ClassId, Jvm.Free.Multi.innerC c K' (defaultValue ty) = vp_cell c z) (hdg : decode cc pc = .ok (.multianewarray index 2, 4))
    (kk : ∀ (q : Nat) (r : Nat → Nat) (cA : ClassId) (H1 : Heap), (∀ i j : Nat, i < N' → j < N' → r i = r j → i = j) → (∀ i : Nat, i < N' → r i ∉ L) → va_K D cl (tys ++ [(cA, .array ty)]) s →
      va_P D cl ((X ++ [(q, .inl (cA, N', .inr (.inr (.inr (.inr (fun i => if i < N' then some (r i) else none))))))]) ++ va_pl (L ++ (List.range N').map r) (vr_up f ((List.range N').map r) (.inl (cy, z)))) H1 → va_D A ((X ++ [(q, .inl (cA, N', .inr (.inr (.inr (.inr (fun i => if i < N' then some (r i) else none))))))]) ++ va_pl (L ++ (List.range N').map r) (vr_up f ((List.range N').map r) (.inl (cy, z)))) → va_S A H0 H1 locs →
      W p l e R s m args below meth c H1 locs (cells + 1 + N') (slots + N' + N' * K') Q (F0 m (pc + 4) ls (.ref q :: rest))) : W p l e R s m args below meth c H locs cells slots Q (F0 m pc ls (.int k :: .int n :: rest)) := by
  subst hN
  subst hM
  intro T hT Xs
  obtain ⟨vm₁, cA, comp, -, fA, fC, hO, -, X', step⟩ := Xs.multianewarray2F hexec hown hclink (va_AOA.use hover) harr (g := F0 m pc ls (.int k :: .int n :: rest)) rfl (by rw [hb]; exact hdg) rfl hn hk hb1 hb2 hb3 hdf hdd hcells hslots
  have ec : some cy = some comp := hcy.symm.trans fC
  cases ec
  generalize hF : Jvm.Free.Multi.fill (T.setVm vm₁) cA cy n.toNatClampNeg k.toNatClampNeg (defaultValue ty) n.toNatClampNeg = F at X' step
  have hTh : (T.setVm vm₁).heap = H := hT
  obtain ⟨f1, f2, -, -⟩ := Jvm.Free.Multi.fill_facts (T.setVm vm₁) cA cy n.toNatClampNeg k.toNatClampNeg (defaultValue ty) n.toNatClampNeg
  rw [hF, hTh] at f1 f2
  have hold : ∀ x : Nat, x < H.size → F.heap[x]? = H[x]? := fun x hx => by
    have := Jvm.Free.Multi.fill_old (T.setVm vm₁) cA cy n.toNatClampNeg k.toNatClampNeg (defaultValue ty) (a := x) (by rw [hTh]; exact hx) n.toNatClampNeg
    rw [hF, hTh] at this
    exact this
  have hrow : ∀ j : Nat, j < n.toNatClampNeg → F.heap[H.size + 1 + j]? = some (vp_cell cy z) := fun j hj => by
    have := Jvm.Free.Multi.fill_inner (T.setVm vm₁) cA cy n.toNatClampNeg k.toNatClampNeg (defaultValue ty) n.toNatClampNeg j hj
    rw [hF, hTh, hz] at this
    exact this
  have hout : Jvm.Free.Multi.outerC cA n.toNatClampNeg H.size n.toNatClampNeg = vp_cell cA (n.toNatClampNeg, .inr (.inr (.inr (.inr (fun i => if i < n.toNatClampNeg then some (H.size + 1 + i) else none))))) := by
    rw [vp_cell_q]
    exact vr_outer cA n.toNatClampNeg H.size n.toNatClampNeg
  rw [hout] at f2
  have hlt : ∀ a, a ∈ L → a < H.size := fun a ha => by
    obtain ⟨k9, hk9⟩ := va_pl_get (X := X) (f := f) ha
    exact (hP k9 _ hk9).lt
  have hnl : ∀ i : Nat, i < n.toNatClampNeg → H.size + 1 + i ∉ L := fun i _ h => by
    have := hlt _ h
    omega
  have hnm : ∀ a, a ∈ (List.range n.toNatClampNeg).map (fun i => H.size + 1 + i) → a ∉ L := fun a ha h => by
    obtain ⟨i, -, rfl⟩ := List.mem_map.mp ha
    have := hlt _ h
    omega
  have hP0 : va_P D cl (X ++ va_pl L f) F.heap := hP.kept (fun k9 x hx => hold x.1 ((hP k9 x hx).lt))
  have hP1 : va_P D cl ((X ++ va_pl L f) ++ [(H.size, .inl (cA, n.toNatClampNeg, .inr (.inr (.inr (.inr (fun i => if i < n.toNatClampNeg then some (H.size + 1 + i) else none))))))]) F.heap := hP0.app (fun k9 x hx => by
    have h0 : k9 < 1 := (List.getElem?_eq_some_iff.mp hx).1
    rw [show k9 = 0 by omega] at hx
    cases hx
    exact f2)
  have hP2 : va_P D cl (((X ++ va_pl L f) ++ [(H.size, .inl (cA, n.toNatClampNeg, .inr (.inr (.inr (.inr (fun i => if i < n.toNatClampNeg then some (H.size + 1 + i) else none))))))]) ++ ((List.range n.toNatClampNeg).map (fun i => H.size + 1 + i)).map (fun a => (a, .inl (cy, z)))) F.heap := hP1.app (fun k9 x hx => by
    obtain ⟨a, ha, rfl⟩ := List.mem_map.mp (List.mem_of_getElem? hx)
    obtain ⟨i, hi, rfl⟩ := List.mem_map.mp ha
    exact hrow i (List.mem_range.mp hi))
  have hD2 : va_D A (((X ++ va_pl L f) ++ [(H.size, .inl (cA, n.toNatClampNeg, .inr (.inr (.inr (.inr (fun i => if i < n.toNatClampNeg then some (H.size + 1 + i) else none))))))]) ++ ((List.range n.toNatClampNeg).map (fun i => H.size + 1 + i)).map (fun a => (a, .inl (cy, z)))) := by
    have hD1 := hD.push (e := .inl (cA, n.toNatClampNeg, .inr (.inr (.inr (.inr (fun i => if i < n.toNatClampNeg then some (H.size + 1 + i) else none)))))) hP rfl (hA _ hS.1)
    generalize hW1 : (X ++ va_pl L f) ++ [(H.size, .inl (cA, n.toNatClampNeg, .inr (.inr (.inr (.inr (fun i => if i < n.toNatClampNeg then some (H.size + 1 + i) else none))))))] = W1 at hD1 hP1 ⊢
    have hle : ∀ (k9 : Nat) (x : Nat × va_E), W1[k9]? = some x → x.1 ≤ H.size := fun k9 x hx => by
      rw [← hW1] at hx
      by_cases hl : k9 < (X ++ va_pl L f).length
      · rw [List.getElem?_append_left hl] at hx
        exact Nat.le_of_lt ((hP k9 x hx).lt)
      · rw [List.getElem?_append_right (by omega)] at hx
        have h0 : k9 - (X ++ va_pl L f).length < 1 := (List.getElem?_eq_some_iff.mp hx).1
        rw [show k9 - (X ++ va_pl L f).length = 0 by omega] at hx
        cases hx
        exact Nat.le_refl _
    have hr : ∀ (k9 : Nat) (x : Nat × va_E), (((List.range n.toNatClampNeg).map (fun i => H.size + 1 + i)).map (fun a => ((a, .inl (cy, z)) : Nat × va_E)))[k9]? = some x → x.1 = H.size + 1 + k9 := fun k9 x hx => by
      rw [List.getElem?_map, List.getElem?_map] at hx
      by_cases h9 : k9 < n.toNatClampNeg
      · rw [List.getElem?_range h9] at hx
        cases hx
        rfl
      · have hn0 : (List.range n.toNatClampNeg)[k9]? = none := List.getElem?_eq_none (by rw [List.length_range]; omega)
        rw [hn0] at hx
        cases hx
    refine ⟨fun i j x y hi hj hxy => ?_, fun k9 x hx => ?_⟩
    · by_cases h1 : i < W1.length <;> by_cases h2 : j < W1.length
      · rw [List.getElem?_append_left h1] at hi
        rw [List.getElem?_append_left h2] at hj
        exact hD1.1 i j x y hi hj hxy
      · rw [List.getElem?_append_left h1] at hi
        rw [List.getElem?_append_right (by omega)] at hj
        have := hle _ _ hi
        have := hr _ _ hj
        omega
      · rw [List.getElem?_append_right (by omega)] at hi
        rw [List.getElem?_append_left h2] at hj
        have := hle _ _ hj
        have := hr _ _ hi
        omega
      · rw [List.getElem?_append_right (by omega)] at hi hj
        have := hr _ _ hi
        have := hr _ _ hj
        omega
    · by_cases h1 : k9 < W1.length
      · rw [List.getElem?_append_left h1] at hx
        exact hD1.2 k9 x hx
      · rw [List.getElem?_append_right (by omega)] at hx
        have := hr _ _ hx
        exact hA _ (by have := hS.1; omega)
  have hAr : ArrOfT s cA (.array ty) := fun N9 z9 => by
    obtain ⟨-, k9, hk9, cm9, hkk9⟩ := (hO 0 0 0).1
    exact ⟨(fun q hq => by cases hq), k9, hk9, cm9, hkk9⟩
  have hK2 : va_K D cl (tys ++ [(cA, .array ty)]) s := ⟨hK.1, fun k9 x hx => by
    by_cases hl : k9 < tys.length
    · rw [List.getElem?_append_left hl] at hx
      exact hK.2 k9 x hx
    · rw [List.getElem?_append_right (by omega)] at hx
      have h0 : k9 - tys.length < 1 := (List.getElem?_eq_some_iff.mp hx).1
      rw [show k9 - tys.length = 0 by omega] at hx
      cases hx
      exact ⟨hAr, fA⟩⟩
  obtain ⟨t, a1, b1⟩ := kk H.size (fun i => H.size + 1 + i) cA F.heap (fun i j _ _ h => by have h9 : H.size + 1 + i = H.size + 1 + j := h; omega) hnl hK2 (by rw [← vr_rows hnm]; exact vr_lay hP2) (by rw [← vr_rows hnm]; exact vr_layD hD2) ⟨by rw [f1]; have := hS.1; omega, fun x h1 h2 => (hold x (Nat.lt_of_lt_of_le h1 hS.1)).trans (hS.2.1 x h1 h2), hS.2.2⟩ F rfl X'
  refine ⟨t, step t ?_, b1⟩
  have e : T.heap.size = H.size := by rw [hT]
  rw [e]
  exact a1
end VGM
/-! ===== END ===== -/

/-! ===== BEGIN exceptions that leave a method, and their catching by the caller (launches without stack traces) ===== -/
section VXA
/-! The laws vx_back, vx_callV, vx_callS, vx_callSW, vx_throw0, vx_throwS follow proofs of the library, with one case more: JvmDerived/Free/Laws.lean (Back.of_free), Shelf42/LK1.lean (callV, callS), Shelf/KitTraced.lean (throwNew0V, throwNewS). -/
/-- where a method has thrown q: the class by its name, the cell, what was written, the world -/
def vx_T (XC : String → State → State → Prop) (st : State) (q : Addr) (t : State) (mc ms : Nat) (free : Addr → Prop) : Prop :=
  ∃ (E : String) (ce : Cell) (L : List Loc), XC E st t ∧ t.heap[q]? = some ce ∧ ce.vm = .none ∧ st.vm.findClass E = some ce.cls ∧ st.WarmedH t.vm ∧ st.sameButNew ({ t with vm := st.vm } : State) L mc ms ∧ ∀ z ∈ L, free z.base
def vx_Q (Qc : Array Value → State → Outcome → State → Prop) (XC : String → State → State → Prop) (mc ms : Nat) (free : Addr → Prop) : Array Value → State → Outcome → State → Prop := fun a st o t =>
  (Qc a st o t ∧ ∃ L, FrameEnd st o t L mc ms ∧ ∀ q ∈ L, free q.base) ∨ ∃ q, o = .threw q ∧ vx_T XC st q t mc ms free
/-- a callee that returns or throws -/
def vx_Met (l : Launch) (y : MethodName) (ws : List Cond) (rm : Room) (Pc : Array Value → State → Prop) (Qc : Array Value → State → Outcome → State → Prop) (XC : String → State → State → Prop) (mc ms : Nat) (free : Addr → Prop) : Prop :=
  MetFree l y (headSpec ws rm) Pc (fun _ _ _ _ _ => True) (vx_Q Qc XC mc ms free)
def vx_Post (XC : String → State → State → Prop) (mc ms : Nat) (free : Addr → Prop) : Pt → Array Value → Addr → Pt → Prop := fun A a q B =>
  ∃ (g : JFrame) (mk : MethodId) (t : State) (L : List Loc) (E : String) (ce : Cell), B.U.heap = t.heap ∧ B.U.vm = t.vm ∧ XC E (A.U.calling g mk a) t ∧ t.heap[q]? = some ce ∧ ce.vm = .none ∧ A.U.vm.findClass E = some ce.cls ∧ B.locs = A.locs ++ L ∧ (∀ z ∈ L, free z.base) ∧ B.cells = A.cells + mc ∧ B.slots = A.slots + ms
def vx_Back (l : Launch) (R : Room) (p : Program) (e : Env) (below : List Frame) (s : State) (sargs : Array Value) (y : MethodName) (len W9 : Nat)
    (Pre : Pt → Array Value → Prop) (Post : Pt → Array Value → Option Value → Pt → Prop) (PostX : Pt → Array Value → Addr → Pt → Prop) : Prop :=
  ∀ (m : MethodId) (meth : Method) (c : Code) (A : Pt) (g : JFrame) (ig : Instr) (mk : MethodId) (a : Array Value),
    Stand p l e R s m sargs below meth c A.U A.locs A.cells A.slots → g.method = m → g.locals.size = c.maxLocals → decode c.code g.pc = .ok (ig, len) →
    2 * g.monitorRoom + (g.stack.map fun v => v.category).sum ≤ W9 → A.U.methodNamed? y = some mk → Pre A a →
    (∃ (v : Option Value) (B : Pt), Stand p l e R s m sargs below meth c B.U B.locs B.cells B.slots ∧ Post A a v B ∧
      Steps p.tables e below (doInvoke e (A.U.setTop g) [] mk a).1 (B.U.setTop { g with pc := g.pc + len, stack := v.toList ++ g.stack })) ∨
    (∃ (q : Addr) (B : Pt), Stand p l e R s m sargs below meth c B.U B.locs B.cells B.slots ∧ PostX A a q B ∧
      Steps p.tables e below (doInvoke e (A.U.setTop g) [] mk a).1 ((B.U.setTop g).pushFrame (.throwing q)))
section Payer
variable {l : Launch} {R : Room} {p : Program} {e : Env} {below : List Frame} {s : State} {sargs : Array Value} {y : MethodName} {len W9 : Nat}
theorem vx_back {ws : List Cond} {rm : Room} {Pc : Array Value → State → Prop} {Qc : Array Value → State → Outcome → State → Prop} {XC : String → State → State → Prop} {mc ms : Nat} {free : Addr → Prop} {bytes : ByteArray} {maxL : Nat} {ret : Option FieldType}
    (hM : vx_Met l y ws rm Pc Qc XC mc ms free) (hblind : FrameBlind Pc) (hrc : rm.cells = mc) (hrs : rm.slots = ms)
    (hframes : rm.frames + 1 ≤ R.frames) (hlocals : W9 + (maxL + 11) + rm.locals ≤ R.locals)
    (hws : ∀ w ∈ ws, ∀ a' U, s.WarmedH U.vm → w.before a' U = true) (hcode : Cond.code y bytes maxL ret ∈ ws) (hinit : ∀ a' U, s.WarmedH U.vm → (Cond.initialized y.cls).before a' U = true) :
    vx_Back l R p e below s sargs y len W9 (PreOf R mc ms Pc) (PostOf Qc mc ms free) (vx_Post XC mc ms free) := by
  intro m meth c A g ig mk a X hg hsize hdg hW hn hp
  have h1 : (headSpec ws rm).pre.before a A.U = true := atoms_intro fun w hw => hws w hw _ _ X.warmed
  have h2 : (Cond.code y bytes maxL ret).before a A.U = true := hws _ hcode _ _ X.warmed
  have h3 : (Cond.initialized y.cls).before a A.U = true := hinit _ _ X.warmed
  have h4 : A.cells + (headSpec ws rm).room.cells ≤ R.cells := by rw [show (headSpec ws rm).room.cells = mc from hrc]; exact hp.1
  have h5 : A.slots + (headSpec ws rm).room.slots ≤ R.slots := by rw [show (headSpec ws rm).room.slots = ms from hrs]; exact hp.2.1
  have hPc : Pc a (A.U.calling g mk a) := hblind _ _ _ _ hp.2.2
  obtain ⟨U, Ls, c0, s0⟩ := A
  dsimp only [Pt.U, Pt.locs, Pt.cells, Pt.slots] at h1 h2 h3 h4 h5 X hn hPc ⊢
  obtain ⟨methY, cY, hmY, hcY, -, hlY, -, -, -, -⟩ := Cond.code_spec hn h2
  obtain ⟨kY, hkY, -⟩ := className_of_methodNamed hn
  have hinitY : kY.init = .initialized := Cond.initialized_spec (findClass_of_methodNamed hn) hkY h3
  have h : At U g.method c below := by rw [hg]; exact X.here
  have hlocals9 : W9 + (maxL + 11) + (headSpec ws rm).room.locals ≤ R.locals := hlocals
  have happ : (headSpec ws rm).appliesLoose y e.platform (U.calling g mk a) = true :=
    Spec.appliesLoose_calling (g := g) h hdg hn hkY hinitY
      (X.room_calling (g := g) (R' := (headSpec ws rm).room) hsize hmY hcY hframes (by rw [hlY]; omega) h4 h5) h1
  obtain ⟨mid, hmid⟩ := h.above
  have hfr : (U.setTop g).frames = (.java g :: mid) ++ below := by rw [State.frames_setTop' g h.top, hmid]; rfl
  obtain ⟨o, s₂, hsteps, -, hend, hq⟩ := Steps.callFree hM p X.admits X.cas X.clock (acts := []) hfr happ hPc trivial
  have hq' : vx_Q Qc XC mc ms free a (U.calling g mk a) o s₂ := hq
  rw [State.frames_setTop' g h.top] at hend
  obtain ⟨g₀, hg0⟩ := Option.isSome_iff_exists.mp h.top
  obtain ⟨r, hr⟩ := State.topJava?_eq_some.mp hg0
  have hr' : (({ U with heap := s₂.heap, slotsUsed := s₂.slotsUsed } : State).setVm s₂.vm).frames = .java g₀ :: r := hr
  rcases hq' with ⟨hqc, L, hfe, hL⟩ | ⟨q, rfl, E, ce, L, hx, hce, hcv, hcl, hW₂, hsm, hL⟩
  · obtain ⟨⟨v, rfl⟩, hW₂, e2, q2, q3, q4, q5, q6⟩ := id hfe
    have e3 : s₂ = ({ (U.calling g mk a).setFrames s₂.frames with heap := s₂.heap, slotsUsed := s₂.slotsUsed } : State).setVm s₂.vm := by
      have : s₂ = ({ s₂ with vm := (U.calling g mk a).vm } : State).setVm s₂.vm := rfl
      rw [e2] at this
      exact this
    obtain ⟨c₂, i₂, len₂, hc₂, hd₂, hf₂⟩ := hend
    have hW' : U.WarmedH s₂.vm := hW₂
    have hcc : c₂ = c := by
      have h1 : s₂.code? g.method = U.code? g.method := by
        rw [State.code?_eq, State.code?_eq, hW'.alike.method?]
      exact Option.some.inj (hc₂.symm.trans (h1.trans h.code))
    subst hcc
    have hlen : len₂ = len := by rw [hdg] at hd₂; cases hd₂; rfl
    subst hlen
    have hs₂ : s₂ = (({ U with heap := s₂.heap, slotsUsed := s₂.slotsUsed } : State).setVm s₂.vm).setTop { g with pc := g.pc + len₂, stack := v.toList ++ g.stack } := by
      refine e3.trans ?_
      rw [hf₂, State.calling_eq h.top, State.setFrames_setFrames, State.setTop_of_frames _ hr', hr]
      rfl
    have hsame : U.sameButNew ({ U with heap := s₂.heap, slotsUsed := s₂.slotsUsed } : State) L mc ms := by
      refine ⟨?_, q2, q3, q4, q5, q6⟩
      obtain ⟨t, ht, -⟩ := State.frames_cons hr
      show ({ U with heap := s₂.heap, slotsUsed := s₂.slotsUsed } : State) = { U.setFrames U.frames with heap := s₂.heap, slotsUsed := s₂.slotsUsed }
      rw [State.setFrames_self ht]
    subst hg
    refine Or.inl ⟨v, ⟨(({ U with heap := s₂.heap, slotsUsed := s₂.slotsUsed } : State).setVm s₂.vm), Ls ++ L, c0 + mc, s0 + ms⟩,
      ⟨X.admits, X.cas, X.clock, X.frames, X.room, X.hears, X.method, X.code, (X.here.setHeapUsed s₂.heap s₂.slotsUsed).setVm hW'.alike, X.tail, State.WarmedH.trans X.warmed hW', X.limits, X.bytes, X.same.trans (hsame.setVm s.vm)⟩,
      ⟨g, mk, s₂, L, rfl, rfl, hqc, rfl, hL, rfl, rfl⟩, ?_⟩
    show Steps p.tables e below _ ((({ U with heap := s₂.heap, slotsUsed := s₂.slotsUsed } : State).setVm s₂.vm).setTop { g with pc := g.pc + len₂, stack := v.toList ++ g.stack })
    rw [← hs₂]
    exact hsteps
  · obtain ⟨e2, q2, q3, q4, q5, q6⟩ := id hsm
    have e3 : s₂ = ({ (U.calling g mk a).setFrames s₂.frames with heap := s₂.heap, slotsUsed := s₂.slotsUsed } : State).setVm s₂.vm := by
      have : s₂ = ({ s₂ with vm := (U.calling g mk a).vm } : State).setVm s₂.vm := rfl
      rw [e2] at this
      exact this
    have hf₂ : s₂.frames = .throwing q :: .java g :: U.frames.tail := hend
    have hW' : U.WarmedH s₂.vm := hW₂
    have hs₂ : s₂ = ((({ U with heap := s₂.heap, slotsUsed := s₂.slotsUsed } : State).setVm s₂.vm).setTop g).pushFrame (.throwing q) := by
      refine e3.trans ?_
      rw [hf₂, State.calling_eq h.top, State.setFrames_setFrames, State.pushFrame, State.frames_setTop _ hr', State.setTop_of_frames _ hr', State.setFrames_setFrames, hr]
      rfl
    have hsame : U.sameButNew ({ U with heap := s₂.heap, slotsUsed := s₂.slotsUsed } : State) L mc ms := by
      refine ⟨?_, q2, q3, q4, q5, q6⟩
      obtain ⟨t, ht, -⟩ := State.frames_cons hr
      show ({ U with heap := s₂.heap, slotsUsed := s₂.slotsUsed } : State) = { U.setFrames U.frames with heap := s₂.heap, slotsUsed := s₂.slotsUsed }
      rw [State.setFrames_self ht]
    subst hg
    refine Or.inr ⟨q, ⟨(({ U with heap := s₂.heap, slotsUsed := s₂.slotsUsed } : State).setVm s₂.vm), Ls ++ L, c0 + mc, s0 + ms⟩,
      ⟨X.admits, X.cas, X.clock, X.frames, X.room, X.hears, X.method, X.code, (X.here.setHeapUsed s₂.heap s₂.slotsUsed).setVm hW'.alike, X.tail, State.WarmedH.trans X.warmed hW', X.limits, X.bytes, X.same.trans (hsame.setVm s.vm)⟩,
      ⟨g, mk, s₂, L, E, ce, rfl, rfl, hx, hce, hcv, hcl, rfl, hL, rfl, rfl⟩, ?_⟩
    show Steps p.tables e below _ (((({ U with heap := s₂.heap, slotsUsed := s₂.slotsUsed } : State).setVm s₂.vm).setTop g).pushFrame (.throwing q))
    rw [← hs₂]
    exact hsteps
end Payer
section Calls
variable {p : Program} {l : Launch} {e : Env} {R : Room} {s : State} {m : MethodId} {args : Array Value} {below : List Frame} {meth : Method} {c : Code} {T : State} {locs : List Loc} {cells slots : Nat}
theorem vx_callV (X : Stand p l e R s m args below meth c T locs cells slots) (hexec : p.tables.exec = Jvm.exec) {own C : String} {index : Nat} {y : MethodName} {bytes : ByteArray} {maxL : Nat} {ret : Option FieldType}
    (hown : s.vm.findClass own = some m.cls) (hlink : (Cond.methodLink own index y).before args s = true) (hinst : (Cond.instanceMethod y).before args s = true) (hsel : (Cond.selects C y y).before args s = true)
    (hcode : (Cond.code y bytes maxL ret).before args s = true) (hy : y.cls ≠ "java/lang/invoke/MethodHandle" ∧ y.cls ≠ "java/lang/invoke/VarHandle")
    {W9 : Nat} {Pre : Pt → Array Value → Prop} {Post : Pt → Array Value → Option Value → Pt → Prop} {PostX : Pt → Array Value → Addr → Pt → Prop} (hK : vx_Back l R p e below s args y 3 W9 Pre Post PostX)
    {b : Addr} {cellB : Cell} (hcell : T.heap[b]? = some cellB) (hobj : cellB.vm.isStatics = false) (hcls : s.vm.findClass C = some cellB.cls)
    {g : JFrame} (hg : g.method = m) (hsize : g.locals.size = c.maxLocals) {argsL rest : List Value} (hlen : ∀ sig, parseMethodDescriptor y.desc = some sig → argsL.length = sig.parameters.length)
    (hstack : g.stack = argsL.reverse ++ .ref b :: rest) (hW : 2 * g.monitorRoom + (rest.map fun v => v.category).sum ≤ W9) (hdg : decode c.code g.pc = .ok (.invokevirtual index, 3))
    (hpre : ∀ vm₁, s.WarmedH vm₁ → Pre ⟨T.setVm vm₁, locs, cells, slots⟩ (Value.ref b :: argsL).toArray) :
    (∃ (v : Option Value) (vm₁ : Vm) (B : Pt), s.WarmedH vm₁ ∧ Stand p l e R s m args below meth c B.U B.locs B.cells B.slots ∧ Post ⟨T.setVm vm₁, locs, cells, slots⟩ (Value.ref b :: argsL).toArray v B ∧
      ∀ target, Steps p.tables e below (B.U.setTop { g with pc := g.pc + 3, stack := v.toList ++ rest }) target → Steps p.tables e below (T.setTop g) target) ∨
    (∃ (q : Addr) (vm₁ : Vm) (B : Pt), s.WarmedH vm₁ ∧ Stand p l e R s m args below meth c B.U B.locs B.cells B.slots ∧ PostX ⟨T.setVm vm₁, locs, cells, slots⟩ (Value.ref b :: argsL).toArray q B ∧
      Steps p.tables e below (T.setTop g) ((B.U.setTop { g with stack := rest }).pushFrame (.throwing q))) := by
  obtain ⟨mk, methM, hnamed, hmethM, hstM, habM⟩ := Cond.instanceMethod_spec hinst
  obtain ⟨methM', cM, hmethM', -, -, -, -, -, -, hsigM⟩ := Cond.code_spec hnamed hcode
  cases hmethM.symm.trans hmethM'
  obtain ⟨c2, r2, m2, q1, q2, q3, q4, kP, hkP, hkPi⟩ := Cond.selects_spec hsel
  cases hcls.symm.trans q1
  cases (State.methodFound?_of_named hnamed hy).symm.trans q2
  cases hnamed.symm.trans q3
  have hselP : selectMethod e.platform s.vm cellB.cls mk = .method mk := by rw [Launch.admits_selectMethod X.admits]; exact q4
  obtain ⟨vm₁, X₁, hstep₁⟩ := X.invokevirtual hexec hown hlink hnamed hmethM hstM hkP hkPi hy (a := b) (cell := cellB) hcell
    (fun z h => by rw [h] at hobj; cases hobj) hselP hmethM habM hkP hkPi (g := g) hg (argsL := argsL) (rest := rest) (hlen _ hsigM) hstack hdg
  rcases hK m meth c ⟨T.setVm vm₁, locs, cells, slots⟩ { g with stack := rest } (.invokevirtual index) mk (Value.ref b :: argsL).toArray X₁ hg hsize hdg hW (X₁.named hnamed) (hpre vm₁ X₁.warmed) with ⟨v, B, X', hpost, hsteps⟩ | ⟨q, B, X', hpost, hsteps⟩
  · exact Or.inl ⟨v, vm₁, B, X₁.warmed, X', hpost, fun target h => hstep₁ _ fun acts => by rw [doInvoke_state]; exact hsteps.trans h⟩
  · exact Or.inr ⟨q, vm₁, B, X₁.warmed, X', hpost, hstep₁ _ fun acts => by rw [doInvoke_state]; exact hsteps⟩
theorem vx_callS (X : Stand p l e R s m args below meth c T locs cells slots) (hexec : p.tables.exec = Jvm.exec) {own : String} {index : Nat} {y : MethodName} {bytes : ByteArray} {maxL : Nat} {ret : Option FieldType}
    (hown : s.vm.findClass own = some m.cls) (hlink : (Cond.methodLink own index y).before args s = true) (hstat : (Cond.static y).before args s = true) (hinit : (Cond.initialized y.cls).before args s = true)
    (hcode : (Cond.code y bytes maxL ret).before args s = true) (hy : y.cls ≠ "java/lang/invoke/MethodHandle" ∧ y.cls ≠ "java/lang/invoke/VarHandle")
    {W9 : Nat} {Pre : Pt → Array Value → Prop} {Post : Pt → Array Value → Option Value → Pt → Prop} {PostX : Pt → Array Value → Addr → Pt → Prop} (hK : vx_Back l R p e below s args y 3 W9 Pre Post PostX)
    {g : JFrame} (hg : g.method = m) (hsize : g.locals.size = c.maxLocals) {argsL rest : List Value} (hlen : ∀ sig, parseMethodDescriptor y.desc = some sig → argsL.length = sig.parameters.length)
    (hstack : g.stack = argsL.reverse ++ rest) (hW : 2 * g.monitorRoom + (rest.map fun v => v.category).sum ≤ W9) (hdg : decode c.code g.pc = .ok (.invokestatic index, 3))
    (hpre : ∀ vm₁, s.WarmedH vm₁ → Pre ⟨T.setVm vm₁, locs, cells, slots⟩ argsL.toArray) :
    (∃ (v : Option Value) (vm₁ : Vm) (B : Pt), s.WarmedH vm₁ ∧ Stand p l e R s m args below meth c B.U B.locs B.cells B.slots ∧ Post ⟨T.setVm vm₁, locs, cells, slots⟩ argsL.toArray v B ∧
      ∀ target, Steps p.tables e below (B.U.setTop { g with pc := g.pc + 3, stack := v.toList ++ rest }) target → Steps p.tables e below (T.setTop g) target) ∨
    (∃ (q : Addr) (vm₁ : Vm) (B : Pt), s.WarmedH vm₁ ∧ Stand p l e R s m args below meth c B.U B.locs B.cells B.slots ∧ PostX ⟨T.setVm vm₁, locs, cells, slots⟩ argsL.toArray q B ∧
      Steps p.tables e below (T.setTop g) ((B.U.setTop { g with stack := rest }).pushFrame (.throwing q))) := by
  obtain ⟨mk, hnamed⟩ := Cond.code_named hcode
  obtain ⟨methM, cM, hmethM, -, -, -, -, -, -, hsigM⟩ := Cond.code_spec hnamed hcode
  have hstatic : methM.isStatic = true := Cond.static_spec hnamed hmethM hstat
  obtain ⟨kP, hkP, -⟩ := className_of_methodNamed hnamed
  have hinitP : kP.init = .initialized := Cond.initialized_spec (findClass_of_methodNamed hnamed) hkP hinit
  obtain ⟨vm₁, X₁, hstep₁⟩ := X.invokestatic hexec hown hlink hnamed hmethM hstatic hkP hinitP hy (g := g) hg (argsL := argsL) (rest := rest) (hlen _ hsigM) hstack hdg
  rcases hK m meth c ⟨T.setVm vm₁, locs, cells, slots⟩ { g with stack := rest } (.invokestatic index) mk argsL.toArray X₁ hg hsize hdg hW (X₁.named hnamed) (hpre vm₁ X₁.warmed) with ⟨v, B, X', hpost, hsteps⟩ | ⟨q, B, X', hpost, hsteps⟩
  · exact Or.inl ⟨v, vm₁, B, X₁.warmed, X', hpost, fun target h => hstep₁ _ fun acts => by rw [doInvoke_state]; exact hsteps.trans h⟩
  · exact Or.inr ⟨q, vm₁, B, X₁.warmed, X', hpost, hstep₁ _ fun acts => by rw [doInvoke_state]; exact hsteps⟩
end Calls
theorem vx_cls {s : State} {T : State} {vm₁ : Vm} {E : String} {k : ClassId} (hW : s.WarmedH vm₁) (h : (T.setVm vm₁).vm.findClass E = some k) : s.vm.findClass E = some k := by
  have h1 : vm₁.findClass E = some k := h
  rw [hW.alike.findClass] at h1
  exact h1
/-- the method's frame g, with q thrown over it -/
def vx_W (p : Program) (l : Launch) (e : Env) (R : Room) (s : State) (m : MethodId) (args : Array Value) (below : List Frame) (meth : Method) (c : Code) (H : Heap) (locs : List Loc) (cells slots : Nat) (Q : State → Prop) (g : JFrame) (q : Addr) : Prop :=
  ∀ T : State, T.heap = H → Stand p l e R s m args below meth c T locs cells slots → ∃ t, Steps p.tables e below ((T.setTop g).pushFrame (.throwing q)) t ∧ Q t
def vx_Run (p : Program) (l : Launch) (e : Env) (R : Room) (s : State) (m : MethodId) (args : Array Value) (below : List Frame) (meth : Method) (c : Code) (H : Heap) (locs : List Loc) (cells slots mc ms : Nat) (g : JFrame) (rest : List Value) (Qa : State → Outcome → State → Prop) (XC : String → State → State → Prop) (free : Addr → Prop) : Prop :=
  ∀ T : State, T.heap = H → Stand p l e R s m args below meth c T locs cells slots →
    (∃ (v : Option Value) (st₀ t T' : State) (L : List Loc), st₀.heap = H ∧ Stand p l e R s m args below meth c T' (locs ++ L) (cells + mc) (slots + ms) ∧ (∀ q ∈ L, free q.base) ∧ T'.heap = t.heap ∧ T'.vm = t.vm ∧ Qa st₀ (.returned v) t ∧
      Goes p e below T g T' { g with pc := g.pc + 3, stack := v.toList ++ rest }) ∨
    (∃ (q : Addr) (st₀ t T' : State) (L : List Loc) (E : String) (ce : Cell), st₀.heap = H ∧ Stand p l e R s m args below meth c T' (locs ++ L) (cells + mc) (slots + ms) ∧ (∀ z ∈ L, free z.base) ∧ T'.heap = t.heap ∧ T'.vm = t.vm ∧ XC E st₀ t ∧ t.heap[q]? = some ce ∧ ce.vm = .none ∧ s.vm.findClass E = some ce.cls ∧
      Steps p.tables e below (T.setTop g) ((T'.setTop { g with stack := rest }).pushFrame (.throwing q)))
def vx_X {S : Type} (px : S → Prop) (B : String → S → State → Prop) (A : Nat → Prop) : String → State → State → Prop := fun E st t => ∃ u : S, px u ∧ B E u t ∧ va_F A st t
section Runs
variable {p : Program} {l : Launch} {e : Env} {R : Room} {s : State} {m : MethodId} {args : Array Value} {below : List Frame} {meth : Method} {c : Code} {H : Heap} {locs : List Loc} {cells slots : Nat}
variable {y : MethodName} {bytes cc : ByteArray} {maxL nL mc ms n index : Nat} {ret : Option FieldType} {ws : List Cond} {rm : Room} {Pc : Array Value → State → Prop} {Qc : Array Value → State → Outcome → State → Prop} {XC : String → State → State → Prop} {free : Addr → Prop} {Ts : List Cond} {own C : String} {b : Addr} {As rest : List Value} {g : JFrame}
theorem vx_callBack (cb : CallB R s args own index y bytes maxL ret ws rm mc ms n) (hM : vx_Met l y ws rm Pc Qc XC mc ms free) (hbl : FrameBlind Pc) : vx_Back l R p e below s args y 3 8 (PreOf R mc ms Pc) (PostOf Qc mc ms free) (vx_Post XC mc ms free) := by
  obtain ⟨hrc, hrs, hfr, hlo, hws, hcw, -, hini, -⟩ := cb
  exact vx_back (bytes := bytes) (maxL := maxL) (ret := ret) hM hbl hrc hrs hfr hlo hws hcw (fun a' U hW => word_at hW (Or.inl (by first | rfl | simp [Cond.onTables, Cond.keeps, Cond.steady])) hini)
theorem vx_runV (S : CallFix p m c cc nL s args Ts own) (hM : vx_Met l y ws rm Pc Qc XC mc ms free) (cw : CallW R s args own C index y bytes maxL ret ws rm mc ms n) (hp : PreV s H C b Pc As)
    (hg : g.method = m) (hn : As.length = n) (hsize : g.locals.size = nL) (hstack : g.stack = As.reverse ++ .ref b :: rest) (hW : 2 * g.monitorRoom + (rest.map fun v => v.category).sum ≤ 8) (hdg : decode cc g.pc = .ok (.invokevirtual index, 3)) (hf : cells + mc ≤ R.cells ∧ slots + ms ≤ R.slots) :
    vx_Run p l e R s m args below meth c H locs cells slots mc ms g rest (Qc (Value.ref b :: As).toArray) XC free := by
  have hK : vx_Back l R p e below s args y 3 8 (PreOf R mc ms Pc) (PostOf Qc mc ms free) (vx_Post XC mc ms free) := vx_callBack cw.1 hM hp.1
  obtain ⟨⟨-, -, -, -, -, -, hcode, -, hy, hlen, hl⟩, hin, hse⟩ := cw
  obtain ⟨hx, hb, hml, ho, -⟩ := S
  obtain ⟨-, ⟨cellB, hcB, hoB, hclB⟩, hPc⟩ := hp
  intro T hT X
  rcases vx_callV X hx (C := C) (bytes := bytes) (maxL := maxL) (ret := ret) ho hl hin hse hcode hy hK (by rw [hT]; exact hcB) hoB hclB hg (hsize.trans hml.symm) (argsL := As) (rest := rest) (fun sig h => hn.trans (hlen sig h)) hstack hW (by rw [hb]; exact hdg)
    (fun vm₁ hW₁ => ⟨hf.1, hf.2, hPc (T.setVm vm₁) hT hW₁⟩) with ⟨v, vm₁, ⟨U', l2, c2, s2⟩, hW₁, X', ⟨g', mk, t, L, e1, e2, hq, h1, hL, h2, h3⟩, st⟩ | ⟨q, vm₁, ⟨U', l2, c2, s2⟩, hW₁, X', ⟨g', mk, t, L, E, ce, e1, e2, hq, hce, hcv, hcl, h1, hL, h2, h3⟩, st⟩
  · dsimp only [Pt.U, Pt.locs, Pt.cells, Pt.slots] at X' e1 e2 h1 h2 h3 st
    subst h1; subst h2; subst h3
    exact Or.inl ⟨v, (T.setVm vm₁).calling g' mk (Value.ref b :: As).toArray, t, U', L, hT, X', hL, e1, e2, hq, st⟩
  · dsimp only [Pt.U, Pt.locs, Pt.cells, Pt.slots] at X' e1 e2 h1 h2 h3 st hcl
    subst h1; subst h2; subst h3
    exact Or.inr ⟨q, (T.setVm vm₁).calling g' mk (Value.ref b :: As).toArray, t, U', L, E, ce, hT, X', hL, e1, e2, hq, hce, hcv, vx_cls hW₁ hcl, st⟩
theorem vx_runS (S : CallFix p m c cc nL s args Ts own) (hM : vx_Met l y ws rm Pc Qc XC mc ms free) (cw : CallB R s args own index y bytes maxL ret ws rm mc ms n ∧ (Cond.static y).before args s = true) (hp : PreS s H Pc As)
    (hg : g.method = m) (hn : As.length = n) (hsize : g.locals.size = nL) (hstack : g.stack = As.reverse ++ rest) (hW : 2 * g.monitorRoom + (rest.map fun v => v.category).sum ≤ 8) (hdg : decode cc g.pc = .ok (.invokestatic index, 3)) (hf : cells + mc ≤ R.cells ∧ slots + ms ≤ R.slots) :
    vx_Run p l e R s m args below meth c H locs cells slots mc ms g rest (Qc As.toArray) XC free := by
  have hK : vx_Back l R p e below s args y 3 8 (PreOf R mc ms Pc) (PostOf Qc mc ms free) (vx_Post XC mc ms free) := vx_callBack cw.1 hM hp.1
  obtain ⟨⟨-, -, -, -, -, -, hcode, hini, hy, hlen, hl⟩, hstt⟩ := cw
  obtain ⟨hx, hb, hml, ho, -⟩ := S
  intro T hT X
  rcases vx_callS X hx (bytes := bytes) (maxL := maxL) (ret := ret) ho hl hstt hini hcode hy hK hg (hsize.trans hml.symm) (argsL := As) (rest := rest) (fun sig h => hn.trans (hlen sig h)) hstack hW (by rw [hb]; exact hdg)
    (fun vm₁ hW₁ => ⟨hf.1, hf.2, hp.2 (T.setVm vm₁) hT hW₁⟩) with ⟨v, vm₁, ⟨U', l2, c2, s2⟩, hW₁, X', ⟨g', mk, t, L, e1, e2, hq, h1, hL, h2, h3⟩, st⟩ | ⟨q, vm₁, ⟨U', l2, c2, s2⟩, hW₁, X', ⟨g', mk, t, L, E, ce, e1, e2, hq, hce, hcv, hcl, h1, hL, h2, h3⟩, st⟩
  · dsimp only [Pt.U, Pt.locs, Pt.cells, Pt.slots] at X' e1 e2 h1 h2 h3 st
    subst h1; subst h2; subst h3
    exact Or.inl ⟨v, (T.setVm vm₁).calling g' mk As.toArray, t, U', L, hT, X', hL, e1, e2, hq, st⟩
  · dsimp only [Pt.U, Pt.locs, Pt.cells, Pt.slots] at X' e1 e2 h1 h2 h3 st hcl
    subst h1; subst h2; subst h3
    exact Or.inr ⟨q, (T.setVm vm₁).calling g' mk As.toArray, t, U', L, E, ce, hT, X', hL, e1, e2, hq, hce, hcv, vx_cls hW₁ hcl, st⟩
end Runs
section Rows
variable {p : Program} {l : Launch} {e : Env} {R : Room} {s : State} {m : MethodId} {args : Array Value} {below : List Frame} {meth : Method} {c : Code} {H : Heap} {locs : List Loc} {cells slots : Nat} {Q : State → Prop}
variable {mc ms : Nat} {free : Addr → Prop} {A0 A1 : Nat → Prop} {H0 : Heap} {a : Array Value} {pc : Nat} {ls : Array Slot} {st0 rest : List Value}
theorem vx_keep {st₀ t T' : State} {L : List Loc} (h0 : st₀.heap = H) (e1 : T'.heap = t.heap) (hS : va_S A0 H0 H locs) (hA : ∀ q, q < H.size → A1 q → A0 q) (hf : ∀ q, free q → A0 q) (hL : ∀ q ∈ L, free q.base) (hF : va_F A1 st₀ t) :
    H.size ≤ T'.heap.size ∧ (∀ q : Nat, q < H.size → ¬ A1 q → T'.heap[q]? = H[q]?) ∧ va_S A0 H0 T'.heap (locs ++ L) := by
  obtain ⟨hz, hk⟩ := hF
  rw [h0] at hz hk
  exact ⟨by rw [e1]; exact hz, fun q h1 h2 => by rw [e1]; exact hk q h1 h2,
    ⟨Nat.le_trans hS.1 (by rw [e1]; exact hz), fun q h1 h2 => by rw [e1, hk q (Nat.lt_of_lt_of_le h1 hS.1) (fun z => h2 (hA q (Nat.lt_of_lt_of_le h1 hS.1) z))]; exact hS.2.1 q h1 h2, fun q hq => by
      rcases List.mem_append.mp hq with h | h
      · exact hS.2.2 q h
      · exact hf _ (hL q h)⟩⟩
theorem vx_calli {S SX : Type} {post : Int32 → S → Prop} {px : SX → Prop} {B : S → State → Prop} {BX : String → SX → State → Prop} {AX : Nat → Prop} (hr : vx_Run p l e R s m args below meth c H locs cells slots mc ms (F0 m pc ls st0) rest (va_Qi post B A1 a) (vx_X px BX AX) free) (hS : va_S A0 H0 H locs) (hA : ∀ q, q < H.size → A1 q → A0 q) (hf : ∀ q, free q → A0 q) (hAX : ∀ q, q < H.size → AX q → A0 q)
    (kx : ∀ (E : String) (ce : Cell) (q9 : Addr) (u : SX) (t : State) (H1 : Heap) (locs1 : List Loc), t.heap = H1 → s.vm.Alike t.vm → px u → BX E u t → H.size ≤ H1.size → (∀ q : Nat, q < H.size → ¬ AX q → H1[q]? = H[q]?) → va_S A0 H0 H1 locs1 → H1[q9]? = some ce → ce.vm = .none → s.vm.findClass E = some ce.cls → vx_W p l e R s m args below meth c H1 locs1 (cells + mc) (slots + ms) Q (F0 m pc ls rest) q9)
    (kk : ∀ (r : Int32) (u : S) (t : State) (H1 : Heap) (locs1 : List Loc), t.heap = H1 → s.vm.Alike t.vm → post r u → B u t → H.size ≤ H1.size → (∀ q : Nat, q < H.size → ¬ A1 q → H1[q]? = H[q]?) → va_S A0 H0 H1 locs1 → W p l e R s m args below meth c H1 locs1 (cells + mc) (slots + ms) Q (F0 m (pc + 3) ls (.int r :: rest))) : W p l e R s m args below meth c H locs cells slots Q (F0 m pc ls st0) := by
  intro T hT X
  rcases hr T hT X with ⟨v, st₀, t, T', L, h0, X', hL, e1, e2, ⟨⟨r, u, hv, hp, hb⟩, hF⟩, st⟩ | ⟨q, st₀, t, T', L, E, ce, h0, X', hL, e1, e2, ⟨u, hp, hb, hF⟩, hce, hcv, hcl, st⟩
  · cases hv
    obtain ⟨k1, k2, k3⟩ := vx_keep h0 e1 hS hA hf hL hF
    obtain ⟨t2, a1, b1⟩ := kk r u t T'.heap (locs ++ L) e1.symm (by rw [← e2]; exact X'.warmed.alike) hp hb k1 k2 k3 T' rfl X'
    exact ⟨t2, st t2 a1, b1⟩
  · obtain ⟨k1, k2, k3⟩ := vx_keep h0 e1 hS hAX hf hL hF
    obtain ⟨t2, a1, b1⟩ := kx E ce q u t T'.heap (locs ++ L) e1.symm (by rw [← e2]; exact X'.warmed.alike) hp hb k1 k2 k3 (by rw [e1]; exact hce) hcv hcl T' rfl X'
    exact ⟨t2, st.trans a1, b1⟩
theorem vx_calll {S SX : Type} {post : Int64 → S → Prop} {px : SX → Prop} {B : S → State → Prop} {BX : String → SX → State → Prop} {AX : Nat → Prop} (hr : vx_Run p l e R s m args below meth c H locs cells slots mc ms (F0 m pc ls st0) rest (va_Ql post B A1 a) (vx_X px BX AX) free) (hS : va_S A0 H0 H locs) (hA : ∀ q, q < H.size → A1 q → A0 q) (hf : ∀ q, free q → A0 q) (hAX : ∀ q, q < H.size → AX q → A0 q)
    (kx : ∀ (E : String) (ce : Cell) (q9 : Addr) (u : SX) (t : State) (H1 : Heap) (locs1 : List Loc), t.heap = H1 → s.vm.Alike t.vm → px u → BX E u t → H.size ≤ H1.size → (∀ q : Nat, q < H.size → ¬ AX q → H1[q]? = H[q]?) → va_S A0 H0 H1 locs1 → H1[q9]? = some ce → ce.vm = .none → s.vm.findClass E = some ce.cls → vx_W p l e R s m args below meth c H1 locs1 (cells + mc) (slots + ms) Q (F0 m pc ls rest) q9)
    (kk : ∀ (r : Int64) (u : S) (t : State) (H1 : Heap) (locs1 : List Loc), t.heap = H1 → s.vm.Alike t.vm → post r u → B u t → H.size ≤ H1.size → (∀ q : Nat, q < H.size → ¬ A1 q → H1[q]? = H[q]?) → va_S A0 H0 H1 locs1 → W p l e R s m args below meth c H1 locs1 (cells + mc) (slots + ms) Q (F0 m (pc + 3) ls (.long r :: rest))) : W p l e R s m args below meth c H locs cells slots Q (F0 m pc ls st0) := by
  intro T hT X
  rcases hr T hT X with ⟨v, st₀, t, T', L, h0, X', hL, e1, e2, ⟨⟨r, u, hv, hp, hb⟩, hF⟩, st⟩ | ⟨q, st₀, t, T', L, E, ce, h0, X', hL, e1, e2, ⟨u, hp, hb, hF⟩, hce, hcv, hcl, st⟩
  · cases hv
    obtain ⟨k1, k2, k3⟩ := vx_keep h0 e1 hS hA hf hL hF
    obtain ⟨t2, a1, b1⟩ := kk r u t T'.heap (locs ++ L) e1.symm (by rw [← e2]; exact X'.warmed.alike) hp hb k1 k2 k3 T' rfl X'
    exact ⟨t2, st t2 a1, b1⟩
  · obtain ⟨k1, k2, k3⟩ := vx_keep h0 e1 hS hAX hf hL hF
    obtain ⟨t2, a1, b1⟩ := kx E ce q u t T'.heap (locs ++ L) e1.symm (by rw [← e2]; exact X'.warmed.alike) hp hb k1 k2 k3 (by rw [e1]; exact hce) hcv hcl T' rfl X'
    exact ⟨t2, st.trans a1, b1⟩
theorem vx_callf {S SX : Type} {post : UInt32 → S → Prop} {px : SX → Prop} {B : S → State → Prop} {BX : String → SX → State → Prop} {AX : Nat → Prop} (hr : vx_Run p l e R s m args below meth c H locs cells slots mc ms (F0 m pc ls st0) rest (va_Qf post B A1 a) (vx_X px BX AX) free) (hS : va_S A0 H0 H locs) (hA : ∀ q, q < H.size → A1 q → A0 q) (hf : ∀ q, free q → A0 q) (hAX : ∀ q, q < H.size → AX q → A0 q)
    (kx : ∀ (E : String) (ce : Cell) (q9 : Addr) (u : SX) (t : State) (H1 : Heap) (locs1 : List Loc), t.heap = H1 → s.vm.Alike t.vm → px u → BX E u t → H.size ≤ H1.size → (∀ q : Nat, q < H.size → ¬ AX q → H1[q]? = H[q]?) → va_S A0 H0 H1 locs1 → H1[q9]? = some ce → ce.vm = .none → s.vm.findClass E = some ce.cls → vx_W p l e R s m args below meth c H1 locs1 (cells + mc) (slots + ms) Q (F0 m pc ls rest) q9)
    (kk : ∀ (r : UInt32) (u : S) (t : State) (H1 : Heap) (locs1 : List Loc), t.heap = H1 → s.vm.Alike t.vm → post r u → B u t → H.size ≤ H1.size → (∀ q : Nat, q < H.size → ¬ A1 q → H1[q]? = H[q]?) → va_S A0 H0 H1 locs1 → W p l e R s m args below meth c H1 locs1 (cells + mc) (slots + ms) Q (F0 m (pc + 3) ls (.float r :: rest))) : W p l e R s m args below meth c H locs cells slots Q (F0 m pc ls st0) := by
  intro T hT X
  rcases hr T hT X with ⟨v, st₀, t, T', L, h0, X', hL, e1, e2, ⟨⟨r, u, hv, hp, hb⟩, hF⟩, st⟩ | ⟨q, st₀, t, T', L, E, ce, h0, X', hL, e1, e2, ⟨u, hp, hb, hF⟩, hce, hcv, hcl, st⟩
  · cases hv
    obtain ⟨k1, k2, k3⟩ := vx_keep h0 e1 hS hA hf hL hF
    obtain ⟨t2, a1, b1⟩ := kk r u t T'.heap (locs ++ L) e1.symm (by rw [← e2]; exact X'.warmed.alike) hp hb k1 k2 k3 T' rfl X'
    exact ⟨t2, st t2 a1, b1⟩
  · obtain ⟨k1, k2, k3⟩ := vx_keep h0 e1 hS hAX hf hL hF
    obtain ⟨t2, a1, b1⟩ := kx E ce q u t T'.heap (locs ++ L) e1.symm (by rw [← e2]; exact X'.warmed.alike) hp hb k1 k2 k3 (by rw [e1]; exact hce) hcv hcl T' rfl X'
    exact ⟨t2, st.trans a1, b1⟩
theorem vx_calld {S SX : Type} {post : UInt64 → S → Prop} {px : SX → Prop} {B : S → State → Prop} {BX : String → SX → State → Prop} {AX : Nat → Prop} (hr : vx_Run p l e R s m args below meth c H locs cells slots mc ms (F0 m pc ls st0) rest (va_Qd post B A1 a) (vx_X px BX AX) free) (hS : va_S A0 H0 H locs) (hA : ∀ q, q < H.size → A1 q → A0 q) (hf : ∀ q, free q → A0 q) (hAX : ∀ q, q < H.size → AX q → A0 q)
    (kx : ∀ (E : String) (ce : Cell) (q9 : Addr) (u : SX) (t : State) (H1 : Heap) (locs1 : List Loc), t.heap = H1 → s.vm.Alike t.vm → px u → BX E u t → H.size ≤ H1.size → (∀ q : Nat, q < H.size → ¬ AX q → H1[q]? = H[q]?) → va_S A0 H0 H1 locs1 → H1[q9]? = some ce → ce.vm = .none → s.vm.findClass E = some ce.cls → vx_W p l e R s m args below meth c H1 locs1 (cells + mc) (slots + ms) Q (F0 m pc ls rest) q9)
    (kk : ∀ (r : UInt64) (u : S) (t : State) (H1 : Heap) (locs1 : List Loc), t.heap = H1 → s.vm.Alike t.vm → post r u → B u t → H.size ≤ H1.size → (∀ q : Nat, q < H.size → ¬ A1 q → H1[q]? = H[q]?) → va_S A0 H0 H1 locs1 → W p l e R s m args below meth c H1 locs1 (cells + mc) (slots + ms) Q (F0 m (pc + 3) ls (.double r :: rest))) : W p l e R s m args below meth c H locs cells slots Q (F0 m pc ls st0) := by
  intro T hT X
  rcases hr T hT X with ⟨v, st₀, t, T', L, h0, X', hL, e1, e2, ⟨⟨r, u, hv, hp, hb⟩, hF⟩, st⟩ | ⟨q, st₀, t, T', L, E, ce, h0, X', hL, e1, e2, ⟨u, hp, hb, hF⟩, hce, hcv, hcl, st⟩
  · cases hv
    obtain ⟨k1, k2, k3⟩ := vx_keep h0 e1 hS hA hf hL hF
    obtain ⟨t2, a1, b1⟩ := kk r u t T'.heap (locs ++ L) e1.symm (by rw [← e2]; exact X'.warmed.alike) hp hb k1 k2 k3 T' rfl X'
    exact ⟨t2, st t2 a1, b1⟩
  · obtain ⟨k1, k2, k3⟩ := vx_keep h0 e1 hS hAX hf hL hF
    obtain ⟨t2, a1, b1⟩ := kx E ce q u t T'.heap (locs ++ L) e1.symm (by rw [← e2]; exact X'.warmed.alike) hp hb k1 k2 k3 (by rw [e1]; exact hce) hcv hcl T' rfl X'
    exact ⟨t2, st.trans a1, b1⟩
theorem vx_callv {S SX : Type} {post : S → Prop} {px : SX → Prop} {B : S → State → Prop} {BX : String → SX → State → Prop} {AX : Nat → Prop} (hr : vx_Run p l e R s m args below meth c H locs cells slots mc ms (F0 m pc ls st0) rest (va_Qv post B A1 a) (vx_X px BX AX) free) (hS : va_S A0 H0 H locs) (hA : ∀ q, q < H.size → A1 q → A0 q) (hf : ∀ q, free q → A0 q) (hAX : ∀ q, q < H.size → AX q → A0 q)
    (kx : ∀ (E : String) (ce : Cell) (q9 : Addr) (u : SX) (t : State) (H1 : Heap) (locs1 : List Loc), t.heap = H1 → s.vm.Alike t.vm → px u → BX E u t → H.size ≤ H1.size → (∀ q : Nat, q < H.size → ¬ AX q → H1[q]? = H[q]?) → va_S A0 H0 H1 locs1 → H1[q9]? = some ce → ce.vm = .none → s.vm.findClass E = some ce.cls → vx_W p l e R s m args below meth c H1 locs1 (cells + mc) (slots + ms) Q (F0 m pc ls rest) q9)
    (kk : ∀ (u : S) (t : State) (H1 : Heap) (locs1 : List Loc), t.heap = H1 → s.vm.Alike t.vm → post u → B u t → H.size ≤ H1.size → (∀ q : Nat, q < H.size → ¬ A1 q → H1[q]? = H[q]?) → va_S A0 H0 H1 locs1 → W p l e R s m args below meth c H1 locs1 (cells + mc) (slots + ms) Q (F0 m (pc + 3) ls (rest))) : W p l e R s m args below meth c H locs cells slots Q (F0 m pc ls st0) := by
  intro T hT X
  rcases hr T hT X with ⟨v, st₀, t, T', L, h0, X', hL, e1, e2, ⟨⟨u, hv, hp, hb⟩, hF⟩, st⟩ | ⟨q, st₀, t, T', L, E, ce, h0, X', hL, e1, e2, ⟨u, hp, hb, hF⟩, hce, hcv, hcl, st⟩
  · cases hv
    obtain ⟨k1, k2, k3⟩ := vx_keep h0 e1 hS hA hf hL hF
    obtain ⟨t2, a1, b1⟩ := kk u t T'.heap (locs ++ L) e1.symm (by rw [← e2]; exact X'.warmed.alike) hp hb k1 k2 k3 T' rfl X'
    exact ⟨t2, st t2 a1, b1⟩
  · obtain ⟨k1, k2, k3⟩ := vx_keep h0 e1 hS hAX hf hL hF
    obtain ⟨t2, a1, b1⟩ := kx E ce q u t T'.heap (locs ++ L) e1.symm (by rw [← e2]; exact X'.warmed.alike) hp hb k1 k2 k3 (by rw [e1]; exact hce) hcv hcl T' rfl X'
    exact ⟨t2, st.trans a1, b1⟩
/-- caught by the row x of this method's table; the rows ahead don't take it -/
theorem vx_catch {own name : String} {E : String} {ce : Cell} {q : Addr} (hown : s.vm.findClass own = some m.cls) (pre : List ExceptionTableEntry) (x : ExceptionTableEntry) (suf : List ExceptionTableEntry) (hsplit : c.exceptionTable.toList = pre ++ x :: suf)
    (hpass : ∀ z ∈ pre, covers z pc = false ∨ (z.catchType ≠ 0 ∧ ∃ nm : String, (Cond.classLink own z.catchType nm).before args s = true ∧ va_Nc E nm s)) (hx : covers x pc = true) (h0 : x.catchType ≠ 0)
    (hlink : (Cond.classLink own x.catchType name).before args s = true) (hcast : (Cond.castable E name).before args s = true) (hcell : H[q]? = some ce) (hv : ce.vm = .none) (hcl : s.vm.findClass E = some ce.cls)
    (kk : W p l e R s m args below meth c H locs cells slots Q (F0 m x.handlerPc ls [.ref q])) : vx_W p l e R s m args below meth c H locs cells slots Q (F0 m pc ls rest) q := by
  intro T hT X
  have hpl : e.platform.magicAccessors = ({} : Platform).magicAccessors := by rw [X.admits.platform]
  obtain ⟨c3, c4, hc3, hc4, hasg⟩ := Cond.castable_spec hcast
  cases Option.some.inj (hc3.symm.trans hcl)
  obtain ⟨c5, hc5, hcl5⟩ := Cond.classLink_spec hown hlink e.platform hpl
  cases Option.some.inj (hc4.symm.trans hc5)
  obtain ⟨vm', X', st⟩ := X.thenCaughtThrough q (g := F0 m pc ls rest) rfl (Steps.refl _) (by rw [hT]; exact hcell) (by rw [hv]; rfl) (by obtain ⟨k9, h9, -⟩ := Vm.findClass_spec hcl; exact ⟨k9, h9⟩) pre x suf hsplit
    (fun z hz => by
      rcases hpass z hz with h | ⟨hz0, nm, hl1, hn1⟩
      · exact Or.inl h
      · obtain ⟨c6, hc6, hcl6⟩ := Cond.classLink_spec hown hl1 e.platform hpl
        obtain ⟨a8, b8, h1, h2, h3⟩ := hn1
        cases Option.some.inj (h1.symm.trans hcl)
        cases Option.some.inj (h2.symm.trans hc6)
        exact Or.inr ⟨hz0, _, hcl6, h3⟩) hx (Or.inr ⟨h0, c4, hcl5, hasg⟩)
  obtain ⟨t, a1, b1⟩ := kk (T.setVm vm') hT X'
  exact ⟨t, st.trans a1, b1⟩
end Rows
section Ends
variable {p : Program} {l : Launch} {e : Env} {R : Room} {s : State} {m : MethodId} {args : Array Value} {below : List Frame} {meth : Method} {c : Code} {H : Heap} {locs : List Loc} {cells slots : Nat} {Q : State → Prop}
variable {mc ms : Nat} {free : Addr → Prop} {A0 A1 : Nat → Prop} {H0 : Heap} {a : Array Value} {ls : Array Slot} {st0 rest : List Value}
variable {Qc : Array Value → State → Outcome → State → Prop} {XC : String → State → State → Prop}
/-- what a body that may throw owes at its end -/
def vx_MQ (below : List Frame) (Qc : Array Value → State → Outcome → State → Prop) (XC : String → State → State → Prop) (a : Array Value) (s : State) (mc ms : Nat) (free : Addr → Prop) : State → Prop := fun t =>
  ∃ o, t.status = .running ∧ Ended t below o ∧ vx_Q Qc XC mc ms free a s o t
theorem vx_ret {g : JFrame} {mc ms : Nat} (k : W p l e R s m args below meth c H locs cells slots (MQ below Qc args s mc ms free) g) : W p l e R s m args below meth c H locs cells slots (vx_MQ below Qc XC args s mc ms free) g := by
  intro T hT X
  obtain ⟨t, a1, o, b1, b2, b3, b4⟩ := k T hT X
  exact ⟨t, a1, o, b1, b2, Or.inl ⟨b3, b4⟩⟩
/-- not caught here: it goes on to the caller -/
theorem vx_widen {g : JFrame} {q : Addr} {k n : Nat} (h1 : cells ≤ k) (h2 : slots ≤ n) (kk : vx_W p l e R s m args below meth c H locs k n Q g q) : vx_W p l e R s m args below meth c H locs cells slots Q g q := fun T hT X => kk T hT (stand_widen X h1 h2)
theorem vx_out {pc : Nat} {E : String} {ce : Cell} {q : Addr} {mc ms : Nat} (hout : ∀ x ∈ c.exceptionTable.toList, covers x pc = false) (hlocks : meth.locks = false) (hcell : H[q]? = some ce) (hv : ce.vm = .none) (hcl : s.vm.findClass E = some ce.cls)
    (hx : ∀ t : State, t.heap = H → s.vm.Alike t.vm → XC E s t) (hf : ∀ z ∈ locs, free z.base) (hc : cells ≤ mc) (hs : slots ≤ ms) :
    vx_W p l e R s m args below meth c H locs cells slots (vx_MQ below Qc XC args s mc ms free) (F0 m pc ls rest) q := by
  intro T hT X
  obtain ⟨st1, hrun, hend, hW, hsm⟩ := X.leaveThrown q (g := F0 m pc ls rest) rfl rfl rfl hout hlocks
  have hcell9 : (T.setFrames (.throwing q :: below)).heap[q]? = some ce := by
    show T.heap[q]? = some ce
    rw [hT]; exact hcell
  exact ⟨_, st1, .threw q, hrun, hend, Or.inr ⟨q, rfl, E, ce, locs, hx _ hT hW.alike, hcell9, hv, hcl, hW, hsm.mono hc hs, hf⟩⟩
theorem vx_frame {U : State} {k n : Nat} (h : s.sameButNew ({ U with vm := s.vm } : State) locs k n) : s.heap.size ≤ U.heap.size ∧ ∀ q : Nat, q < s.heap.size → (∀ z ∈ locs, z.base ≠ q) → U.heap[q]? = s.heap[q]? := by
  obtain ⟨-, h2, -, -, -, h6⟩ := h
  refine ⟨h2, fun q hq hz => ?_⟩
  obtain ⟨c9, e1, e2, e3, e4⟩ := h6 q _ (Array.getElem?_eq_getElem hq)
  have hs : c9.slots = (s.heap[q]).slots := Array.ext_getElem? fun i => e4 i fun hm => hz _ hm rfl
  have h9 : c9 = s.heap[q] := by
    rw [hs] at e2
    exact e2
  have e5 : U.heap[q]? = some c9 := e1
  rw [e5, h9, Array.getElem?_eq_getElem hq]
/-- the words of a throw but the four that speak of the heap -/
def vx_no (w : Cond) : Bool := decide (w ≠ .isRef (.static Bundle.tN "UNASSIGNED_STACK" Bundle.steD)) && decide (w ≠ .isRef (.static Bundle.tN "SUPPRESSED_SENTINEL" Bundle.listD)) && decide (w ≠ .laysStatic Bundle.tN "UNASSIGNED_STACK" Bundle.steD) && decide (w ≠ .laysStatic Bundle.tN "SUPPRESSED_SENTINEL" Bundle.listD)
def vx_at0 (own : String) (ic : Nat) (X : String) (names : List String) : List Cond := (Bundle.ownAtoms0 own ic X names).filter vx_no
def vx_atS (own : String) (ic : Nat) (X : String) (names : List String) : List Cond := (Bundle.ownAtoms own ic X names).filter vx_no
/-- a word that the tables alone decide, or a good one -/
def vx_ot (w : Cond) : Bool := w.onTables || goodWord w
theorem vx_ot_at {args a' : Array Value} {s U : State} {w : Cond} (hW : s.WarmedH U.vm) (hvm : s.vm = U.vm) (hg : vx_ot w = true) (h : w.before args s = true) : w.before a' U = true := by
  simp only [vx_ot, Bool.or_eq_true] at hg
  rcases hg with hg | hg
  · exact va_tabs hg hvm h
  · exact word_at hW (good_of_word hg) h
/-- a list's words: the good ones out of the method's own list, the others by premises of their own -/
theorem vx_hat {args : Array Value} {s : State} {L B : List Cond} (h1 : ∀ w ∈ L.filter goodWord, w.before args s = true) (h2 : ∀ w ∈ L.filter (fun w => !goodWord w), w ∈ B) (h3 : ∀ w ∈ B, w.before args s = true) : ∀ w ∈ L, w.before args s = true := by
  intro w hw
  by_cases g : goodWord w = true
  · exact h1 w (List.mem_filter.mpr ⟨hw, g⟩)
  · refine h3 w (h2 w (List.mem_filter.mpr ⟨hw, ?_⟩))
    show (!goodWord w) = true
    cases hgw : goodWord w
    · rfl
    · exact absurd hgw g
theorem vx_c {args : Array Value} {s : State} {w : Cond} {B : List Cond} (h : w.before args s = true) (t : ∀ w ∈ B, w.before args s = true) : ∀ w' ∈ w :: B, w'.before args s = true := fun w' h' => (List.mem_cons.mp h').elim (fun e => by rw [e]; exact h) (t w')
theorem vx_n {args : Array Value} {s : State} : ∀ w ∈ ([] : List Cond), w.before args s = true := fun _ h => nomatch h
theorem vx_own {args : Array Value} {s : State} {L : List Cond} (h1 : ∀ w ∈ L.filter vx_no, w.before args s = true)
    (hU : (Cond.isRef (.static Bundle.tN "UNASSIGNED_STACK" Bundle.steD)).before args s = true) (hN : (Cond.isRef (.static Bundle.tN "SUPPRESSED_SENTINEL" Bundle.listD)).before args s = true)
    (lU : (Cond.laysStatic Bundle.tN "UNASSIGNED_STACK" Bundle.steD).before args s = true) (lN : (Cond.laysStatic Bundle.tN "SUPPRESSED_SENTINEL" Bundle.listD).before args s = true) : ∀ w ∈ L, w.before args s = true := by
  intro w hw
  by_cases e1 : w = .isRef (.static Bundle.tN "UNASSIGNED_STACK" Bundle.steD)
  · rw [e1]; exact hU
  · by_cases e2 : w = .isRef (.static Bundle.tN "SUPPRESSED_SENTINEL" Bundle.listD)
    · rw [e2]; exact hN
    · by_cases e3 : w = .laysStatic Bundle.tN "UNASSIGNED_STACK" Bundle.steD
      · rw [e3]; exact lU
      · by_cases e4 : w = .laysStatic Bundle.tN "SUPPRESSED_SENTINEL" Bundle.listD
        · rw [e4]; exact lN
        · exact h1 w (List.mem_filter.mpr ⟨hw, by unfold vx_no; rw [decide_eq_true e1, decide_eq_true e2, decide_eq_true e3, decide_eq_true e4]; rfl⟩)
/-- where a static field lies, its class's statics cell in H -/
def vx_L (C n d : String) (A : Nat → Prop) (U : State) (H : Heap) : Prop := ∃ (c : ClassId) (k : Class) (i : Nat) (f : Field) (a : Nat) (cell : Cell), U.vm.findClass C = some c ∧ U.fieldFound? C n d = some (c, k, i, f) ∧ f.isStatic = true ∧ k.statics = some a ∧ H[a]? = some cell ∧ cell.vm.isStatics = true ∧ cell.cls = c ∧ f.slot < cell.slots.size ∧ k.staticTypes[f.slot]? = some f.type ∧ ¬ A a
theorem vx_L.moved {C n d : String} {A : Nat → Prop} {u U : State} {H : Heap} (hvm : u.vm.Alike U.vm) (h : vx_L C n d A u H) : vx_L C n d A U H := by
  obtain ⟨c, k, i, f, a, cell, h1, h2, h3, h4, h5, h6, h7, h8, h9, h10⟩ := h
  obtain ⟨k', hi', he⟩ := State.fieldFound?_setVm hvm h2
  exact ⟨c, k', i, f, a, cell, by rw [hvm.findClass]; exact h1, hi', h3, by rw [he]; exact h4, h5, h6, h7, h8, by rw [he]; exact h9, h10⟩
theorem vx_L.kept {C n d : String} {A : Nat → Prop} {U : State} {H H1 : Heap} (h : vx_L C n d A U H) (hq : ∀ a : Nat, a < H.size → ¬ A a → H1[a]? = H[a]?) : vx_L C n d A U H1 := by
  obtain ⟨c, k, i, f, a, cell, h1, h2, h3, h4, h5, h6, h7, h8, h9, h10⟩ := h
  exact ⟨c, k, i, f, a, cell, h1, h2, h3, h4, by rw [hq a (Array.getElem?_eq_some_iff.mp h5).1 h10]; exact h5, h6, h7, h8, h9, h10⟩
theorem vx_L.narrow {C n d : String} {A B : Nat → Prop} {U : State} {H : Heap} (h : vx_L C n d A U H) (hAB : ∀ q, B q → A q) : vx_L C n d B U H := by
  obtain ⟨c, k, i, f, a, cell, h1, h2, h3, h4, h5, h6, h7, h8, h9, h10⟩ := h
  exact ⟨c, k, i, f, a, cell, h1, h2, h3, h4, h5, h6, h7, h8, h9, fun z => h10 (hAB _ z)⟩
theorem vx_L.word {C n d : String} {A : Nat → Prop} {s : State} {args : Array Value} (h : vx_L C n d A s s.heap) : (Cond.laysStatic C n d).before args s = true := by
  obtain ⟨c, k, i, f, a, cell, h1, h2, h3, h4, h5, h6, h7, h8, h9, -⟩ := h
  show (Cond.laysStatic C n d).holds args s none s [] = true
  exact Cond.laysStatic_of h1 h2 h3 h4 h5 h6 h7 h8 h9
/-- .. and what it holds: null or some reference -/
def vx_Zq (C n d : String) (A : Nat → Prop) (U : State) (H : Heap) : Prop := va_Zq C n d A U H ∧ vx_L C n d A U H
theorem vx_Zq.moved {C n d : String} {A : Nat → Prop} {u U : State} {H : Heap} (hvm : u.vm.Alike U.vm) (h : vx_Zq C n d A u H) : vx_Zq C n d A U H := ⟨va_Zq.moved hvm h.1, vx_L.moved hvm h.2⟩
theorem vx_Zq.kept {C n d : String} {A : Nat → Prop} {U : State} {H H1 : Heap} (h : vx_Zq C n d A U H) (hq : ∀ a : Nat, a < H.size → ¬ A a → H1[a]? = H[a]?) : vx_Zq C n d A U H1 := ⟨va_Zq.kept h.1 hq, vx_L.kept h.2 hq⟩
theorem vx_Zq.narrow {C n d : String} {A B : Nat → Prop} {U : State} {H : Heap} (h : vx_Zq C n d A U H) (hAB : ∀ q, B q → A q) : vx_Zq C n d B U H := ⟨va_Zq.narrow h.1 hAB, vx_L.narrow h.2 hAB⟩
theorem vx_Zqof {args : Array Value} {s : State} {C n d : String} {A : Nat → Prop} (hl : (Cond.laysStatic C n d).before args s = true) (hini : (Cond.initialized C).before args s = true) (h : (Cond.isRef (.static C n d)).before args s = true) (hA : ∀ a : Nat, a < s.heap.size → ¬ A a) : vx_Zq C n d A s s.heap := by
  refine ⟨va_Zqof hl hini h hA, ?_⟩
  obtain ⟨c, k, i, f, a, cell, h1, h2, h3, h4, h5, h6, h7, h8, h9⟩ := Cond.laysStatic_spec hl
  exact ⟨c, k, i, f, a, cell, h1, h2, h3, h4, h5, h6, h7, h8, h9, hA a (Array.getElem?_eq_some_iff.mp h5).1⟩
theorem vx_isRef {C n d : String} {v : Value} {A : Nat → Prop} {s : State} {args : Array Value} (h : va_Z C n d v A s s.heap) (hv : v.isRef = true) : (Cond.isRef (.static C n d)).before args s = true := by
  obtain ⟨cf, kf, fi, f, a, cell, h1, h2, h3, h4, h5, h6, h7, -⟩ := h
  have he : (Term.static C n d).eval args s none [] s = some v := by
    simp [Term.eval, State.fieldNamed?, h1, h2, h4, h5, h6, h7]
  simp only [Cond.before, Cond.holds, Cond.value, he]
  cases v <;> simp_all [Value.isRef]
theorem vx_isRefq {C n d : String} {A : Nat → Prop} {s : State} {args : Array Value} (h : va_Zq C n d A s s.heap) : (Cond.isRef (.static C n d)).before args s = true := by
  rcases h with h | ⟨t, h⟩
  · exact vx_isRef h rfl
  · exact vx_isRef h rfl
/-- the same frame, seen from here: as if the method were called anew in this heap -/
theorem vx_rebase {T : State} (X : Stand p l e R s m args below meth c T locs cells slots) {R' : Room} (hf : R'.frames ≤ R.frames) (hl : R'.locals ≤ R.locals) (hc : cells + R'.cells ≤ R.cells) (hs : slots + R'.slots ≤ R.slots) :
    Stand p l e R' ((T.setVm s.vm).setFrames (.invoking m args :: below)) m args below meth c T [] 0 0 := by
  have htop : (T.setVm s.vm).topJava?.isSome := X.here.top
  have hF : ((T.setVm s.vm).setFrames (.invoking m args :: below)).frames = .invoking m args :: below := State.frames_setFrames _ (State.cur_lt_of_top htop)
  obtain ⟨g₀, hg0⟩ := Option.isSome_iff_exists.mp htop
  obtain ⟨r, hr⟩ := State.topJava?_eq_some.mp hg0
  have hl9 : e.platform.stackLimits (T.setVm s.vm).me = e.platform.stackLimits s.me := X.limits
  have hb9 : (T.setVm s.vm).me.stackBytes = s.me.stackBytes := X.bytes
  refine ⟨X.admits, X.cas, X.clock, hF, ?_, X.hears, X.method, X.code, X.here, X.tail, X.warmed, ?_, ?_, ?_⟩
  · have h := X.room
    have hU : ((T.setVm s.vm).setFrames (.invoking m args :: below)).localsInUse = s.localsInUse := by
      rw [State.localsInUse_invoking hF (meth := meth) (c := c) X.method X.code, State.localsInUse_invoking X.frames X.method X.code]
    simp only [State.hasRoom, Bool.and_eq_true, decide_eq_true_eq] at h ⊢
    obtain ⟨⟨⟨⟨h1, h2, h3, h4, h5, h6⟩, h7⟩, h8⟩, h9⟩ := h
    rw [X.frames, List.length_cons] at h2 h3
    have q1 := X.heapSize
    have q2 := X.used
    simp only [hF, hU, List.length_cons, State.stackLimits_setFrames, State.stackBytes_setFrames, hl9, hb9]
    refine ⟨⟨⟨⟨by omega, by omega, by omega, by omega, by omega, h6⟩, ?_⟩, ?_⟩, X.book⟩
    · show T.heap.size + R'.cells ≤ e.platform.maxCells
      omega
    · show T.slotsUsed + R'.slots ≤ e.platform.maxSlots
      omega
  · rw [State.stackLimits_setFrames]; rfl
  · rw [State.stackBytes_setFrames]; rfl
  · refine ⟨?_, Nat.le_refl _, Nat.le_refl _, ?_, ?_, fun a c9 h9 => ⟨c9, h9, rfl, rfl, fun _ _ => rfl⟩⟩
    · obtain ⟨t, ht, -⟩ := State.frames_cons hr
      show T.setVm s.vm = { ((T.setVm s.vm).setFrames (.invoking m args :: below)).setFrames (T.setVm s.vm).frames with heap := T.heap, slotsUsed := T.slotsUsed }
      rw [State.setFrames_setFrames, State.setFrames_self ht]
      rfl
    · show T.slotsUsed = T.slotsUsed + ((T.heap.toList.drop T.heap.size).map (·.slots.size)).sum
      rw [List.drop_eq_nil_of_le (Nat.le_of_eq Array.length_toList)]
      rfl
    · show ((T.heap.toList.drop T.heap.size).map (·.slots.size)).sum ≤ 0
      rw [List.drop_eq_nil_of_le (Nat.le_of_eq Array.length_toList)]
      exact Nat.le_refl _
/-- 'throw new E()': new; dup; invokespecial; athrow -/
theorem vx_throw0 {cc : ByteArray} {pc : Nat} (hexec : p.tables.exec = Jvm.exec) (hb : c.code = cc) (hl : l.stackTraces = false) {own cls : String} {names : List String} {ik ic mc ms : Nat} {A : Nat → Prop}
    (hown : s.vm.findClass own = some m.cls) (hcls : Bundle.fit cls = true) (hnames : ∀ n ∈ names, Bundle.fit n = true)
    (hk : (Cond.classLink own ik cls).before args s = true) (hini : (Cond.initialized cls).before args s = true) (hat : ∀ w ∈ vx_at0 own ic cls names, w.before args s = true)
    (hgood : ∀ w ∈ Cond.classLink own ik cls :: Cond.initialized cls :: vx_at0 own ic cls names, vx_ot w = true)
    (hU : vx_Zq Bundle.tN "UNASSIGNED_STACK" Bundle.steD A s s.heap) (hN : vx_Zq Bundle.tN "SUPPRESSED_SENTINEL" Bundle.listD A s s.heap) (hS : va_S A s.heap H locs) (hsize : ls.size = c.maxLocals)
    (d0 : decode cc pc = .ok (.new ik, 3)) (d3 : decode cc (pc + 3) = .ok (.dup, 1)) (d4 : decode cc (pc + 4) = .ok (.invokespecial ic, 3)) (d7 : decode cc (pc + 7) = .ok (.athrow, 1))
    (hout : ∀ x ∈ c.exceptionTable.toList, covers x (pc + 7) = false)
    (hRframes : names.length + 3 < R.frames) (hRlocals : (rest.map fun v => v.category).sum + (13 * (names.length + 1) + 42) ≤ R.locals) (hRcells : cells + 1 ≤ R.cells) (hRslots : slots + 6 ≤ R.slots) (hlocks : meth.locks = false)
    (hx : ∀ t : State, s.vm.Alike t.vm → H.size ≤ t.heap.size → (∀ q : Nat, q < H.size → t.heap[q]? = H[q]?) → XC cls s t)
    (hf : ∀ z ∈ locs, free z.base) (hc : cells + 1 ≤ mc) (hs : slots + 6 ≤ ms) :
    W p l e R s m args below meth c H locs cells slots (vx_MQ below Qc XC args s mc ms free) (F0 m pc ls rest) := by
  intro T hT X
  have htr : e.platform.stackTraces = false := (show e.platform.stackTraces = l.stackTraces by rw [X.admits.platform]).trans hl
  have Y := vx_rebase X (R' := { frames := R.frames, locals := R.locals, cells := 1, slots := 6 }) (Nat.le_refl _) (Nat.le_refl _) hRcells hRslots
  obtain ⟨s', hA⟩ : ∃ z, z = (T.setVm s.vm).setFrames (.invoking m args :: below) := ⟨_, rfl⟩
  rw [← hA] at Y
  have hvm : s'.vm = s.vm := by rw [hA]; rfl
  have hhp : s'.heap = H := by rw [hA]; exact hT
  have hW0 : s.WarmedH s'.vm := by rw [hvm]; exact State.WarmedH.refl s
  have hat' : ∀ w ∈ vx_at0 own ic cls names, w.before args s' = true := fun w hw => vx_ot_at hW0 hvm.symm (hgood w (List.mem_cons_of_mem _ (List.mem_cons_of_mem _ hw))) (hat w hw)
  have hk' : (Cond.classLink own ik cls).before args s' = true := vx_ot_at hW0 hvm.symm (hgood _ List.mem_cons_self) hk
  have hini' : (Cond.initialized cls).before args s' = true := vx_ot_at hW0 hvm.symm (hgood _ (List.mem_cons_of_mem _ List.mem_cons_self)) hini
  have hU' : vx_Zq Bundle.tN "UNASSIGNED_STACK" Bundle.steD A s' s'.heap := by rw [hhp]; exact vx_Zq.moved hW0.alike (hU.kept hS.2.1)
  have hN' : vx_Zq Bundle.tN "SUPPRESSED_SENTINEL" Bundle.listD A s' s'.heap := by rw [hhp]; exact vx_Zq.moved hW0.alike (hN.kept hS.2.1)
  have h : ∀ w ∈ Bundle.ownAtoms0 own ic cls names, w.before args s' = true := vx_own hat' (vx_isRefq hU'.1) (vx_isRefq hN'.1) hU'.2.word hN'.2.word
  have hown' : s'.vm.findClass own = some m.cls := by rw [hvm]; exact hown
  have hins : (Cond.instantiable cls 6).before args s' = true := h _ (by simp [Bundle.ownAtoms0])
  obtain ⟨vm₁, cX, kX, hfX, hkX, -, -, X₁, st1⟩ := Y.newCold hexec (own := own) (C := cls) (index := ik) (n := 6) hown' hk' hins hini'
    (g := F0 m pc ls rest) rfl (by rw [hb]; exact d0) (Nat.le_refl _) (Nat.le_refl _)
  generalize hT1 : (T.setVm vm₁).pushCell { cls := cX, slots := kX.instanceTypes.map defaultValue, vm := .none } = T1 at X₁ st1
  have hcat : (Value.ref T.heap.size).category = 1 := rfl
  have hcellA : T1.heap[T.heap.size]? = some (freshCell cX kX) := by rw [← hT1]; exact State.heap_pushCell_size _ _
  have d3' : decode c.code (pc + 3) = .ok (.dup, 1) := by rw [hb]; exact d3
  obtain ⟨U, hsteps, hrun, hend, hW, hsame, ce, hce, hO⟩ := X₁.ctorThrow0 hexec htr (own := own) (cls := cls) (names := names) (ic := ic) hown' hcls hnames h (fun x hx => nomatch hx) hfX hkX hcellA (by rw [hhp, hT]; exact Nat.le_refl _)
    (g := { method := m, pc := pc + 4, locals := ls, stack := .ref T.heap.size :: .ref T.heap.size :: rest, locked := none }) rfl hsize rfl rfl (rest := rest) rfl
    (by rw [hb]; exact d4) (by rw [hb]; exact d7) hout hRframes (by simp only [List.map_cons, List.sum_cons, hcat]; omega) hlocks
  obtain ⟨f1, f2⟩ := vx_frame hsame
  rw [hhp] at f1 f2
  have hWs : s.WarmedH U.vm := State.WarmedH.trans hW0 hW
  have hcl : s.vm.findClass cls = some ce.cls := by
    have h9 := hO.cls
    rw [hvm] at h9
    exact h9
  have hall : s.sameButNew ({ U with vm := s.vm } : State) locs mc ms := by
    subst hA
    obtain ⟨e1, e2⟩ := hsame
    rw [State.setFrames_setFrames] at e1
    have h2 : (T.setVm s.vm).sameButNew ({ U with vm := s.vm } : State) [] (0 + 1) (0 + 6) := ⟨e1, e2⟩
    have h3 := X.same.trans h2
    rw [List.append_nil] at h3
    exact h3.mono hc hs
  refine ⟨U, ?_, .threw T.heap.size, hrun, hend, Or.inr ⟨T.heap.size, rfl, cls, ce, locs, hx U hWs.alike f1 (fun q hq => f2 q hq (fun z hz => nomatch hz)), hce, hO.vm, hcl, hWs, hall, hf⟩⟩
  refine st1 _ ?_
  show Steps p.tables e below (T1.setTop { method := m, pc := pc + 3, locals := ls, stack := .ref T.heap.size :: rest, locked := none }) _
  jvm_step X₁.here [X₁.here.top, hexec, d3', Value.category]
  exact hsteps
/-- 'throw new E("text")': new; dup; ldc; invokespecial; athrow -/
theorem vx_throwS {cc : ByteArray} {pc : Nat} (hexec : p.tables.exec = Jvm.exec) (hb : c.code = cc) (hl : l.stackTraces = false) {own cls text : String} {names : List String} {ik is ic mc ms sa : Nat} {A : Nat → Prop}
    (hown : s.vm.findClass own = some m.cls) (hcls : Bundle.fit cls = true) (hnames : ∀ n ∈ names, Bundle.fit n = true)
    (hk : (Cond.classLink own ik cls).before args s = true) (hini : (Cond.initialized cls).before args s = true) (hstr : vk_R own is text sa s) (hat : ∀ w ∈ vx_atS own ic cls names, w.before args s = true)
    (hgood : ∀ w ∈ Cond.classLink own ik cls :: Cond.initialized cls :: vx_atS own ic cls names, vx_ot w = true)
    (hU : vx_Zq Bundle.tN "UNASSIGNED_STACK" Bundle.steD A s s.heap) (hN : vx_Zq Bundle.tN "SUPPRESSED_SENTINEL" Bundle.listD A s s.heap) (hS : va_S A s.heap H locs) (hsize : ls.size = c.maxLocals)
    (d0 : decode cc pc = .ok (.new ik, 3)) (d3 : decode cc (pc + 3) = .ok (.dup, 1)) (d4 : decode cc (pc + 4) = .ok (.ldc is, 2)) (d6 : decode cc (pc + 6) = .ok (.invokespecial ic, 3)) (d9 : decode cc (pc + 9) = .ok (.athrow, 1))
    (hout : ∀ x ∈ c.exceptionTable.toList, covers x (pc + 9) = false)
    (hRframes : names.length + 3 < R.frames) (hRlocals : (rest.map fun v => v.category).sum + (13 * (names.length + 1) + 43) ≤ R.locals) (hRcells : cells + 1 ≤ R.cells) (hRslots : slots + 6 ≤ R.slots) (hlocks : meth.locks = false)
    (hx : ∀ t : State, s.vm.Alike t.vm → H.size ≤ t.heap.size → (∀ q : Nat, q < H.size → t.heap[q]? = H[q]?) → XC cls s t)
    (hf : ∀ z ∈ locs, free z.base) (hc : cells + 1 ≤ mc) (hs : slots + 6 ≤ ms) :
    W p l e R s m args below meth c H locs cells slots (vx_MQ below Qc XC args s mc ms free) (F0 m pc ls rest) := by
  intro T hT X
  have htr : e.platform.stackTraces = false := (show e.platform.stackTraces = l.stackTraces by rw [X.admits.platform]).trans hl
  have Y := vx_rebase X (R' := { frames := R.frames, locals := R.locals, cells := 1, slots := 6 }) (Nat.le_refl _) (Nat.le_refl _) hRcells hRslots
  obtain ⟨s', hA⟩ : ∃ z, z = (T.setVm s.vm).setFrames (.invoking m args :: below) := ⟨_, rfl⟩
  rw [← hA] at Y
  have hvm : s'.vm = s.vm := by rw [hA]; rfl
  have hhp : s'.heap = H := by rw [hA]; exact hT
  have hW0 : s.WarmedH s'.vm := by rw [hvm]; exact State.WarmedH.refl s
  have hat' : ∀ w ∈ vx_atS own ic cls names, w.before args s' = true := fun w hw => vx_ot_at hW0 hvm.symm (hgood w (List.mem_cons_of_mem _ (List.mem_cons_of_mem _ hw))) (hat w hw)
  have hk' : (Cond.classLink own ik cls).before args s' = true := vx_ot_at hW0 hvm.symm (hgood _ List.mem_cons_self) hk
  have hini' : (Cond.initialized cls).before args s' = true := vx_ot_at hW0 hvm.symm (hgood _ (List.mem_cons_of_mem _ List.mem_cons_self)) hini
  have hU' : vx_Zq Bundle.tN "UNASSIGNED_STACK" Bundle.steD A s' s'.heap := by rw [hhp]; exact vx_Zq.moved hW0.alike (hU.kept hS.2.1)
  have hN' : vx_Zq Bundle.tN "SUPPRESSED_SENTINEL" Bundle.listD A s' s'.heap := by rw [hhp]; exact vx_Zq.moved hW0.alike (hN.kept hS.2.1)
  have h : ∀ w ∈ Bundle.ownAtoms own ic cls names, w.before args s' = true := vx_own hat' (vx_isRefq hU'.1) (vx_isRefq hN'.1) hU'.2.word hN'.2.word
  have hown' : s'.vm.findClass own = some m.cls := by rw [hvm]; exact hown
  have hins : (Cond.instantiable cls 6).before args s' = true := h _ (by simp [Bundle.ownAtoms])
  obtain ⟨vm₁, cX, kX, hfX, hkX, -, -, X₁, st1⟩ := Y.newCold hexec (own := own) (C := cls) (index := ik) (n := 6) hown' hk' hins hini'
    (g := F0 m pc ls rest) rfl (by rw [hb]; exact d0) (Nat.le_refl _) (Nat.le_refl _)
  generalize hT1 : (T.setVm vm₁).pushCell { cls := cX, slots := kX.instanceTypes.map defaultValue, vm := .none } = T1 at X₁ st1
  have hcat : (Value.ref T.heap.size).category = 1 := rfl
  have hcellA : T1.heap[T.heap.size]? = some (freshCell cX kX) := by rw [← hT1]; exact State.heap_pushCell_size _ _
  have d3' : decode c.code (pc + 3) = .ok (.dup, 1) := by rw [hb]; exact d3
  have d4' : decode c.code (pc + 4) = .ok (.ldc is, 2) := by rw [hb]; exact d4
  have hstr' : vk_R own is text sa s' := vk_R.warm hW0 hstr
  obtain ⟨U, hsteps, hrun, hend, hW, hsame, ce, hce, hO⟩ := X₁.ctorThrowS hexec htr (own := own) (cls := cls) (names := names) (ic := ic) hown' hcls hnames h (fun x hx => nomatch hx) hfX hkX hcellA (by rw [hhp, hT]; exact Nat.le_refl _) (msg := .ref sa) rfl
    (g := { method := m, pc := pc + 6, locals := ls, stack := .ref sa :: .ref T.heap.size :: .ref T.heap.size :: rest, locked := none }) rfl hsize rfl rfl (rest := rest) rfl
    (by rw [hb]; exact d6) (by rw [hb]; exact d9) hout hRframes (by simp only [List.map_cons, List.sum_cons, hcat]; omega) hlocks
  obtain ⟨f1, f2⟩ := vx_frame hsame
  rw [hhp] at f1 f2
  have hWs : s.WarmedH U.vm := State.WarmedH.trans hW0 hW
  have hcl : s.vm.findClass cls = some ce.cls := by
    have h9 := hO.cls
    rw [hvm] at h9
    exact h9
  have hall : s.sameButNew ({ U with vm := s.vm } : State) locs mc ms := by
    subst hA
    obtain ⟨e1, e2⟩ := hsame
    rw [State.setFrames_setFrames] at e1
    have h2 : (T.setVm s.vm).sameButNew ({ U with vm := s.vm } : State) [] (0 + 1) (0 + 6) := ⟨e1, e2⟩
    have h3 := X.same.trans h2
    rw [List.append_nil] at h3
    exact h3.mono hc hs
  refine ⟨U, ?_, .threw T.heap.size, hrun, hend, Or.inr ⟨T.heap.size, rfl, cls, ce, locs, hx U hWs.alike f1 (fun q hq => f2 q hq (fun z hz => nomatch hz)), hce, hO.vm, hcl, hWs, hall, hf⟩⟩
  refine st1 _ ?_
  show Steps p.tables e below (T1.setTop { method := m, pc := pc + 3, locals := ls, stack := .ref T.heap.size :: rest, locked := none }) _
  jvm_step X₁.here [X₁.here.top, hexec, d3', Value.category]
  exact X₁.ldcString hexec (own := own) (text := text) (index := is) (a := sa) hown' hstr'.1 hstr'.2
    (g := { method := m, pc := pc + 4, locals := ls, stack := .ref T.heap.size :: .ref T.heap.size :: rest, locked := none }) rfl d4' _ hsteps
/-- 'throw new E("text")', the text by a wide index -/
theorem vx_throwSW {cc : ByteArray} {pc : Nat} (hexec : p.tables.exec = Jvm.exec) (hb : c.code = cc) (hl : l.stackTraces = false) {own cls text : String} {names : List String} {ik is ic mc ms sa : Nat} {A : Nat → Prop}
    (hown : s.vm.findClass own = some m.cls) (hcls : Bundle.fit cls = true) (hnames : ∀ n ∈ names, Bundle.fit n = true)
    (hk : (Cond.classLink own ik cls).before args s = true) (hini : (Cond.initialized cls).before args s = true) (hstr : vk_R own is text sa s) (hat : ∀ w ∈ vx_atS own ic cls names, w.before args s = true)
    (hgood : ∀ w ∈ Cond.classLink own ik cls :: Cond.initialized cls :: vx_atS own ic cls names, vx_ot w = true)
    (hU : vx_Zq Bundle.tN "UNASSIGNED_STACK" Bundle.steD A s s.heap) (hN : vx_Zq Bundle.tN "SUPPRESSED_SENTINEL" Bundle.listD A s s.heap) (hS : va_S A s.heap H locs) (hsize : ls.size = c.maxLocals)
    (d0 : decode cc pc = .ok (.new ik, 3)) (d3 : decode cc (pc + 3) = .ok (.dup, 1)) (d4 : decode cc (pc + 4) = .ok (.ldc_w is, 3)) (d7 : decode cc (pc + 7) = .ok (.invokespecial ic, 3)) (d10 : decode cc (pc + 10) = .ok (.athrow, 1))
    (hout : ∀ x ∈ c.exceptionTable.toList, covers x (pc + 10) = false)
    (hRframes : names.length + 3 < R.frames) (hRlocals : (rest.map fun v => v.category).sum + (13 * (names.length + 1) + 43) ≤ R.locals) (hRcells : cells + 1 ≤ R.cells) (hRslots : slots + 6 ≤ R.slots) (hlocks : meth.locks = false)
    (hx : ∀ t : State, s.vm.Alike t.vm → H.size ≤ t.heap.size → (∀ q : Nat, q < H.size → t.heap[q]? = H[q]?) → XC cls s t)
    (hf : ∀ z ∈ locs, free z.base) (hc : cells + 1 ≤ mc) (hs : slots + 6 ≤ ms) :
    W p l e R s m args below meth c H locs cells slots (vx_MQ below Qc XC args s mc ms free) (F0 m pc ls rest) := by
  intro T hT X
  have htr : e.platform.stackTraces = false := (show e.platform.stackTraces = l.stackTraces by rw [X.admits.platform]).trans hl
  have Y := vx_rebase X (R' := { frames := R.frames, locals := R.locals, cells := 1, slots := 6 }) (Nat.le_refl _) (Nat.le_refl _) hRcells hRslots
  obtain ⟨s', hA⟩ : ∃ z, z = (T.setVm s.vm).setFrames (.invoking m args :: below) := ⟨_, rfl⟩
  rw [← hA] at Y
  have hvm : s'.vm = s.vm := by rw [hA]; rfl
  have hhp : s'.heap = H := by rw [hA]; exact hT
  have hW0 : s.WarmedH s'.vm := by rw [hvm]; exact State.WarmedH.refl s
  have hat' : ∀ w ∈ vx_atS own ic cls names, w.before args s' = true := fun w hw => vx_ot_at hW0 hvm.symm (hgood w (List.mem_cons_of_mem _ (List.mem_cons_of_mem _ hw))) (hat w hw)
  have hk' : (Cond.classLink own ik cls).before args s' = true := vx_ot_at hW0 hvm.symm (hgood _ List.mem_cons_self) hk
  have hini' : (Cond.initialized cls).before args s' = true := vx_ot_at hW0 hvm.symm (hgood _ (List.mem_cons_of_mem _ List.mem_cons_self)) hini
  have hU' : vx_Zq Bundle.tN "UNASSIGNED_STACK" Bundle.steD A s' s'.heap := by rw [hhp]; exact vx_Zq.moved hW0.alike (hU.kept hS.2.1)
  have hN' : vx_Zq Bundle.tN "SUPPRESSED_SENTINEL" Bundle.listD A s' s'.heap := by rw [hhp]; exact vx_Zq.moved hW0.alike (hN.kept hS.2.1)
  have h : ∀ w ∈ Bundle.ownAtoms own ic cls names, w.before args s' = true := vx_own hat' (vx_isRefq hU'.1) (vx_isRefq hN'.1) hU'.2.word hN'.2.word
  have hown' : s'.vm.findClass own = some m.cls := by rw [hvm]; exact hown
  have hins : (Cond.instantiable cls 6).before args s' = true := h _ (by simp [Bundle.ownAtoms])
  obtain ⟨vm₁, cX, kX, hfX, hkX, -, -, X₁, st1⟩ := Y.newCold hexec (own := own) (C := cls) (index := ik) (n := 6) hown' hk' hins hini'
    (g := F0 m pc ls rest) rfl (by rw [hb]; exact d0) (Nat.le_refl _) (Nat.le_refl _)
  generalize hT1 : (T.setVm vm₁).pushCell { cls := cX, slots := kX.instanceTypes.map defaultValue, vm := .none } = T1 at X₁ st1
  have hcat : (Value.ref T.heap.size).category = 1 := rfl
  have hcellA : T1.heap[T.heap.size]? = some (freshCell cX kX) := by rw [← hT1]; exact State.heap_pushCell_size _ _
  have d3' : decode c.code (pc + 3) = .ok (.dup, 1) := by rw [hb]; exact d3
  have d4' : decode c.code (pc + 4) = .ok (.ldc_w is, 3) := by rw [hb]; exact d4
  have hstr' : vk_R own is text sa s' := vk_R.warm hW0 hstr
  obtain ⟨U, hsteps, hrun, hend, hW, hsame, ce, hce, hO⟩ := X₁.ctorThrowS hexec htr (own := own) (cls := cls) (names := names) (ic := ic) hown' hcls hnames h (fun x hx => nomatch hx) hfX hkX hcellA (by rw [hhp, hT]; exact Nat.le_refl _) (msg := .ref sa) rfl
    (g := { method := m, pc := pc + 7, locals := ls, stack := .ref sa :: .ref T.heap.size :: .ref T.heap.size :: rest, locked := none }) rfl hsize rfl rfl (rest := rest) rfl
    (by rw [hb]; exact d7) (by rw [hb]; exact d10) hout hRframes (by simp only [List.map_cons, List.sum_cons, hcat]; omega) hlocks
  obtain ⟨f1, f2⟩ := vx_frame hsame
  rw [hhp] at f1 f2
  have hWs : s.WarmedH U.vm := State.WarmedH.trans hW0 hW
  have hcl : s.vm.findClass cls = some ce.cls := by
    have h9 := hO.cls
    rw [hvm] at h9
    exact h9
  have hall : s.sameButNew ({ U with vm := s.vm } : State) locs mc ms := by
    subst hA
    obtain ⟨e1, e2⟩ := hsame
    rw [State.setFrames_setFrames] at e1
    have h2 : (T.setVm s.vm).sameButNew ({ U with vm := s.vm } : State) [] (0 + 1) (0 + 6) := ⟨e1, e2⟩
    have h3 := X.same.trans h2
    rw [List.append_nil] at h3
    exact h3.mono hc hs
  refine ⟨U, ?_, .threw T.heap.size, hrun, hend, Or.inr ⟨T.heap.size, rfl, cls, ce, locs, hx U hWs.alike f1 (fun q hq => f2 q hq (fun z hz => nomatch hz)), hce, hO.vm, hcl, hWs, hall, hf⟩⟩
  refine st1 _ ?_
  show Steps p.tables e below (T1.setTop { method := m, pc := pc + 3, locals := ls, stack := .ref T.heap.size :: rest, locked := none }) _
  jvm_step X₁.here [X₁.here.top, hexec, d3', Value.category]
  exact X₁.ldcStringW hexec (own := own) (text := text) (index := is) (a := sa) hown' hstr'.1 hstr'.2
    (g := { method := m, pc := pc + 4, locals := ls, stack := .ref T.heap.size :: .ref T.heap.size :: rest, locked := none }) rfl d4' _ hsteps
end Ends
section Bodies
variable {l : Launch}
theorem vx_ofW {y : MethodName} {ws ws' : List Cond} {rm : Room} {Pc : Array Value → State → Prop} {Qc : Array Value → State → Outcome → State → Prop} {XC : String → State → State → Prop} {mc ms : Nat} {free : Addr → Prop} {cc : ByteArray} {maxL : Nat} {ret : Option FieldType}
    (hy : plainName y.cls = true) (hw : ws = Cond.code y cc maxL ret :: ws')
    (body : ∀ p e s m args below meth c s₁, BodyLoose p l y (headSpec ws rm) cc maxL ret e s m args below meth c s₁ → c.maxLocals = maxL → (∀ x ∈ c.exceptionTable.toList, False) → Pc args s →
      W p l e (headSpec ws rm).room s m args below meth c s.heap [] 0 0 (vx_MQ below Qc XC args s mc ms free) (entryFrame m args maxL)) : vx_Met l y ws rm Pc Qc XC mc ms free := by
  refine MetFree.of_bodyS (code := cc) (maxLocals := maxL) (ret := ret) hy ?_ ?_
  · intro args s m h hn
    obtain ⟨meth, c, h1, h2, h3, h4, h5, h6, -, -⟩ := Cond.code_spec hn (atoms_spec (ws := ws) h _ (by rw [hw]; exact List.mem_cons_self))
    exact ⟨meth, c, h1, h2, h3, h4, h5, h6⟩
  · intro p e s m args below meth c s₁ B hml hP _
    have hh0 : s₁.heap = s.heap := by rw [B.state]; rfl
    have ht : ∀ x ∈ c.exceptionTable.toList, False := by
      obtain ⟨meth9, c9, h1, h2, -, -, -, -, h7, -⟩ := Cond.code_spec B.named (atoms_spec (ws := ws) B.pre _ (by rw [hw]; exact List.mem_cons_self))
      cases Option.some.inj (h1.symm.trans B.method)
      cases Option.some.inj (h2.symm.trans (Stand.of_body B).code)
      intro x hx
      rw [Array.isEmpty_iff.mp h7] at hx
      cases hx
    obtain ⟨t, a1, o, b1, b2, b3⟩ := body p e s m args below meth c s₁ B hml ht hP s₁ hh0 (Stand.of_body B)
    exact ⟨t, o, a1, b1, b2, b3⟩
/-- the table of a body with handlers -/
theorem vx_table {p : Program} {x y : MethodName} {S : Spec} {cc bytes : ByteArray} {maxL maxL' : Nat} {ret ret' : Option FieldType} {e : Env} {s s₁ : State} {m : MethodId} {args : Array Value} {below : List Frame} {meth : Method} {c : Code} {hh : List (Nat × Nat × Nat × Nat)}
    (B : BodyLoose p l y S cc maxL ret e s m args below meth c s₁) (h : (Cond.codeWith y bytes maxL' ret' hh).before args s = true) : c.exceptionTable.toList = tableOf hh := by
  obtain ⟨m9, meth9, c9, hn9, h1, h2, -, -, h6, -⟩ := Cond.codeWith_spec h
  cases Option.some.inj (hn9.symm.trans B.named)
  cases Option.some.inj (h1.symm.trans B.method)
  cases Option.some.inj (h2.symm.trans (Stand.of_body B).code)
  rw [← h6, table_eq]
end Bodies
end VXA
/-! ===== END ===== -/
/-! ===== BEGIN a static call of a method with an exception table ===== -/
section VXS
variable {p : Program} {l : Launch} {e : Env} {R : Room} {s : State} {m : MethodId} {args : Array Value} {below : List Frame} {meth : Method} {c : Code} {T : State} {H : Heap} {locs : List Loc} {cells slots : Nat}
abbrev vx_CSW (R : Room) (s : State) (args : Array Value) (own : String) (index : Nat) (y : MethodName) (bytes : ByteArray) (maxL : Nat) (ret : Option FieldType) (hh : List (Nat × Nat × Nat × Nat)) (ws : List Cond) (rm : Room) (mc ms n : Nat) : Prop :=
  (rm.cells = mc ∧ rm.slots = ms ∧ rm.frames + 1 ≤ R.frames ∧ 8 + (maxL + 11) + rm.locals ≤ R.locals ∧ (∀ w ∈ ws, ∀ (a' : Array Value) (U : State), s.WarmedH U.vm → w.before a' U = true) ∧ Cond.codeWith y bytes maxL ret hh ∈ ws) ∧
  (Cond.codeWith y bytes maxL ret hh).before args s = true ∧ (Cond.initialized y.cls).before args s = true ∧ (y.cls ≠ "java/lang/invoke/MethodHandle" ∧ y.cls ≠ "java/lang/invoke/VarHandle") ∧
  (∀ sig, parseMethodDescriptor y.desc = some sig → n = sig.parameters.length) ∧ (Cond.methodLink own index y).before args s = true ∧ (Cond.static y).before args s = true
theorem vx_cwSW {own : String} {index maxL mc ms : Nat} {y : MethodName} {bytes : ByteArray} {ret : Option FieldType} {hh : List (Nat × Nat × Nat × Nat)} {Ts ws ws' : List Cond} {rm : Room} (n : Nat) (ht : ∀ w ∈ Ts, w.before args s = true) (hT : GoodIn Ts (va_wsS own index y ws)) (hw : ws = Cond.codeWith y bytes maxL ret hh :: ws') (hrc : rm.cells = mc) (hrs : rm.slots = ms)
    (hd : y.cls ≠ "java/lang/invoke/MethodHandle" ∧ y.cls ≠ "java/lang/invoke/VarHandle" ∧ (parseMethodDescriptor y.desc).map (fun d => d.parameters.length) = some n) (hR : rm.frames + 1 ≤ R.frames ∧ 8 + (maxL + 11) + rm.locals ≤ R.locals) :
    vx_CSW R s args own index y bytes maxL ret hh ws rm mc ms n := by
  have ok : ∀ w ∈ va_wsS own index y ws, w.before args s = true := fun w h => ht w (hT w h).1
  have hG : GoodIn Ts ws := fun w h => hT w (by unfold va_wsS; exact List.mem_append_right _ h)
  have hc : Cond.codeWith y bytes maxL ret hh ∈ ws := by rw [hw]; exact List.mem_cons_self
  refine ⟨⟨hrc, hrs, hR.1, hR.2, pay_in ht hG, hc⟩, ht _ (hG _ hc).1, ok _ (by simp [va_wsS]), ⟨hd.1, hd.2.1⟩, fun sig h => ?_, ok _ (by simp [va_wsS]), ok _ (by simp [va_wsS])⟩
  have h2 := hd.2.2
  rw [h] at h2
  exact (Option.some.inj h2).symm
theorem vx_callSW (X : Stand p l e R s m args below meth c T locs cells slots) (hexec : p.tables.exec = Jvm.exec) {own : String} {index : Nat} {y : MethodName} {bytes : ByteArray} {maxL : Nat} {ret : Option FieldType} {hh : List (Nat × Nat × Nat × Nat)}
    (hown : s.vm.findClass own = some m.cls) (hlink : (Cond.methodLink own index y).before args s = true) (hstat : (Cond.static y).before args s = true) (hinit : (Cond.initialized y.cls).before args s = true)
    (hcode : (Cond.codeWith y bytes maxL ret hh).before args s = true) (hy : y.cls ≠ "java/lang/invoke/MethodHandle" ∧ y.cls ≠ "java/lang/invoke/VarHandle")
    {W9 : Nat} {Pre : Pt → Array Value → Prop} {Post : Pt → Array Value → Option Value → Pt → Prop} (hK : Back l R p e below s args y 3 W9 Pre Post)
    {g : JFrame} (hg : g.method = m) (hsize : g.locals.size = c.maxLocals) {argsL rest : List Value} (hlen : ∀ sig, parseMethodDescriptor y.desc = some sig → argsL.length = sig.parameters.length)
    (hstack : g.stack = argsL.reverse ++ rest) (hW : 2 * g.monitorRoom + (rest.map fun v => v.category).sum ≤ W9) (hdg : decode c.code g.pc = .ok (.invokestatic index, 3))
    (hpre : ∀ vm₁, s.WarmedH vm₁ → Pre ⟨T.setVm vm₁, locs, cells, slots⟩ argsL.toArray) :
    ∃ (v : Option Value) (vm₁ : Vm) (B : Pt), s.WarmedH vm₁ ∧ Stand p l e R s m args below meth c B.U B.locs B.cells B.slots ∧ Post ⟨T.setVm vm₁, locs, cells, slots⟩ argsL.toArray v B ∧
      ∀ target, Steps p.tables e below (B.U.setTop { g with pc := g.pc + 3, stack := v.toList ++ rest }) target → Steps p.tables e below (T.setTop g) target := by
  obtain ⟨mk, methM, cM, hnamed, hmethM, -, -, -, -, -, -, hsigM⟩ := Cond.codeWith_spec hcode
  have hstatic : methM.isStatic = true := Cond.static_spec hnamed hmethM hstat
  obtain ⟨kP, hkP, -⟩ := className_of_methodNamed hnamed
  have hinitP : kP.init = .initialized := Cond.initialized_spec (findClass_of_methodNamed hnamed) hkP hinit
  obtain ⟨vm₁, X₁, hstep₁⟩ := X.invokestatic hexec hown hlink hnamed hmethM hstatic hkP hinitP hy (g := g) hg (argsL := argsL) (rest := rest) (hlen _ hsigM) hstack hdg
  obtain ⟨v, B, X', hpost, hsteps⟩ := hK m meth c ⟨T.setVm vm₁, locs, cells, slots⟩ { g with stack := rest } (.invokestatic index) mk argsL.toArray X₁ hg hsize hdg hW (X₁.named hnamed) (hpre vm₁ X₁.warmed)
  exact ⟨v, vm₁, B, X₁.warmed, X', hpost, fun target h => hstep₁ _ fun acts => by rw [doInvoke_state]; exact hsteps.trans h⟩
theorem vx_runSW {y : MethodName} {bytes cc : ByteArray} {maxL nL mc ms n index : Nat} {ret : Option FieldType} {hh : List (Nat × Nat × Nat × Nat)} {ws : List Cond} {rm : Room} {Pc : Array Value → State → Prop} {Qc : Array Value → State → Outcome → State → Prop} {free : Addr → Prop} {Ts : List Cond} {own : String} {As rest : List Value} {g : JFrame}
    (S : CallFix p m c cc nL s args Ts own) (hM : Met l y ws rm Pc Qc mc ms free) (cw : vx_CSW R s args own index y bytes maxL ret hh ws rm mc ms n) (hp : PreS s H Pc As)
    (hg : g.method = m) (hn : As.length = n) (hsize : g.locals.size = nL) (hstack : g.stack = As.reverse ++ rest) (hW : 2 * g.monitorRoom + (rest.map fun v => v.category).sum ≤ 8) (hdg : decode cc g.pc = .ok (.invokestatic index, 3)) (hf : cells + mc ≤ R.cells ∧ slots + ms ≤ R.slots) :
    va_Run p l e R s m args below meth c H locs cells slots mc ms g rest (Qc As.toArray) (free) := by
  obtain ⟨⟨hrc, hrs, hfr, hlo, hws, hcw⟩, hcode, hini, hy, hlen, hl, hstt⟩ := cw
  have hK : Back l R p e below s args y 3 8 (PreOf R mc ms Pc) (PostOf Qc mc ms free) := va_backW (hh := hh) (bytes := bytes) (maxL := maxL) (ret := ret) hM hp.1 hrc hrs hfr hlo hws hcw (fun a' U hW => word_at hW (Or.inl (by first | rfl | simp [Cond.onTables, Cond.keeps, Cond.steady])) hini)
  obtain ⟨hx, hb, hml, ho, -⟩ := S
  intro T hT X
  obtain ⟨v, vm₁, ⟨U', l2, c2, s2⟩, hW₁, X', ⟨g', mk, t, L, e1, e2, hq, h1, hL, h2, h3⟩, st⟩ := vx_callSW X hx (hh := hh) (bytes := bytes) (maxL := maxL) (ret := ret) ho hl hstt hini hcode hy hK hg (hsize.trans hml.symm) (argsL := As) (rest := rest) (fun sig h => hn.trans (hlen sig h)) hstack hW (by rw [hb]; exact hdg)
    (fun vm₁ hW₁ => ⟨hf.1, hf.2, hp.2 (T.setVm vm₁) hT hW₁⟩)
  dsimp only [Pt.U, Pt.locs, Pt.cells, Pt.slots] at X' e1 e2 h1 h2 h3 st
  subst h1; subst h2; subst h3
  exact ⟨v, (T.setVm vm₁).calling g' mk As.toArray, t, U', L, hT, X', hL, e1, e2, hq, st⟩
/-- not caught here, past rows that name other classes: it goes on to the caller -/
theorem vx_outP {p : Program} {l : Launch} {e : Env} {R : Room} {s : State} {m : MethodId} {args : Array Value} {below : List Frame} {meth : Method} {c : Code} {H : Heap} {locs : List Loc} {cells slots : Nat} {free : Addr → Prop} {ls : Array Slot} {rest : List Value} {Qc : Array Value → State → Outcome → State → Prop} {XC : String → State → State → Prop}
    {pc : Nat} {own E : String} {ce : Cell} {q : Addr} {mc ms : Nat} (hown : s.vm.findClass own = some m.cls) (hlocks : meth.locks = false)
    (hpass : ∀ z ∈ c.exceptionTable.toList, covers z pc = false ∨ (z.catchType ≠ 0 ∧ ∃ nm : String, (Cond.classLink own z.catchType nm).before args s = true ∧ va_Nc E nm s)) (hcell : H[q]? = some ce) (hv : ce.vm = .none) (hcl : s.vm.findClass E = some ce.cls)
    (hx : ∀ t : State, t.heap = H → s.vm.Alike t.vm → XC E s t) (hf : ∀ z ∈ locs, free z.base) (hc : cells ≤ mc) (hs : slots ≤ ms) :
    vx_W p l e R s m args below meth c H locs cells slots (vx_MQ below Qc XC args s mc ms free) (F0 m pc ls rest) q := by
  intro T hT X
  have hpl : e.platform.magicAccessors = ({} : Platform).magicAccessors := by rw [X.admits.platform]
  obtain ⟨vm', hW', X', st⟩ := X.outThrough hlocks q (g := F0 m pc ls rest) rfl rfl rfl (cell := ce) (by rw [hT]; exact hcell) (by rw [hv]; rfl)
    (by obtain ⟨k9, h9, -⟩ := Vm.findClass_spec hcl; exact ⟨k9, h9⟩) (fun z hz => by
      rcases hpass z hz with h | ⟨hz0, nm, hl1, hn1⟩
      · exact Or.inl h
      · obtain ⟨c6, hc6, hcl6⟩ := Cond.classLink_spec hown hl1 e.platform hpl
        obtain ⟨a8, b8, h1, h2, h3⟩ := hn1
        cases Option.some.inj (h1.symm.trans hcl)
        cases Option.some.inj (h2.symm.trans hc6)
        exact Or.inr ⟨hz0, _, hcl6, h3⟩)
  obtain ⟨g₀, hfr⟩ := X'.frames_eq
  have hcell9 : ((T.setVm vm').setFrames (.throwing q :: below)).heap[q]? = some ce := by
    show T.heap[q]? = some ce
    rw [hT]; exact hcell
  have hend : Ended ((T.setVm vm').setFrames (.throwing q :: below)) below (.threw q) := State.frames_setFrames _ (State.cur_lt_of_frames hfr)
  refine ⟨(T.setVm vm').setFrames (.throwing q :: below), ?_, .threw q, X'.here.running, hend, Or.inr ⟨q, rfl, E, ce, locs, hx _ hT (X'.ends _).1.alike, hcell9, hv, hcl, (X'.ends _).1, (X'.ends _).2.mono hc hs, hf⟩⟩
  rw [X.pushThrowing_eq]
  exact st
/-- a thing of a world lies in the heap -/
theorem vx_lt {D : va_G} {cl : List vw_C} {ws : va_W} {H1 : Heap} (h : va_P D cl ws H1) {k : Nat} {q : Nat × va_E} (hk : ws[k]? = some q) : q.1 < H1.size := (h k q hk).lt
end VXS
/-! ===== END ===== -/
/-! ===== BEGIN methods with a table of their own: called by a name, returning or throwing ===== -/
section VXH
/-! vx_backW, vx_callVX, vx_callSX, vx_callVW, vx_runVW, vx_runVX, vx_runSX, vx_ofWH follow the same proofs as their sisters above (Free/Laws.lean, Shelf42/LK1.lean); vx_outP calls Shelf42/NT130.lean (outThrough). -/
section
variable {l : Launch} {R : Room} {p : Program} {e : Env} {below : List Frame} {s : State} {sargs : Array Value} {y : MethodName} {len W9 : Nat}
theorem vx_backW {ws : List Cond} {rm : Room} {Pc : Array Value → State → Prop} {Qc : Array Value → State → Outcome → State → Prop} {XC : String → State → State → Prop} {mc ms : Nat} {free : Addr → Prop} {bytes : ByteArray} {maxL : Nat} {ret : Option FieldType} {hh : List (Nat × Nat × Nat × Nat)}
    (hM : vx_Met l y ws rm Pc Qc XC mc ms free) (hblind : FrameBlind Pc) (hrc : rm.cells = mc) (hrs : rm.slots = ms)
    (hframes : rm.frames + 1 ≤ R.frames) (hlocals : W9 + (maxL + 11) + rm.locals ≤ R.locals)
    (hws : ∀ w ∈ ws, ∀ a' U, s.WarmedH U.vm → w.before a' U = true) (hcode : Cond.codeWith y bytes maxL ret hh ∈ ws) (hinit : ∀ a' U, s.WarmedH U.vm → (Cond.initialized y.cls).before a' U = true) :
    vx_Back l R p e below s sargs y len W9 (PreOf R mc ms Pc) (PostOf Qc mc ms free) (vx_Post XC mc ms free) := by
  intro m meth c A g ig mk a X hg hsize hdg hW hn hp
  have h1 : (headSpec ws rm).pre.before a A.U = true := atoms_intro fun w hw => hws w hw _ _ X.warmed
  have h2 : (Cond.codeWith y bytes maxL ret hh).before a A.U = true := hws _ hcode _ _ X.warmed
  have h3 : (Cond.initialized y.cls).before a A.U = true := hinit _ _ X.warmed
  have h4 : A.cells + (headSpec ws rm).room.cells ≤ R.cells := by rw [show (headSpec ws rm).room.cells = mc from hrc]; exact hp.1
  have h5 : A.slots + (headSpec ws rm).room.slots ≤ R.slots := by rw [show (headSpec ws rm).room.slots = ms from hrs]; exact hp.2.1
  have hPc : Pc a (A.U.calling g mk a) := hblind _ _ _ _ hp.2.2
  obtain ⟨U, Ls, c0, s0⟩ := A
  dsimp only [Pt.U, Pt.locs, Pt.cells, Pt.slots] at h1 h2 h3 h4 h5 X hn hPc ⊢
  obtain ⟨m9, methY, cY, hn9, hmY, hcY, -, hlY, -⟩ := Cond.codeWith_spec h2
  cases Option.some.inj (hn9.symm.trans hn)
  obtain ⟨kY, hkY, -⟩ := className_of_methodNamed hn
  have hinitY : kY.init = .initialized := Cond.initialized_spec (findClass_of_methodNamed hn) hkY h3
  have h : At U g.method c below := by rw [hg]; exact X.here
  have hlocals9 : W9 + (maxL + 11) + (headSpec ws rm).room.locals ≤ R.locals := hlocals
  have happ : (headSpec ws rm).appliesLoose y e.platform (U.calling g mk a) = true :=
    Spec.appliesLoose_calling (g := g) h hdg hn hkY hinitY
      (X.room_calling (g := g) (R' := (headSpec ws rm).room) hsize hmY hcY hframes (by rw [hlY]; omega) h4 h5) h1
  obtain ⟨mid, hmid⟩ := h.above
  have hfr : (U.setTop g).frames = (.java g :: mid) ++ below := by rw [State.frames_setTop' g h.top, hmid]; rfl
  obtain ⟨o, s₂, hsteps, -, hend, hq⟩ := Steps.callFree hM p X.admits X.cas X.clock (acts := []) hfr happ hPc trivial
  have hq' : vx_Q Qc XC mc ms free a (U.calling g mk a) o s₂ := hq
  rw [State.frames_setTop' g h.top] at hend
  obtain ⟨g₀, hg0⟩ := Option.isSome_iff_exists.mp h.top
  obtain ⟨r, hr⟩ := State.topJava?_eq_some.mp hg0
  have hr' : (({ U with heap := s₂.heap, slotsUsed := s₂.slotsUsed } : State).setVm s₂.vm).frames = .java g₀ :: r := hr
  rcases hq' with ⟨hqc, L, hfe, hL⟩ | ⟨q, rfl, E, ce, L, hx, hce, hcv, hcl, hW₂, hsm, hL⟩
  · obtain ⟨⟨v, rfl⟩, hW₂, e2, q2, q3, q4, q5, q6⟩ := id hfe
    have e3 : s₂ = ({ (U.calling g mk a).setFrames s₂.frames with heap := s₂.heap, slotsUsed := s₂.slotsUsed } : State).setVm s₂.vm := by
      have : s₂ = ({ s₂ with vm := (U.calling g mk a).vm } : State).setVm s₂.vm := rfl
      rw [e2] at this
      exact this
    obtain ⟨c₂, i₂, len₂, hc₂, hd₂, hf₂⟩ := hend
    have hW' : U.WarmedH s₂.vm := hW₂
    have hcc : c₂ = c := by
      have h1 : s₂.code? g.method = U.code? g.method := by
        rw [State.code?_eq, State.code?_eq, hW'.alike.method?]
      exact Option.some.inj (hc₂.symm.trans (h1.trans h.code))
    subst hcc
    have hlen : len₂ = len := by rw [hdg] at hd₂; cases hd₂; rfl
    subst hlen
    have hs₂ : s₂ = (({ U with heap := s₂.heap, slotsUsed := s₂.slotsUsed } : State).setVm s₂.vm).setTop { g with pc := g.pc + len₂, stack := v.toList ++ g.stack } := by
      refine e3.trans ?_
      rw [hf₂, State.calling_eq h.top, State.setFrames_setFrames, State.setTop_of_frames _ hr', hr]
      rfl
    have hsame : U.sameButNew ({ U with heap := s₂.heap, slotsUsed := s₂.slotsUsed } : State) L mc ms := by
      refine ⟨?_, q2, q3, q4, q5, q6⟩
      obtain ⟨t, ht, -⟩ := State.frames_cons hr
      show ({ U with heap := s₂.heap, slotsUsed := s₂.slotsUsed } : State) = { U.setFrames U.frames with heap := s₂.heap, slotsUsed := s₂.slotsUsed }
      rw [State.setFrames_self ht]
    subst hg
    refine Or.inl ⟨v, ⟨(({ U with heap := s₂.heap, slotsUsed := s₂.slotsUsed } : State).setVm s₂.vm), Ls ++ L, c0 + mc, s0 + ms⟩,
      ⟨X.admits, X.cas, X.clock, X.frames, X.room, X.hears, X.method, X.code, (X.here.setHeapUsed s₂.heap s₂.slotsUsed).setVm hW'.alike, X.tail, State.WarmedH.trans X.warmed hW', X.limits, X.bytes, X.same.trans (hsame.setVm s.vm)⟩,
      ⟨g, mk, s₂, L, rfl, rfl, hqc, rfl, hL, rfl, rfl⟩, ?_⟩
    show Steps p.tables e below _ ((({ U with heap := s₂.heap, slotsUsed := s₂.slotsUsed } : State).setVm s₂.vm).setTop { g with pc := g.pc + len₂, stack := v.toList ++ g.stack })
    rw [← hs₂]
    exact hsteps
  · obtain ⟨e2, q2, q3, q4, q5, q6⟩ := id hsm
    have e3 : s₂ = ({ (U.calling g mk a).setFrames s₂.frames with heap := s₂.heap, slotsUsed := s₂.slotsUsed } : State).setVm s₂.vm := by
      have : s₂ = ({ s₂ with vm := (U.calling g mk a).vm } : State).setVm s₂.vm := rfl
      rw [e2] at this
      exact this
    have hf₂ : s₂.frames = .throwing q :: .java g :: U.frames.tail := hend
    have hW' : U.WarmedH s₂.vm := hW₂
    have hs₂ : s₂ = ((({ U with heap := s₂.heap, slotsUsed := s₂.slotsUsed } : State).setVm s₂.vm).setTop g).pushFrame (.throwing q) := by
      refine e3.trans ?_
      rw [hf₂, State.calling_eq h.top, State.setFrames_setFrames, State.pushFrame, State.frames_setTop _ hr', State.setTop_of_frames _ hr', State.setFrames_setFrames, hr]
      rfl
    have hsame : U.sameButNew ({ U with heap := s₂.heap, slotsUsed := s₂.slotsUsed } : State) L mc ms := by
      refine ⟨?_, q2, q3, q4, q5, q6⟩
      obtain ⟨t, ht, -⟩ := State.frames_cons hr
      show ({ U with heap := s₂.heap, slotsUsed := s₂.slotsUsed } : State) = { U.setFrames U.frames with heap := s₂.heap, slotsUsed := s₂.slotsUsed }
      rw [State.setFrames_self ht]
    subst hg
    refine Or.inr ⟨q, ⟨(({ U with heap := s₂.heap, slotsUsed := s₂.slotsUsed } : State).setVm s₂.vm), Ls ++ L, c0 + mc, s0 + ms⟩,
      ⟨X.admits, X.cas, X.clock, X.frames, X.room, X.hears, X.method, X.code, (X.here.setHeapUsed s₂.heap s₂.slotsUsed).setVm hW'.alike, X.tail, State.WarmedH.trans X.warmed hW', X.limits, X.bytes, X.same.trans (hsame.setVm s.vm)⟩,
      ⟨g, mk, s₂, L, E, ce, rfl, rfl, hx, hce, hcv, hcl, rfl, hL, rfl, rfl⟩, ?_⟩
    show Steps p.tables e below _ (((({ U with heap := s₂.heap, slotsUsed := s₂.slotsUsed } : State).setVm s₂.vm).setTop g).pushFrame (.throwing q))
    rw [← hs₂]
    exact hsteps
end
variable {p : Program} {l : Launch} {e : Env} {R : Room} {s : State} {m : MethodId} {args : Array Value} {below : List Frame} {meth : Method} {c : Code} {T : State} {H : Heap} {locs : List Loc} {cells slots : Nat}
theorem vx_callVX (X : Stand p l e R s m args below meth c T locs cells slots) (hexec : p.tables.exec = Jvm.exec) {own C : String} {index : Nat} {y : MethodName} {bytes : ByteArray} {maxL : Nat} {ret : Option FieldType} {hh : List (Nat × Nat × Nat × Nat)}
    (hown : s.vm.findClass own = some m.cls) (hlink : (Cond.methodLink own index y).before args s = true) (hinst : (Cond.instanceMethod y).before args s = true) (hsel : (Cond.selects C y y).before args s = true)
    (hcode : (Cond.codeWith y bytes maxL ret hh).before args s = true) (hy : y.cls ≠ "java/lang/invoke/MethodHandle" ∧ y.cls ≠ "java/lang/invoke/VarHandle")
    {W9 : Nat} {Pre : Pt → Array Value → Prop} {Post : Pt → Array Value → Option Value → Pt → Prop} {PostX : Pt → Array Value → Addr → Pt → Prop} (hK : vx_Back l R p e below s args y 3 W9 Pre Post PostX)
    {b : Addr} {cellB : Cell} (hcell : T.heap[b]? = some cellB) (hobj : cellB.vm.isStatics = false) (hcls : s.vm.findClass C = some cellB.cls)
    {g : JFrame} (hg : g.method = m) (hsize : g.locals.size = c.maxLocals) {argsL rest : List Value} (hlen : ∀ sig, parseMethodDescriptor y.desc = some sig → argsL.length = sig.parameters.length)
    (hstack : g.stack = argsL.reverse ++ .ref b :: rest) (hW : 2 * g.monitorRoom + (rest.map fun v => v.category).sum ≤ W9) (hdg : decode c.code g.pc = .ok (.invokevirtual index, 3))
    (hpre : ∀ vm₁, s.WarmedH vm₁ → Pre ⟨T.setVm vm₁, locs, cells, slots⟩ (Value.ref b :: argsL).toArray) :
    (∃ (v : Option Value) (vm₁ : Vm) (B : Pt), s.WarmedH vm₁ ∧ Stand p l e R s m args below meth c B.U B.locs B.cells B.slots ∧ Post ⟨T.setVm vm₁, locs, cells, slots⟩ (Value.ref b :: argsL).toArray v B ∧
      ∀ target, Steps p.tables e below (B.U.setTop { g with pc := g.pc + 3, stack := v.toList ++ rest }) target → Steps p.tables e below (T.setTop g) target) ∨
    (∃ (q : Addr) (vm₁ : Vm) (B : Pt), s.WarmedH vm₁ ∧ Stand p l e R s m args below meth c B.U B.locs B.cells B.slots ∧ PostX ⟨T.setVm vm₁, locs, cells, slots⟩ (Value.ref b :: argsL).toArray q B ∧
      Steps p.tables e below (T.setTop g) ((B.U.setTop { g with stack := rest }).pushFrame (.throwing q))) := by
  obtain ⟨mk, methM, hnamed, hmethM, hstM, habM⟩ := Cond.instanceMethod_spec hinst
  obtain ⟨m8, methM', cM, hn8, hmethM', -, -, -, -, -, -, hsigM⟩ := Cond.codeWith_spec hcode
  cases Option.some.inj (hn8.symm.trans hnamed)
  cases hmethM.symm.trans hmethM'
  obtain ⟨c2, r2, m2, q1, q2, q3, q4, kP, hkP, hkPi⟩ := Cond.selects_spec hsel
  cases hcls.symm.trans q1
  cases (State.methodFound?_of_named hnamed hy).symm.trans q2
  cases hnamed.symm.trans q3
  have hselP : selectMethod e.platform s.vm cellB.cls mk = .method mk := by rw [Launch.admits_selectMethod X.admits]; exact q4
  obtain ⟨vm₁, X₁, hstep₁⟩ := X.invokevirtual hexec hown hlink hnamed hmethM hstM hkP hkPi hy (a := b) (cell := cellB) hcell
    (fun z h => by rw [h] at hobj; cases hobj) hselP hmethM habM hkP hkPi (g := g) hg (argsL := argsL) (rest := rest) (hlen _ hsigM) hstack hdg
  rcases hK m meth c ⟨T.setVm vm₁, locs, cells, slots⟩ { g with stack := rest } (.invokevirtual index) mk (Value.ref b :: argsL).toArray X₁ hg hsize hdg hW (X₁.named hnamed) (hpre vm₁ X₁.warmed) with ⟨v, B, X', hpost, hsteps⟩ | ⟨q, B, X', hpost, hsteps⟩
  · exact Or.inl ⟨v, vm₁, B, X₁.warmed, X', hpost, fun target h => hstep₁ _ fun acts => by rw [doInvoke_state]; exact hsteps.trans h⟩
  · exact Or.inr ⟨q, vm₁, B, X₁.warmed, X', hpost, hstep₁ _ fun acts => by rw [doInvoke_state]; exact hsteps⟩
theorem vx_callSX (X : Stand p l e R s m args below meth c T locs cells slots) (hexec : p.tables.exec = Jvm.exec) {own : String} {index : Nat} {y : MethodName} {bytes : ByteArray} {maxL : Nat} {ret : Option FieldType} {hh : List (Nat × Nat × Nat × Nat)}
    (hown : s.vm.findClass own = some m.cls) (hlink : (Cond.methodLink own index y).before args s = true) (hstat : (Cond.static y).before args s = true) (hinit : (Cond.initialized y.cls).before args s = true)
    (hcode : (Cond.codeWith y bytes maxL ret hh).before args s = true) (hy : y.cls ≠ "java/lang/invoke/MethodHandle" ∧ y.cls ≠ "java/lang/invoke/VarHandle")
    {W9 : Nat} {Pre : Pt → Array Value → Prop} {Post : Pt → Array Value → Option Value → Pt → Prop} {PostX : Pt → Array Value → Addr → Pt → Prop} (hK : vx_Back l R p e below s args y 3 W9 Pre Post PostX)
    {g : JFrame} (hg : g.method = m) (hsize : g.locals.size = c.maxLocals) {argsL rest : List Value} (hlen : ∀ sig, parseMethodDescriptor y.desc = some sig → argsL.length = sig.parameters.length)
    (hstack : g.stack = argsL.reverse ++ rest) (hW : 2 * g.monitorRoom + (rest.map fun v => v.category).sum ≤ W9) (hdg : decode c.code g.pc = .ok (.invokestatic index, 3))
    (hpre : ∀ vm₁, s.WarmedH vm₁ → Pre ⟨T.setVm vm₁, locs, cells, slots⟩ argsL.toArray) :
    (∃ (v : Option Value) (vm₁ : Vm) (B : Pt), s.WarmedH vm₁ ∧ Stand p l e R s m args below meth c B.U B.locs B.cells B.slots ∧ Post ⟨T.setVm vm₁, locs, cells, slots⟩ argsL.toArray v B ∧
      ∀ target, Steps p.tables e below (B.U.setTop { g with pc := g.pc + 3, stack := v.toList ++ rest }) target → Steps p.tables e below (T.setTop g) target) ∨
    (∃ (q : Addr) (vm₁ : Vm) (B : Pt), s.WarmedH vm₁ ∧ Stand p l e R s m args below meth c B.U B.locs B.cells B.slots ∧ PostX ⟨T.setVm vm₁, locs, cells, slots⟩ argsL.toArray q B ∧
      Steps p.tables e below (T.setTop g) ((B.U.setTop { g with stack := rest }).pushFrame (.throwing q))) := by
  obtain ⟨mk, methM, cM, hnamed, hmethM, -, -, -, -, -, -, hsigM⟩ := Cond.codeWith_spec hcode
  have hstatic : methM.isStatic = true := Cond.static_spec hnamed hmethM hstat
  obtain ⟨kP, hkP, -⟩ := className_of_methodNamed hnamed
  have hinitP : kP.init = .initialized := Cond.initialized_spec (findClass_of_methodNamed hnamed) hkP hinit
  obtain ⟨vm₁, X₁, hstep₁⟩ := X.invokestatic hexec hown hlink hnamed hmethM hstatic hkP hinitP hy (g := g) hg (argsL := argsL) (rest := rest) (hlen _ hsigM) hstack hdg
  rcases hK m meth c ⟨T.setVm vm₁, locs, cells, slots⟩ { g with stack := rest } (.invokestatic index) mk argsL.toArray X₁ hg hsize hdg hW (X₁.named hnamed) (hpre vm₁ X₁.warmed) with ⟨v, B, X', hpost, hsteps⟩ | ⟨q, B, X', hpost, hsteps⟩
  · exact Or.inl ⟨v, vm₁, B, X₁.warmed, X', hpost, fun target h => hstep₁ _ fun acts => by rw [doInvoke_state]; exact hsteps.trans h⟩
  · exact Or.inr ⟨q, vm₁, B, X₁.warmed, X', hpost, hstep₁ _ fun acts => by rw [doInvoke_state]; exact hsteps⟩
theorem vx_callVW (X : Stand p l e R s m args below meth c T locs cells slots) (hexec : p.tables.exec = Jvm.exec) {own C : String} {index : Nat} {y : MethodName} {bytes : ByteArray} {maxL : Nat} {ret : Option FieldType} {hh : List (Nat × Nat × Nat × Nat)}
    (hown : s.vm.findClass own = some m.cls) (hlink : (Cond.methodLink own index y).before args s = true) (hinst : (Cond.instanceMethod y).before args s = true) (hsel : (Cond.selects C y y).before args s = true)
    (hcode : (Cond.codeWith y bytes maxL ret hh).before args s = true) (hy : y.cls ≠ "java/lang/invoke/MethodHandle" ∧ y.cls ≠ "java/lang/invoke/VarHandle")
    {W9 : Nat} {Pre : Pt → Array Value → Prop} {Post : Pt → Array Value → Option Value → Pt → Prop} (hK : Back l R p e below s args y 3 W9 Pre Post)
    {b : Addr} {cellB : Cell} (hcell : T.heap[b]? = some cellB) (hobj : cellB.vm.isStatics = false) (hcls : s.vm.findClass C = some cellB.cls)
    {g : JFrame} (hg : g.method = m) (hsize : g.locals.size = c.maxLocals) {argsL rest : List Value} (hlen : ∀ sig, parseMethodDescriptor y.desc = some sig → argsL.length = sig.parameters.length)
    (hstack : g.stack = argsL.reverse ++ .ref b :: rest) (hW : 2 * g.monitorRoom + (rest.map fun v => v.category).sum ≤ W9) (hdg : decode c.code g.pc = .ok (.invokevirtual index, 3))
    (hpre : ∀ vm₁, s.WarmedH vm₁ → Pre ⟨T.setVm vm₁, locs, cells, slots⟩ (Value.ref b :: argsL).toArray) :
    ∃ (v : Option Value) (vm₁ : Vm) (B : Pt), s.WarmedH vm₁ ∧ Stand p l e R s m args below meth c B.U B.locs B.cells B.slots ∧ Post ⟨T.setVm vm₁, locs, cells, slots⟩ (Value.ref b :: argsL).toArray v B ∧
      ∀ target, Steps p.tables e below (B.U.setTop { g with pc := g.pc + 3, stack := v.toList ++ rest }) target → Steps p.tables e below (T.setTop g) target := by
  obtain ⟨mk, methM, hnamed, hmethM, hstM, habM⟩ := Cond.instanceMethod_spec hinst
  obtain ⟨m8, methM', cM, hn8, hmethM', -, -, -, -, -, -, hsigM⟩ := Cond.codeWith_spec hcode
  cases Option.some.inj (hn8.symm.trans hnamed)
  cases hmethM.symm.trans hmethM'
  obtain ⟨c2, r2, m2, q1, q2, q3, q4, kP, hkP, hkPi⟩ := Cond.selects_spec hsel
  cases hcls.symm.trans q1
  cases (State.methodFound?_of_named hnamed hy).symm.trans q2
  cases hnamed.symm.trans q3
  have hselP : selectMethod e.platform s.vm cellB.cls mk = .method mk := by rw [Launch.admits_selectMethod X.admits]; exact q4
  obtain ⟨vm₁, X₁, hstep₁⟩ := X.invokevirtual hexec hown hlink hnamed hmethM hstM hkP hkPi hy (a := b) (cell := cellB) hcell
    (fun z h => by rw [h] at hobj; cases hobj) hselP hmethM habM hkP hkPi (g := g) hg (argsL := argsL) (rest := rest) (hlen _ hsigM) hstack hdg
  obtain ⟨v, B, X', hpost, hsteps⟩ := hK m meth c ⟨T.setVm vm₁, locs, cells, slots⟩ { g with stack := rest } (.invokevirtual index) mk (Value.ref b :: argsL).toArray X₁ hg hsize hdg hW (X₁.named hnamed) (hpre vm₁ X₁.warmed)
  exact ⟨v, vm₁, B, X₁.warmed, X', hpost, fun target h => hstep₁ _ fun acts => by rw [doInvoke_state]; exact hsteps.trans h⟩
abbrev vx_CVW (R : Room) (s : State) (args : Array Value) (own C : String) (index : Nat) (y : MethodName) (bytes : ByteArray) (maxL : Nat) (ret : Option FieldType) (hh : List (Nat × Nat × Nat × Nat)) (ws : List Cond) (rm : Room) (mc ms n : Nat) : Prop :=
  (rm.cells = mc ∧ rm.slots = ms ∧ rm.frames + 1 ≤ R.frames ∧ 8 + (maxL + 11) + rm.locals ≤ R.locals ∧ (∀ w ∈ ws, ∀ (a' : Array Value) (U : State), s.WarmedH U.vm → w.before a' U = true) ∧ Cond.codeWith y bytes maxL ret hh ∈ ws) ∧
  (Cond.codeWith y bytes maxL ret hh).before args s = true ∧ (Cond.initialized y.cls).before args s = true ∧ (y.cls ≠ "java/lang/invoke/MethodHandle" ∧ y.cls ≠ "java/lang/invoke/VarHandle") ∧
  (∀ sig, parseMethodDescriptor y.desc = some sig → n = sig.parameters.length) ∧ (Cond.methodLink own index y).before args s = true ∧ (Cond.instanceMethod y).before args s = true ∧ (Cond.selects C y y).before args s = true
theorem vx_cwVW {own C : String} {index maxL mc ms : Nat} {y : MethodName} {bytes : ByteArray} {ret : Option FieldType} {hh : List (Nat × Nat × Nat × Nat)} {Ts ws ws' : List Cond} {rm : Room} (n : Nat) (ht : ∀ w ∈ Ts, w.before args s = true) (hT : GoodIn Ts (wsV own index C y ws)) (hw : ws = Cond.codeWith y bytes maxL ret hh :: ws') (hrc : rm.cells = mc) (hrs : rm.slots = ms)
    (hd : y.cls = C ∧ y.cls ≠ "java/lang/invoke/MethodHandle" ∧ y.cls ≠ "java/lang/invoke/VarHandle" ∧ (parseMethodDescriptor y.desc).map (fun d => d.parameters.length) = some n) (hR : rm.frames + 1 ≤ R.frames ∧ 8 + (maxL + 11) + rm.locals ≤ R.locals) :
    vx_CVW R s args own C index y bytes maxL ret hh ws rm mc ms n := by
  obtain ⟨hC, hd⟩ := hd
  subst hC
  have ok : ∀ w ∈ wsV own index y.cls y ws, w.before args s = true := fun w h => ht w (hT w h).1
  have hG : GoodIn Ts ws := fun w h => hT w (by unfold wsV; exact List.mem_append_right _ h)
  have hc : Cond.codeWith y bytes maxL ret hh ∈ ws := by rw [hw]; exact List.mem_cons_self
  refine ⟨⟨hrc, hrs, hR.1, hR.2, pay_in ht hG, hc⟩, ht _ (hG _ hc).1, ok _ (by simp [wsV]), ⟨hd.1, hd.2.1⟩, fun sig h => ?_, ok _ (by simp [wsV]), ok _ (by simp [wsV]), ok _ (by simp [wsV])⟩
  have h2 := hd.2.2
  rw [h] at h2
  exact (Option.some.inj h2).symm
theorem vx_runVW {y : MethodName} {bytes cc : ByteArray} {maxL nL mc ms n index : Nat} {ret : Option FieldType} {hh : List (Nat × Nat × Nat × Nat)} {ws : List Cond} {rm : Room} {Pc : Array Value → State → Prop} {Qc : Array Value → State → Outcome → State → Prop} {free : Addr → Prop} {Ts : List Cond} {own C : String} {b : Addr} {As rest : List Value} {g : JFrame}
    (S : CallFix p m c cc nL s args Ts own) (hM : Met l y ws rm Pc Qc mc ms free) (cw : vx_CVW R s args own C index y bytes maxL ret hh ws rm mc ms n) (hp : PreV s H C b Pc As)
    (hg : g.method = m) (hn : As.length = n) (hsize : g.locals.size = nL) (hstack : g.stack = As.reverse ++ .ref b :: rest) (hW : 2 * g.monitorRoom + (rest.map fun v => v.category).sum ≤ 8) (hdg : decode cc g.pc = .ok (.invokevirtual index, 3)) (hf : cells + mc ≤ R.cells ∧ slots + ms ≤ R.slots) :
    va_Run p l e R s m args below meth c H locs cells slots mc ms g rest (Qc (Value.ref b :: As).toArray) free := by
  obtain ⟨⟨hrc, hrs, hfr, hlo, hws, hcw⟩, hcode, hini, hy, hlen, hl, hin, hse⟩ := cw
  have hK : Back l R p e below s args y 3 8 (PreOf R mc ms Pc) (PostOf Qc mc ms free) := va_backW (hh := hh) (bytes := bytes) (maxL := maxL) (ret := ret) hM hp.1 hrc hrs hfr hlo hws hcw (fun a' U hW => word_at hW (Or.inl (by first | rfl | simp [Cond.onTables, Cond.keeps, Cond.steady])) hini)
  obtain ⟨hx, hb, hml, ho, -⟩ := S
  obtain ⟨-, ⟨cellB, hcB, hoB, hclB⟩, hPc⟩ := hp
  intro T hT X
  obtain ⟨v, vm₁, ⟨U', l2, c2, s2⟩, hW₁, X', ⟨g', mk, t, L, e1, e2, hq, h1, hL, h2, h3⟩, st⟩ := vx_callVW X hx (C := C) (hh := hh) (bytes := bytes) (maxL := maxL) (ret := ret) ho hl hin hse hcode hy hK (by rw [hT]; exact hcB) hoB hclB hg (hsize.trans hml.symm) (argsL := As) (rest := rest) (fun sig h => hn.trans (hlen sig h)) hstack hW (by rw [hb]; exact hdg)
    (fun vm₁ hW₁ => ⟨hf.1, hf.2, hPc (T.setVm vm₁) hT hW₁⟩)
  dsimp only [Pt.U, Pt.locs, Pt.cells, Pt.slots] at X' e1 e2 h1 h2 h3 st
  subst h1; subst h2; subst h3
  exact ⟨v, (T.setVm vm₁).calling g' mk (Value.ref b :: As).toArray, t, U', L, hT, X', hL, e1, e2, hq, st⟩
section
variable {y : MethodName} {bytes cc : ByteArray} {maxL nL mc ms n index : Nat} {ret : Option FieldType} {ws : List Cond} {rm : Room} {Pc : Array Value → State → Prop} {Qc : Array Value → State → Outcome → State → Prop} {XC : String → State → State → Prop} {free : Addr → Prop} {Ts : List Cond} {own C : String} {b : Addr} {As rest : List Value} {g : JFrame}
theorem vx_runVX {hh : List (Nat × Nat × Nat × Nat)} (S : CallFix p m c cc nL s args Ts own) (hM : vx_Met l y ws rm Pc Qc XC mc ms free) (cw : vx_CVW R s args own C index y bytes maxL ret hh ws rm mc ms n) (hp : PreV s H C b Pc As)
    (hg : g.method = m) (hn : As.length = n) (hsize : g.locals.size = nL) (hstack : g.stack = As.reverse ++ .ref b :: rest) (hW : 2 * g.monitorRoom + (rest.map fun v => v.category).sum ≤ 8) (hdg : decode cc g.pc = .ok (.invokevirtual index, 3)) (hf : cells + mc ≤ R.cells ∧ slots + ms ≤ R.slots) :
    vx_Run p l e R s m args below meth c H locs cells slots mc ms g rest (Qc (Value.ref b :: As).toArray) XC free := by
  obtain ⟨⟨hrc, hrs, hfr, hlo, hws, hcw⟩, hcode, hini, hy, hlen, hl, hin, hse⟩ := cw
  have hK : vx_Back l R p e below s args y 3 8 (PreOf R mc ms Pc) (PostOf Qc mc ms free) (vx_Post XC mc ms free) := vx_backW (hh := hh) (bytes := bytes) (maxL := maxL) (ret := ret) hM hp.1 hrc hrs hfr hlo hws hcw (fun a' U hW => word_at hW (Or.inl (by first | rfl | simp [Cond.onTables, Cond.keeps, Cond.steady])) hini)
  obtain ⟨hx, hb, hml, ho, -⟩ := S
  obtain ⟨-, ⟨cellB, hcB, hoB, hclB⟩, hPc⟩ := hp
  intro T hT X
  rcases vx_callVX X hx (C := C) (hh := hh) (bytes := bytes) (maxL := maxL) (ret := ret) ho hl hin hse hcode hy hK (by rw [hT]; exact hcB) hoB hclB hg (hsize.trans hml.symm) (argsL := As) (rest := rest) (fun sig h => hn.trans (hlen sig h)) hstack hW (by rw [hb]; exact hdg)
    (fun vm₁ hW₁ => ⟨hf.1, hf.2, hPc (T.setVm vm₁) hT hW₁⟩) with ⟨v, vm₁, ⟨U', l2, c2, s2⟩, hW₁, X', ⟨g', mk, t, L, e1, e2, hq, h1, hL, h2, h3⟩, st⟩ | ⟨q, vm₁, ⟨U', l2, c2, s2⟩, hW₁, X', ⟨g', mk, t, L, E, ce, e1, e2, hq, hce, hcv, hcl, h1, hL, h2, h3⟩, st⟩
  · dsimp only [Pt.U, Pt.locs, Pt.cells, Pt.slots] at X' e1 e2 h1 h2 h3 st
    subst h1; subst h2; subst h3
    exact Or.inl ⟨v, (T.setVm vm₁).calling g' mk (Value.ref b :: As).toArray, t, U', L, hT, X', hL, e1, e2, hq, st⟩
  · dsimp only [Pt.U, Pt.locs, Pt.cells, Pt.slots] at X' e1 e2 h1 h2 h3 st hcl
    subst h1; subst h2; subst h3
    exact Or.inr ⟨q, (T.setVm vm₁).calling g' mk (Value.ref b :: As).toArray, t, U', L, E, ce, hT, X', hL, e1, e2, hq, hce, hcv, vx_cls hW₁ hcl, st⟩
theorem vx_runSX {hh : List (Nat × Nat × Nat × Nat)} (S : CallFix p m c cc nL s args Ts own) (hM : vx_Met l y ws rm Pc Qc XC mc ms free) (cw : vx_CSW R s args own index y bytes maxL ret hh ws rm mc ms n) (hp : PreS s H Pc As)
    (hg : g.method = m) (hn : As.length = n) (hsize : g.locals.size = nL) (hstack : g.stack = As.reverse ++ rest) (hW : 2 * g.monitorRoom + (rest.map fun v => v.category).sum ≤ 8) (hdg : decode cc g.pc = .ok (.invokestatic index, 3)) (hf : cells + mc ≤ R.cells ∧ slots + ms ≤ R.slots) :
    vx_Run p l e R s m args below meth c H locs cells slots mc ms g rest (Qc As.toArray) XC free := by
  obtain ⟨⟨hrc, hrs, hfr, hlo, hws, hcw⟩, hcode, hini, hy, hlen, hl, hstt⟩ := cw
  have hK : vx_Back l R p e below s args y 3 8 (PreOf R mc ms Pc) (PostOf Qc mc ms free) (vx_Post XC mc ms free) := vx_backW (hh := hh) (bytes := bytes) (maxL := maxL) (ret := ret) hM hp.1 hrc hrs hfr hlo hws hcw (fun a' U hW => word_at hW (Or.inl (by first | rfl | simp [Cond.onTables, Cond.keeps, Cond.steady])) hini)
  obtain ⟨hx, hb, hml, ho, -⟩ := S
  intro T hT X
  rcases vx_callSX X hx (hh := hh) (bytes := bytes) (maxL := maxL) (ret := ret) ho hl hstt hini hcode hy hK hg (hsize.trans hml.symm) (argsL := As) (rest := rest) (fun sig h => hn.trans (hlen sig h)) hstack hW (by rw [hb]; exact hdg)
    (fun vm₁ hW₁ => ⟨hf.1, hf.2, hp.2 (T.setVm vm₁) hT hW₁⟩) with ⟨v, vm₁, ⟨U', l2, c2, s2⟩, hW₁, X', ⟨g', mk, t, L, e1, e2, hq, h1, hL, h2, h3⟩, st⟩ | ⟨q, vm₁, ⟨U', l2, c2, s2⟩, hW₁, X', ⟨g', mk, t, L, E, ce, e1, e2, hq, hce, hcv, hcl, h1, hL, h2, h3⟩, st⟩
  · dsimp only [Pt.U, Pt.locs, Pt.cells, Pt.slots] at X' e1 e2 h1 h2 h3 st
    subst h1; subst h2; subst h3
    exact Or.inl ⟨v, (T.setVm vm₁).calling g' mk As.toArray, t, U', L, hT, X', hL, e1, e2, hq, st⟩
  · dsimp only [Pt.U, Pt.locs, Pt.cells, Pt.slots] at X' e1 e2 h1 h2 h3 st hcl
    subst h1; subst h2; subst h3
    exact Or.inr ⟨q, (T.setVm vm₁).calling g' mk As.toArray, t, U', L, E, ce, hT, X', hL, e1, e2, hq, hce, hcv, vx_cls hW₁ hcl, st⟩
end
end VXH
theorem vx_ofWH {l : Launch} {y : MethodName} {ws ws' : List Cond} {rm : Room} {Pc : Array Value → State → Prop} {Qc : Array Value → State → Outcome → State → Prop} {XC : String → State → State → Prop} {mc ms : Nat} {free : Addr → Prop} {cc : ByteArray} {maxL : Nat} {ret : Option FieldType} {hh : List (Nat × Nat × Nat × Nat)}
    (hy : plainName y.cls = true) (hw : ws = Cond.codeWith y cc maxL ret hh :: ws')
    (body : ∀ p e s m args below meth c s₁, BodyLoose p l y (headSpec ws rm) cc maxL ret e s m args below meth c s₁ → c.maxLocals = maxL → Pc args s →
      W p l e (headSpec ws rm).room s m args below meth c s.heap [] 0 0 (vx_MQ below Qc XC args s mc ms free) (entryFrame m args maxL)) : vx_Met l y ws rm Pc Qc XC mc ms free := by
  refine MetFree.of_bodyS (code := cc) (maxLocals := maxL) (ret := ret) hy ?_ ?_
  · intro args s m h hn
    obtain ⟨m9, meth, c, hn9, h1, h2, h3, h4, -, h5, h6, -⟩ := Cond.codeWith_spec (atoms_spec (ws := ws) h _ (by rw [hw]; exact List.mem_cons_self))
    cases hn.symm.trans hn9
    exact ⟨meth, c, h1, h2, h3, h4, h5, h6⟩
  · intro p e s m args below meth c s₁ B hml hP _
    have hh0 : s₁.heap = s.heap := by rw [B.state]; rfl
    obtain ⟨t, a1, o, b1, b2, b3⟩ := body p e s m args below meth c s₁ B hml hP s₁ hh0 (Stand.of_body B)
    exact ⟨t, o, a1, b1, b2, b3⟩
/-! ===== END ===== -/

/-! ===== BEGIN printed: names, fields, word lists, decode rows ===== -/
def RX0 : String := "GroupTables$Group"
def TX0 : u_T := fun k => match k with
  | 0 => ("GroupTables$Group", "scored", "[[I", true)
  | 1 => ("GroupTables$Group", "taken", "[I", true)
  | 2 => ("GroupTables$Group", "cards", "[I", true)
  | 3 => ("GroupTables$Group", "lots", "[I", true)
  | 4 => ("GroupTables$Group", "firstTeam", "I", false)
  | _ => ("GroupTables$Group", "teamsHere", "I", false)
def tyX0 : Nat → FieldType := fun k => match k with
  | 0 => .array (.array .int)
  | 1 => .array .int
  | 2 => .array .int
  | 3 => .array .int
  | 4 => .int
  | _ => .int
abbrev wsX00 : List Cond := u_ws RX0 TX0 6
theorem nmX0 : ∀ a, a < 6 → ∀ b, b < 6 → a ≠ b → (TX0 a).2.1 ≠ (TX0 b).2.1 := by decide +kernel
theorem tyX0_ok : ∀ k, k < 6 → parseFieldDescriptor (TX0 k).2.2.1 = some (tyX0 k) := by decide +kernel
abbrev cX0_init : ByteArray := prog_2_method_1_code
def yX0_init : MethodName := ⟨RX0, "<init>", "()V"⟩
abbrev cX0_open : ByteArray := prog_2_method_2_code
def yX0_open : MethodName := ⟨RX0, "open", "(II)V"⟩
abbrev cX0_size : ByteArray := prog_2_method_3_code
def yX0_size : MethodName := ⟨RX0, "size", "()I"⟩
abbrev cX0_hasTeam : ByteArray := prog_2_method_4_code
def yX0_hasTeam : MethodName := ⟨RX0, "hasTeam", "(I)Z"⟩
abbrev cX0_seatOf : ByteArray := prog_2_method_5_code
def yX0_seatOf : MethodName := ⟨RX0, "seatOf", "(I)I"⟩
abbrev cX0_teamOn : ByteArray := prog_2_method_6_code
def yX0_teamOn : MethodName := ⟨RX0, "teamOn", "(I)I"⟩
abbrev cX0_everyone : ByteArray := prog_2_method_7_code
def yX0_everyone : MethodName := ⟨RX0, "everyone", "()I"⟩
abbrev cX0_tell : ByteArray := prog_2_method_8_code
def yX0_tell : MethodName := ⟨RX0, "tell", "(IIII)V"⟩
abbrev cX0_untell : ByteArray := prog_2_method_9_code
def yX0_untell : MethodName := ⟨RX0, "untell", "(II)V"⟩
abbrev cX0_hasResult : ByteArray := prog_2_method_10_code
def yX0_hasResult : MethodName := ⟨RX0, "hasResult", "(II)Z"⟩
abbrev cX0_putTaken : ByteArray := prog_2_method_11_code
def yX0_putTaken : MethodName := ⟨RX0, "putTaken", "(II)I"⟩
abbrev cX0_putCards : ByteArray := prog_2_method_12_code
def yX0_putCards : MethodName := ⟨RX0, "putCards", "(II)I"⟩
abbrev cX0_putLot : ByteArray := prog_2_method_13_code
def yX0_putLot : MethodName := ⟨RX0, "putLot", "(II)I"⟩
abbrev cX0_playedBy : ByteArray := prog_2_method_14_code
def yX0_playedBy : MethodName := ⟨RX0, "playedBy", "(I)I"⟩
abbrev cX0_left : ByteArray := prog_2_method_15_code
def yX0_left : MethodName := ⟨RX0, "left", "()I"⟩
abbrev cX0_pointsOf : ByteArray := prog_2_method_16_code
def yX0_pointsOf : MethodName := ⟨RX0, "pointsOf", "(I)I"⟩
abbrev cX0_takenFrom : ByteArray := prog_2_method_17_code
def yX0_takenFrom : MethodName := ⟨RX0, "takenFrom", "(I)I"⟩
abbrev cX0_pointsFrom : ByteArray := prog_2_method_18_code
def yX0_pointsFrom : MethodName := ⟨RX0, "pointsFrom", "(II)I"⟩
abbrev cX0_differenceFrom : ByteArray := prog_2_method_19_code
def yX0_differenceFrom : MethodName := ⟨RX0, "differenceFrom", "(II)I"⟩
abbrev cX0_goalsFrom : ByteArray := prog_2_method_20_code
def yX0_goalsFrom : MethodName := ⟨RX0, "goalsFrom", "(II)I"⟩
abbrev cX0_cardMark : ByteArray := prog_2_method_21_code
def yX0_cardMark : MethodName := ⟨RX0, "cardMark", "(I)I"⟩
abbrev cX0_lotMark : ByteArray := prog_2_method_22_code
def yX0_lotMark : MethodName := ⟨RX0, "lotMark", "(I)I"⟩
abbrev cX0_counts : ByteArray := prog_2_method_23_code
def yX0_counts : MethodName := ⟨RX0, "counts", "(III)Z"⟩
abbrev cX0_pointsFor : ByteArray := prog_2_method_24_code
def yX0_pointsFor : MethodName := ⟨RX0, "pointsFor", "(II)I"⟩
def RX1 : String := "GroupTables$LeftMatches"
def TX1 : u_T := fun k => match k with
  | 0 => ("GroupTables$LeftMatches", "lowerSeats", "[I", true)
  | _ => ("GroupTables$LeftMatches", "upperSeats", "[I", true)
def tyX1 : Nat → FieldType := fun k => match k with
  | 0 => .array .int
  | _ => .array .int
abbrev wsX10 : List Cond := u_ws RX1 TX1 2
theorem nmX1 : ∀ a, a < 2 → ∀ b, b < 2 → a ≠ b → (TX1 a).2.1 ≠ (TX1 b).2.1 := by decide +kernel
theorem tyX1_ok : ∀ k, k < 2 → parseFieldDescriptor (TX1 k).2.2.1 = some (tyX1 k) := by decide +kernel
abbrev cX1_init : ByteArray := prog_3_method_1_code
def yX1_init : MethodName := ⟨RX1, "<init>", "()V"⟩
abbrev cX1_list : ByteArray := prog_3_method_2_code
def yX1_list : MethodName := ⟨RX1, "list", "(LGroupTables$Group;)I"⟩
abbrev cX1_listOwnLast : ByteArray := prog_3_method_3_code
def yX1_listOwnLast : MethodName := ⟨RX1, "listOwnLast", "(LGroupTables$Group;I)I"⟩
abbrev cX1_add : ByteArray := prog_3_method_4_code
def yX1_add : MethodName := ⟨RX1, "add", "(LGroupTables$Group;IZI)I"⟩
abbrev cX1_lowerOf : ByteArray := prog_3_method_5_code
def yX1_lowerOf : MethodName := ⟨RX1, "lowerOf", "(I)I"⟩
abbrev cX1_upperOf : ByteArray := prog_3_method_6_code
def yX1_upperOf : MethodName := ⟨RX1, "upperOf", "(I)I"⟩
def RX2 : String := "GroupTables$Marks"
def TX2 : u_T := fun k => match k with
  | _ => ("GroupTables$Marks", "rows", "[[I", true)
def tyX2 : Nat → FieldType := fun k => match k with
  | _ => .array (.array .int)
abbrev wsX20 : List Cond := u_ws RX2 TX2 1
theorem nmX2 : ∀ a, a < 1 → ∀ b, b < 1 → a ≠ b → (TX2 a).2.1 ≠ (TX2 b).2.1 := by decide +kernel
theorem tyX2_ok : ∀ k, k < 1 → parseFieldDescriptor (TX2 k).2.2.1 = some (tyX2 k) := by decide +kernel
abbrev cX2_init : ByteArray := prog_4_method_1_code
def yX2_init : MethodName := ⟨RX2, "<init>", "(II)V"⟩
abbrev cX2_put : ByteArray := prog_4_method_2_code
def yX2_put : MethodName := ⟨RX2, "put", "(III)V"⟩
abbrev cX2_at : ByteArray := prog_4_method_3_code
def yX2_at : MethodName := ⟨RX2, "at", "(II)I"⟩
abbrev cX2_firstApart : ByteArray := prog_4_method_4_code
def yX2_firstApart : MethodName := ⟨RX2, "firstApart", "(III)I"⟩
abbrev cX2_isBetter : ByteArray := prog_4_method_5_code
def yX2_isBetter : MethodName := ⟨RX2, "isBetter", "(III)Z"⟩
def RX3 : String := "GroupTables$Outlook"
def TX3 : u_T := fun k => match k with
  | 0 => ("GroupTables$Outlook", "matches", "LGroupTables$LeftMatches;", true)
  | 1 => ("GroupTables$Outlook", "gained", "[I", true)
  | 2 => ("GroupTables$Outlook", "toPlay", "[I", true)
  | 3 => ("GroupTables$Outlook", "size", "I", false)
  | 4 => ("GroupTables$Outlook", "watched", "I", false)
  | 5 => ("GroupTables$Outlook", "places", "I", false)
  | _ => ("GroupTables$Outlook", "margin", "I", false)
def tyX3 : Nat → FieldType := fun k => match k with
  | 0 => .object "GroupTables$LeftMatches"
  | 1 => .array .int
  | 2 => .array .int
  | 3 => .int
  | 4 => .int
  | 5 => .int
  | _ => .int
abbrev wsX30 : List Cond := u_ws RX3 TX3 7
theorem nmX3 : ∀ a, a < 7 → ∀ b, b < 7 → a ≠ b → (TX3 a).2.1 ≠ (TX3 b).2.1 := by decide +kernel
theorem tyX3_ok : ∀ k, k < 7 → parseFieldDescriptor (TX3 k).2.2.1 = some (tyX3 k) := by decide +kernel
abbrev cX3_init : ByteArray := prog_5_method_1_code
def yX3_init : MethodName := ⟨RX3, "<init>", "()V"⟩
abbrev cX3_countPassed : ByteArray := prog_5_method_2_code
def yX3_countPassed : MethodName := ⟨RX3, "countPassed", "(LGroupTables$Group;III)I"⟩
abbrev cX3_firstPassed : ByteArray := prog_5_method_3_code
def yX3_firstPassed : MethodName := ⟨RX3, "firstPassed", "(LGroupTables$Group;III)I"⟩
abbrev cX3_open : ByteArray := prog_5_method_4_code
def yX3_open : MethodName := ⟨RX3, "open", "(LGroupTables$Group;III)V"⟩
abbrev cX3_waysPassed : ByteArray := prog_5_method_5_code
def yX3_waysPassed : MethodName := ⟨RX3, "waysPassed", "(I)I"⟩
abbrev cX3_lowestPassed : ByteArray := prog_5_method_6_code
def yX3_lowestPassed : MethodName := ⟨RX3, "lowestPassed", "(I)I"⟩
abbrev cX3_play : ByteArray := prog_5_method_7_code
def yX3_play : MethodName := ⟨RX3, "play", "(II)V"⟩
abbrev cX3_takeBack : ByteArray := prog_5_method_8_code
def yX3_takeBack : MethodName := ⟨RX3, "takeBack", "(II)V"⟩
abbrev cX3_isPassedAnyhow : ByteArray := prog_5_method_9_code
def yX3_isPassedAnyhow : MethodName := ⟨RX3, "isPassedAnyhow", "()Z"⟩
abbrev cX3_canBePassed : ByteArray := prog_5_method_10_code
def yX3_canBePassed : MethodName := ⟨RX3, "canBePassed", "()Z"⟩
def RX4 : String := "GroupTables$Scores"
def TX4 : u_T := fun k => match k with
  | _ => ("GroupTables$Scores", "matches", "LGroupTables$LeftMatches;", true)
def tyX4 : Nat → FieldType := fun k => match k with
  | _ => .object "GroupTables$LeftMatches"
abbrev wsX40 : List Cond := u_ws RX4 TX4 1
theorem nmX4 : ∀ a, a < 1 → ∀ b, b < 1 → a ≠ b → (TX4 a).2.1 ≠ (TX4 b).2.1 := by decide +kernel
theorem tyX4_ok : ∀ k, k < 1 → parseFieldDescriptor (TX4 k).2.2.1 = some (tyX4 k) := by decide +kernel
abbrev cX4_init : ByteArray := prog_6_method_1_code
def yX4_init : MethodName := ⟨RX4, "<init>", "()V"⟩
abbrev cX4_through : ByteArray := prog_6_method_2_code
def yX4_through : MethodName := ⟨RX4, "through", "(LGroupTables$Group;IILGroupTables$Table;)I"⟩
abbrev cX4_countFrom : ByteArray := prog_6_method_3_code
def yX4_countFrom : MethodName := ⟨RX4, "countFrom", "(LGroupTables$Group;IILGroupTables$Table;I)I"⟩
def RX5 : String := "GroupTables$Table"
def TX5 : u_T := fun k => match k with
  | 0 => ("GroupTables$Table", "marks", "LGroupTables$Marks;", true)
  | 1 => ("GroupTables$Table", "order", "[I", true)
  | _ => ("GroupTables$Table", "rules", "[[I", true)
def tyX5 : Nat → FieldType := fun k => match k with
  | 0 => .object "GroupTables$Marks"
  | 1 => .array .int
  | _ => .array (.array .int)
abbrev wsX50 : List Cond := u_ws RX5 TX5 3
theorem nmX5 : ∀ a, a < 3 → ∀ b, b < 3 → a ≠ b → (TX5 a).2.1 ≠ (TX5 b).2.1 := by decide +kernel
theorem tyX5_ok : ∀ k, k < 3 → parseFieldDescriptor (TX5 k).2.2.1 = some (tyX5 k) := by decide +kernel
abbrev cX5_init : ByteArray := prog_7_method_1_code
def yX5_init : MethodName := ⟨RX5, "<init>", "()V"⟩
abbrev cX5_draw : ByteArray := prog_7_method_2_code
def yX5_draw : MethodName := ⟨RX5, "draw", "(LGroupTables$Group;)V"⟩
abbrev cX5_seatAt : ByteArray := prog_7_method_3_code
def yX5_seatAt : MethodName := ⟨RX5, "seatAt", "(I)I"⟩
abbrev cX5_placeOf : ByteArray := prog_7_method_4_code
def yX5_placeOf : MethodName := ⟨RX5, "placeOf", "(I)I"⟩
abbrev cX5_ruleBetween : ByteArray := prog_7_method_5_code
def yX5_ruleBetween : MethodName := ⟨RX5, "ruleBetween", "(II)I"⟩
abbrev cX5_setOf : ByteArray := prog_7_method_6_code
def yX5_setOf : MethodName := ⟨RX5, "setOf", "(II)I"⟩
abbrev cX5_settle : ByteArray := prog_7_method_7_code
def yX5_settle : MethodName := ⟨RX5, "settle", "(LGroupTables$Group;III)V"⟩
abbrev cX5_markTied : ByteArray := prog_7_method_8_code
def yX5_markTied : MethodName := ⟨RX5, "markTied", "(LGroupTables$Group;II)V"⟩
abbrev cX5_markAll : ByteArray := prog_7_method_9_code
def yX5_markAll : MethodName := ⟨RX5, "markAll", "(LGroupTables$Group;II)V"⟩
abbrev cX5_arrange : ByteArray := prog_7_method_10_code
def yX5_arrange : MethodName := ⟨RX5, "arrange", "(IIII)V"⟩
abbrev cX5_noteRule : ByteArray := prog_7_method_11_code
def yX5_noteRule : MethodName := ⟨RX5, "noteRule", "(IIII)V"⟩
abbrev cX5_alikeEnd : ByteArray := prog_7_method_12_code
def yX5_alikeEnd : MethodName := ⟨RX5, "alikeEnd", "(IIII)Z"⟩
def RX6 : String := "GroupTables$Thirds"
def TX6 : u_T := fun k => match k with
  | _ => ("GroupTables$Thirds", "marks", "LGroupTables$Marks;", true)
def tyX6 : Nat → FieldType := fun k => match k with
  | _ => .object "GroupTables$Marks"
abbrev wsX60 : List Cond := u_ws RX6 TX6 1
theorem nmX6 : ∀ a, a < 1 → ∀ b, b < 1 → a ≠ b → (TX6 a).2.1 ≠ (TX6 b).2.1 := by decide +kernel
theorem tyX6_ok : ∀ k, k < 1 → parseFieldDescriptor (TX6 k).2.2.1 = some (tyX6 k) := by decide +kernel
abbrev cX6_init : ByteArray := prog_8_method_1_code
def yX6_init : MethodName := ⟨RX6, "<init>", "()V"⟩
abbrev cX6_measure : ByteArray := prog_8_method_2_code
def yX6_measure : MethodName := ⟨RX6, "measure", "([LGroupTables$Group;ILGroupTables$Table;)V"⟩
abbrev cX6_pointsOfThird : ByteArray := prog_8_method_3_code
def yX6_pointsOfThird : MethodName := ⟨RX6, "pointsOfThird", "(I)I"⟩
abbrev cX6_betterThan : ByteArray := prog_8_method_4_code
def yX6_betterThan : MethodName := ⟨RX6, "betterThan", "(II)I"⟩
abbrev cX6_smallestSize : ByteArray := prog_8_method_5_code
def yX6_smallestSize : MethodName := ⟨RX6, "smallestSize", "([LGroupTables$Group;I)I"⟩
def RX7 : String := "GroupTables"
def TX7 : u_T := fun k => match k with
  | 0 => ("GroupTables", "groupRow", "[LGroupTables$Group;", true)
  | 1 => ("GroupTables", "table", "LGroupTables$Table;", true)
  | 2 => ("GroupTables", "bestThirds", "LGroupTables$Thirds;", true)
  | 3 => ("GroupTables", "outlook", "LGroupTables$Outlook;", true)
  | 4 => ("GroupTables", "scores", "LGroupTables$Scores;", true)
  | 5 => ("GroupTables", "groupCount", "I", false)
  | 6 => ("GroupTables", "teamCount", "I", false)
  | 7 => ("GroupTables", "leadingPlaces", "I", false)
  | _ => ("GroupTables", "leadingThirds", "I", false)
def tyX7 : Nat → FieldType := fun k => match k with
  | 0 => .array (.object "GroupTables$Group")
  | 1 => .object "GroupTables$Table"
  | 2 => .object "GroupTables$Thirds"
  | 3 => .object "GroupTables$Outlook"
  | 4 => .object "GroupTables$Scores"
  | 5 => .int
  | 6 => .int
  | 7 => .int
  | _ => .int
abbrev wsX70 : List Cond := u_ws RX7 TX7 9
theorem nmX7 : ∀ a, a < 9 → ∀ b, b < 9 → a ≠ b → (TX7 a).2.1 ≠ (TX7 b).2.1 := by decide +kernel
theorem tyX7_ok : ∀ k, k < 9 → parseFieldDescriptor (TX7 k).2.2.1 = some (tyX7 k) := by decide +kernel
abbrev cX7_init : ByteArray := prog_1_method_1_code
def yX7_init : MethodName := ⟨RX7, "<init>", "()V"⟩
abbrev cX7_addGroup : ByteArray := prog_1_method_2_code
def yX7_addGroup : MethodName := ⟨RX7, "addGroup", "(I)I"⟩
abbrev cX7_setResult : ByteArray := prog_1_method_3_code
def yX7_setResult : MethodName := ⟨RX7, "setResult", "(IIII)I"⟩
abbrev cX7_strike : ByteArray := prog_1_method_4_code
def yX7_strike : MethodName := ⟨RX7, "strike", "(II)I"⟩
abbrev cX7_takeAway : ByteArray := prog_1_method_5_code
def yX7_takeAway : MethodName := ⟨RX7, "takeAway", "(II)I"⟩
abbrev cX7_setCards : ByteArray := prog_1_method_6_code
def yX7_setCards : MethodName := ⟨RX7, "setCards", "(II)I"⟩
abbrev cX7_setLot : ByteArray := prog_1_method_7_code
def yX7_setLot : MethodName := ⟨RX7, "setLot", "(II)I"⟩
abbrev cX7_setThrough : ByteArray := prog_1_method_8_code
def yX7_setThrough : MethodName := ⟨RX7, "setThrough", "(II)V"⟩
abbrev cX7_groups : ByteArray := prog_1_method_9_code
def yX7_groups : MethodName := ⟨RX7, "groups", "()I"⟩
abbrev cX7_teams : ByteArray := prog_1_method_10_code
def yX7_teams : MethodName := ⟨RX7, "teams", "()I"⟩
abbrev cX7_groupOf : ByteArray := prog_1_method_11_code
def yX7_groupOf : MethodName := ⟨RX7, "groupOf", "(I)I"⟩
abbrev cX7_played : ByteArray := prog_1_method_12_code
def yX7_played : MethodName := ⟨RX7, "played", "(I)I"⟩
abbrev cX7_points : ByteArray := prog_1_method_13_code
def yX7_points : MethodName := ⟨RX7, "points", "(I)I"⟩
abbrev cX7_difference : ByteArray := prog_1_method_14_code
def yX7_difference : MethodName := ⟨RX7, "difference", "(I)I"⟩
abbrev cX7_goals : ByteArray := prog_1_method_15_code
def yX7_goals : MethodName := ⟨RX7, "goals", "(I)I"⟩
abbrev cX7_place : ByteArray := prog_1_method_16_code
def yX7_place : MethodName := ⟨RX7, "place", "(I)I"⟩
abbrev cX7_teamAt : ByteArray := prog_1_method_17_code
def yX7_teamAt : MethodName := ⟨RX7, "teamAt", "(II)I"⟩
abbrev cX7_rule : ByteArray := prog_1_method_18_code
def yX7_rule : MethodName := ⟨RX7, "rule", "(II)I"⟩
abbrev cX7_matchesLeft : ByteArray := prog_1_method_19_code
def yX7_matchesLeft : MethodName := ⟨RX7, "matchesLeft", "(I)I"⟩
abbrev cX7_thirdPoints : ByteArray := prog_1_method_20_code
def yX7_thirdPoints : MethodName := ⟨RX7, "thirdPoints", "(I)I"⟩
abbrev cX7_thirdRank : ByteArray := prog_1_method_21_code
def yX7_thirdRank : MethodName := ⟨RX7, "thirdRank", "(I)I"⟩
abbrev cX7_isThrough : ByteArray := prog_1_method_22_code
def yX7_isThrough : MethodName := ⟨RX7, "isThrough", "(I)Z"⟩
abbrev cX7_ways : ByteArray := prog_1_method_23_code
def yX7_ways : MethodName := ⟨RX7, "ways", "(I)I"⟩
abbrev cX7_waysSafe : ByteArray := prog_1_method_24_code
def yX7_waysSafe : MethodName := ⟨RX7, "waysSafe", "(I)I"⟩
abbrev cX7_waysLost : ByteArray := prog_1_method_25_code
def yX7_waysLost : MethodName := ⟨RX7, "waysLost", "(I)I"⟩
abbrev cX7_badWay : ByteArray := prog_1_method_26_code
def yX7_badWay : MethodName := ⟨RX7, "badWay", "(I)I"⟩
abbrev cX7_scoresThrough : ByteArray := prog_1_method_27_code
def yX7_scoresThrough : MethodName := ⟨RX7, "scoresThrough", "(I)I"⟩
abbrev cX7_needInRange : ByteArray := prog_1_method_28_code
def yX7_needInRange : MethodName := ⟨RX7, "needInRange", "(III)V"⟩
abbrev cX7_needGroup : ByteArray := prog_1_method_29_code
def yX7_needGroup : MethodName := ⟨RX7, "needGroup", "(I)V"⟩
abbrev cX7_groupNumber : ByteArray := prog_1_method_30_code
def yX7_groupNumber : MethodName := ⟨RX7, "groupNumber", "(I)I"⟩
abbrev cX7_groupWith : ByteArray := prog_1_method_31_code
def yX7_groupWith : MethodName := ⟨RX7, "groupWith", "(I)LGroupTables$Group;"⟩
abbrev cX7_groupOfPair : ByteArray := prog_1_method_32_code
def yX7_groupOfPair : MethodName := ⟨RX7, "groupOfPair", "(II)LGroupTables$Group;"⟩
def RX8 : String := "GroupTablesModel"
def TX8 : u_T := fun k => match k with
  | 0 => ("GroupTablesModel", "groups", "I", false)
  | 1 => ("GroupTablesModel", "teams", "I", false)
  | 2 => ("GroupTablesModel", "places", "I", false)
  | 3 => ("GroupTablesModel", "thirds", "I", false)
  | 4 => ("GroupTablesModel", "base", "[I", true)
  | 5 => ("GroupTablesModel", "size", "[I", true)
  | 6 => ("GroupTablesModel", "group", "[I", true)
  | 7 => ("GroupTablesModel", "away", "[I", true)
  | 8 => ("GroupTablesModel", "cards", "[I", true)
  | 9 => ("GroupTablesModel", "lot", "[I", true)
  | 10 => ("GroupTablesModel", "scored", "[I", true)
  | 11 => ("GroupTablesModel", "rank", "[I", true)
  | 12 => ("GroupTablesModel", "next", "[I", true)
  | 13 => ("GroupTablesModel", "apart", "[I", true)
  | 14 => ("GroupTablesModel", "three", "[I", true)
  | 15 => ("GroupTablesModel", "wayPoints", "[I", true)
  | _ => ("GroupTablesModel", "thrown", "I", false)
def tyX8 : Nat → FieldType := fun k => match k with
  | 0 => .int
  | 1 => .int
  | 2 => .int
  | 3 => .int
  | 4 => .array .int
  | 5 => .array .int
  | 6 => .array .int
  | 7 => .array .int
  | 8 => .array .int
  | 9 => .array .int
  | 10 => .array .int
  | 11 => .array .int
  | 12 => .array .int
  | 13 => .array .int
  | 14 => .array .int
  | 15 => .array .int
  | _ => .int
abbrev wsX80 : List Cond := u_ws RX8 TX8 17
theorem nmX8 : ∀ a, a < 17 → ∀ b, b < 17 → a ≠ b → (TX8 a).2.1 ≠ (TX8 b).2.1 := by decide +kernel
theorem tyX8_ok : ∀ k, k < 17 → parseFieldDescriptor (TX8 k).2.2.1 = some (tyX8 k) := by decide +kernel
abbrev cX8_init : ByteArray := prog_10_method_1_code
def yX8_init : MethodName := ⟨RX8, "<init>", "()V"⟩
abbrev cX8_thrown : ByteArray := prog_10_method_2_code
def yX8_thrown : MethodName := ⟨RX8, "thrown", "()I"⟩
abbrev cX8_in : ByteArray := prog_10_method_3_code
def yX8_in : MethodName := ⟨RX8, "in", "(III)Z"⟩
abbrev cX8_goes : ByteArray := prog_10_method_4_code
def yX8_goes : MethodName := ⟨RX8, "goes", "(ZZZ)Z"⟩
abbrev cX8_told : ByteArray := prog_10_method_5_code
def yX8_told : MethodName := ⟨RX8, "told", "(I)I"⟩
abbrev cX8_isTeam : ByteArray := prog_10_method_6_code
def yX8_isTeam : MethodName := ⟨RX8, "isTeam", "(I)Z"⟩
abbrev cX8_isGroup : ByteArray := prog_10_method_7_code
def yX8_isGroup : MethodName := ⟨RX8, "isGroup", "(I)Z"⟩
abbrev cX8_arePair : ByteArray := prog_10_method_8_code
def yX8_arePair : MethodName := ⟨RX8, "arePair", "(II)Z"⟩
abbrev cX8_at : ByteArray := prog_10_method_9_code
def yX8_at : MethodName := ⟨RX8, "at", "(II)I"⟩
abbrev cX8_isPlayed : ByteArray := prog_10_method_10_code
def yX8_isPlayed : MethodName := ⟨RX8, "isPlayed", "(II)Z"⟩
abbrev cX8_addGroup : ByteArray := prog_10_method_11_code
def yX8_addGroup : MethodName := ⟨RX8, "addGroup", "(I)I"⟩
abbrev cX8_left : ByteArray := prog_10_method_12_code
def yX8_left : MethodName := ⟨RX8, "left", "(I)I"⟩
abbrev cX8_lays : ByteArray := prog_10_method_13_code
def yX8_lays : MethodName := ⟨RX8, "lays", "(IIII)V"⟩
abbrev cX8_setResult : ByteArray := prog_10_method_14_code
def yX8_setResult : MethodName := ⟨RX8, "setResult", "(IIII)I"⟩
abbrev cX8_strike : ByteArray := prog_10_method_15_code
def yX8_strike : MethodName := ⟨RX8, "strike", "(II)I"⟩
abbrev cX8_takeAway : ByteArray := prog_10_method_16_code
def yX8_takeAway : MethodName := ⟨RX8, "takeAway", "(II)I"⟩
abbrev cX8_setCards : ByteArray := prog_10_method_17_code
def yX8_setCards : MethodName := ⟨RX8, "setCards", "(II)I"⟩
abbrev cX8_setLot : ByteArray := prog_10_method_18_code
def yX8_setLot : MethodName := ⟨RX8, "setLot", "(II)I"⟩
abbrev cX8_setThrough : ByteArray := prog_10_method_19_code
def yX8_setThrough : MethodName := ⟨RX8, "setThrough", "(II)V"⟩
abbrev cX8_pointsIn : ByteArray := prog_10_method_20_code
def yX8_pointsIn : MethodName := ⟨RX8, "pointsIn", "(II)I"⟩
abbrev cX8_sums : ByteArray := prog_10_method_21_code
def yX8_sums : MethodName := ⟨RX8, "sums", "(III)I"⟩
abbrev cX8_pointsOf : ByteArray := prog_10_method_22_code
def yX8_pointsOf : MethodName := ⟨RX8, "pointsOf", "(I)I"⟩
abbrev cX8_finalRule : ByteArray := prog_10_method_23_code
def yX8_finalRule : MethodName := ⟨RX8, "finalRule", "(II)I"⟩
abbrev cX8_tiedRule : ByteArray := prog_10_method_24_code
def yX8_tiedRule : MethodName := ⟨RX8, "tiedRule", "(II)I"⟩
abbrev cX8_splits : ByteArray := prog_10_method_25_code
def yX8_splits : MethodName := ⟨RX8, "splits", "(II)Z"⟩
abbrev cX8_orders : ByteArray := prog_10_method_26_code
def yX8_orders : MethodName := ⟨RX8, "orders", "(I)V"⟩
abbrev cX8_placeOf : ByteArray := prog_10_method_27_code
def yX8_placeOf : MethodName := ⟨RX8, "placeOf", "(I)I"⟩
abbrev cX8_teamOn : ByteArray := prog_10_method_28_code
def yX8_teamOn : MethodName := ⟨RX8, "teamOn", "(II)I"⟩
abbrev cX8_groups : ByteArray := prog_10_method_29_code
def yX8_groups : MethodName := ⟨RX8, "groups", "()I"⟩
abbrev cX8_teams : ByteArray := prog_10_method_30_code
def yX8_teams : MethodName := ⟨RX8, "teams", "()I"⟩
abbrev cX8_groupOf : ByteArray := prog_10_method_31_code
def yX8_groupOf : MethodName := ⟨RX8, "groupOf", "(I)I"⟩
abbrev cX8_played : ByteArray := prog_10_method_32_code
def yX8_played : MethodName := ⟨RX8, "played", "(I)I"⟩
abbrev cX8_points : ByteArray := prog_10_method_33_code
def yX8_points : MethodName := ⟨RX8, "points", "(I)I"⟩
abbrev cX8_difference : ByteArray := prog_10_method_34_code
def yX8_difference : MethodName := ⟨RX8, "difference", "(I)I"⟩
abbrev cX8_goals : ByteArray := prog_10_method_35_code
def yX8_goals : MethodName := ⟨RX8, "goals", "(I)I"⟩
abbrev cX8_place : ByteArray := prog_10_method_36_code
def yX8_place : MethodName := ⟨RX8, "place", "(I)I"⟩
abbrev cX8_teamAt : ByteArray := prog_10_method_37_code
def yX8_teamAt : MethodName := ⟨RX8, "teamAt", "(II)I"⟩
abbrev cX8_rule : ByteArray := prog_10_method_38_code
def yX8_rule : MethodName := ⟨RX8, "rule", "(II)I"⟩
abbrev cX8_matchesLeft : ByteArray := prog_10_method_39_code
def yX8_matchesLeft : MethodName := ⟨RX8, "matchesLeft", "(I)I"⟩
abbrev cX8_counting : ByteArray := prog_10_method_40_code
def yX8_counting : MethodName := ⟨RX8, "counting", "(I)I"⟩
abbrev cX8_thirdSum : ByteArray := prog_10_method_41_code
def yX8_thirdSum : MethodName := ⟨RX8, "thirdSum", "(II)I"⟩
abbrev cX8_isBetter : ByteArray := prog_10_method_42_code
def yX8_isBetter : MethodName := ⟨RX8, "isBetter", "(II)Z"⟩
abbrev cX8_rankOf : ByteArray := prog_10_method_43_code
def yX8_rankOf : MethodName := ⟨RX8, "rankOf", "(I)I"⟩
abbrev cX8_thirdPoints : ByteArray := prog_10_method_44_code
def yX8_thirdPoints : MethodName := ⟨RX8, "thirdPoints", "(I)I"⟩
abbrev cX8_thirdRank : ByteArray := prog_10_method_45_code
def yX8_thirdRank : MethodName := ⟨RX8, "thirdRank", "(I)I"⟩
abbrev cX8_isThrough : ByteArray := prog_10_method_46_code
def yX8_isThrough : MethodName := ⟨RX8, "isThrough", "(I)Z"⟩
abbrev cX8_waysOf : ByteArray := prog_10_method_47_code
def yX8_waysOf : MethodName := ⟨RX8, "waysOf", "(I)I"⟩
abbrev cX8_plays : ByteArray := prog_10_method_48_code
def yX8_plays : MethodName := ⟨RX8, "plays", "(II)V"⟩
abbrev cX8_before : ByteArray := prog_10_method_49_code
def yX8_before : MethodName := ⟨RX8, "before", "(II)I"⟩
abbrev cX8_ways : ByteArray := prog_10_method_50_code
def yX8_ways : MethodName := ⟨RX8, "ways", "(I)I"⟩
abbrev cX8_counts : ByteArray := prog_10_method_51_code
def yX8_counts : MethodName := ⟨RX8, "counts", "(IZ)I"⟩
abbrev cX8_waysSafe : ByteArray := prog_10_method_52_code
def yX8_waysSafe : MethodName := ⟨RX8, "waysSafe", "(I)I"⟩
abbrev cX8_waysLost : ByteArray := prog_10_method_53_code
def yX8_waysLost : MethodName := ⟨RX8, "waysLost", "(I)I"⟩
abbrev cX8_badWay : ByteArray := prog_10_method_54_code
def yX8_badWay : MethodName := ⟨RX8, "badWay", "(I)I"⟩
abbrev cX8_scoresThrough : ByteArray := prog_10_method_55_code
def yX8_scoresThrough : MethodName := ⟨RX8, "scoresThrough", "(I)I"⟩
def RL : String := "GroupTablesLaw"
abbrev cL_addGroup : ByteArray := method_3_code
def yL_addGroup : MethodName := ⟨RL, "addGroup", "(LGroupTables;I[J)I"⟩
abbrev cL_setResult : ByteArray := method_4_code
def yL_setResult : MethodName := ⟨RL, "setResult", "(LGroupTables;IIII[J)I"⟩
abbrev cL_strike : ByteArray := method_5_code
def yL_strike : MethodName := ⟨RL, "strike", "(LGroupTables;II[J)I"⟩
abbrev cL_takeAway : ByteArray := method_6_code
def yL_takeAway : MethodName := ⟨RL, "takeAway", "(LGroupTables;II[J)I"⟩
abbrev cL_setCards : ByteArray := method_7_code
def yL_setCards : MethodName := ⟨RL, "setCards", "(LGroupTables;II[J)I"⟩
abbrev cL_setLot : ByteArray := method_8_code
def yL_setLot : MethodName := ⟨RL, "setLot", "(LGroupTables;II[J)I"⟩
abbrev cL_setThrough : ByteArray := method_9_code
def yL_setThrough : MethodName := ⟨RL, "setThrough", "(LGroupTables;II)I"⟩
abbrev cL_groupOf : ByteArray := method_10_code
def yL_groupOf : MethodName := ⟨RL, "groupOf", "(LGroupTables;I[J)I"⟩
abbrev cL_played : ByteArray := method_11_code
def yL_played : MethodName := ⟨RL, "played", "(LGroupTables;I[J)I"⟩
abbrev cL_points : ByteArray := method_12_code
def yL_points : MethodName := ⟨RL, "points", "(LGroupTables;I[J)I"⟩
abbrev cL_difference : ByteArray := method_13_code
def yL_difference : MethodName := ⟨RL, "difference", "(LGroupTables;I[J)I"⟩
abbrev cL_goals : ByteArray := method_14_code
def yL_goals : MethodName := ⟨RL, "goals", "(LGroupTables;I[J)I"⟩
abbrev cL_place : ByteArray := method_15_code
def yL_place : MethodName := ⟨RL, "place", "(LGroupTables;I[J)I"⟩
abbrev cL_teamAt : ByteArray := method_16_code
def yL_teamAt : MethodName := ⟨RL, "teamAt", "(LGroupTables;II[J)I"⟩
abbrev cL_rule : ByteArray := method_17_code
def yL_rule : MethodName := ⟨RL, "rule", "(LGroupTables;II[J)I"⟩
abbrev cL_matchesLeft : ByteArray := method_18_code
def yL_matchesLeft : MethodName := ⟨RL, "matchesLeft", "(LGroupTables;I[J)I"⟩
abbrev cL_thirdPoints : ByteArray := method_19_code
def yL_thirdPoints : MethodName := ⟨RL, "thirdPoints", "(LGroupTables;I[J)I"⟩
abbrev cL_thirdRank : ByteArray := method_20_code
def yL_thirdRank : MethodName := ⟨RL, "thirdRank", "(LGroupTables;I[J)I"⟩
abbrev cL_isThrough : ByteArray := method_21_code
def yL_isThrough : MethodName := ⟨RL, "isThrough", "(LGroupTables;I[J)I"⟩
abbrev cL_ways : ByteArray := method_22_code
def yL_ways : MethodName := ⟨RL, "ways", "(LGroupTables;I[J)I"⟩
abbrev cL_waysSafe : ByteArray := method_23_code
def yL_waysSafe : MethodName := ⟨RL, "waysSafe", "(LGroupTables;I[J)I"⟩
abbrev cL_waysLost : ByteArray := method_24_code
def yL_waysLost : MethodName := ⟨RL, "waysLost", "(LGroupTables;I[J)I"⟩
abbrev cL_badWay : ByteArray := method_25_code
def yL_badWay : MethodName := ⟨RL, "badWay", "(LGroupTables;I[J)I"⟩
abbrev cL_scoresThrough : ByteArray := method_26_code
def yL_scoresThrough : MethodName := ⟨RL, "scoresThrough", "(LGroupTables;I[J)I"⟩
abbrev cL_law : ByteArray := code
def yL_law : MethodName := ⟨RL, "law", "([I)Z"⟩
theorem wsL_law_x0 : ∀ w ∈ (vx_atS RX7 59 "java/lang/IllegalStateException" ["java/lang/RuntimeException", "java/lang/Exception"]).filter goodWord, w ∈ lw_tbl := by decide +kernel
theorem wsL_law_x1 : ∀ w ∈ (vx_atS RX7 188 "java/lang/IllegalArgumentException" ["java/lang/RuntimeException", "java/lang/Exception"]).filter goodWord, w ∈ lw_tbl := by decide +kernel
theorem wsL_law_x2 : ∀ w ∈ (vx_atS RX7 147 "java/lang/IndexOutOfBoundsException" ["java/lang/RuntimeException", "java/lang/Exception"]).filter goodWord, w ∈ lw_tbl := by decide +kernel
theorem dX0_init_0 : decode cX0_init 0 = .ok (.aload_n 0, 1) := by decide +kernel
theorem dX0_init_1 : decode cX0_init 1 = .ok (.invokespecial 3, 3) := by decide +kernel
theorem dX0_init_4 : decode cX0_init 4 = .ok (.aload_n 0, 1) := by decide +kernel
theorem dX0_init_5 : decode cX0_init 5 = .ok (.iconst 5, 1) := by decide +kernel
theorem dX0_init_6 : decode cX0_init 6 = .ok (.iconst 5, 1) := by decide +kernel
theorem dX0_init_7 : decode cX0_init 7 = .ok (.multianewarray 9 2, 4) := by decide +kernel
theorem dX0_init_11 : decode cX0_init 11 = .ok (.putfield 11, 3) := by decide +kernel
theorem dX0_init_14 : decode cX0_init 14 = .ok (.aload_n 0, 1) := by decide +kernel
theorem dX0_init_15 : decode cX0_init 15 = .ok (.iconst 5, 1) := by decide +kernel
theorem dX0_init_16 : decode cX0_init 16 = .ok (.newarray .int, 2) := by decide +kernel
theorem dX0_init_18 : decode cX0_init 18 = .ok (.putfield 16, 3) := by decide +kernel
theorem dX0_init_21 : decode cX0_init 21 = .ok (.aload_n 0, 1) := by decide +kernel
theorem dX0_init_22 : decode cX0_init 22 = .ok (.iconst 5, 1) := by decide +kernel
theorem dX0_init_23 : decode cX0_init 23 = .ok (.newarray .int, 2) := by decide +kernel
theorem dX0_init_25 : decode cX0_init 25 = .ok (.putfield 20, 3) := by decide +kernel
theorem dX0_init_28 : decode cX0_init 28 = .ok (.aload_n 0, 1) := by decide +kernel
theorem dX0_init_29 : decode cX0_init 29 = .ok (.iconst 5, 1) := by decide +kernel
theorem dX0_init_30 : decode cX0_init 30 = .ok (.newarray .int, 2) := by decide +kernel
theorem dX0_init_32 : decode cX0_init 32 = .ok (.putfield 23, 3) := by decide +kernel
theorem dX0_init_35 : decode cX0_init 35 = .ok (.return_, 1) := by decide +kernel
theorem dX1_init_0 : decode cX1_init 0 = .ok (.aload_n 0, 1) := by decide +kernel
theorem dX1_init_1 : decode cX1_init 1 = .ok (.invokespecial 3, 3) := by decide +kernel
theorem dX1_init_4 : decode cX1_init 4 = .ok (.aload_n 0, 1) := by decide +kernel
theorem dX1_init_5 : decode cX1_init 5 = .ok (.bipush 10, 2) := by decide +kernel
theorem dX1_init_7 : decode cX1_init 7 = .ok (.newarray .int, 2) := by decide +kernel
theorem dX1_init_9 : decode cX1_init 9 = .ok (.putfield 9, 3) := by decide +kernel
theorem dX1_init_12 : decode cX1_init 12 = .ok (.aload_n 0, 1) := by decide +kernel
theorem dX1_init_13 : decode cX1_init 13 = .ok (.bipush 10, 2) := by decide +kernel
theorem dX1_init_15 : decode cX1_init 15 = .ok (.newarray .int, 2) := by decide +kernel
theorem dX1_init_17 : decode cX1_init 17 = .ok (.putfield 15, 3) := by decide +kernel
theorem dX1_init_20 : decode cX1_init 20 = .ok (.return_, 1) := by decide +kernel
theorem dX2_init_0 : decode cX2_init 0 = .ok (.aload_n 0, 1) := by decide +kernel
theorem dX2_init_1 : decode cX2_init 1 = .ok (.invokespecial 1, 3) := by decide +kernel
theorem dX2_init_4 : decode cX2_init 4 = .ok (.aload_n 0, 1) := by decide +kernel
theorem dX2_init_5 : decode cX2_init 5 = .ok (.iload_n 1, 1) := by decide +kernel
theorem dX2_init_6 : decode cX2_init 6 = .ok (.iload_n 2, 1) := by decide +kernel
theorem dX2_init_7 : decode cX2_init 7 = .ok (.multianewarray 7 2, 4) := by decide +kernel
theorem dX2_init_11 : decode cX2_init 11 = .ok (.putfield 9, 3) := by decide +kernel
theorem dX2_init_14 : decode cX2_init 14 = .ok (.return_, 1) := by decide +kernel
theorem dX3_init_0 : decode cX3_init 0 = .ok (.aload_n 0, 1) := by decide +kernel
theorem dX3_init_1 : decode cX3_init 1 = .ok (.invokespecial 3, 3) := by decide +kernel
theorem dX3_init_4 : decode cX3_init 4 = .ok (.aload_n 0, 1) := by decide +kernel
theorem dX3_init_5 : decode cX3_init 5 = .ok (.new 9, 3) := by decide +kernel
theorem dX3_init_8 : decode cX3_init 8 = .ok (.dup, 1) := by decide +kernel
theorem dX3_init_9 : decode cX3_init 9 = .ok (.invokespecial 11, 3) := by decide +kernel
theorem dX3_init_12 : decode cX3_init 12 = .ok (.putfield 12, 3) := by decide +kernel
theorem dX3_init_15 : decode cX3_init 15 = .ok (.aload_n 0, 1) := by decide +kernel
theorem dX3_init_16 : decode cX3_init 16 = .ok (.iconst 5, 1) := by decide +kernel
theorem dX3_init_17 : decode cX3_init 17 = .ok (.newarray .int, 2) := by decide +kernel
theorem dX3_init_19 : decode cX3_init 19 = .ok (.putfield 18, 3) := by decide +kernel
theorem dX3_init_22 : decode cX3_init 22 = .ok (.aload_n 0, 1) := by decide +kernel
theorem dX3_init_23 : decode cX3_init 23 = .ok (.iconst 5, 1) := by decide +kernel
theorem dX3_init_24 : decode cX3_init 24 = .ok (.newarray .int, 2) := by decide +kernel
theorem dX3_init_26 : decode cX3_init 26 = .ok (.putfield 22, 3) := by decide +kernel
theorem dX3_init_29 : decode cX3_init 29 = .ok (.return_, 1) := by decide +kernel
theorem dX4_init_0 : decode cX4_init 0 = .ok (.aload_n 0, 1) := by decide +kernel
theorem dX4_init_1 : decode cX4_init 1 = .ok (.invokespecial 1, 3) := by decide +kernel
theorem dX4_init_4 : decode cX4_init 4 = .ok (.aload_n 0, 1) := by decide +kernel
theorem dX4_init_5 : decode cX4_init 5 = .ok (.new 7, 3) := by decide +kernel
theorem dX4_init_8 : decode cX4_init 8 = .ok (.dup, 1) := by decide +kernel
theorem dX4_init_9 : decode cX4_init 9 = .ok (.invokespecial 9, 3) := by decide +kernel
theorem dX4_init_12 : decode cX4_init 12 = .ok (.putfield 10, 3) := by decide +kernel
theorem dX4_init_15 : decode cX4_init 15 = .ok (.return_, 1) := by decide +kernel
theorem dX5_init_0 : decode cX5_init 0 = .ok (.aload_n 0, 1) := by decide +kernel
theorem dX5_init_1 : decode cX5_init 1 = .ok (.invokespecial 3, 3) := by decide +kernel
theorem dX5_init_4 : decode cX5_init 4 = .ok (.aload_n 0, 1) := by decide +kernel
theorem dX5_init_5 : decode cX5_init 5 = .ok (.new 9, 3) := by decide +kernel
theorem dX5_init_8 : decode cX5_init 8 = .ok (.dup, 1) := by decide +kernel
theorem dX5_init_9 : decode cX5_init 9 = .ok (.iconst 5, 1) := by decide +kernel
theorem dX5_init_10 : decode cX5_init 10 = .ok (.iconst 4, 1) := by decide +kernel
theorem dX5_init_11 : decode cX5_init 11 = .ok (.invokespecial 13, 3) := by decide +kernel
theorem dX5_init_14 : decode cX5_init 14 = .ok (.putfield 16, 3) := by decide +kernel
theorem dX5_init_17 : decode cX5_init 17 = .ok (.aload_n 0, 1) := by decide +kernel
theorem dX5_init_18 : decode cX5_init 18 = .ok (.iconst 5, 1) := by decide +kernel
theorem dX5_init_19 : decode cX5_init 19 = .ok (.newarray .int, 2) := by decide +kernel
theorem dX5_init_21 : decode cX5_init 21 = .ok (.putfield 20, 3) := by decide +kernel
theorem dX5_init_24 : decode cX5_init 24 = .ok (.aload_n 0, 1) := by decide +kernel
theorem dX5_init_25 : decode cX5_init 25 = .ok (.iconst 5, 1) := by decide +kernel
theorem dX5_init_26 : decode cX5_init 26 = .ok (.iconst 5, 1) := by decide +kernel
theorem dX5_init_27 : decode cX5_init 27 = .ok (.multianewarray 24 2, 4) := by decide +kernel
theorem dX5_init_31 : decode cX5_init 31 = .ok (.putfield 26, 3) := by decide +kernel
theorem dX5_init_34 : decode cX5_init 34 = .ok (.return_, 1) := by decide +kernel
theorem dX6_init_0 : decode cX6_init 0 = .ok (.aload_n 0, 1) := by decide +kernel
theorem dX6_init_1 : decode cX6_init 1 = .ok (.invokespecial 3, 3) := by decide +kernel
theorem dX6_init_4 : decode cX6_init 4 = .ok (.aload_n 0, 1) := by decide +kernel
theorem dX6_init_5 : decode cX6_init 5 = .ok (.new 9, 3) := by decide +kernel
theorem dX6_init_8 : decode cX6_init 8 = .ok (.dup, 1) := by decide +kernel
theorem dX6_init_9 : decode cX6_init 9 = .ok (.bipush 6, 2) := by decide +kernel
theorem dX6_init_11 : decode cX6_init 11 = .ok (.iconst 5, 1) := by decide +kernel
theorem dX6_init_12 : decode cX6_init 12 = .ok (.invokespecial 13, 3) := by decide +kernel
theorem dX6_init_15 : decode cX6_init 15 = .ok (.putfield 16, 3) := by decide +kernel
theorem dX6_init_18 : decode cX6_init 18 = .ok (.return_, 1) := by decide +kernel
theorem dX7_init_0 : decode cX7_init 0 = .ok (.aload_n 0, 1) := by decide +kernel
theorem dX7_init_1 : decode cX7_init 1 = .ok (.invokespecial 1, 3) := by decide +kernel
theorem dX7_init_4 : decode cX7_init 4 = .ok (.aload_n 0, 1) := by decide +kernel
theorem dX7_init_5 : decode cX7_init 5 = .ok (.bipush 6, 2) := by decide +kernel
theorem dX7_init_7 : decode cX7_init 7 = .ok (.anewarray 9, 3) := by decide +kernel
theorem dX7_init_10 : decode cX7_init 10 = .ok (.putfield 11, 3) := by decide +kernel
theorem dX7_init_13 : decode cX7_init 13 = .ok (.aload_n 0, 1) := by decide +kernel
theorem dX7_init_14 : decode cX7_init 14 = .ok (.new 15, 3) := by decide +kernel
theorem dX7_init_17 : decode cX7_init 17 = .ok (.dup, 1) := by decide +kernel
theorem dX7_init_18 : decode cX7_init 18 = .ok (.invokespecial 17, 3) := by decide +kernel
theorem dX7_init_21 : decode cX7_init 21 = .ok (.putfield 18, 3) := by decide +kernel
theorem dX7_init_24 : decode cX7_init 24 = .ok (.aload_n 0, 1) := by decide +kernel
theorem dX7_init_25 : decode cX7_init 25 = .ok (.new 22, 3) := by decide +kernel
theorem dX7_init_28 : decode cX7_init 28 = .ok (.dup, 1) := by decide +kernel
theorem dX7_init_29 : decode cX7_init 29 = .ok (.invokespecial 24, 3) := by decide +kernel
theorem dX7_init_32 : decode cX7_init 32 = .ok (.putfield 25, 3) := by decide +kernel
theorem dX7_init_35 : decode cX7_init 35 = .ok (.aload_n 0, 1) := by decide +kernel
theorem dX7_init_36 : decode cX7_init 36 = .ok (.new 29, 3) := by decide +kernel
theorem dX7_init_39 : decode cX7_init 39 = .ok (.dup, 1) := by decide +kernel
theorem dX7_init_40 : decode cX7_init 40 = .ok (.invokespecial 31, 3) := by decide +kernel
theorem dX7_init_43 : decode cX7_init 43 = .ok (.putfield 32, 3) := by decide +kernel
theorem dX7_init_46 : decode cX7_init 46 = .ok (.aload_n 0, 1) := by decide +kernel
theorem dX7_init_47 : decode cX7_init 47 = .ok (.new 36, 3) := by decide +kernel
theorem dX7_init_50 : decode cX7_init 50 = .ok (.dup, 1) := by decide +kernel
theorem dX7_init_51 : decode cX7_init 51 = .ok (.invokespecial 38, 3) := by decide +kernel
theorem dX7_init_54 : decode cX7_init 54 = .ok (.putfield 39, 3) := by decide +kernel
theorem dX7_init_57 : decode cX7_init 57 = .ok (.aload_n 0, 1) := by decide +kernel
theorem dX7_init_58 : decode cX7_init 58 = .ok (.iconst 2, 1) := by decide +kernel
theorem dX7_init_59 : decode cX7_init 59 = .ok (.putfield 43, 3) := by decide +kernel
theorem dX7_init_62 : decode cX7_init 62 = .ok (.iconst 0, 1) := by decide +kernel
theorem dX7_init_63 : decode cX7_init 63 = .ok (.istore_n 1, 1) := by decide +kernel
theorem dX7_init_64 : decode cX7_init 64 = .ok (.iload_n 1, 1) := by decide +kernel
theorem dX7_init_65 : decode cX7_init 65 = .ok (.bipush 6, 2) := by decide +kernel
theorem dX7_init_67 : decode cX7_init 67 = .ok (.if_icmp .ge 22, 3) := by decide +kernel
theorem dX7_init_70 : decode cX7_init 70 = .ok (.aload_n 0, 1) := by decide +kernel
theorem dX7_init_71 : decode cX7_init 71 = .ok (.getfield 11, 3) := by decide +kernel
theorem dX7_init_74 : decode cX7_init 74 = .ok (.iload_n 1, 1) := by decide +kernel
theorem dX7_init_75 : decode cX7_init 75 = .ok (.new 9, 3) := by decide +kernel
theorem dX7_init_78 : decode cX7_init 78 = .ok (.dup, 1) := by decide +kernel
theorem dX7_init_79 : decode cX7_init 79 = .ok (.invokespecial 47, 3) := by decide +kernel
theorem dX7_init_82 : decode cX7_init 82 = .ok (.aastore, 1) := by decide +kernel
theorem dX7_init_83 : decode cX7_init 83 = .ok (.iinc 1 1, 3) := by decide +kernel
theorem dX7_init_86 : decode cX7_init 86 = .ok (.goto (-22), 3) := by decide +kernel
theorem dX7_init_89 : decode cX7_init 89 = .ok (.return_, 1) := by decide +kernel
theorem dX8_init_0 : decode cX8_init 0 = .ok (.aload_n 0, 1) := by decide +kernel
theorem dX8_init_1 : decode cX8_init 1 = .ok (.invokespecial 1, 3) := by decide +kernel
theorem dX8_init_4 : decode cX8_init 4 = .ok (.aload_n 0, 1) := by decide +kernel
theorem dX8_init_5 : decode cX8_init 5 = .ok (.iconst 2, 1) := by decide +kernel
theorem dX8_init_6 : decode cX8_init 6 = .ok (.putfield 7, 3) := by decide +kernel
theorem dX8_init_9 : decode cX8_init 9 = .ok (.aload_n 0, 1) := by decide +kernel
theorem dX8_init_10 : decode cX8_init 10 = .ok (.bipush 6, 2) := by decide +kernel
theorem dX8_init_12 : decode cX8_init 12 = .ok (.newarray .int, 2) := by decide +kernel
theorem dX8_init_14 : decode cX8_init 14 = .ok (.putfield 13, 3) := by decide +kernel
theorem dX8_init_17 : decode cX8_init 17 = .ok (.aload_n 0, 1) := by decide +kernel
theorem dX8_init_18 : decode cX8_init 18 = .ok (.bipush 6, 2) := by decide +kernel
theorem dX8_init_20 : decode cX8_init 20 = .ok (.newarray .int, 2) := by decide +kernel
theorem dX8_init_22 : decode cX8_init 22 = .ok (.putfield 17, 3) := by decide +kernel
theorem dX8_init_25 : decode cX8_init 25 = .ok (.aload_n 0, 1) := by decide +kernel
theorem dX8_init_26 : decode cX8_init 26 = .ok (.bipush 30, 2) := by decide +kernel
theorem dX8_init_28 : decode cX8_init 28 = .ok (.newarray .int, 2) := by decide +kernel
theorem dX8_init_30 : decode cX8_init 30 = .ok (.putfield 20, 3) := by decide +kernel
theorem dX8_init_33 : decode cX8_init 33 = .ok (.aload_n 0, 1) := by decide +kernel
theorem dX8_init_34 : decode cX8_init 34 = .ok (.bipush 30, 2) := by decide +kernel
theorem dX8_init_36 : decode cX8_init 36 = .ok (.newarray .int, 2) := by decide +kernel
theorem dX8_init_38 : decode cX8_init 38 = .ok (.putfield 23, 3) := by decide +kernel
theorem dX8_init_41 : decode cX8_init 41 = .ok (.aload_n 0, 1) := by decide +kernel
theorem dX8_init_42 : decode cX8_init 42 = .ok (.bipush 30, 2) := by decide +kernel
theorem dX8_init_44 : decode cX8_init 44 = .ok (.newarray .int, 2) := by decide +kernel
theorem dX8_init_46 : decode cX8_init 46 = .ok (.putfield 26, 3) := by decide +kernel
theorem dX8_init_49 : decode cX8_init 49 = .ok (.aload_n 0, 1) := by decide +kernel
theorem dX8_init_50 : decode cX8_init 50 = .ok (.bipush 30, 2) := by decide +kernel
theorem dX8_init_52 : decode cX8_init 52 = .ok (.newarray .int, 2) := by decide +kernel
theorem dX8_init_54 : decode cX8_init 54 = .ok (.putfield 29, 3) := by decide +kernel
theorem dX8_init_57 : decode cX8_init 57 = .ok (.aload_n 0, 1) := by decide +kernel
theorem dX8_init_58 : decode cX8_init 58 = .ok (.sipush 150, 3) := by decide +kernel
theorem dX8_init_61 : decode cX8_init 61 = .ok (.newarray .int, 2) := by decide +kernel
theorem dX8_init_63 : decode cX8_init 63 = .ok (.putfield 32, 3) := by decide +kernel
theorem dX8_init_66 : decode cX8_init 66 = .ok (.aload_n 0, 1) := by decide +kernel
theorem dX8_init_67 : decode cX8_init 67 = .ok (.iconst 5, 1) := by decide +kernel
theorem dX8_init_68 : decode cX8_init 68 = .ok (.newarray .int, 2) := by decide +kernel
theorem dX8_init_70 : decode cX8_init 70 = .ok (.putfield 35, 3) := by decide +kernel
theorem dX8_init_73 : decode cX8_init 73 = .ok (.aload_n 0, 1) := by decide +kernel
theorem dX8_init_74 : decode cX8_init 74 = .ok (.iconst 5, 1) := by decide +kernel
theorem dX8_init_75 : decode cX8_init 75 = .ok (.newarray .int, 2) := by decide +kernel
theorem dX8_init_77 : decode cX8_init 77 = .ok (.putfield 38, 3) := by decide +kernel
theorem dX8_init_80 : decode cX8_init 80 = .ok (.aload_n 0, 1) := by decide +kernel
theorem dX8_init_81 : decode cX8_init 81 = .ok (.bipush 25, 2) := by decide +kernel
theorem dX8_init_83 : decode cX8_init 83 = .ok (.newarray .int, 2) := by decide +kernel
theorem dX8_init_85 : decode cX8_init 85 = .ok (.putfield 41, 3) := by decide +kernel
theorem dX8_init_88 : decode cX8_init 88 = .ok (.aload_n 0, 1) := by decide +kernel
theorem dX8_init_89 : decode cX8_init 89 = .ok (.bipush 15, 2) := by decide +kernel
theorem dX8_init_91 : decode cX8_init 91 = .ok (.newarray .int, 2) := by decide +kernel
theorem dX8_init_93 : decode cX8_init 93 = .ok (.putfield 44, 3) := by decide +kernel
theorem dX8_init_96 : decode cX8_init 96 = .ok (.aload_n 0, 1) := by decide +kernel
theorem dX8_init_97 : decode cX8_init 97 = .ok (.iconst 5, 1) := by decide +kernel
theorem dX8_init_98 : decode cX8_init 98 = .ok (.newarray .int, 2) := by decide +kernel
theorem dX8_init_100 : decode cX8_init 100 = .ok (.putfield 47, 3) := by decide +kernel
theorem dX8_init_103 : decode cX8_init 103 = .ok (.iconst 0, 1) := by decide +kernel
theorem dX8_init_104 : decode cX8_init 104 = .ok (.istore_n 1, 1) := by decide +kernel
theorem dX8_init_105 : decode cX8_init 105 = .ok (.iload_n 1, 1) := by decide +kernel
theorem dX8_init_106 : decode cX8_init 106 = .ok (.sipush 150, 3) := by decide +kernel
theorem dX8_init_109 : decode cX8_init 109 = .ok (.if_icmp .ge 16, 3) := by decide +kernel
theorem dX8_init_112 : decode cX8_init 112 = .ok (.aload_n 0, 1) := by decide +kernel
theorem dX8_init_113 : decode cX8_init 113 = .ok (.getfield 32, 3) := by decide +kernel
theorem dX8_init_116 : decode cX8_init 116 = .ok (.iload_n 1, 1) := by decide +kernel
theorem dX8_init_117 : decode cX8_init 117 = .ok (.iconst (-1), 1) := by decide +kernel
theorem dX8_init_118 : decode cX8_init 118 = .ok (.iastore, 1) := by decide +kernel
theorem dX8_init_119 : decode cX8_init 119 = .ok (.iinc 1 1, 3) := by decide +kernel
theorem dX8_init_122 : decode cX8_init 122 = .ok (.goto (-17), 3) := by decide +kernel
theorem dX8_init_125 : decode cX8_init 125 = .ok (.return_, 1) := by decide +kernel
abbrev vwCl : List vw_C := [(RX0, TX0, 6), (RX1, TX1, 2), (RX2, TX2, 1), (RX3, TX3, 7), (RX4, TX4, 1), (RX5, TX5, 3), (RX6, TX6, 1), (RX7, TX7, 9), (RX8, TX8, 17)]
theorem inX0 : ∀ w ∈ wsX00, w ∈ lw_tbl := by decide +kernel
theorem inX1 : ∀ w ∈ wsX10, w ∈ lw_tbl := by decide +kernel
theorem inX2 : ∀ w ∈ wsX20, w ∈ lw_tbl := by decide +kernel
theorem inX3 : ∀ w ∈ wsX30, w ∈ lw_tbl := by decide +kernel
theorem inX4 : ∀ w ∈ wsX40, w ∈ lw_tbl := by decide +kernel
theorem inX5 : ∀ w ∈ wsX50, w ∈ lw_tbl := by decide +kernel
theorem inX6 : ∀ w ∈ wsX60, w ∈ lw_tbl := by decide +kernel
theorem inX7 : ∀ w ∈ wsX70, w ∈ lw_tbl := by decide +kernel
theorem inX8 : ∀ w ∈ wsX80, w ∈ lw_tbl := by decide +kernel
end
section
/-- of each method: its arguments (with the receiver), its locals, its receiver's number in vwCl (of a method without one: none) -/
def mInf : List (Nat × Nat × Option Nat) := [(3, 5, some 0), (1, 1, some 0), (2, 2, some 0), (2, 2, some 0), (2, 2, some 0), (1, 1, some 0), (5, 5, some 0), (3, 3, some 0), (3, 3, some 0), (3, 4, some 0), (3, 4, some 0), (3, 4, some 0), (2, 4, some 0), (1, 4, some 0), (2, 2, some 0), (2, 2, some 0), (3, 5, some 0), (3, 5, some 0), (3, 5, some 0), (2, 2, some 0), (2, 2, some 0), (4, 4, some 0), (2, 2, none), (2, 2, some 1), (3, 4, some 1), (5, 10, some 1), (2, 2, some 1), (2, 2, some 1), (4, 4, some 2), (3, 3, some 2), (4, 5, some 2), (4, 5, some 2), (5, 5, some 3), (5, 5, some 3), (5, 6, some 3), (2, 4, some 3), (2, 5, some 3), (3, 5, some 3), (3, 5, some 3), (1, 4, some 3), (1, 4, some 3), (5, 5, some 4), (6, 11, some 4), (2, 5, some 5), (2, 2, some 5), (2, 3, some 5), (3, 3, some 5), (3, 5, some 5), (5, 7, some 5), (4, 7, some 5), (4, 7, some 5), (5, 8, some 5), (5, 6, some 5), (5, 5, some 5), (4, 10, some 6), (2, 2, some 6), (3, 5, some 6), (2, 4, none), (2, 3, some 7), (5, 6, some 7), (3, 6, some 7), (3, 4, some 7), (3, 4, some 7), (3, 4, some 7), (3, 3, some 7), (1, 1, some 7), (1, 1, some 7), (2, 2, some 7), (2, 3, some 7), (2, 3, some 7), (2, 3, some 7), (2, 3, some 7), (2, 3, some 7), (3, 4, some 7), (3, 4, some 7), (2, 2, some 7), (2, 2, some 7), (2, 2, some 7), (2, 5, some 7), (2, 2, some 7), (2, 4, some 7), (2, 3, some 7), (2, 3, some 7), (2, 3, some 7), (3, 3, none), (2, 2, some 7), (2, 3, some 7), (2, 2, some 7), (3, 5, some 7), (1, 1, some 8), (3, 3, none), (4, 4, some 8), (2, 2, some 8), (2, 2, some 8), (2, 2, some 8), (3, 3, some 8), (3, 3, some 8), (3, 3, some 8), (2, 3, some 8), (2, 5, some 8), (5, 5, some 8), (5, 6, some 8), (3, 5, some 8), (3, 4, some 8), (3, 4, some 8), (3, 4, some 8), (3, 3, some 8), (3, 5, some 8), (4, 9, some 8), (2, 2, some 8), (3, 9, some 8), (3, 6, some 8), (3, 10, some 8), (2, 4, some 8), (2, 2, some 8), (3, 5, some 8), (1, 1, some 8), (1, 1, some 8), (2, 2, some 8), (2, 4, some 8), (2, 2, some 8), (2, 2, some 8), (2, 2, some 8), (2, 2, some 8), (3, 4, some 8), (3, 4, some 8), (2, 2, some 8), (2, 5, some 8), (3, 5, some 8), (3, 7, some 8), (2, 4, some 8), (2, 2, some 8), (2, 2, some 8), (2, 3, some 8), (2, 4, some 8), (3, 6, some 8), (3, 6, some 8), (2, 2, some 8), (3, 6, some 8), (2, 2, some 8), (2, 2, some 8), (2, 4, some 8), (2, 10, some 8), (3, 4, none), (6, 7, none), (4, 5, none), (4, 5, none), (4, 5, none), (4, 5, none), (3, 4, none), (3, 4, none), (3, 4, none), (3, 4, none), (3, 4, none), (3, 4, none), (3, 4, none), (4, 5, none), (4, 5, none), (3, 4, none), (3, 4, none), (3, 4, none), (3, 4, none), (3, 4, none), (3, 4, none), (3, 4, none), (3, 4, none), (3, 4, none), (1, 7, none)]
def mNa (y : Nat) : Nat := (mInf.getD y (0, 0, none)).1
def mLo (y : Nat) : Nat := (mInf.getD y (0, 0, none)).2.1
def mRc (y : Nat) : Option Nat := (mInf.getD y (0, 0, none)).2.2
/-! the methods are what the class files hold: names, bytes, words -/
def nmL : List MethodName := [yX0_open, yX0_size, yX0_hasTeam, yX0_seatOf, yX0_teamOn, yX0_everyone, yX0_tell, yX0_untell, yX0_hasResult, yX0_putTaken, yX0_putCards, yX0_putLot, yX0_playedBy, yX0_left, yX0_pointsOf, yX0_takenFrom, yX0_pointsFrom, yX0_differenceFrom, yX0_goalsFrom, yX0_cardMark, yX0_lotMark, yX0_counts, yX0_pointsFor, yX1_list, yX1_listOwnLast, yX1_add, yX1_lowerOf, yX1_upperOf, yX2_put, yX2_at, yX2_firstApart, yX2_isBetter, yX3_countPassed, yX3_firstPassed, yX3_open, yX3_waysPassed, yX3_lowestPassed, yX3_play, yX3_takeBack, yX3_isPassedAnyhow, yX3_canBePassed, yX4_through, yX4_countFrom, yX5_draw, yX5_seatAt, yX5_placeOf, yX5_ruleBetween, yX5_setOf, yX5_settle, yX5_markTied, yX5_markAll, yX5_arrange, yX5_noteRule, yX5_alikeEnd, yX6_measure, yX6_pointsOfThird, yX6_betterThan, yX6_smallestSize, yX7_addGroup, yX7_setResult, yX7_strike, yX7_takeAway, yX7_setCards, yX7_setLot, yX7_setThrough, yX7_groups, yX7_teams, yX7_groupOf, yX7_played, yX7_points, yX7_difference, yX7_goals, yX7_place, yX7_teamAt, yX7_rule, yX7_matchesLeft, yX7_thirdPoints, yX7_thirdRank, yX7_isThrough, yX7_ways, yX7_waysSafe, yX7_waysLost, yX7_badWay, yX7_scoresThrough, yX7_needInRange, yX7_needGroup, yX7_groupNumber, yX7_groupWith, yX7_groupOfPair, yX8_thrown, yX8_in, yX8_goes, yX8_told, yX8_isTeam, yX8_isGroup, yX8_arePair, yX8_at, yX8_isPlayed, yX8_addGroup, yX8_left, yX8_lays, yX8_setResult, yX8_strike, yX8_takeAway, yX8_setCards, yX8_setLot, yX8_setThrough, yX8_pointsIn, yX8_sums, yX8_pointsOf, yX8_finalRule, yX8_tiedRule, yX8_splits, yX8_orders, yX8_placeOf, yX8_teamOn, yX8_groups, yX8_teams, yX8_groupOf, yX8_played, yX8_points, yX8_difference, yX8_goals, yX8_place, yX8_teamAt, yX8_rule, yX8_matchesLeft, yX8_counting, yX8_thirdSum, yX8_isBetter, yX8_rankOf, yX8_thirdPoints, yX8_thirdRank, yX8_isThrough, yX8_waysOf, yX8_plays, yX8_before, yX8_ways, yX8_counts, yX8_waysSafe, yX8_waysLost, yX8_badWay, yX8_scoresThrough, yL_addGroup, yL_setResult, yL_strike, yL_takeAway, yL_setCards, yL_setLot, yL_setThrough, yL_groupOf, yL_played, yL_points, yL_difference, yL_goals, yL_place, yL_teamAt, yL_rule, yL_matchesLeft, yL_thirdPoints, yL_thirdRank, yL_isThrough, yL_ways, yL_waysSafe, yL_waysLost, yL_badWay, yL_scoresThrough, x]
def byL : List ByteArray := [cX0_open, cX0_size, cX0_hasTeam, cX0_seatOf, cX0_teamOn, cX0_everyone, cX0_tell, cX0_untell, cX0_hasResult, cX0_putTaken, cX0_putCards, cX0_putLot, cX0_playedBy, cX0_left, cX0_pointsOf, cX0_takenFrom, cX0_pointsFrom, cX0_differenceFrom, cX0_goalsFrom, cX0_cardMark, cX0_lotMark, cX0_counts, cX0_pointsFor, cX1_list, cX1_listOwnLast, cX1_add, cX1_lowerOf, cX1_upperOf, cX2_put, cX2_at, cX2_firstApart, cX2_isBetter, cX3_countPassed, cX3_firstPassed, cX3_open, cX3_waysPassed, cX3_lowestPassed, cX3_play, cX3_takeBack, cX3_isPassedAnyhow, cX3_canBePassed, cX4_through, cX4_countFrom, cX5_draw, cX5_seatAt, cX5_placeOf, cX5_ruleBetween, cX5_setOf, cX5_settle, cX5_markTied, cX5_markAll, cX5_arrange, cX5_noteRule, cX5_alikeEnd, cX6_measure, cX6_pointsOfThird, cX6_betterThan, cX6_smallestSize, cX7_addGroup, cX7_setResult, cX7_strike, cX7_takeAway, cX7_setCards, cX7_setLot, cX7_setThrough, cX7_groups, cX7_teams, cX7_groupOf, cX7_played, cX7_points, cX7_difference, cX7_goals, cX7_place, cX7_teamAt, cX7_rule, cX7_matchesLeft, cX7_thirdPoints, cX7_thirdRank, cX7_isThrough, cX7_ways, cX7_waysSafe, cX7_waysLost, cX7_badWay, cX7_scoresThrough, cX7_needInRange, cX7_needGroup, cX7_groupNumber, cX7_groupWith, cX7_groupOfPair, cX8_thrown, cX8_in, cX8_goes, cX8_told, cX8_isTeam, cX8_isGroup, cX8_arePair, cX8_at, cX8_isPlayed, cX8_addGroup, cX8_left, cX8_lays, cX8_setResult, cX8_strike, cX8_takeAway, cX8_setCards, cX8_setLot, cX8_setThrough, cX8_pointsIn, cX8_sums, cX8_pointsOf, cX8_finalRule, cX8_tiedRule, cX8_splits, cX8_orders, cX8_placeOf, cX8_teamOn, cX8_groups, cX8_teams, cX8_groupOf, cX8_played, cX8_points, cX8_difference, cX8_goals, cX8_place, cX8_teamAt, cX8_rule, cX8_matchesLeft, cX8_counting, cX8_thirdSum, cX8_isBetter, cX8_rankOf, cX8_thirdPoints, cX8_thirdRank, cX8_isThrough, cX8_waysOf, cX8_plays, cX8_before, cX8_ways, cX8_counts, cX8_waysSafe, cX8_waysLost, cX8_badWay, cX8_scoresThrough, cL_addGroup, cL_setResult, cL_strike, cL_takeAway, cL_setCards, cL_setLot, cL_setThrough, cL_groupOf, cL_played, cL_points, cL_difference, cL_goals, cL_place, cL_teamAt, cL_rule, cL_matchesLeft, cL_thirdPoints, cL_thirdRank, cL_isThrough, cL_ways, cL_waysSafe, cL_waysLost, cL_badWay, cL_scoresThrough, code]
def rtL : List (Option FieldType) := [none, (some .int), (some .boolean), (some .int), (some .int), (some .int), none, none, (some .boolean), (some .int), (some .int), (some .int), (some .int), (some .int), (some .int), (some .int), (some .int), (some .int), (some .int), (some .int), (some .int), (some .boolean), (some .int), (some .int), (some .int), (some .int), (some .int), (some .int), none, (some .int), (some .int), (some .boolean), (some .int), (some .int), none, (some .int), (some .int), none, none, (some .boolean), (some .boolean), (some .int), (some .int), none, (some .int), (some .int), (some .int), (some .int), none, none, none, none, none, (some .boolean), none, (some .int), (some .int), (some .int), (some .int), (some .int), (some .int), (some .int), (some .int), (some .int), none, (some .int), (some .int), (some .int), (some .int), (some .int), (some .int), (some .int), (some .int), (some .int), (some .int), (some .int), (some .int), (some .int), (some .boolean), (some .int), (some .int), (some .int), (some .int), (some .int), none, none, (some .int), (some (.object "GroupTables$Group")), (some (.object "GroupTables$Group")), (some .int), (some .boolean), (some .boolean), (some .int), (some .boolean), (some .boolean), (some .boolean), (some .int), (some .boolean), (some .int), (some .int), none, (some .int), (some .int), (some .int), (some .int), (some .int), none, (some .int), (some .int), (some .int), (some .int), (some .int), (some .boolean), none, (some .int), (some .int), (some .int), (some .int), (some .int), (some .int), (some .int), (some .int), (some .int), (some .int), (some .int), (some .int), (some .int), (some .int), (some .int), (some .boolean), (some .int), (some .int), (some .int), (some .boolean), (some .int), none, (some .int), (some .int), (some .int), (some .int), (some .int), (some .int), (some .int), (some .int), (some .int), (some .int), (some .int), (some .int), (some .int), (some .int), (some .int), (some .int), (some .int), (some .int), (some .int), (some .int), (some .int), (some .int), (some .int), (some .int), (some .int), (some .int), (some .int), (some .int), (some .int), (some .int), (some .int), (some .boolean)]
def owL : List Nat := [0, 0, 0, 0, 0, 0, 0, 0, 0, 0, 0, 0, 0, 0, 0, 0, 0, 0, 0, 0, 0, 0, 0, 1, 1, 1, 1, 1, 2, 2, 2, 2, 3, 3, 3, 3, 3, 3, 3, 3, 3, 4, 4, 5, 5, 5, 5, 5, 5, 5, 5, 5, 5, 5, 6, 6, 6, 6, 7, 7, 7, 7, 7, 7, 7, 7, 7, 7, 7, 7, 7, 7, 7, 7, 7, 7, 7, 7, 7, 7, 7, 7, 7, 7, 7, 7, 7, 7, 7, 8, 8, 8, 8, 8, 8, 8, 8, 8, 8, 8, 8, 8, 8, 8, 8, 8, 8, 8, 8, 8, 8, 8, 8, 8, 8, 8, 8, 8, 8, 8, 8, 8, 8, 8, 8, 8, 8, 8, 8, 8, 8, 8, 8, 8, 8, 8, 8, 8, 8, 8, 8, 8, 8, 9, 9, 9, 9, 9, 9, 9, 9, 9, 9, 9, 9, 9, 9, 9, 9, 9, 9, 9, 9, 9, 9, 9, 9, 9]
def hhL : List (Option (List (Nat × Nat × Nat × Nat))) := [none, none, none, none, none, none, none, none, none, none, none, none, none, none, none, none, none, none, none, none, none, none, none, none, none, none, none, none, none, none, none, none, none, none, none, none, none, none, none, none, none, none, none, none, none, none, none, none, none, none, none, none, none, none, none, none, none, none, none, none, none, none, none, none, none, none, none, none, none, none, none, none, none, none, none, none, none, none, none, none, none, none, none, none, none, none, none, none, none, none, none, none, none, none, none, none, none, none, none, none, none, none, none, none, none, none, none, none, none, none, none, none, none, none, none, none, none, none, none, none, none, none, none, none, none, none, none, none, none, none, none, none, none, none, none, none, none, none, none, none, none, none, none, some [(0, 9, 12, 13), (0, 9, 15, 15)], some [(0, 14, 17, 21), (0, 14, 21, 13)], some [(0, 10, 13, 21), (0, 10, 17, 13), (0, 10, 21, 15)], some [(0, 10, 13, 21), (0, 10, 17, 13)], some [(0, 10, 13, 21), (0, 10, 17, 13)], some [(0, 10, 13, 21), (0, 10, 17, 13)], some [(0, 6, 9, 13)], some [(0, 9, 12, 21)], some [(0, 9, 12, 21)], some [(0, 9, 12, 21)], some [(0, 9, 12, 21)], some [(0, 9, 12, 21)], some [(0, 9, 12, 21)], some [(0, 10, 13, 21)], some [(0, 10, 13, 21), (0, 10, 17, 13)], some [(0, 9, 12, 21)], some [(0, 9, 12, 21)], some [(0, 9, 12, 21)], some [(0, 16, 19, 21)], some [(0, 9, 12, 21)], some [(0, 9, 12, 21)], some [(0, 9, 12, 21)], some [(0, 9, 12, 21)], some [(0, 9, 12, 21), (0, 9, 15, 15)], none]
def mNm (y : Nat) : MethodName := nmL.getD y x
def mBy (y : Nat) : ByteArray := byL.getD y code
def mRt (y : Nat) : Option FieldType := rtL.getD y none
def mOw (y : Nat) : Nat := owL.getD y 9
def mHh (y : Nat) : Option (List (Nat × Nat × Nat × Nat)) := hhL.getD y none
def ownS (c : Nat) : String := ([RX0, RX1, RX2, RX3, RX4, RX5, RX6, RX7, RX8, RL] : List String).getD c RL
def vC (c : Nat) : vw_C := vwCl.getD c (RX0, TX0, 6)
/-- field links: class, entry, kind of object, place -/
def FR : List (Nat × Nat × Nat × Nat) := [(0, 11, 0, 0), (0, 16, 0, 1), (0, 20, 0, 2), (0, 23, 0, 3), (0, 26, 0, 4), (0, 30, 0, 5), (1, 9, 1, 0), (1, 15, 1, 1), (2, 9, 2, 0), (3, 12, 3, 0), (3, 18, 3, 1), (3, 22, 3, 2), (3, 50, 3, 3), (3, 53, 3, 4), (3, 56, 3, 5), (3, 59, 3, 6), (4, 10, 4, 0), (5, 16, 5, 0), (5, 20, 5, 1), (5, 26, 5, 2), (6, 16, 6, 0), (7, 11, 7, 0), (7, 18, 7, 1), (7, 25, 7, 2), (7, 32, 7, 3), (7, 39, 7, 4), (7, 43, 7, 7), (7, 52, 7, 5), (7, 62, 7, 6), (7, 108, 7, 8), (8, 7, 8, 2), (8, 13, 8, 4), (8, 17, 8, 5), (8, 20, 8, 6), (8, 23, 8, 7), (8, 26, 8, 8), (8, 29, 8, 9), (8, 32, 8, 10), (8, 35, 8, 11), (8, 38, 8, 12), (8, 41, 8, 13), (8, 44, 8, 14), (8, 47, 8, 15), (8, 50, 8, 16), (8, 53, 8, 1), (8, 60, 8, 0), (8, 90, 8, 3)]
def fW (q : Nat × Nat × Nat × Nat) : Jvm.Cond := .fieldLink (ownS q.1) q.2.1 ((vC q.2.2.1).2.1 q.2.2.2).1 ((vC q.2.2.1).2.1 q.2.2.2).2.1 ((vC q.2.2.1).2.1 q.2.2.2).2.2.1
/-- method links: class, entry, method -/
def MR : List (Nat × Nat × Nat) := [(0, 33, 6), (0, 37, 8), (0, 41, 5), (0, 45, 16), (0, 49, 21), (0, 53, 22), (1, 18, 24), (1, 22, 25), (1, 26, 1), (1, 32, 8), (2, 14, 30), (3, 25, 34), (3, 29, 24), (3, 33, 35), (3, 37, 23), (3, 41, 36), (3, 44, 1), (3, 62, 14), (3, 65, 12), (3, 68, 39), (3, 75, 40), (3, 78, 37), (3, 82, 38), (3, 85, 26), (3, 88, 27), (4, 16, 23), (4, 20, 42), (4, 24, 43), (4, 30, 45), (4, 34, 26), (4, 37, 27), (4, 40, 6), (4, 46, 7), (5, 29, 1), (5, 35, 14), (5, 39, 28), (5, 43, 51), (5, 47, 53), (5, 51, 48), (5, 55, 49), (5, 59, 30), (5, 63, 50), (5, 66, 47), (5, 70, 16), (5, 73, 17), (5, 76, 18), (5, 79, 5), (5, 82, 19), (5, 85, 20), (5, 88, 31), (5, 92, 52), (6, 20, 57), (6, 24, 43), (6, 30, 44), (6, 34, 47), (6, 38, 16), (6, 43, 15), (6, 46, 28), (6, 50, 17), (6, 53, 18), (6, 56, 19), (6, 59, 20), (6, 62, 29), (6, 65, 31), (6, 69, 1), (7, 48, 84), (7, 65, 0), (7, 69, 88), (7, 73, 3), (7, 77, 6), (7, 81, 13), (7, 85, 8), (7, 91, 7), (7, 94, 87), (7, 98, 9), (7, 102, 10), (7, 105, 11), (7, 111, 86), (7, 114, 12), (7, 117, 14), (7, 120, 5), (7, 123, 17), (7, 126, 18), (7, 129, 43), (7, 133, 45), (7, 136, 85), (7, 140, 1), (7, 148, 44), (7, 151, 4), (7, 154, 46), (7, 157, 54), (7, 161, 55), (7, 164, 56), (7, 171, 32), (7, 175, 33), (7, 180, 41), (7, 193, 2), (8, 56, 90), (8, 63, 96), (8, 67, 91), (8, 71, 97), (8, 75, 93), (8, 79, 95), (8, 82, 100), (8, 86, 99), (8, 93, 107), (8, 96, 108), (8, 100, 111), (8, 103, 110), (8, 106, 109), (8, 109, 112), (8, 112, 113), (8, 116, 92), (8, 119, 114), (8, 122, 94), (8, 125, 115), (8, 128, 127), (8, 131, 128), (8, 134, 129), (8, 137, 130), (8, 140, 134), (8, 143, 135), (8, 147, 136), (8, 150, 138), (9, 7, 58), (9, 17, 59), (9, 23, 60), (9, 27, 61), (9, 30, 62), (9, 33, 63), (9, 36, 64), (9, 40, 67), (9, 43, 68), (9, 46, 69), (9, 49, 70), (9, 52, 71), (9, 55, 72), (9, 58, 73), (9, 61, 74), (9, 64, 75), (9, 67, 76), (9, 70, 77), (9, 73, 78), (9, 77, 79), (9, 80, 80), (9, 83, 81), (9, 86, 82), (9, 89, 83), (9, 96, 143), (9, 101, 98), (9, 102, 89), (9, 106, 144), (9, 109, 101), (9, 110, 145), (9, 113, 102), (9, 114, 146), (9, 116, 103), (9, 117, 147), (9, 119, 104), (9, 120, 148), (9, 122, 105), (9, 123, 149), (9, 126, 106), (9, 127, 65), (9, 130, 116), (9, 131, 66), (9, 134, 117), (9, 135, 150), (9, 137, 118), (9, 138, 151), (9, 140, 119), (9, 141, 152), (9, 143, 120), (9, 144, 153), (9, 146, 121), (9, 147, 154), (9, 149, 122), (9, 150, 155), (9, 152, 123), (9, 153, 156), (9, 155, 124), (9, 156, 157), (9, 158, 125), (9, 159, 158), (9, 161, 126), (9, 162, 159), (9, 164, 131), (9, 165, 160), (9, 167, 132), (9, 168, 161), (9, 170, 133), (9, 171, 162), (9, 173, 137), (9, 174, 163), (9, 176, 139), (9, 177, 164), (9, 179, 140), (9, 180, 165), (9, 182, 141), (9, 183, 166), (9, 185, 142)]
/-- links of the static rows: class, entry, kind -/
def SRl : List (Nat × Nat × Nat) := [(3, 72, 50), (3, 91, 51), (3, 94, 52), (7, 167, 50)]
/-- exceptions: number, entry of the class, entry of the constructor -/
def EXl : List (Nat × Nat × Nat) := [(0, 143, 147), (1, 184, 188), (2, 55, 59)]
def STl : List (Nat × String) := [(57, "there are 6 groups"), (89, "the match has no result"), (145, "no such place"), (178, "more than 3 matches are left"), (186, "out of range"), (189, "no such group"), (191, "no such team"), (197, "not two teams of one group")]
def exN (e : Nat) : String := (["java/lang/IndexOutOfBoundsException", "java/lang/IllegalArgumentException", "java/lang/IllegalStateException"] : List String).getD e "java/lang/IllegalStateException"
def roM (k : Nat) : String × String := if k = 50 then ("GroupTables", "WAYS") else if k = 51 then ("GroupTables$Outlook", "LOWER_GAINS") else ("GroupTables$Outlook", "UPPER_GAINS")
def sW (q : Nat × Nat × Nat) : Jvm.Cond := if q.1 = 3 ∧ q.2.1 = 72 then .fieldLinkNest (ownS q.1) q.2.1 (roM q.2.2).1 (roM q.2.2).2 "[I" "GroupTables" else .fieldLink (ownS q.1) q.2.1 (roM q.2.2).1 (roM q.2.2).2 "[I"
def mW (q : Nat × Nat × Nat) : Jvm.Cond := .methodLink (ownS q.1) q.2.1 (mNm q.2.2)
theorem fW_ok : ∀ q ∈ FR, fW q ∈ lw_tbl := by decide +kernel
theorem sW_ok : ∀ q ∈ SRl, sW q ∈ lw_tbl := by decide +kernel
def mPos : List Nat := [396, 379, 470, 474, 478, 482, 771, 710, 714, 715, 536, 699, 706, 716, 767, 772, 703, 704, 705, 720, 725, 729, 745, 733, 737, 788, 789, 793, 794, 795, 796, 797, 798, 519, 523, 524, 528, 545, 549, 553, 544, 564, 557, 561, 562, 563, 568, 569, 573, 532, 540, 632, 639, 640, 641, 642, 643, 647, 648, 649, 650, 651, 656, 671, 635, 239, 326, 338, 367, 371, 375, 390, 392, 404, 408, 419, 430, 342, 455, 466, 492, 493, 504, 515, 577, 588, 593, 595, 599, 610, 628, 652, 667, 695, 763, 784, 362, 865, 888, 868, 896, 876, 880, 884, 892, 952, 948, 980, 984, 944, 976, 972, 924, 968, 992, 996, 1016, 1012, 1028, 1024, 1040, 1052, 1056, 1048, 235, 334, 386, 400, 415, 426, 437, 444, 451, 462, 488, 500, 511, 584, 606, 617, 624, 663, 675, 682, 691, 752, 759, 779, 230, 861, 857, 330, 872, 383, 900, 397, 904, 412, 908, 423, 912, 434, 916, 222, 920, 226, 928, 441, 932, 448, 936, 459, 940, 485, 956, 497, 960, 508, 964, 581, 988, 603, 1000, 614, 1004, 621, 1008, 660, 1020, 672, 1032, 679, 1036, 688, 1044, 749, 1060, 756, 1064, 776, 1068]
theorem mW_eq : MR.map mW = mPos.filterMap (fun i => lw_tbl[i]?) := by decide +kernel
theorem of_pos {l : List Jvm.Cond} {ps : List Nat} (h : l = ps.filterMap (fun i => lw_tbl[i]?)) : ∀ w ∈ l, w ∈ lw_tbl := by
  intro w hw
  rw [h] at hw
  obtain ⟨i, -, hi⟩ := List.mem_filterMap.mp hw
  exact List.mem_of_getElem? hi
theorem mW_ok : ∀ q ∈ MR, mW q ∈ lw_tbl := fun q hq => of_pos mW_eq _ (List.mem_map.mpr ⟨q, hq, rfl⟩)
theorem fR_lt : ∀ q ∈ FR, q.2.2.1 < 9 ∧ q.2.2.2 < (vC q.2.2.1).2.2 := by decide +kernel
/-- a method's own word -/
def mCw (y : Nat) : Jvm.Cond := match mHh y with
  | none => .code (mNm y) (mBy y) (mLo y) (mRt y)
  | some hh => .codeWith (mNm y) (mBy y) (mLo y) (mRt y) hh
/-- what is asked of a callee -/
def cW (y : Nat) : List Jvm.Cond := match mRc y with
  | none => [.static (mNm y), .initialized (mNm y).cls]
  | some _ => [.instanceMethod (mNm y), .selects (mNm y).cls (mNm y) (mNm y), .initialized (mNm y).cls]
abbrev mcP (y : Nat) : Prop := mCw y ∈ lw_tbl
theorem mc_0 : ∀ a, a < 0+1 → mcP a := lt_s lt_0 (List.mem_of_getElem? (i := 329) (by decide +kernel))
theorem mc_1 : ∀ a, a < 1+1 → mcP a := lt_s mc_0 (List.mem_of_getElem? (i := 522) (by decide +kernel))
theorem mc_2 : ∀ a, a < 2+1 → mcP a := lt_s mc_1 (List.mem_of_getElem? (i := 365) (by decide +kernel))
theorem mc_3 : ∀ a, a < 3+1 → mcP a := lt_s mc_2 (List.mem_of_getElem? (i := 370) (by decide +kernel))
theorem mc_4 : ∀ a, a < 4+1 → mcP a := lt_s mc_3 (List.mem_of_getElem? (i := 602) (by decide +kernel))
theorem mc_5 : ∀ a, a < 5+1 → mcP a := lt_s mc_4 (List.mem_of_getElem? (i := 473) (by decide +kernel))
theorem mc_6 : ∀ a, a < 6+1 → mcP a := lt_s mc_5 (List.mem_of_getElem? (i := 374) (by decide +kernel))
theorem mc_7 : ∀ a, a < 7+1 → mcP a := lt_s mc_6 (List.mem_of_getElem? (i := 395) (by decide +kernel))
theorem mc_8 : ∀ a, a < 8+1 → mcP a := lt_s mc_7 (List.mem_of_getElem? (i := 382) (by decide +kernel))
theorem mc_9 : ∀ a, a < 9+1 → mcP a := lt_s mc_8 (List.mem_of_getElem? (i := 411) (by decide +kernel))
theorem mc_10 : ∀ a, a < 10+1 → mcP a := lt_s mc_9 (List.mem_of_getElem? (i := 422) (by decide +kernel))
theorem mc_11 : ∀ a, a < 11+1 → mcP a := lt_s mc_10 (List.mem_of_getElem? (i := 433) (by decide +kernel))
theorem mc_12 : ∀ a, a < 12+1 → mcP a := lt_s mc_11 (List.mem_of_getElem? (i := 458) (by decide +kernel))
theorem mc_13 : ∀ a, a < 13+1 → mcP a := lt_s mc_12 (List.mem_of_getElem? (i := 378) (by decide +kernel))
theorem mc_14 : ∀ a, a < 14+1 → mcP a := lt_s mc_13 (List.mem_of_getElem? (i := 469) (by decide +kernel))
theorem mc_15 : ∀ a, a < 15+1 → mcP a := lt_s mc_14 (List.mem_of_getElem? (i := 646) (by decide +kernel))
theorem mc_16 : ∀ a, a < 16+1 → mcP a := lt_s mc_15 (List.mem_of_getElem? (i := 477) (by decide +kernel))
theorem mc_17 : ∀ a, a < 17+1 → mcP a := lt_s mc_16 (List.mem_of_getElem? (i := 496) (by decide +kernel))
theorem mc_18 : ∀ a, a < 18+1 → mcP a := lt_s mc_17 (List.mem_of_getElem? (i := 507) (by decide +kernel))
theorem mc_19 : ∀ a, a < 19+1 → mcP a := lt_s mc_18 (List.mem_of_getElem? (i := 572) (by decide +kernel))
theorem mc_20 : ∀ a, a < 20+1 → mcP a := lt_s mc_19 (List.mem_of_getElem? (i := 576) (by decide +kernel))
theorem mc_21 : ∀ a, a < 21+1 → mcP a := lt_s mc_20 (List.mem_of_getElem? (i := 481) (by decide +kernel))
theorem mc_22 : ∀ a, a < 22+1 → mcP a := lt_s mc_21 (List.mem_of_getElem? (i := 484) (by decide +kernel))
theorem mc_23 : ∀ a, a < 23+1 → mcP a := lt_s mc_22 (List.mem_of_getElem? (i := 770) (by decide +kernel))
theorem mc_24 : ∀ a, a < 24+1 → mcP a := lt_s mc_23 (List.mem_of_getElem? (i := 709) (by decide +kernel))
theorem mc_25 : ∀ a, a < 25+1 → mcP a := lt_s mc_24 (List.mem_of_getElem? (i := 713) (by decide +kernel))
theorem mc_26 : ∀ a, a < 26+1 → mcP a := lt_s mc_25 (List.mem_of_getElem? (i := 736) (by decide +kernel))
theorem mc_27 : ∀ a, a < 27+1 → mcP a := lt_s mc_26 (List.mem_of_getElem? (i := 740) (by decide +kernel))
theorem mc_28 : ∀ a, a < 28+1 → mcP a := lt_s mc_27 (List.mem_of_getElem? (i := 527) (by decide +kernel))
theorem mc_29 : ∀ a, a < 29+1 → mcP a := lt_s mc_28 (List.mem_of_getElem? (i := 659) (by decide +kernel))
theorem mc_30 : ∀ a, a < 30+1 → mcP a := lt_s mc_29 (List.mem_of_getElem? (i := 539) (by decide +kernel))
theorem mc_31 : ∀ a, a < 31+1 → mcP a := lt_s mc_30 (List.mem_of_getElem? (i := 535) (by decide +kernel))
theorem mc_32 : ∀ a, a < 32+1 → mcP a := lt_s mc_31 (List.mem_of_getElem? (i := 698) (by decide +kernel))
theorem mc_33 : ∀ a, a < 33+1 → mcP a := lt_s mc_32 (List.mem_of_getElem? (i := 766) (by decide +kernel))
theorem mc_34 : ∀ a, a < 34+1 → mcP a := lt_s mc_33 (List.mem_of_getElem? (i := 702) (by decide +kernel))
theorem mc_35 : ∀ a, a < 35+1 → mcP a := lt_s mc_34 (List.mem_of_getElem? (i := 719) (by decide +kernel))
theorem mc_36 : ∀ a, a < 36+1 → mcP a := lt_s mc_35 (List.mem_of_getElem? (i := 775) (by decide +kernel))
theorem mc_37 : ∀ a, a < 37+1 → mcP a := lt_s mc_36 (List.mem_of_getElem? (i := 732) (by decide +kernel))
theorem mc_38 : ∀ a, a < 38+1 → mcP a := lt_s mc_37 (List.mem_of_getElem? (i := 748) (by decide +kernel))
theorem mc_39 : ∀ a, a < 39+1 → mcP a := lt_s mc_38 (List.mem_of_getElem? (i := 723) (by decide +kernel))
theorem mc_40 : ∀ a, a < 40+1 → mcP a := lt_s mc_39 (List.mem_of_getElem? (i := 728) (by decide +kernel))
theorem mc_41 : ∀ a, a < 41+1 → mcP a := lt_s mc_40 (List.mem_of_getElem? (i := 787) (by decide +kernel))
theorem mc_42 : ∀ a, a < 42+1 → mcP a := lt_s mc_41 (List.mem_of_getElem? (i := 792) (by decide +kernel))
theorem mc_43 : ∀ a, a < 43+1 → mcP a := lt_s mc_42 (List.mem_of_getElem? (i := 518) (by decide +kernel))
theorem mc_44 : ∀ a, a < 44+1 → mcP a := lt_s mc_43 (List.mem_of_getElem? (i := 598) (by decide +kernel))
theorem mc_45 : ∀ a, a < 45+1 → mcP a := lt_s mc_44 (List.mem_of_getElem? (i := 580) (by decide +kernel))
theorem mc_46 : ∀ a, a < 46+1 → mcP a := lt_s mc_45 (List.mem_of_getElem? (i := 613) (by decide +kernel))
theorem mc_47 : ∀ a, a < 47+1 → mcP a := lt_s mc_46 (List.mem_of_getElem? (i := 560) (by decide +kernel))
theorem mc_48 : ∀ a, a < 48+1 → mcP a := lt_s mc_47 (List.mem_of_getElem? (i := 552) (by decide +kernel))
theorem mc_49 : ∀ a, a < 49+1 → mcP a := lt_s mc_48 (List.mem_of_getElem? (i := 556) (by decide +kernel))
theorem mc_50 : ∀ a, a < 50+1 → mcP a := lt_s mc_49 (List.mem_of_getElem? (i := 567) (by decide +kernel))
theorem mc_51 : ∀ a, a < 51+1 → mcP a := lt_s mc_50 (List.mem_of_getElem? (i := 531) (by decide +kernel))
theorem mc_52 : ∀ a, a < 52+1 → mcP a := lt_s mc_51 (List.mem_of_getElem? (i := 543) (by decide +kernel))
theorem mc_53 : ∀ a, a < 53+1 → mcP a := lt_s mc_52 (List.mem_of_getElem? (i := 548) (by decide +kernel))
theorem mc_54 : ∀ a, a < 54+1 → mcP a := lt_s mc_53 (List.mem_of_getElem? (i := 631) (by decide +kernel))
theorem mc_55 : ∀ a, a < 55+1 → mcP a := lt_s mc_54 (List.mem_of_getElem? (i := 655) (by decide +kernel))
theorem mc_56 : ∀ a, a < 56+1 → mcP a := lt_s mc_55 (List.mem_of_getElem? (i := 670) (by decide +kernel))
theorem mc_57 : ∀ a, a < 57+1 → mcP a := lt_s mc_56 (List.mem_of_getElem? (i := 634) (by decide +kernel))
theorem mc_58 : ∀ a, a < 58+1 → mcP a := lt_s mc_57 (List.mem_of_getElem? (i := 238) (by decide +kernel))
theorem mc_59 : ∀ a, a < 59+1 → mcP a := lt_s mc_58 (List.mem_of_getElem? (i := 337) (by decide +kernel))
theorem mc_60 : ∀ a, a < 60+1 → mcP a := lt_s mc_59 (List.mem_of_getElem? (i := 389) (by decide +kernel))
theorem mc_61 : ∀ a, a < 61+1 → mcP a := lt_s mc_60 (List.mem_of_getElem? (i := 403) (by decide +kernel))
theorem mc_62 : ∀ a, a < 62+1 → mcP a := lt_s mc_61 (List.mem_of_getElem? (i := 418) (by decide +kernel))
theorem mc_63 : ∀ a, a < 63+1 → mcP a := lt_s mc_62 (List.mem_of_getElem? (i := 429) (by decide +kernel))
theorem mc_64 : ∀ a, a < 64+1 → mcP a := lt_s mc_63 (List.mem_of_getElem? (i := 440) (by decide +kernel))
theorem mc_65 : ∀ a, a < 65+1 → mcP a := lt_s mc_64 (List.mem_of_getElem? (i := 225) (by decide +kernel))
theorem mc_66 : ∀ a, a < 66+1 → mcP a := lt_s mc_65 (List.mem_of_getElem? (i := 229) (by decide +kernel))
theorem mc_67 : ∀ a, a < 67+1 → mcP a := lt_s mc_66 (List.mem_of_getElem? (i := 447) (by decide +kernel))
theorem mc_68 : ∀ a, a < 68+1 → mcP a := lt_s mc_67 (List.mem_of_getElem? (i := 454) (by decide +kernel))
theorem mc_69 : ∀ a, a < 69+1 → mcP a := lt_s mc_68 (List.mem_of_getElem? (i := 465) (by decide +kernel))
theorem mc_70 : ∀ a, a < 70+1 → mcP a := lt_s mc_69 (List.mem_of_getElem? (i := 491) (by decide +kernel))
theorem mc_71 : ∀ a, a < 71+1 → mcP a := lt_s mc_70 (List.mem_of_getElem? (i := 503) (by decide +kernel))
theorem mc_72 : ∀ a, a < 72+1 → mcP a := lt_s mc_71 (List.mem_of_getElem? (i := 514) (by decide +kernel))
theorem mc_73 : ∀ a, a < 73+1 → mcP a := lt_s mc_72 (List.mem_of_getElem? (i := 587) (by decide +kernel))
theorem mc_74 : ∀ a, a < 74+1 → mcP a := lt_s mc_73 (List.mem_of_getElem? (i := 609) (by decide +kernel))
theorem mc_75 : ∀ a, a < 75+1 → mcP a := lt_s mc_74 (List.mem_of_getElem? (i := 620) (by decide +kernel))
theorem mc_76 : ∀ a, a < 76+1 → mcP a := lt_s mc_75 (List.mem_of_getElem? (i := 627) (by decide +kernel))
theorem mc_77 : ∀ a, a < 77+1 → mcP a := lt_s mc_76 (List.mem_of_getElem? (i := 666) (by decide +kernel))
theorem mc_78 : ∀ a, a < 78+1 → mcP a := lt_s mc_77 (List.mem_of_getElem? (i := 678) (by decide +kernel))
theorem mc_79 : ∀ a, a < 79+1 → mcP a := lt_s mc_78 (List.mem_of_getElem? (i := 685) (by decide +kernel))
theorem mc_80 : ∀ a, a < 80+1 → mcP a := lt_s mc_79 (List.mem_of_getElem? (i := 694) (by decide +kernel))
theorem mc_81 : ∀ a, a < 81+1 → mcP a := lt_s mc_80 (List.mem_of_getElem? (i := 755) (by decide +kernel))
theorem mc_82 : ∀ a, a < 82+1 → mcP a := lt_s mc_81 (List.mem_of_getElem? (i := 762) (by decide +kernel))
theorem mc_83 : ∀ a, a < 83+1 → mcP a := lt_s mc_82 (List.mem_of_getElem? (i := 782) (by decide +kernel))
theorem mc_84 : ∀ a, a < 84+1 → mcP a := lt_s mc_83 (List.mem_of_getElem? (i := 241) (by decide +kernel))
theorem mc_85 : ∀ a, a < 85+1 → mcP a := lt_s mc_84 (List.mem_of_getElem? (i := 591) (by decide +kernel))
theorem mc_86 : ∀ a, a < 86+1 → mcP a := lt_s mc_85 (List.mem_of_getElem? (i := 345) (by decide +kernel))
theorem mc_87 : ∀ a, a < 87+1 → mcP a := lt_s mc_86 (List.mem_of_getElem? (i := 407) (by decide +kernel))
theorem mc_88 : ∀ a, a < 88+1 → mcP a := lt_s mc_87 (List.mem_of_getElem? (i := 341) (by decide +kernel))
theorem mc_89 : ∀ a, a < 89+1 → mcP a := lt_s mc_88 (List.mem_of_getElem? (i := 860) (by decide +kernel))
theorem mc_90 : ∀ a, a < 90+1 → mcP a := lt_s mc_89 (List.mem_of_getElem? (i := 867) (by decide +kernel))
theorem mc_91 : ∀ a, a < 91+1 → mcP a := lt_s mc_90 (List.mem_of_getElem? (i := 871) (by decide +kernel))
theorem mc_92 : ∀ a, a < 92+1 → mcP a := lt_s mc_91 (List.mem_of_getElem? (i := 927) (by decide +kernel))
theorem mc_93 : ∀ a, a < 93+1 → mcP a := lt_s mc_92 (List.mem_of_getElem? (i := 879) (by decide +kernel))
theorem mc_94 : ∀ a, a < 94+1 → mcP a := lt_s mc_93 (List.mem_of_getElem? (i := 995) (by decide +kernel))
theorem mc_95 : ∀ a, a < 95+1 → mcP a := lt_s mc_94 (List.mem_of_getElem? (i := 883) (by decide +kernel))
theorem mc_96 : ∀ a, a < 96+1 → mcP a := lt_s mc_95 (List.mem_of_getElem? (i := 891) (by decide +kernel))
theorem mc_97 : ∀ a, a < 97+1 → mcP a := lt_s mc_96 (List.mem_of_getElem? (i := 899) (by decide +kernel))
theorem mc_98 : ∀ a, a < 98+1 → mcP a := lt_s mc_97 (List.mem_of_getElem? (i := 864) (by decide +kernel))
theorem mc_99 : ∀ a, a < 99+1 → mcP a := lt_s mc_98 (List.mem_of_getElem? (i := 895) (by decide +kernel))
theorem mc_100 : ∀ a, a < 100+1 → mcP a := lt_s mc_99 (List.mem_of_getElem? (i := 887) (by decide +kernel))
theorem mc_101 : ∀ a, a < 101+1 → mcP a := lt_s mc_100 (List.mem_of_getElem? (i := 875) (by decide +kernel))
theorem mc_102 : ∀ a, a < 102+1 → mcP a := lt_s mc_101 (List.mem_of_getElem? (i := 903) (by decide +kernel))
theorem mc_103 : ∀ a, a < 103+1 → mcP a := lt_s mc_102 (List.mem_of_getElem? (i := 907) (by decide +kernel))
theorem mc_104 : ∀ a, a < 104+1 → mcP a := lt_s mc_103 (List.mem_of_getElem? (i := 911) (by decide +kernel))
theorem mc_105 : ∀ a, a < 105+1 → mcP a := lt_s mc_104 (List.mem_of_getElem? (i := 915) (by decide +kernel))
theorem mc_106 : ∀ a, a < 106+1 → mcP a := lt_s mc_105 (List.mem_of_getElem? (i := 919) (by decide +kernel))
theorem mc_107 : ∀ a, a < 107+1 → mcP a := lt_s mc_106 (List.mem_of_getElem? (i := 955) (by decide +kernel))
theorem mc_108 : ∀ a, a < 108+1 → mcP a := lt_s mc_107 (List.mem_of_getElem? (i := 951) (by decide +kernel))
theorem mc_109 : ∀ a, a < 109+1 → mcP a := lt_s mc_108 (List.mem_of_getElem? (i := 947) (by decide +kernel))
theorem mc_110 : ∀ a, a < 110+1 → mcP a := lt_s mc_109 (List.mem_of_getElem? (i := 987) (by decide +kernel))
theorem mc_111 : ∀ a, a < 111+1 → mcP a := lt_s mc_110 (List.mem_of_getElem? (i := 983) (by decide +kernel))
theorem mc_112 : ∀ a, a < 112+1 → mcP a := lt_s mc_111 (List.mem_of_getElem? (i := 979) (by decide +kernel))
theorem mc_113 : ∀ a, a < 113+1 → mcP a := lt_s mc_112 (List.mem_of_getElem? (i := 975) (by decide +kernel))
theorem mc_114 : ∀ a, a < 114+1 → mcP a := lt_s mc_113 (List.mem_of_getElem? (i := 971) (by decide +kernel))
theorem mc_115 : ∀ a, a < 115+1 → mcP a := lt_s mc_114 (List.mem_of_getElem? (i := 999) (by decide +kernel))
theorem mc_116 : ∀ a, a < 116+1 → mcP a := lt_s mc_115 (List.mem_of_getElem? (i := 923) (by decide +kernel))
theorem mc_117 : ∀ a, a < 117+1 → mcP a := lt_s mc_116 (List.mem_of_getElem? (i := 931) (by decide +kernel))
theorem mc_118 : ∀ a, a < 118+1 → mcP a := lt_s mc_117 (List.mem_of_getElem? (i := 935) (by decide +kernel))
theorem mc_119 : ∀ a, a < 119+1 → mcP a := lt_s mc_118 (List.mem_of_getElem? (i := 939) (by decide +kernel))
theorem mc_120 : ∀ a, a < 120+1 → mcP a := lt_s mc_119 (List.mem_of_getElem? (i := 943) (by decide +kernel))
theorem mc_121 : ∀ a, a < 121+1 → mcP a := lt_s mc_120 (List.mem_of_getElem? (i := 959) (by decide +kernel))
theorem mc_122 : ∀ a, a < 122+1 → mcP a := lt_s mc_121 (List.mem_of_getElem? (i := 963) (by decide +kernel))
theorem mc_123 : ∀ a, a < 123+1 → mcP a := lt_s mc_122 (List.mem_of_getElem? (i := 967) (by decide +kernel))
theorem mc_124 : ∀ a, a < 124+1 → mcP a := lt_s mc_123 (List.mem_of_getElem? (i := 991) (by decide +kernel))
theorem mc_125 : ∀ a, a < 125+1 → mcP a := lt_s mc_124 (List.mem_of_getElem? (i := 1003) (by decide +kernel))
theorem mc_126 : ∀ a, a < 126+1 → mcP a := lt_s mc_125 (List.mem_of_getElem? (i := 1007) (by decide +kernel))
theorem mc_127 : ∀ a, a < 127+1 → mcP a := lt_s mc_126 (List.mem_of_getElem? (i := 1019) (by decide +kernel))
theorem mc_128 : ∀ a, a < 128+1 → mcP a := lt_s mc_127 (List.mem_of_getElem? (i := 1015) (by decide +kernel))
theorem mc_129 : ∀ a, a < 129+1 → mcP a := lt_s mc_128 (List.mem_of_getElem? (i := 1031) (by decide +kernel))
theorem mc_130 : ∀ a, a < 130+1 → mcP a := lt_s mc_129 (List.mem_of_getElem? (i := 1027) (by decide +kernel))
theorem mc_131 : ∀ a, a < 131+1 → mcP a := lt_s mc_130 (List.mem_of_getElem? (i := 1011) (by decide +kernel))
theorem mc_132 : ∀ a, a < 132+1 → mcP a := lt_s mc_131 (List.mem_of_getElem? (i := 1023) (by decide +kernel))
theorem mc_133 : ∀ a, a < 133+1 → mcP a := lt_s mc_132 (List.mem_of_getElem? (i := 1035) (by decide +kernel))
theorem mc_134 : ∀ a, a < 134+1 → mcP a := lt_s mc_133 (List.mem_of_getElem? (i := 1043) (by decide +kernel))
theorem mc_135 : ∀ a, a < 135+1 → mcP a := lt_s mc_134 (List.mem_of_getElem? (i := 1055) (by decide +kernel))
theorem mc_136 : ∀ a, a < 136+1 → mcP a := lt_s mc_135 (List.mem_of_getElem? (i := 1059) (by decide +kernel))
theorem mc_137 : ∀ a, a < 137+1 → mcP a := lt_s mc_136 (List.mem_of_getElem? (i := 1039) (by decide +kernel))
theorem mc_138 : ∀ a, a < 138+1 → mcP a := lt_s mc_137 (List.mem_of_getElem? (i := 1051) (by decide +kernel))
theorem mc_139 : ∀ a, a < 139+1 → mcP a := lt_s mc_138 (List.mem_of_getElem? (i := 1047) (by decide +kernel))
theorem mc_140 : ∀ a, a < 140+1 → mcP a := lt_s mc_139 (List.mem_of_getElem? (i := 1063) (by decide +kernel))
theorem mc_141 : ∀ a, a < 141+1 → mcP a := lt_s mc_140 (List.mem_of_getElem? (i := 1067) (by decide +kernel))
theorem mc_142 : ∀ a, a < 142+1 → mcP a := lt_s mc_141 (List.mem_of_getElem? (i := 1071) (by decide +kernel))
theorem mc_143 : ∀ a, a < 143+1 → mcP a := lt_s mc_142 (List.mem_of_getElem? (i := 232) (by decide +kernel))
theorem mc_144 : ∀ a, a < 144+1 → mcP a := lt_s mc_143 (List.mem_of_getElem? (i := 332) (by decide +kernel))
theorem mc_145 : ∀ a, a < 145+1 → mcP a := lt_s mc_144 (List.mem_of_getElem? (i := 385) (by decide +kernel))
theorem mc_146 : ∀ a, a < 146+1 → mcP a := lt_s mc_145 (List.mem_of_getElem? (i := 399) (by decide +kernel))
theorem mc_147 : ∀ a, a < 147+1 → mcP a := lt_s mc_146 (List.mem_of_getElem? (i := 414) (by decide +kernel))
theorem mc_148 : ∀ a, a < 148+1 → mcP a := lt_s mc_147 (List.mem_of_getElem? (i := 425) (by decide +kernel))
theorem mc_149 : ∀ a, a < 149+1 → mcP a := lt_s mc_148 (List.mem_of_getElem? (i := 436) (by decide +kernel))
theorem mc_150 : ∀ a, a < 150+1 → mcP a := lt_s mc_149 (List.mem_of_getElem? (i := 443) (by decide +kernel))
theorem mc_151 : ∀ a, a < 151+1 → mcP a := lt_s mc_150 (List.mem_of_getElem? (i := 450) (by decide +kernel))
theorem mc_152 : ∀ a, a < 152+1 → mcP a := lt_s mc_151 (List.mem_of_getElem? (i := 461) (by decide +kernel))
theorem mc_153 : ∀ a, a < 153+1 → mcP a := lt_s mc_152 (List.mem_of_getElem? (i := 487) (by decide +kernel))
theorem mc_154 : ∀ a, a < 154+1 → mcP a := lt_s mc_153 (List.mem_of_getElem? (i := 499) (by decide +kernel))
theorem mc_155 : ∀ a, a < 155+1 → mcP a := lt_s mc_154 (List.mem_of_getElem? (i := 510) (by decide +kernel))
theorem mc_156 : ∀ a, a < 156+1 → mcP a := lt_s mc_155 (List.mem_of_getElem? (i := 583) (by decide +kernel))
theorem mc_157 : ∀ a, a < 157+1 → mcP a := lt_s mc_156 (List.mem_of_getElem? (i := 605) (by decide +kernel))
theorem mc_158 : ∀ a, a < 158+1 → mcP a := lt_s mc_157 (List.mem_of_getElem? (i := 616) (by decide +kernel))
theorem mc_159 : ∀ a, a < 159+1 → mcP a := lt_s mc_158 (List.mem_of_getElem? (i := 623) (by decide +kernel))
theorem mc_160 : ∀ a, a < 160+1 → mcP a := lt_s mc_159 (List.mem_of_getElem? (i := 662) (by decide +kernel))
theorem mc_161 : ∀ a, a < 161+1 → mcP a := lt_s mc_160 (List.mem_of_getElem? (i := 674) (by decide +kernel))
theorem mc_162 : ∀ a, a < 162+1 → mcP a := lt_s mc_161 (List.mem_of_getElem? (i := 681) (by decide +kernel))
theorem mc_163 : ∀ a, a < 163+1 → mcP a := lt_s mc_162 (List.mem_of_getElem? (i := 690) (by decide +kernel))
theorem mc_164 : ∀ a, a < 164+1 → mcP a := lt_s mc_163 (List.mem_of_getElem? (i := 751) (by decide +kernel))
theorem mc_165 : ∀ a, a < 165+1 → mcP a := lt_s mc_164 (List.mem_of_getElem? (i := 758) (by decide +kernel))
theorem mc_166 : ∀ a, a < 166+1 → mcP a := lt_s mc_165 (List.mem_of_getElem? (i := 778) (by decide +kernel))
theorem mCw_ok : ∀ y, y < 167 → mCw y ∈ lw_tbl := mc_166
def kPos : List Nat := [327, 328, 55, 520, 521, 55, 363, 364, 55, 368, 369, 55, 600, 601, 55, 471, 472, 55, 372, 373, 55, 393, 394, 55, 380, 381, 55, 409, 410, 55, 420, 421, 55, 431, 432, 55, 456, 457, 55, 376, 377, 55, 467, 468, 55, 644, 645, 55, 475, 476, 55, 494, 495, 55, 505, 506, 55, 570, 571, 55, 574, 575, 55, 480, 4, 55, 483, 55, 768, 769, 53, 707, 708, 53, 712, 13, 53, 734, 735, 53, 738, 739, 53, 525, 526, 50, 657, 658, 50, 537, 538, 50, 533, 534, 50, 696, 697, 52, 764, 765, 52, 701, 12, 52, 718, 14, 52, 774, 19, 52, 731, 17, 52, 747, 18, 52, 722, 15, 52, 727, 16, 52, 785, 786, 54, 791, 20, 54, 516, 517, 49, 596, 597, 49, 578, 579, 49, 611, 612, 49, 558, 559, 49, 551, 8, 49, 555, 9, 49, 566, 10, 49, 530, 5, 49, 542, 6, 49, 547, 7, 49, 629, 630, 51, 653, 654, 51, 668, 669, 51, 633, 51, 236, 237, 48, 335, 336, 48, 387, 388, 48, 401, 402, 48, 416, 417, 48, 427, 428, 48, 438, 439, 48, 223, 224, 48, 227, 228, 48, 445, 446, 48, 452, 453, 48, 463, 464, 48, 489, 490, 48, 501, 502, 48, 512, 513, 48, 585, 586, 48, 607, 608, 48, 618, 619, 48, 625, 626, 48, 664, 665, 48, 676, 677, 48, 683, 684, 48, 692, 693, 48, 753, 754, 48, 760, 761, 48, 780, 781, 48, 240, 48, 590, 11, 48, 344, 2, 48, 406, 3, 48, 340, 1, 48, 858, 859, 56, 866, 56, 870, 21, 56, 926, 28, 56, 878, 22, 56, 994, 37, 56, 882, 23, 56, 890, 25, 56, 898, 27, 56, 862, 863, 56, 894, 26, 56, 886, 24, 56, 873, 874, 56, 901, 902, 56, 905, 906, 56, 909, 910, 56, 913, 914, 56, 917, 918, 56, 954, 31, 56, 950, 30, 56, 946, 29, 56, 986, 36, 56, 982, 35, 56, 978, 34, 56, 974, 33, 56, 970, 32, 56, 998, 38, 56, 921, 922, 56, 929, 930, 56, 933, 934, 56, 937, 938, 56, 941, 942, 56, 957, 958, 56, 961, 962, 56, 965, 966, 56, 989, 990, 56, 1001, 1002, 56, 1005, 1006, 56, 1018, 40, 56, 1014, 39, 56, 1030, 42, 56, 1026, 41, 56, 1009, 1010, 56, 1021, 1022, 56, 1033, 1034, 56, 1042, 43, 56, 1054, 45, 56, 1058, 46, 56, 1037, 1038, 56, 1050, 44, 56, 1045, 1046, 56, 1061, 1062, 56, 1065, 1066, 56, 1069, 1070, 56, 231, 47, 331, 47, 384, 47, 398, 47, 413, 47, 424, 47, 435, 47, 442, 47, 449, 47, 460, 47, 486, 47, 498, 47, 509, 47, 582, 47, 604, 47, 615, 47, 622, 47, 661, 47, 673, 47, 680, 47, 689, 47, 750, 47, 757, 47, 777, 47]
theorem cW_eq : (List.range 167).flatMap cW = kPos.filterMap (fun i => lw_tbl[i]?) := by decide +kernel
theorem cW_ok : ∀ y, y < 167 → ∀ w ∈ cW y, w ∈ lw_tbl := fun y hy w hw => of_pos cW_eq _ (List.mem_flatMap.mpr ⟨y, List.mem_range.mpr hy, hw⟩)
end
section
/-! THE ABSTRACT MACHINE: what the methods do to numbers alone, once all objects are made.
A reference is (kind, a, b); X k a b j is the int in place j of it; .2 is the one long of the law's own array. -/
abbrev AV : Type := Int32 ⊕ (Int64 ⊕ (Nat × Int32 × Int32))
abbrev XF : Type := Nat → Int32 → Int32 → Int32 → Int32
abbrev XT : Type := XF × Int64
abbrev SC : Type := Nat × (Nat → Int32)
/-- an instruction, its length, a place (of a local, of a field), a kind's number, a number -/
abbrev OP : Type := Instr × Nat × Nat × Nat × Int32
/-- a stretch: its first byte, its straight instructions, its last one: that, its length, two numbers -/
abbrev SG : Type := Nat × List OP × Instr × Nat × Nat × Nat
abbrev OUT : Type := Option AV ⊕ Nat
/-- a kind's form: an object (its number in vwCl, its fields: a reference's kind or an int), ints, longs, references (which array, how many, of which kind) -/
abbrev SH : Type := (Nat × List (Option Nat)) ⊕ (Nat ⊕ (Nat ⊕ (Nat × Nat × Nat)))
def kTab : List (Option (Nat × Nat × SH)) := [some (1, 1, .inl (7, [some 1, some 8, some 15, some 19, some 25, none, none, none, none])),
  some (1, 1, .inr (.inr (.inr (2, 6, 2)))),
  some (1, 6, .inl (0, [some 3, some 5, some 6, some 7, none, none])),
  some (1, 6, .inr (.inr (.inr (1, 5, 4)))),
  some (6, 5, .inr (.inl 5)),
  some (1, 6, .inr (.inl 5)),
  some (1, 6, .inr (.inl 5)),
  some (1, 6, .inr (.inl 5)),
  some (1, 1, .inl (5, [some 9, some 12, some 13])),
  some (1, 1, .inl (2, [some 10])),
  some (1, 1, .inr (.inr (.inr (1, 5, 11)))),
  some (1, 5, .inr (.inl 4)),
  some (1, 1, .inr (.inl 5)),
  some (1, 1, .inr (.inr (.inr (1, 5, 14)))),
  some (1, 5, .inr (.inl 5)),
  some (1, 1, .inl (6, [some 16])),
  some (1, 1, .inl (2, [some 17])),
  some (1, 1, .inr (.inr (.inr (1, 6, 18)))),
  some (1, 6, .inr (.inl 5)),
  some (1, 1, .inl (3, [some 20, some 23, some 24, none, none, none, none])),
  some (1, 1, .inl (1, [some 21, some 22])),
  some (1, 1, .inr (.inl 10)),
  some (1, 1, .inr (.inl 10)),
  some (1, 1, .inr (.inl 5)),
  some (1, 1, .inr (.inl 5)),
  some (1, 1, .inl (4, [some 26])),
  some (1, 1, .inl (1, [some 27, some 28])),
  some (1, 1, .inr (.inl 10)),
  some (1, 1, .inr (.inl 10)),
  none,
  some (1, 1, .inl (8, [none, none, none, none, some 31, some 32, some 33, some 34, some 35, some 36, some 37, some 38, some 39, some 40, some 41, some 42, none])),
  some (1, 1, .inr (.inl 6)),
  some (1, 1, .inr (.inl 6)),
  some (1, 1, .inr (.inl 30)),
  some (1, 1, .inr (.inl 30)),
  some (1, 1, .inr (.inl 30)),
  some (1, 1, .inr (.inl 30)),
  some (1, 1, .inr (.inl 150)),
  some (1, 1, .inr (.inl 5)),
  some (1, 1, .inr (.inl 5)),
  some (1, 1, .inr (.inl 25)),
  some (1, 1, .inr (.inl 15)),
  some (1, 1, .inr (.inl 5)),
  some (1, 1, .inr (.inr (.inl 1)))]
def kSh (k : Nat) : Option SH := (kTab.getD k none).map (fun q => q.2.2)
def wayL : List Int32 := [1, 3, 9, 27, 81, 243, 729, 2187, 6561, 19683, 59049]
def roN (sc : SC) (k : Nat) : Nat := match k with
  | 50 => 11
  | 51 => 3
  | 52 => 3
  | 53 => sc.1
  | _ => 0
def roV (sc : SC) (k : Nat) (j : Nat) : Int32 := match k with
  | 50 => wayL.getD j 0
  | 51 => ([3, 1, 0] : List Int32).getD j 0
  | 52 => ([0, 1, 3] : List Int32).getD j 0
  | 53 => sc.2 j
  | _ => 0
/-- one int put -/
def xs (X : XF) (k : Nat) (a b j x : Int32) : XF := fun k' a' b' j' => if k' = k ∧ a' = a ∧ b' = b ∧ j' = j then x else X k' a' b' j'
abbrev RS : Type := List AV × List AV × XT × Prop
def rs0 : RS := ([], [], (fun _ _ _ _ => 0, 0), False)
def ldI (L : List AV) (i : Nat) (S : List AV) (X : XT) : RS := match L[i]? with
  | some (.inl x) => (L, .inl x :: S, X, True)
  | _ => rs0
def ldA (L : List AV) (i : Nat) (S : List AV) (X : XT) : RS := match L[i]? with
  | some (.inr (.inr r)) => (L, .inr (.inr r) :: S, X, True)
  | _ => rs0
def stI (L : List AV) (i : Nat) (x : Int32) (S : List AV) (X : XT) : RS := (L.set i (.inl x), S, X, i < L.length)
def stA (L : List AV) (i : Nat) (r : Nat × Int32 × Int32) (S : List AV) (X : XT) : RS := (L.set i (.inr (.inr r)), S, X, i < L.length)
def inc (L : List AV) (i : Nat) (v : Int32) (S : List AV) (X : XT) : RS := match L[i]? with
  | some (.inl x) => (L.set i (.inl (x + v)), S, X, True)
  | _ => rs0
def gtF (L : List AV) (k : Nat) (a b : Int32) (i c : Nat) (v : Int32) (S : List AV) (X : XT) : RS := match kSh k with
  | some (.inl (ci, fs)) => match fs[i]? with
    | some (some k') => (L, .inr (.inr (k', a, b)) :: S, X, ci = c)
    | some none => (L, .inl (X.1 k a b v) :: S, X, ci = c)
    | none => rs0
  | _ => rs0
def ptF (L : List AV) (x : Int32) (k : Nat) (a b : Int32) (i c : Nat) (v : Int32) (S : List AV) (X : XT) : RS := match kSh k with
  | some (.inl (ci, fs)) => match fs[i]? with
    | some none => (L, S, (xs X.1 k a b v x, X.2), ci = c)
    | _ => rs0
  | _ => rs0
def ldX (sc : SC) (L : List AV) (j : Int32) (k : Nat) (a b : Int32) (S : List AV) (X : XT) : RS := match kSh k with
  | some (.inr (.inl n)) => (L, .inl (X.1 k a b j) :: S, X, vp_in j n)
  | some _ => rs0
  | none => (L, .inl (roV sc k j.toNatClampNeg) :: S, X, 50 ≤ k ∧ vp_in j (roN sc k))
def stX (L : List AV) (x j : Int32) (k : Nat) (a b : Int32) (S : List AV) (X : XT) : RS := match kSh k with
  | some (.inr (.inl n)) => (L, S, (xs X.1 k a b j x, X.2), vp_in j n)
  | _ => rs0
def ldR (L : List AV) (j : Int32) (k : Nat) (b : Int32) (S : List AV) (X : XT) : RS := match kSh k with
  | some (.inr (.inr (.inr (_, n, e)))) => (L, .inr (.inr (e, b, j)) :: S, X, vp_in j n)
  | _ => rs0
def ldL (L : List AV) (j : Int32) (k : Nat) (S : List AV) (X : XT) : RS := match kSh k with
  | some (.inr (.inr (.inl n))) => (L, .inr (.inl X.2) :: S, X, vp_in j n ∧ n = 1)
  | _ => rs0
def stL (L : List AV) (x : Int64) (j : Int32) (k : Nat) (S : List AV) (X : XT) : RS := match kSh k with
  | some (.inr (.inr (.inl n))) => (L, S, (X.1, x), vp_in j n ∧ n = 1)
  | _ => rs0
def dp1 (L : List AV) (x : AV) (S : List AV) (X : XT) : RS := match x with
  | .inr (.inl _) => rs0
  | x => (L, x :: x :: S, X, True)
def dp2 (L : List AV) (x y : AV) (S : List AV) (X : XT) : RS := match x, y with
  | .inl x, .inl y => (L, .inl x :: .inl y :: .inl x :: .inl y :: S, X, True)
  | .inl x, .inr (.inr r) => (L, .inl x :: .inr (.inr r) :: .inl x :: .inr (.inr r) :: S, X, True)
  | _, _ => rs0
def avc (v : AV) : Nat := match v with
  | .inr (.inl _) => 2
  | _ => 1
abbrev av0 : AV := .inr (.inl 0)
/-- one straight instruction: locals, stack, numbers behind it, and what it asks -/
def sx (sc : SC) (op : OP) (L S : List AV) (X : XT) : RS := match op.1 with
  | .iconst _ => (L, .inl op.2.2.2.2 :: S, X, True)
  | .bipush _ => (L, .inl op.2.2.2.2 :: S, X, True)
  | .sipush _ => (L, .inl op.2.2.2.2 :: S, X, True)
  | .lconst _ => (L, .inr (.inl (op.2.2.2.2.toInt64)) :: S, X, True)
  | .iload_n _ => ldI L op.2.2.1 S X
  | .iload _ => ldI L op.2.2.1 S X
  | .aload_n _ => ldA L op.2.2.1 S X
  | .aload _ => ldA L op.2.2.1 S X
  | .istore_n _ => match S with
    | .inl x :: S => stI L op.2.2.1 x S X
    | _ => rs0
  | .istore _ => match S with
    | .inl x :: S => stI L op.2.2.1 x S X
    | _ => rs0
  | .astore_n _ => match S with
    | .inr (.inr r) :: S => stA L op.2.2.1 r S X
    | _ => rs0
  | .astore _ => match S with
    | .inr (.inr r) :: S => stA L op.2.2.1 r S X
    | _ => rs0
  | .iinc _ _ => inc L op.2.2.1 op.2.2.2.2 S X
  | .getfield _ => match S with
    | .inr (.inr (k, a, b)) :: S => gtF L k a b op.2.2.1 op.2.2.2.1 op.2.2.2.2 S X
    | _ => rs0
  | .putfield _ => match S with
    | .inl x :: .inr (.inr (k, a, b)) :: S => ptF L x k a b op.2.2.1 op.2.2.2.1 op.2.2.2.2 S X
    | _ => rs0
  | .getstatic _ => (L, .inr (.inr (op.2.2.1, 0, 0)) :: S, X, True)
  | .iaload => match S with
    | .inl j :: .inr (.inr (k, a, b)) :: S => ldX sc L j k a b S X
    | _ => rs0
  | .iastore => match S with
    | .inl x :: .inl j :: .inr (.inr (k, a, b)) :: S => stX L x j k a b S X
    | _ => rs0
  | .aaload => match S with
    | .inl j :: .inr (.inr (k, _, b)) :: S => ldR L j k b S X
    | _ => rs0
  | .laload => match S with
    | .inl j :: .inr (.inr (k, _, _)) :: S => ldL L j k S X
    | _ => rs0
  | .lastore => match S with
    | .inr (.inl x) :: .inl j :: .inr (.inr (k, _, _)) :: S => stL L x j k S X
    | _ => rs0
  | .arraylength => match S with
    | .inr (.inr (k, _, _)) :: S => (L, .inl (nI (roN sc k)) :: S, X, k = 53)
    | _ => rs0
  | .dup => match S with
    | x :: S => dp1 L x S X
    | _ => rs0
  | .dup2 => match S with
    | x :: y :: S => dp2 L x y S X
    | _ => rs0
  | .i2l => match S with
    | .inl x :: S => (L, .inr (.inl x.toInt64) :: S, X, True)
    | _ => rs0
  | .lcmp => match S with
    | .inr (.inl y) :: .inr (.inl x) :: S => (L, .inl (lg_cmp x y) :: S, X, True)
    | _ => rs0
  | .ineg => match S with
    | .inl x :: S => (L, .inl (-x) :: S, X, True)
    | _ => rs0
  | .iadd => match S with
    | .inl y :: .inl x :: S => (L, .inl (x + y) :: S, X, True)
    | _ => rs0
  | .isub => match S with
    | .inl y :: .inl x :: S => (L, .inl (x - y) :: S, X, True)
    | _ => rs0
  | .imul => match S with
    | .inl y :: .inl x :: S => (L, .inl (x * y) :: S, X, True)
    | _ => rs0
  | .idiv => match S with
    | .inl y :: .inl x :: S => (L, .inl (x / y) :: S, X, ¬ y = 0)
    | _ => rs0
  | .irem => match S with
    | .inl y :: .inl x :: S => (L, .inl (x - x / y * y) :: S, X, ¬ y = 0)
    | _ => rs0
  | .iand => match S with
    | .inl y :: .inl x :: S => (L, .inl (x &&& y) :: S, X, True)
    | _ => rs0
  | .ior => match S with
    | .inl y :: .inl x :: S => (L, .inl (x ||| y) :: S, X, True)
    | _ => rs0
  | .ishl => match S with
    | .inl y :: .inl x :: S => (L, .inl (x <<< (y &&& 31)) :: S, X, True)
    | _ => rs0
  | .ishr => match S with
    | .inl y :: .inl x :: S => (L, .inl (x >>> (y &&& 31)) :: S, X, True)
    | _ => rs0
  | .invokestatic _ => match S with
    | .inl y :: .inl x :: S => (L, .inl (if y < x then y else x) :: S, X, (S.map avc).sum ≤ 40)
    | _ => rs0
  | _ => rs0
def sxs (sc : SC) : List OP → List AV → List AV → XT → RS
  | [], L, S, X => (L, S, X, True)
  | op :: ops, L, S, X => match sx sc op L S X with
    | (L', S', X', P) => match sxs sc ops L' S' X' with
      | (L2, S2, X2, P2) => (L2, S2, X2, P ∧ P2)
def cz (c : ClassFile.Cond) (x : Int32) : Prop := match c with
  | .eq => x = 0
  | .ne => ¬ x = 0
  | .lt => x < 0
  | .ge => 0 ≤ x
  | .gt => 0 < x
  | .le => x ≤ 0
def ci2 (c : ClassFile.Cond) (x y : Int32) : Prop := match c with
  | .eq => x = y
  | .ne => ¬ x = y
  | .lt => x < y
  | .ge => y ≤ x
  | .gt => y < x
  | .le => x ≤ y
/-- the catches of a method: exception, first byte, local, stretch behind the astore -/
def mHn (y : Nat) : List (Nat × Nat × Nat × Nat) := match y with
  | 143 => [(1, 12, 3, 2), (2, 15, 3, 3)]
  | 144 => [(0, 17, 6, 2), (1, 21, 6, 3)]
  | 145 => [(0, 13, 4, 2), (1, 17, 4, 3), (2, 21, 4, 4)]
  | 146 => [(0, 13, 4, 2), (1, 17, 4, 3)]
  | 147 => [(0, 13, 4, 2), (1, 17, 4, 3)]
  | 148 => [(0, 13, 4, 2), (1, 17, 4, 3)]
  | 149 => [(1, 9, 3, 2)]
  | 150 => [(0, 12, 3, 2)]
  | 151 => [(0, 12, 3, 2)]
  | 152 => [(0, 12, 3, 2)]
  | 153 => [(0, 12, 3, 2)]
  | 154 => [(0, 12, 3, 2)]
  | 155 => [(0, 12, 3, 2)]
  | 156 => [(0, 13, 4, 2)]
  | 157 => [(0, 13, 4, 2), (1, 17, 4, 3)]
  | 158 => [(0, 12, 3, 2)]
  | 159 => [(0, 12, 3, 2)]
  | 160 => [(0, 12, 3, 2)]
  | 161 => [(0, 19, 3, 5)]
  | 162 => [(0, 12, 3, 2)]
  | 163 => [(0, 12, 3, 2)]
  | 164 => [(0, 12, 3, 2)]
  | 165 => [(0, 12, 3, 2)]
  | 166 => [(0, 12, 3, 2), (2, 15, 3, 3)]
  | _ => []
def ent (y : Nat) (args : List AV) : List AV := args ++ List.replicate (mLo y - args.length) av0
def rcOk (y : Nat) (args : List AV) : Prop := match mRc y with
  | none => True
  | some ci => match args with
    | .inr (.inr (k, _, _)) :: _ => match kSh k with
      | some (.inl (c, _)) => c = ci
      | _ => False
    | _ => False
abbrev GoT : Type := Nat → Nat → Nat → List AV → List AV → XT → OUT → XT → Nat → Prop
/-- the stretches that the law's switch goes to: the last one is its default -/
def tsw : List Nat := [2, 11, 20, 29, 38, 47, 56, 62, 66, 70, 79, 88, 97, 106, 115, 124, 133, 142, 151, 160, 169, 181, 190, 199, 208, 217, 226]
def Cl (rec : GoT) (d y z nx : Nat) (L S : List AV) (X : XT) (o : OUT) (Z : XT) (k : Nat) : Prop :=
  ∃ (d' : Nat) (o1 : OUT) (X1 : XT) (k1 : Nat), d = d' + 1 ∧ mNa z ≤ S.length ∧ ((S.drop (mNa z)).map avc).sum ≤ 8 ∧ (S.take (mNa z)).all (fun v => decide (avc v = 1)) = true ∧ rcOk z (S.take (mNa z)).reverse ∧ rec d' z 0 (ent z (S.take (mNa z)).reverse) [] X o1 X1 k1 ∧ match o1 with
    | .inl none => ∃ k2, rec d y nx L (S.drop (mNa z)) X1 o Z k2 ∧ k = k1 + k2
    | .inl (some v) => ∃ k2, rec d y nx L (v :: S.drop (mNa z)) X1 o Z k2 ∧ k = k1 + k2
    | .inr e => (mHn y = [] ∧ o = .inr e ∧ Z = X1 ∧ k = k1) ∨ ∃ h ∈ mHn y, h.1 = e ∧ ∃ k2, rec d y h.2.2.2 (L.set h.2.2.1 av0) [] X1 o Z k2 ∧ k = k1 + k2
def Tm (rec : GoT) (d y : Nat) (t : Instr × Nat × Nat × Nat) (L S : List AV) (X : XT) (o : OUT) (Z : XT) (k : Nat) : Prop := match t.1 with
  | .nop => rec d y t.2.2.1 L S X o Z k
  | .goto _ => rec d y t.2.2.1 L S X o Z k
  | .ifCond c _ => match S with
    | .inl x :: S => (cz c x → rec d y t.2.2.1 L S X o Z k) ∧ (¬ cz c x → rec d y t.2.2.2 L S X o Z k)
    | _ => False
  | .if_icmp c _ => match S with
    | .inl w :: .inl x :: S => (ci2 c x w → rec d y t.2.2.1 L S X o Z k) ∧ (¬ ci2 c x w → rec d y t.2.2.2 L S X o Z k)
    | _ => False
  | .ireturn => match S with
    | [.inl v] => (t.2.2.1 = 0 ∨ v = 0 ∨ v = 1) ∧ o = .inl (some (.inl v)) ∧ Z = X ∧ k = 0
    | _ => False
  | .areturn => match S with
    | [.inr (.inr r)] => o = .inl (some (.inr (.inr r))) ∧ Z = X ∧ k = 0
    | _ => False
  | .return_ => S = [] ∧ o = .inl none ∧ Z = X ∧ k = 0
  | .new _ => S = [] ∧ o = .inr t.2.2.1 ∧ Z = X ∧ k = 1
  | .tableswitch _ _ _ _ => match S with
    | .inl x :: S => 0 ≤ x ∧ rec d y (tsw.getD x.toNatClampNeg (tsw.getD 26 0)) L S X o Z k
    | _ => False
  | .invokevirtual _ => Cl rec d y t.2.2.1 t.2.2.2 L S X o Z k
  | .invokestatic _ => Cl rec d y t.2.2.1 t.2.2.2 L S X o Z k
  | _ => False
def cd_X0_open : List SG := [(0, [(.aload_n 0, 1, 0, 0, 0), (.iload_n 1, 1, 1, 0, 0), (.putfield 26, 3, 4, 0, 4), (.aload_n 0, 1, 0, 0, 0), (.iload_n 2, 1, 2, 0, 0), (.putfield 30, 3, 5, 0, 5), (.iconst 0, 1, 0, 0, 0), (.istore_n 3, 1, 3, 0, 0)], .nop, 0, 1, 0),
  (12, [(.iload_n 3, 1, 3, 0, 0), (.iload_n 2, 1, 2, 0, 0)], .if_icmp .ge 43, 3, 6, 2),
  (17, [(.aload_n 0, 1, 0, 0, 0), (.getfield 23, 3, 3, 0, 3), (.iload_n 3, 1, 3, 0, 0), (.iload_n 1, 1, 1, 0, 0), (.iload_n 3, 1, 3, 0, 0), (.iadd, 1, 0, 0, 0), (.iastore, 1, 0, 0, 0), (.iconst 0, 1, 0, 0, 0), (.istore 4, 2, 4, 0, 0)], .nop, 0, 3, 0),
  (29, [(.iload 4, 2, 4, 0, 0), (.iload_n 2, 1, 2, 0, 0)], .if_icmp .ge 19, 3, 5, 4),
  (35, [(.aload_n 0, 1, 0, 0, 0), (.getfield 11, 3, 0, 0, 0), (.iload_n 3, 1, 3, 0, 0), (.aaload, 1, 0, 0, 0), (.iload 4, 2, 4, 0, 0), (.iconst (-1), 1, 0, 0, (-1)), (.iastore, 1, 0, 0, 0), (.iinc 4 1, 3, 4, 0, 1)], .goto (-19), 3, 3, 0),
  (51, [(.iinc 3 1, 3, 3, 0, 1)], .goto (-42), 3, 1, 0),
  (57, [], .return_, 1, 0, 0)]
def cd_X0_size : List SG := [(0, [(.aload_n 0, 1, 0, 0, 0), (.getfield 30, 3, 5, 0, 5)], .ireturn, 1, 0, 0)]
def cd_X0_hasTeam : List SG := [(0, [(.iload_n 1, 1, 1, 0, 0), (.aload_n 0, 1, 0, 0, 0), (.getfield 26, 3, 4, 0, 4)], .if_icmp .lt 20, 3, 3, 1),
  (8, [(.iload_n 1, 1, 1, 0, 0), (.aload_n 0, 1, 0, 0, 0), (.getfield 26, 3, 4, 0, 4), (.aload_n 0, 1, 0, 0, 0), (.getfield 30, 3, 5, 0, 5), (.iadd, 1, 0, 0, 0)], .if_icmp .ge 7, 3, 3, 2),
  (21, [(.iconst 1, 1, 0, 0, 1)], .goto 4, 3, 4, 0),
  (25, [(.iconst 0, 1, 0, 0, 0)], .nop, 0, 4, 0),
  (26, [], .ireturn, 1, 1, 0)]
def cd_X0_seatOf : List SG := [(0, [(.iload_n 1, 1, 1, 0, 0), (.aload_n 0, 1, 0, 0, 0), (.getfield 26, 3, 4, 0, 4), (.isub, 1, 0, 0, 0)], .ireturn, 1, 0, 0)]
def cd_X0_teamOn : List SG := [(0, [(.aload_n 0, 1, 0, 0, 0), (.getfield 26, 3, 4, 0, 4), (.iload_n 1, 1, 1, 0, 0), (.iadd, 1, 0, 0, 0)], .ireturn, 1, 0, 0)]
def cd_X0_everyone : List SG := [(0, [(.iconst 1, 1, 0, 0, 1), (.aload_n 0, 1, 0, 0, 0), (.getfield 30, 3, 5, 0, 5), (.ishl, 1, 0, 0, 0), (.iconst 1, 1, 0, 0, 1), (.isub, 1, 0, 0, 0)], .ireturn, 1, 0, 0)]
def cd_X0_tell : List SG := [(0, [(.aload_n 0, 1, 0, 0, 0), (.getfield 11, 3, 0, 0, 0), (.iload_n 1, 1, 1, 0, 0), (.aaload, 1, 0, 0, 0), (.iload_n 2, 1, 2, 0, 0), (.iload_n 3, 1, 3, 0, 0), (.iastore, 1, 0, 0, 0), (.aload_n 0, 1, 0, 0, 0), (.getfield 11, 3, 0, 0, 0), (.iload_n 2, 1, 2, 0, 0), (.aaload, 1, 0, 0, 0), (.iload_n 1, 1, 1, 0, 0), (.iload 4, 2, 4, 0, 0), (.iastore, 1, 0, 0, 0)], .return_, 1, 0, 0)]
def cd_X0_untell : List SG := [(0, [(.aload_n 0, 1, 0, 0, 0), (.iload_n 1, 1, 1, 0, 0), (.iload_n 2, 1, 2, 0, 0), (.iconst (-1), 1, 0, 0, (-1)), (.iconst (-1), 1, 0, 0, (-1))], .invokevirtual 33, 3, 6, 1),
  (8, [], .return_, 1, 0, 0)]
def cd_X0_hasResult : List SG := [(0, [(.aload_n 0, 1, 0, 0, 0), (.getfield 11, 3, 0, 0, 0), (.iload_n 1, 1, 1, 0, 0), (.aaload, 1, 0, 0, 0), (.iload_n 2, 1, 2, 0, 0), (.iaload, 1, 0, 0, 0), (.iconst (-1), 1, 0, 0, (-1))], .if_icmp .eq 7, 3, 2, 1),
  (12, [(.iconst 1, 1, 0, 0, 1)], .goto 4, 3, 3, 0),
  (16, [(.iconst 0, 1, 0, 0, 0)], .nop, 0, 3, 0),
  (17, [], .ireturn, 1, 1, 0)]
def cd_X0_putTaken : List SG := [(0, [(.aload_n 0, 1, 0, 0, 0), (.getfield 16, 3, 1, 0, 1), (.iload_n 1, 1, 1, 0, 0), (.iaload, 1, 0, 0, 0), (.istore_n 3, 1, 3, 0, 0), (.aload_n 0, 1, 0, 0, 0), (.getfield 16, 3, 1, 0, 1), (.iload_n 1, 1, 1, 0, 0), (.iload_n 2, 1, 2, 0, 0), (.iastore, 1, 0, 0, 0), (.iload_n 3, 1, 3, 0, 0)], .ireturn, 1, 0, 0)]
def cd_X0_putCards : List SG := [(0, [(.aload_n 0, 1, 0, 0, 0), (.getfield 20, 3, 2, 0, 2), (.iload_n 1, 1, 1, 0, 0), (.iaload, 1, 0, 0, 0), (.istore_n 3, 1, 3, 0, 0), (.aload_n 0, 1, 0, 0, 0), (.getfield 20, 3, 2, 0, 2), (.iload_n 1, 1, 1, 0, 0), (.iload_n 2, 1, 2, 0, 0), (.iastore, 1, 0, 0, 0), (.iload_n 3, 1, 3, 0, 0)], .ireturn, 1, 0, 0)]
def cd_X0_putLot : List SG := [(0, [(.aload_n 0, 1, 0, 0, 0), (.getfield 23, 3, 3, 0, 3), (.iload_n 1, 1, 1, 0, 0), (.iaload, 1, 0, 0, 0), (.istore_n 3, 1, 3, 0, 0), (.aload_n 0, 1, 0, 0, 0), (.getfield 23, 3, 3, 0, 3), (.iload_n 1, 1, 1, 0, 0), (.iload_n 2, 1, 2, 0, 0), (.iastore, 1, 0, 0, 0), (.iload_n 3, 1, 3, 0, 0)], .ireturn, 1, 0, 0)]
def cd_X0_playedBy : List SG := [(0, [(.iconst 0, 1, 0, 0, 0), (.istore_n 2, 1, 2, 0, 0), (.iconst 0, 1, 0, 0, 0), (.istore_n 3, 1, 3, 0, 0)], .nop, 0, 1, 0),
  (4, [(.iload_n 3, 1, 3, 0, 0), (.aload_n 0, 1, 0, 0, 0), (.getfield 30, 3, 5, 0, 5)], .if_icmp .ge 21, 3, 6, 2),
  (12, [(.aload_n 0, 1, 0, 0, 0), (.iload_n 1, 1, 1, 0, 0), (.iload_n 3, 1, 3, 0, 0)], .invokevirtual 37, 3, 8, 3),
  (18, [], .ifCond .eq 6, 3, 5, 4),
  (21, [(.iinc 2 1, 3, 2, 0, 1)], .nop, 0, 5, 0),
  (24, [(.iinc 3 1, 3, 3, 0, 1)], .goto (-23), 3, 1, 0),
  (30, [(.iload_n 2, 1, 2, 0, 0)], .ireturn, 1, 0, 0)]
def cd_X0_left : List SG := [(0, [(.iconst 0, 1, 0, 0, 0), (.istore_n 1, 1, 1, 0, 0), (.iconst 0, 1, 0, 0, 0), (.istore_n 2, 1, 2, 0, 0)], .nop, 0, 1, 0),
  (4, [(.iload_n 2, 1, 2, 0, 0), (.aload_n 0, 1, 0, 0, 0), (.getfield 30, 3, 5, 0, 5)], .if_icmp .ge 39, 3, 9, 2),
  (12, [(.iload_n 2, 1, 2, 0, 0), (.iconst 1, 1, 0, 0, 1), (.iadd, 1, 0, 0, 0), (.istore_n 3, 1, 3, 0, 0)], .nop, 0, 3, 0),
  (16, [(.iload_n 3, 1, 3, 0, 0), (.aload_n 0, 1, 0, 0, 0), (.getfield 30, 3, 5, 0, 5)], .if_icmp .ge 21, 3, 8, 4),
  (24, [(.aload_n 0, 1, 0, 0, 0), (.iload_n 2, 1, 2, 0, 0), (.iload_n 3, 1, 3, 0, 0)], .invokevirtual 37, 3, 8, 5),
  (30, [], .ifCond .ne 6, 3, 7, 6),
  (33, [(.iinc 1 1, 3, 1, 0, 1)], .nop, 0, 7, 0),
  (36, [(.iinc 3 1, 3, 3, 0, 1)], .goto (-23), 3, 3, 0),
  (42, [(.iinc 2 1, 3, 2, 0, 1)], .goto (-41), 3, 1, 0),
  (48, [(.iload_n 1, 1, 1, 0, 0)], .ireturn, 1, 0, 0)]
def cd_X0_pointsOf : List SG := [(0, [(.aload_n 0, 1, 0, 0, 0), (.iload_n 1, 1, 1, 0, 0), (.aload_n 0, 1, 0, 0, 0)], .invokevirtual 41, 3, 5, 1),
  (6, [], .invokevirtual 45, 3, 16, 2),
  (9, [(.aload_n 0, 1, 0, 0, 0), (.getfield 16, 3, 1, 0, 1), (.iload_n 1, 1, 1, 0, 0), (.iaload, 1, 0, 0, 0), (.isub, 1, 0, 0, 0)], .ireturn, 1, 0, 0)]
def cd_X0_takenFrom : List SG := [(0, [(.aload_n 0, 1, 0, 0, 0), (.getfield 16, 3, 1, 0, 1), (.iload_n 1, 1, 1, 0, 0), (.iaload, 1, 0, 0, 0)], .ireturn, 1, 0, 0)]
def cd_X0_pointsFrom : List SG := [(0, [(.iconst 0, 1, 0, 0, 0), (.istore_n 3, 1, 3, 0, 0), (.iconst 0, 1, 0, 0, 0), (.istore 4, 2, 4, 0, 0)], .nop, 0, 1, 0),
  (5, [(.iload 4, 2, 4, 0, 0), (.aload_n 0, 1, 0, 0, 0), (.getfield 30, 3, 5, 0, 5)], .if_icmp .ge 44, 3, 7, 2),
  (14, [(.aload_n 0, 1, 0, 0, 0), (.iload_n 1, 1, 1, 0, 0), (.iload 4, 2, 4, 0, 0), (.iload_n 2, 1, 2, 0, 0)], .invokevirtual 49, 3, 21, 3),
  (22, [], .ifCond .eq 27, 3, 6, 4),
  (25, [(.iload_n 3, 1, 3, 0, 0), (.aload_n 0, 1, 0, 0, 0), (.getfield 11, 3, 0, 0, 0), (.iload_n 1, 1, 1, 0, 0), (.aaload, 1, 0, 0, 0), (.iload 4, 2, 4, 0, 0), (.iaload, 1, 0, 0, 0), (.aload_n 0, 1, 0, 0, 0), (.getfield 11, 3, 0, 0, 0), (.iload 4, 2, 4, 0, 0), (.aaload, 1, 0, 0, 0), (.iload_n 1, 1, 1, 0, 0), (.iaload, 1, 0, 0, 0)], .invokestatic 53, 3, 22, 5),
  (47, [(.iadd, 1, 0, 0, 0), (.istore_n 3, 1, 3, 0, 0)], .nop, 0, 6, 0),
  (49, [(.iinc 4 1, 3, 4, 0, 1)], .goto (-47), 3, 1, 0),
  (55, [(.iload_n 3, 1, 3, 0, 0)], .ireturn, 1, 0, 0)]
def cd_X0_differenceFrom : List SG := [(0, [(.iconst 0, 1, 0, 0, 0), (.istore_n 3, 1, 3, 0, 0), (.iconst 0, 1, 0, 0, 0), (.istore 4, 2, 4, 0, 0)], .nop, 0, 1, 0),
  (5, [(.iload 4, 2, 4, 0, 0), (.aload_n 0, 1, 0, 0, 0), (.getfield 30, 3, 5, 0, 5)], .if_icmp .ge 42, 3, 6, 2),
  (14, [(.aload_n 0, 1, 0, 0, 0), (.iload_n 1, 1, 1, 0, 0), (.iload 4, 2, 4, 0, 0), (.iload_n 2, 1, 2, 0, 0)], .invokevirtual 49, 3, 21, 3),
  (22, [], .ifCond .eq 25, 3, 5, 4),
  (25, [(.iload_n 3, 1, 3, 0, 0), (.aload_n 0, 1, 0, 0, 0), (.getfield 11, 3, 0, 0, 0), (.iload_n 1, 1, 1, 0, 0), (.aaload, 1, 0, 0, 0), (.iload 4, 2, 4, 0, 0), (.iaload, 1, 0, 0, 0), (.aload_n 0, 1, 0, 0, 0), (.getfield 11, 3, 0, 0, 0), (.iload 4, 2, 4, 0, 0), (.aaload, 1, 0, 0, 0), (.iload_n 1, 1, 1, 0, 0), (.iaload, 1, 0, 0, 0), (.isub, 1, 0, 0, 0), (.iadd, 1, 0, 0, 0), (.istore_n 3, 1, 3, 0, 0)], .nop, 0, 5, 0),
  (47, [(.iinc 4 1, 3, 4, 0, 1)], .goto (-45), 3, 1, 0),
  (53, [(.iload_n 3, 1, 3, 0, 0)], .ireturn, 1, 0, 0)]
def cd_X0_goalsFrom : List SG := [(0, [(.iconst 0, 1, 0, 0, 0), (.istore_n 3, 1, 3, 0, 0), (.iconst 0, 1, 0, 0, 0), (.istore 4, 2, 4, 0, 0)], .nop, 0, 1, 0),
  (5, [(.iload 4, 2, 4, 0, 0), (.aload_n 0, 1, 0, 0, 0), (.getfield 30, 3, 5, 0, 5)], .if_icmp .ge 32, 3, 6, 2),
  (14, [(.aload_n 0, 1, 0, 0, 0), (.iload_n 1, 1, 1, 0, 0), (.iload 4, 2, 4, 0, 0), (.iload_n 2, 1, 2, 0, 0)], .invokevirtual 49, 3, 21, 3),
  (22, [], .ifCond .eq 15, 3, 5, 4),
  (25, [(.iload_n 3, 1, 3, 0, 0), (.aload_n 0, 1, 0, 0, 0), (.getfield 11, 3, 0, 0, 0), (.iload_n 1, 1, 1, 0, 0), (.aaload, 1, 0, 0, 0), (.iload 4, 2, 4, 0, 0), (.iaload, 1, 0, 0, 0), (.iadd, 1, 0, 0, 0), (.istore_n 3, 1, 3, 0, 0)], .nop, 0, 5, 0),
  (37, [(.iinc 4 1, 3, 4, 0, 1)], .goto (-35), 3, 1, 0),
  (43, [(.iload_n 3, 1, 3, 0, 0)], .ireturn, 1, 0, 0)]
def cd_X0_cardMark : List SG := [(0, [(.aload_n 0, 1, 0, 0, 0), (.getfield 20, 3, 2, 0, 2), (.iload_n 1, 1, 1, 0, 0), (.iaload, 1, 0, 0, 0), (.ineg, 1, 0, 0, 0)], .ireturn, 1, 0, 0)]
def cd_X0_lotMark : List SG := [(0, [(.aload_n 0, 1, 0, 0, 0), (.getfield 23, 3, 3, 0, 3), (.iload_n 1, 1, 1, 0, 0), (.iaload, 1, 0, 0, 0), (.bipush 6, 2, 0, 0, 6), (.imul, 1, 0, 0, 0), (.iconst 5, 1, 0, 0, 5), (.imul, 1, 0, 0, 0), (.aload_n 0, 1, 0, 0, 0), (.getfield 26, 3, 4, 0, 4), (.iadd, 1, 0, 0, 0), (.iload_n 1, 1, 1, 0, 0), (.iadd, 1, 0, 0, 0), (.ineg, 1, 0, 0, 0)], .ireturn, 1, 0, 0)]
def cd_X0_counts : List SG := [(0, [(.iload_n 3, 1, 3, 0, 0), (.iload_n 2, 1, 2, 0, 0), (.ishr, 1, 0, 0, 0), (.iconst 1, 1, 0, 0, 1), (.iand, 1, 0, 0, 0)], .ifCond .eq 19, 3, 3, 1),
  (8, [(.aload_n 0, 1, 0, 0, 0), (.getfield 11, 3, 0, 0, 0), (.iload_n 1, 1, 1, 0, 0), (.aaload, 1, 0, 0, 0), (.iload_n 2, 1, 2, 0, 0), (.iaload, 1, 0, 0, 0), (.iconst (-1), 1, 0, 0, (-1))], .if_icmp .eq 7, 3, 3, 2),
  (20, [(.iconst 1, 1, 0, 0, 1)], .goto 4, 3, 4, 0),
  (24, [(.iconst 0, 1, 0, 0, 0)], .nop, 0, 4, 0),
  (25, [], .ireturn, 1, 1, 0)]
def cd_X0_pointsFor : List SG := [(0, [(.iload_n 0, 1, 0, 0, 0), (.iload_n 1, 1, 1, 0, 0)], .if_icmp .ne 5, 3, 2, 1),
  (5, [(.iconst 1, 1, 0, 0, 1)], .ireturn, 1, 0, 0),
  (7, [(.iload_n 0, 1, 0, 0, 0), (.iload_n 1, 1, 1, 0, 0)], .if_icmp .le 7, 3, 4, 3),
  (12, [(.iconst 3, 1, 0, 0, 3)], .goto 4, 3, 5, 0),
  (16, [(.iconst 0, 1, 0, 0, 0)], .nop, 0, 5, 0),
  (17, [], .ireturn, 1, 0, 0)]
def cd_X1_list : List SG := [(0, [(.aload_n 0, 1, 0, 0, 0), (.aload_n 1, 1, 1, 0, 0), (.iconst (-1), 1, 0, 0, (-1))], .invokevirtual 18, 3, 24, 1),
  (6, [], .ireturn, 1, 0, 0)]
def cd_X1_listOwnLast : List SG := [(0, [(.aload_n 0, 1, 0, 0, 0), (.aload_n 1, 1, 1, 0, 0), (.iload_n 2, 1, 2, 0, 0), (.iconst 0, 1, 0, 0, 0), (.iconst 0, 1, 0, 0, 0)], .invokevirtual 22, 3, 25, 1),
  (8, [(.istore_n 3, 1, 3, 0, 0), (.aload_n 0, 1, 0, 0, 0), (.aload_n 1, 1, 1, 0, 0), (.iload_n 2, 1, 2, 0, 0), (.iconst 1, 1, 0, 0, 1), (.iload_n 3, 1, 3, 0, 0)], .invokevirtual 22, 3, 25, 2),
  (17, [], .ireturn, 1, 0, 0)]
def cd_X1_add : List SG := [(0, [(.iload 4, 2, 4, 0, 0), (.istore 5, 2, 5, 0, 0), (.aload_n 1, 1, 1, 0, 0)], .invokevirtual 26, 3, 1, 1),
  (8, [(.istore 6, 2, 6, 0, 0), (.iconst 0, 1, 0, 0, 0), (.istore 7, 2, 7, 0, 0)], .nop, 0, 2, 0),
  (13, [(.iload 7, 2, 7, 0, 0), (.iload 6, 2, 6, 0, 0)], .if_icmp .ge 92, 3, 16, 3),
  (20, [(.iload 7, 2, 7, 0, 0), (.iconst 1, 1, 0, 0, 1), (.iadd, 1, 0, 0, 0), (.istore 8, 2, 8, 0, 0)], .nop, 0, 4, 0),
  (26, [(.iload 8, 2, 8, 0, 0), (.iload 6, 2, 6, 0, 0)], .if_icmp .ge 73, 3, 15, 5),
  (33, [(.iload 7, 2, 7, 0, 0), (.iload_n 2, 1, 2, 0, 0)], .if_icmp .eq 9, 3, 7, 6),
  (39, [(.iload 8, 2, 8, 0, 0), (.iload_n 2, 1, 2, 0, 0)], .if_icmp .ne 7, 3, 8, 7),
  (45, [(.iconst 1, 1, 0, 0, 1)], .goto 4, 3, 9, 0),
  (49, [(.iconst 0, 1, 0, 0, 0)], .nop, 0, 9, 0),
  (50, [(.istore 9, 2, 9, 0, 0), (.iload 9, 2, 9, 0, 0), (.iload_n 3, 1, 3, 0, 0)], .if_icmp .ne 42, 3, 14, 10),
  (58, [(.iload 5, 2, 5, 0, 0), (.bipush 10, 2, 0, 0, 10)], .if_icmp .ge 35, 3, 14, 11),
  (65, [(.aload_n 1, 1, 1, 0, 0), (.iload 7, 2, 7, 0, 0), (.iload 8, 2, 8, 0, 0)], .invokevirtual 32, 3, 8, 12),
  (73, [], .ifCond .ne 24, 3, 14, 13),
  (76, [(.aload_n 0, 1, 0, 0, 0), (.getfield 9, 3, 0, 1, 0), (.iload 5, 2, 5, 0, 0), (.iload 7, 2, 7, 0, 0), (.iastore, 1, 0, 0, 0), (.aload_n 0, 1, 0, 0, 0), (.getfield 15, 3, 1, 1, 1), (.iload 5, 2, 5, 0, 0), (.iload 8, 2, 8, 0, 0), (.iastore, 1, 0, 0, 0), (.iinc 5 1, 3, 5, 0, 1)], .nop, 0, 14, 0),
  (97, [(.iinc 8 1, 3, 8, 0, 1)], .goto (-74), 3, 4, 0),
  (103, [(.iinc 7 1, 3, 7, 0, 1)], .goto (-93), 3, 2, 0),
  (109, [(.iload 5, 2, 5, 0, 0)], .ireturn, 1, 0, 0)]
def cd_X1_lowerOf : List SG := [(0, [(.aload_n 0, 1, 0, 0, 0), (.getfield 9, 3, 0, 1, 0), (.iload_n 1, 1, 1, 0, 0), (.iaload, 1, 0, 0, 0)], .ireturn, 1, 0, 0)]
def cd_X1_upperOf : List SG := [(0, [(.aload_n 0, 1, 0, 0, 0), (.getfield 15, 3, 1, 1, 1), (.iload_n 1, 1, 1, 0, 0), (.iaload, 1, 0, 0, 0)], .ireturn, 1, 0, 0)]
def cd_X2_put : List SG := [(0, [(.aload_n 0, 1, 0, 0, 0), (.getfield 9, 3, 0, 2, 0), (.iload_n 1, 1, 1, 0, 0), (.aaload, 1, 0, 0, 0), (.iload_n 2, 1, 2, 0, 0), (.iload_n 3, 1, 3, 0, 0), (.iastore, 1, 0, 0, 0)], .return_, 1, 0, 0)]
def cd_X2_at : List SG := [(0, [(.aload_n 0, 1, 0, 0, 0), (.getfield 9, 3, 0, 2, 0), (.iload_n 1, 1, 1, 0, 0), (.aaload, 1, 0, 0, 0), (.iload_n 2, 1, 2, 0, 0), (.iaload, 1, 0, 0, 0)], .ireturn, 1, 0, 0)]
def cd_X2_firstApart : List SG := [(0, [(.iconst 0, 1, 0, 0, 0), (.istore 4, 2, 4, 0, 0)], .nop, 0, 1, 0),
  (3, [(.iload 4, 2, 4, 0, 0), (.iload_n 3, 1, 3, 0, 0)], .if_icmp .ge 30, 3, 4, 2),
  (9, [(.aload_n 0, 1, 0, 0, 0), (.getfield 9, 3, 0, 2, 0), (.iload_n 1, 1, 1, 0, 0), (.aaload, 1, 0, 0, 0), (.iload 4, 2, 4, 0, 0), (.iaload, 1, 0, 0, 0), (.aload_n 0, 1, 0, 0, 0), (.getfield 9, 3, 0, 2, 0), (.iload_n 2, 1, 2, 0, 0), (.aaload, 1, 0, 0, 0), (.iload 4, 2, 4, 0, 0), (.iaload, 1, 0, 0, 0)], .if_icmp .ne 9, 3, 4, 3),
  (30, [(.iinc 4 1, 3, 4, 0, 1)], .goto (-30), 3, 1, 0),
  (36, [(.iload 4, 2, 4, 0, 0)], .ireturn, 1, 0, 0)]
def cd_X2_isBetter : List SG := [(0, [(.aload_n 0, 1, 0, 0, 0), (.iload_n 1, 1, 1, 0, 0), (.iload_n 2, 1, 2, 0, 0), (.iload_n 3, 1, 3, 0, 0)], .invokevirtual 14, 3, 30, 1),
  (7, [(.istore 4, 2, 4, 0, 0), (.iload 4, 2, 4, 0, 0), (.iload_n 3, 1, 3, 0, 0)], .if_icmp .ge 28, 3, 4, 2),
  (15, [(.aload_n 0, 1, 0, 0, 0), (.getfield 9, 3, 0, 2, 0), (.iload_n 1, 1, 1, 0, 0), (.aaload, 1, 0, 0, 0), (.iload 4, 2, 4, 0, 0), (.iaload, 1, 0, 0, 0), (.aload_n 0, 1, 0, 0, 0), (.getfield 9, 3, 0, 2, 0), (.iload_n 2, 1, 2, 0, 0), (.aaload, 1, 0, 0, 0), (.iload 4, 2, 4, 0, 0), (.iaload, 1, 0, 0, 0)], .if_icmp .le 7, 3, 4, 3),
  (36, [(.iconst 1, 1, 0, 0, 1)], .goto 4, 3, 5, 0),
  (40, [(.iconst 0, 1, 0, 0, 0)], .nop, 0, 5, 0),
  (41, [], .ireturn, 1, 1, 0)]
def cd_X3_countPassed : List SG := [(0, [(.aload_n 0, 1, 0, 0, 0), (.aload_n 1, 1, 1, 0, 0), (.iload_n 2, 1, 2, 0, 0), (.iload_n 3, 1, 3, 0, 0), (.iload 4, 2, 4, 0, 0)], .invokevirtual 25, 3, 34, 1),
  (9, [(.aload_n 0, 1, 0, 0, 0), (.aload_n 0, 1, 0, 0, 0), (.getfield 12, 3, 0, 3, 0), (.aload_n 1, 1, 1, 0, 0), (.iload_n 2, 1, 2, 0, 0)], .invokevirtual 29, 3, 24, 2),
  (19, [], .invokevirtual 33, 3, 35, 3),
  (22, [], .ireturn, 1, 0, 0)]
def cd_X3_firstPassed : List SG := [(0, [(.aload_n 0, 1, 0, 0, 0), (.aload_n 1, 1, 1, 0, 0), (.iload_n 2, 1, 2, 0, 0), (.iload_n 3, 1, 3, 0, 0), (.iload 4, 2, 4, 0, 0)], .invokevirtual 25, 3, 34, 1),
  (9, [(.aload_n 0, 1, 0, 0, 0), (.aload_n 0, 1, 0, 0, 0), (.getfield 12, 3, 0, 3, 0), (.aload_n 1, 1, 1, 0, 0)], .invokevirtual 37, 3, 23, 2),
  (18, [], .invokevirtual 41, 3, 36, 3),
  (21, [], .ireturn, 1, 0, 0)]
def cd_X3_open : List SG := [(0, [(.aload_n 0, 1, 0, 0, 0), (.aload_n 1, 1, 1, 0, 0)], .invokevirtual 44, 3, 1, 1),
  (5, [(.putfield 50, 3, 3, 3, 3), (.aload_n 0, 1, 0, 0, 0), (.iload_n 2, 1, 2, 0, 0), (.putfield 53, 3, 4, 3, 4), (.aload_n 0, 1, 0, 0, 0), (.iload_n 3, 1, 3, 0, 0), (.putfield 56, 3, 5, 3, 5), (.aload_n 0, 1, 0, 0, 0), (.iload 4, 2, 4, 0, 0), (.putfield 59, 3, 6, 3, 6), (.iconst 0, 1, 0, 0, 0), (.istore 5, 2, 5, 0, 0)], .nop, 0, 2, 0),
  (27, [(.iload 5, 2, 5, 0, 0), (.aload_n 0, 1, 0, 0, 0), (.getfield 50, 3, 3, 3, 3)], .if_icmp .ge 42, 3, 6, 3),
  (36, [(.aload_n 0, 1, 0, 0, 0), (.getfield 18, 3, 1, 3, 1), (.iload 5, 2, 5, 0, 0), (.aload_n 1, 1, 1, 0, 0), (.iload 5, 2, 5, 0, 0)], .invokevirtual 62, 3, 14, 4),
  (48, [(.iastore, 1, 0, 0, 0), (.aload_n 0, 1, 0, 0, 0), (.getfield 22, 3, 2, 3, 2), (.iload 5, 2, 5, 0, 0), (.aload_n 0, 1, 0, 0, 0), (.getfield 50, 3, 3, 3, 3), (.iconst 1, 1, 0, 0, 1), (.isub, 1, 0, 0, 0), (.aload_n 1, 1, 1, 0, 0), (.iload 5, 2, 5, 0, 0)], .invokevirtual 65, 3, 12, 5),
  (67, [(.isub, 1, 0, 0, 0), (.iastore, 1, 0, 0, 0), (.iinc 5 1, 3, 5, 0, 1)], .goto (-45), 3, 2, 0),
  (75, [], .return_, 1, 0, 0)]
def cd_X3_waysPassed : List SG := [(0, [(.aload_n 0, 1, 0, 0, 0)], .invokevirtual 68, 3, 39, 1),
  (4, [], .ifCond .eq 9, 3, 3, 2),
  (7, [(.getstatic 72, 3, 50, 0, 0), (.iload_n 1, 1, 1, 0, 0), (.iaload, 1, 0, 0, 0)], .ireturn, 1, 0, 0),
  (13, [(.iload_n 1, 1, 1, 0, 0)], .ifCond .le 10, 3, 6, 4),
  (17, [(.aload_n 0, 1, 0, 0, 0)], .invokevirtual 75, 3, 40, 5),
  (21, [], .ifCond .ne 5, 3, 7, 6),
  (24, [(.iconst 0, 1, 0, 0, 0)], .ireturn, 1, 0, 0),
  (26, [(.iconst 0, 1, 0, 0, 0), (.istore_n 2, 1, 2, 0, 0), (.iconst 0, 1, 0, 0, 0), (.istore_n 3, 1, 3, 0, 0)], .nop, 0, 8, 0),
  (30, [(.iload_n 3, 1, 3, 0, 0), (.iconst 3, 1, 0, 0, 3)], .if_icmp .ge 35, 3, 13, 9),
  (35, [(.aload_n 0, 1, 0, 0, 0), (.iload_n 1, 1, 1, 0, 0), (.iconst 1, 1, 0, 0, 1), (.isub, 1, 0, 0, 0), (.iload_n 3, 1, 3, 0, 0)], .invokevirtual 78, 3, 37, 10),
  (43, [(.iload_n 2, 1, 2, 0, 0), (.aload_n 0, 1, 0, 0, 0), (.iload_n 1, 1, 1, 0, 0), (.iconst 1, 1, 0, 0, 1), (.isub, 1, 0, 0, 0)], .invokevirtual 33, 3, 35, 11),
  (51, [(.iadd, 1, 0, 0, 0), (.istore_n 2, 1, 2, 0, 0), (.aload_n 0, 1, 0, 0, 0), (.iload_n 1, 1, 1, 0, 0), (.iconst 1, 1, 0, 0, 1), (.isub, 1, 0, 0, 0), (.iload_n 3, 1, 3, 0, 0)], .invokevirtual 82, 3, 38, 12),
  (61, [(.iinc 3 1, 3, 3, 0, 1)], .goto (-34), 3, 8, 0),
  (67, [(.iload_n 2, 1, 2, 0, 0)], .ireturn, 1, 0, 0)]
def cd_X3_lowestPassed : List SG := [(0, [(.aload_n 0, 1, 0, 0, 0)], .invokevirtual 68, 3, 39, 1),
  (4, [], .ifCond .eq 5, 3, 3, 2),
  (7, [(.iconst 0, 1, 0, 0, 0)], .ireturn, 1, 0, 0),
  (9, [(.iload_n 1, 1, 1, 0, 0)], .ifCond .le 10, 3, 6, 4),
  (13, [(.aload_n 0, 1, 0, 0, 0)], .invokevirtual 75, 3, 40, 5),
  (17, [], .ifCond .ne 5, 3, 7, 6),
  (20, [(.iconst (-1), 1, 0, 0, (-1))], .ireturn, 1, 0, 0),
  (22, [(.iconst (-1), 1, 0, 0, (-1)), (.istore_n 2, 1, 2, 0, 0), (.iconst 0, 1, 0, 0, 0), (.istore_n 3, 1, 3, 0, 0)], .nop, 0, 8, 0),
  (26, [(.iload_n 3, 1, 3, 0, 0), (.iconst 3, 1, 0, 0, 3)], .if_icmp .ge 58, 3, 16, 9),
  (31, [(.iload_n 2, 1, 2, 0, 0), (.iconst (-1), 1, 0, 0, (-1))], .if_icmp .ne 53, 3, 16, 10),
  (36, [(.aload_n 0, 1, 0, 0, 0), (.iload_n 1, 1, 1, 0, 0), (.iconst 1, 1, 0, 0, 1), (.isub, 1, 0, 0, 0), (.iload_n 3, 1, 3, 0, 0)], .invokevirtual 78, 3, 37, 11),
  (44, [(.aload_n 0, 1, 0, 0, 0), (.iload_n 1, 1, 1, 0, 0), (.iconst 1, 1, 0, 0, 1), (.isub, 1, 0, 0, 0)], .invokevirtual 41, 3, 36, 12),
  (51, [(.istore 4, 2, 4, 0, 0), (.aload_n 0, 1, 0, 0, 0), (.iload_n 1, 1, 1, 0, 0), (.iconst 1, 1, 0, 0, 1), (.isub, 1, 0, 0, 0), (.iload_n 3, 1, 3, 0, 0)], .invokevirtual 82, 3, 38, 13),
  (61, [(.iload 4, 2, 4, 0, 0), (.iconst (-1), 1, 0, 0, (-1))], .if_icmp .eq 16, 3, 15, 14),
  (67, [(.iload_n 3, 1, 3, 0, 0), (.getstatic 72, 3, 50, 0, 0), (.iload_n 1, 1, 1, 0, 0), (.iconst 1, 1, 0, 0, 1), (.isub, 1, 0, 0, 0), (.iaload, 1, 0, 0, 0), (.imul, 1, 0, 0, 0), (.iload 4, 2, 4, 0, 0), (.iadd, 1, 0, 0, 0), (.istore_n 2, 1, 2, 0, 0)], .nop, 0, 15, 0),
  (80, [(.iinc 3 1, 3, 3, 0, 1)], .goto (-57), 3, 8, 0),
  (86, [(.iload_n 2, 1, 2, 0, 0)], .ireturn, 1, 0, 0)]
def cd_X3_play : List SG := [(0, [(.aload_n 0, 1, 0, 0, 0), (.getfield 12, 3, 0, 3, 0), (.iload_n 1, 1, 1, 0, 0)], .invokevirtual 85, 3, 26, 1),
  (8, [(.istore_n 3, 1, 3, 0, 0), (.aload_n 0, 1, 0, 0, 0), (.getfield 12, 3, 0, 3, 0), (.iload_n 1, 1, 1, 0, 0)], .invokevirtual 88, 3, 27, 2),
  (17, [(.istore 4, 2, 4, 0, 0), (.aload_n 0, 1, 0, 0, 0), (.getfield 18, 3, 1, 3, 1), (.iload_n 3, 1, 3, 0, 0), (.dup2, 1, 0, 0, 0), (.iaload, 1, 0, 0, 0), (.getstatic 91, 3, 51, 0, 0), (.iload_n 2, 1, 2, 0, 0), (.iaload, 1, 0, 0, 0), (.iadd, 1, 0, 0, 0), (.iastore, 1, 0, 0, 0), (.aload_n 0, 1, 0, 0, 0), (.getfield 18, 3, 1, 3, 1), (.iload 4, 2, 4, 0, 0), (.dup2, 1, 0, 0, 0), (.iaload, 1, 0, 0, 0), (.getstatic 94, 3, 52, 0, 0), (.iload_n 2, 1, 2, 0, 0), (.iaload, 1, 0, 0, 0), (.iadd, 1, 0, 0, 0), (.iastore, 1, 0, 0, 0), (.aload_n 0, 1, 0, 0, 0), (.getfield 22, 3, 2, 3, 2), (.iload_n 3, 1, 3, 0, 0), (.dup2, 1, 0, 0, 0), (.iaload, 1, 0, 0, 0), (.iconst 1, 1, 0, 0, 1), (.isub, 1, 0, 0, 0), (.iastore, 1, 0, 0, 0), (.aload_n 0, 1, 0, 0, 0), (.getfield 22, 3, 2, 3, 2), (.iload 4, 2, 4, 0, 0), (.dup2, 1, 0, 0, 0), (.iaload, 1, 0, 0, 0), (.iconst 1, 1, 0, 0, 1), (.isub, 1, 0, 0, 0), (.iastore, 1, 0, 0, 0)], .return_, 1, 0, 0)]
def cd_X3_takeBack : List SG := [(0, [(.aload_n 0, 1, 0, 0, 0), (.getfield 12, 3, 0, 3, 0), (.iload_n 1, 1, 1, 0, 0)], .invokevirtual 85, 3, 26, 1),
  (8, [(.istore_n 3, 1, 3, 0, 0), (.aload_n 0, 1, 0, 0, 0), (.getfield 12, 3, 0, 3, 0), (.iload_n 1, 1, 1, 0, 0)], .invokevirtual 88, 3, 27, 2),
  (17, [(.istore 4, 2, 4, 0, 0), (.aload_n 0, 1, 0, 0, 0), (.getfield 18, 3, 1, 3, 1), (.iload_n 3, 1, 3, 0, 0), (.dup2, 1, 0, 0, 0), (.iaload, 1, 0, 0, 0), (.getstatic 91, 3, 51, 0, 0), (.iload_n 2, 1, 2, 0, 0), (.iaload, 1, 0, 0, 0), (.isub, 1, 0, 0, 0), (.iastore, 1, 0, 0, 0), (.aload_n 0, 1, 0, 0, 0), (.getfield 18, 3, 1, 3, 1), (.iload 4, 2, 4, 0, 0), (.dup2, 1, 0, 0, 0), (.iaload, 1, 0, 0, 0), (.getstatic 94, 3, 52, 0, 0), (.iload_n 2, 1, 2, 0, 0), (.iaload, 1, 0, 0, 0), (.isub, 1, 0, 0, 0), (.iastore, 1, 0, 0, 0), (.aload_n 0, 1, 0, 0, 0), (.getfield 22, 3, 2, 3, 2), (.iload_n 3, 1, 3, 0, 0), (.dup2, 1, 0, 0, 0), (.iaload, 1, 0, 0, 0), (.iconst 1, 1, 0, 0, 1), (.iadd, 1, 0, 0, 0), (.iastore, 1, 0, 0, 0), (.aload_n 0, 1, 0, 0, 0), (.getfield 22, 3, 2, 3, 2), (.iload 4, 2, 4, 0, 0), (.dup2, 1, 0, 0, 0), (.iaload, 1, 0, 0, 0), (.iconst 1, 1, 0, 0, 1), (.iadd, 1, 0, 0, 0), (.iastore, 1, 0, 0, 0)], .return_, 1, 0, 0)]
def cd_X3_isPassedAnyhow : List SG := [(0, [(.aload_n 0, 1, 0, 0, 0), (.getfield 18, 3, 1, 3, 1), (.aload_n 0, 1, 0, 0, 0), (.getfield 53, 3, 4, 3, 4), (.iaload, 1, 0, 0, 0), (.iconst 3, 1, 0, 0, 3), (.aload_n 0, 1, 0, 0, 0), (.getfield 22, 3, 2, 3, 2), (.aload_n 0, 1, 0, 0, 0), (.getfield 53, 3, 4, 3, 4), (.iaload, 1, 0, 0, 0), (.imul, 1, 0, 0, 0), (.iadd, 1, 0, 0, 0), (.aload_n 0, 1, 0, 0, 0), (.getfield 59, 3, 6, 3, 6), (.iadd, 1, 0, 0, 0), (.istore_n 1, 1, 1, 0, 0), (.iconst 0, 1, 0, 0, 0), (.istore_n 2, 1, 2, 0, 0), (.iconst 0, 1, 0, 0, 0), (.istore_n 3, 1, 3, 0, 0)], .nop, 0, 1, 0),
  (31, [(.iload_n 3, 1, 3, 0, 0), (.aload_n 0, 1, 0, 0, 0), (.getfield 50, 3, 3, 3, 3)], .if_icmp .ge 30, 3, 6, 2),
  (39, [(.iload_n 3, 1, 3, 0, 0), (.aload_n 0, 1, 0, 0, 0), (.getfield 53, 3, 4, 3, 4)], .if_icmp .eq 16, 3, 5, 3),
  (47, [(.aload_n 0, 1, 0, 0, 0), (.getfield 18, 3, 1, 3, 1), (.iload_n 3, 1, 3, 0, 0), (.iaload, 1, 0, 0, 0), (.iload_n 1, 1, 1, 0, 0)], .if_icmp .lt 6, 3, 5, 4),
  (57, [(.iinc 2 1, 3, 2, 0, 1)], .nop, 0, 5, 0),
  (60, [(.iinc 3 1, 3, 3, 0, 1)], .goto (-32), 3, 1, 0),
  (66, [(.iload_n 2, 1, 2, 0, 0), (.aload_n 0, 1, 0, 0, 0), (.getfield 56, 3, 5, 3, 5)], .if_icmp .lt 7, 3, 8, 7),
  (74, [(.iconst 1, 1, 0, 0, 1)], .goto 4, 3, 9, 0),
  (78, [(.iconst 0, 1, 0, 0, 0)], .nop, 0, 9, 0),
  (79, [], .ireturn, 1, 1, 0)]
def cd_X3_canBePassed : List SG := [(0, [(.aload_n 0, 1, 0, 0, 0), (.getfield 18, 3, 1, 3, 1), (.aload_n 0, 1, 0, 0, 0), (.getfield 53, 3, 4, 3, 4), (.iaload, 1, 0, 0, 0), (.aload_n 0, 1, 0, 0, 0), (.getfield 59, 3, 6, 3, 6), (.iadd, 1, 0, 0, 0), (.istore_n 1, 1, 1, 0, 0), (.iconst 0, 1, 0, 0, 0), (.istore_n 2, 1, 2, 0, 0), (.iconst 0, 1, 0, 0, 0), (.istore_n 3, 1, 3, 0, 0)], .nop, 0, 1, 0),
  (19, [(.iload_n 3, 1, 3, 0, 0), (.aload_n 0, 1, 0, 0, 0), (.getfield 50, 3, 3, 3, 3)], .if_icmp .ge 39, 3, 6, 2),
  (27, [(.iload_n 3, 1, 3, 0, 0), (.aload_n 0, 1, 0, 0, 0), (.getfield 53, 3, 4, 3, 4)], .if_icmp .eq 25, 3, 5, 3),
  (35, [(.aload_n 0, 1, 0, 0, 0), (.getfield 18, 3, 1, 3, 1), (.iload_n 3, 1, 3, 0, 0), (.iaload, 1, 0, 0, 0), (.iconst 3, 1, 0, 0, 3), (.aload_n 0, 1, 0, 0, 0), (.getfield 22, 3, 2, 3, 2), (.iload_n 3, 1, 3, 0, 0), (.iaload, 1, 0, 0, 0), (.imul, 1, 0, 0, 0), (.iadd, 1, 0, 0, 0), (.iload_n 1, 1, 1, 0, 0)], .if_icmp .lt 6, 3, 5, 4),
  (54, [(.iinc 2 1, 3, 2, 0, 1)], .nop, 0, 5, 0),
  (57, [(.iinc 3 1, 3, 3, 0, 1)], .goto (-41), 3, 1, 0),
  (63, [(.iload_n 2, 1, 2, 0, 0), (.aload_n 0, 1, 0, 0, 0), (.getfield 56, 3, 5, 3, 5)], .if_icmp .lt 7, 3, 8, 7),
  (71, [(.iconst 1, 1, 0, 0, 1)], .goto 4, 3, 9, 0),
  (75, [(.iconst 0, 1, 0, 0, 0)], .nop, 0, 9, 0),
  (76, [], .ireturn, 1, 1, 0)]
def cd_X4_through : List SG := [(0, [(.aload_n 0, 1, 0, 0, 0), (.aload_n 1, 1, 1, 0, 0), (.iload_n 2, 1, 2, 0, 0), (.iload_n 3, 1, 3, 0, 0), (.aload 4, 2, 4, 0, 0), (.aload_n 0, 1, 0, 0, 0), (.getfield 10, 3, 0, 4, 0), (.aload_n 1, 1, 1, 0, 0)], .invokevirtual 16, 3, 23, 1),
  (14, [], .invokevirtual 20, 3, 42, 2),
  (17, [], .ireturn, 1, 0, 0)]
def cd_X4_countFrom : List SG := [(0, [(.iload 5, 2, 5, 0, 0)], .ifCond .gt 25, 3, 7, 1),
  (5, [(.aload 4, 2, 4, 0, 0), (.aload_n 1, 1, 1, 0, 0)], .invokevirtual 24, 3, 43, 2),
  (11, [(.aload 4, 2, 4, 0, 0), (.iload_n 2, 1, 2, 0, 0)], .invokevirtual 30, 3, 45, 3),
  (17, [(.iload_n 3, 1, 3, 0, 0)], .if_icmp .ge 7, 3, 5, 4),
  (21, [(.iconst 1, 1, 0, 0, 1)], .goto 4, 3, 6, 0),
  (25, [(.iconst 0, 1, 0, 0, 0)], .nop, 0, 6, 0),
  (26, [], .ireturn, 1, 0, 0),
  (27, [(.aload_n 0, 1, 0, 0, 0), (.getfield 10, 3, 0, 4, 0), (.iload 5, 2, 5, 0, 0), (.iconst 1, 1, 0, 0, 1), (.isub, 1, 0, 0, 0)], .invokevirtual 34, 3, 26, 8),
  (38, [(.istore 6, 2, 6, 0, 0), (.aload_n 0, 1, 0, 0, 0), (.getfield 10, 3, 0, 4, 0), (.iload 5, 2, 5, 0, 0), (.iconst 1, 1, 0, 0, 1), (.isub, 1, 0, 0, 0)], .invokevirtual 37, 3, 27, 9),
  (51, [(.istore 7, 2, 7, 0, 0), (.iconst 0, 1, 0, 0, 0), (.istore 8, 2, 8, 0, 0), (.iconst 0, 1, 0, 0, 0), (.istore 9, 2, 9, 0, 0)], .nop, 0, 10, 0),
  (59, [(.iload 9, 2, 9, 0, 0), (.iconst 2, 1, 0, 0, 2)], .if_icmp .gt 54, 3, 17, 11),
  (65, [(.iconst 0, 1, 0, 0, 0), (.istore 10, 2, 10, 0, 0)], .nop, 0, 12, 0),
  (68, [(.iload 10, 2, 10, 0, 0), (.iconst 2, 1, 0, 0, 2)], .if_icmp .gt 39, 3, 16, 13),
  (74, [(.aload_n 1, 1, 1, 0, 0), (.iload 6, 2, 6, 0, 0), (.iload 7, 2, 7, 0, 0), (.iload 9, 2, 9, 0, 0), (.iload 10, 2, 10, 0, 0)], .invokevirtual 40, 3, 6, 14),
  (86, [(.iload 8, 2, 8, 0, 0), (.aload_n 0, 1, 0, 0, 0), (.aload_n 1, 1, 1, 0, 0), (.iload_n 2, 1, 2, 0, 0), (.iload_n 3, 1, 3, 0, 0), (.aload 4, 2, 4, 0, 0), (.iload 5, 2, 5, 0, 0), (.iconst 1, 1, 0, 0, 1), (.isub, 1, 0, 0, 0)], .invokevirtual 20, 3, 42, 15),
  (101, [(.iadd, 1, 0, 0, 0), (.istore 8, 2, 8, 0, 0), (.iinc 10 1, 3, 10, 0, 1)], .goto (-39), 3, 12, 0),
  (110, [(.iinc 9 1, 3, 9, 0, 1)], .goto (-54), 3, 10, 0),
  (116, [(.aload_n 1, 1, 1, 0, 0), (.iload 6, 2, 6, 0, 0), (.iload 7, 2, 7, 0, 0)], .invokevirtual 46, 3, 7, 18),
  (124, [(.iload 8, 2, 8, 0, 0)], .ireturn, 1, 0, 0)]
def cd_X5_draw : List SG := [(0, [(.aload_n 1, 1, 1, 0, 0)], .invokevirtual 29, 3, 1, 1),
  (4, [(.istore_n 2, 1, 2, 0, 0), (.iconst 0, 1, 0, 0, 0), (.istore_n 3, 1, 3, 0, 0)], .nop, 0, 2, 0),
  (7, [(.iload_n 3, 1, 3, 0, 0), (.iload_n 2, 1, 2, 0, 0)], .if_icmp .ge 30, 3, 6, 3),
  (12, [(.aload_n 0, 1, 0, 0, 0), (.getfield 20, 3, 1, 5, 1), (.iload_n 3, 1, 3, 0, 0), (.iload_n 3, 1, 3, 0, 0), (.iastore, 1, 0, 0, 0), (.aload_n 0, 1, 0, 0, 0), (.getfield 16, 3, 0, 5, 0), (.iload_n 3, 1, 3, 0, 0), (.iconst 0, 1, 0, 0, 0), (.aload_n 1, 1, 1, 0, 0), (.iload_n 3, 1, 3, 0, 0)], .invokevirtual 35, 3, 14, 4),
  (30, [], .invokevirtual 39, 3, 28, 5),
  (33, [(.iinc 3 1, 3, 3, 0, 1)], .goto (-29), 3, 2, 0),
  (39, [(.aload_n 0, 1, 0, 0, 0), (.iconst 0, 1, 0, 0, 0), (.iload_n 2, 1, 2, 0, 0), (.iconst 1, 1, 0, 0, 1), (.iconst 0, 1, 0, 0, 0)], .invokevirtual 43, 3, 51, 7),
  (47, [(.iconst 0, 1, 0, 0, 0), (.istore_n 3, 1, 3, 0, 0), (.iconst 1, 1, 0, 0, 1), (.istore 4, 2, 4, 0, 0)], .nop, 0, 8, 0),
  (52, [(.iload 4, 2, 4, 0, 0), (.iload_n 2, 1, 2, 0, 0)], .if_icmp .gt 33, 3, 14, 9),
  (58, [(.aload_n 0, 1, 0, 0, 0), (.iload_n 3, 1, 3, 0, 0), (.iload 4, 2, 4, 0, 0), (.iload_n 2, 1, 2, 0, 0), (.iconst 1, 1, 0, 0, 1)], .invokevirtual 47, 3, 53, 10),
  (67, [], .ifCond .eq 15, 3, 13, 11),
  (70, [(.aload_n 0, 1, 0, 0, 0), (.aload_n 1, 1, 1, 0, 0), (.iload_n 3, 1, 3, 0, 0), (.iload 4, 2, 4, 0, 0), (.iconst 0, 1, 0, 0, 0)], .invokevirtual 51, 3, 48, 12),
  (79, [(.iload 4, 2, 4, 0, 0), (.istore_n 3, 1, 3, 0, 0)], .nop, 0, 13, 0),
  (82, [(.iinc 4 1, 3, 4, 0, 1)], .goto (-33), 3, 8, 0),
  (88, [], .return_, 1, 0, 0)]
def cd_X5_seatAt : List SG := [(0, [(.aload_n 0, 1, 0, 0, 0), (.getfield 20, 3, 1, 5, 1), (.iload_n 1, 1, 1, 0, 0), (.iaload, 1, 0, 0, 0)], .ireturn, 1, 0, 0)]
def cd_X5_placeOf : List SG := [(0, [(.iconst 0, 1, 0, 0, 0), (.istore_n 2, 1, 2, 0, 0)], .nop, 0, 1, 0),
  (2, [(.iload_n 2, 1, 2, 0, 0), (.iconst 4, 1, 0, 0, 4)], .if_icmp .ge 19, 3, 4, 2),
  (7, [(.aload_n 0, 1, 0, 0, 0), (.getfield 20, 3, 1, 5, 1), (.iload_n 2, 1, 2, 0, 0), (.iaload, 1, 0, 0, 0), (.iload_n 1, 1, 1, 0, 0)], .if_icmp .eq 9, 3, 4, 3),
  (17, [(.iinc 2 1, 3, 2, 0, 1)], .goto (-18), 3, 1, 0),
  (23, [(.iload_n 2, 1, 2, 0, 0)], .ireturn, 1, 0, 0)]
def cd_X5_ruleBetween : List SG := [(0, [(.aload_n 0, 1, 0, 0, 0), (.getfield 26, 3, 2, 5, 2), (.iload_n 1, 1, 1, 0, 0), (.aaload, 1, 0, 0, 0), (.iload_n 2, 1, 2, 0, 0), (.iaload, 1, 0, 0, 0)], .ireturn, 1, 0, 0)]
def cd_X5_setOf : List SG := [(0, [(.iconst 0, 1, 0, 0, 0), (.istore_n 3, 1, 3, 0, 0), (.iload_n 1, 1, 1, 0, 0), (.istore 4, 2, 4, 0, 0)], .nop, 0, 1, 0),
  (5, [(.iload 4, 2, 4, 0, 0), (.iload_n 2, 1, 2, 0, 0)], .if_icmp .ge 21, 3, 3, 2),
  (11, [(.iload_n 3, 1, 3, 0, 0), (.iconst 1, 1, 0, 0, 1), (.aload_n 0, 1, 0, 0, 0), (.getfield 20, 3, 1, 5, 1), (.iload 4, 2, 4, 0, 0), (.iaload, 1, 0, 0, 0), (.ishl, 1, 0, 0, 0), (.ior, 1, 0, 0, 0), (.istore_n 3, 1, 3, 0, 0), (.iinc 4 1, 3, 4, 0, 1)], .goto (-21), 3, 1, 0),
  (29, [(.iload_n 3, 1, 3, 0, 0)], .ireturn, 1, 0, 0)]
def cd_X5_settle : List SG := [(0, [(.iload_n 3, 1, 3, 0, 0), (.iload_n 2, 1, 2, 0, 0), (.isub, 1, 0, 0, 0), (.iconst 2, 1, 0, 0, 2)], .if_icmp .lt 9, 3, 2, 1),
  (7, [(.iload 4, 2, 4, 0, 0), (.iconst 5, 1, 0, 0, 5)], .if_icmp .lt 4, 3, 3, 2),
  (13, [], .return_, 1, 0, 0),
  (14, [(.aload_n 0, 1, 0, 0, 0), (.aload_n 1, 1, 1, 0, 0), (.iload_n 2, 1, 2, 0, 0), (.iload_n 3, 1, 3, 0, 0)], .invokevirtual 55, 3, 49, 4),
  (21, [(.aload_n 0, 1, 0, 0, 0), (.iload_n 2, 1, 2, 0, 0), (.iload_n 3, 1, 3, 0, 0), (.iconst 3, 1, 0, 0, 3), (.iconst 1, 1, 0, 0, 1)], .invokevirtual 43, 3, 51, 5),
  (29, [(.aload_n 0, 1, 0, 0, 0), (.getfield 16, 3, 0, 5, 0), (.aload_n 0, 1, 0, 0, 0), (.getfield 20, 3, 1, 5, 1), (.iload_n 2, 1, 2, 0, 0), (.iaload, 1, 0, 0, 0), (.aload_n 0, 1, 0, 0, 0), (.getfield 20, 3, 1, 5, 1), (.iload_n 3, 1, 3, 0, 0), (.iconst 1, 1, 0, 0, 1), (.isub, 1, 0, 0, 0), (.iaload, 1, 0, 0, 0), (.iconst 3, 1, 0, 0, 3)], .invokevirtual 59, 3, 30, 6),
  (51, [(.iconst 3, 1, 0, 0, 3)], .if_icmp .ne 19, 3, 10, 7),
  (55, [(.aload_n 0, 1, 0, 0, 0), (.aload_n 1, 1, 1, 0, 0), (.iload_n 2, 1, 2, 0, 0), (.iload_n 3, 1, 3, 0, 0)], .invokevirtual 63, 3, 50, 8),
  (62, [(.aload_n 0, 1, 0, 0, 0), (.iload_n 2, 1, 2, 0, 0), (.iload_n 3, 1, 3, 0, 0), (.iconst 4, 1, 0, 0, 4), (.iconst 4, 1, 0, 0, 4)], .invokevirtual 43, 3, 51, 9),
  (70, [], .return_, 1, 0, 0),
  (71, [(.iload_n 2, 1, 2, 0, 0), (.istore 5, 2, 5, 0, 0), (.iload_n 2, 1, 2, 0, 0), (.iconst 1, 1, 0, 0, 1), (.iadd, 1, 0, 0, 0), (.istore 6, 2, 6, 0, 0)], .nop, 0, 11, 0),
  (79, [(.iload 6, 2, 6, 0, 0), (.iload_n 3, 1, 3, 0, 0)], .if_icmp .gt 39, 3, 17, 12),
  (85, [(.aload_n 0, 1, 0, 0, 0), (.iload 5, 2, 5, 0, 0), (.iload 6, 2, 6, 0, 0), (.iload_n 3, 1, 3, 0, 0), (.iconst 3, 1, 0, 0, 3)], .invokevirtual 47, 3, 53, 13),
  (95, [], .ifCond .eq 20, 3, 16, 14),
  (98, [(.aload_n 0, 1, 0, 0, 0), (.aload_n 1, 1, 1, 0, 0), (.iload 5, 2, 5, 0, 0), (.iload 6, 2, 6, 0, 0), (.iload 4, 2, 4, 0, 0), (.iconst 1, 1, 0, 0, 1), (.iadd, 1, 0, 0, 0)], .invokevirtual 51, 3, 48, 15),
  (111, [(.iload 6, 2, 6, 0, 0), (.istore 5, 2, 5, 0, 0)], .nop, 0, 16, 0),
  (115, [(.iinc 6 1, 3, 6, 0, 1)], .goto (-39), 3, 11, 0),
  (121, [], .return_, 1, 0, 0)]
def cd_X5_markTied : List SG := [(0, [(.aload_n 0, 1, 0, 0, 0), (.iload_n 2, 1, 2, 0, 0), (.iload_n 3, 1, 3, 0, 0)], .invokevirtual 66, 3, 47, 1),
  (6, [(.istore 4, 2, 4, 0, 0), (.iload_n 2, 1, 2, 0, 0), (.istore 5, 2, 5, 0, 0)], .nop, 0, 2, 0),
  (11, [(.iload 5, 2, 5, 0, 0), (.iload_n 3, 1, 3, 0, 0)], .if_icmp .ge 72, 3, 10, 3),
  (17, [(.aload_n 0, 1, 0, 0, 0), (.getfield 20, 3, 1, 5, 1), (.iload 5, 2, 5, 0, 0), (.iaload, 1, 0, 0, 0), (.istore 6, 2, 6, 0, 0), (.aload_n 0, 1, 0, 0, 0), (.getfield 16, 3, 0, 5, 0), (.iload 6, 2, 6, 0, 0), (.iconst 0, 1, 0, 0, 0), (.aload_n 1, 1, 1, 0, 0), (.iload 6, 2, 6, 0, 0), (.iload 4, 2, 4, 0, 0)], .invokevirtual 70, 3, 16, 4),
  (41, [], .invokevirtual 39, 3, 28, 5),
  (44, [(.aload_n 0, 1, 0, 0, 0), (.getfield 16, 3, 0, 5, 0), (.iload 6, 2, 6, 0, 0), (.iconst 1, 1, 0, 0, 1), (.aload_n 1, 1, 1, 0, 0), (.iload 6, 2, 6, 0, 0), (.iload 4, 2, 4, 0, 0)], .invokevirtual 73, 3, 17, 6),
  (59, [], .invokevirtual 39, 3, 28, 7),
  (62, [(.aload_n 0, 1, 0, 0, 0), (.getfield 16, 3, 0, 5, 0), (.iload 6, 2, 6, 0, 0), (.iconst 2, 1, 0, 0, 2), (.aload_n 1, 1, 1, 0, 0), (.iload 6, 2, 6, 0, 0), (.iload 4, 2, 4, 0, 0)], .invokevirtual 76, 3, 18, 8),
  (77, [], .invokevirtual 39, 3, 28, 9),
  (80, [(.iinc 5 1, 3, 5, 0, 1)], .goto (-72), 3, 2, 0),
  (86, [], .return_, 1, 0, 0)]
def cd_X5_markAll : List SG := [(0, [(.aload_n 1, 1, 1, 0, 0)], .invokevirtual 79, 3, 5, 1),
  (4, [(.istore 4, 2, 4, 0, 0), (.iload_n 2, 1, 2, 0, 0), (.istore 5, 2, 5, 0, 0)], .nop, 0, 2, 0),
  (9, [(.iload 5, 2, 5, 0, 0), (.iload_n 3, 1, 3, 0, 0)], .if_icmp .ge 86, 3, 12, 3),
  (15, [(.aload_n 0, 1, 0, 0, 0), (.getfield 20, 3, 1, 5, 1), (.iload 5, 2, 5, 0, 0), (.iaload, 1, 0, 0, 0), (.istore 6, 2, 6, 0, 0), (.aload_n 0, 1, 0, 0, 0), (.getfield 16, 3, 0, 5, 0), (.iload 6, 2, 6, 0, 0), (.iconst 0, 1, 0, 0, 0), (.aload_n 1, 1, 1, 0, 0), (.iload 6, 2, 6, 0, 0), (.iload 4, 2, 4, 0, 0)], .invokevirtual 73, 3, 17, 4),
  (39, [], .invokevirtual 39, 3, 28, 5),
  (42, [(.aload_n 0, 1, 0, 0, 0), (.getfield 16, 3, 0, 5, 0), (.iload 6, 2, 6, 0, 0), (.iconst 1, 1, 0, 0, 1), (.aload_n 1, 1, 1, 0, 0), (.iload 6, 2, 6, 0, 0), (.iload 4, 2, 4, 0, 0)], .invokevirtual 76, 3, 18, 6),
  (57, [], .invokevirtual 39, 3, 28, 7),
  (60, [(.aload_n 0, 1, 0, 0, 0), (.getfield 16, 3, 0, 5, 0), (.iload 6, 2, 6, 0, 0), (.iconst 2, 1, 0, 0, 2), (.aload_n 1, 1, 1, 0, 0), (.iload 6, 2, 6, 0, 0)], .invokevirtual 82, 3, 19, 8),
  (73, [], .invokevirtual 39, 3, 28, 9),
  (76, [(.aload_n 0, 1, 0, 0, 0), (.getfield 16, 3, 0, 5, 0), (.iload 6, 2, 6, 0, 0), (.iconst 3, 1, 0, 0, 3), (.aload_n 1, 1, 1, 0, 0), (.iload 6, 2, 6, 0, 0)], .invokevirtual 85, 3, 20, 10),
  (89, [], .invokevirtual 39, 3, 28, 11),
  (92, [(.iinc 5 1, 3, 5, 0, 1)], .goto (-86), 3, 2, 0),
  (98, [], .return_, 1, 0, 0)]
def cd_X5_arrange : List SG := [(0, [(.iload_n 1, 1, 1, 0, 0), (.iconst 1, 1, 0, 0, 1), (.iadd, 1, 0, 0, 0), (.istore 5, 2, 5, 0, 0)], .nop, 0, 1, 0),
  (5, [(.iload 5, 2, 5, 0, 0), (.iload_n 2, 1, 2, 0, 0)], .if_icmp .ge 88, 3, 8, 2),
  (11, [(.iload 5, 2, 5, 0, 0), (.istore 6, 2, 6, 0, 0)], .nop, 0, 3, 0),
  (15, [(.iload 6, 2, 6, 0, 0), (.iload_n 1, 1, 1, 0, 0)], .if_icmp .le 72, 3, 7, 4),
  (21, [(.aload_n 0, 1, 0, 0, 0), (.getfield 16, 3, 0, 5, 0), (.aload_n 0, 1, 0, 0, 0), (.getfield 20, 3, 1, 5, 1), (.iload 6, 2, 6, 0, 0), (.iaload, 1, 0, 0, 0), (.aload_n 0, 1, 0, 0, 0), (.getfield 20, 3, 1, 5, 1), (.iload 6, 2, 6, 0, 0), (.iconst 1, 1, 0, 0, 1), (.isub, 1, 0, 0, 0), (.iaload, 1, 0, 0, 0), (.iload_n 3, 1, 3, 0, 0)], .invokevirtual 88, 3, 31, 5),
  (45, [], .ifCond .eq 45, 3, 7, 6),
  (48, [(.aload_n 0, 1, 0, 0, 0), (.getfield 20, 3, 1, 5, 1), (.iload 6, 2, 6, 0, 0), (.iaload, 1, 0, 0, 0), (.istore 7, 2, 7, 0, 0), (.aload_n 0, 1, 0, 0, 0), (.getfield 20, 3, 1, 5, 1), (.iload 6, 2, 6, 0, 0), (.aload_n 0, 1, 0, 0, 0), (.getfield 20, 3, 1, 5, 1), (.iload 6, 2, 6, 0, 0), (.iconst 1, 1, 0, 0, 1), (.isub, 1, 0, 0, 0), (.iaload, 1, 0, 0, 0), (.iastore, 1, 0, 0, 0), (.aload_n 0, 1, 0, 0, 0), (.getfield 20, 3, 1, 5, 1), (.iload 6, 2, 6, 0, 0), (.iconst 1, 1, 0, 0, 1), (.isub, 1, 0, 0, 0), (.iload 7, 2, 7, 0, 0), (.iastore, 1, 0, 0, 0), (.iinc 6 (-1), 3, 6, 0, (-1))], .goto (-72), 3, 3, 0),
  (90, [(.iinc 5 1, 3, 5, 0, 1)], .goto (-88), 3, 1, 0),
  (96, [(.iload_n 1, 1, 1, 0, 0), (.istore 5, 2, 5, 0, 0)], .nop, 0, 9, 0),
  (99, [(.iload 5, 2, 5, 0, 0), (.iload_n 2, 1, 2, 0, 0)], .if_icmp .ge 48, 3, 15, 10),
  (105, [(.iload 5, 2, 5, 0, 0), (.iconst 1, 1, 0, 0, 1), (.iadd, 1, 0, 0, 0), (.istore 6, 2, 6, 0, 0)], .nop, 0, 11, 0),
  (111, [(.iload 6, 2, 6, 0, 0), (.iload_n 2, 1, 2, 0, 0)], .if_icmp .ge 30, 3, 14, 12),
  (117, [(.aload_n 0, 1, 0, 0, 0), (.aload_n 0, 1, 0, 0, 0), (.getfield 20, 3, 1, 5, 1), (.iload 5, 2, 5, 0, 0), (.iaload, 1, 0, 0, 0), (.aload_n 0, 1, 0, 0, 0), (.getfield 20, 3, 1, 5, 1), (.iload 6, 2, 6, 0, 0), (.iaload, 1, 0, 0, 0), (.iload_n 3, 1, 3, 0, 0), (.iload 4, 2, 4, 0, 0)], .invokevirtual 92, 3, 52, 13),
  (138, [(.iinc 6 1, 3, 6, 0, 1)], .goto (-30), 3, 11, 0),
  (144, [(.iinc 5 1, 3, 5, 0, 1)], .goto (-48), 3, 9, 0),
  (150, [], .return_, 1, 0, 0)]
def cd_X5_noteRule : List SG := [(0, [(.aload_n 0, 1, 0, 0, 0), (.getfield 16, 3, 0, 5, 0), (.iload_n 1, 1, 1, 0, 0), (.iload_n 2, 1, 2, 0, 0), (.iload_n 3, 1, 3, 0, 0)], .invokevirtual 59, 3, 30, 1),
  (10, [(.istore 5, 2, 5, 0, 0), (.iload 5, 2, 5, 0, 0), (.iload_n 3, 1, 3, 0, 0)], .if_icmp .ge 29, 3, 3, 2),
  (18, [(.aload_n 0, 1, 0, 0, 0), (.getfield 26, 3, 2, 5, 2), (.iload_n 1, 1, 1, 0, 0), (.aaload, 1, 0, 0, 0), (.iload_n 2, 1, 2, 0, 0), (.iload 4, 2, 4, 0, 0), (.iload 5, 2, 5, 0, 0), (.iadd, 1, 0, 0, 0), (.iastore, 1, 0, 0, 0), (.aload_n 0, 1, 0, 0, 0), (.getfield 26, 3, 2, 5, 2), (.iload_n 2, 1, 2, 0, 0), (.aaload, 1, 0, 0, 0), (.iload_n 1, 1, 1, 0, 0), (.iload 4, 2, 4, 0, 0), (.iload 5, 2, 5, 0, 0), (.iadd, 1, 0, 0, 0), (.iastore, 1, 0, 0, 0)], .nop, 0, 3, 0),
  (44, [], .return_, 1, 0, 0)]
def cd_X5_alikeEnd : List SG := [(0, [(.iload_n 2, 1, 2, 0, 0), (.iload_n 3, 1, 3, 0, 0)], .if_icmp .ge 29, 3, 3, 1),
  (5, [(.aload_n 0, 1, 0, 0, 0), (.getfield 16, 3, 0, 5, 0), (.aload_n 0, 1, 0, 0, 0), (.getfield 20, 3, 1, 5, 1), (.iload_n 1, 1, 1, 0, 0), (.iaload, 1, 0, 0, 0), (.aload_n 0, 1, 0, 0, 0), (.getfield 20, 3, 1, 5, 1), (.iload_n 2, 1, 2, 0, 0), (.iaload, 1, 0, 0, 0), (.iload 4, 2, 4, 0, 0)], .invokevirtual 59, 3, 30, 2),
  (26, [(.iload 4, 2, 4, 0, 0)], .if_icmp .ge 7, 3, 4, 3),
  (31, [(.iconst 1, 1, 0, 0, 1)], .goto 4, 3, 5, 0),
  (35, [(.iconst 0, 1, 0, 0, 0)], .nop, 0, 5, 0),
  (36, [], .ireturn, 1, 1, 0)]
def cd_X6_measure : List SG := [(0, [(.aload_n 1, 1, 1, 0, 0), (.iload_n 2, 1, 2, 0, 0)], .invokestatic 20, 3, 57, 1),
  (5, [(.istore 4, 2, 4, 0, 0), (.iconst 0, 1, 0, 0, 0), (.istore 5, 2, 5, 0, 0)], .nop, 0, 2, 0),
  (10, [(.iload 5, 2, 5, 0, 0), (.iload_n 2, 1, 2, 0, 0)], .if_icmp .ge 140, 3, 18, 3),
  (16, [(.aload_n 1, 1, 1, 0, 0), (.iload 5, 2, 5, 0, 0), (.aaload, 1, 0, 0, 0), (.astore 6, 2, 6, 0, 0), (.aload_n 3, 1, 3, 0, 0), (.aload 6, 2, 6, 0, 0)], .invokevirtual 24, 3, 43, 4),
  (28, [(.aload_n 3, 1, 3, 0, 0), (.iconst 2, 1, 0, 0, 2)], .invokevirtual 30, 3, 44, 5),
  (33, [(.istore 7, 2, 7, 0, 0), (.aload_n 3, 1, 3, 0, 0), (.iconst 0, 1, 0, 0, 0), (.iload 4, 2, 4, 0, 0)], .invokevirtual 34, 3, 47, 6),
  (42, [(.istore 8, 2, 8, 0, 0), (.aload 6, 2, 6, 0, 0), (.iload 7, 2, 7, 0, 0), (.iload 8, 2, 8, 0, 0)], .invokevirtual 38, 3, 16, 7),
  (53, [(.istore 9, 2, 9, 0, 0), (.aload_n 0, 1, 0, 0, 0), (.getfield 16, 3, 0, 6, 0), (.iload 5, 2, 5, 0, 0), (.iconst 0, 1, 0, 0, 0), (.iload 9, 2, 9, 0, 0), (.aload 6, 2, 6, 0, 0), (.iload 7, 2, 7, 0, 0)], .invokevirtual 43, 3, 15, 8),
  (71, [(.isub, 1, 0, 0, 0)], .invokevirtual 46, 3, 28, 9),
  (75, [(.aload_n 0, 1, 0, 0, 0), (.getfield 16, 3, 0, 6, 0), (.iload 5, 2, 5, 0, 0), (.iconst 1, 1, 0, 0, 1), (.aload 6, 2, 6, 0, 0), (.iload 7, 2, 7, 0, 0), (.iload 8, 2, 8, 0, 0)], .invokevirtual 50, 3, 17, 10),
  (91, [], .invokevirtual 46, 3, 28, 11),
  (94, [(.aload_n 0, 1, 0, 0, 0), (.getfield 16, 3, 0, 6, 0), (.iload 5, 2, 5, 0, 0), (.iconst 2, 1, 0, 0, 2), (.aload 6, 2, 6, 0, 0), (.iload 7, 2, 7, 0, 0), (.iload 8, 2, 8, 0, 0)], .invokevirtual 53, 3, 18, 12),
  (110, [], .invokevirtual 46, 3, 28, 13),
  (113, [(.aload_n 0, 1, 0, 0, 0), (.getfield 16, 3, 0, 6, 0), (.iload 5, 2, 5, 0, 0), (.iconst 3, 1, 0, 0, 3), (.aload 6, 2, 6, 0, 0), (.iload 7, 2, 7, 0, 0)], .invokevirtual 56, 3, 19, 14),
  (127, [], .invokevirtual 46, 3, 28, 15),
  (130, [(.aload_n 0, 1, 0, 0, 0), (.getfield 16, 3, 0, 6, 0), (.iload 5, 2, 5, 0, 0), (.iconst 4, 1, 0, 0, 4), (.aload 6, 2, 6, 0, 0), (.iload 7, 2, 7, 0, 0)], .invokevirtual 59, 3, 20, 16),
  (144, [], .invokevirtual 46, 3, 28, 17),
  (147, [(.iinc 5 1, 3, 5, 0, 1)], .goto (-140), 3, 2, 0),
  (153, [], .return_, 1, 0, 0)]
def cd_X6_pointsOfThird : List SG := [(0, [(.aload_n 0, 1, 0, 0, 0), (.getfield 16, 3, 0, 6, 0), (.iload_n 1, 1, 1, 0, 0), (.iconst 0, 1, 0, 0, 0)], .invokevirtual 62, 3, 29, 1),
  (9, [], .ireturn, 1, 0, 0)]
def cd_X6_betterThan : List SG := [(0, [(.iconst 0, 1, 0, 0, 0), (.istore_n 3, 1, 3, 0, 0), (.iconst 0, 1, 0, 0, 0), (.istore 4, 2, 4, 0, 0)], .nop, 0, 1, 0),
  (5, [(.iload 4, 2, 4, 0, 0), (.iload_n 2, 1, 2, 0, 0)], .if_icmp .ge 26, 3, 6, 2),
  (11, [(.aload_n 0, 1, 0, 0, 0), (.getfield 16, 3, 0, 6, 0), (.iload 4, 2, 4, 0, 0), (.iload_n 1, 1, 1, 0, 0), (.iconst 5, 1, 0, 0, 5)], .invokevirtual 65, 3, 31, 3),
  (22, [], .ifCond .eq 6, 3, 5, 4),
  (25, [(.iinc 3 1, 3, 3, 0, 1)], .nop, 0, 5, 0),
  (28, [(.iinc 4 1, 3, 4, 0, 1)], .goto (-26), 3, 1, 0),
  (34, [(.iload_n 3, 1, 3, 0, 0)], .ireturn, 1, 0, 0)]
def cd_X6_smallestSize : List SG := [(0, [(.iconst 5, 1, 0, 0, 5), (.istore_n 2, 1, 2, 0, 0), (.iconst 0, 1, 0, 0, 0), (.istore_n 3, 1, 3, 0, 0)], .nop, 0, 1, 0),
  (4, [(.iload_n 3, 1, 3, 0, 0), (.iload_n 1, 1, 1, 0, 0)], .if_icmp .ge 20, 3, 4, 2),
  (9, [(.iload_n 2, 1, 2, 0, 0), (.aload_n 0, 1, 0, 0, 0), (.iload_n 3, 1, 3, 0, 0), (.aaload, 1, 0, 0, 0)], .invokevirtual 69, 3, 1, 3),
  (16, [(.invokestatic 73, 3, 0, 0, 0), (.istore_n 2, 1, 2, 0, 0), (.iinc 3 1, 3, 3, 0, 1)], .goto (-19), 3, 1, 0),
  (26, [(.iload_n 2, 1, 2, 0, 0)], .ireturn, 1, 0, 0)]
def cd_X7_addGroup : List SG := [(0, [(.iload_n 1, 1, 1, 0, 0), (.iconst 3, 1, 0, 0, 3), (.iconst 5, 1, 0, 0, 5)], .invokestatic 48, 3, 84, 1),
  (6, [(.aload_n 0, 1, 0, 0, 0), (.getfield 52, 3, 5, 7, 5), (.bipush 6, 2, 0, 0, 6)], .if_icmp .lt 13, 3, 3, 2),
  (15, [], .new 55, 3, 2, 57),
  (25, [(.aload_n 0, 1, 0, 0, 0), (.getfield 62, 3, 6, 7, 6), (.istore_n 2, 1, 2, 0, 0), (.aload_n 0, 1, 0, 0, 0), (.getfield 11, 3, 0, 7, 0), (.aload_n 0, 1, 0, 0, 0), (.getfield 52, 3, 5, 7, 5), (.aaload, 1, 0, 0, 0), (.iload_n 2, 1, 2, 0, 0), (.iload_n 1, 1, 1, 0, 0)], .invokevirtual 65, 3, 0, 4),
  (44, [(.aload_n 0, 1, 0, 0, 0), (.dup, 1, 0, 0, 0), (.getfield 52, 3, 5, 7, 5), (.iconst 1, 1, 0, 0, 1), (.iadd, 1, 0, 0, 0), (.putfield 52, 3, 5, 7, 5), (.aload_n 0, 1, 0, 0, 0), (.dup, 1, 0, 0, 0), (.getfield 62, 3, 6, 7, 6), (.iload_n 1, 1, 1, 0, 0), (.iadd, 1, 0, 0, 0), (.putfield 62, 3, 6, 7, 6), (.iload_n 2, 1, 2, 0, 0)], .ireturn, 1, 0, 0)]
def cd_X7_setResult : List SG := [(0, [(.aload_n 0, 1, 0, 0, 0), (.iload_n 1, 1, 1, 0, 0), (.iload_n 2, 1, 2, 0, 0)], .invokevirtual 69, 3, 88, 1),
  (6, [(.astore 5, 2, 5, 0, 0), (.iload_n 3, 1, 3, 0, 0), (.iconst 0, 1, 0, 0, 0), (.bipush 20, 2, 0, 0, 20)], .invokestatic 48, 3, 84, 2),
  (15, [(.iload 4, 2, 4, 0, 0), (.iconst 0, 1, 0, 0, 0), (.bipush 20, 2, 0, 0, 20)], .invokestatic 48, 3, 84, 3),
  (23, [(.aload 5, 2, 5, 0, 0), (.aload 5, 2, 5, 0, 0), (.iload_n 1, 1, 1, 0, 0)], .invokevirtual 73, 3, 3, 4),
  (31, [(.aload 5, 2, 5, 0, 0), (.iload_n 2, 1, 2, 0, 0)], .invokevirtual 73, 3, 3, 5),
  (37, [(.iload_n 3, 1, 3, 0, 0), (.iload 4, 2, 4, 0, 0)], .invokevirtual 77, 3, 6, 6),
  (43, [(.aload 5, 2, 5, 0, 0)], .invokevirtual 81, 3, 13, 7),
  (48, [], .ireturn, 1, 0, 0)]
def cd_X7_strike : List SG := [(0, [(.aload_n 0, 1, 0, 0, 0), (.iload_n 1, 1, 1, 0, 0), (.iload_n 2, 1, 2, 0, 0)], .invokevirtual 69, 3, 88, 1),
  (6, [(.astore_n 3, 1, 3, 0, 0), (.aload_n 3, 1, 3, 0, 0), (.iload_n 1, 1, 1, 0, 0)], .invokevirtual 73, 3, 3, 2),
  (12, [(.istore 4, 2, 4, 0, 0), (.aload_n 3, 1, 3, 0, 0), (.iload_n 2, 1, 2, 0, 0)], .invokevirtual 73, 3, 3, 3),
  (19, [(.istore 5, 2, 5, 0, 0), (.aload_n 3, 1, 3, 0, 0), (.iload 4, 2, 4, 0, 0), (.iload 5, 2, 5, 0, 0)], .invokevirtual 85, 3, 8, 4),
  (29, [], .ifCond .ne 13, 3, 6, 5),
  (32, [], .new 55, 3, 2, 89),
  (42, [(.aload_n 3, 1, 3, 0, 0), (.iload 4, 2, 4, 0, 0), (.iload 5, 2, 5, 0, 0)], .invokevirtual 91, 3, 7, 7),
  (50, [(.aload_n 3, 1, 3, 0, 0)], .invokevirtual 81, 3, 13, 8),
  (54, [], .ireturn, 1, 0, 0)]
def cd_X7_takeAway : List SG := [(0, [(.aload_n 0, 1, 0, 0, 0), (.iload_n 1, 1, 1, 0, 0)], .invokevirtual 94, 3, 87, 1),
  (5, [(.astore_n 3, 1, 3, 0, 0), (.iload_n 2, 1, 2, 0, 0), (.iconst 0, 1, 0, 0, 0), (.bipush 20, 2, 0, 0, 20)], .invokestatic 48, 3, 84, 2),
  (13, [(.aload_n 3, 1, 3, 0, 0), (.aload_n 3, 1, 3, 0, 0), (.iload_n 1, 1, 1, 0, 0)], .invokevirtual 73, 3, 3, 3),
  (19, [(.iload_n 2, 1, 2, 0, 0)], .invokevirtual 98, 3, 9, 4),
  (23, [], .ireturn, 1, 0, 0)]
def cd_X7_setCards : List SG := [(0, [(.aload_n 0, 1, 0, 0, 0), (.iload_n 1, 1, 1, 0, 0)], .invokevirtual 94, 3, 87, 1),
  (5, [(.astore_n 3, 1, 3, 0, 0), (.iload_n 2, 1, 2, 0, 0), (.iconst 0, 1, 0, 0, 0), (.bipush 50, 2, 0, 0, 50)], .invokestatic 48, 3, 84, 2),
  (13, [(.aload_n 3, 1, 3, 0, 0), (.aload_n 3, 1, 3, 0, 0), (.iload_n 1, 1, 1, 0, 0)], .invokevirtual 73, 3, 3, 3),
  (19, [(.iload_n 2, 1, 2, 0, 0)], .invokevirtual 102, 3, 10, 4),
  (23, [], .ireturn, 1, 0, 0)]
def cd_X7_setLot : List SG := [(0, [(.aload_n 0, 1, 0, 0, 0), (.iload_n 1, 1, 1, 0, 0)], .invokevirtual 94, 3, 87, 1),
  (5, [(.astore_n 3, 1, 3, 0, 0), (.iload_n 2, 1, 2, 0, 0), (.iconst 0, 1, 0, 0, 0), (.bipush 99, 2, 0, 0, 99)], .invokestatic 48, 3, 84, 2),
  (13, [(.aload_n 3, 1, 3, 0, 0), (.aload_n 3, 1, 3, 0, 0), (.iload_n 1, 1, 1, 0, 0)], .invokevirtual 73, 3, 3, 3),
  (19, [(.iload_n 2, 1, 2, 0, 0)], .invokevirtual 105, 3, 11, 4),
  (23, [], .ireturn, 1, 0, 0)]
def cd_X7_setThrough : List SG := [(0, [(.iload_n 1, 1, 1, 0, 0), (.iconst 1, 1, 0, 0, 1), (.iconst 2, 1, 0, 0, 2)], .invokestatic 48, 3, 84, 1),
  (6, [(.iload_n 2, 1, 2, 0, 0), (.iconst 0, 1, 0, 0, 0), (.bipush 6, 2, 0, 0, 6)], .invokestatic 48, 3, 84, 2),
  (13, [(.aload_n 0, 1, 0, 0, 0), (.iload_n 1, 1, 1, 0, 0), (.putfield 43, 3, 7, 7, 7), (.aload_n 0, 1, 0, 0, 0), (.iload_n 2, 1, 2, 0, 0), (.putfield 108, 3, 8, 7, 8)], .return_, 1, 0, 0)]
def cd_X7_groups : List SG := [(0, [(.aload_n 0, 1, 0, 0, 0), (.getfield 52, 3, 5, 7, 5)], .ireturn, 1, 0, 0)]
def cd_X7_teams : List SG := [(0, [(.aload_n 0, 1, 0, 0, 0), (.getfield 62, 3, 6, 7, 6)], .ireturn, 1, 0, 0)]
def cd_X7_groupOf : List SG := [(0, [(.aload_n 0, 1, 0, 0, 0), (.iload_n 1, 1, 1, 0, 0)], .invokevirtual 111, 3, 86, 1),
  (5, [], .ireturn, 1, 0, 0)]
def cd_X7_played : List SG := [(0, [(.aload_n 0, 1, 0, 0, 0), (.iload_n 1, 1, 1, 0, 0)], .invokevirtual 94, 3, 87, 1),
  (5, [(.astore_n 2, 1, 2, 0, 0), (.aload_n 2, 1, 2, 0, 0), (.aload_n 2, 1, 2, 0, 0), (.iload_n 1, 1, 1, 0, 0)], .invokevirtual 73, 3, 3, 2),
  (12, [], .invokevirtual 114, 3, 12, 3),
  (15, [], .ireturn, 1, 0, 0)]
def cd_X7_points : List SG := [(0, [(.aload_n 0, 1, 0, 0, 0), (.iload_n 1, 1, 1, 0, 0)], .invokevirtual 94, 3, 87, 1),
  (5, [(.astore_n 2, 1, 2, 0, 0), (.aload_n 2, 1, 2, 0, 0), (.aload_n 2, 1, 2, 0, 0), (.iload_n 1, 1, 1, 0, 0)], .invokevirtual 73, 3, 3, 2),
  (12, [], .invokevirtual 117, 3, 14, 3),
  (15, [], .ireturn, 1, 0, 0)]
def cd_X7_difference : List SG := [(0, [(.aload_n 0, 1, 0, 0, 0), (.iload_n 1, 1, 1, 0, 0)], .invokevirtual 94, 3, 87, 1),
  (5, [(.astore_n 2, 1, 2, 0, 0), (.aload_n 2, 1, 2, 0, 0), (.aload_n 2, 1, 2, 0, 0), (.iload_n 1, 1, 1, 0, 0)], .invokevirtual 73, 3, 3, 2),
  (12, [(.aload_n 2, 1, 2, 0, 0)], .invokevirtual 120, 3, 5, 3),
  (16, [], .invokevirtual 123, 3, 17, 4),
  (19, [], .ireturn, 1, 0, 0)]
def cd_X7_goals : List SG := [(0, [(.aload_n 0, 1, 0, 0, 0), (.iload_n 1, 1, 1, 0, 0)], .invokevirtual 94, 3, 87, 1),
  (5, [(.astore_n 2, 1, 2, 0, 0), (.aload_n 2, 1, 2, 0, 0), (.aload_n 2, 1, 2, 0, 0), (.iload_n 1, 1, 1, 0, 0)], .invokevirtual 73, 3, 3, 2),
  (12, [(.aload_n 2, 1, 2, 0, 0)], .invokevirtual 120, 3, 5, 3),
  (16, [], .invokevirtual 126, 3, 18, 4),
  (19, [], .ireturn, 1, 0, 0)]
def cd_X7_place : List SG := [(0, [(.aload_n 0, 1, 0, 0, 0), (.iload_n 1, 1, 1, 0, 0)], .invokevirtual 94, 3, 87, 1),
  (5, [(.astore_n 2, 1, 2, 0, 0), (.aload_n 0, 1, 0, 0, 0), (.getfield 18, 3, 1, 7, 1), (.aload_n 2, 1, 2, 0, 0)], .invokevirtual 129, 3, 43, 2),
  (14, [(.aload_n 0, 1, 0, 0, 0), (.getfield 18, 3, 1, 7, 1), (.aload_n 2, 1, 2, 0, 0), (.iload_n 1, 1, 1, 0, 0)], .invokevirtual 73, 3, 3, 3),
  (23, [], .invokevirtual 133, 3, 45, 4),
  (26, [], .ireturn, 1, 0, 0)]
def cd_X7_teamAt : List SG := [(0, [(.aload_n 0, 1, 0, 0, 0), (.iload_n 1, 1, 1, 0, 0)], .invokevirtual 136, 3, 85, 1),
  (5, [(.aload_n 0, 1, 0, 0, 0), (.getfield 11, 3, 0, 7, 0), (.iload_n 1, 1, 1, 0, 0), (.aaload, 1, 0, 0, 0), (.astore_n 3, 1, 3, 0, 0), (.iload_n 2, 1, 2, 0, 0)], .ifCond .lt 11, 3, 4, 2),
  (16, [(.iload_n 2, 1, 2, 0, 0), (.aload_n 3, 1, 3, 0, 0)], .invokevirtual 140, 3, 1, 3),
  (21, [], .if_icmp .lt 13, 3, 5, 4),
  (24, [], .new 143, 3, 0, 145),
  (34, [(.aload_n 0, 1, 0, 0, 0), (.getfield 18, 3, 1, 7, 1), (.aload_n 3, 1, 3, 0, 0)], .invokevirtual 129, 3, 43, 6),
  (42, [(.aload_n 3, 1, 3, 0, 0), (.aload_n 0, 1, 0, 0, 0), (.getfield 18, 3, 1, 7, 1), (.iload_n 2, 1, 2, 0, 0)], .invokevirtual 148, 3, 44, 7),
  (51, [], .invokevirtual 151, 3, 4, 8),
  (54, [], .ireturn, 1, 0, 0)]
def cd_X7_rule : List SG := [(0, [(.aload_n 0, 1, 0, 0, 0), (.iload_n 1, 1, 1, 0, 0), (.iload_n 2, 1, 2, 0, 0)], .invokevirtual 69, 3, 88, 1),
  (6, [(.astore_n 3, 1, 3, 0, 0), (.aload_n 0, 1, 0, 0, 0), (.getfield 18, 3, 1, 7, 1), (.aload_n 3, 1, 3, 0, 0)], .invokevirtual 129, 3, 43, 2),
  (15, [(.aload_n 0, 1, 0, 0, 0), (.getfield 18, 3, 1, 7, 1), (.aload_n 3, 1, 3, 0, 0), (.iload_n 1, 1, 1, 0, 0)], .invokevirtual 73, 3, 3, 3),
  (24, [(.aload_n 3, 1, 3, 0, 0), (.iload_n 2, 1, 2, 0, 0)], .invokevirtual 73, 3, 3, 4),
  (29, [], .invokevirtual 154, 3, 46, 5),
  (32, [], .ireturn, 1, 0, 0)]
def cd_X7_matchesLeft : List SG := [(0, [(.aload_n 0, 1, 0, 0, 0), (.iload_n 1, 1, 1, 0, 0)], .invokevirtual 136, 3, 85, 1),
  (5, [(.aload_n 0, 1, 0, 0, 0), (.getfield 11, 3, 0, 7, 0), (.iload_n 1, 1, 1, 0, 0), (.aaload, 1, 0, 0, 0)], .invokevirtual 81, 3, 13, 2),
  (14, [], .ireturn, 1, 0, 0)]
def cd_X7_thirdPoints : List SG := [(0, [(.aload_n 0, 1, 0, 0, 0), (.iload_n 1, 1, 1, 0, 0)], .invokevirtual 136, 3, 85, 1),
  (5, [(.aload_n 0, 1, 0, 0, 0), (.getfield 25, 3, 2, 7, 2), (.aload_n 0, 1, 0, 0, 0), (.getfield 11, 3, 0, 7, 0), (.aload_n 0, 1, 0, 0, 0), (.getfield 52, 3, 5, 7, 5), (.aload_n 0, 1, 0, 0, 0), (.getfield 18, 3, 1, 7, 1)], .invokevirtual 157, 3, 54, 2),
  (24, [(.aload_n 0, 1, 0, 0, 0), (.getfield 25, 3, 2, 7, 2), (.iload_n 1, 1, 1, 0, 0)], .invokevirtual 161, 3, 55, 3),
  (32, [], .ireturn, 1, 0, 0)]
def cd_X7_thirdRank : List SG := [(0, [(.aload_n 0, 1, 0, 0, 0), (.iload_n 1, 1, 1, 0, 0)], .invokevirtual 136, 3, 85, 1),
  (5, [(.aload_n 0, 1, 0, 0, 0), (.getfield 25, 3, 2, 7, 2), (.aload_n 0, 1, 0, 0, 0), (.getfield 11, 3, 0, 7, 0), (.aload_n 0, 1, 0, 0, 0), (.getfield 52, 3, 5, 7, 5), (.aload_n 0, 1, 0, 0, 0), (.getfield 18, 3, 1, 7, 1)], .invokevirtual 157, 3, 54, 2),
  (24, [(.aload_n 0, 1, 0, 0, 0), (.getfield 25, 3, 2, 7, 2), (.iload_n 1, 1, 1, 0, 0), (.aload_n 0, 1, 0, 0, 0), (.getfield 52, 3, 5, 7, 5)], .invokevirtual 164, 3, 56, 3),
  (36, [], .ireturn, 1, 0, 0)]
def cd_X7_isThrough : List SG := [(0, [(.aload_n 0, 1, 0, 0, 0), (.iload_n 1, 1, 1, 0, 0)], .invokevirtual 111, 3, 86, 1),
  (5, [(.istore_n 2, 1, 2, 0, 0), (.aload_n 0, 1, 0, 0, 0), (.getfield 11, 3, 0, 7, 0), (.iload_n 2, 1, 2, 0, 0), (.aaload, 1, 0, 0, 0), (.astore_n 3, 1, 3, 0, 0), (.aload_n 0, 1, 0, 0, 0), (.getfield 18, 3, 1, 7, 1), (.aload_n 3, 1, 3, 0, 0)], .invokevirtual 129, 3, 43, 2),
  (21, [(.aload_n 0, 1, 0, 0, 0), (.getfield 18, 3, 1, 7, 1), (.aload_n 3, 1, 3, 0, 0), (.iload_n 1, 1, 1, 0, 0)], .invokevirtual 73, 3, 3, 3),
  (30, [], .invokevirtual 133, 3, 45, 4),
  (33, [(.istore 4, 2, 4, 0, 0), (.iload 4, 2, 4, 0, 0), (.iconst 2, 1, 0, 0, 2)], .if_icmp .eq 18, 3, 9, 5),
  (41, [(.iload 4, 2, 4, 0, 0), (.aload_n 0, 1, 0, 0, 0), (.getfield 43, 3, 7, 7, 7)], .if_icmp .ge 7, 3, 7, 6),
  (50, [(.iconst 1, 1, 0, 0, 1)], .goto 4, 3, 8, 0),
  (54, [(.iconst 0, 1, 0, 0, 0)], .nop, 0, 8, 0),
  (55, [], .ireturn, 1, 1, 0),
  (56, [(.aload_n 0, 1, 0, 0, 0), (.getfield 25, 3, 2, 7, 2), (.aload_n 0, 1, 0, 0, 0), (.getfield 11, 3, 0, 7, 0), (.aload_n 0, 1, 0, 0, 0), (.getfield 52, 3, 5, 7, 5), (.aload_n 0, 1, 0, 0, 0), (.getfield 18, 3, 1, 7, 1)], .invokevirtual 157, 3, 54, 10),
  (75, [(.aload_n 0, 1, 0, 0, 0), (.getfield 25, 3, 2, 7, 2), (.iload_n 2, 1, 2, 0, 0), (.aload_n 0, 1, 0, 0, 0), (.getfield 52, 3, 5, 7, 5)], .invokevirtual 164, 3, 56, 11),
  (87, [(.aload_n 0, 1, 0, 0, 0), (.getfield 108, 3, 8, 7, 8)], .if_icmp .ge 7, 3, 13, 12),
  (94, [(.iconst 1, 1, 0, 0, 1)], .goto 4, 3, 14, 0),
  (98, [(.iconst 0, 1, 0, 0, 0)], .nop, 0, 14, 0),
  (99, [], .ireturn, 1, 1, 0)]
def cd_X7_ways : List SG := [(0, [(.aload_n 0, 1, 0, 0, 0), (.iload_n 1, 1, 1, 0, 0)], .invokevirtual 136, 3, 85, 1),
  (5, [(.getstatic 167, 3, 50, 0, 0), (.aload_n 0, 1, 0, 0, 0), (.getfield 11, 3, 0, 7, 0), (.iload_n 1, 1, 1, 0, 0), (.aaload, 1, 0, 0, 0)], .invokevirtual 81, 3, 13, 2),
  (17, [(.iaload, 1, 0, 0, 0)], .ireturn, 1, 0, 0)]
def cd_X7_waysSafe : List SG := [(0, [(.aload_n 0, 1, 0, 0, 0), (.iload_n 1, 1, 1, 0, 0)], .invokevirtual 94, 3, 87, 1),
  (5, [(.astore_n 2, 1, 2, 0, 0), (.aload_n 0, 1, 0, 0, 0), (.getfield 32, 3, 3, 7, 3), (.aload_n 2, 1, 2, 0, 0), (.aload_n 2, 1, 2, 0, 0), (.iload_n 1, 1, 1, 0, 0)], .invokevirtual 73, 3, 3, 2),
  (16, [(.aload_n 0, 1, 0, 0, 0), (.getfield 43, 3, 7, 7, 7), (.iconst 0, 1, 0, 0, 0)], .invokevirtual 171, 3, 32, 3),
  (24, [(.istore_n 3, 1, 3, 0, 0), (.getstatic 167, 3, 50, 0, 0), (.aload_n 2, 1, 2, 0, 0)], .invokevirtual 81, 3, 13, 4),
  (32, [(.iaload, 1, 0, 0, 0), (.iload_n 3, 1, 3, 0, 0), (.isub, 1, 0, 0, 0)], .ireturn, 1, 0, 0)]
def cd_X7_waysLost : List SG := [(0, [(.aload_n 0, 1, 0, 0, 0), (.iload_n 1, 1, 1, 0, 0)], .invokevirtual 94, 3, 87, 1),
  (5, [(.astore_n 2, 1, 2, 0, 0), (.aload_n 0, 1, 0, 0, 0), (.getfield 32, 3, 3, 7, 3), (.aload_n 2, 1, 2, 0, 0), (.aload_n 2, 1, 2, 0, 0), (.iload_n 1, 1, 1, 0, 0)], .invokevirtual 73, 3, 3, 2),
  (16, [(.aload_n 0, 1, 0, 0, 0), (.getfield 43, 3, 7, 7, 7), (.iconst 1, 1, 0, 0, 1)], .invokevirtual 171, 3, 32, 3),
  (24, [], .ireturn, 1, 0, 0)]
def cd_X7_badWay : List SG := [(0, [(.aload_n 0, 1, 0, 0, 0), (.iload_n 1, 1, 1, 0, 0)], .invokevirtual 94, 3, 87, 1),
  (5, [(.astore_n 2, 1, 2, 0, 0), (.aload_n 0, 1, 0, 0, 0), (.getfield 32, 3, 3, 7, 3), (.aload_n 2, 1, 2, 0, 0), (.aload_n 2, 1, 2, 0, 0), (.iload_n 1, 1, 1, 0, 0)], .invokevirtual 73, 3, 3, 2),
  (16, [(.aload_n 0, 1, 0, 0, 0), (.getfield 43, 3, 7, 7, 7), (.iconst 0, 1, 0, 0, 0)], .invokevirtual 175, 3, 33, 3),
  (24, [], .ireturn, 1, 0, 0)]
def cd_X7_scoresThrough : List SG := [(0, [(.aload_n 0, 1, 0, 0, 0), (.iload_n 1, 1, 1, 0, 0)], .invokevirtual 94, 3, 87, 1),
  (5, [(.astore_n 2, 1, 2, 0, 0), (.aload_n 2, 1, 2, 0, 0)], .invokevirtual 81, 3, 13, 2),
  (10, [(.iconst 3, 1, 0, 0, 3)], .if_icmp .le 13, 3, 4, 3),
  (14, [], .new 55, 3, 2, 178),
  (24, [(.aload_n 0, 1, 0, 0, 0), (.getfield 39, 3, 4, 7, 4), (.aload_n 2, 1, 2, 0, 0), (.aload_n 2, 1, 2, 0, 0), (.iload_n 1, 1, 1, 0, 0)], .invokevirtual 73, 3, 3, 5),
  (34, [(.aload_n 0, 1, 0, 0, 0), (.getfield 43, 3, 7, 7, 7), (.aload_n 0, 1, 0, 0, 0), (.getfield 18, 3, 1, 7, 1)], .invokevirtual 180, 3, 41, 6),
  (45, [], .ireturn, 1, 0, 0)]
def cd_X7_needInRange : List SG := [(0, [(.iload_n 0, 1, 0, 0, 0), (.iload_n 1, 1, 1, 0, 0)], .if_icmp .lt 8, 3, 2, 1),
  (5, [(.iload_n 0, 1, 0, 0, 0), (.iload_n 2, 1, 2, 0, 0)], .if_icmp .le 13, 3, 3, 2),
  (10, [], .new 184, 3, 1, 186),
  (20, [], .return_, 1, 0, 0)]
def cd_X7_needGroup : List SG := [(0, [(.iload_n 1, 1, 1, 0, 0)], .ifCond .lt 11, 3, 2, 1),
  (4, [(.iload_n 1, 1, 1, 0, 0), (.aload_n 0, 1, 0, 0, 0), (.getfield 52, 3, 5, 7, 5)], .if_icmp .lt 13, 3, 3, 2),
  (12, [], .new 143, 3, 0, 189),
  (22, [], .return_, 1, 0, 0)]
def cd_X7_groupNumber : List SG := [(0, [(.iload_n 1, 1, 1, 0, 0)], .ifCond .lt 11, 3, 2, 1),
  (4, [(.iload_n 1, 1, 1, 0, 0), (.aload_n 0, 1, 0, 0, 0), (.getfield 62, 3, 6, 7, 6)], .if_icmp .lt 13, 3, 3, 2),
  (12, [], .new 143, 3, 0, 191),
  (22, [(.iconst 0, 1, 0, 0, 0), (.istore_n 2, 1, 2, 0, 0)], .nop, 0, 4, 0),
  (24, [(.iload_n 2, 1, 2, 0, 0), (.aload_n 0, 1, 0, 0, 0), (.getfield 52, 3, 5, 7, 5), (.iconst 1, 1, 0, 0, 1), (.isub, 1, 0, 0, 0)], .if_icmp .ge 22, 3, 8, 5),
  (34, [(.aload_n 0, 1, 0, 0, 0), (.getfield 11, 3, 0, 7, 0), (.iload_n 2, 1, 2, 0, 0), (.aaload, 1, 0, 0, 0), (.iload_n 1, 1, 1, 0, 0)], .invokevirtual 193, 3, 2, 6),
  (44, [], .ifCond .ne 9, 3, 8, 7),
  (47, [(.iinc 2 1, 3, 2, 0, 1)], .goto (-26), 3, 4, 0),
  (53, [(.iload_n 2, 1, 2, 0, 0)], .ireturn, 1, 0, 0)]
def cd_X7_groupWith : List SG := [(0, [(.aload_n 0, 1, 0, 0, 0), (.getfield 11, 3, 0, 7, 0), (.aload_n 0, 1, 0, 0, 0), (.iload_n 1, 1, 1, 0, 0)], .invokevirtual 111, 3, 86, 1),
  (9, [(.aaload, 1, 0, 0, 0)], .areturn, 1, 0, 0)]
def cd_X7_groupOfPair : List SG := [(0, [(.aload_n 0, 1, 0, 0, 0), (.iload_n 1, 1, 1, 0, 0)], .invokevirtual 111, 3, 86, 1),
  (5, [(.istore_n 3, 1, 3, 0, 0), (.aload_n 0, 1, 0, 0, 0), (.iload_n 2, 1, 2, 0, 0)], .invokevirtual 111, 3, 86, 2),
  (11, [(.istore 4, 2, 4, 0, 0), (.iload_n 1, 1, 1, 0, 0), (.iload_n 2, 1, 2, 0, 0)], .if_icmp .eq 9, 3, 4, 3),
  (18, [(.iload_n 3, 1, 3, 0, 0), (.iload 4, 2, 4, 0, 0)], .if_icmp .eq 13, 3, 5, 4),
  (24, [], .new 184, 3, 1, 197),
  (34, [(.aload_n 0, 1, 0, 0, 0), (.getfield 11, 3, 0, 7, 0), (.iload_n 3, 1, 3, 0, 0), (.aaload, 1, 0, 0, 0)], .areturn, 1, 0, 0)]
def cd_X8_thrown : List SG := [(0, [(.aload_n 0, 1, 0, 0, 0), (.getfield 50, 3, 16, 8, 16)], .ireturn, 1, 0, 0)]
def cd_X8_in : List SG := [(0, [(.iload_n 0, 1, 0, 0, 0), (.iload_n 1, 1, 1, 0, 0)], .if_icmp .lt 12, 3, 3, 1),
  (5, [(.iload_n 0, 1, 0, 0, 0), (.iload_n 2, 1, 2, 0, 0)], .if_icmp .gt 7, 3, 3, 2),
  (10, [(.iconst 1, 1, 0, 0, 1)], .goto 4, 3, 4, 0),
  (14, [(.iconst 0, 1, 0, 0, 0)], .nop, 0, 4, 0),
  (15, [], .ireturn, 1, 1, 0)]
def cd_X8_goes : List SG := [(0, [(.aload_n 0, 1, 0, 0, 0), (.iload_n 1, 1, 1, 0, 0)], .ifCond .ne 7, 3, 2, 1),
  (5, [(.iconst 1, 1, 0, 0, 1)], .goto 20, 3, 7, 0),
  (9, [(.iload_n 2, 1, 2, 0, 0)], .ifCond .ne 7, 3, 4, 3),
  (13, [(.iconst 2, 1, 0, 0, 2)], .goto 12, 3, 7, 0),
  (17, [(.iload_n 3, 1, 3, 0, 0)], .ifCond .ne 7, 3, 6, 5),
  (21, [(.iconst 3, 1, 0, 0, 3)], .goto 4, 3, 7, 0),
  (25, [(.iconst 0, 1, 0, 0, 0)], .nop, 0, 7, 0),
  (26, [(.putfield 50, 3, 16, 8, 16), (.aload_n 0, 1, 0, 0, 0), (.getfield 50, 3, 16, 8, 16)], .ifCond .ne 7, 3, 9, 8),
  (36, [(.iconst 1, 1, 0, 0, 1)], .goto 4, 3, 10, 0),
  (40, [(.iconst 0, 1, 0, 0, 0)], .nop, 0, 10, 0),
  (41, [], .ireturn, 1, 1, 0)]
def cd_X8_told : List SG := [(0, [(.aload_n 0, 1, 0, 0, 0), (.iconst 0, 1, 0, 0, 0), (.putfield 50, 3, 16, 8, 16), (.iload_n 1, 1, 1, 0, 0)], .ireturn, 1, 0, 0)]
def cd_X8_isTeam : List SG := [(0, [(.iload_n 1, 1, 1, 0, 0), (.iconst 0, 1, 0, 0, 0), (.aload_n 0, 1, 0, 0, 0), (.getfield 53, 3, 1, 8, 1), (.iconst 1, 1, 0, 0, 1), (.isub, 1, 0, 0, 0)], .invokestatic 56, 3, 90, 1),
  (11, [], .ireturn, 1, 1, 0)]
def cd_X8_isGroup : List SG := [(0, [(.iload_n 1, 1, 1, 0, 0), (.iconst 0, 1, 0, 0, 0), (.aload_n 0, 1, 0, 0, 0), (.getfield 60, 3, 0, 8, 0), (.iconst 1, 1, 0, 0, 1), (.isub, 1, 0, 0, 0)], .invokestatic 56, 3, 90, 1),
  (11, [], .ireturn, 1, 1, 0)]
def cd_X8_arePair : List SG := [(0, [(.iload_n 1, 1, 1, 0, 0), (.iload_n 2, 1, 2, 0, 0)], .if_icmp .eq 22, 3, 3, 1),
  (5, [(.aload_n 0, 1, 0, 0, 0), (.getfield 20, 3, 6, 8, 6), (.iload_n 1, 1, 1, 0, 0), (.iaload, 1, 0, 0, 0), (.aload_n 0, 1, 0, 0, 0), (.getfield 20, 3, 6, 8, 6), (.iload_n 2, 1, 2, 0, 0), (.iaload, 1, 0, 0, 0)], .if_icmp .ne 7, 3, 3, 2),
  (20, [(.iconst 1, 1, 0, 0, 1)], .goto 4, 3, 4, 0),
  (24, [(.iconst 0, 1, 0, 0, 0)], .nop, 0, 4, 0),
  (25, [], .ireturn, 1, 1, 0)]
def cd_X8_at : List SG := [(0, [(.iconst 5, 1, 0, 0, 5), (.iload_n 1, 1, 1, 0, 0), (.imul, 1, 0, 0, 0), (.iload_n 2, 1, 2, 0, 0), (.iadd, 1, 0, 0, 0), (.aload_n 0, 1, 0, 0, 0), (.getfield 13, 3, 4, 8, 4), (.aload_n 0, 1, 0, 0, 0), (.getfield 20, 3, 6, 8, 6), (.iload_n 1, 1, 1, 0, 0), (.iaload, 1, 0, 0, 0), (.iaload, 1, 0, 0, 0), (.isub, 1, 0, 0, 0)], .ireturn, 1, 0, 0)]
def cd_X8_isPlayed : List SG := [(0, [(.aload_n 0, 1, 0, 0, 0), (.getfield 32, 3, 10, 8, 10), (.aload_n 0, 1, 0, 0, 0), (.iload_n 1, 1, 1, 0, 0), (.iload_n 2, 1, 2, 0, 0)], .invokevirtual 63, 3, 96, 1),
  (10, [(.iaload, 1, 0, 0, 0), (.iconst (-1), 1, 0, 0, (-1))], .if_icmp .eq 7, 3, 3, 2),
  (15, [(.iconst 1, 1, 0, 0, 1)], .goto 4, 3, 4, 0),
  (19, [(.iconst 0, 1, 0, 0, 0)], .nop, 0, 4, 0),
  (20, [], .ireturn, 1, 1, 0)]
def cd_X8_addGroup : List SG := [(0, [(.aload_n 0, 1, 0, 0, 0), (.iload_n 1, 1, 1, 0, 0), (.iconst 3, 1, 0, 0, 3), (.iconst 5, 1, 0, 0, 5)], .invokestatic 56, 3, 90, 1),
  (7, [(.aload_n 0, 1, 0, 0, 0), (.getfield 60, 3, 0, 8, 0), (.bipush 6, 2, 0, 0, 6)], .if_icmp .ge 7, 3, 3, 2),
  (16, [(.iconst 1, 1, 0, 0, 1)], .goto 4, 3, 4, 0),
  (20, [(.iconst 0, 1, 0, 0, 0)], .nop, 0, 4, 0),
  (21, [(.iconst 1, 1, 0, 0, 1)], .invokevirtual 67, 3, 91, 5),
  (25, [], .ifCond .ne 5, 3, 7, 6),
  (28, [(.iconst 0, 1, 0, 0, 0)], .ireturn, 1, 0, 0),
  (30, [(.aload_n 0, 1, 0, 0, 0), (.getfield 13, 3, 4, 8, 4), (.aload_n 0, 1, 0, 0, 0), (.getfield 60, 3, 0, 8, 0), (.aload_n 0, 1, 0, 0, 0), (.getfield 53, 3, 1, 8, 1), (.iastore, 1, 0, 0, 0), (.aload_n 0, 1, 0, 0, 0), (.getfield 17, 3, 5, 8, 5), (.aload_n 0, 1, 0, 0, 0), (.getfield 60, 3, 0, 8, 0), (.iload_n 1, 1, 1, 0, 0), (.iastore, 1, 0, 0, 0), (.iconst 0, 1, 0, 0, 0), (.istore_n 2, 1, 2, 0, 0)], .nop, 0, 8, 0),
  (55, [(.iload_n 2, 1, 2, 0, 0), (.iload_n 1, 1, 1, 0, 0)], .if_icmp .ge 45, 3, 10, 9),
  (60, [(.aload_n 0, 1, 0, 0, 0), (.getfield 20, 3, 6, 8, 6), (.aload_n 0, 1, 0, 0, 0), (.getfield 53, 3, 1, 8, 1), (.aload_n 0, 1, 0, 0, 0), (.getfield 60, 3, 0, 8, 0), (.iastore, 1, 0, 0, 0), (.aload_n 0, 1, 0, 0, 0), (.getfield 29, 3, 9, 8, 9), (.aload_n 0, 1, 0, 0, 0), (.getfield 53, 3, 1, 8, 1), (.aload_n 0, 1, 0, 0, 0), (.getfield 53, 3, 1, 8, 1), (.iastore, 1, 0, 0, 0), (.aload_n 0, 1, 0, 0, 0), (.dup, 1, 0, 0, 0), (.getfield 53, 3, 1, 8, 1), (.iconst 1, 1, 0, 0, 1), (.iadd, 1, 0, 0, 0), (.putfield 53, 3, 1, 8, 1), (.iinc 2 1, 3, 2, 0, 1)], .goto (-44), 3, 8, 0),
  (102, [(.aload_n 0, 1, 0, 0, 0), (.dup, 1, 0, 0, 0), (.getfield 60, 3, 0, 8, 0), (.iconst 1, 1, 0, 0, 1), (.iadd, 1, 0, 0, 0), (.putfield 60, 3, 0, 8, 0), (.aload_n 0, 1, 0, 0, 0), (.getfield 53, 3, 1, 8, 1), (.iload_n 1, 1, 1, 0, 0), (.isub, 1, 0, 0, 0)], .ireturn, 1, 0, 0)]
def cd_X8_left : List SG := [(0, [(.iconst 0, 1, 0, 0, 0), (.istore_n 2, 1, 2, 0, 0), (.aload_n 0, 1, 0, 0, 0), (.getfield 13, 3, 4, 8, 4), (.iload_n 1, 1, 1, 0, 0), (.iaload, 1, 0, 0, 0), (.istore_n 3, 1, 3, 0, 0)], .nop, 0, 1, 0),
  (9, [(.iload_n 3, 1, 3, 0, 0), (.aload_n 0, 1, 0, 0, 0), (.getfield 13, 3, 4, 8, 4), (.iload_n 1, 1, 1, 0, 0), (.iaload, 1, 0, 0, 0), (.aload_n 0, 1, 0, 0, 0), (.getfield 17, 3, 5, 8, 5), (.iload_n 1, 1, 1, 0, 0), (.iaload, 1, 0, 0, 0), (.iadd, 1, 0, 0, 0)], .if_icmp .ge 47, 3, 10, 2),
  (26, [(.aload_n 0, 1, 0, 0, 0), (.getfield 13, 3, 4, 8, 4), (.iload_n 1, 1, 1, 0, 0), (.iaload, 1, 0, 0, 0), (.istore 4, 2, 4, 0, 0)], .nop, 0, 3, 0),
  (34, [(.iload 4, 2, 4, 0, 0), (.iload_n 3, 1, 3, 0, 0)], .if_icmp .ge 27, 3, 9, 4),
  (40, [(.iload_n 2, 1, 2, 0, 0), (.aload_n 0, 1, 0, 0, 0), (.iload_n 3, 1, 3, 0, 0), (.iload 4, 2, 4, 0, 0)], .invokevirtual 71, 3, 97, 5),
  (48, [], .ifCond .eq 7, 3, 7, 6),
  (51, [(.iconst 0, 1, 0, 0, 0)], .goto 4, 3, 8, 0),
  (55, [(.iconst 1, 1, 0, 0, 1)], .nop, 0, 8, 0),
  (56, [(.iadd, 1, 0, 0, 0), (.istore_n 2, 1, 2, 0, 0), (.iinc 4 1, 3, 4, 0, 1)], .goto (-27), 3, 3, 0),
  (64, [(.iinc 3 1, 3, 3, 0, 1)], .goto (-58), 3, 1, 0),
  (70, [(.iload_n 2, 1, 2, 0, 0)], .ireturn, 1, 0, 0)]
def cd_X8_lays : List SG := [(0, [(.aload_n 0, 1, 0, 0, 0), (.getfield 32, 3, 10, 8, 10), (.aload_n 0, 1, 0, 0, 0), (.iload_n 1, 1, 1, 0, 0), (.iload_n 2, 1, 2, 0, 0)], .invokevirtual 63, 3, 96, 1),
  (10, [(.iload_n 3, 1, 3, 0, 0), (.iastore, 1, 0, 0, 0), (.aload_n 0, 1, 0, 0, 0), (.getfield 32, 3, 10, 8, 10), (.aload_n 0, 1, 0, 0, 0), (.iload_n 2, 1, 2, 0, 0), (.iload_n 1, 1, 1, 0, 0)], .invokevirtual 63, 3, 96, 2),
  (22, [(.iload 4, 2, 4, 0, 0), (.iastore, 1, 0, 0, 0)], .return_, 1, 0, 0)]
def cd_X8_setResult : List SG := [(0, [(.aload_n 0, 1, 0, 0, 0), (.iload_n 1, 1, 1, 0, 0)], .invokevirtual 75, 3, 93, 1),
  (5, [], .ifCond .eq 15, 3, 5, 2),
  (8, [(.aload_n 0, 1, 0, 0, 0), (.iload_n 2, 1, 2, 0, 0)], .invokevirtual 75, 3, 93, 3),
  (13, [], .ifCond .eq 7, 3, 5, 4),
  (16, [(.iconst 1, 1, 0, 0, 1)], .goto 4, 3, 6, 0),
  (20, [(.iconst 0, 1, 0, 0, 0)], .nop, 0, 6, 0),
  (21, [(.istore 5, 2, 5, 0, 0), (.aload_n 0, 1, 0, 0, 0), (.iload 5, 2, 5, 0, 0), (.iload 5, 2, 5, 0, 0)], .ifCond .eq 37, 3, 14, 7),
  (31, [(.aload_n 0, 1, 0, 0, 0), (.iload_n 1, 1, 1, 0, 0), (.iload_n 2, 1, 2, 0, 0)], .invokevirtual 79, 3, 95, 8),
  (37, [], .ifCond .eq 28, 3, 14, 9),
  (40, [(.iload_n 3, 1, 3, 0, 0), (.iconst 0, 1, 0, 0, 0), (.bipush 20, 2, 0, 0, 20)], .invokestatic 56, 3, 90, 10),
  (47, [], .ifCond .eq 18, 3, 14, 11),
  (50, [(.iload 4, 2, 4, 0, 0), (.iconst 0, 1, 0, 0, 0), (.bipush 20, 2, 0, 0, 20)], .invokestatic 56, 3, 90, 12),
  (58, [], .ifCond .eq 7, 3, 14, 13),
  (61, [(.iconst 1, 1, 0, 0, 1)], .goto 4, 3, 15, 0),
  (65, [(.iconst 0, 1, 0, 0, 0)], .nop, 0, 15, 0),
  (66, [(.iconst 1, 1, 0, 0, 1)], .invokevirtual 67, 3, 91, 16),
  (70, [], .ifCond .ne 5, 3, 18, 17),
  (73, [(.iconst 0, 1, 0, 0, 0)], .ireturn, 1, 0, 0),
  (75, [(.aload_n 0, 1, 0, 0, 0), (.iload_n 1, 1, 1, 0, 0), (.iload_n 2, 1, 2, 0, 0), (.iload_n 3, 1, 3, 0, 0), (.iload 4, 2, 4, 0, 0)], .invokevirtual 82, 3, 100, 19),
  (84, [(.aload_n 0, 1, 0, 0, 0), (.aload_n 0, 1, 0, 0, 0), (.getfield 20, 3, 6, 8, 6), (.iload_n 1, 1, 1, 0, 0), (.iaload, 1, 0, 0, 0)], .invokevirtual 86, 3, 99, 20),
  (94, [], .ireturn, 1, 0, 0)]
def cd_X8_strike : List SG := [(0, [(.aload_n 0, 1, 0, 0, 0), (.iload_n 1, 1, 1, 0, 0)], .invokevirtual 75, 3, 93, 1),
  (5, [], .ifCond .eq 15, 3, 5, 2),
  (8, [(.aload_n 0, 1, 0, 0, 0), (.iload_n 2, 1, 2, 0, 0)], .invokevirtual 75, 3, 93, 3),
  (13, [], .ifCond .eq 7, 3, 5, 4),
  (16, [(.iconst 1, 1, 0, 0, 1)], .goto 4, 3, 6, 0),
  (20, [(.iconst 0, 1, 0, 0, 0)], .nop, 0, 6, 0),
  (21, [(.istore_n 3, 1, 3, 0, 0), (.iload_n 3, 1, 3, 0, 0)], .ifCond .eq 16, 3, 10, 7),
  (26, [(.aload_n 0, 1, 0, 0, 0), (.iload_n 1, 1, 1, 0, 0), (.iload_n 2, 1, 2, 0, 0)], .invokevirtual 79, 3, 95, 8),
  (32, [], .ifCond .eq 7, 3, 10, 9),
  (35, [(.iconst 1, 1, 0, 0, 1)], .goto 4, 3, 11, 0),
  (39, [(.iconst 0, 1, 0, 0, 0)], .nop, 0, 11, 0),
  (40, [(.istore 4, 2, 4, 0, 0), (.aload_n 0, 1, 0, 0, 0), (.iload_n 3, 1, 3, 0, 0), (.iload 4, 2, 4, 0, 0), (.iload 4, 2, 4, 0, 0)], .ifCond .eq 16, 3, 15, 12),
  (51, [(.aload_n 0, 1, 0, 0, 0), (.iload_n 1, 1, 1, 0, 0), (.iload_n 2, 1, 2, 0, 0)], .invokevirtual 71, 3, 97, 13),
  (57, [], .ifCond .eq 7, 3, 15, 14),
  (60, [(.iconst 1, 1, 0, 0, 1)], .goto 4, 3, 16, 0),
  (64, [(.iconst 0, 1, 0, 0, 0)], .nop, 0, 16, 0),
  (65, [], .invokevirtual 67, 3, 91, 17),
  (68, [], .ifCond .ne 5, 3, 19, 18),
  (71, [(.iconst 0, 1, 0, 0, 0)], .ireturn, 1, 0, 0),
  (73, [(.aload_n 0, 1, 0, 0, 0), (.iload_n 1, 1, 1, 0, 0), (.iload_n 2, 1, 2, 0, 0), (.iconst (-1), 1, 0, 0, (-1)), (.iconst (-1), 1, 0, 0, (-1))], .invokevirtual 82, 3, 100, 20),
  (81, [(.aload_n 0, 1, 0, 0, 0), (.aload_n 0, 1, 0, 0, 0), (.getfield 20, 3, 6, 8, 6), (.iload_n 1, 1, 1, 0, 0), (.iaload, 1, 0, 0, 0)], .invokevirtual 86, 3, 99, 21),
  (91, [], .ireturn, 1, 0, 0)]
def cd_X8_takeAway : List SG := [(0, [(.aload_n 0, 1, 0, 0, 0), (.aload_n 0, 1, 0, 0, 0), (.iload_n 1, 1, 1, 0, 0)], .invokevirtual 75, 3, 93, 1),
  (6, [(.iload_n 2, 1, 2, 0, 0), (.iconst 0, 1, 0, 0, 0), (.bipush 20, 2, 0, 0, 20)], .invokestatic 56, 3, 90, 2),
  (13, [(.iconst 1, 1, 0, 0, 1)], .invokevirtual 67, 3, 91, 3),
  (17, [], .ifCond .ne 5, 3, 5, 4),
  (20, [(.iconst 0, 1, 0, 0, 0)], .ireturn, 1, 0, 0),
  (22, [(.aload_n 0, 1, 0, 0, 0), (.getfield 23, 3, 7, 8, 7), (.iload_n 1, 1, 1, 0, 0), (.iaload, 1, 0, 0, 0), (.istore_n 3, 1, 3, 0, 0), (.aload_n 0, 1, 0, 0, 0), (.getfield 23, 3, 7, 8, 7), (.iload_n 1, 1, 1, 0, 0), (.iload_n 2, 1, 2, 0, 0), (.iastore, 1, 0, 0, 0), (.iload_n 3, 1, 3, 0, 0)], .ireturn, 1, 0, 0)]
def cd_X8_setCards : List SG := [(0, [(.aload_n 0, 1, 0, 0, 0), (.aload_n 0, 1, 0, 0, 0), (.iload_n 1, 1, 1, 0, 0)], .invokevirtual 75, 3, 93, 1),
  (6, [(.iload_n 2, 1, 2, 0, 0), (.iconst 0, 1, 0, 0, 0), (.bipush 50, 2, 0, 0, 50)], .invokestatic 56, 3, 90, 2),
  (13, [(.iconst 1, 1, 0, 0, 1)], .invokevirtual 67, 3, 91, 3),
  (17, [], .ifCond .ne 5, 3, 5, 4),
  (20, [(.iconst 0, 1, 0, 0, 0)], .ireturn, 1, 0, 0),
  (22, [(.aload_n 0, 1, 0, 0, 0), (.getfield 26, 3, 8, 8, 8), (.iload_n 1, 1, 1, 0, 0), (.iaload, 1, 0, 0, 0), (.istore_n 3, 1, 3, 0, 0), (.aload_n 0, 1, 0, 0, 0), (.getfield 26, 3, 8, 8, 8), (.iload_n 1, 1, 1, 0, 0), (.iload_n 2, 1, 2, 0, 0), (.iastore, 1, 0, 0, 0), (.iload_n 3, 1, 3, 0, 0)], .ireturn, 1, 0, 0)]
def cd_X8_setLot : List SG := [(0, [(.aload_n 0, 1, 0, 0, 0), (.aload_n 0, 1, 0, 0, 0), (.iload_n 1, 1, 1, 0, 0)], .invokevirtual 75, 3, 93, 1),
  (6, [(.iload_n 2, 1, 2, 0, 0), (.iconst 0, 1, 0, 0, 0), (.bipush 99, 2, 0, 0, 99)], .invokestatic 56, 3, 90, 2),
  (13, [(.iconst 1, 1, 0, 0, 1)], .invokevirtual 67, 3, 91, 3),
  (17, [], .ifCond .ne 5, 3, 5, 4),
  (20, [(.iconst 0, 1, 0, 0, 0)], .ireturn, 1, 0, 0),
  (22, [(.aload_n 0, 1, 0, 0, 0), (.getfield 29, 3, 9, 8, 9), (.iload_n 1, 1, 1, 0, 0), (.iaload, 1, 0, 0, 0), (.istore_n 3, 1, 3, 0, 0), (.aload_n 0, 1, 0, 0, 0), (.getfield 29, 3, 9, 8, 9), (.iload_n 1, 1, 1, 0, 0), (.iload_n 2, 1, 2, 0, 0), (.iastore, 1, 0, 0, 0), (.iload_n 3, 1, 3, 0, 0)], .ireturn, 1, 0, 0)]
def cd_X8_setThrough : List SG := [(0, [(.aload_n 0, 1, 0, 0, 0), (.iload_n 1, 1, 1, 0, 0), (.iconst 1, 1, 0, 0, 1), (.iconst 2, 1, 0, 0, 2)], .invokestatic 56, 3, 90, 1),
  (7, [], .ifCond .eq 17, 3, 5, 2),
  (10, [(.iload_n 2, 1, 2, 0, 0), (.iconst 0, 1, 0, 0, 0), (.bipush 6, 2, 0, 0, 6)], .invokestatic 56, 3, 90, 3),
  (17, [], .ifCond .eq 7, 3, 5, 4),
  (20, [(.iconst 1, 1, 0, 0, 1)], .goto 4, 3, 6, 0),
  (24, [(.iconst 0, 1, 0, 0, 0)], .nop, 0, 6, 0),
  (25, [(.iconst 1, 1, 0, 0, 1), (.iconst 1, 1, 0, 0, 1)], .invokevirtual 67, 3, 91, 7),
  (30, [], .ifCond .eq 13, 3, 9, 8),
  (33, [(.aload_n 0, 1, 0, 0, 0), (.iload_n 1, 1, 1, 0, 0), (.putfield 7, 3, 2, 8, 2), (.aload_n 0, 1, 0, 0, 0), (.iload_n 2, 1, 2, 0, 0), (.putfield 90, 3, 3, 8, 3)], .nop, 0, 9, 0),
  (43, [], .return_, 1, 0, 0)]
def cd_X8_pointsIn : List SG := [(0, [(.aload_n 0, 1, 0, 0, 0), (.getfield 32, 3, 10, 8, 10), (.aload_n 0, 1, 0, 0, 0), (.iload_n 1, 1, 1, 0, 0), (.iload_n 2, 1, 2, 0, 0)], .invokevirtual 63, 3, 96, 1),
  (10, [(.iaload, 1, 0, 0, 0), (.istore_n 3, 1, 3, 0, 0), (.aload_n 0, 1, 0, 0, 0), (.getfield 32, 3, 10, 8, 10), (.aload_n 0, 1, 0, 0, 0), (.iload_n 2, 1, 2, 0, 0), (.iload_n 1, 1, 1, 0, 0)], .invokevirtual 63, 3, 96, 2),
  (22, [(.iaload, 1, 0, 0, 0), (.istore 4, 2, 4, 0, 0), (.iload_n 3, 1, 3, 0, 0), (.iconst (-1), 1, 0, 0, (-1))], .if_icmp .ne 7, 3, 4, 3),
  (30, [(.iconst 0, 1, 0, 0, 0)], .goto 24, 3, 9, 0),
  (34, [(.iload_n 3, 1, 3, 0, 0), (.iload 4, 2, 4, 0, 0)], .if_icmp .le 7, 3, 6, 5),
  (40, [(.iconst 3, 1, 0, 0, 3)], .goto 14, 3, 9, 0),
  (44, [(.iload_n 3, 1, 3, 0, 0), (.iload 4, 2, 4, 0, 0)], .if_icmp .ne 7, 3, 8, 7),
  (50, [(.iconst 1, 1, 0, 0, 1)], .goto 4, 3, 9, 0),
  (54, [(.iconst 0, 1, 0, 0, 0)], .nop, 0, 9, 0),
  (55, [], .ireturn, 1, 0, 0)]
def cd_X8_sums : List SG := [(0, [(.iconst 0, 1, 0, 0, 0), (.istore 4, 2, 4, 0, 0), (.aload_n 0, 1, 0, 0, 0), (.getfield 13, 3, 4, 8, 4), (.aload_n 0, 1, 0, 0, 0), (.getfield 20, 3, 6, 8, 6), (.iload_n 1, 1, 1, 0, 0), (.iaload, 1, 0, 0, 0), (.iaload, 1, 0, 0, 0), (.istore 5, 2, 5, 0, 0), (.iconst 0, 1, 0, 0, 0), (.istore 6, 2, 6, 0, 0)], .nop, 0, 1, 0),
  (19, [(.iload 6, 2, 6, 0, 0), (.aload_n 0, 1, 0, 0, 0), (.getfield 17, 3, 5, 8, 5), (.aload_n 0, 1, 0, 0, 0), (.getfield 20, 3, 6, 8, 6), (.iload_n 1, 1, 1, 0, 0), (.iaload, 1, 0, 0, 0), (.iaload, 1, 0, 0, 0)], .if_icmp .ge 100, 3, 16, 2),
  (35, [(.iload 5, 2, 5, 0, 0), (.iload 6, 2, 6, 0, 0), (.iadd, 1, 0, 0, 0), (.istore 7, 2, 7, 0, 0), (.iload 7, 2, 7, 0, 0), (.iload_n 1, 1, 1, 0, 0)], .if_icmp .eq 81, 3, 15, 3),
  (48, [(.iload_n 3, 1, 3, 0, 0), (.iload 6, 2, 6, 0, 0), (.ishr, 1, 0, 0, 0), (.iconst 1, 1, 0, 0, 1), (.iand, 1, 0, 0, 0), (.iconst 1, 1, 0, 0, 1)], .if_icmp .ne 71, 3, 15, 4),
  (58, [(.aload_n 0, 1, 0, 0, 0), (.iload_n 1, 1, 1, 0, 0), (.iload 7, 2, 7, 0, 0)], .invokevirtual 71, 3, 97, 5),
  (65, [], .ifCond .eq 61, 3, 15, 6),
  (68, [(.aload_n 0, 1, 0, 0, 0), (.getfield 32, 3, 10, 8, 10), (.aload_n 0, 1, 0, 0, 0), (.iload_n 1, 1, 1, 0, 0), (.iload 7, 2, 7, 0, 0)], .invokevirtual 63, 3, 96, 7),
  (79, [(.iaload, 1, 0, 0, 0), (.istore 8, 2, 8, 0, 0), (.iload 4, 2, 4, 0, 0), (.iload_n 2, 1, 2, 0, 0)], .ifCond .ne 13, 3, 10, 8),
  (88, [(.aload_n 0, 1, 0, 0, 0), (.iload_n 1, 1, 1, 0, 0), (.iload 7, 2, 7, 0, 0)], .invokevirtual 93, 3, 107, 9),
  (95, [], .goto 28, 3, 14, 0),
  (98, [(.iload_n 2, 1, 2, 0, 0), (.iconst 1, 1, 0, 0, 1)], .if_icmp .ne 21, 3, 13, 11),
  (103, [(.iload 8, 2, 8, 0, 0), (.aload_n 0, 1, 0, 0, 0), (.getfield 32, 3, 10, 8, 10), (.aload_n 0, 1, 0, 0, 0), (.iload 7, 2, 7, 0, 0), (.iload_n 1, 1, 1, 0, 0)], .invokevirtual 63, 3, 96, 12),
  (116, [(.iaload, 1, 0, 0, 0), (.isub, 1, 0, 0, 0)], .goto 5, 3, 14, 0),
  (121, [(.iload 8, 2, 8, 0, 0)], .nop, 0, 14, 0),
  (123, [(.iadd, 1, 0, 0, 0), (.istore 4, 2, 4, 0, 0)], .nop, 0, 15, 0),
  (126, [(.iinc 6 1, 3, 6, 0, 1)], .goto (-110), 3, 1, 0),
  (132, [(.iload 4, 2, 4, 0, 0)], .ireturn, 1, 0, 0)]
def cd_X8_pointsOf : List SG := [(0, [(.aload_n 0, 1, 0, 0, 0), (.iload_n 1, 1, 1, 0, 0), (.iconst 0, 1, 0, 0, 0), (.bipush 31, 2, 0, 0, 31)], .invokevirtual 96, 3, 108, 1),
  (8, [(.aload_n 0, 1, 0, 0, 0), (.getfield 23, 3, 7, 8, 7), (.iload_n 1, 1, 1, 0, 0), (.iaload, 1, 0, 0, 0), (.isub, 1, 0, 0, 0)], .ireturn, 1, 0, 0)]
def cd_X8_finalRule : List SG := [(0, [(.aload_n 0, 1, 0, 0, 0), (.iload_n 1, 1, 1, 0, 0), (.iconst 1, 1, 0, 0, 1), (.bipush 31, 2, 0, 0, 31)], .invokevirtual 96, 3, 108, 1),
  (8, [(.aload_n 0, 1, 0, 0, 0), (.iload_n 2, 1, 2, 0, 0), (.iconst 1, 1, 0, 0, 1), (.bipush 31, 2, 0, 0, 31)], .invokevirtual 96, 3, 108, 2),
  (16, [(.isub, 1, 0, 0, 0), (.istore_n 3, 1, 3, 0, 0), (.aload_n 0, 1, 0, 0, 0), (.iload_n 1, 1, 1, 0, 0), (.iconst 2, 1, 0, 0, 2), (.bipush 31, 2, 0, 0, 31)], .invokevirtual 96, 3, 108, 3),
  (26, [(.aload_n 0, 1, 0, 0, 0), (.iload_n 2, 1, 2, 0, 0), (.iconst 2, 1, 0, 0, 2), (.bipush 31, 2, 0, 0, 31)], .invokevirtual 96, 3, 108, 4),
  (34, [(.isub, 1, 0, 0, 0), (.istore 4, 2, 4, 0, 0), (.aload_n 0, 1, 0, 0, 0), (.getfield 26, 3, 8, 8, 8), (.iload_n 2, 1, 2, 0, 0), (.iaload, 1, 0, 0, 0), (.aload_n 0, 1, 0, 0, 0), (.getfield 26, 3, 8, 8, 8), (.iload_n 1, 1, 1, 0, 0), (.iaload, 1, 0, 0, 0), (.isub, 1, 0, 0, 0), (.istore 5, 2, 5, 0, 0), (.aload_n 0, 1, 0, 0, 0), (.getfield 29, 3, 9, 8, 9), (.iload_n 2, 1, 2, 0, 0), (.iaload, 1, 0, 0, 0), (.aload_n 0, 1, 0, 0, 0), (.getfield 29, 3, 9, 8, 9), (.iload_n 1, 1, 1, 0, 0), (.iaload, 1, 0, 0, 0)], .if_icmp .eq 19, 3, 6, 5),
  (67, [(.aload_n 0, 1, 0, 0, 0), (.getfield 29, 3, 9, 8, 9), (.iload_n 2, 1, 2, 0, 0), (.iaload, 1, 0, 0, 0), (.aload_n 0, 1, 0, 0, 0), (.getfield 29, 3, 9, 8, 9), (.iload_n 1, 1, 1, 0, 0), (.iaload, 1, 0, 0, 0), (.isub, 1, 0, 0, 0)], .goto 6, 3, 7, 0),
  (83, [(.iload_n 2, 1, 2, 0, 0), (.iload_n 1, 1, 1, 0, 0), (.isub, 1, 0, 0, 0)], .nop, 0, 7, 0),
  (86, [(.istore 6, 2, 6, 0, 0), (.iload_n 3, 1, 3, 0, 0)], .ifCond .eq 7, 3, 9, 8),
  (92, [(.iconst 4, 1, 0, 0, 4)], .goto 24, 3, 14, 0),
  (96, [(.iload 4, 2, 4, 0, 0)], .ifCond .eq 7, 3, 11, 10),
  (101, [(.iconst 5, 1, 0, 0, 5)], .goto 15, 3, 14, 0),
  (105, [(.iload 5, 2, 5, 0, 0)], .ifCond .eq 8, 3, 13, 12),
  (110, [(.bipush 6, 2, 0, 0, 6)], .goto 5, 3, 14, 0),
  (115, [(.bipush 7, 2, 0, 0, 7)], .nop, 0, 14, 0),
  (117, [(.istore 7, 2, 7, 0, 0), (.iload 7, 2, 7, 0, 0), (.iconst 4, 1, 0, 0, 4)], .if_icmp .ne 7, 3, 16, 15),
  (125, [(.iload_n 3, 1, 3, 0, 0)], .goto 28, 3, 21, 0),
  (129, [(.iload 7, 2, 7, 0, 0), (.iconst 5, 1, 0, 0, 5)], .if_icmp .ne 8, 3, 18, 17),
  (135, [(.iload 4, 2, 4, 0, 0)], .goto 17, 3, 21, 0),
  (140, [(.iload 7, 2, 7, 0, 0), (.bipush 6, 2, 0, 0, 6)], .if_icmp .ne 8, 3, 20, 19),
  (147, [(.iload 5, 2, 5, 0, 0)], .goto 5, 3, 21, 0),
  (152, [(.iload 6, 2, 6, 0, 0)], .nop, 0, 21, 0),
  (154, [(.istore 8, 2, 8, 0, 0), (.iload 8, 2, 8, 0, 0)], .ifCond .le 8, 3, 23, 22),
  (161, [(.iload 7, 2, 7, 0, 0)], .goto 6, 3, 24, 0),
  (166, [(.iload 7, 2, 7, 0, 0), (.ineg, 1, 0, 0, 0)], .nop, 0, 24, 0),
  (169, [], .ireturn, 1, 0, 0)]
def cd_X8_tiedRule : List SG := [(0, [(.iconst 0, 1, 0, 0, 0), (.istore_n 3, 1, 3, 0, 0), (.iconst 2, 1, 0, 0, 2), (.istore 4, 2, 4, 0, 0)], .nop, 0, 1, 0),
  (5, [(.iload 4, 2, 4, 0, 0)], .ifCond .lt 61, 3, 8, 2),
  (10, [(.aload_n 0, 1, 0, 0, 0), (.getfield 44, 3, 14, 8, 14), (.iconst 3, 1, 0, 0, 3), (.iload_n 1, 1, 1, 0, 0), (.imul, 1, 0, 0, 0), (.iload 4, 2, 4, 0, 0), (.iadd, 1, 0, 0, 0), (.iaload, 1, 0, 0, 0), (.aload_n 0, 1, 0, 0, 0), (.getfield 44, 3, 14, 8, 14), (.iconst 3, 1, 0, 0, 3), (.iload_n 2, 1, 2, 0, 0), (.imul, 1, 0, 0, 0), (.iload 4, 2, 4, 0, 0), (.iadd, 1, 0, 0, 0), (.iaload, 1, 0, 0, 0), (.isub, 1, 0, 0, 0), (.istore 5, 2, 5, 0, 0), (.iload 5, 2, 5, 0, 0)], .ifCond .le 10, 3, 4, 3),
  (40, [(.iload 4, 2, 4, 0, 0), (.iconst 1, 1, 0, 0, 1), (.iadd, 1, 0, 0, 0)], .goto 17, 3, 7, 0),
  (47, [(.iload 5, 2, 5, 0, 0)], .ifCond .ge 11, 3, 6, 5),
  (52, [(.iload 4, 2, 4, 0, 0), (.iconst 1, 1, 0, 0, 1), (.iadd, 1, 0, 0, 0), (.ineg, 1, 0, 0, 0)], .goto 4, 3, 7, 0),
  (60, [(.iload_n 3, 1, 3, 0, 0)], .nop, 0, 7, 0),
  (61, [(.istore_n 3, 1, 3, 0, 0), (.iinc 4 (-1), 3, 4, 0, (-1))], .goto (-60), 3, 1, 0),
  (68, [(.iload_n 3, 1, 3, 0, 0)], .ireturn, 1, 0, 0)]
def cd_X8_splits : List SG := [(0, [(.iconst 0, 1, 0, 0, 0), (.istore_n 3, 1, 3, 0, 0), (.iconst 0, 1, 0, 0, 0), (.istore 4, 2, 4, 0, 0), (.iconst 0, 1, 0, 0, 0), (.istore 5, 2, 5, 0, 0)], .nop, 0, 1, 0),
  (8, [(.iload 5, 2, 5, 0, 0), (.aload_n 0, 1, 0, 0, 0), (.getfield 17, 3, 5, 8, 5), (.iload_n 1, 1, 1, 0, 0), (.iaload, 1, 0, 0, 0)], .if_icmp .ge 52, 3, 9, 2),
  (19, [(.iload_n 3, 1, 3, 0, 0), (.aload_n 0, 1, 0, 0, 0), (.getfield 35, 3, 11, 8, 11), (.iload 5, 2, 5, 0, 0), (.iaload, 1, 0, 0, 0), (.iload_n 2, 1, 2, 0, 0)], .if_icmp .ne 10, 3, 4, 3),
  (31, [(.iconst 1, 1, 0, 0, 1), (.iload 5, 2, 5, 0, 0), (.ishl, 1, 0, 0, 0)], .goto 4, 3, 5, 0),
  (38, [(.iconst 0, 1, 0, 0, 0)], .nop, 0, 5, 0),
  (39, [(.ior, 1, 0, 0, 0), (.istore_n 3, 1, 3, 0, 0), (.iload 4, 2, 4, 0, 0), (.aload_n 0, 1, 0, 0, 0), (.getfield 35, 3, 11, 8, 11), (.iload 5, 2, 5, 0, 0), (.iaload, 1, 0, 0, 0), (.iload_n 2, 1, 2, 0, 0)], .if_icmp .ne 7, 3, 7, 6),
  (54, [(.iconst 1, 1, 0, 0, 1)], .goto 4, 3, 8, 0),
  (58, [(.iconst 0, 1, 0, 0, 0)], .nop, 0, 8, 0),
  (59, [(.iadd, 1, 0, 0, 0), (.istore 4, 2, 4, 0, 0), (.iinc 5 1, 3, 5, 0, 1)], .goto (-57), 3, 1, 0),
  (68, [(.iconst 0, 1, 0, 0, 0), (.istore 5, 2, 5, 0, 0)], .nop, 0, 10, 0),
  (71, [(.iload 5, 2, 5, 0, 0), (.iconst 3, 1, 0, 0, 3), (.aload_n 0, 1, 0, 0, 0), (.getfield 17, 3, 5, 8, 5), (.iload_n 1, 1, 1, 0, 0), (.iaload, 1, 0, 0, 0), (.imul, 1, 0, 0, 0)], .if_icmp .ge 36, 3, 13, 11),
  (84, [(.aload_n 0, 1, 0, 0, 0), (.getfield 44, 3, 14, 8, 14), (.iload 5, 2, 5, 0, 0), (.aload_n 0, 1, 0, 0, 0), (.aload_n 0, 1, 0, 0, 0), (.getfield 13, 3, 4, 8, 4), (.iload_n 1, 1, 1, 0, 0), (.iaload, 1, 0, 0, 0), (.iload 5, 2, 5, 0, 0), (.iconst 3, 1, 0, 0, 3), (.idiv, 1, 0, 0, 0), (.iadd, 1, 0, 0, 0), (.iload 5, 2, 5, 0, 0), (.iconst 3, 1, 0, 0, 3), (.irem, 1, 0, 0, 0), (.iload_n 3, 1, 3, 0, 0)], .invokevirtual 96, 3, 108, 12),
  (110, [(.iastore, 1, 0, 0, 0), (.iinc 5 1, 3, 5, 0, 1)], .goto (-43), 3, 10, 0),
  (117, [(.iconst 1, 1, 0, 0, 1), (.istore 5, 2, 5, 0, 0), (.iconst 0, 1, 0, 0, 0), (.istore 6, 2, 6, 0, 0)], .nop, 0, 14, 0),
  (123, [(.iload 6, 2, 6, 0, 0), (.aload_n 0, 1, 0, 0, 0), (.getfield 17, 3, 5, 8, 5), (.iload_n 1, 1, 1, 0, 0), (.iaload, 1, 0, 0, 0), (.aload_n 0, 1, 0, 0, 0), (.getfield 17, 3, 5, 8, 5), (.iload_n 1, 1, 1, 0, 0), (.iaload, 1, 0, 0, 0), (.imul, 1, 0, 0, 0)], .if_icmp .ge 92, 3, 26, 15),
  (141, [(.iload_n 3, 1, 3, 0, 0), (.iload 6, 2, 6, 0, 0), (.aload_n 0, 1, 0, 0, 0), (.getfield 17, 3, 5, 8, 5), (.iload_n 1, 1, 1, 0, 0), (.iaload, 1, 0, 0, 0), (.idiv, 1, 0, 0, 0), (.ishr, 1, 0, 0, 0), (.iconst 1, 1, 0, 0, 1), (.iand, 1, 0, 0, 0), (.iconst 1, 1, 0, 0, 1)], .if_icmp .ne 24, 3, 18, 16),
  (158, [(.iload_n 3, 1, 3, 0, 0), (.iload 6, 2, 6, 0, 0), (.aload_n 0, 1, 0, 0, 0), (.getfield 17, 3, 5, 8, 5), (.iload_n 1, 1, 1, 0, 0), (.iaload, 1, 0, 0, 0), (.irem, 1, 0, 0, 0), (.ishr, 1, 0, 0, 0), (.iconst 1, 1, 0, 0, 1), (.iand, 1, 0, 0, 0), (.iconst 1, 1, 0, 0, 1)], .if_icmp .ne 7, 3, 18, 17),
  (175, [(.iconst 1, 1, 0, 0, 1)], .goto 4, 3, 19, 0),
  (179, [(.iconst 0, 1, 0, 0, 0)], .nop, 0, 19, 0),
  (180, [(.istore 7, 2, 7, 0, 0), (.iload 5, 2, 5, 0, 0)], .ifCond .eq 37, 3, 24, 20),
  (187, [(.iload 7, 2, 7, 0, 0)], .ifCond .eq 28, 3, 23, 21),
  (192, [(.aload_n 0, 1, 0, 0, 0), (.iload 6, 2, 6, 0, 0), (.aload_n 0, 1, 0, 0, 0), (.getfield 17, 3, 5, 8, 5), (.iload_n 1, 1, 1, 0, 0), (.iaload, 1, 0, 0, 0), (.idiv, 1, 0, 0, 0), (.iload 6, 2, 6, 0, 0), (.aload_n 0, 1, 0, 0, 0), (.getfield 17, 3, 5, 8, 5), (.iload_n 1, 1, 1, 0, 0), (.iaload, 1, 0, 0, 0), (.irem, 1, 0, 0, 0)], .invokevirtual 100, 3, 111, 22),
  (214, [], .ifCond .ne 7, 3, 24, 23),
  (217, [(.iconst 1, 1, 0, 0, 1)], .goto 4, 3, 25, 0),
  (221, [(.iconst 0, 1, 0, 0, 0)], .nop, 0, 25, 0),
  (222, [(.istore 5, 2, 5, 0, 0), (.iinc 6 1, 3, 6, 0, 1)], .goto (-104), 3, 14, 0),
  (230, [(.iconst 0, 1, 0, 0, 0), (.istore 6, 2, 6, 0, 0)], .nop, 0, 27, 0),
  (233, [(.iload 6, 2, 6, 0, 0), (.aload_n 0, 1, 0, 0, 0), (.getfield 17, 3, 5, 8, 5), (.iload_n 1, 1, 1, 0, 0), (.iaload, 1, 0, 0, 0)], .if_icmp .ge 191, 3, 51, 28),
  (244, [(.aload_n 0, 1, 0, 0, 0), (.getfield 38, 3, 12, 8, 12), (.iload 6, 2, 6, 0, 0), (.aload_n 0, 1, 0, 0, 0), (.getfield 35, 3, 11, 8, 11), (.iload 6, 2, 6, 0, 0), (.iaload, 1, 0, 0, 0), (.iastore, 1, 0, 0, 0), (.iconst 0, 1, 0, 0, 0), (.istore 7, 2, 7, 0, 0)], .nop, 0, 29, 0),
  (261, [(.iload 7, 2, 7, 0, 0), (.aload_n 0, 1, 0, 0, 0), (.getfield 17, 3, 5, 8, 5), (.iload_n 1, 1, 1, 0, 0), (.iaload, 1, 0, 0, 0)], .if_icmp .ge 157, 3, 50, 30),
  (272, [(.iload 7, 2, 7, 0, 0), (.iload 6, 2, 6, 0, 0)], .if_icmp .eq 27, 3, 34, 31),
  (279, [(.iload_n 3, 1, 3, 0, 0), (.iload 6, 2, 6, 0, 0), (.ishr, 1, 0, 0, 0), (.iconst 1, 1, 0, 0, 1), (.iand, 1, 0, 0, 0), (.iconst 1, 1, 0, 0, 1)], .if_icmp .ne 17, 3, 34, 32),
  (289, [(.iload_n 3, 1, 3, 0, 0), (.iload 7, 2, 7, 0, 0), (.ishr, 1, 0, 0, 0), (.iconst 1, 1, 0, 0, 1), (.iand, 1, 0, 0, 0), (.iconst 1, 1, 0, 0, 1)], .if_icmp .ne 7, 3, 34, 33),
  (299, [(.iconst 1, 1, 0, 0, 1)], .goto 4, 3, 35, 0),
  (303, [(.iconst 0, 1, 0, 0, 0)], .nop, 0, 35, 0),
  (304, [(.istore 8, 2, 8, 0, 0), (.iload 8, 2, 8, 0, 0)], .ifCond .ne 7, 3, 37, 36),
  (311, [(.iconst 0, 1, 0, 0, 0)], .goto 41, 3, 41, 0),
  (315, [(.iload 5, 2, 5, 0, 0)], .ifCond .eq 28, 3, 40, 38),
  (320, [(.aload_n 0, 1, 0, 0, 0), (.aload_n 0, 1, 0, 0, 0), (.getfield 13, 3, 4, 8, 4), (.iload_n 1, 1, 1, 0, 0), (.iaload, 1, 0, 0, 0), (.iload 6, 2, 6, 0, 0), (.iadd, 1, 0, 0, 0), (.aload_n 0, 1, 0, 0, 0), (.getfield 13, 3, 4, 8, 4), (.iload_n 1, 1, 1, 0, 0), (.iaload, 1, 0, 0, 0), (.iload 7, 2, 7, 0, 0), (.iadd, 1, 0, 0, 0)], .invokevirtual 103, 3, 110, 39),
  (342, [], .goto 11, 3, 41, 0),
  (345, [(.aload_n 0, 1, 0, 0, 0), (.iload 6, 2, 6, 0, 0), (.iload 7, 2, 7, 0, 0)], .invokevirtual 100, 3, 111, 41),
  (353, [(.istore 9, 2, 9, 0, 0), (.aload_n 0, 1, 0, 0, 0), (.getfield 38, 3, 12, 8, 12), (.iload 6, 2, 6, 0, 0), (.dup2, 1, 0, 0, 0), (.iaload, 1, 0, 0, 0), (.iload 9, 2, 9, 0, 0)], .ifCond .ge 7, 3, 43, 42),
  (368, [(.iconst 1, 1, 0, 0, 1)], .goto 4, 3, 44, 0),
  (372, [(.iconst 0, 1, 0, 0, 0)], .nop, 0, 44, 0),
  (373, [(.iadd, 1, 0, 0, 0), (.iastore, 1, 0, 0, 0), (.aload_n 0, 1, 0, 0, 0), (.getfield 41, 3, 13, 8, 13), (.iconst 5, 1, 0, 0, 5), (.iload 6, 2, 6, 0, 0), (.imul, 1, 0, 0, 0), (.iload 7, 2, 7, 0, 0), (.iadd, 1, 0, 0, 0), (.iload 9, 2, 9, 0, 0)], .ifCond .ne 18, 3, 46, 45),
  (391, [(.aload_n 0, 1, 0, 0, 0), (.getfield 41, 3, 13, 8, 13), (.iconst 5, 1, 0, 0, 5), (.iload 6, 2, 6, 0, 0), (.imul, 1, 0, 0, 0), (.iload 7, 2, 7, 0, 0), (.iadd, 1, 0, 0, 0), (.iaload, 1, 0, 0, 0)], .goto 16, 3, 49, 0),
  (406, [(.iload 9, 2, 9, 0, 0)], .ifCond .ge 9, 3, 48, 47),
  (411, [(.iload 9, 2, 9, 0, 0), (.ineg, 1, 0, 0, 0)], .goto 5, 3, 49, 0),
  (417, [(.iload 9, 2, 9, 0, 0)], .nop, 0, 49, 0),
  (419, [(.iastore, 1, 0, 0, 0), (.iinc 7 1, 3, 7, 0, 1)], .goto (-162), 3, 29, 0),
  (426, [(.iinc 6 1, 3, 6, 0, 1)], .goto (-196), 3, 27, 0),
  (432, [(.iconst 0, 1, 0, 0, 0), (.istore 6, 2, 6, 0, 0)], .nop, 0, 52, 0),
  (435, [(.iload 6, 2, 6, 0, 0), (.aload_n 0, 1, 0, 0, 0), (.getfield 17, 3, 5, 8, 5), (.iload_n 1, 1, 1, 0, 0), (.iaload, 1, 0, 0, 0)], .if_icmp .ge 23, 3, 54, 53),
  (446, [(.aload_n 0, 1, 0, 0, 0), (.getfield 35, 3, 11, 8, 11), (.iload 6, 2, 6, 0, 0), (.aload_n 0, 1, 0, 0, 0), (.getfield 38, 3, 12, 8, 12), (.iload 6, 2, 6, 0, 0), (.iaload, 1, 0, 0, 0), (.iastore, 1, 0, 0, 0), (.iinc 6 1, 3, 6, 0, 1)], .goto (-28), 3, 52, 0),
  (466, [(.iload 4, 2, 4, 0, 0), (.iconst 1, 1, 0, 0, 1)], .if_icmp .le 7, 3, 56, 55),
  (472, [(.iconst 1, 1, 0, 0, 1)], .goto 4, 3, 57, 0),
  (476, [(.iconst 0, 1, 0, 0, 0)], .nop, 0, 57, 0),
  (477, [], .ireturn, 1, 1, 0)]
def cd_X8_orders : List SG := [(0, [(.iconst 0, 1, 0, 0, 0), (.istore_n 2, 1, 2, 0, 0)], .nop, 0, 1, 0),
  (2, [(.iload_n 2, 1, 2, 0, 0), (.aload_n 0, 1, 0, 0, 0), (.getfield 17, 3, 5, 8, 5), (.iload_n 1, 1, 1, 0, 0), (.iaload, 1, 0, 0, 0)], .if_icmp .ge 86, 3, 11, 2),
  (12, [(.aload_n 0, 1, 0, 0, 0), (.getfield 35, 3, 11, 8, 11), (.iload_n 2, 1, 2, 0, 0), (.iconst 0, 1, 0, 0, 0), (.iastore, 1, 0, 0, 0), (.iconst 0, 1, 0, 0, 0), (.istore_n 3, 1, 3, 0, 0)], .nop, 0, 3, 0),
  (21, [(.iload_n 3, 1, 3, 0, 0), (.aload_n 0, 1, 0, 0, 0), (.getfield 17, 3, 5, 8, 5), (.iload_n 1, 1, 1, 0, 0), (.iaload, 1, 0, 0, 0)], .if_icmp .ge 61, 3, 10, 4),
  (31, [(.aload_n 0, 1, 0, 0, 0), (.getfield 41, 3, 13, 8, 13), (.iconst 5, 1, 0, 0, 5), (.iload_n 2, 1, 2, 0, 0), (.imul, 1, 0, 0, 0), (.iload_n 3, 1, 3, 0, 0), (.iadd, 1, 0, 0, 0), (.iconst 0, 1, 0, 0, 0), (.iastore, 1, 0, 0, 0), (.aload_n 0, 1, 0, 0, 0), (.getfield 35, 3, 11, 8, 11), (.iload_n 2, 1, 2, 0, 0), (.dup2, 1, 0, 0, 0), (.iaload, 1, 0, 0, 0), (.aload_n 0, 1, 0, 0, 0), (.aload_n 0, 1, 0, 0, 0), (.getfield 13, 3, 4, 8, 4), (.iload_n 1, 1, 1, 0, 0), (.iaload, 1, 0, 0, 0), (.iload_n 3, 1, 3, 0, 0), (.iadd, 1, 0, 0, 0)], .invokevirtual 106, 3, 109, 5),
  (61, [(.aload_n 0, 1, 0, 0, 0), (.aload_n 0, 1, 0, 0, 0), (.getfield 13, 3, 4, 8, 4), (.iload_n 1, 1, 1, 0, 0), (.iaload, 1, 0, 0, 0), (.iload_n 2, 1, 2, 0, 0), (.iadd, 1, 0, 0, 0)], .invokevirtual 106, 3, 109, 6),
  (73, [], .if_icmp .le 7, 3, 8, 7),
  (76, [(.iconst 1, 1, 0, 0, 1)], .goto 4, 3, 9, 0),
  (80, [(.iconst 0, 1, 0, 0, 0)], .nop, 0, 9, 0),
  (81, [(.iadd, 1, 0, 0, 0), (.iastore, 1, 0, 0, 0), (.iinc 3 1, 3, 3, 0, 1)], .goto (-65), 3, 3, 0),
  (89, [(.iinc 2 1, 3, 2, 0, 1)], .goto (-90), 3, 1, 0),
  (95, [(.iconst 1, 1, 0, 0, 1), (.istore_n 2, 1, 2, 0, 0)], .nop, 0, 12, 0),
  (97, [(.iload_n 2, 1, 2, 0, 0)], .ifCond .eq 45, 3, 22, 13),
  (101, [(.iconst 0, 1, 0, 0, 0), (.istore_n 2, 1, 2, 0, 0), (.iconst 0, 1, 0, 0, 0), (.istore_n 3, 1, 3, 0, 0)], .nop, 0, 14, 0),
  (105, [(.iload_n 3, 1, 3, 0, 0), (.aload_n 0, 1, 0, 0, 0), (.getfield 17, 3, 5, 8, 5), (.iload_n 1, 1, 1, 0, 0), (.iaload, 1, 0, 0, 0)], .if_icmp .ge 28, 3, 21, 15),
  (115, [(.aload_n 0, 1, 0, 0, 0), (.iload_n 1, 1, 1, 0, 0), (.iload_n 3, 1, 3, 0, 0)], .invokevirtual 109, 3, 112, 16),
  (121, [], .ifCond .ne 7, 3, 18, 17),
  (124, [(.iload_n 2, 1, 2, 0, 0)], .ifCond .eq 7, 3, 19, 18),
  (128, [(.iconst 1, 1, 0, 0, 1)], .goto 4, 3, 20, 0),
  (132, [(.iconst 0, 1, 0, 0, 0)], .nop, 0, 20, 0),
  (133, [(.istore_n 2, 1, 2, 0, 0), (.iinc 3 1, 3, 3, 0, 1)], .goto (-32), 3, 14, 0),
  (140, [], .goto (-43), 3, 12, 0),
  (143, [], .return_, 1, 0, 0)]
def cd_X8_placeOf : List SG := [(0, [(.aload_n 0, 1, 0, 0, 0), (.aload_n 0, 1, 0, 0, 0), (.getfield 20, 3, 6, 8, 6), (.iload_n 1, 1, 1, 0, 0), (.iaload, 1, 0, 0, 0)], .invokevirtual 112, 3, 113, 1),
  (10, [(.aload_n 0, 1, 0, 0, 0), (.getfield 35, 3, 11, 8, 11), (.iload_n 1, 1, 1, 0, 0), (.aload_n 0, 1, 0, 0, 0), (.getfield 13, 3, 4, 8, 4), (.aload_n 0, 1, 0, 0, 0), (.getfield 20, 3, 6, 8, 6), (.iload_n 1, 1, 1, 0, 0), (.iaload, 1, 0, 0, 0), (.iaload, 1, 0, 0, 0), (.isub, 1, 0, 0, 0), (.iaload, 1, 0, 0, 0)], .ireturn, 1, 0, 0)]
def cd_X8_teamOn : List SG := [(0, [(.aload_n 0, 1, 0, 0, 0), (.iload_n 1, 1, 1, 0, 0)], .invokevirtual 112, 3, 113, 1),
  (5, [(.iconst (-1), 1, 0, 0, (-1)), (.istore_n 3, 1, 3, 0, 0), (.iconst 0, 1, 0, 0, 0), (.istore 4, 2, 4, 0, 0)], .nop, 0, 2, 0),
  (10, [(.iload 4, 2, 4, 0, 0), (.aload_n 0, 1, 0, 0, 0), (.getfield 17, 3, 5, 8, 5), (.iload_n 1, 1, 1, 0, 0), (.iaload, 1, 0, 0, 0)], .if_icmp .ge 34, 3, 7, 3),
  (21, [(.aload_n 0, 1, 0, 0, 0), (.getfield 35, 3, 11, 8, 11), (.iload 4, 2, 4, 0, 0), (.iaload, 1, 0, 0, 0), (.iload_n 2, 1, 2, 0, 0)], .if_icmp .ne 15, 3, 5, 4),
  (32, [(.aload_n 0, 1, 0, 0, 0), (.getfield 13, 3, 4, 8, 4), (.iload_n 1, 1, 1, 0, 0), (.iaload, 1, 0, 0, 0), (.iload 4, 2, 4, 0, 0), (.iadd, 1, 0, 0, 0)], .goto 4, 3, 6, 0),
  (44, [(.iload_n 3, 1, 3, 0, 0)], .nop, 0, 6, 0),
  (45, [(.istore_n 3, 1, 3, 0, 0), (.iinc 4 1, 3, 4, 0, 1)], .goto (-39), 3, 2, 0),
  (52, [(.iload_n 3, 1, 3, 0, 0)], .ireturn, 1, 0, 0)]
def cd_X8_groups : List SG := [(0, [(.aload_n 0, 1, 0, 0, 0), (.aload_n 0, 1, 0, 0, 0), (.getfield 60, 3, 0, 8, 0)], .invokevirtual 116, 3, 92, 1),
  (8, [], .ireturn, 1, 0, 0)]
def cd_X8_teams : List SG := [(0, [(.aload_n 0, 1, 0, 0, 0), (.aload_n 0, 1, 0, 0, 0), (.getfield 53, 3, 1, 8, 1)], .invokevirtual 116, 3, 92, 1),
  (8, [], .ireturn, 1, 0, 0)]
def cd_X8_groupOf : List SG := [(0, [(.aload_n 0, 1, 0, 0, 0), (.aload_n 0, 1, 0, 0, 0), (.iload_n 1, 1, 1, 0, 0)], .invokevirtual 75, 3, 93, 1),
  (6, [(.iconst 1, 1, 0, 0, 1), (.iconst 1, 1, 0, 0, 1)], .invokevirtual 67, 3, 91, 2),
  (11, [], .ifCond .eq 12, 3, 4, 3),
  (14, [(.aload_n 0, 1, 0, 0, 0), (.getfield 20, 3, 6, 8, 6), (.iload_n 1, 1, 1, 0, 0), (.iaload, 1, 0, 0, 0)], .goto 4, 3, 5, 0),
  (23, [(.iconst 0, 1, 0, 0, 0)], .nop, 0, 5, 0),
  (24, [], .ireturn, 1, 0, 0)]
def cd_X8_played : List SG := [(0, [(.aload_n 0, 1, 0, 0, 0), (.aload_n 0, 1, 0, 0, 0), (.iload_n 1, 1, 1, 0, 0)], .invokevirtual 75, 3, 93, 1),
  (6, [(.iconst 1, 1, 0, 0, 1), (.iconst 1, 1, 0, 0, 1)], .invokevirtual 67, 3, 91, 2),
  (11, [], .ifCond .ne 5, 3, 4, 3),
  (14, [(.iconst 0, 1, 0, 0, 0)], .ireturn, 1, 0, 0),
  (16, [(.iconst 0, 1, 0, 0, 0), (.istore_n 2, 1, 2, 0, 0), (.iconst 0, 1, 0, 0, 0), (.istore_n 3, 1, 3, 0, 0)], .nop, 0, 5, 0),
  (20, [(.iload_n 3, 1, 3, 0, 0), (.aload_n 0, 1, 0, 0, 0), (.getfield 17, 3, 5, 8, 5), (.aload_n 0, 1, 0, 0, 0), (.getfield 20, 3, 6, 8, 6), (.iload_n 1, 1, 1, 0, 0), (.iaload, 1, 0, 0, 0), (.iaload, 1, 0, 0, 0)], .if_icmp .ge 31, 3, 10, 6),
  (35, [(.iload_n 2, 1, 2, 0, 0), (.aload_n 0, 1, 0, 0, 0), (.getfield 32, 3, 10, 8, 10), (.iconst 5, 1, 0, 0, 5), (.iload_n 1, 1, 1, 0, 0), (.imul, 1, 0, 0, 0), (.iload_n 3, 1, 3, 0, 0), (.iadd, 1, 0, 0, 0), (.iaload, 1, 0, 0, 0), (.iconst (-1), 1, 0, 0, (-1))], .if_icmp .ne 7, 3, 8, 7),
  (50, [(.iconst 0, 1, 0, 0, 0)], .goto 4, 3, 9, 0),
  (54, [(.iconst 1, 1, 0, 0, 1)], .nop, 0, 9, 0),
  (55, [(.iadd, 1, 0, 0, 0), (.istore_n 2, 1, 2, 0, 0), (.iinc 3 1, 3, 3, 0, 1)], .goto (-40), 3, 5, 0),
  (63, [(.iload_n 2, 1, 2, 0, 0)], .ireturn, 1, 0, 0)]
def cd_X8_points : List SG := [(0, [(.aload_n 0, 1, 0, 0, 0), (.aload_n 0, 1, 0, 0, 0), (.iload_n 1, 1, 1, 0, 0)], .invokevirtual 75, 3, 93, 1),
  (6, [(.iconst 1, 1, 0, 0, 1), (.iconst 1, 1, 0, 0, 1)], .invokevirtual 67, 3, 91, 2),
  (11, [], .ifCond .eq 11, 3, 5, 3),
  (14, [(.aload_n 0, 1, 0, 0, 0), (.iload_n 1, 1, 1, 0, 0)], .invokevirtual 106, 3, 109, 4),
  (19, [], .goto 4, 3, 6, 0),
  (22, [(.iconst 0, 1, 0, 0, 0)], .nop, 0, 6, 0),
  (23, [], .ireturn, 1, 0, 0)]
def cd_X8_difference : List SG := [(0, [(.aload_n 0, 1, 0, 0, 0), (.aload_n 0, 1, 0, 0, 0), (.iload_n 1, 1, 1, 0, 0)], .invokevirtual 75, 3, 93, 1),
  (6, [(.iconst 1, 1, 0, 0, 1), (.iconst 1, 1, 0, 0, 1)], .invokevirtual 67, 3, 91, 2),
  (11, [], .ifCond .eq 14, 3, 5, 3),
  (14, [(.aload_n 0, 1, 0, 0, 0), (.iload_n 1, 1, 1, 0, 0), (.iconst 1, 1, 0, 0, 1), (.bipush 31, 2, 0, 0, 31)], .invokevirtual 96, 3, 108, 4),
  (22, [], .goto 4, 3, 6, 0),
  (25, [(.iconst 0, 1, 0, 0, 0)], .nop, 0, 6, 0),
  (26, [], .ireturn, 1, 0, 0)]
def cd_X8_goals : List SG := [(0, [(.aload_n 0, 1, 0, 0, 0), (.aload_n 0, 1, 0, 0, 0), (.iload_n 1, 1, 1, 0, 0)], .invokevirtual 75, 3, 93, 1),
  (6, [(.iconst 1, 1, 0, 0, 1), (.iconst 1, 1, 0, 0, 1)], .invokevirtual 67, 3, 91, 2),
  (11, [], .ifCond .eq 14, 3, 5, 3),
  (14, [(.aload_n 0, 1, 0, 0, 0), (.iload_n 1, 1, 1, 0, 0), (.iconst 2, 1, 0, 0, 2), (.bipush 31, 2, 0, 0, 31)], .invokevirtual 96, 3, 108, 4),
  (22, [], .goto 4, 3, 6, 0),
  (25, [(.iconst 0, 1, 0, 0, 0)], .nop, 0, 6, 0),
  (26, [], .ireturn, 1, 0, 0)]
def cd_X8_place : List SG := [(0, [(.aload_n 0, 1, 0, 0, 0), (.aload_n 0, 1, 0, 0, 0), (.iload_n 1, 1, 1, 0, 0)], .invokevirtual 75, 3, 93, 1),
  (6, [(.iconst 1, 1, 0, 0, 1), (.iconst 1, 1, 0, 0, 1)], .invokevirtual 67, 3, 91, 2),
  (11, [], .ifCond .eq 11, 3, 5, 3),
  (14, [(.aload_n 0, 1, 0, 0, 0), (.iload_n 1, 1, 1, 0, 0)], .invokevirtual 119, 3, 114, 4),
  (19, [], .goto 4, 3, 6, 0),
  (22, [(.iconst 0, 1, 0, 0, 0)], .nop, 0, 6, 0),
  (23, [], .ireturn, 1, 0, 0)]
def cd_X8_teamAt : List SG := [(0, [(.aload_n 0, 1, 0, 0, 0), (.iload_n 1, 1, 1, 0, 0)], .invokevirtual 122, 3, 94, 1),
  (5, [(.istore_n 3, 1, 3, 0, 0), (.aload_n 0, 1, 0, 0, 0), (.iload_n 3, 1, 3, 0, 0)], .ifCond .eq 31, 3, 8, 2),
  (11, [(.iload_n 2, 1, 2, 0, 0), (.iconst 0, 1, 0, 0, 0), (.aload_n 0, 1, 0, 0, 0), (.getfield 17, 3, 5, 8, 5), (.iload_n 3, 1, 3, 0, 0)], .ifCond .eq 7, 3, 4, 3),
  (21, [(.iload_n 1, 1, 1, 0, 0)], .goto 4, 3, 5, 0),
  (25, [(.iconst 0, 1, 0, 0, 0)], .nop, 0, 5, 0),
  (26, [(.iaload, 1, 0, 0, 0), (.iconst 1, 1, 0, 0, 1), (.isub, 1, 0, 0, 0)], .invokestatic 56, 3, 90, 6),
  (32, [], .ifCond .eq 7, 3, 8, 7),
  (35, [(.iconst 1, 1, 0, 0, 1)], .goto 4, 3, 9, 0),
  (39, [(.iconst 0, 1, 0, 0, 0)], .nop, 0, 9, 0),
  (40, [(.iconst 1, 1, 0, 0, 1), (.iconst 1, 1, 0, 0, 1)], .invokevirtual 67, 3, 91, 10),
  (45, [], .ifCond .eq 12, 3, 13, 11),
  (48, [(.aload_n 0, 1, 0, 0, 0), (.iload_n 1, 1, 1, 0, 0), (.iload_n 2, 1, 2, 0, 0)], .invokevirtual 125, 3, 115, 12),
  (54, [], .goto 4, 3, 14, 0),
  (57, [(.iconst 0, 1, 0, 0, 0)], .nop, 0, 14, 0),
  (58, [], .ireturn, 1, 0, 0)]
def cd_X8_rule : List SG := [(0, [(.aload_n 0, 1, 0, 0, 0), (.iload_n 1, 1, 1, 0, 0)], .invokevirtual 75, 3, 93, 1),
  (5, [], .ifCond .eq 15, 3, 5, 2),
  (8, [(.aload_n 0, 1, 0, 0, 0), (.iload_n 2, 1, 2, 0, 0)], .invokevirtual 75, 3, 93, 3),
  (13, [], .ifCond .eq 7, 3, 5, 4),
  (16, [(.iconst 1, 1, 0, 0, 1)], .goto 4, 3, 6, 0),
  (20, [(.iconst 0, 1, 0, 0, 0)], .nop, 0, 6, 0),
  (21, [(.istore_n 3, 1, 3, 0, 0), (.aload_n 0, 1, 0, 0, 0), (.iload_n 3, 1, 3, 0, 0), (.iload_n 3, 1, 3, 0, 0)], .ifCond .eq 16, 3, 10, 7),
  (28, [(.aload_n 0, 1, 0, 0, 0), (.iload_n 1, 1, 1, 0, 0), (.iload_n 2, 1, 2, 0, 0)], .invokevirtual 79, 3, 95, 8),
  (34, [], .ifCond .eq 7, 3, 10, 9),
  (37, [(.iconst 1, 1, 0, 0, 1)], .goto 4, 3, 11, 0),
  (41, [(.iconst 0, 1, 0, 0, 0)], .nop, 0, 11, 0),
  (42, [(.iconst 1, 1, 0, 0, 1)], .invokevirtual 67, 3, 91, 12),
  (46, [], .ifCond .ne 5, 3, 14, 13),
  (49, [(.iconst 0, 1, 0, 0, 0)], .ireturn, 1, 0, 0),
  (51, [(.aload_n 0, 1, 0, 0, 0), (.aload_n 0, 1, 0, 0, 0), (.getfield 20, 3, 6, 8, 6), (.iload_n 1, 1, 1, 0, 0), (.iaload, 1, 0, 0, 0)], .invokevirtual 112, 3, 113, 15),
  (61, [(.aload_n 0, 1, 0, 0, 0), (.getfield 41, 3, 13, 8, 13), (.iconst 5, 1, 0, 0, 5), (.iload_n 1, 1, 1, 0, 0), (.aload_n 0, 1, 0, 0, 0), (.getfield 13, 3, 4, 8, 4), (.aload_n 0, 1, 0, 0, 0), (.getfield 20, 3, 6, 8, 6), (.iload_n 1, 1, 1, 0, 0), (.iaload, 1, 0, 0, 0), (.iaload, 1, 0, 0, 0), (.isub, 1, 0, 0, 0), (.imul, 1, 0, 0, 0), (.iload_n 2, 1, 2, 0, 0), (.iadd, 1, 0, 0, 0), (.aload_n 0, 1, 0, 0, 0), (.getfield 13, 3, 4, 8, 4), (.aload_n 0, 1, 0, 0, 0), (.getfield 20, 3, 6, 8, 6), (.iload_n 1, 1, 1, 0, 0), (.iaload, 1, 0, 0, 0), (.iaload, 1, 0, 0, 0), (.isub, 1, 0, 0, 0), (.iaload, 1, 0, 0, 0)], .ireturn, 1, 0, 0)]
def cd_X8_matchesLeft : List SG := [(0, [(.aload_n 0, 1, 0, 0, 0), (.aload_n 0, 1, 0, 0, 0), (.iload_n 1, 1, 1, 0, 0)], .invokevirtual 122, 3, 94, 1),
  (6, [(.iconst 1, 1, 0, 0, 1), (.iconst 1, 1, 0, 0, 1)], .invokevirtual 67, 3, 91, 2),
  (11, [], .ifCond .eq 11, 3, 5, 3),
  (14, [(.aload_n 0, 1, 0, 0, 0), (.iload_n 1, 1, 1, 0, 0)], .invokevirtual 86, 3, 99, 4),
  (19, [], .goto 4, 3, 6, 0),
  (22, [(.iconst 0, 1, 0, 0, 0)], .nop, 0, 6, 0),
  (23, [], .ireturn, 1, 0, 0)]
def cd_X8_counting : List SG := [(0, [(.iconst 5, 1, 0, 0, 5), (.istore_n 2, 1, 2, 0, 0), (.iconst 0, 1, 0, 0, 0), (.istore_n 3, 1, 3, 0, 0)], .nop, 0, 1, 0),
  (4, [(.iload_n 3, 1, 3, 0, 0), (.aload_n 0, 1, 0, 0, 0), (.getfield 60, 3, 0, 8, 0)], .if_icmp .ge 30, 3, 6, 2),
  (12, [(.aload_n 0, 1, 0, 0, 0), (.getfield 17, 3, 5, 8, 5), (.iload_n 3, 1, 3, 0, 0), (.iaload, 1, 0, 0, 0), (.iload_n 2, 1, 2, 0, 0)], .if_icmp .ge 12, 3, 4, 3),
  (22, [(.aload_n 0, 1, 0, 0, 0), (.getfield 17, 3, 5, 8, 5), (.iload_n 3, 1, 3, 0, 0), (.iaload, 1, 0, 0, 0)], .goto 4, 3, 5, 0),
  (31, [(.iload_n 2, 1, 2, 0, 0)], .nop, 0, 5, 0),
  (32, [(.istore_n 2, 1, 2, 0, 0), (.iinc 3 1, 3, 3, 0, 1)], .goto (-32), 3, 1, 0),
  (39, [(.aload_n 0, 1, 0, 0, 0), (.iload_n 1, 1, 1, 0, 0)], .invokevirtual 112, 3, 113, 7),
  (44, [(.iconst 0, 1, 0, 0, 0), (.istore_n 3, 1, 3, 0, 0), (.iconst 0, 1, 0, 0, 0), (.istore 4, 2, 4, 0, 0)], .nop, 0, 8, 0),
  (49, [(.iload 4, 2, 4, 0, 0), (.aload_n 0, 1, 0, 0, 0), (.getfield 17, 3, 5, 8, 5), (.iload_n 1, 1, 1, 0, 0), (.iaload, 1, 0, 0, 0)], .if_icmp .ge 31, 3, 13, 9),
  (60, [(.iload_n 3, 1, 3, 0, 0), (.aload_n 0, 1, 0, 0, 0), (.getfield 35, 3, 11, 8, 11), (.iload 4, 2, 4, 0, 0), (.iaload, 1, 0, 0, 0), (.iload_n 2, 1, 2, 0, 0)], .if_icmp .ge 10, 3, 11, 10),
  (72, [(.iconst 1, 1, 0, 0, 1), (.iload 4, 2, 4, 0, 0), (.ishl, 1, 0, 0, 0)], .goto 4, 3, 12, 0),
  (79, [(.iconst 0, 1, 0, 0, 0)], .nop, 0, 12, 0),
  (80, [(.ior, 1, 0, 0, 0), (.istore_n 3, 1, 3, 0, 0), (.iinc 4 1, 3, 4, 0, 1)], .goto (-36), 3, 8, 0),
  (88, [(.iload_n 3, 1, 3, 0, 0)], .ireturn, 1, 0, 0)]
def cd_X8_thirdSum : List SG := [(0, [(.aload_n 0, 1, 0, 0, 0), (.iload_n 1, 1, 1, 0, 0)], .invokevirtual 128, 3, 127, 1),
  (5, [(.istore_n 3, 1, 3, 0, 0), (.aload_n 0, 1, 0, 0, 0), (.iload_n 1, 1, 1, 0, 0), (.iconst 2, 1, 0, 0, 2)], .invokevirtual 125, 3, 115, 2),
  (12, [(.istore 4, 2, 4, 0, 0), (.aload_n 0, 1, 0, 0, 0), (.iload 4, 2, 4, 0, 0), (.iload_n 2, 1, 2, 0, 0), (.iload_n 3, 1, 3, 0, 0)], .invokevirtual 96, 3, 108, 3),
  (22, [(.iload_n 2, 1, 2, 0, 0)], .ifCond .ne 13, 3, 5, 4),
  (26, [(.aload_n 0, 1, 0, 0, 0), (.getfield 23, 3, 7, 8, 7), (.iload 4, 2, 4, 0, 0), (.iaload, 1, 0, 0, 0)], .goto 4, 3, 6, 0),
  (36, [(.iconst 0, 1, 0, 0, 0)], .nop, 0, 6, 0),
  (37, [(.isub, 1, 0, 0, 0)], .ireturn, 1, 0, 0)]
def cd_X8_isBetter : List SG := [(0, [(.aload_n 0, 1, 0, 0, 0), (.iload_n 1, 1, 1, 0, 0), (.iconst 2, 1, 0, 0, 2)], .invokevirtual 125, 3, 115, 1),
  (6, [(.istore_n 3, 1, 3, 0, 0), (.aload_n 0, 1, 0, 0, 0), (.iload_n 2, 1, 2, 0, 0), (.iconst 2, 1, 0, 0, 2)], .invokevirtual 125, 3, 115, 2),
  (13, [(.istore 4, 2, 4, 0, 0), (.iconst 0, 1, 0, 0, 0), (.istore 5, 2, 5, 0, 0)], .nop, 0, 3, 0),
  (18, [(.iload 5, 2, 5, 0, 0), (.iconst 3, 1, 0, 0, 3)], .if_icmp .ge 42, 3, 12, 4),
  (24, [(.aload_n 0, 1, 0, 0, 0), (.iload_n 1, 1, 1, 0, 0), (.iload 5, 2, 5, 0, 0)], .invokevirtual 131, 3, 128, 5),
  (31, [(.aload_n 0, 1, 0, 0, 0), (.iload_n 2, 1, 2, 0, 0), (.iload 5, 2, 5, 0, 0)], .invokevirtual 131, 3, 128, 6),
  (38, [(.isub, 1, 0, 0, 0), (.istore 6, 2, 6, 0, 0), (.iload 6, 2, 6, 0, 0)], .ifCond .eq 14, 3, 11, 7),
  (46, [(.iload 6, 2, 6, 0, 0)], .ifCond .le 7, 3, 9, 8),
  (51, [(.iconst 1, 1, 0, 0, 1)], .goto 4, 3, 10, 0),
  (55, [(.iconst 0, 1, 0, 0, 0)], .nop, 0, 10, 0),
  (56, [], .ireturn, 1, 1, 0),
  (57, [(.iinc 5 1, 3, 5, 0, 1)], .goto (-42), 3, 3, 0),
  (63, [(.aload_n 0, 1, 0, 0, 0), (.getfield 26, 3, 8, 8, 8), (.iload_n 3, 1, 3, 0, 0), (.iaload, 1, 0, 0, 0), (.aload_n 0, 1, 0, 0, 0), (.getfield 26, 3, 8, 8, 8), (.iload 4, 2, 4, 0, 0), (.iaload, 1, 0, 0, 0)], .if_icmp .eq 25, 3, 17, 13),
  (79, [(.aload_n 0, 1, 0, 0, 0), (.getfield 26, 3, 8, 8, 8), (.iload_n 3, 1, 3, 0, 0), (.iaload, 1, 0, 0, 0), (.aload_n 0, 1, 0, 0, 0), (.getfield 26, 3, 8, 8, 8), (.iload 4, 2, 4, 0, 0), (.iaload, 1, 0, 0, 0)], .if_icmp .ge 7, 3, 15, 14),
  (95, [(.iconst 1, 1, 0, 0, 1)], .goto 4, 3, 16, 0),
  (99, [(.iconst 0, 1, 0, 0, 0)], .nop, 0, 16, 0),
  (100, [], .ireturn, 1, 1, 0),
  (101, [(.aload_n 0, 1, 0, 0, 0), (.getfield 29, 3, 9, 8, 9), (.iload_n 3, 1, 3, 0, 0), (.iaload, 1, 0, 0, 0), (.aload_n 0, 1, 0, 0, 0), (.getfield 29, 3, 9, 8, 9), (.iload 4, 2, 4, 0, 0), (.iaload, 1, 0, 0, 0)], .if_icmp .eq 27, 3, 21, 18),
  (117, [(.aload_n 0, 1, 0, 0, 0), (.getfield 29, 3, 9, 8, 9), (.iload_n 3, 1, 3, 0, 0), (.iaload, 1, 0, 0, 0), (.aload_n 0, 1, 0, 0, 0), (.getfield 29, 3, 9, 8, 9), (.iload 4, 2, 4, 0, 0), (.iaload, 1, 0, 0, 0)], .if_icmp .ge 7, 3, 20, 19),
  (133, [(.iconst 1, 1, 0, 0, 1)], .goto 18, 3, 24, 0),
  (137, [(.iconst 0, 1, 0, 0, 0)], .goto 14, 3, 24, 0),
  (141, [(.iload_n 3, 1, 3, 0, 0), (.iload 4, 2, 4, 0, 0)], .if_icmp .ge 7, 3, 23, 22),
  (147, [(.iconst 1, 1, 0, 0, 1)], .goto 4, 3, 24, 0),
  (151, [(.iconst 0, 1, 0, 0, 0)], .nop, 0, 24, 0),
  (152, [], .ireturn, 1, 1, 0)]
def cd_X8_rankOf : List SG := [(0, [(.iconst 0, 1, 0, 0, 0), (.istore_n 2, 1, 2, 0, 0), (.iconst 0, 1, 0, 0, 0), (.istore_n 3, 1, 3, 0, 0)], .nop, 0, 1, 0),
  (4, [(.iload_n 3, 1, 3, 0, 0), (.aload_n 0, 1, 0, 0, 0), (.getfield 60, 3, 0, 8, 0)], .if_icmp .ge 31, 3, 8, 2),
  (12, [(.iload_n 2, 1, 2, 0, 0), (.iload_n 3, 1, 3, 0, 0), (.iload_n 1, 1, 1, 0, 0)], .if_icmp .eq 16, 3, 6, 3),
  (18, [(.aload_n 0, 1, 0, 0, 0), (.iload_n 3, 1, 3, 0, 0), (.iload_n 1, 1, 1, 0, 0)], .invokevirtual 134, 3, 129, 4),
  (24, [], .ifCond .eq 7, 3, 6, 5),
  (27, [(.iconst 1, 1, 0, 0, 1)], .goto 4, 3, 7, 0),
  (31, [(.iconst 0, 1, 0, 0, 0)], .nop, 0, 7, 0),
  (32, [(.iadd, 1, 0, 0, 0), (.istore_n 2, 1, 2, 0, 0), (.iinc 3 1, 3, 3, 0, 1)], .goto (-33), 3, 1, 0),
  (40, [(.iload_n 2, 1, 2, 0, 0)], .ireturn, 1, 0, 0)]
def cd_X8_thirdPoints : List SG := [(0, [(.aload_n 0, 1, 0, 0, 0), (.aload_n 0, 1, 0, 0, 0), (.iload_n 1, 1, 1, 0, 0)], .invokevirtual 122, 3, 94, 1),
  (6, [(.iconst 1, 1, 0, 0, 1), (.iconst 1, 1, 0, 0, 1)], .invokevirtual 67, 3, 91, 2),
  (11, [], .ifCond .eq 12, 3, 5, 3),
  (14, [(.aload_n 0, 1, 0, 0, 0), (.iload_n 1, 1, 1, 0, 0), (.iconst 0, 1, 0, 0, 0)], .invokevirtual 131, 3, 128, 4),
  (20, [], .goto 4, 3, 6, 0),
  (23, [(.iconst 0, 1, 0, 0, 0)], .nop, 0, 6, 0),
  (24, [], .ireturn, 1, 0, 0)]
def cd_X8_thirdRank : List SG := [(0, [(.aload_n 0, 1, 0, 0, 0), (.aload_n 0, 1, 0, 0, 0), (.iload_n 1, 1, 1, 0, 0)], .invokevirtual 122, 3, 94, 1),
  (6, [(.iconst 1, 1, 0, 0, 1), (.iconst 1, 1, 0, 0, 1)], .invokevirtual 67, 3, 91, 2),
  (11, [], .ifCond .eq 11, 3, 5, 3),
  (14, [(.aload_n 0, 1, 0, 0, 0), (.iload_n 1, 1, 1, 0, 0)], .invokevirtual 137, 3, 130, 4),
  (19, [], .goto 4, 3, 6, 0),
  (22, [(.iconst 0, 1, 0, 0, 0)], .nop, 0, 6, 0),
  (23, [], .ireturn, 1, 0, 0)]
def cd_X8_isThrough : List SG := [(0, [(.aload_n 0, 1, 0, 0, 0), (.aload_n 0, 1, 0, 0, 0), (.iload_n 1, 1, 1, 0, 0)], .invokevirtual 75, 3, 93, 1),
  (6, [(.iconst 1, 1, 0, 0, 1), (.iconst 1, 1, 0, 0, 1)], .invokevirtual 67, 3, 91, 2),
  (11, [], .ifCond .ne 5, 3, 4, 3),
  (14, [(.iconst 0, 1, 0, 0, 0)], .ireturn, 1, 1, 0),
  (16, [(.aload_n 0, 1, 0, 0, 0), (.iload_n 1, 1, 1, 0, 0)], .invokevirtual 119, 3, 114, 5),
  (21, [(.istore_n 2, 1, 2, 0, 0), (.iload_n 2, 1, 2, 0, 0), (.aload_n 0, 1, 0, 0, 0), (.getfield 7, 3, 2, 8, 2)], .if_icmp .lt 25, 3, 9, 6),
  (30, [(.iload_n 2, 1, 2, 0, 0), (.iconst 2, 1, 0, 0, 2)], .if_icmp .ne 24, 3, 10, 7),
  (35, [(.aload_n 0, 1, 0, 0, 0), (.aload_n 0, 1, 0, 0, 0), (.getfield 20, 3, 6, 8, 6), (.iload_n 1, 1, 1, 0, 0), (.iaload, 1, 0, 0, 0)], .invokevirtual 137, 3, 130, 8),
  (45, [(.aload_n 0, 1, 0, 0, 0), (.getfield 90, 3, 3, 8, 3)], .if_icmp .ge 7, 3, 10, 9),
  (52, [(.iconst 1, 1, 0, 0, 1)], .goto 4, 3, 11, 0),
  (56, [(.iconst 0, 1, 0, 0, 0)], .nop, 0, 11, 0),
  (57, [], .ireturn, 1, 1, 0)]
def cd_X8_waysOf : List SG := [(0, [(.iconst 1, 1, 0, 0, 1), (.istore_n 2, 1, 2, 0, 0), (.aload_n 0, 1, 0, 0, 0), (.iload_n 1, 1, 1, 0, 0)], .invokevirtual 86, 3, 99, 1),
  (7, [(.istore_n 3, 1, 3, 0, 0)], .nop, 0, 2, 0),
  (8, [(.iload_n 3, 1, 3, 0, 0)], .ifCond .le 13, 3, 4, 3),
  (12, [(.iload_n 2, 1, 2, 0, 0), (.iconst 3, 1, 0, 0, 3), (.imul, 1, 0, 0, 0), (.istore_n 2, 1, 2, 0, 0), (.iinc 3 (-1), 3, 3, 0, (-1))], .goto (-11), 3, 2, 0),
  (22, [(.iload_n 2, 1, 2, 0, 0)], .ireturn, 1, 0, 0)]
def cd_X8_plays : List SG := [(0, [(.iload_n 2, 1, 2, 0, 0), (.istore_n 3, 1, 3, 0, 0), (.iconst 0, 1, 0, 0, 0), (.istore 4, 2, 4, 0, 0)], .nop, 0, 1, 0),
  (5, [(.iload 4, 2, 4, 0, 0), (.aload_n 0, 1, 0, 0, 0), (.getfield 17, 3, 5, 8, 5), (.iload_n 1, 1, 1, 0, 0), (.iaload, 1, 0, 0, 0)], .if_icmp .ge 29, 3, 4, 2),
  (16, [(.aload_n 0, 1, 0, 0, 0), (.getfield 47, 3, 15, 8, 15), (.iload 4, 2, 4, 0, 0), (.aload_n 0, 1, 0, 0, 0), (.aload_n 0, 1, 0, 0, 0), (.getfield 13, 3, 4, 8, 4), (.iload_n 1, 1, 1, 0, 0), (.iaload, 1, 0, 0, 0), (.iload 4, 2, 4, 0, 0), (.iadd, 1, 0, 0, 0)], .invokevirtual 106, 3, 109, 3),
  (35, [(.iastore, 1, 0, 0, 0), (.iinc 4 1, 3, 4, 0, 1)], .goto (-34), 3, 1, 0),
  (42, [(.iconst 0, 1, 0, 0, 0), (.istore 4, 2, 4, 0, 0)], .nop, 0, 5, 0),
  (45, [(.iload 4, 2, 4, 0, 0), (.aload_n 0, 1, 0, 0, 0), (.getfield 17, 3, 5, 8, 5), (.iload_n 1, 1, 1, 0, 0), (.iaload, 1, 0, 0, 0)], .if_icmp .ge 126, 3, 23, 6),
  (56, [(.iload 4, 2, 4, 0, 0), (.iconst 1, 1, 0, 0, 1), (.iadd, 1, 0, 0, 0), (.istore 5, 2, 5, 0, 0)], .nop, 0, 7, 0),
  (62, [(.iload 5, 2, 5, 0, 0), (.aload_n 0, 1, 0, 0, 0), (.getfield 17, 3, 5, 8, 5), (.iload_n 1, 1, 1, 0, 0), (.iaload, 1, 0, 0, 0)], .if_icmp .ge 103, 3, 22, 8),
  (73, [(.aload_n 0, 1, 0, 0, 0), (.aload_n 0, 1, 0, 0, 0), (.getfield 13, 3, 4, 8, 4), (.iload_n 1, 1, 1, 0, 0), (.iaload, 1, 0, 0, 0), (.iload 4, 2, 4, 0, 0), (.iadd, 1, 0, 0, 0), (.aload_n 0, 1, 0, 0, 0), (.getfield 13, 3, 4, 8, 4), (.iload_n 1, 1, 1, 0, 0), (.iaload, 1, 0, 0, 0), (.iload 5, 2, 5, 0, 0), (.iadd, 1, 0, 0, 0)], .invokevirtual 71, 3, 97, 9),
  (95, [], .ifCond .ne 72, 3, 21, 10),
  (98, [(.aload_n 0, 1, 0, 0, 0), (.getfield 47, 3, 15, 8, 15), (.iload 4, 2, 4, 0, 0), (.dup2, 1, 0, 0, 0), (.iaload, 1, 0, 0, 0), (.iload_n 3, 1, 3, 0, 0), (.iconst 3, 1, 0, 0, 3), (.irem, 1, 0, 0, 0)], .ifCond .ne 7, 3, 12, 11),
  (112, [(.iconst 3, 1, 0, 0, 3)], .goto 15, 3, 15, 0),
  (116, [(.iload_n 3, 1, 3, 0, 0), (.iconst 3, 1, 0, 0, 3), (.irem, 1, 0, 0, 0), (.iconst 1, 1, 0, 0, 1)], .if_icmp .ne 7, 3, 14, 13),
  (123, [(.iconst 1, 1, 0, 0, 1)], .goto 4, 3, 15, 0),
  (127, [(.iconst 0, 1, 0, 0, 0)], .nop, 0, 15, 0),
  (128, [(.iadd, 1, 0, 0, 0), (.iastore, 1, 0, 0, 0), (.aload_n 0, 1, 0, 0, 0), (.getfield 47, 3, 15, 8, 15), (.iload 5, 2, 5, 0, 0), (.dup2, 1, 0, 0, 0), (.iaload, 1, 0, 0, 0), (.iload_n 3, 1, 3, 0, 0), (.iconst 3, 1, 0, 0, 3), (.irem, 1, 0, 0, 0), (.iconst 2, 1, 0, 0, 2)], .if_icmp .ne 7, 3, 17, 16),
  (145, [(.iconst 3, 1, 0, 0, 3)], .goto 15, 3, 20, 0),
  (149, [(.iload_n 3, 1, 3, 0, 0), (.iconst 3, 1, 0, 0, 3), (.irem, 1, 0, 0, 0), (.iconst 1, 1, 0, 0, 1)], .if_icmp .ne 7, 3, 19, 18),
  (156, [(.iconst 1, 1, 0, 0, 1)], .goto 4, 3, 20, 0),
  (160, [(.iconst 0, 1, 0, 0, 0)], .nop, 0, 20, 0),
  (161, [(.iadd, 1, 0, 0, 0), (.iastore, 1, 0, 0, 0), (.iload_n 3, 1, 3, 0, 0), (.iconst 3, 1, 0, 0, 3), (.idiv, 1, 0, 0, 0), (.istore_n 3, 1, 3, 0, 0)], .nop, 0, 21, 0),
  (167, [(.iinc 5 1, 3, 5, 0, 1)], .goto (-108), 3, 7, 0),
  (173, [(.iinc 4 1, 3, 4, 0, 1)], .goto (-131), 3, 5, 0),
  (179, [], .return_, 1, 0, 0)]
def cd_X8_before : List SG := [(0, [(.aload_n 0, 1, 0, 0, 0), (.getfield 20, 3, 6, 8, 6), (.iload_n 1, 1, 1, 0, 0), (.iaload, 1, 0, 0, 0), (.istore_n 3, 1, 3, 0, 0), (.iconst 0, 1, 0, 0, 0), (.istore 4, 2, 4, 0, 0), (.iconst 0, 1, 0, 0, 0), (.istore 5, 2, 5, 0, 0)], .nop, 0, 1, 0),
  (13, [(.iload 5, 2, 5, 0, 0), (.aload_n 0, 1, 0, 0, 0), (.getfield 17, 3, 5, 8, 5), (.iload_n 3, 1, 3, 0, 0), (.iaload, 1, 0, 0, 0)], .if_icmp .ge 57, 3, 7, 2),
  (24, [(.iload 4, 2, 4, 0, 0), (.iload 5, 2, 5, 0, 0), (.iload_n 1, 1, 1, 0, 0), (.aload_n 0, 1, 0, 0, 0), (.getfield 13, 3, 4, 8, 4), (.iload_n 3, 1, 3, 0, 0), (.iaload, 1, 0, 0, 0), (.isub, 1, 0, 0, 0)], .if_icmp .eq 32, 3, 5, 3),
  (39, [(.aload_n 0, 1, 0, 0, 0), (.getfield 47, 3, 15, 8, 15), (.iload 5, 2, 5, 0, 0), (.iaload, 1, 0, 0, 0), (.aload_n 0, 1, 0, 0, 0), (.getfield 47, 3, 15, 8, 15), (.iload_n 1, 1, 1, 0, 0), (.aload_n 0, 1, 0, 0, 0), (.getfield 13, 3, 4, 8, 4), (.iload_n 3, 1, 3, 0, 0), (.iaload, 1, 0, 0, 0), (.isub, 1, 0, 0, 0), (.iaload, 1, 0, 0, 0), (.iload_n 2, 1, 2, 0, 0), (.isub, 1, 0, 0, 0)], .if_icmp .le 7, 3, 5, 4),
  (64, [(.iconst 1, 1, 0, 0, 1)], .goto 4, 3, 6, 0),
  (68, [(.iconst 0, 1, 0, 0, 0)], .nop, 0, 6, 0),
  (69, [(.iadd, 1, 0, 0, 0), (.istore 4, 2, 4, 0, 0), (.iinc 5 1, 3, 5, 0, 1)], .goto (-62), 3, 1, 0),
  (78, [(.iload 4, 2, 4, 0, 0)], .ireturn, 1, 0, 0)]
def cd_X8_ways : List SG := [(0, [(.aload_n 0, 1, 0, 0, 0), (.aload_n 0, 1, 0, 0, 0), (.iload_n 1, 1, 1, 0, 0)], .invokevirtual 122, 3, 94, 1),
  (6, [(.iconst 1, 1, 0, 0, 1), (.iconst 1, 1, 0, 0, 1)], .invokevirtual 67, 3, 91, 2),
  (11, [], .ifCond .eq 11, 3, 5, 3),
  (14, [(.aload_n 0, 1, 0, 0, 0), (.iload_n 1, 1, 1, 0, 0)], .invokevirtual 140, 3, 134, 4),
  (19, [], .goto 4, 3, 6, 0),
  (22, [(.iconst 0, 1, 0, 0, 0)], .nop, 0, 6, 0),
  (23, [], .ireturn, 1, 0, 0)]
def cd_X8_counts : List SG := [(0, [(.iconst 0, 1, 0, 0, 0), (.istore_n 3, 1, 3, 0, 0), (.aload_n 0, 1, 0, 0, 0), (.aload_n 0, 1, 0, 0, 0), (.getfield 20, 3, 6, 8, 6), (.iload_n 1, 1, 1, 0, 0), (.iaload, 1, 0, 0, 0)], .invokevirtual 140, 3, 134, 1),
  (12, [(.istore 4, 2, 4, 0, 0), (.iconst 0, 1, 0, 0, 0), (.istore 5, 2, 5, 0, 0)], .nop, 0, 2, 0),
  (17, [(.iload 5, 2, 5, 0, 0), (.iload 4, 2, 4, 0, 0)], .if_icmp .ge 62, 3, 13, 3),
  (24, [(.aload_n 0, 1, 0, 0, 0), (.aload_n 0, 1, 0, 0, 0), (.getfield 20, 3, 6, 8, 6), (.iload_n 1, 1, 1, 0, 0), (.iaload, 1, 0, 0, 0), (.iload 5, 2, 5, 0, 0)], .invokevirtual 143, 3, 135, 4),
  (36, [(.iload_n 3, 1, 3, 0, 0), (.iload_n 2, 1, 2, 0, 0)], .ifCond .eq 19, 3, 8, 5),
  (41, [(.aload_n 0, 1, 0, 0, 0), (.iload_n 1, 1, 1, 0, 0), (.iconst 1, 1, 0, 0, 1)], .invokevirtual 147, 3, 136, 6),
  (47, [(.aload_n 0, 1, 0, 0, 0), (.getfield 7, 3, 2, 8, 2)], .if_icmp .ge 23, 3, 11, 7),
  (54, [], .goto 16, 3, 10, 0),
  (57, [(.aload_n 0, 1, 0, 0, 0), (.iload_n 1, 1, 1, 0, 0), (.iconst 0, 1, 0, 0, 0)], .invokevirtual 147, 3, 136, 9),
  (63, [(.aload_n 0, 1, 0, 0, 0), (.getfield 7, 3, 2, 8, 2)], .if_icmp .lt 7, 3, 11, 10),
  (70, [(.iconst 1, 1, 0, 0, 1)], .goto 4, 3, 12, 0),
  (74, [(.iconst 0, 1, 0, 0, 0)], .nop, 0, 12, 0),
  (75, [(.iadd, 1, 0, 0, 0), (.istore_n 3, 1, 3, 0, 0), (.iinc 5 1, 3, 5, 0, 1)], .goto (-63), 3, 2, 0),
  (83, [(.iload_n 3, 1, 3, 0, 0)], .ireturn, 1, 0, 0)]
def cd_X8_waysSafe : List SG := [(0, [(.aload_n 0, 1, 0, 0, 0), (.aload_n 0, 1, 0, 0, 0), (.iload_n 1, 1, 1, 0, 0)], .invokevirtual 75, 3, 93, 1),
  (6, [(.iconst 1, 1, 0, 0, 1), (.iconst 1, 1, 0, 0, 1)], .invokevirtual 67, 3, 91, 2),
  (11, [], .ifCond .eq 12, 3, 5, 3),
  (14, [(.aload_n 0, 1, 0, 0, 0), (.iload_n 1, 1, 1, 0, 0), (.iconst 1, 1, 0, 0, 1)], .invokevirtual 150, 3, 138, 4),
  (20, [], .goto 4, 3, 6, 0),
  (23, [(.iconst 0, 1, 0, 0, 0)], .nop, 0, 6, 0),
  (24, [], .ireturn, 1, 0, 0)]
def cd_X8_waysLost : List SG := [(0, [(.aload_n 0, 1, 0, 0, 0), (.aload_n 0, 1, 0, 0, 0), (.iload_n 1, 1, 1, 0, 0)], .invokevirtual 75, 3, 93, 1),
  (6, [(.iconst 1, 1, 0, 0, 1), (.iconst 1, 1, 0, 0, 1)], .invokevirtual 67, 3, 91, 2),
  (11, [], .ifCond .eq 12, 3, 5, 3),
  (14, [(.aload_n 0, 1, 0, 0, 0), (.iload_n 1, 1, 1, 0, 0), (.iconst 0, 1, 0, 0, 0)], .invokevirtual 150, 3, 138, 4),
  (20, [], .goto 4, 3, 6, 0),
  (23, [(.iconst 0, 1, 0, 0, 0)], .nop, 0, 6, 0),
  (24, [], .ireturn, 1, 0, 0)]
def cd_X8_badWay : List SG := [(0, [(.aload_n 0, 1, 0, 0, 0), (.aload_n 0, 1, 0, 0, 0), (.iload_n 1, 1, 1, 0, 0)], .invokevirtual 75, 3, 93, 1),
  (6, [(.iconst 1, 1, 0, 0, 1), (.iconst 1, 1, 0, 0, 1)], .invokevirtual 67, 3, 91, 2),
  (11, [], .ifCond .ne 5, 3, 4, 3),
  (14, [(.iconst 0, 1, 0, 0, 0)], .ireturn, 1, 0, 0),
  (16, [(.aload_n 0, 1, 0, 0, 0), (.aload_n 0, 1, 0, 0, 0), (.getfield 20, 3, 6, 8, 6), (.iload_n 1, 1, 1, 0, 0), (.iaload, 1, 0, 0, 0)], .invokevirtual 140, 3, 134, 5),
  (26, [(.istore_n 2, 1, 2, 0, 0), (.iconst 0, 1, 0, 0, 0), (.istore_n 3, 1, 3, 0, 0)], .nop, 0, 6, 0),
  (29, [(.iload_n 3, 1, 3, 0, 0), (.iload_n 2, 1, 2, 0, 0)], .if_icmp .ge 35, 3, 12, 7),
  (34, [(.aload_n 0, 1, 0, 0, 0), (.aload_n 0, 1, 0, 0, 0), (.getfield 20, 3, 6, 8, 6), (.iload_n 1, 1, 1, 0, 0), (.iaload, 1, 0, 0, 0), (.iload_n 3, 1, 3, 0, 0)], .invokevirtual 143, 3, 135, 8),
  (45, [(.aload_n 0, 1, 0, 0, 0), (.iload_n 1, 1, 1, 0, 0), (.iconst 1, 1, 0, 0, 1)], .invokevirtual 147, 3, 136, 9),
  (51, [(.aload_n 0, 1, 0, 0, 0), (.getfield 7, 3, 2, 8, 2)], .if_icmp .lt 5, 3, 11, 10),
  (58, [(.iload_n 3, 1, 3, 0, 0)], .ireturn, 1, 0, 0),
  (60, [(.iinc 3 1, 3, 3, 0, 1)], .goto (-34), 3, 6, 0),
  (66, [(.iconst (-1), 1, 0, 0, (-1))], .ireturn, 1, 0, 0)]
def cd_X8_scoresThrough : List SG := [(0, [(.aload_n 0, 1, 0, 0, 0), (.iload_n 1, 1, 1, 0, 0)], .invokevirtual 75, 3, 93, 1),
  (5, [(.istore_n 2, 1, 2, 0, 0), (.aload_n 0, 1, 0, 0, 0), (.iload_n 2, 1, 2, 0, 0), (.iload_n 2, 1, 2, 0, 0)], .ifCond .eq 21, 3, 5, 2),
  (12, [(.aload_n 0, 1, 0, 0, 0), (.aload_n 0, 1, 0, 0, 0), (.getfield 20, 3, 6, 8, 6), (.iload_n 1, 1, 1, 0, 0), (.iaload, 1, 0, 0, 0)], .invokevirtual 86, 3, 99, 3),
  (22, [(.iconst 3, 1, 0, 0, 3)], .if_icmp .gt 7, 3, 5, 4),
  (26, [(.iconst 1, 1, 0, 0, 1)], .goto 4, 3, 6, 0),
  (30, [(.iconst 0, 1, 0, 0, 0)], .nop, 0, 6, 0),
  (31, [(.iconst 1, 1, 0, 0, 1)], .invokevirtual 67, 3, 91, 7),
  (35, [], .ifCond .ne 5, 3, 9, 8),
  (38, [(.iconst 0, 1, 0, 0, 0)], .ireturn, 1, 0, 0),
  (40, [(.aload_n 0, 1, 0, 0, 0), (.getfield 20, 3, 6, 8, 6), (.iload_n 1, 1, 1, 0, 0), (.iaload, 1, 0, 0, 0), (.istore_n 3, 1, 3, 0, 0), (.iconst 0, 1, 0, 0, 0), (.istore 4, 2, 4, 0, 0), (.iconst 0, 1, 0, 0, 0), (.istore 5, 2, 5, 0, 0)], .nop, 0, 10, 0),
  (53, [(.iload 5, 2, 5, 0, 0), (.bipush 25, 2, 0, 0, 25)], .if_icmp .ge 87, 3, 21, 11),
  (60, [(.iload 5, 2, 5, 0, 0), (.iconst 5, 1, 0, 0, 5), (.idiv, 1, 0, 0, 0), (.iload 5, 2, 5, 0, 0), (.iconst 5, 1, 0, 0, 5), (.irem, 1, 0, 0, 0)], .if_icmp .ge 20, 3, 14, 12),
  (71, [(.iload 5, 2, 5, 0, 0), (.iconst 5, 1, 0, 0, 5), (.irem, 1, 0, 0, 0), (.aload_n 0, 1, 0, 0, 0), (.getfield 17, 3, 5, 8, 5), (.iload_n 3, 1, 3, 0, 0), (.iaload, 1, 0, 0, 0)], .if_icmp .ge 7, 3, 14, 13),
  (84, [(.iconst 1, 1, 0, 0, 1)], .goto 4, 3, 15, 0),
  (88, [(.iconst 0, 1, 0, 0, 0)], .nop, 0, 15, 0),
  (89, [(.istore 6, 2, 6, 0, 0), (.iload 4, 2, 4, 0, 0), (.iload 6, 2, 6, 0, 0)], .ifCond .eq 39, 3, 19, 16),
  (98, [(.aload_n 0, 1, 0, 0, 0), (.aload_n 0, 1, 0, 0, 0), (.getfield 13, 3, 4, 8, 4), (.iload_n 3, 1, 3, 0, 0), (.iaload, 1, 0, 0, 0), (.iload 5, 2, 5, 0, 0), (.iconst 5, 1, 0, 0, 5), (.idiv, 1, 0, 0, 0), (.iadd, 1, 0, 0, 0), (.aload_n 0, 1, 0, 0, 0), (.getfield 13, 3, 4, 8, 4), (.iload_n 3, 1, 3, 0, 0), (.iaload, 1, 0, 0, 0), (.iload 5, 2, 5, 0, 0), (.iconst 5, 1, 0, 0, 5), (.irem, 1, 0, 0, 0), (.iadd, 1, 0, 0, 0)], .invokevirtual 71, 3, 97, 17),
  (124, [], .ifCond .ne 10, 3, 19, 18),
  (127, [(.iconst 1, 1, 0, 0, 1), (.iload 5, 2, 5, 0, 0), (.ishl, 1, 0, 0, 0)], .goto 4, 3, 20, 0),
  (134, [(.iconst 0, 1, 0, 0, 0)], .nop, 0, 20, 0),
  (135, [(.ior, 1, 0, 0, 0), (.istore 4, 2, 4, 0, 0), (.iinc 5 1, 3, 5, 0, 1)], .goto (-88), 3, 10, 0),
  (144, [(.aload_n 0, 1, 0, 0, 0), (.iload_n 3, 1, 3, 0, 0)], .invokevirtual 140, 3, 134, 22),
  (149, [(.aload_n 0, 1, 0, 0, 0), (.iload_n 3, 1, 3, 0, 0)], .invokevirtual 140, 3, 134, 23),
  (154, [(.imul, 1, 0, 0, 0), (.istore 5, 2, 5, 0, 0), (.iconst 0, 1, 0, 0, 0), (.istore 6, 2, 6, 0, 0), (.iconst 0, 1, 0, 0, 0), (.istore 7, 2, 7, 0, 0)], .nop, 0, 24, 0),
  (163, [(.iload 7, 2, 7, 0, 0), (.iload 5, 2, 5, 0, 0)], .if_icmp .ge 105, 3, 36, 25),
  (170, [(.iload 7, 2, 7, 0, 0), (.istore 8, 2, 8, 0, 0), (.iconst 0, 1, 0, 0, 0), (.istore 9, 2, 9, 0, 0)], .nop, 0, 26, 0),
  (177, [(.iload 9, 2, 9, 0, 0), (.bipush 25, 2, 0, 0, 25)], .if_icmp .ge 63, 3, 31, 27),
  (184, [(.iload 4, 2, 4, 0, 0), (.iload 9, 2, 9, 0, 0), (.ishr, 1, 0, 0, 0), (.iconst 1, 1, 0, 0, 1), (.iand, 1, 0, 0, 0), (.iconst 1, 1, 0, 0, 1)], .if_icmp .ne 46, 3, 30, 28),
  (195, [(.aload_n 0, 1, 0, 0, 0), (.aload_n 0, 1, 0, 0, 0), (.getfield 13, 3, 4, 8, 4), (.iload_n 3, 1, 3, 0, 0), (.iaload, 1, 0, 0, 0), (.iload 9, 2, 9, 0, 0), (.iconst 5, 1, 0, 0, 5), (.idiv, 1, 0, 0, 0), (.iadd, 1, 0, 0, 0), (.aload_n 0, 1, 0, 0, 0), (.getfield 13, 3, 4, 8, 4), (.iload_n 3, 1, 3, 0, 0), (.iaload, 1, 0, 0, 0), (.iload 9, 2, 9, 0, 0), (.iconst 5, 1, 0, 0, 5), (.irem, 1, 0, 0, 0), (.iadd, 1, 0, 0, 0), (.iload 8, 2, 8, 0, 0), (.iconst 3, 1, 0, 0, 3), (.irem, 1, 0, 0, 0), (.iload 8, 2, 8, 0, 0), (.iconst 3, 1, 0, 0, 3), (.idiv, 1, 0, 0, 0), (.iconst 3, 1, 0, 0, 3), (.irem, 1, 0, 0, 0)], .invokevirtual 82, 3, 100, 29),
  (231, [(.iload 8, 2, 8, 0, 0), (.bipush 9, 2, 0, 0, 9), (.idiv, 1, 0, 0, 0), (.istore 8, 2, 8, 0, 0)], .nop, 0, 30, 0),
  (238, [(.iinc 9 1, 3, 9, 0, 1)], .goto (-64), 3, 26, 0),
  (244, [(.iload 6, 2, 6, 0, 0), (.aload_n 0, 1, 0, 0, 0), (.iload_n 1, 1, 1, 0, 0)], .invokevirtual 119, 3, 114, 32),
  (251, [(.aload_n 0, 1, 0, 0, 0), (.getfield 7, 3, 2, 8, 2)], .if_icmp .ge 7, 3, 34, 33),
  (258, [(.iconst 1, 1, 0, 0, 1)], .goto 4, 3, 35, 0),
  (262, [(.iconst 0, 1, 0, 0, 0)], .nop, 0, 35, 0),
  (263, [(.iadd, 1, 0, 0, 0), (.istore 6, 2, 6, 0, 0), (.iinc 7 1, 3, 7, 0, 1)], .goto (-106), 3, 24, 0),
  (272, [(.iconst 0, 1, 0, 0, 0), (.istore 7, 2, 7, 0, 0)], .nop, 0, 37, 0),
  (275, [(.iload 7, 2, 7, 0, 0), (.bipush 25, 2, 0, 0, 25)], .if_icmp .ge 48, 3, 41, 38),
  (282, [(.iload 4, 2, 4, 0, 0), (.iload 7, 2, 7, 0, 0), (.ishr, 1, 0, 0, 0), (.iconst 1, 1, 0, 0, 1), (.iand, 1, 0, 0, 0), (.iconst 1, 1, 0, 0, 1)], .if_icmp .ne 31, 3, 40, 39),
  (293, [(.aload_n 0, 1, 0, 0, 0), (.aload_n 0, 1, 0, 0, 0), (.getfield 13, 3, 4, 8, 4), (.iload_n 3, 1, 3, 0, 0), (.iaload, 1, 0, 0, 0), (.iload 7, 2, 7, 0, 0), (.iconst 5, 1, 0, 0, 5), (.idiv, 1, 0, 0, 0), (.iadd, 1, 0, 0, 0), (.aload_n 0, 1, 0, 0, 0), (.getfield 13, 3, 4, 8, 4), (.iload_n 3, 1, 3, 0, 0), (.iaload, 1, 0, 0, 0), (.iload 7, 2, 7, 0, 0), (.iconst 5, 1, 0, 0, 5), (.irem, 1, 0, 0, 0), (.iadd, 1, 0, 0, 0), (.iconst (-1), 1, 0, 0, (-1)), (.iconst (-1), 1, 0, 0, (-1))], .invokevirtual 82, 3, 100, 40),
  (321, [(.iinc 7 1, 3, 7, 0, 1)], .goto (-49), 3, 37, 0),
  (327, [(.iload 6, 2, 6, 0, 0)], .ireturn, 1, 0, 0)]
def cd_L_addGroup : List SG := [(0, [(.aload_n 2, 1, 2, 0, 0), (.iconst 0, 1, 0, 0, 0), (.aload_n 0, 1, 0, 0, 0), (.iload_n 1, 1, 1, 0, 0)], .invokevirtual 7, 3, 58, 1),
  (7, [(.i2l, 1, 0, 0, 0), (.lastore, 1, 0, 0, 0)], .goto 9, 3, 4, 0),
  (13, [(.iconst 1, 1, 0, 0, 1)], .ireturn, 1, 0, 0),
  (16, [(.iconst 2, 1, 0, 0, 2)], .ireturn, 1, 0, 0),
  (18, [(.iconst 0, 1, 0, 0, 0)], .ireturn, 1, 0, 0)]
def cd_L_setResult : List SG := [(0, [(.aload 5, 2, 5, 0, 0), (.iconst 0, 1, 0, 0, 0), (.aload_n 0, 1, 0, 0, 0), (.iload_n 1, 1, 1, 0, 0), (.iload_n 2, 1, 2, 0, 0), (.iload_n 3, 1, 3, 0, 0), (.iload 4, 2, 4, 0, 0)], .invokevirtual 17, 3, 59, 1),
  (12, [(.i2l, 1, 0, 0, 0), (.lastore, 1, 0, 0, 0)], .goto 11, 3, 4, 0),
  (19, [(.iconst 1, 1, 0, 0, 1)], .ireturn, 1, 0, 0),
  (23, [(.iconst 2, 1, 0, 0, 2)], .ireturn, 1, 0, 0),
  (25, [(.iconst 0, 1, 0, 0, 0)], .ireturn, 1, 0, 0)]
def cd_L_strike : List SG := [(0, [(.aload_n 3, 1, 3, 0, 0), (.iconst 0, 1, 0, 0, 0), (.aload_n 0, 1, 0, 0, 0), (.iload_n 1, 1, 1, 0, 0), (.iload_n 2, 1, 2, 0, 0)], .invokevirtual 23, 3, 60, 1),
  (8, [(.i2l, 1, 0, 0, 0), (.lastore, 1, 0, 0, 0)], .goto 15, 3, 5, 0),
  (15, [(.iconst 1, 1, 0, 0, 1)], .ireturn, 1, 0, 0),
  (19, [(.iconst 2, 1, 0, 0, 2)], .ireturn, 1, 0, 0),
  (23, [(.iconst 3, 1, 0, 0, 3)], .ireturn, 1, 0, 0),
  (25, [(.iconst 0, 1, 0, 0, 0)], .ireturn, 1, 0, 0)]
def cd_L_takeAway : List SG := [(0, [(.aload_n 3, 1, 3, 0, 0), (.iconst 0, 1, 0, 0, 0), (.aload_n 0, 1, 0, 0, 0), (.iload_n 1, 1, 1, 0, 0), (.iload_n 2, 1, 2, 0, 0)], .invokevirtual 27, 3, 61, 1),
  (8, [(.i2l, 1, 0, 0, 0), (.lastore, 1, 0, 0, 0)], .goto 11, 3, 4, 0),
  (15, [(.iconst 1, 1, 0, 0, 1)], .ireturn, 1, 0, 0),
  (19, [(.iconst 2, 1, 0, 0, 2)], .ireturn, 1, 0, 0),
  (21, [(.iconst 0, 1, 0, 0, 0)], .ireturn, 1, 0, 0)]
def cd_L_setCards : List SG := [(0, [(.aload_n 3, 1, 3, 0, 0), (.iconst 0, 1, 0, 0, 0), (.aload_n 0, 1, 0, 0, 0), (.iload_n 1, 1, 1, 0, 0), (.iload_n 2, 1, 2, 0, 0)], .invokevirtual 30, 3, 62, 1),
  (8, [(.i2l, 1, 0, 0, 0), (.lastore, 1, 0, 0, 0)], .goto 11, 3, 4, 0),
  (15, [(.iconst 1, 1, 0, 0, 1)], .ireturn, 1, 0, 0),
  (19, [(.iconst 2, 1, 0, 0, 2)], .ireturn, 1, 0, 0),
  (21, [(.iconst 0, 1, 0, 0, 0)], .ireturn, 1, 0, 0)]
def cd_L_setLot : List SG := [(0, [(.aload_n 3, 1, 3, 0, 0), (.iconst 0, 1, 0, 0, 0), (.aload_n 0, 1, 0, 0, 0), (.iload_n 1, 1, 1, 0, 0), (.iload_n 2, 1, 2, 0, 0)], .invokevirtual 33, 3, 63, 1),
  (8, [(.i2l, 1, 0, 0, 0), (.lastore, 1, 0, 0, 0)], .goto 11, 3, 4, 0),
  (15, [(.iconst 1, 1, 0, 0, 1)], .ireturn, 1, 0, 0),
  (19, [(.iconst 2, 1, 0, 0, 2)], .ireturn, 1, 0, 0),
  (21, [(.iconst 0, 1, 0, 0, 0)], .ireturn, 1, 0, 0)]
def cd_L_setThrough : List SG := [(0, [(.aload_n 0, 1, 0, 0, 0), (.iload_n 1, 1, 1, 0, 0), (.iload_n 2, 1, 2, 0, 0)], .invokevirtual 36, 3, 64, 1),
  (6, [], .goto 6, 3, 3, 0),
  (10, [(.iconst 1, 1, 0, 0, 1)], .ireturn, 1, 0, 0),
  (12, [(.iconst 0, 1, 0, 0, 0)], .ireturn, 1, 0, 0)]
def cd_L_groupOf : List SG := [(0, [(.aload_n 2, 1, 2, 0, 0), (.iconst 0, 1, 0, 0, 0), (.aload_n 0, 1, 0, 0, 0), (.iload_n 1, 1, 1, 0, 0)], .invokevirtual 40, 3, 67, 1),
  (7, [(.i2l, 1, 0, 0, 0), (.lastore, 1, 0, 0, 0)], .goto 6, 3, 3, 0),
  (13, [(.iconst 1, 1, 0, 0, 1)], .ireturn, 1, 0, 0),
  (15, [(.iconst 0, 1, 0, 0, 0)], .ireturn, 1, 0, 0)]
def cd_L_played : List SG := [(0, [(.aload_n 2, 1, 2, 0, 0), (.iconst 0, 1, 0, 0, 0), (.aload_n 0, 1, 0, 0, 0), (.iload_n 1, 1, 1, 0, 0)], .invokevirtual 43, 3, 68, 1),
  (7, [(.i2l, 1, 0, 0, 0), (.lastore, 1, 0, 0, 0)], .goto 6, 3, 3, 0),
  (13, [(.iconst 1, 1, 0, 0, 1)], .ireturn, 1, 0, 0),
  (15, [(.iconst 0, 1, 0, 0, 0)], .ireturn, 1, 0, 0)]
def cd_L_points : List SG := [(0, [(.aload_n 2, 1, 2, 0, 0), (.iconst 0, 1, 0, 0, 0), (.aload_n 0, 1, 0, 0, 0), (.iload_n 1, 1, 1, 0, 0)], .invokevirtual 46, 3, 69, 1),
  (7, [(.i2l, 1, 0, 0, 0), (.lastore, 1, 0, 0, 0)], .goto 6, 3, 3, 0),
  (13, [(.iconst 1, 1, 0, 0, 1)], .ireturn, 1, 0, 0),
  (15, [(.iconst 0, 1, 0, 0, 0)], .ireturn, 1, 0, 0)]
def cd_L_difference : List SG := [(0, [(.aload_n 2, 1, 2, 0, 0), (.iconst 0, 1, 0, 0, 0), (.aload_n 0, 1, 0, 0, 0), (.iload_n 1, 1, 1, 0, 0)], .invokevirtual 49, 3, 70, 1),
  (7, [(.i2l, 1, 0, 0, 0), (.lastore, 1, 0, 0, 0)], .goto 6, 3, 3, 0),
  (13, [(.iconst 1, 1, 0, 0, 1)], .ireturn, 1, 0, 0),
  (15, [(.iconst 0, 1, 0, 0, 0)], .ireturn, 1, 0, 0)]
def cd_L_goals : List SG := [(0, [(.aload_n 2, 1, 2, 0, 0), (.iconst 0, 1, 0, 0, 0), (.aload_n 0, 1, 0, 0, 0), (.iload_n 1, 1, 1, 0, 0)], .invokevirtual 52, 3, 71, 1),
  (7, [(.i2l, 1, 0, 0, 0), (.lastore, 1, 0, 0, 0)], .goto 6, 3, 3, 0),
  (13, [(.iconst 1, 1, 0, 0, 1)], .ireturn, 1, 0, 0),
  (15, [(.iconst 0, 1, 0, 0, 0)], .ireturn, 1, 0, 0)]
def cd_L_place : List SG := [(0, [(.aload_n 2, 1, 2, 0, 0), (.iconst 0, 1, 0, 0, 0), (.aload_n 0, 1, 0, 0, 0), (.iload_n 1, 1, 1, 0, 0)], .invokevirtual 55, 3, 72, 1),
  (7, [(.i2l, 1, 0, 0, 0), (.lastore, 1, 0, 0, 0)], .goto 6, 3, 3, 0),
  (13, [(.iconst 1, 1, 0, 0, 1)], .ireturn, 1, 0, 0),
  (15, [(.iconst 0, 1, 0, 0, 0)], .ireturn, 1, 0, 0)]
def cd_L_teamAt : List SG := [(0, [(.aload_n 3, 1, 3, 0, 0), (.iconst 0, 1, 0, 0, 0), (.aload_n 0, 1, 0, 0, 0), (.iload_n 1, 1, 1, 0, 0), (.iload_n 2, 1, 2, 0, 0)], .invokevirtual 58, 3, 73, 1),
  (8, [(.i2l, 1, 0, 0, 0), (.lastore, 1, 0, 0, 0)], .goto 7, 3, 3, 0),
  (15, [(.iconst 1, 1, 0, 0, 1)], .ireturn, 1, 0, 0),
  (17, [(.iconst 0, 1, 0, 0, 0)], .ireturn, 1, 0, 0)]
def cd_L_rule : List SG := [(0, [(.aload_n 3, 1, 3, 0, 0), (.iconst 0, 1, 0, 0, 0), (.aload_n 0, 1, 0, 0, 0), (.iload_n 1, 1, 1, 0, 0), (.iload_n 2, 1, 2, 0, 0)], .invokevirtual 61, 3, 74, 1),
  (8, [(.i2l, 1, 0, 0, 0), (.lastore, 1, 0, 0, 0)], .goto 11, 3, 4, 0),
  (15, [(.iconst 1, 1, 0, 0, 1)], .ireturn, 1, 0, 0),
  (19, [(.iconst 2, 1, 0, 0, 2)], .ireturn, 1, 0, 0),
  (21, [(.iconst 0, 1, 0, 0, 0)], .ireturn, 1, 0, 0)]
def cd_L_matchesLeft : List SG := [(0, [(.aload_n 2, 1, 2, 0, 0), (.iconst 0, 1, 0, 0, 0), (.aload_n 0, 1, 0, 0, 0), (.iload_n 1, 1, 1, 0, 0)], .invokevirtual 64, 3, 75, 1),
  (7, [(.i2l, 1, 0, 0, 0), (.lastore, 1, 0, 0, 0)], .goto 6, 3, 3, 0),
  (13, [(.iconst 1, 1, 0, 0, 1)], .ireturn, 1, 0, 0),
  (15, [(.iconst 0, 1, 0, 0, 0)], .ireturn, 1, 0, 0)]
def cd_L_thirdPoints : List SG := [(0, [(.aload_n 2, 1, 2, 0, 0), (.iconst 0, 1, 0, 0, 0), (.aload_n 0, 1, 0, 0, 0), (.iload_n 1, 1, 1, 0, 0)], .invokevirtual 67, 3, 76, 1),
  (7, [(.i2l, 1, 0, 0, 0), (.lastore, 1, 0, 0, 0)], .goto 6, 3, 3, 0),
  (13, [(.iconst 1, 1, 0, 0, 1)], .ireturn, 1, 0, 0),
  (15, [(.iconst 0, 1, 0, 0, 0)], .ireturn, 1, 0, 0)]
def cd_L_thirdRank : List SG := [(0, [(.aload_n 2, 1, 2, 0, 0), (.iconst 0, 1, 0, 0, 0), (.aload_n 0, 1, 0, 0, 0), (.iload_n 1, 1, 1, 0, 0)], .invokevirtual 70, 3, 77, 1),
  (7, [(.i2l, 1, 0, 0, 0), (.lastore, 1, 0, 0, 0)], .goto 6, 3, 3, 0),
  (13, [(.iconst 1, 1, 0, 0, 1)], .ireturn, 1, 0, 0),
  (15, [(.iconst 0, 1, 0, 0, 0)], .ireturn, 1, 0, 0)]
def cd_L_isThrough : List SG := [(0, [(.aload_n 2, 1, 2, 0, 0), (.iconst 0, 1, 0, 0, 0), (.aload_n 0, 1, 0, 0, 0), (.iload_n 1, 1, 1, 0, 0)], .invokevirtual 73, 3, 78, 1),
  (7, [], .ifCond .eq 7, 3, 3, 2),
  (10, [(.lconst 1, 1, 0, 0, 1)], .goto 4, 3, 4, 0),
  (14, [(.lconst 0, 1, 0, 0, 0)], .nop, 0, 4, 0),
  (15, [(.lastore, 1, 0, 0, 0)], .goto 6, 3, 6, 0),
  (20, [(.iconst 1, 1, 0, 0, 1)], .ireturn, 1, 0, 0),
  (22, [(.iconst 0, 1, 0, 0, 0)], .ireturn, 1, 0, 0)]
def cd_L_ways : List SG := [(0, [(.aload_n 2, 1, 2, 0, 0), (.iconst 0, 1, 0, 0, 0), (.aload_n 0, 1, 0, 0, 0), (.iload_n 1, 1, 1, 0, 0)], .invokevirtual 77, 3, 79, 1),
  (7, [(.i2l, 1, 0, 0, 0), (.lastore, 1, 0, 0, 0)], .goto 6, 3, 3, 0),
  (13, [(.iconst 1, 1, 0, 0, 1)], .ireturn, 1, 0, 0),
  (15, [(.iconst 0, 1, 0, 0, 0)], .ireturn, 1, 0, 0)]
def cd_L_waysSafe : List SG := [(0, [(.aload_n 2, 1, 2, 0, 0), (.iconst 0, 1, 0, 0, 0), (.aload_n 0, 1, 0, 0, 0), (.iload_n 1, 1, 1, 0, 0)], .invokevirtual 80, 3, 80, 1),
  (7, [(.i2l, 1, 0, 0, 0), (.lastore, 1, 0, 0, 0)], .goto 6, 3, 3, 0),
  (13, [(.iconst 1, 1, 0, 0, 1)], .ireturn, 1, 0, 0),
  (15, [(.iconst 0, 1, 0, 0, 0)], .ireturn, 1, 0, 0)]
def cd_L_waysLost : List SG := [(0, [(.aload_n 2, 1, 2, 0, 0), (.iconst 0, 1, 0, 0, 0), (.aload_n 0, 1, 0, 0, 0), (.iload_n 1, 1, 1, 0, 0)], .invokevirtual 83, 3, 81, 1),
  (7, [(.i2l, 1, 0, 0, 0), (.lastore, 1, 0, 0, 0)], .goto 6, 3, 3, 0),
  (13, [(.iconst 1, 1, 0, 0, 1)], .ireturn, 1, 0, 0),
  (15, [(.iconst 0, 1, 0, 0, 0)], .ireturn, 1, 0, 0)]
def cd_L_badWay : List SG := [(0, [(.aload_n 2, 1, 2, 0, 0), (.iconst 0, 1, 0, 0, 0), (.aload_n 0, 1, 0, 0, 0), (.iload_n 1, 1, 1, 0, 0)], .invokevirtual 86, 3, 82, 1),
  (7, [(.i2l, 1, 0, 0, 0), (.lastore, 1, 0, 0, 0)], .goto 6, 3, 3, 0),
  (13, [(.iconst 1, 1, 0, 0, 1)], .ireturn, 1, 0, 0),
  (15, [(.iconst 0, 1, 0, 0, 0)], .ireturn, 1, 0, 0)]
def cd_L_scoresThrough : List SG := [(0, [(.aload_n 2, 1, 2, 0, 0), (.iconst 0, 1, 0, 0, 0), (.aload_n 0, 1, 0, 0, 0), (.iload_n 1, 1, 1, 0, 0)], .invokevirtual 89, 3, 83, 1),
  (7, [(.i2l, 1, 0, 0, 0), (.lastore, 1, 0, 0, 0)], .goto 9, 3, 4, 0),
  (13, [(.iconst 1, 1, 0, 0, 1)], .ireturn, 1, 0, 0),
  (16, [(.iconst 2, 1, 0, 0, 2)], .ireturn, 1, 0, 0),
  (18, [(.iconst 0, 1, 0, 0, 0)], .ireturn, 1, 0, 0)]
def cd_L_law_0 : List SG := [(23, [(.iload 4, 2, 4, 0, 0), (.aload_n 0, 1, 0, 0, 0), (.arraylength, 1, 0, 0, 0), (.iconst 5, 1, 0, 0, 5), (.isub, 1, 0, 0, 0)], .if_icmp .gt 1610, 3, 227, 1),
  (32, [(.aload_n 0, 1, 0, 0, 0), (.iload 4, 2, 4, 0, 0), (.iaload, 1, 0, 0, 0), (.bipush 31, 2, 0, 0, 31), (.iand, 1, 0, 0, 0)], .tableswitch 1594 0 25 #[117, 173, 265, 333, 401, 469, 537, 585, 598, 611, 667, 723, 779, 835, 891, 947, 1015, 1083, 1139, 1195, 1251, 1314, 1370, 1426, 1482, 1538], 117, 0, 0),
  (156, [(.aload_n 1, 1, 1, 0, 0), (.aload_n 0, 1, 0, 0, 0), (.iload 4, 2, 4, 0, 0), (.iconst 1, 1, 0, 0, 1), (.iadd, 1, 0, 0, 0), (.iaload, 1, 0, 0, 0), (.aload_n 3, 1, 3, 0, 0)], .invokestatic 96, 3, 143, 3),
  (167, [(.istore 5, 2, 5, 0, 0), (.aload_n 2, 1, 2, 0, 0), (.aload_n 0, 1, 0, 0, 0), (.iload 4, 2, 4, 0, 0), (.iconst 1, 1, 0, 0, 1), (.iadd, 1, 0, 0, 0), (.iaload, 1, 0, 0, 0)], .invokevirtual 101, 3, 98, 4),
  (179, [(.istore 6, 2, 6, 0, 0), (.aload_n 2, 1, 2, 0, 0)], .invokevirtual 102, 3, 89, 5),
  (185, [(.iload 5, 2, 5, 0, 0)], .if_icmp .eq 5, 3, 7, 6),
  (190, [(.iconst 0, 1, 0, 0, 0)], .ireturn, 1, 1, 0),
  (192, [(.iload 5, 2, 5, 0, 0)], .ifCond .ne 15, 3, 10, 8),
  (197, [(.aload_n 3, 1, 3, 0, 0), (.iconst 0, 1, 0, 0, 0), (.laload, 1, 0, 0, 0), (.iload 6, 2, 6, 0, 0), (.i2l, 1, 0, 0, 0), (.lcmp, 1, 0, 0, 0)], .ifCond .eq 5, 3, 10, 9),
  (207, [(.iconst 0, 1, 0, 0, 0)], .ireturn, 1, 1, 0),
  (209, [], .goto 1424, 3, 226, 0),
  (212, [(.aload_n 1, 1, 1, 0, 0), (.aload_n 0, 1, 0, 0, 0), (.iload 4, 2, 4, 0, 0), (.iconst 1, 1, 0, 0, 1), (.iadd, 1, 0, 0, 0), (.iaload, 1, 0, 0, 0), (.aload_n 0, 1, 0, 0, 0), (.iload 4, 2, 4, 0, 0), (.iconst 2, 1, 0, 0, 2), (.iadd, 1, 0, 0, 0), (.iaload, 1, 0, 0, 0), (.aload_n 0, 1, 0, 0, 0), (.iload 4, 2, 4, 0, 0), (.iconst 3, 1, 0, 0, 3), (.iadd, 1, 0, 0, 0), (.iaload, 1, 0, 0, 0), (.aload_n 0, 1, 0, 0, 0), (.iload 4, 2, 4, 0, 0), (.iconst 4, 1, 0, 0, 4), (.iadd, 1, 0, 0, 0), (.iaload, 1, 0, 0, 0), (.aload_n 3, 1, 3, 0, 0)], .invokestatic 106, 3, 144, 12),
  (241, [(.istore 5, 2, 5, 0, 0), (.aload_n 2, 1, 2, 0, 0), (.aload_n 0, 1, 0, 0, 0), (.iload 4, 2, 4, 0, 0), (.iconst 1, 1, 0, 0, 1), (.iadd, 1, 0, 0, 0), (.iaload, 1, 0, 0, 0), (.aload_n 0, 1, 0, 0, 0), (.iload 4, 2, 4, 0, 0), (.iconst 2, 1, 0, 0, 2), (.iadd, 1, 0, 0, 0), (.iaload, 1, 0, 0, 0), (.aload_n 0, 1, 0, 0, 0), (.iload 4, 2, 4, 0, 0), (.iconst 3, 1, 0, 0, 3), (.iadd, 1, 0, 0, 0), (.iaload, 1, 0, 0, 0), (.aload_n 0, 1, 0, 0, 0), (.iload 4, 2, 4, 0, 0), (.iconst 4, 1, 0, 0, 4), (.iadd, 1, 0, 0, 0), (.iaload, 1, 0, 0, 0)], .invokevirtual 109, 3, 101, 13),
  (271, [(.istore 6, 2, 6, 0, 0), (.aload_n 2, 1, 2, 0, 0)], .invokevirtual 102, 3, 89, 14),
  (277, [(.iload 5, 2, 5, 0, 0)], .if_icmp .eq 5, 3, 16, 15),
  (282, [(.iconst 0, 1, 0, 0, 0)], .ireturn, 1, 1, 0)]
def cd_L_law_1 : List SG := [(284, [(.iload 5, 2, 5, 0, 0)], .ifCond .ne 15, 3, 19, 17),
  (289, [(.aload_n 3, 1, 3, 0, 0), (.iconst 0, 1, 0, 0, 0), (.laload, 1, 0, 0, 0), (.iload 6, 2, 6, 0, 0), (.i2l, 1, 0, 0, 0), (.lcmp, 1, 0, 0, 0)], .ifCond .eq 5, 3, 19, 18),
  (299, [(.iconst 0, 1, 0, 0, 0)], .ireturn, 1, 1, 0),
  (301, [], .goto 1332, 3, 226, 0),
  (304, [(.aload_n 1, 1, 1, 0, 0), (.aload_n 0, 1, 0, 0, 0), (.iload 4, 2, 4, 0, 0), (.iconst 1, 1, 0, 0, 1), (.iadd, 1, 0, 0, 0), (.iaload, 1, 0, 0, 0), (.aload_n 0, 1, 0, 0, 0), (.iload 4, 2, 4, 0, 0), (.iconst 2, 1, 0, 0, 2), (.iadd, 1, 0, 0, 0), (.iaload, 1, 0, 0, 0), (.aload_n 3, 1, 3, 0, 0)], .invokestatic 110, 3, 145, 21),
  (321, [(.istore 5, 2, 5, 0, 0), (.aload_n 2, 1, 2, 0, 0), (.aload_n 0, 1, 0, 0, 0), (.iload 4, 2, 4, 0, 0), (.iconst 1, 1, 0, 0, 1), (.iadd, 1, 0, 0, 0), (.iaload, 1, 0, 0, 0), (.aload_n 0, 1, 0, 0, 0), (.iload 4, 2, 4, 0, 0), (.iconst 2, 1, 0, 0, 2), (.iadd, 1, 0, 0, 0), (.iaload, 1, 0, 0, 0)], .invokevirtual 113, 3, 102, 22),
  (339, [(.istore 6, 2, 6, 0, 0), (.aload_n 2, 1, 2, 0, 0)], .invokevirtual 102, 3, 89, 23),
  (345, [(.iload 5, 2, 5, 0, 0)], .if_icmp .eq 5, 3, 25, 24),
  (350, [(.iconst 0, 1, 0, 0, 0)], .ireturn, 1, 1, 0),
  (352, [(.iload 5, 2, 5, 0, 0)], .ifCond .ne 15, 3, 28, 26),
  (357, [(.aload_n 3, 1, 3, 0, 0), (.iconst 0, 1, 0, 0, 0), (.laload, 1, 0, 0, 0), (.iload 6, 2, 6, 0, 0), (.i2l, 1, 0, 0, 0), (.lcmp, 1, 0, 0, 0)], .ifCond .eq 5, 3, 28, 27),
  (367, [(.iconst 0, 1, 0, 0, 0)], .ireturn, 1, 1, 0),
  (369, [], .goto 1264, 3, 226, 0),
  (372, [(.aload_n 1, 1, 1, 0, 0), (.aload_n 0, 1, 0, 0, 0), (.iload 4, 2, 4, 0, 0), (.iconst 1, 1, 0, 0, 1), (.iadd, 1, 0, 0, 0), (.iaload, 1, 0, 0, 0), (.aload_n 0, 1, 0, 0, 0), (.iload 4, 2, 4, 0, 0), (.iconst 2, 1, 0, 0, 2), (.iadd, 1, 0, 0, 0), (.iaload, 1, 0, 0, 0), (.aload_n 3, 1, 3, 0, 0)], .invokestatic 114, 3, 146, 30),
  (389, [(.istore 5, 2, 5, 0, 0), (.aload_n 2, 1, 2, 0, 0), (.aload_n 0, 1, 0, 0, 0), (.iload 4, 2, 4, 0, 0), (.iconst 1, 1, 0, 0, 1), (.iadd, 1, 0, 0, 0), (.iaload, 1, 0, 0, 0), (.aload_n 0, 1, 0, 0, 0), (.iload 4, 2, 4, 0, 0), (.iconst 2, 1, 0, 0, 2), (.iadd, 1, 0, 0, 0), (.iaload, 1, 0, 0, 0)], .invokevirtual 116, 3, 103, 31),
  (407, [(.istore 6, 2, 6, 0, 0), (.aload_n 2, 1, 2, 0, 0)], .invokevirtual 102, 3, 89, 32)]
def cd_L_law_2 : List SG := [(413, [(.iload 5, 2, 5, 0, 0)], .if_icmp .eq 5, 3, 34, 33),
  (418, [(.iconst 0, 1, 0, 0, 0)], .ireturn, 1, 1, 0),
  (420, [(.iload 5, 2, 5, 0, 0)], .ifCond .ne 15, 3, 37, 35),
  (425, [(.aload_n 3, 1, 3, 0, 0), (.iconst 0, 1, 0, 0, 0), (.laload, 1, 0, 0, 0), (.iload 6, 2, 6, 0, 0), (.i2l, 1, 0, 0, 0), (.lcmp, 1, 0, 0, 0)], .ifCond .eq 5, 3, 37, 36),
  (435, [(.iconst 0, 1, 0, 0, 0)], .ireturn, 1, 1, 0),
  (437, [], .goto 1196, 3, 226, 0),
  (440, [(.aload_n 1, 1, 1, 0, 0), (.aload_n 0, 1, 0, 0, 0), (.iload 4, 2, 4, 0, 0), (.iconst 1, 1, 0, 0, 1), (.iadd, 1, 0, 0, 0), (.iaload, 1, 0, 0, 0), (.aload_n 0, 1, 0, 0, 0), (.iload 4, 2, 4, 0, 0), (.iconst 2, 1, 0, 0, 2), (.iadd, 1, 0, 0, 0), (.iaload, 1, 0, 0, 0), (.aload_n 3, 1, 3, 0, 0)], .invokestatic 117, 3, 147, 39),
  (457, [(.istore 5, 2, 5, 0, 0), (.aload_n 2, 1, 2, 0, 0), (.aload_n 0, 1, 0, 0, 0), (.iload 4, 2, 4, 0, 0), (.iconst 1, 1, 0, 0, 1), (.iadd, 1, 0, 0, 0), (.iaload, 1, 0, 0, 0), (.aload_n 0, 1, 0, 0, 0), (.iload 4, 2, 4, 0, 0), (.iconst 2, 1, 0, 0, 2), (.iadd, 1, 0, 0, 0), (.iaload, 1, 0, 0, 0)], .invokevirtual 119, 3, 104, 40),
  (475, [(.istore 6, 2, 6, 0, 0), (.aload_n 2, 1, 2, 0, 0)], .invokevirtual 102, 3, 89, 41),
  (481, [(.iload 5, 2, 5, 0, 0)], .if_icmp .eq 5, 3, 43, 42),
  (486, [(.iconst 0, 1, 0, 0, 0)], .ireturn, 1, 1, 0),
  (488, [(.iload 5, 2, 5, 0, 0)], .ifCond .ne 15, 3, 46, 44),
  (493, [(.aload_n 3, 1, 3, 0, 0), (.iconst 0, 1, 0, 0, 0), (.laload, 1, 0, 0, 0), (.iload 6, 2, 6, 0, 0), (.i2l, 1, 0, 0, 0), (.lcmp, 1, 0, 0, 0)], .ifCond .eq 5, 3, 46, 45),
  (503, [(.iconst 0, 1, 0, 0, 0)], .ireturn, 1, 1, 0),
  (505, [], .goto 1128, 3, 226, 0),
  (508, [(.aload_n 1, 1, 1, 0, 0), (.aload_n 0, 1, 0, 0, 0), (.iload 4, 2, 4, 0, 0), (.iconst 1, 1, 0, 0, 1), (.iadd, 1, 0, 0, 0), (.iaload, 1, 0, 0, 0), (.aload_n 0, 1, 0, 0, 0), (.iload 4, 2, 4, 0, 0), (.iconst 2, 1, 0, 0, 2), (.iadd, 1, 0, 0, 0), (.iaload, 1, 0, 0, 0), (.aload_n 3, 1, 3, 0, 0)], .invokestatic 120, 3, 148, 48)]
def cd_L_law_3 : List SG := [(525, [(.istore 5, 2, 5, 0, 0), (.aload_n 2, 1, 2, 0, 0), (.aload_n 0, 1, 0, 0, 0), (.iload 4, 2, 4, 0, 0), (.iconst 1, 1, 0, 0, 1), (.iadd, 1, 0, 0, 0), (.iaload, 1, 0, 0, 0), (.aload_n 0, 1, 0, 0, 0), (.iload 4, 2, 4, 0, 0), (.iconst 2, 1, 0, 0, 2), (.iadd, 1, 0, 0, 0), (.iaload, 1, 0, 0, 0)], .invokevirtual 122, 3, 105, 49),
  (543, [(.istore 6, 2, 6, 0, 0), (.aload_n 2, 1, 2, 0, 0)], .invokevirtual 102, 3, 89, 50),
  (549, [(.iload 5, 2, 5, 0, 0)], .if_icmp .eq 5, 3, 52, 51),
  (554, [(.iconst 0, 1, 0, 0, 0)], .ireturn, 1, 1, 0),
  (556, [(.iload 5, 2, 5, 0, 0)], .ifCond .ne 15, 3, 55, 53),
  (561, [(.aload_n 3, 1, 3, 0, 0), (.iconst 0, 1, 0, 0, 0), (.laload, 1, 0, 0, 0), (.iload 6, 2, 6, 0, 0), (.i2l, 1, 0, 0, 0), (.lcmp, 1, 0, 0, 0)], .ifCond .eq 5, 3, 55, 54),
  (571, [(.iconst 0, 1, 0, 0, 0)], .ireturn, 1, 1, 0),
  (573, [], .goto 1060, 3, 226, 0),
  (576, [(.aload_n 1, 1, 1, 0, 0), (.aload_n 0, 1, 0, 0, 0), (.iload 4, 2, 4, 0, 0), (.iconst 1, 1, 0, 0, 1), (.iadd, 1, 0, 0, 0), (.iaload, 1, 0, 0, 0), (.aload_n 0, 1, 0, 0, 0), (.iload 4, 2, 4, 0, 0), (.iconst 2, 1, 0, 0, 2), (.iadd, 1, 0, 0, 0), (.iaload, 1, 0, 0, 0)], .invokestatic 123, 3, 149, 57),
  (592, [(.istore 5, 2, 5, 0, 0), (.aload_n 2, 1, 2, 0, 0), (.aload_n 0, 1, 0, 0, 0), (.iload 4, 2, 4, 0, 0), (.iconst 1, 1, 0, 0, 1), (.iadd, 1, 0, 0, 0), (.iaload, 1, 0, 0, 0), (.aload_n 0, 1, 0, 0, 0), (.iload 4, 2, 4, 0, 0), (.iconst 2, 1, 0, 0, 2), (.iadd, 1, 0, 0, 0), (.iaload, 1, 0, 0, 0)], .invokevirtual 126, 3, 106, 58),
  (610, [(.aload_n 2, 1, 2, 0, 0)], .invokevirtual 102, 3, 89, 59),
  (614, [(.iload 5, 2, 5, 0, 0)], .if_icmp .eq 5, 3, 61, 60),
  (619, [(.iconst 0, 1, 0, 0, 0)], .ireturn, 1, 1, 0),
  (621, [], .goto 1012, 3, 226, 0),
  (624, [(.aload_n 1, 1, 1, 0, 0)], .invokevirtual 127, 3, 65, 63),
  (628, [(.aload_n 2, 1, 2, 0, 0)], .invokevirtual 130, 3, 116, 64)]
def cd_L_law_4 : List SG := [(632, [], .if_icmp .eq 1001, 3, 226, 65),
  (635, [(.iconst 0, 1, 0, 0, 0)], .ireturn, 1, 1, 0),
  (637, [(.aload_n 1, 1, 1, 0, 0)], .invokevirtual 131, 3, 66, 67),
  (641, [(.aload_n 2, 1, 2, 0, 0)], .invokevirtual 134, 3, 117, 68),
  (645, [], .if_icmp .eq 988, 3, 226, 69),
  (648, [(.iconst 0, 1, 0, 0, 0)], .ireturn, 1, 1, 0),
  (650, [(.aload_n 1, 1, 1, 0, 0), (.aload_n 0, 1, 0, 0, 0), (.iload 4, 2, 4, 0, 0), (.iconst 1, 1, 0, 0, 1), (.iadd, 1, 0, 0, 0), (.iaload, 1, 0, 0, 0), (.aload_n 3, 1, 3, 0, 0)], .invokestatic 135, 3, 150, 71),
  (661, [(.istore 5, 2, 5, 0, 0), (.aload_n 2, 1, 2, 0, 0), (.aload_n 0, 1, 0, 0, 0), (.iload 4, 2, 4, 0, 0), (.iconst 1, 1, 0, 0, 1), (.iadd, 1, 0, 0, 0), (.iaload, 1, 0, 0, 0)], .invokevirtual 137, 3, 118, 72),
  (673, [(.istore 6, 2, 6, 0, 0), (.aload_n 2, 1, 2, 0, 0)], .invokevirtual 102, 3, 89, 73),
  (679, [(.iload 5, 2, 5, 0, 0)], .if_icmp .eq 5, 3, 75, 74),
  (684, [(.iconst 0, 1, 0, 0, 0)], .ireturn, 1, 1, 0),
  (686, [(.iload 5, 2, 5, 0, 0)], .ifCond .ne 15, 3, 78, 76),
  (691, [(.aload_n 3, 1, 3, 0, 0), (.iconst 0, 1, 0, 0, 0), (.laload, 1, 0, 0, 0), (.iload 6, 2, 6, 0, 0), (.i2l, 1, 0, 0, 0), (.lcmp, 1, 0, 0, 0)], .ifCond .eq 5, 3, 78, 77),
  (701, [(.iconst 0, 1, 0, 0, 0)], .ireturn, 1, 1, 0),
  (703, [], .goto 930, 3, 226, 0),
  (706, [(.aload_n 1, 1, 1, 0, 0), (.aload_n 0, 1, 0, 0, 0), (.iload 4, 2, 4, 0, 0), (.iconst 1, 1, 0, 0, 1), (.iadd, 1, 0, 0, 0), (.iaload, 1, 0, 0, 0), (.aload_n 3, 1, 3, 0, 0)], .invokestatic 138, 3, 151, 80)]
def cd_L_law_5 : List SG := [(717, [(.istore 5, 2, 5, 0, 0), (.aload_n 2, 1, 2, 0, 0), (.aload_n 0, 1, 0, 0, 0), (.iload 4, 2, 4, 0, 0), (.iconst 1, 1, 0, 0, 1), (.iadd, 1, 0, 0, 0), (.iaload, 1, 0, 0, 0)], .invokevirtual 140, 3, 119, 81),
  (729, [(.istore 6, 2, 6, 0, 0), (.aload_n 2, 1, 2, 0, 0)], .invokevirtual 102, 3, 89, 82),
  (735, [(.iload 5, 2, 5, 0, 0)], .if_icmp .eq 5, 3, 84, 83),
  (740, [(.iconst 0, 1, 0, 0, 0)], .ireturn, 1, 1, 0),
  (742, [(.iload 5, 2, 5, 0, 0)], .ifCond .ne 15, 3, 87, 85),
  (747, [(.aload_n 3, 1, 3, 0, 0), (.iconst 0, 1, 0, 0, 0), (.laload, 1, 0, 0, 0), (.iload 6, 2, 6, 0, 0), (.i2l, 1, 0, 0, 0), (.lcmp, 1, 0, 0, 0)], .ifCond .eq 5, 3, 87, 86),
  (757, [(.iconst 0, 1, 0, 0, 0)], .ireturn, 1, 1, 0),
  (759, [], .goto 874, 3, 226, 0),
  (762, [(.aload_n 1, 1, 1, 0, 0), (.aload_n 0, 1, 0, 0, 0), (.iload 4, 2, 4, 0, 0), (.iconst 1, 1, 0, 0, 1), (.iadd, 1, 0, 0, 0), (.iaload, 1, 0, 0, 0), (.aload_n 3, 1, 3, 0, 0)], .invokestatic 141, 3, 152, 89),
  (773, [(.istore 5, 2, 5, 0, 0), (.aload_n 2, 1, 2, 0, 0), (.aload_n 0, 1, 0, 0, 0), (.iload 4, 2, 4, 0, 0), (.iconst 1, 1, 0, 0, 1), (.iadd, 1, 0, 0, 0), (.iaload, 1, 0, 0, 0)], .invokevirtual 143, 3, 120, 90),
  (785, [(.istore 6, 2, 6, 0, 0), (.aload_n 2, 1, 2, 0, 0)], .invokevirtual 102, 3, 89, 91),
  (791, [(.iload 5, 2, 5, 0, 0)], .if_icmp .eq 5, 3, 93, 92),
  (796, [(.iconst 0, 1, 0, 0, 0)], .ireturn, 1, 1, 0),
  (798, [(.iload 5, 2, 5, 0, 0)], .ifCond .ne 15, 3, 96, 94),
  (803, [(.aload_n 3, 1, 3, 0, 0), (.iconst 0, 1, 0, 0, 0), (.laload, 1, 0, 0, 0), (.iload 6, 2, 6, 0, 0), (.i2l, 1, 0, 0, 0), (.lcmp, 1, 0, 0, 0)], .ifCond .eq 5, 3, 96, 95),
  (813, [(.iconst 0, 1, 0, 0, 0)], .ireturn, 1, 1, 0)]
def cd_L_law_6 : List SG := [(815, [], .goto 818, 3, 226, 0),
  (818, [(.aload_n 1, 1, 1, 0, 0), (.aload_n 0, 1, 0, 0, 0), (.iload 4, 2, 4, 0, 0), (.iconst 1, 1, 0, 0, 1), (.iadd, 1, 0, 0, 0), (.iaload, 1, 0, 0, 0), (.aload_n 3, 1, 3, 0, 0)], .invokestatic 144, 3, 153, 98),
  (829, [(.istore 5, 2, 5, 0, 0), (.aload_n 2, 1, 2, 0, 0), (.aload_n 0, 1, 0, 0, 0), (.iload 4, 2, 4, 0, 0), (.iconst 1, 1, 0, 0, 1), (.iadd, 1, 0, 0, 0), (.iaload, 1, 0, 0, 0)], .invokevirtual 146, 3, 121, 99),
  (841, [(.istore 6, 2, 6, 0, 0), (.aload_n 2, 1, 2, 0, 0)], .invokevirtual 102, 3, 89, 100),
  (847, [(.iload 5, 2, 5, 0, 0)], .if_icmp .eq 5, 3, 102, 101),
  (852, [(.iconst 0, 1, 0, 0, 0)], .ireturn, 1, 1, 0),
  (854, [(.iload 5, 2, 5, 0, 0)], .ifCond .ne 15, 3, 105, 103),
  (859, [(.aload_n 3, 1, 3, 0, 0), (.iconst 0, 1, 0, 0, 0), (.laload, 1, 0, 0, 0), (.iload 6, 2, 6, 0, 0), (.i2l, 1, 0, 0, 0), (.lcmp, 1, 0, 0, 0)], .ifCond .eq 5, 3, 105, 104),
  (869, [(.iconst 0, 1, 0, 0, 0)], .ireturn, 1, 1, 0),
  (871, [], .goto 762, 3, 226, 0),
  (874, [(.aload_n 1, 1, 1, 0, 0), (.aload_n 0, 1, 0, 0, 0), (.iload 4, 2, 4, 0, 0), (.iconst 1, 1, 0, 0, 1), (.iadd, 1, 0, 0, 0), (.iaload, 1, 0, 0, 0), (.aload_n 3, 1, 3, 0, 0)], .invokestatic 147, 3, 154, 107),
  (885, [(.istore 5, 2, 5, 0, 0), (.aload_n 2, 1, 2, 0, 0), (.aload_n 0, 1, 0, 0, 0), (.iload 4, 2, 4, 0, 0), (.iconst 1, 1, 0, 0, 1), (.iadd, 1, 0, 0, 0), (.iaload, 1, 0, 0, 0)], .invokevirtual 149, 3, 122, 108),
  (897, [(.istore 6, 2, 6, 0, 0), (.aload_n 2, 1, 2, 0, 0)], .invokevirtual 102, 3, 89, 109),
  (903, [(.iload 5, 2, 5, 0, 0)], .if_icmp .eq 5, 3, 111, 110),
  (908, [(.iconst 0, 1, 0, 0, 0)], .ireturn, 1, 1, 0),
  (910, [(.iload 5, 2, 5, 0, 0)], .ifCond .ne 15, 3, 114, 112)]
def cd_L_law_7 : List SG := [(915, [(.aload_n 3, 1, 3, 0, 0), (.iconst 0, 1, 0, 0, 0), (.laload, 1, 0, 0, 0), (.iload 6, 2, 6, 0, 0), (.i2l, 1, 0, 0, 0), (.lcmp, 1, 0, 0, 0)], .ifCond .eq 5, 3, 114, 113),
  (925, [(.iconst 0, 1, 0, 0, 0)], .ireturn, 1, 1, 0),
  (927, [], .goto 706, 3, 226, 0),
  (930, [(.aload_n 1, 1, 1, 0, 0), (.aload_n 0, 1, 0, 0, 0), (.iload 4, 2, 4, 0, 0), (.iconst 1, 1, 0, 0, 1), (.iadd, 1, 0, 0, 0), (.iaload, 1, 0, 0, 0), (.aload_n 3, 1, 3, 0, 0)], .invokestatic 150, 3, 155, 116),
  (941, [(.istore 5, 2, 5, 0, 0), (.aload_n 2, 1, 2, 0, 0), (.aload_n 0, 1, 0, 0, 0), (.iload 4, 2, 4, 0, 0), (.iconst 1, 1, 0, 0, 1), (.iadd, 1, 0, 0, 0), (.iaload, 1, 0, 0, 0)], .invokevirtual 152, 3, 123, 117),
  (953, [(.istore 6, 2, 6, 0, 0), (.aload_n 2, 1, 2, 0, 0)], .invokevirtual 102, 3, 89, 118),
  (959, [(.iload 5, 2, 5, 0, 0)], .if_icmp .eq 5, 3, 120, 119),
  (964, [(.iconst 0, 1, 0, 0, 0)], .ireturn, 1, 1, 0),
  (966, [(.iload 5, 2, 5, 0, 0)], .ifCond .ne 15, 3, 123, 121),
  (971, [(.aload_n 3, 1, 3, 0, 0), (.iconst 0, 1, 0, 0, 0), (.laload, 1, 0, 0, 0), (.iload 6, 2, 6, 0, 0), (.i2l, 1, 0, 0, 0), (.lcmp, 1, 0, 0, 0)], .ifCond .eq 5, 3, 123, 122),
  (981, [(.iconst 0, 1, 0, 0, 0)], .ireturn, 1, 1, 0),
  (983, [], .goto 650, 3, 226, 0),
  (986, [(.aload_n 1, 1, 1, 0, 0), (.aload_n 0, 1, 0, 0, 0), (.iload 4, 2, 4, 0, 0), (.iconst 1, 1, 0, 0, 1), (.iadd, 1, 0, 0, 0), (.iaload, 1, 0, 0, 0), (.aload_n 0, 1, 0, 0, 0), (.iload 4, 2, 4, 0, 0), (.iconst 2, 1, 0, 0, 2), (.iadd, 1, 0, 0, 0), (.iaload, 1, 0, 0, 0), (.aload_n 3, 1, 3, 0, 0)], .invokestatic 153, 3, 156, 125),
  (1003, [(.istore 5, 2, 5, 0, 0), (.aload_n 2, 1, 2, 0, 0), (.aload_n 0, 1, 0, 0, 0), (.iload 4, 2, 4, 0, 0), (.iconst 1, 1, 0, 0, 1), (.iadd, 1, 0, 0, 0), (.iaload, 1, 0, 0, 0), (.aload_n 0, 1, 0, 0, 0), (.iload 4, 2, 4, 0, 0), (.iconst 2, 1, 0, 0, 2), (.iadd, 1, 0, 0, 0), (.iaload, 1, 0, 0, 0)], .invokevirtual 155, 3, 124, 126),
  (1021, [(.istore 6, 2, 6, 0, 0), (.aload_n 2, 1, 2, 0, 0)], .invokevirtual 102, 3, 89, 127),
  (1027, [(.iload 5, 2, 5, 0, 0)], .if_icmp .eq 5, 3, 129, 128)]
def cd_L_law_8 : List SG := [(1032, [(.iconst 0, 1, 0, 0, 0)], .ireturn, 1, 1, 0),
  (1034, [(.iload 5, 2, 5, 0, 0)], .ifCond .ne 15, 3, 132, 130),
  (1039, [(.aload_n 3, 1, 3, 0, 0), (.iconst 0, 1, 0, 0, 0), (.laload, 1, 0, 0, 0), (.iload 6, 2, 6, 0, 0), (.i2l, 1, 0, 0, 0), (.lcmp, 1, 0, 0, 0)], .ifCond .eq 5, 3, 132, 131),
  (1049, [(.iconst 0, 1, 0, 0, 0)], .ireturn, 1, 1, 0),
  (1051, [], .goto 582, 3, 226, 0),
  (1054, [(.aload_n 1, 1, 1, 0, 0), (.aload_n 0, 1, 0, 0, 0), (.iload 4, 2, 4, 0, 0), (.iconst 1, 1, 0, 0, 1), (.iadd, 1, 0, 0, 0), (.iaload, 1, 0, 0, 0), (.aload_n 0, 1, 0, 0, 0), (.iload 4, 2, 4, 0, 0), (.iconst 2, 1, 0, 0, 2), (.iadd, 1, 0, 0, 0), (.iaload, 1, 0, 0, 0), (.aload_n 3, 1, 3, 0, 0)], .invokestatic 156, 3, 157, 134),
  (1071, [(.istore 5, 2, 5, 0, 0), (.aload_n 2, 1, 2, 0, 0), (.aload_n 0, 1, 0, 0, 0), (.iload 4, 2, 4, 0, 0), (.iconst 1, 1, 0, 0, 1), (.iadd, 1, 0, 0, 0), (.iaload, 1, 0, 0, 0), (.aload_n 0, 1, 0, 0, 0), (.iload 4, 2, 4, 0, 0), (.iconst 2, 1, 0, 0, 2), (.iadd, 1, 0, 0, 0), (.iaload, 1, 0, 0, 0)], .invokevirtual 158, 3, 125, 135),
  (1089, [(.istore 6, 2, 6, 0, 0), (.aload_n 2, 1, 2, 0, 0)], .invokevirtual 102, 3, 89, 136),
  (1095, [(.iload 5, 2, 5, 0, 0)], .if_icmp .eq 5, 3, 138, 137),
  (1100, [(.iconst 0, 1, 0, 0, 0)], .ireturn, 1, 1, 0),
  (1102, [(.iload 5, 2, 5, 0, 0)], .ifCond .ne 15, 3, 141, 139),
  (1107, [(.aload_n 3, 1, 3, 0, 0), (.iconst 0, 1, 0, 0, 0), (.laload, 1, 0, 0, 0), (.iload 6, 2, 6, 0, 0), (.i2l, 1, 0, 0, 0), (.lcmp, 1, 0, 0, 0)], .ifCond .eq 5, 3, 141, 140),
  (1117, [(.iconst 0, 1, 0, 0, 0)], .ireturn, 1, 1, 0),
  (1119, [], .goto 514, 3, 226, 0),
  (1122, [(.aload_n 1, 1, 1, 0, 0), (.aload_n 0, 1, 0, 0, 0), (.iload 4, 2, 4, 0, 0), (.iconst 1, 1, 0, 0, 1), (.iadd, 1, 0, 0, 0), (.iaload, 1, 0, 0, 0), (.aload_n 3, 1, 3, 0, 0)], .invokestatic 159, 3, 158, 143),
  (1133, [(.istore 5, 2, 5, 0, 0), (.aload_n 2, 1, 2, 0, 0), (.aload_n 0, 1, 0, 0, 0), (.iload 4, 2, 4, 0, 0), (.iconst 1, 1, 0, 0, 1), (.iadd, 1, 0, 0, 0), (.iaload, 1, 0, 0, 0)], .invokevirtual 161, 3, 126, 144)]
def cd_L_law_9 : List SG := [(1145, [(.istore 6, 2, 6, 0, 0), (.aload_n 2, 1, 2, 0, 0)], .invokevirtual 102, 3, 89, 145),
  (1151, [(.iload 5, 2, 5, 0, 0)], .if_icmp .eq 5, 3, 147, 146),
  (1156, [(.iconst 0, 1, 0, 0, 0)], .ireturn, 1, 1, 0),
  (1158, [(.iload 5, 2, 5, 0, 0)], .ifCond .ne 15, 3, 150, 148),
  (1163, [(.aload_n 3, 1, 3, 0, 0), (.iconst 0, 1, 0, 0, 0), (.laload, 1, 0, 0, 0), (.iload 6, 2, 6, 0, 0), (.i2l, 1, 0, 0, 0), (.lcmp, 1, 0, 0, 0)], .ifCond .eq 5, 3, 150, 149),
  (1173, [(.iconst 0, 1, 0, 0, 0)], .ireturn, 1, 1, 0),
  (1175, [], .goto 458, 3, 226, 0),
  (1178, [(.aload_n 1, 1, 1, 0, 0), (.aload_n 0, 1, 0, 0, 0), (.iload 4, 2, 4, 0, 0), (.iconst 1, 1, 0, 0, 1), (.iadd, 1, 0, 0, 0), (.iaload, 1, 0, 0, 0), (.aload_n 3, 1, 3, 0, 0)], .invokestatic 162, 3, 159, 152),
  (1189, [(.istore 5, 2, 5, 0, 0), (.aload_n 2, 1, 2, 0, 0), (.aload_n 0, 1, 0, 0, 0), (.iload 4, 2, 4, 0, 0), (.iconst 1, 1, 0, 0, 1), (.iadd, 1, 0, 0, 0), (.iaload, 1, 0, 0, 0)], .invokevirtual 164, 3, 131, 153),
  (1201, [(.istore 6, 2, 6, 0, 0), (.aload_n 2, 1, 2, 0, 0)], .invokevirtual 102, 3, 89, 154),
  (1207, [(.iload 5, 2, 5, 0, 0)], .if_icmp .eq 5, 3, 156, 155),
  (1212, [(.iconst 0, 1, 0, 0, 0)], .ireturn, 1, 1, 0),
  (1214, [(.iload 5, 2, 5, 0, 0)], .ifCond .ne 15, 3, 159, 157),
  (1219, [(.aload_n 3, 1, 3, 0, 0), (.iconst 0, 1, 0, 0, 0), (.laload, 1, 0, 0, 0), (.iload 6, 2, 6, 0, 0), (.i2l, 1, 0, 0, 0), (.lcmp, 1, 0, 0, 0)], .ifCond .eq 5, 3, 159, 158),
  (1229, [(.iconst 0, 1, 0, 0, 0)], .ireturn, 1, 1, 0),
  (1231, [], .goto 402, 3, 226, 0)]
def cd_L_law_10 : List SG := [(1234, [(.aload_n 1, 1, 1, 0, 0), (.aload_n 0, 1, 0, 0, 0), (.iload 4, 2, 4, 0, 0), (.iconst 1, 1, 0, 0, 1), (.iadd, 1, 0, 0, 0), (.iaload, 1, 0, 0, 0), (.aload_n 3, 1, 3, 0, 0)], .invokestatic 165, 3, 160, 161),
  (1245, [(.istore 5, 2, 5, 0, 0), (.aload_n 2, 1, 2, 0, 0), (.aload_n 0, 1, 0, 0, 0), (.iload 4, 2, 4, 0, 0), (.iconst 1, 1, 0, 0, 1), (.iadd, 1, 0, 0, 0), (.iaload, 1, 0, 0, 0)], .invokevirtual 167, 3, 132, 162),
  (1257, [(.istore 6, 2, 6, 0, 0), (.aload_n 2, 1, 2, 0, 0)], .invokevirtual 102, 3, 89, 163),
  (1263, [(.iload 5, 2, 5, 0, 0)], .if_icmp .eq 5, 3, 165, 164),
  (1268, [(.iconst 0, 1, 0, 0, 0)], .ireturn, 1, 1, 0),
  (1270, [(.iload 5, 2, 5, 0, 0)], .ifCond .ne 15, 3, 168, 166),
  (1275, [(.aload_n 3, 1, 3, 0, 0), (.iconst 0, 1, 0, 0, 0), (.laload, 1, 0, 0, 0), (.iload 6, 2, 6, 0, 0), (.i2l, 1, 0, 0, 0), (.lcmp, 1, 0, 0, 0)], .ifCond .eq 5, 3, 168, 167),
  (1285, [(.iconst 0, 1, 0, 0, 0)], .ireturn, 1, 1, 0),
  (1287, [], .goto 346, 3, 226, 0),
  (1290, [(.aload_n 1, 1, 1, 0, 0), (.aload_n 0, 1, 0, 0, 0), (.iload 4, 2, 4, 0, 0), (.iconst 1, 1, 0, 0, 1), (.iadd, 1, 0, 0, 0), (.iaload, 1, 0, 0, 0), (.aload_n 3, 1, 3, 0, 0)], .invokestatic 168, 3, 161, 170),
  (1301, [(.istore 5, 2, 5, 0, 0), (.aload_n 2, 1, 2, 0, 0), (.aload_n 0, 1, 0, 0, 0), (.iload 4, 2, 4, 0, 0), (.iconst 1, 1, 0, 0, 1), (.iadd, 1, 0, 0, 0), (.iaload, 1, 0, 0, 0)], .invokevirtual 170, 3, 133, 171),
  (1313, [(.istore 6, 2, 6, 0, 0), (.aload_n 2, 1, 2, 0, 0)], .invokevirtual 102, 3, 89, 172),
  (1319, [(.iload 5, 2, 5, 0, 0)], .if_icmp .eq 5, 3, 174, 173),
  (1324, [(.iconst 0, 1, 0, 0, 0)], .ireturn, 1, 1, 0),
  (1326, [(.iload 5, 2, 5, 0, 0)], .ifCond .ne 22, 3, 180, 175),
  (1331, [(.aload_n 3, 1, 3, 0, 0), (.iconst 0, 1, 0, 0, 0), (.laload, 1, 0, 0, 0), (.iload 6, 2, 6, 0, 0)], .ifCond .eq 7, 3, 177, 176)]
def cd_L_law_11 : List SG := [(1339, [(.lconst 1, 1, 0, 0, 1)], .goto 4, 3, 178, 0),
  (1343, [(.lconst 0, 1, 0, 0, 0)], .nop, 0, 178, 0),
  (1344, [(.lcmp, 1, 0, 0, 0)], .ifCond .eq 5, 3, 180, 179),
  (1348, [(.iconst 0, 1, 0, 0, 0)], .ireturn, 1, 1, 0),
  (1350, [], .goto 283, 3, 226, 0),
  (1353, [(.aload_n 1, 1, 1, 0, 0), (.aload_n 0, 1, 0, 0, 0), (.iload 4, 2, 4, 0, 0), (.iconst 1, 1, 0, 0, 1), (.iadd, 1, 0, 0, 0), (.iaload, 1, 0, 0, 0), (.aload_n 3, 1, 3, 0, 0)], .invokestatic 171, 3, 162, 182),
  (1364, [(.istore 5, 2, 5, 0, 0), (.aload_n 2, 1, 2, 0, 0), (.aload_n 0, 1, 0, 0, 0), (.iload 4, 2, 4, 0, 0), (.iconst 1, 1, 0, 0, 1), (.iadd, 1, 0, 0, 0), (.iaload, 1, 0, 0, 0)], .invokevirtual 173, 3, 137, 183),
  (1376, [(.istore 6, 2, 6, 0, 0), (.aload_n 2, 1, 2, 0, 0)], .invokevirtual 102, 3, 89, 184),
  (1382, [(.iload 5, 2, 5, 0, 0)], .if_icmp .eq 5, 3, 186, 185),
  (1387, [(.iconst 0, 1, 0, 0, 0)], .ireturn, 1, 1, 0),
  (1389, [(.iload 5, 2, 5, 0, 0)], .ifCond .ne 15, 3, 189, 187),
  (1394, [(.aload_n 3, 1, 3, 0, 0), (.iconst 0, 1, 0, 0, 0), (.laload, 1, 0, 0, 0), (.iload 6, 2, 6, 0, 0), (.i2l, 1, 0, 0, 0), (.lcmp, 1, 0, 0, 0)], .ifCond .eq 5, 3, 189, 188),
  (1404, [(.iconst 0, 1, 0, 0, 0)], .ireturn, 1, 1, 0),
  (1406, [], .goto 227, 3, 226, 0),
  (1409, [(.aload_n 1, 1, 1, 0, 0), (.aload_n 0, 1, 0, 0, 0), (.iload 4, 2, 4, 0, 0), (.iconst 1, 1, 0, 0, 1), (.iadd, 1, 0, 0, 0), (.iaload, 1, 0, 0, 0), (.aload_n 3, 1, 3, 0, 0)], .invokestatic 174, 3, 163, 191),
  (1420, [(.istore 5, 2, 5, 0, 0), (.aload_n 2, 1, 2, 0, 0), (.aload_n 0, 1, 0, 0, 0), (.iload 4, 2, 4, 0, 0), (.iconst 1, 1, 0, 0, 1), (.iadd, 1, 0, 0, 0), (.iaload, 1, 0, 0, 0)], .invokevirtual 176, 3, 139, 192)]
def cd_L_law_12 : List SG := [(1432, [(.istore 6, 2, 6, 0, 0), (.aload_n 2, 1, 2, 0, 0)], .invokevirtual 102, 3, 89, 193),
  (1438, [(.iload 5, 2, 5, 0, 0)], .if_icmp .eq 5, 3, 195, 194),
  (1443, [(.iconst 0, 1, 0, 0, 0)], .ireturn, 1, 1, 0),
  (1445, [(.iload 5, 2, 5, 0, 0)], .ifCond .ne 15, 3, 198, 196),
  (1450, [(.aload_n 3, 1, 3, 0, 0), (.iconst 0, 1, 0, 0, 0), (.laload, 1, 0, 0, 0), (.iload 6, 2, 6, 0, 0), (.i2l, 1, 0, 0, 0), (.lcmp, 1, 0, 0, 0)], .ifCond .eq 5, 3, 198, 197),
  (1460, [(.iconst 0, 1, 0, 0, 0)], .ireturn, 1, 1, 0),
  (1462, [], .goto 171, 3, 226, 0),
  (1465, [(.aload_n 1, 1, 1, 0, 0), (.aload_n 0, 1, 0, 0, 0), (.iload 4, 2, 4, 0, 0), (.iconst 1, 1, 0, 0, 1), (.iadd, 1, 0, 0, 0), (.iaload, 1, 0, 0, 0), (.aload_n 3, 1, 3, 0, 0)], .invokestatic 177, 3, 164, 200),
  (1476, [(.istore 5, 2, 5, 0, 0), (.aload_n 2, 1, 2, 0, 0), (.aload_n 0, 1, 0, 0, 0), (.iload 4, 2, 4, 0, 0), (.iconst 1, 1, 0, 0, 1), (.iadd, 1, 0, 0, 0), (.iaload, 1, 0, 0, 0)], .invokevirtual 179, 3, 140, 201),
  (1488, [(.istore 6, 2, 6, 0, 0), (.aload_n 2, 1, 2, 0, 0)], .invokevirtual 102, 3, 89, 202),
  (1494, [(.iload 5, 2, 5, 0, 0)], .if_icmp .eq 5, 3, 204, 203),
  (1499, [(.iconst 0, 1, 0, 0, 0)], .ireturn, 1, 1, 0),
  (1501, [(.iload 5, 2, 5, 0, 0)], .ifCond .ne 15, 3, 207, 205),
  (1506, [(.aload_n 3, 1, 3, 0, 0), (.iconst 0, 1, 0, 0, 0), (.laload, 1, 0, 0, 0), (.iload 6, 2, 6, 0, 0), (.i2l, 1, 0, 0, 0), (.lcmp, 1, 0, 0, 0)], .ifCond .eq 5, 3, 207, 206),
  (1516, [(.iconst 0, 1, 0, 0, 0)], .ireturn, 1, 1, 0),
  (1518, [], .goto 115, 3, 226, 0)]
def cd_L_law_13 : List SG := [(1521, [(.aload_n 1, 1, 1, 0, 0), (.aload_n 0, 1, 0, 0, 0), (.iload 4, 2, 4, 0, 0), (.iconst 1, 1, 0, 0, 1), (.iadd, 1, 0, 0, 0), (.iaload, 1, 0, 0, 0), (.aload_n 3, 1, 3, 0, 0)], .invokestatic 180, 3, 165, 209),
  (1532, [(.istore 5, 2, 5, 0, 0), (.aload_n 2, 1, 2, 0, 0), (.aload_n 0, 1, 0, 0, 0), (.iload 4, 2, 4, 0, 0), (.iconst 1, 1, 0, 0, 1), (.iadd, 1, 0, 0, 0), (.iaload, 1, 0, 0, 0)], .invokevirtual 182, 3, 141, 210),
  (1544, [(.istore 6, 2, 6, 0, 0), (.aload_n 2, 1, 2, 0, 0)], .invokevirtual 102, 3, 89, 211),
  (1550, [(.iload 5, 2, 5, 0, 0)], .if_icmp .eq 5, 3, 213, 212),
  (1555, [(.iconst 0, 1, 0, 0, 0)], .ireturn, 1, 1, 0),
  (1557, [(.iload 5, 2, 5, 0, 0)], .ifCond .ne 15, 3, 216, 214),
  (1562, [(.aload_n 3, 1, 3, 0, 0), (.iconst 0, 1, 0, 0, 0), (.laload, 1, 0, 0, 0), (.iload 6, 2, 6, 0, 0), (.i2l, 1, 0, 0, 0), (.lcmp, 1, 0, 0, 0)], .ifCond .eq 5, 3, 216, 215),
  (1572, [(.iconst 0, 1, 0, 0, 0)], .ireturn, 1, 1, 0),
  (1574, [], .goto 59, 3, 226, 0),
  (1577, [(.aload_n 1, 1, 1, 0, 0), (.aload_n 0, 1, 0, 0, 0), (.iload 4, 2, 4, 0, 0), (.iconst 1, 1, 0, 0, 1), (.iadd, 1, 0, 0, 0), (.iaload, 1, 0, 0, 0), (.aload_n 3, 1, 3, 0, 0)], .invokestatic 183, 3, 166, 218),
  (1588, [(.istore 5, 2, 5, 0, 0), (.aload_n 2, 1, 2, 0, 0), (.aload_n 0, 1, 0, 0, 0), (.iload 4, 2, 4, 0, 0), (.iconst 1, 1, 0, 0, 1), (.iadd, 1, 0, 0, 0), (.iaload, 1, 0, 0, 0)], .invokevirtual 185, 3, 142, 219),
  (1600, [(.istore 6, 2, 6, 0, 0), (.aload_n 2, 1, 2, 0, 0)], .invokevirtual 102, 3, 89, 220),
  (1606, [(.iload 5, 2, 5, 0, 0)], .if_icmp .eq 5, 3, 222, 221),
  (1611, [(.iconst 0, 1, 0, 0, 0)], .ireturn, 1, 1, 0),
  (1613, [(.iload 5, 2, 5, 0, 0)], .ifCond .ne 15, 3, 225, 223),
  (1618, [(.aload_n 3, 1, 3, 0, 0), (.iconst 0, 1, 0, 0, 0), (.laload, 1, 0, 0, 0), (.iload 6, 2, 6, 0, 0), (.i2l, 1, 0, 0, 0), (.lcmp, 1, 0, 0, 0)], .ifCond .eq 5, 3, 225, 224)]
def cd_L_law_14 : List SG := [(1628, [(.iconst 0, 1, 0, 0, 0)], .ireturn, 1, 1, 0),
  (1630, [], .goto 3, 3, 226, 0),
  (1633, [(.iinc 4 5, 3, 4, 0, 5)], .goto (-1613), 3, 0, 0),
  (1639, [(.iconst 1, 1, 0, 0, 1)], .ireturn, 1, 1, 0)]
def cd_L_law : List SG := cd_L_law_0 ++ (cd_L_law_1 ++ (cd_L_law_2 ++ (cd_L_law_3 ++ (cd_L_law_4 ++ (cd_L_law_5 ++ (cd_L_law_6 ++ (cd_L_law_7 ++ (cd_L_law_8 ++ (cd_L_law_9 ++ (cd_L_law_10 ++ (cd_L_law_11 ++ (cd_L_law_12 ++ (cd_L_law_13 ++ (cd_L_law_14))))))))))))))
def codeL : List (List SG) := [cd_X0_open, cd_X0_size, cd_X0_hasTeam, cd_X0_seatOf, cd_X0_teamOn, cd_X0_everyone, cd_X0_tell, cd_X0_untell, cd_X0_hasResult, cd_X0_putTaken, cd_X0_putCards, cd_X0_putLot, cd_X0_playedBy, cd_X0_left, cd_X0_pointsOf, cd_X0_takenFrom, cd_X0_pointsFrom, cd_X0_differenceFrom, cd_X0_goalsFrom, cd_X0_cardMark, cd_X0_lotMark, cd_X0_counts, cd_X0_pointsFor, cd_X1_list, cd_X1_listOwnLast, cd_X1_add, cd_X1_lowerOf, cd_X1_upperOf, cd_X2_put, cd_X2_at, cd_X2_firstApart, cd_X2_isBetter, cd_X3_countPassed, cd_X3_firstPassed, cd_X3_open, cd_X3_waysPassed, cd_X3_lowestPassed, cd_X3_play, cd_X3_takeBack, cd_X3_isPassedAnyhow, cd_X3_canBePassed, cd_X4_through, cd_X4_countFrom, cd_X5_draw, cd_X5_seatAt, cd_X5_placeOf, cd_X5_ruleBetween, cd_X5_setOf, cd_X5_settle, cd_X5_markTied, cd_X5_markAll, cd_X5_arrange, cd_X5_noteRule, cd_X5_alikeEnd, cd_X6_measure, cd_X6_pointsOfThird, cd_X6_betterThan, cd_X6_smallestSize, cd_X7_addGroup, cd_X7_setResult, cd_X7_strike, cd_X7_takeAway, cd_X7_setCards, cd_X7_setLot, cd_X7_setThrough, cd_X7_groups, cd_X7_teams, cd_X7_groupOf, cd_X7_played, cd_X7_points, cd_X7_difference, cd_X7_goals, cd_X7_place, cd_X7_teamAt, cd_X7_rule, cd_X7_matchesLeft, cd_X7_thirdPoints, cd_X7_thirdRank, cd_X7_isThrough, cd_X7_ways, cd_X7_waysSafe, cd_X7_waysLost, cd_X7_badWay, cd_X7_scoresThrough, cd_X7_needInRange, cd_X7_needGroup, cd_X7_groupNumber, cd_X7_groupWith, cd_X7_groupOfPair, cd_X8_thrown, cd_X8_in, cd_X8_goes, cd_X8_told, cd_X8_isTeam, cd_X8_isGroup, cd_X8_arePair, cd_X8_at, cd_X8_isPlayed, cd_X8_addGroup, cd_X8_left, cd_X8_lays, cd_X8_setResult, cd_X8_strike, cd_X8_takeAway, cd_X8_setCards, cd_X8_setLot, cd_X8_setThrough, cd_X8_pointsIn, cd_X8_sums, cd_X8_pointsOf, cd_X8_finalRule, cd_X8_tiedRule, cd_X8_splits, cd_X8_orders, cd_X8_placeOf, cd_X8_teamOn, cd_X8_groups, cd_X8_teams, cd_X8_groupOf, cd_X8_played, cd_X8_points, cd_X8_difference, cd_X8_goals, cd_X8_place, cd_X8_teamAt, cd_X8_rule, cd_X8_matchesLeft, cd_X8_counting, cd_X8_thirdSum, cd_X8_isBetter, cd_X8_rankOf, cd_X8_thirdPoints, cd_X8_thirdRank, cd_X8_isThrough, cd_X8_waysOf, cd_X8_plays, cd_X8_before, cd_X8_ways, cd_X8_counts, cd_X8_waysSafe, cd_X8_waysLost, cd_X8_badWay, cd_X8_scoresThrough, cd_L_addGroup, cd_L_setResult, cd_L_strike, cd_L_takeAway, cd_L_setCards, cd_L_setLot, cd_L_setThrough, cd_L_groupOf, cd_L_played, cd_L_points, cd_L_difference, cd_L_goals, cd_L_place, cd_L_teamAt, cd_L_rule, cd_L_matchesLeft, cd_L_thirdPoints, cd_L_thirdRank, cd_L_isThrough, cd_L_ways, cd_L_waysSafe, cd_L_waysLost, cd_L_badWay, cd_L_scoresThrough, cd_L_law]
def code9 (y : Nat) : List SG := codeL.getD y []
def Go (sc : SC) : Nat → GoT
  | 0, _, _, _, _, _, _, _, _, _ => False
  | n + 1, d, y, i, L, S, X, o, Z, k => ∃ sg : SG, (code9 y)[i]? = some sg ∧ ∃ (L' S' : List AV) (X' : XT) (P : Prop), sxs sc sg.2.1 L S X = (L', S', X', P) ∧ P ∧ Tm (Go sc n) d y sg.2.2 L' S' X' o Z k
end
section
def okO (c : Nat) (cc : ByteArray) (pc : Nat) (op : OP) : Bool := decide (decode cc pc = .ok (op.1, op.2.1)) && (match op.1 with
  | .iconst n => decide (op.2.1 = 1) && decide (Int32.ofInt n = op.2.2.2.2)
  | .bipush n => decide (op.2.1 = 2) && decide ((Int8.ofInt n).toInt32 = op.2.2.2.2)
  | .sipush n => decide (op.2.1 = 3) && decide ((Int16.ofInt n).toInt32 = op.2.2.2.2)
  | .lconst n => decide (op.2.1 = 1) && decide (Int64.ofNat (n : Nat) = op.2.2.2.2.toInt64)
  | .iload_n k => decide (op.2.1 = 1) && decide ((k : Nat) = op.2.2.1)
  | .aload_n k => decide (op.2.1 = 1) && decide ((k : Nat) = op.2.2.1)
  | .istore_n k => decide (op.2.1 = 1) && decide ((k : Nat) = op.2.2.1)
  | .astore_n k => decide (op.2.1 = 1) && decide ((k : Nat) = op.2.2.1)
  | .iload k => decide (op.2.1 = 2) && decide (k = op.2.2.1)
  | .aload k => decide (op.2.1 = 2) && decide (k = op.2.2.1)
  | .istore k => decide (op.2.1 = 2) && decide (k = op.2.2.1)
  | .astore k => decide (op.2.1 = 2) && decide (k = op.2.2.1)
  | .iinc k n => decide (op.2.1 = 3) && decide (k = op.2.2.1) && decide (Int32.ofInt n = op.2.2.2.2)
  | .getfield ix => decide (op.2.1 = 3) && decide ((c, ix, op.2.2.2.1, op.2.2.1) ∈ FR) && decide (nI op.2.2.1 = op.2.2.2.2)
  | .putfield ix => decide (op.2.1 = 3) && decide ((c, ix, op.2.2.2.1, op.2.2.1) ∈ FR) && decide (nI op.2.2.1 = op.2.2.2.2) && decide (((vC op.2.2.2.1).2.1 op.2.2.1).2.2.1 = "I") && decide (((vC op.2.2.2.1).2.1 op.2.2.1).2.2.2 = false)
  | .getstatic ix => decide (op.2.1 = 3) && decide ((c, ix, op.2.2.1) ∈ SRl)
  | .invokestatic ix => decide (op.2.1 = 3) && decide (c = 6) && decide (ix = 73)
  | _ => decide (op.2.1 = 1))
def okOs (c : Nat) (cc : ByteArray) : Nat → List OP → Bool
  | _, [] => true
  | pc, op :: ops => okO c cc pc op && okOs c cc (pc + op.2.1) ops
def pcE : Nat → List OP → Nat
  | pc, [] => pc
  | pc, op :: ops => pcE (pc + op.2.1) ops
/-- where a stretch begins -/
def sPc (y i : Nat) : Option Nat := ((code9 y)[i]?).map (fun q => q.1)
/-- the catches of a method as its table has them; every call lies in them -/
def hnT (y : Nat) : List (Nat × Nat) := match mHh y with
  | none => []
  | some hh => hh.map fun q => (q.2.2.1, q.2.2.2)
def ctI (e : Nat) : Nat := ([21, 13, 15] : List Nat).getD e 0
def tbOk (y pc : Nat) : Bool := match mHh y with
  | none => true
  | some hh => hh.all fun q => decide (q.1 ≤ pc) && decide (pc < q.2.1)
def okT (y : Nat) (cc : ByteArray) (pc : Nat) (t : Instr × Nat × Nat × Nat) : Bool := match t.1 with
  | .nop => decide (sPc y t.2.2.1 = some pc)
  | .goto off => decide (decode cc pc = .ok (.goto off, 3)) && decide ((sPc y t.2.2.1).map Int.ofNat = some ((pc : Int) + off))
  | .ifCond q off => decide (decode cc pc = .ok (.ifCond q off, 3)) && decide ((sPc y t.2.2.1).map Int.ofNat = some ((pc : Int) + off)) && decide (sPc y t.2.2.2 = some (pc + 3))
  | .if_icmp q off => decide (decode cc pc = .ok (.if_icmp q off, 3)) && decide ((sPc y t.2.2.1).map Int.ofNat = some ((pc : Int) + off)) && decide (sPc y t.2.2.2 = some (pc + 3))
  | .ireturn => decide (decode cc pc = .ok (.ireturn, 1)) && (decide (mRt y = some .int) || (decide (mRt y = some .boolean) && decide (t.2.2.1 = 1)))
  | .areturn => decide (decode cc pc = .ok (.areturn, 1)) && decide (mRt y = some (.object "GroupTables$Group"))
  | .return_ => decide (decode cc pc = .ok (.return_, 1)) && decide (mRt y = none)
  | .new ik => decide (mOw y = 7) && decide (mHh y = none) && (EXl.any fun q => decide (q.1 = t.2.2.1) && decide (q.2.1 = ik) && decide (decode cc (pc + 6) = .ok (.invokespecial q.2.2, 3))) && decide (t.2.2.2 ∈ STl.map (fun q => q.1)) && decide (decode cc pc = .ok (.new ik, 3)) && decide (decode cc (pc + 3) = .ok (.dup, 1)) && decide (decode cc (pc + 4) = .ok (.ldc t.2.2.2, 2)) && decide (decode cc (pc + 9) = .ok (.athrow, 1))
  | .tableswitch df lo hi offs => decide (decode cc pc = .ok (.tableswitch df lo hi offs, t.2.1)) && decide (lo = 0) && decide (hi = 25) && decide (offs.size = 26) && decide ((sPc y (tsw.getD 26 0)).map Int.ofNat = some ((pc : Int) + df)) && (List.range 26).all (fun j => decide ((sPc y (tsw.getD j (tsw.getD 26 0))).map Int.ofNat = (offs[j]?).map (fun off => (pc : Int) + off)))
  | .invokevirtual ix => decide (decode cc pc = .ok (.invokevirtual ix, 3)) && decide ((mOw y, ix, t.2.2.1) ∈ MR) && decide (sPc y t.2.2.2 = some (pc + 3)) && (mRc t.2.2.1).isSome && decide (t.2.2.1 < 167) && decide (mHh t.2.2.1 = none) && tbOk y pc
  | .invokestatic ix => decide (decode cc pc = .ok (.invokestatic ix, 3)) && decide ((mOw y, ix, t.2.2.1) ∈ MR) && decide (sPc y t.2.2.2 = some (pc + 3)) && decide (mRc t.2.2.1 = none) && decide (t.2.2.1 < 167) && tbOk y pc
  | _ => false
def okY (y : Nat) : Bool := (code9 y).all fun sg => okOs (mOw y) (mBy y) sg.1 sg.2.1 && okT y (mBy y) (pcE sg.1 sg.2.1) sg.2.2
def astOk (cc : ByteArray) (h : Nat × Nat × Nat × Nat) (nx : Option Nat) : Bool := (decide (h.2.2.1 < 4) && decide (nx = some (h.2.1 + 1)) && (match decode cc h.2.1 with | .ok (.astore_n k, 1) => decide ((k : Nat) = h.2.2.1) | _ => false)) || (decide (nx = some (h.2.1 + 2)) && (match decode cc h.2.1 with | .ok (.astore k, 2) => decide (k = h.2.2.1) | _ => false))
/-- a method's catches: in the order of its table, at those bytes, of those classes; none of a class twice -/
def okH (y : Nat) : Bool := decide (hnT y = (mHn y).map (fun h => (h.2.1, ctI h.1))) && (mHn y).all (fun h => decide (h.1 < 3) && decide (h.2.2.1 < mLo y) && astOk (mBy y) h (sPc y h.2.2.2)) && decide ((mHh y).isSome = !(mHn y).isEmpty) && (decide (mHn y = []) || decide (mOw y = 9)) && decide (((mHn y).map (fun h => h.1)).Nodup)
theorem okH_all : ∀ y, y < 168 → okH y = true := by decide +kernel
theorem okY_0 : ∀ y, y < 24 → okY (y + 0) = true := by decide +kernel
theorem okY_24 : ∀ y, y < 24 → okY (y + 24) = true := by decide +kernel
theorem okY_48 : ∀ y, y < 24 → okY (y + 48) = true := by decide +kernel
theorem okY_72 : ∀ y, y < 24 → okY (y + 72) = true := by decide +kernel
theorem okY_96 : ∀ y, y < 24 → okY (y + 96) = true := by decide +kernel
theorem okY_120 : ∀ y, y < 24 → okY (y + 120) = true := by decide +kernel
theorem okY_144 : ∀ y, y < 23 → okY (y + 144) = true := by decide +kernel
def okSg (y : Nat) (sg : SG) : Bool := okOs (mOw y) (mBy y) sg.1 sg.2.1 && okT y (mBy y) (pcE sg.1 sg.2.1) sg.2.2
theorem okY_law_0 : cd_L_law_0.all (okSg 167) = true := by decide +kernel
theorem okY_law_1 : cd_L_law_1.all (okSg 167) = true := by decide +kernel
theorem okY_law_2 : cd_L_law_2.all (okSg 167) = true := by decide +kernel
theorem okY_law_3 : cd_L_law_3.all (okSg 167) = true := by decide +kernel
theorem okY_law_4 : cd_L_law_4.all (okSg 167) = true := by decide +kernel
theorem okY_law_5 : cd_L_law_5.all (okSg 167) = true := by decide +kernel
theorem okY_law_6 : cd_L_law_6.all (okSg 167) = true := by decide +kernel
theorem okY_law_7 : cd_L_law_7.all (okSg 167) = true := by decide +kernel
theorem okY_law_8 : cd_L_law_8.all (okSg 167) = true := by decide +kernel
theorem okY_law_9 : cd_L_law_9.all (okSg 167) = true := by decide +kernel
theorem okY_law_10 : cd_L_law_10.all (okSg 167) = true := by decide +kernel
theorem okY_law_11 : cd_L_law_11.all (okSg 167) = true := by decide +kernel
theorem okY_law_12 : cd_L_law_12.all (okSg 167) = true := by decide +kernel
theorem okY_law_13 : cd_L_law_13.all (okSg 167) = true := by decide +kernel
theorem okY_law_14 : cd_L_law_14.all (okSg 167) = true := by decide +kernel
theorem okY_law : okY 167 = true := by
  show cd_L_law.all (okSg 167) = true
  unfold cd_L_law
  simp only [List.all_append, okY_law_0, okY_law_1, okY_law_2, okY_law_3, okY_law_4, okY_law_5, okY_law_6, okY_law_7, okY_law_8, okY_law_9, okY_law_10, okY_law_11, okY_law_12, okY_law_13, okY_law_14, Bool.and_self]
theorem okY_all : ∀ y, y < 168 → okY y = true := by
  intro y hy
  by_cases h0 : y < 24
  · have h := okY_0 (y - 0) (by omega)
    rwa [Nat.sub_add_cancel (by omega)] at h
  by_cases h24 : y < 48
  · have h := okY_24 (y - 24) (by omega)
    rwa [Nat.sub_add_cancel (by omega)] at h
  by_cases h48 : y < 72
  · have h := okY_48 (y - 48) (by omega)
    rwa [Nat.sub_add_cancel (by omega)] at h
  by_cases h72 : y < 96
  · have h := okY_72 (y - 72) (by omega)
    rwa [Nat.sub_add_cancel (by omega)] at h
  by_cases h96 : y < 120
  · have h := okY_96 (y - 96) (by omega)
    rwa [Nat.sub_add_cancel (by omega)] at h
  by_cases h120 : y < 144
  · have h := okY_120 (y - 120) (by omega)
    rwa [Nat.sub_add_cancel (by omega)] at h
  by_cases h144 : y < 167
  · have h := okY_144 (y - 144) (by omega)
    rwa [Nat.sub_add_cancel (by omega)] at h
  have e : y = 167 := by omega
  subst e
  exact okY_law
end
section
/-! how the abstract machine's numbers lie in a heap -/
def lwG : List Jvm.Cond := lw_tbl.filter goodWord
theorem lwG_in {w : Jvm.Cond} (h : w ∈ lw_tbl) (hg : goodWord w = true) : w ∈ lwG := List.mem_filter.mpr ⟨h, hg⟩
theorem u_good {C : String} {T : u_T} {N : Nat} : ∀ w ∈ u_ws C T N, goodWord w = true := by
  intro w hw
  obtain ⟨k, -, rfl⟩ := List.mem_map.mp hw
  unfold u_lay
  split <;> rfl
def ids : List (Nat × Int32 × Int32) := (List.range 44).flatMap fun k => match kTab.getD k none with
  | some (na, nb, _) => (List.range na).flatMap fun a => (List.range nb).map fun b => (k, nI a, nI b)
  | none => []
abbrev ADR : Type := Nat → Int32 → Int32 → Nat
def fV (ad : ADR) (X : XT) (k : Nat) (a b : Int32) (j : Nat) (f : Option Nat) : Value := match f with
  | some k' => .ref (ad k' a b)
  | none => .int (X.1 k a b (nI j))
def wV (ad : ADR) (X : XT) (k : Nat) (a b : Int32) (fs : List (Option Nat)) : List Value := (List.range fs.length).map fun j => fV ad X k a b j (fs[j]?).join
def wE (tc : Nat → ClassId) (ad : ADR) (X : XT) (q : Nat × Int32 × Int32) : va_E := match kSh q.1 with
  | some (.inl (ci, fs)) => .inr (ci, wV ad X q.1 q.2.1 q.2.2 fs)
  | some (.inr (.inl n)) => .inl (tc 0, n, .inl (fun j => if j < n then X.1 q.1 q.2.1 q.2.2 (nI j) else 0))
  | some (.inr (.inr (.inl n))) => .inl (tc 3, n, .inr (.inl (fun j => if j = 0 then X.2 else 0)))
  | some (.inr (.inr (.inr (t, n, e)))) => .inl (tc t, n, .inr (.inr (.inr (.inr (fun j => if j < n then some (ad e q.2.2 (nI j)) else none)))))
  | none => .inr (0, [])
def wW (tc : Nat → ClassId) (ad : ADR) (X : XT) : va_W := ids.map fun q => (ad q.1 q.2.1 q.2.2, wE tc ad X q)
def tyW (tc : Nat → ClassId) : List (ClassId × FieldType) := [(tc 0, .int), (tc 1, .array .int), (tc 2, .object "GroupTables$Group"), (tc 3, .long)]
def cv (ad : ADR) (v : AV) : Value := match v with
  | .inl x => .int x
  | .inr (.inl z) => .long z
  | .inr (.inr (k, a, b)) => .ref (ad k a b)
def vok (v : AV) : Prop := match v with
  | .inr (.inr (k, a, b)) => (k, a, b) ∈ ids ∨ (50 ≤ k ∧ a = 0 ∧ b = 0)
  | _ => True
theorem cv_cat (ad : ADR) (v : AV) : (cv ad v).category = avc v := by
  rcases v with x | z | ⟨k, a, b⟩ <;> rfl
theorem cv_cats (ad : ADR) (S : List AV) : ((S.map (cv ad)).map fun v => v.category).sum = (S.map avc).sum := by
  rw [List.map_map]
  congr 1
  exact List.map_congr_left (fun v _ => cv_cat ad v)
def exD : List String := ["java/lang/RuntimeException", "java/lang/Exception", "java/lang/Throwable"]
/-- what holds of all made things, in every state behind the law's start -/
def Gl (sc : SC) (ad : ADR) (A : Nat → Prop) (U : State) (H : Heap) : Prop :=
  vx_Zq Bundle.tN "UNASSIGNED_STACK" Bundle.steD A U H ∧ vx_Zq Bundle.tN "SUPPRESSED_SENTINEL" Bundle.listD A U H ∧
  (∀ q ∈ STl, ∃ sa, vk_R RX7 q.1 q.2 sa U) ∧
  (∀ k, 50 ≤ k → k < 53 → va_Z (roM k).1 (roM k).2 "[I" (.ref (ad k 0 0)) A U H) ∧
  (∀ k, 50 ≤ k → k < 54 → va_T .int (ad k 0 0) (roN sc k) (fun j => .int (roV sc k j)) A U H) ∧
  (∀ a b, a < 3 → b < 3 → a ≠ b → va_Nc (exN a) (exN b) U) ∧ va_Nw (.fieldLinkNest RX3 72 "GroupTables" "WAYS" "[I" "GroupTables") U ∧ (∀ a, a < 3 → va_Nw (.castable (exN a) (exN a)) U) ∧ ∀ n ∈ exD, va_Nw (.declares (Bundle.initS n)) U
theorem Gl.kept {sc : SC} {ad : ADR} {A : Nat → Prop} {U : State} {H H1 : Heap} (h : Gl sc ad A U H) (hq : ∀ a : Nat, a < H.size → ¬ A a → H1[a]? = H[a]?) : Gl sc ad A U H1 :=
  ⟨h.1.kept hq, h.2.1.kept hq, h.2.2.1, fun k h1 h2 => (h.2.2.2.1 k h1 h2).kept hq, fun k h1 h2 => (h.2.2.2.2.1 k h1 h2).kept hq, h.2.2.2.2.2⟩
theorem Gl.narrow {sc : SC} {ad : ADR} {A B : Nat → Prop} {U : State} {H : Heap} (h : Gl sc ad A U H) (hAB : ∀ q, B q → A q) : Gl sc ad B U H :=
  ⟨h.1.narrow hAB, h.2.1.narrow hAB, h.2.2.1, fun k h1 h2 => (h.2.2.2.1 k h1 h2).narrow hAB, fun k h1 h2 => (h.2.2.2.2.1 k h1 h2).narrow hAB, h.2.2.2.2.2⟩
theorem Gl.warm {sc : SC} {ad : ADR} {A : Nat → Prop} {s U : State} {H : Heap} (hW : s.WarmedH U.vm) (h : Gl sc ad A s H) : Gl sc ad A U H :=
  ⟨h.1.moved hW.alike, h.2.1.moved hW.alike, fun q hq => by
    obtain ⟨sa, h1⟩ := h.2.2.1 q hq
    exact ⟨sa, vk_R.warm hW h1⟩, fun k h1 h2 => (h.2.2.2.1 k h1 h2).moved hW.alike, fun k h1 h2 => (h.2.2.2.2.1 k h1 h2).moved hW.alike, fun a b h1 h2 h3 => (h.2.2.2.2.2.1 a b h1 h2 h3).moved hW.alike, va_Nw.warmF hW h.2.2.2.2.2.2.1, fun a h1 => va_Nw.warmC hW (h.2.2.2.2.2.2.2.1 a h1), fun n hn => va_Nw.warmD hW (h.2.2.2.2.2.2.2.2 n hn)⟩
theorem Gl.same {sc : SC} {ad : ADR} {A : Nat → Prop} {u U : State} {H : Heap} (hv : U.vm = u.vm) (h : Gl sc ad A u H) : Gl sc ad A U H := by
  have ha : u.vm.Alike U.vm := by rw [hv]; exact Vm.Alike.refl u.vm
  exact ⟨h.1.moved ha, h.2.1.moved ha, fun q hq => by
    obtain ⟨sa, h1⟩ := h.2.2.1 q hq
    exact ⟨sa, vk_R.same hv h1⟩, fun k h1 h2 => (h.2.2.2.1 k h1 h2).moved ha, fun k h1 h2 => (h.2.2.2.2.1 k h1 h2).moved ha, fun a b h1 h2 h3 => (h.2.2.2.2.2.1 a b h1 h2 h3).moved ha, va_Nw.same rfl hv.symm h.2.2.2.2.2.2.1, fun a h1 => va_Nw.same rfl hv.symm (h.2.2.2.2.2.2.2.1 a h1), fun n hn => va_Nw.same rfl hv.symm (h.2.2.2.2.2.2.2.2 n hn)⟩
/-! kinds -/
theorem kSh_lt {k : Nat} {z : SH} (h : kSh k = some z) : k < 44 := by
  unfold kSh at h
  by_cases hk : k < 44
  · exact hk
  · have : kTab[k]? = none := List.getElem?_eq_none (by show 44 ≤ k; omega)
    simp [List.getD, this] at h
theorem kSh_none {k : Nat} (h : 44 ≤ k) : kSh k = none := by
  cases hz : kSh k with
  | none => rfl
  | some z => have := kSh_lt hz; omega
theorem kAll (P : SH → Bool) (h : kTab.all (fun q => match q with | some r => P r.2.2 | none => true) = true) {k : Nat} {z : SH} (hz : kSh k = some z) : P z = true := by
  unfold kSh at hz
  cases hq : kTab[k]? with
  | none => simp [List.getD, hq] at hz
  | some o =>
    have hm := List.all_eq_true.mp h o (List.mem_of_getElem? hq)
    cases o with
    | none => simp [List.getD, hq] at hz
    | some r =>
      simp only [List.getD, hq, Option.getD_some, Option.map_some, Option.some.injEq] at hz
      subst hz
      exact hm
theorem kInt {k n : Nat} (h : kSh k = some (.inr (.inl n))) : n < 1000 := by
  have := kAll (fun z => match z with | .inr (.inl n) => decide (n < 1000) | _ => true) (by decide +kernel) h
  simpa using this
theorem kRef {k t n e : Nat} (h : kSh k = some (.inr (.inr (.inr (t, n, e))))) : (t = 1 ∨ t = 2) ∧ n < 1000 := by
  have := kAll (fun z => match z with | .inr (.inr (.inr (t, n, _))) => decide ((t = 1 ∨ t = 2) ∧ n < 1000) | _ => true) (by decide +kernel) h
  simpa using this
theorem kObj {k ci : Nat} {fs : List (Option Nat)} (h : kSh k = some (.inl (ci, fs))) : ci < 9 ∧ fs.length = (vC ci).2.2 ∧ fs.length < 1000 := by
  have := kAll (fun z => match z with | .inl (ci, fs) => decide (ci < 9 ∧ fs.length = (vC ci).2.2 ∧ fs.length < 1000) | _ => true) (by decide +kernel) h
  simpa using this
theorem ids_fld {k ci i k' : Nat} {a b : Int32} {fs : List (Option Nat)} (hm : (k, a, b) ∈ ids) (h : kSh k = some (.inl (ci, fs))) (hf : fs[i]? = some (some k')) : (k', a, b) ∈ ids := by
  have h0 : (ids.all fun q => match kSh q.1 with | some (.inl (_, fs)) => fs.all (fun f => match f with | some k' => decide ((k', q.2.1, q.2.2) ∈ ids) | none => true) | _ => true) = true := by decide +kernel
  have h1 := List.all_eq_true.mp h0 _ hm
  simp only [h] at h1
  have h2 := List.all_eq_true.mp h1 _ (List.mem_of_getElem? hf)
  simpa using h2
theorem ids_el {k t n e : Nat} {a b : Int32} (hm : (k, a, b) ∈ ids) (h : kSh k = some (.inr (.inr (.inr (t, n, e))))) {j : Nat} (hj : j < n) : (e, b, nI j) ∈ ids := by
  have h0 : (ids.all fun q => match kSh q.1 with | some (.inr (.inr (.inr (_, n, e)))) => (List.range n).all (fun j => decide ((e, q.2.2, nI j) ∈ ids)) | _ => true) = true := by decide +kernel
  have h1 := List.all_eq_true.mp h0 _ hm
  simp only [h] at h1
  have h2 := List.all_eq_true.mp h1 j (List.mem_range.mpr hj)
  simpa using h2
theorem vok_in {k : Nat} {a b : Int32} {z : SH} (h : vok (.inr (.inr (k, a, b)))) (hz : kSh k = some z) : (k, a, b) ∈ ids := by
  rcases h with h | h
  · exact h
  · have := kSh_lt hz
    omega
/-- an index within: its number -/
theorem vp_nat {i : Int32} {n : Nat} (h : vp_in i n) : nI i.toNatClampNeg = i ∧ i.toNatClampNeg < n ∧ i.toNatClampNeg < 2 ^ 31 := by
  have h0 : ¬ i < 0 := fun q => h (Or.inl q)
  obtain ⟨j, hj, rfl⟩ := nI_of h0
  rw [nI_clamp hj]
  exact ⟨rfl, by
    have := Nat.not_le.mp fun q => h (Or.inr q)
    rwa [nI_clamp hj] at this, hj⟩
theorem nI_inj {a b : Nat} (ha : a < 2 ^ 31) (hb : b < 2 ^ 31) (h : nI a = nI b) : a = b := (nI_eq ha hb).mp h
/-! worlds -/
theorem wW_at (tc : Nat → ClassId) (ad : ADR) (X : XT) {q : Nat × Int32 × Int32} {i : Nat} (h : ids[i]? = some q) : (wW tc ad X)[i]? = some (ad q.1 q.2.1 q.2.2, wE tc ad X q) := by
  unfold wW
  rw [List.getElem?_map, h]
  rfl
theorem wW_len (tc : Nat → ClassId) (ad : ADR) (X : XT) : (wW tc ad X).length = ids.length := by unfold wW; rw [List.length_map]
theorem wW_ad {tc : Nat → ClassId} {ad : ADR} {X : XT} {i : Nat} {p : Nat × va_E} (h : (wW tc ad X)[i]? = some p) : ∃ q, ids[i]? = some q ∧ p = (ad q.1 q.2.1 q.2.2, wE tc ad X q) := by
  unfold wW at h
  rw [List.getElem?_map] at h
  cases hq : ids[i]? with
  | none => rw [hq] at h; cases h
  | some q => rw [hq] at h; cases h; exact ⟨q, rfl, rfl⟩
theorem wD_to {tc : Nat → ClassId} {ad : ADR} {X Y : XT} {A : Nat → Prop} (h : va_D A (wW tc ad X)) : va_D A (wW tc ad Y) := by
  refine ⟨fun i j p q hp hq e => ?_, fun k q hq => ?_⟩
  · obtain ⟨p', h1, rfl⟩ := wW_ad hp
    obtain ⟨q', h2, rfl⟩ := wW_ad hq
    exact h.1 i j _ _ (wW_at tc ad X h1) (wW_at tc ad X h2) e
  · obtain ⟨q', h2, rfl⟩ := wW_ad hq
    exact (show A (ad q'.1 q'.2.1 q'.2.2) from h.2 k _ (wW_at tc ad X h2))
theorem wW_set {tc : Nat → ClassId} {ad : ADR} {X Y : XT} {A : Nat → Prop} (hD : va_D A (wW tc ad X)) {i : Nat} {q : Nat × Int32 × Int32} (hq : ids[i]? = some q) (hY : ∀ r ∈ ids, r ≠ q → wE tc ad Y r = wE tc ad X r) :
    (wW tc ad X).set i (ad q.1 q.2.1 q.2.2, wE tc ad Y q) = wW tc ad Y := by
  apply List.ext_getElem?
  intro j
  by_cases hj : j = i
  · subst hj
    have hl : j < (wW tc ad X).length := (List.getElem?_eq_some_iff.mp (wW_at tc ad X hq)).1
    rw [List.getElem?_set_self hl, wW_at tc ad Y hq]
  · rw [List.getElem?_set_ne (fun e => hj e.symm)]
    cases hr : ids[j]? with
    | none =>
      have h1 : ids.length ≤ j := List.getElem?_eq_none_iff.mp hr
      rw [List.getElem?_eq_none (by rw [wW_len]; exact h1), List.getElem?_eq_none (by rw [wW_len]; exact h1)]
    | some r =>
      rw [wW_at tc ad X hr, wW_at tc ad Y hr]
      rw [hY r (List.mem_of_getElem? hr) (fun e => hj (hD.1 j i _ _ (wW_at tc ad X hr) (wW_at tc ad X hq) (by rw [e])))]
theorem xs_self (X : XF) (k : Nat) (a b j x : Int32) : xs X k a b j x k a b j = x := by unfold xs; simp
theorem xs_nj (X : XF) (k : Nat) (a b : Int32) {i j : Int32} (x : Int32) (h : i ≠ j) : xs X k a b j x k a b i = X k a b i := by unfold xs; simp [h]
theorem xs_ne (X : XF) {k k' : Nat} {a b a' b' : Int32} (j x : Int32) (h : (k', a', b') ≠ (k, a, b)) : xs X k a b j x k' a' b' = X k' a' b' := by
  funext i
  unfold xs
  rw [if_neg]
  rintro ⟨rfl, rfl, rfl, -⟩
  exact h rfl
theorem wE_ne {tc : Nat → ClassId} {ad : ADR} {X Y : XT} {r : Nat × Int32 × Int32} (h1 : Y.1 r.1 r.2.1 r.2.2 = X.1 r.1 r.2.1 r.2.2) (h2 : Y.2 = X.2) : wE tc ad Y r = wE tc ad X r := by
  unfold wE wV fV
  rw [h1, h2]
theorem wE_obj {tc : Nat → ClassId} {ad : ADR} {X : XT} {k ci : Nat} {a b : Int32} {fs : List (Option Nat)} (h : kSh k = some (.inl (ci, fs))) : wE tc ad X (k, a, b) = .inr (ci, wV ad X k a b fs) := by
  unfold wE; simp only [h]
theorem wE_int {tc : Nat → ClassId} {ad : ADR} {X : XT} {k n : Nat} {a b : Int32} (h : kSh k = some (.inr (.inl n))) : wE tc ad X (k, a, b) = .inl (tc 0, n, .inl (fun j => if j < n then X.1 k a b (nI j) else 0)) := by
  unfold wE; simp only [h]
theorem wE_long {tc : Nat → ClassId} {ad : ADR} {X : XT} {k n : Nat} {a b : Int32} (h : kSh k = some (.inr (.inr (.inl n)))) : wE tc ad X (k, a, b) = .inl (tc 3, n, .inr (.inl (fun j => if j = 0 then X.2 else 0))) := by
  unfold wE; simp only [h]
theorem wE_ref {tc : Nat → ClassId} {ad : ADR} {X : XT} {k t n e : Nat} {a b : Int32} (h : kSh k = some (.inr (.inr (.inr (t, n, e))))) : wE tc ad X (k, a, b) = .inl (tc t, n, .inr (.inr (.inr (.inr (fun j => if j < n then some (ad e b (nI j)) else none))))) := by
  unfold wE; simp only [h]
theorem wV_len (ad : ADR) (X : XT) (k : Nat) (a b : Int32) (fs : List (Option Nat)) : (wV ad X k a b fs).length = fs.length := by unfold wV; simp
theorem wV_at (ad : ADR) (X : XT) (k : Nat) (a b : Int32) {fs : List (Option Nat)} {i : Nat} {f : Option Nat} (h : fs[i]? = some f) : (wV ad X k a b fs)[i]? = some (fV ad X k a b i f) := by
  have hi : i < fs.length := (List.getElem?_eq_some_iff.mp h).1
  unfold wV
  rw [List.getElem?_map, List.getElem?_range hi, Option.map_some, h]
  rfl
theorem wV_set (ad : ADR) (X : XT) (k : Nat) (a b x : Int32) {fs : List (Option Nat)} {i : Nat} (h : fs[i]? = some none) (hl : fs.length < 1000) : (wV ad X k a b fs).set i (.int x) = wV ad (xs X.1 k a b (nI i) x, X.2) k a b fs := by
  have hi : i < fs.length := (List.getElem?_eq_some_iff.mp h).1
  apply List.ext_getElem?
  intro j
  by_cases hj : j < fs.length
  · have hf : ∃ f, fs[j]? = some f := ⟨fs[j], List.getElem?_eq_getElem hj⟩
    obtain ⟨f, hf⟩ := hf
    rw [wV_at ad _ k a b hf]
    by_cases e : j = i
    · subst e
      rw [List.getElem?_set_self (by rw [wV_len]; exact hj)]
      rw [hf] at h
      cases h
      show _ = some (Value.int (xs X.1 k a b (nI j) x k a b (nI j)))
      rw [xs_self]
    · rw [List.getElem?_set_ne (fun q => e q.symm), wV_at ad _ k a b hf]
      cases f with
      | some k' => rfl
      | none =>
        show some (Value.int (X.1 k a b (nI j))) = some (Value.int (xs X.1 k a b (nI i) x k a b (nI j)))
        rw [xs_nj X.1 k a b x (fun q => e (nI_inj (by omega) (by omega) q))]
  · rw [List.getElem?_eq_none (by rw [List.length_set, wV_len]; omega), List.getElem?_eq_none (by rw [wV_len]; omega)]
theorem upd_row (X : XF) (k n : Nat) (a b x : Int32) {i : Int32} (hi : vp_in i n) (hn : n < 1000) : upd (fun j => if j < n then X k a b (nI j) else 0) i.toNatClampNeg x = (fun j => if j < n then xs X k a b i x k a b (nI j) else 0) := by
  obtain ⟨h1, h2, h3⟩ := vp_nat hi
  funext j
  unfold upd
  by_cases hj : j = i.toNatClampNeg
  · subst hj
    rw [if_pos rfl, if_pos h2, h1, xs_self]
  · rw [if_neg hj]
    by_cases hl : j < n
    · show (if j < n then X k a b (nI j) else 0) = (if j < n then xs X k a b i x k a b (nI j) else 0)
      rw [if_pos hl, if_pos hl, xs_nj]
      intro q
      rw [← h1] at q
      exact hj (nI_inj (by omega) h3 q)
    · show (if j < n then X k a b (nI j) else 0) = (if j < n then xs X k a b i x k a b (nI j) else 0)
      rw [if_neg hl, if_neg hl]
/-! locals -/
def LR (ad : ADR) (ls : Array Slot) (L : List AV) : Prop := ls.size = L.length ∧ lv_wf ls ∧ ∀ (i : Nat) (v : AV), L[i]? = some v → avc v = 1 → ls[i]? = some (.val (cv ad v))
def lvL (ad : ADR) (L : List AV) : List (Nat × Value) := (List.range L.length).filterMap fun i => match L[i]? with
  | some v => if avc v = 1 then some (i, cv ad v) else none
  | none => none
theorem lvL_mem {ad : ADR} {L : List AV} {i : Nat} {w : Value} : (i, w) ∈ lvL ad L ↔ ∃ v, L[i]? = some v ∧ avc v = 1 ∧ w = cv ad v := by
  unfold lvL
  rw [List.mem_filterMap]
  constructor
  · rintro ⟨j, -, hj⟩
    cases hv : L[j]? with
    | none => rw [hv] at hj; cases hj
    | some v =>
      rw [hv] at hj
      by_cases h1 : avc v = 1
      · simp only [h1, if_true, Option.some.injEq, Prod.mk.injEq] at hj
        obtain ⟨rfl, rfl⟩ := hj
        exact ⟨v, hv, h1, rfl⟩
      · simp [h1] at hj
  · rintro ⟨v, h1, h2, rfl⟩
    exact ⟨i, List.mem_range.mpr (List.getElem?_eq_some_iff.mp h1).1, by rw [h1]; simp [h2]⟩
theorem LR.has {ad : ADR} {ls : Array Slot} {L : List AV} (h : LR ad ls L) : lv_has ls L.length (lvL ad L) := by
  refine ⟨h.1, h.2.1, fun q hq => ?_⟩
  obtain ⟨v, h1, h2, h3⟩ := lvL_mem.mp (show (q.1, q.2) ∈ lvL ad L from hq)
  rw [h3]
  exact h.2.2 _ v h1 h2
def lvS (l : List (Nat × Value)) (i : Nat) (w : Value) : List (Nat × Value) := (i, w) :: l.filter (fun q => !(q.1 == i) && !(q.1 + 1 == i && q.2.category == 2))
theorem LR.set {ad : ADR} {ls' : Array Slot} {L : List AV} {i : Nat} {v : AV} (hi : i < L.length) (h' : lv_has ls' L.length (lvS (lvL ad L) i (cv ad v))) : LR ad ls' (L.set i v) := by
  refine ⟨by rw [List.length_set]; exact h'.1, h'.2.1, fun j u hj hu => ?_⟩
  by_cases e : j = i
  · subst e
    rw [List.getElem?_set_self hi] at hj
    cases hj
    exact h'.2.2 (j, cv ad v) List.mem_cons_self
  · rw [List.getElem?_set_ne (fun q => e q.symm)] at hj
    refine h'.2.2 (j, cv ad u) (List.mem_cons_of_mem _ (List.mem_filter.mpr ⟨lvL_mem.mpr ⟨u, hj, hu, rfl⟩, ?_⟩))
    have hc : (cv ad u).category = 1 := by rw [cv_cat]; exact hu
    simp [e, hc]
theorem set_vok {L : List AV} {i : Nat} {v : AV} (h : ∀ w ∈ L, vok w) (hv : vok v) : ∀ w ∈ L.set i v, vok w := by
  intro w hw
  rcases List.mem_or_eq_of_mem_set hw with h1 | h1
  · exact h w h1
  · rw [h1]; exact hv
theorem rs0_bad {L' S' : List AV} {X' : XT} {P : Prop} (h : rs0 = (L', S', X', P)) (hP : P) : False := by
  unfold rs0 at h
  cases h
  exact hP
theorem vcl_ok {ci : Nat} (h : ci < 9) : vwCl[ci]? = some (vC ci) ∧ (∀ w ∈ u_ws (vC ci).1 (vC ci).2.1 (vC ci).2.2, w ∈ lwG) ∧ (∃ ty0 : Nat → FieldType, ∀ k, k < (vC ci).2.2 → parseFieldDescriptor ((vC ci).2.1 k).2.2.1 = some (ty0 k)) ∧ (∀ a, a < (vC ci).2.2 → ∀ b, b < (vC ci).2.2 → a ≠ b → ((vC ci).2.1 a).2.1 ≠ ((vC ci).2.1 b).2.1) := by
  match ci, h with
  | 0, _ => exact ⟨rfl, fun w h => lwG_in (inX0 w h) (u_good w h), ⟨tyX0, tyX0_ok⟩, nmX0⟩
  | 1, _ => exact ⟨rfl, fun w h => lwG_in (inX1 w h) (u_good w h), ⟨tyX1, tyX1_ok⟩, nmX1⟩
  | 2, _ => exact ⟨rfl, fun w h => lwG_in (inX2 w h) (u_good w h), ⟨tyX2, tyX2_ok⟩, nmX2⟩
  | 3, _ => exact ⟨rfl, fun w h => lwG_in (inX3 w h) (u_good w h), ⟨tyX3, tyX3_ok⟩, nmX3⟩
  | 4, _ => exact ⟨rfl, fun w h => lwG_in (inX4 w h) (u_good w h), ⟨tyX4, tyX4_ok⟩, nmX4⟩
  | 5, _ => exact ⟨rfl, fun w h => lwG_in (inX5 w h) (u_good w h), ⟨tyX5, tyX5_ok⟩, nmX5⟩
  | 6, _ => exact ⟨rfl, fun w h => lwG_in (inX6 w h) (u_good w h), ⟨tyX6, tyX6_ok⟩, nmX6⟩
  | 7, _ => exact ⟨rfl, fun w h => lwG_in (inX7 w h) (u_good w h), ⟨tyX7, tyX7_ok⟩, nmX7⟩
  | 8, _ => exact ⟨rfl, fun w h => lwG_in (inX8 w h) (u_good w h), ⟨tyX8, tyX8_ok⟩, nmX8⟩
end
section
theorem ids_lt {k : Nat} {a b : Int32} (h : (k, a, b) ∈ ids) : k < 44 := by
  have h0 : (ids.all fun q => decide (q.1 < 44)) = true := by decide +kernel
  simpa using List.all_eq_true.mp h0 _ h
theorem sR_k : ∀ q ∈ SRl, 50 ≤ q.2.2 ∧ q.2.2 < 53 := by decide +kernel
theorem sR_50 : ∀ q ∈ SRl, (q.1 = 3 ∧ q.2.1 = 72) → q.2.2 = 50 := by decide +kernel
theorem minW : Jvm.Cond.methodLink RX6 73 Lib.Math.min.name ∈ lwG ∧ Jvm.Cond.static Lib.Math.min.name ∈ lwG ∧ Jvm.Cond.initialized "java/lang/Math" ∈ lwG ∧ Jvm.Cond.code Lib.Math.min.name Lib.Math.min.code 2 (some .int) ∈ lwG := by
  refine ⟨lwG_in ?_ rfl, lwG_in ?_ rfl, lwG_in ?_ rfl, lwG_in ?_ rfl⟩
  · exact List.mem_of_getElem? (i := 636) (by decide +kernel)
  · exact List.mem_of_getElem? (i := 637) (by decide +kernel)
  · exact List.mem_of_getElem? (i := 63) (by decide +kernel)
  · exact List.mem_of_getElem? (i := 638) (by decide +kernel)
theorem wE_neL {tc : Nat → ClassId} {ad : ADR} {X : XT} {x : Int64} {k n : Nat} {a b : Int32} (r : Nat × Int32 × Int32) (hm : r ∈ ids) (hm2 : (k, a, b) ∈ ids) (hr : r ≠ (k, a, b)) (hk : kSh k = some (.inr (.inr (.inl n)))) : wE tc ad (X.1, x) r = wE tc ad X r := by
  have h0 : (ids.all fun q => match kSh q.1 with | some (.inr (.inr (.inl _))) => decide (q = (43, 0, 0)) | _ => true) = true := by decide +kernel
  have h1 := List.all_eq_true.mp h0 _ hm2
  simp only [hk, decide_eq_true_eq] at h1
  unfold wE wV fV
  split
  · rfl
  · rfl
  · next n' hk' =>
    have h2 := List.all_eq_true.mp h0 _ hm
    simp only [hk', decide_eq_true_eq] at h2
    exact absurd (h2.trans h1.symm) hr
  · rfl
  · rfl
/-! one straight instruction -/
section Ops
variable {p : Program} {l : Launch} {e : Env} {R : Room} {s : State} {m : MethodId} {args : Array Value} {below : List Frame} {meth : Method} {c : Code} {cells slots : Nat} {Q : State → Prop} {y : Nat} {sc : SC} {tc : Nat → ClassId} {ad : ADR} {dC : Nat → ClassId} {dI : Nat → Nat → Nat} {A : Nat → Prop}
/-- what holds in a method's frame all along -/
def Cx (p : Program) (s : State) (m : MethodId) (args : Array Value) (meth : Method) (c : Code) (y : Nat) (sc : SC) (tc : Nat → ClassId) (ad : ADR) (dC : Nat → ClassId) (dI : Nat → Nat → Nat) (A : Nat → Prop) : Prop :=
  p.tables.exec = Jvm.exec ∧ c.code = mBy y ∧ c.maxLocals = mLo y ∧ meth.sig.returnType = mRt y ∧ meth.locks = false ∧ s.vm.findClass (ownS (mOw y)) = some m.cls ∧ (∀ w ∈ lwG, w.before args s = true) ∧ va_K (dC, dI) vwCl (tyW tc) s ∧ (∀ q, s.heap.size ≤ q → A q) ∧ Gl sc ad A s s.heap
def Wd (s : State) (tc : Nat → ClassId) (ad : ADR) (dC : Nat → ClassId) (dI : Nat → Nat → Nat) (A : Nat → Prop) (X : XT) (H : Heap) (locs : List Loc) : Prop := va_P (dC, dI) vwCl (wW tc ad X) H ∧ va_D A (wW tc ad X) ∧ va_S A s.heap H locs
def Lc (ad : ADR) (y : Nat) (ls : Array Slot) (L : List AV) : Prop := LR ad ls L ∧ L.length = mLo y ∧ ∀ v ∈ L, vok v
/-- from an abstract state on -/
def Ws (p : Program) (l : Launch) (e : Env) (R : Room) (s : State) (m : MethodId) (args : Array Value) (below : List Frame) (meth : Method) (c : Code) (cells slots : Nat) (Q : State → Prop) (y : Nat) (tc : Nat → ClassId) (ad : ADR) (dC : Nat → ClassId) (dI : Nat → Nat → Nat) (A : Nat → Prop) (pc : Nat) (L S : List AV) (X : XT) : Prop :=
  ∀ (ls : Array Slot) (H : Heap) (locs : List Loc), Wd s tc ad dC dI A X H locs → Lc ad y ls L → (∀ v ∈ S, vok v) → W p l e R s m args below meth c H locs cells slots Q (F0 m pc ls (S.map (cv ad)))
theorem vok_t {S : List AV} {v : AV} (h : ∀ w ∈ v :: S, vok w) : ∀ w ∈ S, vok w := fun w hw => h w (List.mem_cons_of_mem _ hw)
theorem vok_c {S : List AV} {v : AV} (hv : vok v) (h : ∀ w ∈ S, vok w) : ∀ w ∈ v :: S, vok w := fun w hw => (List.mem_cons.mp hw).elim (fun q => by rw [q]; exact hv) (h w)
theorem Lc.at {ls : Array Slot} {L : List AV} {i : Nat} {v : AV} (h : Lc ad y ls L) (hv : L[i]? = some v) (h1 : avc v = 1) : ls[i]? = some (.val (cv ad v)) := h.1.2.2 i v hv h1
theorem Lc.put {ls ls' : Array Slot} {L : List AV} {i : Nat} {v : AV} (h : Lc ad y ls L) (hi : i < L.length) (hv : vok v) (h' : lv_has ls' L.length (lvS (lvL ad L) i (cv ad v))) : Lc ad y ls' (L.set i v) := ⟨LR.set hi h', by rw [List.length_set]; exact h.2.1, set_vok h.2.2 hv⟩
set_option maxHeartbeats 4000000 in
theorem simOp (C0 : Cx p s m args meth c y sc tc ad dC dI A) (hR : cells ≤ R.cells ∧ slots ≤ R.slots ∧ 1 ≤ R.frames ∧ 60 ≤ R.locals) {pc : Nat} {op : OP} (ok : okO (mOw y) (mBy y) pc op = true) {L S L' S' : List AV} {X X' : XT} {P : Prop} (hx : sx sc op L S X = (L', S', X', P)) (hP : P)
    (kk : Ws p l e R s m args below meth c cells slots Q y tc ad dC dI A (pc + op.2.1) L' S' X') : Ws p l e R s m args below meth c cells slots Q y tc ad dC dI A pc L S X := by
  obtain ⟨x0, hb, hml, hr, hlk, hown, hts, hK, hA, hG⟩ := C0
  obtain ⟨ins, ln, i, ci, v⟩ := op
  intro ls H locs hW hL hS
  simp only [okO, Bool.and_eq_true, decide_eq_true_eq] at ok
  obtain ⟨hd, ok⟩ := ok
  cases ins
  case iconst n =>
    simp only [Bool.and_eq_true, decide_eq_true_eq] at ok
    obtain ⟨rfl, hv⟩ := ok
    cases hx
    exact lv_iconst x0 hb hd hv (kk ls H locs hW hL (vok_c trivial hS))
  case bipush n =>
    simp only [Bool.and_eq_true, decide_eq_true_eq] at ok
    obtain ⟨rfl, hv⟩ := ok
    cases hx
    exact lv_bipush x0 hb hd hv (kk ls H locs hW hL (vok_c trivial hS))
  case sipush n =>
    simp only [Bool.and_eq_true, decide_eq_true_eq] at ok
    obtain ⟨rfl, hv⟩ := ok
    cases hx
    exact lv_sipush x0 hb hd hv (kk ls H locs hW hL (vok_c trivial hS))
  case lconst n =>
    simp only [Bool.and_eq_true, decide_eq_true_eq] at ok
    obtain ⟨rfl, hv⟩ := ok
    cases hx
    exact lv_lconst x0 hb hd hv (kk ls H locs hW hL (vok_c trivial hS))
  case iload_n k =>
    simp only [Bool.and_eq_true, decide_eq_true_eq] at ok
    obtain ⟨rfl, hi⟩ := ok
    have hx : ldI L i S X = (L', S', X', P) := hx
    unfold ldI at hx
    split at hx
    · next x hv =>
      cases hx
      skip
      exact lv_iload_n x0 hb hd hi (hL.at hv rfl) (kk ls H locs hW hL (vok_c trivial hS))
    · exact (rs0_bad hx hP).elim
  case iload k =>
    simp only [Bool.and_eq_true, decide_eq_true_eq] at ok
    obtain ⟨rfl, hi⟩ := ok
    have hx : ldI L i S X = (L', S', X', P) := hx
    unfold ldI at hx
    split at hx
    · next x hv =>
      cases hx
      subst hi
      exact lv_iload x0 hb hd (hL.at hv rfl) (kk ls H locs hW hL (vok_c trivial hS))
    · exact (rs0_bad hx hP).elim
  case aload_n k =>
    simp only [Bool.and_eq_true, decide_eq_true_eq] at ok
    obtain ⟨rfl, hi⟩ := ok
    have hx : ldA L i S X = (L', S', X', P) := hx
    unfold ldA at hx
    split at hx
    · next x hv =>
      cases hx
      skip
      exact lv_aload_n x0 hb hd hi (hL.at hv rfl) (kk ls H locs hW hL (vok_c (hL.2.2 _ (List.mem_of_getElem? hv)) hS))
    · exact (rs0_bad hx hP).elim
  case aload k =>
    simp only [Bool.and_eq_true, decide_eq_true_eq] at ok
    obtain ⟨rfl, hi⟩ := ok
    have hx : ldA L i S X = (L', S', X', P) := hx
    unfold ldA at hx
    split at hx
    · next x hv =>
      cases hx
      subst hi
      exact lv_aload x0 hb hd (hL.at hv rfl) (kk ls H locs hW hL (vok_c (hL.2.2 _ (List.mem_of_getElem? hv)) hS))
    · exact (rs0_bad hx hP).elim
  case istore_n k =>
    simp only [Bool.and_eq_true, decide_eq_true_eq] at ok
    obtain ⟨rfl, hi⟩ := ok
    dsimp only [sx] at hx
    split at hx
    · next x S1 =>
      unfold stI at hx
      cases hx
      skip
      exact lv_istore_n (nL := L.length) (lv := lvL ad L) (lv' := lvS (lvL ad L) i (cv ad (.inl x))) x0 hb hd hi hL.1.has hP rfl (fun ls' h' => kk ls' H locs hW (hL.put hP trivial h') (vok_t hS))
    · exact (rs0_bad hx hP).elim
  case istore k =>
    simp only [Bool.and_eq_true, decide_eq_true_eq] at ok
    obtain ⟨rfl, hi⟩ := ok
    dsimp only [sx] at hx
    split at hx
    · next x S1 =>
      unfold stI at hx
      cases hx
      subst hi
      exact lv_istore (nL := L.length) (lv := lvL ad L) (lv' := lvS (lvL ad L) k (cv ad (.inl x))) x0 hb hd hL.1.has hP rfl (fun ls' h' => kk ls' H locs hW (hL.put hP trivial h') (vok_t hS))
    · exact (rs0_bad hx hP).elim
  case astore_n k =>
    simp only [Bool.and_eq_true, decide_eq_true_eq] at ok
    obtain ⟨rfl, hi⟩ := ok
    dsimp only [sx] at hx
    split at hx
    · next x S1 =>
      unfold stA at hx
      cases hx
      skip
      exact lv_astore_n (nL := L.length) (lv := lvL ad L) (lv' := lvS (lvL ad L) i (cv ad (.inr (.inr x)))) x0 hb hd hi hL.1.has hP rfl (fun ls' h' => kk ls' H locs hW (hL.put hP (hS _ List.mem_cons_self) h') (vok_t hS))
    · exact (rs0_bad hx hP).elim
  case astore k =>
    simp only [Bool.and_eq_true, decide_eq_true_eq] at ok
    obtain ⟨rfl, hi⟩ := ok
    dsimp only [sx] at hx
    split at hx
    · next x S1 =>
      unfold stA at hx
      cases hx
      subst hi
      exact lv_astore (nL := L.length) (lv := lvL ad L) (lv' := lvS (lvL ad L) k (cv ad (.inr (.inr x)))) x0 hb hd hL.1.has hP rfl (fun ls' h' => kk ls' H locs hW (hL.put hP (hS _ List.mem_cons_self) h') (vok_t hS))
    · exact (rs0_bad hx hP).elim
  case iinc k n =>
    simp only [Bool.and_eq_true, decide_eq_true_eq] at ok
    obtain ⟨⟨rfl, rfl⟩, hv⟩ := ok
    have hx : inc L k v S X = (L', S', X', P) := hx
    unfold inc at hx
    split at hx
    · next x hx1 =>
      cases hx
      have hi : k < L.length := (List.getElem?_eq_some_iff.mp hx1).1
      obtain ⟨j, hj⟩ := List.getElem?_of_mem (lvL_mem.mpr ⟨_, hx1, rfl, rfl⟩ : (k, Value.int x) ∈ lvL ad L)
      exact lv_iinc (nL := L.length) (lv := lvL ad L) (lv' := lvS (lvL ad L) k (cv ad (.inl (x + v)))) x0 hb hd hL.1.has hj (by rw [hv]) hi rfl (fun ls' h' => kk ls' H locs hW (hL.put hi trivial h') hS)
    · exact (rs0_bad hx hP).elim
  case getfield ix =>
    simp only [Bool.and_eq_true, decide_eq_true_eq] at ok
    obtain ⟨⟨rfl, hf⟩, hv⟩ := ok
    dsimp only [sx] at hx
    split at hx
    · next k a b S1 =>
      unfold gtF at hx
      split at hx
      · next cj fs hk =>
        have hc := kObj hk
        obtain ⟨hc1, hc2, -, -⟩ := vcl_ok hc.1
        have hm : (k, a, b) ∈ ids := vok_in (hS _ List.mem_cons_self) hk
        obtain ⟨q0, hq0⟩ := List.getElem?_of_mem hm
        have hat := wW_at tc ad X hq0
        rw [wE_obj hk] at hat
        split at hx
        · next k' hf1 =>
          cases hx
          subst hP
          have hlt := (fR_lt _ hf).2
          exact va_get (D := (dC, dI)) (ref := ((vC cj).2.1 i).1) x0 hb hts hc2 hown hK hW.1 q0 hat hc1 i hlt (hts _ (lwG_in (fW_ok _ hf) rfl)) (fun _ h9 => h9) (show (wV ad X k a b fs)[i]? = some (.ref (ad k' a b)) from wV_at ad X k a b hf1) hd (kk ls H locs hW hL (vok_c (Or.inl (ids_fld hm hk hf1)) (vok_t hS)))
        · next hf1 =>
          cases hx
          subst hP
          have hlt := (fR_lt _ hf).2
          have hg : (wV ad X k a b fs)[i]? = some (.int (X.1 k a b (nI i))) := wV_at ad X k a b hf1
          rw [hv] at hg
          exact va_get (D := (dC, dI)) (ref := ((vC cj).2.1 i).1) x0 hb hts hc2 hown hK hW.1 q0 hat hc1 i hlt (hts _ (lwG_in (fW_ok _ hf) rfl)) (fun _ h9 => h9) hg hd (kk ls H locs hW hL (vok_c trivial (vok_t hS)))
        · exact (rs0_bad hx hP).elim
      · exact (rs0_bad hx hP).elim
    · exact (rs0_bad hx hP).elim
  case putfield ix =>
    simp only [Bool.and_eq_true, decide_eq_true_eq] at ok
    obtain ⟨⟨⟨⟨rfl, hf⟩, hv⟩, hI⟩, hfin⟩ := ok
    dsimp only [sx] at hx
    split at hx
    · next x k a b S1 =>
      unfold ptF at hx
      split at hx
      · next cj fs hk =>
        have hc := kObj hk
        obtain ⟨hc1, hc2, ⟨ty0, hty⟩, hnm⟩ := vcl_ok hc.1
        have hm : (k, a, b) ∈ ids := vok_in (hS _ (List.mem_cons_of_mem _ List.mem_cons_self)) hk
        obtain ⟨q0, hq0⟩ := List.getElem?_of_mem hm
        have hat := wW_at tc ad X hq0
        rw [wE_obj hk] at hat
        split at hx
        · next hf1 =>
          cases hx
          subst hP
          have hlt := (fR_lt _ hf).2
          have hset := wW_set (tc := tc) (ad := ad) (X := X) (Y := (xs X.1 k a b v x, X.2)) hW.2.1 hq0 (fun r _ hr => wE_ne (xs_ne X.1 v x hr) rfl)
          rw [wE_obj hk] at hset
          have hvs := wV_set ad X k a b x hf1 hc.2.2
          rw [hv] at hvs
          rw [← hvs] at hset
          refine va_put (D := (dC, dI)) (ref := ((vC cj).2.1 i).1) (ty := .int) (v := .int x) x0 hb hts hc2 ty0 hty hnm hown hK hW.1 hW.2.1 hW.2.2 q0 hat hc1 i hlt (hts _ (lwG_in (fW_ok _ hf) rfl)) (fun _ h9 => h9) hfin (by rw [hI]; decide +kernel) rfl rfl (by rw [wV_len]; exact (List.getElem?_eq_some_iff.mp hf1).1) hd (fun H1 locs1 hP1 hD1 hS1 => ?_)
          rw [hset] at hP1 hD1
          exact kk ls H1 locs1 ⟨hP1, hD1, hS1⟩ hL (vok_t (vok_t hS))
        · exact (rs0_bad hx hP).elim
      · exact (rs0_bad hx hP).elim
    · exact (rs0_bad hx hP).elim
  case getstatic ix =>
    simp only [Bool.and_eq_true, decide_eq_true_eq] at ok
    obtain ⟨rfl, hf⟩ := ok
    cases hx
    have hk := sR_k _ hf
    have hz := hG.2.2.2.1 i hk.1 hk.2
    by_cases h3 : mOw y = 3 ∧ ix = 72
    · have h9 : i = 50 := sR_50 _ hf h3
      subst h9
      obtain ⟨h3a, h3b⟩ := h3
      subst h3b
      rw [h3a] at hown
      exact va_getsN (own := RX3) x0 hb hz hW.2.2 hown (va_Nw.use rfl hG.2.2.2.2.2.2.1) (fun _ h9 => h9) hd (kk ls H locs hW hL (vok_c (Or.inr ⟨hk.1, rfl, rfl⟩) hS))
    · have hw := hts _ (lwG_in (sW_ok _ hf) (by unfold sW; rw [if_neg h3]; rfl))
      unfold sW at hw
      rw [if_neg h3] at hw
      exact va_gets x0 hb hz hW.2.2 hown hw (fun _ h9 => h9) hd (kk ls H locs hW hL (vok_c (Or.inr ⟨hk.1, rfl, rfl⟩) hS))
  case iaload  =>
    simp only [decide_eq_true_eq] at ok
    subst ok
    dsimp only [sx] at hx
    split at hx
    · next j k a b S1 =>
      have hvk : vok (.inr (.inr (k, a, b))) := hS _ (List.mem_cons_of_mem _ List.mem_cons_self)
      unfold ldX at hx
      split at hx
      · next n hk =>
        cases hx
        obtain ⟨q0, hq0⟩ := List.getElem?_of_mem (vok_in hvk hk)
        have hat := wW_at tc ad X hq0
        rw [wE_int hk] at hat
        have hn := vp_nat hP
        refine va_iald (D := (dC, dI)) (tys := tyW tc) x0 hb hK hW.1 q0 0 hat rfl hP hd ?_
        have e : (if j.toNatClampNeg < n then X.1 k a b (nI j.toNatClampNeg) else 0) = X.1 k a b j := by
          rw [if_pos hn.2.1, hn.1]
        rw [e]
        exact kk ls H locs hW hL (vok_c trivial (vok_t (vok_t hS)))
      · exact (rs0_bad hx hP).elim
      · next hk =>
        cases hx
        obtain ⟨h50, hin⟩ := hP
        have hlt : k < 54 := by
          rcases Nat.lt_or_ge k 54 with q | q
          · exact q
          · have h0 : roN sc k = 0 := by
              unfold roN
              split <;> first | omega | rfl
            rw [h0] at hin
            exact absurd (Or.inr (Nat.zero_le _)) hin
        rcases hvk with hvk | ⟨-, rfl, rfl⟩
        · have := ids_lt hvk
          omega
        · exact va_ti x0 hb (hG.2.2.2.2.1 k h50 hlt) hW.2.2 hin rfl hd (kk ls H locs hW hL (vok_c trivial (vok_t (vok_t hS))))
    · exact (rs0_bad hx hP).elim
  case iastore  =>
    simp only [decide_eq_true_eq] at ok
    subst ok
    dsimp only [sx] at hx
    split at hx
    · next x j k a b S1 =>
      have hvk : vok (.inr (.inr (k, a, b))) := hS _ (List.mem_cons_of_mem _ (List.mem_cons_of_mem _ List.mem_cons_self))
      unfold stX at hx
      split at hx
      · next n hk =>
        cases hx
        obtain ⟨q0, hq0⟩ := List.getElem?_of_mem (vok_in hvk hk)
        have hat := wW_at tc ad X hq0
        rw [wE_int hk] at hat
        have hset := wW_set (tc := tc) (ad := ad) (X := X) (Y := (xs X.1 k a b j x, X.2)) hW.2.1 hq0 (fun r _ hr => wE_ne (xs_ne X.1 j x hr) rfl)
        rw [wE_int hk] at hset
        refine va_iast (D := (dC, dI)) (tys := tyW tc) x0 hb hK hW.1 hW.2.1 hW.2.2 q0 0 hat rfl hP hd (fun H1 locs1 hP1 hD1 hS1 => ?_)
        rw [upd_row X.1 k n a b x hP (kInt hk)] at hP1 hD1
        dsimp only at hset
        rw [hset] at hP1 hD1
        exact kk ls H1 locs1 ⟨hP1, hD1, hS1⟩ hL (vok_t (vok_t (vok_t hS)))
      · exact (rs0_bad hx hP).elim
    · exact (rs0_bad hx hP).elim
  case aaload  =>
    simp only [decide_eq_true_eq] at ok
    subst ok
    dsimp only [sx] at hx
    split at hx
    · next j k a b S1 =>
      have hvk : vok (.inr (.inr (k, a, b))) := hS _ (List.mem_cons_of_mem _ List.mem_cons_self)
      unfold ldR at hx
      split at hx
      · next t n e hk =>
        cases hx
        have hm := vok_in hvk hk
        obtain ⟨q0, hq0⟩ := List.getElem?_of_mem hm
        have hat := wW_at tc ad X hq0
        rw [wE_ref hk] at hat
        have hn := vp_nat hP
        have ht : ∃ ty : FieldType, (tyW tc)[t]? = some (tc t, ty) ∧ ty.isReference = true := by
          rcases (kRef hk).1 with rfl | rfl
          · exact ⟨.array .int, rfl, rfl⟩
          · exact ⟨.object "GroupTables$Group", rfl, rfl⟩
        obtain ⟨ty, ht1, ht2⟩ := ht
        refine W.aald (v := .ref (ad e b j)) (ty := ty) x0 hb (hW.1 q0 _ hat) ((hK.2 t _ ht1).1 n (fun z => va_rf (if z < n then some (ad e b (nI z)) else none))) ht2 (fun q => by cases q) (by show ¬ (j < 0 ∨ (arrV _ _ _).slots.size ≤ _); rw [arrV_size]; exact hP) (by show (arrV _ _ _).slots[_]? = _; rw [arrV_read _ _ hn.2.1]; show some (va_rf (if j.toNatClampNeg < n then some (ad e b (nI j.toNatClampNeg)) else none)) = _; rw [if_pos hn.2.1, hn.1]; rfl) rfl rfl hd ?_
        exact kk ls H locs hW hL (vok_c (Or.inl (by rw [← hn.1]; exact ids_el hm hk hn.2.1)) (vok_t (vok_t hS)))
      · exact (rs0_bad hx hP).elim
    · exact (rs0_bad hx hP).elim
  case laload  =>
    simp only [decide_eq_true_eq] at ok
    subst ok
    dsimp only [sx] at hx
    split at hx
    · next j k a b S1 =>
      have hvk : vok (.inr (.inr (k, a, b))) := hS _ (List.mem_cons_of_mem _ List.mem_cons_self)
      unfold ldL at hx
      split at hx
      · next n hk =>
        cases hx
        obtain ⟨hP, rfl⟩ := hP
        obtain ⟨q0, hq0⟩ := List.getElem?_of_mem (vok_in hvk hk)
        have hat := wW_at tc ad X hq0
        rw [wE_long hk] at hat
        have hn := vp_nat hP
        refine va_lald (D := (dC, dI)) (tys := tyW tc) x0 hb hK hW.1 q0 3 hat rfl hP hd ?_
        have e : (if j.toNatClampNeg = 0 then X.2 else 0) = X.2 := if_pos (by omega)
        rw [e]
        exact kk ls H locs hW hL (vok_c trivial (vok_t (vok_t hS)))
      · exact (rs0_bad hx hP).elim
    · exact (rs0_bad hx hP).elim
  case lastore  =>
    simp only [decide_eq_true_eq] at ok
    subst ok
    dsimp only [sx] at hx
    split at hx
    · next x j k a b S1 =>
      have hvk : vok (.inr (.inr (k, a, b))) := hS _ (List.mem_cons_of_mem _ (List.mem_cons_of_mem _ List.mem_cons_self))
      unfold stL at hx
      split at hx
      · next n hk =>
        cases hx
        obtain ⟨hP, rfl⟩ := hP
        obtain ⟨q0, hq0⟩ := List.getElem?_of_mem (vok_in hvk hk)
        have hat := wW_at tc ad X hq0
        rw [wE_long hk] at hat
        have hn := vp_nat hP
        have hset := wW_set (tc := tc) (ad := ad) (X := X) (Y := (X.1, x)) hW.2.1 hq0 (fun r hm hr => wE_neL r hm (vok_in hvk hk) hr hk)
        rw [wE_long hk] at hset
        refine va_last (D := (dC, dI)) (tys := tyW tc) x0 hb hK hW.1 hW.2.1 hW.2.2 q0 3 hat rfl hP hd (fun H1 locs1 hP1 hD1 hS1 => ?_)
        have e : vp_updL (fun j => if j = 0 then X.2 else 0) j.toNatClampNeg x = (fun j => if j = 0 then x else 0) := by
          funext z
          unfold vp_updL
          have hj : j.toNatClampNeg = 0 := by omega
          rw [hj]
          by_cases hz : z = 0 <;> simp [hz]
        rw [e] at hP1 hD1
        dsimp only at hset
        rw [hset] at hP1 hD1
        exact kk ls H1 locs1 ⟨hP1, hD1, hS1⟩ hL (vok_t (vok_t (vok_t hS)))
      · exact (rs0_bad hx hP).elim
    · exact (rs0_bad hx hP).elim
  case arraylength  =>
    simp only [decide_eq_true_eq] at ok
    subst ok
    dsimp only [sx] at hx
    split at hx
    · next k a b S1 =>
      have hvk : vok (.inr (.inr (k, a, b))) := hS _ List.mem_cons_self
      cases hx
      subst hP
      rcases hvk with hvk | ⟨-, rfl, rfl⟩
      · have := ids_lt hvk
        omega
      · exact va_tlen x0 hb (hG.2.2.2.2.1 53 (by decide) (by decide)) hW.2.2 rfl hd (kk ls H locs hW hL (vok_c trivial (vok_t hS)))
    · exact (rs0_bad hx hP).elim
  case dup  =>
    simp only [decide_eq_true_eq] at ok
    subst ok
    dsimp only [sx] at hx
    split at hx
    · next x S1 =>
      rcases x with x | x | x
      · cases hx
        exact lv_dup x0 hb hd rfl (kk ls H locs hW hL (vok_c trivial hS))
      · exact (rs0_bad hx hP).elim
      · cases hx
        exact lv_dup x0 hb hd rfl (kk ls H locs hW hL (vok_c (hS _ List.mem_cons_self) hS))
    · exact (rs0_bad hx hP).elim
  case dup2  =>
    simp only [decide_eq_true_eq] at ok
    subst ok
    dsimp only [sx] at hx
    split at hx
    · next x w S1 =>
      rcases x with x | x | x
      · rcases w with w | w | w
        · cases hx
          exact lv_dup2_11 x0 hb hd rfl rfl (kk ls H locs hW hL (vok_c trivial (vok_c trivial hS)))
        · exact (rs0_bad hx hP).elim
        · cases hx
          exact lv_dup2_11 x0 hb hd rfl rfl (kk ls H locs hW hL (vok_c trivial (vok_c (hS _ (List.mem_cons_of_mem _ List.mem_cons_self)) hS)))
      · exact (rs0_bad hx hP).elim
      · exact (rs0_bad hx hP).elim
    · exact (rs0_bad hx hP).elim
  case i2l  =>
    simp only [decide_eq_true_eq] at ok
    subst ok
    dsimp only [sx] at hx
    split at hx
    · next x S1 =>
      cases hx
      exact lv_i2l x0 hb hd rfl (kk ls H locs hW hL (vok_c trivial (vok_t hS)))
    · exact (rs0_bad hx hP).elim
  case ineg  =>
    simp only [decide_eq_true_eq] at ok
    subst ok
    dsimp only [sx] at hx
    split at hx
    · next x S1 =>
      cases hx
      exact lv_ineg x0 hb hd (kk ls H locs hW hL (vok_c trivial (vok_t hS)))
    · exact (rs0_bad hx hP).elim
  case iadd  =>
    simp only [decide_eq_true_eq] at ok
    subst ok
    dsimp only [sx] at hx
    split at hx
    · next w x S1 =>
      cases hx
      exact lv_iadd x0 hb hd (kk ls H locs hW hL (vok_c trivial (vok_t (vok_t hS))))
    · exact (rs0_bad hx hP).elim
  case isub  =>
    simp only [decide_eq_true_eq] at ok
    subst ok
    dsimp only [sx] at hx
    split at hx
    · next w x S1 =>
      cases hx
      exact lv_isub x0 hb hd (kk ls H locs hW hL (vok_c trivial (vok_t (vok_t hS))))
    · exact (rs0_bad hx hP).elim
  case imul  =>
    simp only [decide_eq_true_eq] at ok
    subst ok
    dsimp only [sx] at hx
    split at hx
    · next w x S1 =>
      cases hx
      exact lv_imul x0 hb hd (kk ls H locs hW hL (vok_c trivial (vok_t (vok_t hS))))
    · exact (rs0_bad hx hP).elim
  case iand  =>
    simp only [decide_eq_true_eq] at ok
    subst ok
    dsimp only [sx] at hx
    split at hx
    · next w x S1 =>
      cases hx
      exact lv_iand x0 hb hd (kk ls H locs hW hL (vok_c trivial (vok_t (vok_t hS))))
    · exact (rs0_bad hx hP).elim
  case ior  =>
    simp only [decide_eq_true_eq] at ok
    subst ok
    dsimp only [sx] at hx
    split at hx
    · next w x S1 =>
      cases hx
      exact lv_ior x0 hb hd (kk ls H locs hW hL (vok_c trivial (vok_t (vok_t hS))))
    · exact (rs0_bad hx hP).elim
  case ishl  =>
    simp only [decide_eq_true_eq] at ok
    subst ok
    dsimp only [sx] at hx
    split at hx
    · next w x S1 =>
      cases hx
      exact lv_ishl x0 hb hd (kk ls H locs hW hL (vok_c trivial (vok_t (vok_t hS))))
    · exact (rs0_bad hx hP).elim
  case ishr  =>
    simp only [decide_eq_true_eq] at ok
    subst ok
    dsimp only [sx] at hx
    split at hx
    · next w x S1 =>
      cases hx
      exact lv_ishr x0 hb hd (kk ls H locs hW hL (vok_c trivial (vok_t (vok_t hS))))
    · exact (rs0_bad hx hP).elim
  case idiv  =>
    simp only [decide_eq_true_eq] at ok
    subst ok
    dsimp only [sx] at hx
    split at hx
    · next w x S1 =>
      cases hx
      exact lv_idiv x0 hb hd hP (kk ls H locs hW hL (vok_c trivial (vok_t (vok_t hS))))
    · exact (rs0_bad hx hP).elim
  case irem  =>
    simp only [decide_eq_true_eq] at ok
    subst ok
    dsimp only [sx] at hx
    split at hx
    · next w x S1 =>
      cases hx
      exact lv_irem x0 hb hd hP (kk ls H locs hW hL (vok_c trivial (vok_t (vok_t hS))))
    · exact (rs0_bad hx hP).elim
  case lcmp  =>
    simp only [decide_eq_true_eq] at ok
    subst ok
    dsimp only [sx] at hx
    split at hx
    · next w x S1 =>
      cases hx
      exact W.lcmp x0 hb hd (kk ls H locs hW hL (vok_c trivial (vok_t (vok_t hS))))
    · exact (rs0_bad hx hP).elim
  case invokestatic ix =>
    simp only [Bool.and_eq_true, decide_eq_true_eq] at ok
    obtain ⟨⟨rfl, hc⟩, hi⟩ := ok
    dsimp only [sx] at hx
    split at hx
    · next w x S1 =>
      cases hx
      obtain ⟨m1, m2, m3, m4⟩ := minW
      rw [hc] at hown
      subst hi
      exact va_mmin (own := RX6) x0 hb (by rw [hml, hL.1.1, hL.2.1]) hown (hts _ m1) (hts _ m2) (hts _ m3) (hts _ m4) hR.2.2.1 (by rw [cv_cats]; have := hR.2.2.2; omega) hR.1 hR.2.1 hd (kk ls H locs hW hL (vok_c trivial (vok_t (vok_t hS))))
    · exact (rs0_bad hx hP).elim
  all_goals exact (rs0_bad hx hP).elim
end Ops
end
section
/-! stretches, calls, returns, throws -/
def rg (ad : ADR) (sz : Nat) : Nat → Prop := fun q => (∃ r ∈ ids, ad r.1 r.2.1 r.2.2 = q) ∨ sz ≤ q
def wsY (y : Nat) : List Jvm.Cond := mCw y :: lwG
def rmY (d k : Nat) : Room := { frames := d + 8, cells := k, slots := 6 * k, locals := 60 * d + 200 }
def cP (sc : SC) (tc : Nat → ClassId) (ad : ADR) (dC : Nat → ClassId) (dI : Nat → Nat → Nat) (X : XT) (sz : Nat) (U : State) : Prop := U.heap.size = sz ∧ va_P (dC, dI) vwCl (wW tc ad X) U.heap ∧ va_K (dC, dI) vwCl (tyW tc) U ∧ va_D (fun _ => True) (wW tc ad X) ∧ Gl sc ad (rg ad sz) U U.heap
def cB (tc : Nat → ClassId) (ad : ADR) (dC : Nat → ClassId) (dI : Nat → Nat → Nat) (Z : XT) (A : Nat → Prop) (st t : State) : Prop := va_P (dC, dI) vwCl (wW tc ad Z) t.heap ∧ va_F A st t
def cQ (tc : Nat → ClassId) (ad : ADR) (dC : Nat → ClassId) (dI : Nat → Nat → Nat) (o : OUT) (Z : XT) (A : Nat → Prop) : Array Value → State → Outcome → State → Prop := fun _ st oc t => (∃ v : Option AV, o = .inl v ∧ (∀ w, v = some w → vok w) ∧ oc = .returned (v.map (cv ad))) ∧ cB tc ad dC dI Z A st t
def cX (tc : Nat → ClassId) (ad : ADR) (dC : Nat → ClassId) (dI : Nat → Nat → Nat) (o : OUT) (Z : XT) (A : Nat → Prop) : String → State → State → Prop := fun E st t => (∃ x : Nat, o = .inr x ∧ x < 3 ∧ E = exN x) ∧ cB tc ad dC dI Z A st t
/-- the contract of a run of the method y -/
def Ct (l : Launch) (sc : SC) (tc : Nat → ClassId) (ad : ADR) (dC : Nat → ClassId) (dI : Nat → Nat → Nat) (d y : Nat) (as : List AV) (X : XT) (o : OUT) (Z : XT) (k : Nat) : Prop :=
  ∀ sz : Nat, vx_Met l (mNm y) (wsY y) (rmY d k) (va_Pc (as.map (cv ad)) (cP sc tc ad dC dI X sz)) (cQ tc ad dC dI o Z (rg ad sz)) (cX tc ad dC dI o Z (rg ad sz)) k (6 * k) (rg ad sz)
theorem mCw_good (y : Nat) : goodWord (mCw y) = true := by
  unfold mCw
  split <;> rfl
theorem good_lwG {ws : List Jvm.Cond} (h : ∀ w ∈ ws, w ∈ lwG) : GoodIn lwG ws := fun w hw => ⟨h w hw, good_of_word (List.mem_filter.mp (h w hw)).2⟩
theorem wsY_in {y : Nat} (hy : y < 167) : ∀ w ∈ wsY y, w ∈ lwG := fun w hw => (List.mem_cons.mp hw).elim (fun q => by rw [q]; exact lwG_in (mCw_ok y hy) (mCw_good y)) id
def mDs (z : Nat) : Bool := decide ((parseMethodDescriptor (mNm z).desc).map (fun d => d.parameters.length) = some (if (mRc z).isSome = true then mNa z - 1 else mNa z)) && decide ((mNm z).cls ≠ "java/lang/invoke/MethodHandle") && decide ((mNm z).cls ≠ "java/lang/invoke/VarHandle") && plainName (mNm z).cls && decide (mLo z ≤ 20) && decide (mNa z ≤ mLo z) && (match mRc z with | some ci => decide (ci < 9) && decide ((vC ci).1 = (mNm z).cls) && decide (1 ≤ mNa z) | none => true) && decide (ownS (mOw z) = (mNm z).cls) && decide (sPc z 0 = some 0)
theorem mDs_ok : ∀ z, z < 167 → mDs z = true := by decide +kernel
theorem cP_blind {sc : SC} {tc : Nat → ClassId} {ad : ADR} {dC : Nat → ClassId} {dI : Nat → Nat → Nat} {X : XT} {sz : Nat} {as : List Value} : FrameBlind (va_Pc as (cP sc tc ad dC dI X sz)) := by
  intro a U g mk h
  obtain ⟨h1, h2, h3, h4, h5, h6⟩ := h
  exact ⟨h1, h2, h3, va_K.moved (u := U) (U := U.calling g mk a) (Vm.Alike.refl U.vm) h4, h5, Gl.same (u := U) rfl h6⟩
section Sims
variable {p : Program} {l : Launch} {e : Env} {R : Room} {s : State} {m : MethodId} {args : Array Value} {below : List Frame} {meth : Method} {c : Code} {cells slots : Nat} {Q : State → Prop} {y : Nat} {sc : SC} {tc : Nat → ClassId} {ad : ADR} {dC : Nat → ClassId} {dI : Nat → Nat → Nat} {A : Nat → Prop}
theorem simOps (C0 : Cx p s m args meth c y sc tc ad dC dI A) (hR : cells ≤ R.cells ∧ slots ≤ R.slots ∧ 1 ≤ R.frames ∧ 60 ≤ R.locals) : ∀ (ops : List OP) {pc : Nat} {L S L' S' : List AV} {X X' : XT} {P : Prop}, okOs (mOw y) (mBy y) pc ops = true → sxs sc ops L S X = (L', S', X', P) → P →
    Ws p l e R s m args below meth c cells slots Q y tc ad dC dI A (pcE pc ops) L' S' X' → Ws p l e R s m args below meth c cells slots Q y tc ad dC dI A pc L S X := by
  intro ops
  induction ops with
  | nil =>
    intro pc L S L' S' X X' P ok hx hP kk
    cases hx
    exact kk
  | cons op ops ih =>
    intro pc L S L' S' X X' P ok hx hP kk
    simp only [okOs, Bool.and_eq_true] at ok
    rcases h1 : sx sc op L S X with ⟨L1, S1, X1, P1⟩
    rcases h2 : sxs sc ops L1 S1 X1 with ⟨L2, S2, X2, P2⟩
    simp only [sxs, h1, h2] at hx
    cases hx
    exact simOp C0 hR ok.1 h1 hP.1 (ih ok.2 h2 hP.2 kk)
theorem rg_A {X : XT} {H : Heap} {locs : List Loc} (hA : ∀ q, s.heap.size ≤ q → A q) (hW : Wd s tc ad dC dI A X H locs) : ∀ q, rg ad H.size q → A q := by
  intro q hq
  rcases hq with ⟨r, hr, rfl⟩ | hq
  · obtain ⟨i, hi⟩ := List.getElem?_of_mem hr
    exact hW.2.1.2 i _ (wW_at tc ad X hi)
  · exact hA q (Nat.le_trans hW.2.2.1 hq)
theorem cP_at {X : XT} {H : Heap} {locs : List Loc} (C0 : Cx p s m args meth c y sc tc ad dC dI A) (hW : Wd s tc ad dC dI A X H locs) {U : State} (hU : U.heap = H) (hWm : s.WarmedH U.vm) : cP sc tc ad dC dI X H.size U := by
  obtain ⟨x0, hb, hml, hr, hlk, hown, hts, hK, hA, hG⟩ := C0
  refine ⟨by rw [hU], by rw [hU]; exact hW.1, va_K.moved hWm.alike hK, hW.2.1.weaken (fun _ _ _ _ => trivial), ?_⟩
  rw [hU]
  exact ((hG.kept hW.2.2.2.1).warm hWm).narrow (rg_A hA hW)
/-- behind a call: its return -/
theorem simBack {pc : Nat} {k1 : Nat} {L rest : List AV} {X X1 : XT} {o1 : OUT} {ls : Array Slot} {H : Heap} {locs : List Loc} {st0 : List Value} {a : Array Value} (C0 : Cx p s m args meth c y sc tc ad dC dI A) (hW : Wd s tc ad dC dI A X H locs) (hL : Lc ad y ls L) (hrest : ∀ v ∈ rest, vok v)
    (run : vx_Run p l e R s m args below meth c H locs cells slots k1 (6 * k1) (F0 m pc ls st0) (rest.map (cv ad)) (cQ tc ad dC dI o1 X1 (rg ad H.size) a) (cX tc ad dC dI o1 X1 (rg ad H.size)) (rg ad H.size))
    (hret : ∀ v : Option AV, o1 = .inl v → Ws p l e R s m args below meth c (cells + k1) (slots + 6 * k1) Q y tc ad dC dI A (pc + 3) L (v.toList ++ rest) X1)
    (hexc : ∀ (x : Nat) (q : Addr) (ce : Cell) (H1 : Heap) (locs1 : List Loc), o1 = .inr x → x < 3 → H1[q]? = some ce → ce.vm = .none → s.vm.findClass (exN x) = some ce.cls → Wd s tc ad dC dI A X1 H1 locs1 → vx_W p l e R s m args below meth c H1 locs1 (cells + k1) (slots + 6 * k1) Q (F0 m pc ls (rest.map (cv ad))) q) :
    W p l e R s m args below meth c H locs cells slots Q (F0 m pc ls st0) := by
  obtain ⟨x0, hb, hml, hr, hlk, hown, hts, hK, hA, hG⟩ := id C0
  have hrA := rg_A hA hW
  intro T hT Xs
  rcases run T hT Xs with ⟨v, st₀, t, T', Lx, h0, X', hLf, e1, e2, hq, st⟩ | ⟨q, st₀, t, T', Lx, E, ce, h0, X', hLf, e1, e2, hx, hce, hcv, hcl, st⟩
  · obtain ⟨⟨w, hw1, hw2, hw3⟩, hP1, hF⟩ := hq
    cases hw3
    obtain ⟨g1, g2, g3⟩ := vx_keep h0 e1 hW.2.2 (fun q _ h => hrA q h) hrA hLf hF
    have hw4 : ∀ u ∈ w.toList ++ rest, vok u := by
      intro u hu
      rcases List.mem_append.mp hu with h | h
      · cases w with
        | none => cases h
        | some w =>
          rw [List.mem_singleton.mp h]
          exact hw2 w rfl
      · exact hrest u h
    obtain ⟨t2, a1, b1⟩ := hret w hw1 ls T'.heap (locs ++ Lx) ⟨by rw [e1]; exact hP1, wD_to hW.2.1, g3⟩ hL hw4 T' rfl X'
    refine ⟨t2, st t2 ?_, b1⟩
    have e9 : (w.map (cv ad)).toList ++ rest.map (cv ad) = (w.toList ++ rest).map (cv ad) := by cases w <;> rfl
    show Steps p.tables e below (T'.setTop (F0 m (pc + 3) ls ((w.map (cv ad)).toList ++ rest.map (cv ad)))) t2
    rw [e9]
    exact a1
  · obtain ⟨⟨x, hx1, hx2, rfl⟩, hP1, hF⟩ := hx
    obtain ⟨g1, g2, g3⟩ := vx_keep h0 e1 hW.2.2 (fun q _ h => hrA q h) hrA hLf hF
    obtain ⟨t2, a1, b1⟩ := hexc x q ce T'.heap (locs ++ Lx) hx1 hx2 (by rw [e1]; exact hce) hcv hcl ⟨by rw [e1]; exact hP1, wD_to hW.2.1, g3⟩ T' rfl X'
    exact ⟨t2, st.trans a1, b1⟩
/-- a call, whichever: the callee's contract -/
theorem simCall {pc d z ix k1 : Nat} {L S : List AV} {X X1 : XT} {o1 : OUT} {ls : Array Slot} {H : Heap} {locs : List Loc} {ins : Instr} (C0 : Cx p s m args meth c y sc tc ad dC dI A) (hW : Wd s tc ad dC dI A X H locs) (hL : Lc ad y ls L) (hS : ∀ v ∈ S, vok v)
    (hfr : d + 9 ≤ R.frames) (hlo : 60 * d + 260 ≤ R.locals) (hc1 : cells + k1 ≤ R.cells) (hs1 : slots + 6 * k1 ≤ R.slots) (hz : z < 167) (hn : mNa z ≤ S.length) (hcat : ((S.drop (mNa z)).map avc).sum ≤ 8) (hrc : rcOk z (S.take (mNa z)).reverse)
    (hins : (ins = .invokevirtual ix ∧ (mRc z).isSome = true ∧ mHh z = none) ∨ (ins = .invokestatic ix ∧ mRc z = none)) (hml : (mOw y, ix, z) ∈ MR) (hdg : decode (mBy y) pc = .ok (ins, 3))
    (hCt : Ct l sc tc ad dC dI d z (S.take (mNa z)).reverse X o1 X1 k1) :
    ∃ a, vx_Run p l e R s m args below meth c H locs cells slots k1 (6 * k1) (F0 m pc ls (S.map (cv ad))) ((S.drop (mNa z)).map (cv ad)) (cQ tc ad dC dI o1 X1 (rg ad H.size) a) (cX tc ad dC dI o1 X1 (rg ad H.size)) (rg ad H.size) := by
  obtain ⟨x0, hb, hmlc, hr, hlk, hown, hts, hK, hA, hG⟩ := id C0
  have hds := mDs_ok z hz
  simp only [mDs, Bool.and_eq_true, decide_eq_true_eq] at hds
  obtain ⟨⟨⟨⟨⟨⟨⟨⟨d1, d2⟩, d3⟩, d4⟩, d5⟩, d6⟩, d7⟩, d8⟩, d9⟩ := hds
  have hlink := hts _ (lwG_in (mW_ok _ hml) (by rfl))
  have hin := wsY_in hz
  have hcw := cW_ok z hz
  have hroom : (rmY d k1).frames + 1 ≤ R.frames ∧ 8 + (mLo z + 11) + (rmY d k1).locals ≤ R.locals := ⟨by show d + 8 + 1 ≤ _; omega, by show 8 + (mLo z + 11) + (60 * d + 200) ≤ _; omega⟩
  have hsum : 2 * (F0 m pc ls (S.map (cv ad))).monitorRoom + (((S.drop (mNa z)).map (cv ad)).map fun v => v.category).sum ≤ 8 := lv_room (by rw [cv_cats]; exact hcat)
  have hsz : (F0 m pc ls (S.map (cv ad))).locals.size = mLo y := by
    show ls.size = _
    rw [hL.1.1, hL.2.1]
  have hmlk : Jvm.Cond.methodLink (ownS (mOw y)) ix (mNm z) ∈ lwG := lwG_in (mW_ok _ hml) (by rfl)
  rcases hins with ⟨rfl, hsome, hh0⟩ | ⟨rfl, hnone⟩
  · obtain ⟨ci, hci⟩ := Option.isSome_iff_exists.mp hsome
    rw [hci] at d7
    simp only [Bool.and_eq_true, decide_eq_true_eq] at d7
    obtain ⟨⟨e1, e2⟩, e3⟩ := d7
    unfold rcOk at hrc
    rw [hci] at hrc
    cases hA1 : (S.take (mNa z)).reverse with
    | nil => rw [hA1] at hrc; exact hrc.elim
    | cons v0 As =>
      rw [hA1] at hrc hCt
      rcases v0 with v0 | v0 | ⟨k, a, b⟩
      · exact hrc.elim
      · exact hrc.elim
      · dsimp only at hrc
        cases hk : kSh k with
        | none => rw [hk] at hrc; exact hrc.elim
        | some sh =>
          rw [hk] at hrc
          rcases sh with ⟨cj, fs⟩ | sh
          · dsimp only at hrc
            subst hrc
            have hm0 : Sum.inr (Sum.inr (k, a, b)) ∈ S := by
              have : Sum.inr (Sum.inr (k, a, b)) ∈ (S.take (mNa z)).reverse := by rw [hA1]; exact List.mem_cons_self
              exact List.mem_of_mem_take (List.mem_reverse.mp this)
            have hm : (k, a, b) ∈ ids := vok_in (hS _ hm0) hk
            obtain ⟨q0, hq0⟩ := List.getElem?_of_mem hm
            have hat := wW_at tc ad X hq0
            rw [wE_obj hk] at hat
            have hcl := (vcl_ok e1).1
            have hlenA : As.length = mNa z - 1 := by
              have h9 := congrArg List.length hA1
              rw [List.length_reverse, List.length_take, List.length_cons, Nat.min_eq_left hn] at h9
              omega
            have hstk : S.map (cv ad) = (As.map (cv ad)).reverse ++ .ref (ad k a b) :: (S.drop (mNa z)).map (cv ad) := by
              have h9 : S = As.reverse ++ Sum.inr (Sum.inr (k, a, b)) :: S.drop (mNa z) := by
                have h8 : S.take (mNa z) = As.reverse ++ [Sum.inr (Sum.inr (k, a, b))] := by
                  rw [← List.reverse_reverse (S.take (mNa z)), hA1, List.reverse_cons]
                calc S = S.take (mNa z) ++ S.drop (mNa z) := (List.take_append_drop _ _).symm
                  _ = _ := by rw [h8, List.append_assoc]; rfl
              conv => lhs; rw [h9]
              rw [List.map_append, List.map_reverse, List.map_cons]
              rfl
            have hcode : mCw z = .code (mNm z) (mBy z) (mLo z) (mRt z) := by unfold mCw; rw [hh0]
            have hcw' : ∀ w ∈ cW z, w ∈ lwG := fun w hw => lwG_in (hcw w hw) (by
              unfold cW at hw
              rw [hci] at hw
              rcases List.mem_cons.mp hw with rfl | hw
              · rfl
              · rcases List.mem_cons.mp hw with rfl | hw
                · rfl
                · rw [List.mem_singleton.mp hw]; rfl)
            unfold cW at hcw'
            rw [hci] at hcw'
            have hG1 : GoodIn lwG (wsV (ownS (mOw y)) ix (mNm z).cls (mNm z) (wsY z)) := good_lwG (fun w hw => by
              unfold wsV at hw
              rcases List.mem_append.mp hw with hw | hw
              · rcases List.mem_cons.mp hw with rfl | hw
                · exact hmlk
                · exact hcw' w hw
              · exact hin w hw)
            refine ⟨_, vx_runV (As := As.map (cv ad)) (rest := (S.drop (mNa z)).map (cv ad)) ⟨x0, hb, hmlc, hown, hts⟩ (hCt H.size) (cwV (mNa z - 1) hts hG1 (show wsY z = Jvm.Cond.code (mNm z) (mBy z) (mLo z) (mRt z) :: lwG from by unfold wsY; rw [hcode]) rfl rfl ⟨rfl, d2, d3, by rw [d1, if_pos hsome]⟩ hroom)
              ⟨cP_blind, ?_, fun U hU hWm => ⟨rfl, cP_at C0 hW hU hWm⟩⟩ rfl (by rw [List.length_map]; exact hlenA) hsz hstk hsum hdg ⟨hc1, hs1⟩⟩
            have h7 := va_recv hK hW.1 (ci := cj) (q0 := q0) hcl hat
            rw [e2] at h7
            exact h7
          · exact hrc.elim
  · have hstk : S.map (cv ad) = (((S.take (mNa z)).reverse).map (cv ad)).reverse ++ (S.drop (mNa z)).map (cv ad) := by
      rw [List.map_reverse, List.reverse_reverse, ← List.map_append, List.take_append_drop]
    have hlenA : (((S.take (mNa z)).reverse).map (cv ad)).length = mNa z := by
      rw [List.length_map, List.length_reverse, List.length_take, Nat.min_eq_left hn]
    have hcw' : ∀ w ∈ cW z, w ∈ lwG := fun w hw => lwG_in (hcw w hw) (by
      unfold cW at hw
      rw [hnone] at hw
      rcases List.mem_cons.mp hw with rfl | hw
      · rfl
      · rw [List.mem_singleton.mp hw]; rfl)
    unfold cW at hcw'
    rw [hnone] at hcw'
    have hG1 : GoodIn lwG (va_wsS (ownS (mOw y)) ix (mNm z) (wsY z)) := good_lwG (fun w hw => by
      unfold va_wsS at hw
      rcases List.mem_append.mp hw with hw | hw
      · rcases List.mem_cons.mp hw with rfl | hw
        · exact hmlk
        · exact hcw' w hw
      · exact hin w hw)
    have hd9 : (parseMethodDescriptor (mNm z).desc).map (fun d => d.parameters.length) = some (mNa z) := by
      rw [d1, hnone]
      rfl
    cases hh : mHh z with
    | none =>
      have hcode : mCw z = .code (mNm z) (mBy z) (mLo z) (mRt z) := by unfold mCw; rw [hh]
      exact ⟨_, vx_runS (As := ((S.take (mNa z)).reverse).map (cv ad)) (rest := (S.drop (mNa z)).map (cv ad)) ⟨x0, hb, hmlc, hown, hts⟩ (hCt H.size) (va_cwS (mNa z) hts hG1 (show wsY z = Jvm.Cond.code (mNm z) (mBy z) (mLo z) (mRt z) :: lwG from by unfold wsY; rw [hcode]) rfl rfl ⟨d2, d3, hd9⟩ hroom)
        ⟨cP_blind, fun U hU hWm => ⟨rfl, cP_at C0 hW hU hWm⟩⟩ rfl hlenA hsz hstk hsum hdg ⟨hc1, hs1⟩⟩
    | some h9 =>
      have hcode : mCw z = .codeWith (mNm z) (mBy z) (mLo z) (mRt z) h9 := by unfold mCw; rw [hh]
      exact ⟨_, vx_runSX (As := ((S.take (mNa z)).reverse).map (cv ad)) (rest := (S.drop (mNa z)).map (cv ad)) ⟨x0, hb, hmlc, hown, hts⟩ (hCt H.size) (vx_cwSW (mNa z) hts hG1 (show wsY z = Jvm.Cond.codeWith (mNm z) (mBy z) (mLo z) (mRt z) h9 :: lwG from by unfold wsY; rw [hcode]) rfl rfl ⟨d2, d3, hd9⟩ hroom)
        ⟨cP_blind, fun U hU hWm => ⟨rfl, cP_at C0 hW hU hWm⟩⟩ rfl hlenA hsz hstk hsum hdg ⟨hc1, hs1⟩⟩
end Sims
end
section
/-! the whole simulation -/
section Alls
variable {p : Program} {l : Launch} {e : Env} {R : Room} {s : State} {m : MethodId} {args : Array Value} {below : List Frame} {meth : Method} {c : Code} {cells slots : Nat} {Q : State → Prop} {y : Nat} {sc : SC} {tc : Nat → ClassId} {ad : ADR} {dC : Nat → ClassId} {dI : Nat → Nat → Nat} {A : Nat → Prop}
def thD (y : Nat) (pc : Nat) (x is : Nat) : Prop := mOw y = 7 ∧ mHh y = none ∧ ∃ ik ic, (x, ik, ic) ∈ EXl ∧ is ∈ STl.map (fun q => q.1) ∧ decode (mBy y) pc = .ok (.new ik, 3) ∧ decode (mBy y) (pc + 3) = .ok (.dup, 1) ∧ decode (mBy y) (pc + 4) = .ok (.ldc is, 2) ∧ decode (mBy y) (pc + 6) = .ok (.invokespecial ic, 3) ∧ decode (mBy y) (pc + 9) = .ok (.athrow, 1)
/-- what a run's ends must give -/
def En (p : Program) (l : Launch) (e : Env) (R : Room) (s : State) (m : MethodId) (args : Array Value) (below : List Frame) (meth : Method) (c : Code) (Q : State → Prop) (y : Nat) (tc : Nat → ClassId) (ad : ADR) (dC : Nat → ClassId) (dI : Nat → Nat → Nat) (A : Nat → Prop) (o : OUT) (Z : XT) (mc ms : Nat) : Prop :=
  (∀ (v : Int32) (pc : Nat) (ls : Array Slot) (H : Heap) (locs : List Loc), o = .inl (some (.inl v)) → decode (mBy y) pc = .ok (.ireturn, 1) → (mRt y = some .int ∨ (mRt y = some .boolean ∧ (v = 0 ∨ v = 1))) → Wd s tc ad dC dI A Z H locs → W p l e R s m args below meth c H locs mc ms Q (F0 m pc ls [.int v])) ∧
  (∀ (r : Nat × Int32 × Int32) (pc : Nat) (ls : Array Slot) (H : Heap) (locs : List Loc), o = .inl (some (.inr (.inr r))) → vok (.inr (.inr r)) → decode (mBy y) pc = .ok (.areturn, 1) → mRt y = some (.object "GroupTables$Group") → Wd s tc ad dC dI A Z H locs → W p l e R s m args below meth c H locs mc ms Q (F0 m pc ls [cv ad (.inr (.inr r))])) ∧
  (∀ (pc : Nat) (ls : Array Slot) (H : Heap) (locs : List Loc), o = .inl none → decode (mBy y) pc = .ok (.return_, 1) → mRt y = none → Wd s tc ad dC dI A Z H locs → W p l e R s m args below meth c H locs mc ms Q (F0 m pc ls [])) ∧
  (∀ (x is pc cells slots : Nat) (ls : Array Slot) (H : Heap) (locs : List Loc), o = .inr x → x < 3 → cells + 1 = mc → slots + 6 = ms → thD y pc x is → ls.size = mLo y → Wd s tc ad dC dI A Z H locs → W p l e R s m args below meth c H locs cells slots Q (F0 m pc ls [])) ∧
  (∀ (x pc : Nat) (ls : Array Slot) (H : Heap) (locs : List Loc) (rest : List Value) (q : Addr) (ce : Cell), o = .inr x → x < 3 → mHn y = [] → H[q]? = some ce → ce.vm = .none → s.vm.findClass (exN x) = some ce.cls → Wd s tc ad dC dI A Z H locs → vx_W p l e R s m args below meth c H locs mc ms Q (F0 m pc ls rest) q) ∧
  (∀ (h : Nat × Nat × Nat × Nat) (pc pt cells slots : Nat) (L : List AV) (ls : Array Slot) (H : Heap) (locs : List Loc) (rest : List Value) (q : Addr) (ce : Cell), h ∈ mHn y → tbOk y pc = true → sPc y h.2.2.2 = some pt → H[q]? = some ce → ce.vm = .none → s.vm.findClass (exN h.1) = some ce.cls → Lc ad y ls L → (∀ ls', Lc ad y ls' (L.set h.2.2.1 av0) → W p l e R s m args below meth c H locs cells slots Q (F0 m pt ls' [])) → vx_W p l e R s m args below meth c H locs cells slots Q (F0 m pc ls rest) q)
def Sim (l : Launch) (sc : SC) (n : Nat) : Prop := ∀ (d y i : Nat) (L S : List AV) (X : XT) (o : OUT) (Z : XT) (k : Nat), Go sc n d y i L S X o Z k →
  ∀ {p : Program} {e : Env} {R : Room} {s : State} {m : MethodId} {args : Array Value} {below : List Frame} {meth : Method} {c : Code} {cells slots mc ms : Nat} {Q : State → Prop} {tc : Nat → ClassId} {ad : ADR} {dC : Nat → ClassId} {dI : Nat → Nat → Nat} {A : Nat → Prop},
  Cx p s m args meth c y sc tc ad dC dI A → d + 8 ≤ R.frames → 60 * d + 200 ≤ R.locals → cells + k = mc → slots + 6 * k = ms → mc ≤ R.cells → ms ≤ R.slots → En p l e R s m args below meth c Q y tc ad dC dI A o Z mc ms →
  ∀ pc : Nat, sPc y i = some pc → Ws p l e R s m args below meth c cells slots Q y tc ad dC dI A pc L S X
theorem code_lt {y i : Nat} {sg : SG} (h : (code9 y)[i]? = some sg) : y < 168 := by
  rcases Nat.lt_or_ge y 168 with q | q
  · exact q
  · have h0 : codeL[y]? = none := List.getElem?_eq_none (by show 168 ≤ y; exact q)
    unfold code9 at h
    rw [List.getD_eq_getElem?_getD, h0] at h
    cases h
theorem off_eq {a : Option Nat} {b : Int} (h : a.map Int.ofNat = some b) : ∃ t : Nat, a = some t ∧ b = (t : Int) := by
  cases a with
  | none => cases h
  | some t => cases h; exact ⟨t, rfl, rfl⟩
set_option maxHeartbeats 4000000 in
theorem simTm {n d : Nat} {t : Instr × Nat × Nat × Nat} {L S : List AV} {X : XT} {o : OUT} {Z : XT} {k pc mc ms : Nat} (hC : ∀ (d z : Nat) (as : List AV) (X : XT) (o : OUT) (Z : XT) (k : Nat), Go sc n d z 0 (ent z as) [] X o Z k → z < 167 → (∀ v ∈ as, vok v ∧ avc v = 1) → as.length = mNa z → Ct l sc tc ad dC dI d z as X o Z k)
    (hI : Sim l sc n) (hT : Tm (Go sc n) d y t L S X o Z k) (hy : y < 168) (ok : okT y (mBy y) pc t = true)
    (C0 : Cx p s m args meth c y sc tc ad dC dI A) (hfr : d + 8 ≤ R.frames) (hlo : 60 * d + 200 ≤ R.locals) (hmc : cells + k = mc) (hms : slots + 6 * k = ms) (hRc : mc ≤ R.cells) (hRs : ms ≤ R.slots) (hE : En p l e R s m args below meth c Q y tc ad dC dI A o Z mc ms) :
    Ws p l e R s m args below meth c cells slots Q y tc ad dC dI A pc L S X := by
  obtain ⟨x0, hb, hml, hr, hlk, hown, hts, hK, hA, hG⟩ := id C0
  obtain ⟨ins, ln, ta, tb⟩ := t
  obtain ⟨E1, E2, E3, E4, E5, E6⟩ := hE
  have hE : En p l e R s m args below meth c Q y tc ad dC dI A o Z mc ms := ⟨E1, E2, E3, E4, E5, E6⟩
  intro ls H locs hW hL hS
  have call : ∀ (ix : Nat), Cl (Go sc n) d y ta tb L S X o Z k → ((ins = .invokevirtual ix ∧ (mRc ta).isSome = true ∧ mHh ta = none) ∨ (ins = .invokestatic ix ∧ mRc ta = none)) → (mOw y, ix, ta) ∈ MR → decode (mBy y) pc = .ok (ins, 3) → sPc y tb = some (pc + 3) → ta < 167 → tbOk y pc = true → W p l e R s m args below meth c H locs cells slots Q (F0 m pc ls (S.map (cv ad))) := by
    intro ix hcl hins hmr hdg hsp hz htb
    obtain ⟨d', o1, X1, k1, rfl, hn, hcat, hall, hrc, hgo, hend⟩ := hcl
    have hk1 : k1 ≤ k := by
      rcases o1 with v | x
      · rcases v with _ | v
        · obtain ⟨k2, -, rfl⟩ := hend; omega
        · obtain ⟨k2, -, rfl⟩ := hend; omega
      · rcases hend with ⟨-, -, -, rfl⟩ | ⟨h, -, -, k2, -, rfl⟩ <;> omega
    have has : ∀ v ∈ (S.take (mNa ta)).reverse, vok v := fun v hv => hS v (List.mem_of_mem_take (List.mem_reverse.mp hv))
    have hc1 : ∀ v ∈ (S.take (mNa ta)).reverse, avc v = 1 := fun v hv => by simpa using List.all_eq_true.mp hall v (List.mem_reverse.mp hv)
    · obtain ⟨a, run⟩ := simCall (cells := cells) (slots := slots) (e := e) (below := below) (R := R) (d := d') (k1 := k1) (o1 := o1) (X1 := X1) C0 hW hL hS (by omega) (by omega) (by omega) (by omega) hz hn hcat hrc hins hmr hdg (hC d' ta _ X o1 X1 k1 hgo hz (fun v hv => ⟨has v hv, hc1 v hv⟩) (by rw [List.length_reverse, List.length_take, Nat.min_eq_left hn]))
      refine simBack C0 hW hL (fun v hv => hS v (List.mem_of_mem_drop hv)) run (fun v hv => ?_) (fun x q ce H1 locs1 hx hx3 hce hcv hcl hW1 => ?_)
      · subst hv
        rcases v with _ | v
        · obtain ⟨k2, hg, rfl⟩ := hend
          exact hI _ _ _ _ _ _ _ _ _ hg C0 hfr hlo (by omega) (by omega) hRc hRs hE _ hsp
        · obtain ⟨k2, hg, rfl⟩ := hend
          exact hI _ _ _ _ _ _ _ _ _ hg C0 hfr hlo (by omega) (by omega) hRc hRs hE _ hsp
      · subst hx
        rcases hend with ⟨h0, rfl, rfl, rfl⟩ | ⟨h, hm, hh, k2, hg, rfl⟩
        · have := E5 x pc ls H1 locs1 ((S.drop (mNa ta)).map (cv ad)) q ce rfl hx3 h0 hce hcv hcl hW1
          rw [← hmc, ← hms] at this
          exact this
        · have hok := okH_all y hy
          simp only [okH, Bool.and_eq_true, decide_eq_true_eq, List.all_eq_true] at hok
          have hh2 := (hok.1.1.1.2 h hm)
          have hpt : ∃ pt, sPc y h.2.2.2 = some pt := by
            have h9 := hh2.2
            unfold astOk at h9
            cases hq : sPc y h.2.2.2 with
            | none => rw [hq] at h9; simp at h9
            | some pt => exact ⟨pt, rfl⟩
          obtain ⟨pt, hpt⟩ := hpt
          refine E6 h pc pt (cells + k1) (slots + 6 * k1) L ls H1 locs1 _ q ce hm htb hpt hce hcv (by rw [hh]; exact hcl) hL (fun ls' hL' => ?_)
          exact hI _ _ _ _ _ _ _ _ _ hg C0 hfr hlo (by omega) (by omega) hRc hRs hE _ hpt ls' H1 locs1 hW1 hL' (fun v hv => nomatch hv)
  cases ins
  case nop =>
    simp only [okT, decide_eq_true_eq] at ok
    exact hI _ _ _ _ _ _ _ _ _ hT C0 hfr hlo hmc hms hRc hRs hE _ ok ls H locs hW hL hS
  case goto off =>
    simp only [okT, Bool.and_eq_true, decide_eq_true_eq] at ok
    obtain ⟨tg, h1, h2⟩ := off_eq ok.2
    exact lv_goto x0 hb ok.1 h2 (hI _ _ _ _ _ _ _ _ _ hT C0 hfr hlo hmc hms hRc hRs hE _ h1 ls H locs hW hL hS)
  case ifCond q off =>
    simp only [okT, Bool.and_eq_true, decide_eq_true_eq] at ok
    obtain ⟨⟨hd, h0⟩, h3⟩ := ok
    obtain ⟨tg, h1, h2⟩ := off_eq h0
    dsimp only [Tm] at hT
    split at hT
    · next x S1 =>
      have kt : cz q x → W p l e R s m args below meth c H locs cells slots Q (F0 m tg ls (S1.map (cv ad))) := fun hc => hI _ _ _ _ _ _ _ _ _ (hT.1 hc) C0 hfr hlo hmc hms hRc hRs hE _ h1 ls H locs hW hL (vok_t hS)
      have kf : ¬ cz q x → W p l e R s m args below meth c H locs cells slots Q (F0 m (pc + 3) ls (S1.map (cv ad))) := fun hc => hI _ _ _ _ _ _ _ _ _ (hT.2 hc) C0 hfr hlo hmc hms hRc hRs hE _ h3 ls H locs hW hL (vok_t hS)
      cases q
      · exact lv_if_eq x0 hb hd h2 kt kf
      · exact lv_if_ne x0 hb hd h2 kt (fun h => kf (fun hn => hn h))
      · exact lv_if_lt x0 hb hd h2 kt kf
      · exact lv_if_ge x0 hb hd h2 kt kf
      · exact lv_if_gt x0 hb hd h2 kt kf
      · exact lv_if_le x0 hb hd h2 kt kf
    · exact hT.elim
  case if_icmp q off =>
    simp only [okT, Bool.and_eq_true, decide_eq_true_eq] at ok
    obtain ⟨⟨hd, h0⟩, h3⟩ := ok
    obtain ⟨tg, h1, h2⟩ := off_eq h0
    dsimp only [Tm] at hT
    split at hT
    · next w x S1 =>
      have kt : ci2 q x w → W p l e R s m args below meth c H locs cells slots Q (F0 m tg ls (S1.map (cv ad))) := fun hc => hI _ _ _ _ _ _ _ _ _ (hT.1 hc) C0 hfr hlo hmc hms hRc hRs hE _ h1 ls H locs hW hL (vok_t (vok_t hS))
      have kf : ¬ ci2 q x w → W p l e R s m args below meth c H locs cells slots Q (F0 m (pc + 3) ls (S1.map (cv ad))) := fun hc => hI _ _ _ _ _ _ _ _ _ (hT.2 hc) C0 hfr hlo hmc hms hRc hRs hE _ h3 ls H locs hW hL (vok_t (vok_t hS))
      cases q
      · exact lv_icmp_eq x0 hb hd h2 kt kf
      · exact lv_icmp_ne x0 hb hd h2 kt (fun h => kf (fun hn => hn h))
      · exact lv_icmp_lt x0 hb hd h2 kt kf
      · exact lv_icmp_ge x0 hb hd h2 kt kf
      · exact lv_icmp_gt x0 hb hd h2 kt kf
      · exact lv_icmp_le x0 hb hd h2 kt kf
    · exact hT.elim
  case ireturn =>
    simp only [okT, Bool.and_eq_true, Bool.or_eq_true, decide_eq_true_eq] at ok
    dsimp only [Tm] at hT
    split at hT
    · next v =>
      obtain ⟨hv, ho, rfl, rfl⟩ := hT
      have h9 := E1 v pc ls H locs ho ok.1 (ok.2.imp id (fun h => ⟨h.1, hv.resolve_left (by rw [h.2]; decide)⟩)) hW
      rw [← hmc, ← hms] at h9
      exact h9
    · exact hT.elim
  case areturn =>
    simp only [okT, Bool.and_eq_true, decide_eq_true_eq] at ok
    dsimp only [Tm] at hT
    split at hT
    · next r =>
      obtain ⟨ho, rfl, rfl⟩ := hT
      have h9 := E2 r pc ls H locs ho (hS _ List.mem_cons_self) ok.1 ok.2 hW
      rw [← hmc, ← hms] at h9
      exact h9
    · exact hT.elim
  case return_ =>
    simp only [okT, Bool.and_eq_true, decide_eq_true_eq] at ok
    obtain ⟨rfl, ho, rfl, rfl⟩ := hT
    have h9 := E3 pc ls H locs ho ok.1 ok.2 hW
    rw [← hmc, ← hms] at h9
    exact h9
  case new ik =>
    simp only [okT, Bool.and_eq_true, decide_eq_true_eq, List.any_eq_true] at ok
    obtain ⟨⟨⟨⟨⟨⟨⟨o1, o2⟩, ⟨⟨qx, qk, qc⟩, o3, ⟨o4, o5⟩, o6⟩⟩, o7⟩, o8⟩, o9⟩, o10⟩, o11⟩ := ok
    obtain ⟨rfl, ho, rfl, rfl⟩ := hT
    dsimp only at o4 o5 o6 o7 o10 ho
    subst o4 o5
    have hx3 : qx < 3 := by
      have h0 : ∀ q ∈ EXl, q.1 < 3 := by decide +kernel
      exact h0 _ o3
    exact E4 qx tb pc cells slots ls H locs ho hx3 hmc hms ⟨o1, o2, _, _, o3, o7, o8, o9, o10, o6, o11⟩ (by rw [hL.1.1, hL.2.1]) hW
  case tableswitch df lo hi offs =>
    simp only [okT, Bool.and_eq_true, decide_eq_true_eq, List.all_eq_true] at ok
    obtain ⟨⟨⟨⟨⟨hd, rfl⟩, rfl⟩, hsz⟩, hdf⟩, hall⟩ := ok
    dsimp only [Tm] at hT
    split at hT
    · next x S1 =>
      obtain ⟨hx, hT⟩ := hT
      have hx1 : ¬ x < 0 := fun q => by
        have h1 := Int32.le_iff_toInt_le.mp hx
        have h2 := Int32.lt_iff_toInt_lt.mp q
        omega
      obtain ⟨j, hj, rfl⟩ := nI_of hx1
      rw [nI_clamp hj] at hT
      have hji := nI_toInt hj
      by_cases h25 : j ≤ 25
      · have h9 := hall j (List.mem_range.mpr (by omega))
        cases ho : offs[j]? with
        | none =>
          have := Array.getElem?_eq_none_iff.mp ho
          omega
        | some off =>
          rw [ho] at h9
          obtain ⟨tg, h1, h2⟩ := off_eq h9
          exact lv_tableIn x0 hb hd (by rw [hji]; omega) (by rw [hji]; omega) (by rw [hji]; simpa using ho) h2 (hI _ _ _ _ _ _ _ _ _ hT C0 hfr hlo hmc hms hRc hRs hE _ h1 ls H locs hW hL (vok_t hS))
      · obtain ⟨tg, h1, h2⟩ := off_eq hdf
        have e9 : tsw.getD j (tsw.getD 26 0) = tsw.getD 26 0 := by
          by_cases h26 : j = 26
          · subst h26; rfl
          · have h0 : tsw[j]? = none := List.getElem?_eq_none (by show 27 ≤ j; omega)
            rw [List.getD_eq_getElem?_getD, h0]; rfl
        rw [e9] at hT
        exact lv_tableOut x0 hb hd (by rw [hji]; omega) h2 (hI _ _ _ _ _ _ _ _ _ hT C0 hfr hlo hmc hms hRc hRs hE _ h1 ls H locs hW hL (vok_t hS))
    · exact hT.elim
  case invokevirtual ix =>
    simp only [okT, Bool.and_eq_true, decide_eq_true_eq] at ok
    obtain ⟨⟨⟨⟨⟨⟨o1, o2⟩, o3⟩, o4⟩, o5⟩, o6⟩, o7⟩ := ok
    exact call ix hT (Or.inl ⟨rfl, o4, o6⟩) o2 o1 o3 o5 o7
  case invokestatic ix =>
    simp only [okT, Bool.and_eq_true, decide_eq_true_eq] at ok
    obtain ⟨⟨⟨⟨⟨o1, o2⟩, o3⟩, o4⟩, o5⟩, o6⟩ := ok
    exact call ix hT (Or.inr ⟨rfl, o4⟩) o2 o1 o3 o5 o6
  all_goals exact hT.elim
end Alls
end
section
/-! a run of the abstract machine is a contract of the real one -/
def exNs : List String := ["java/lang/RuntimeException", "java/lang/Exception"]
theorem exW : ∀ q ∈ EXl, Jvm.Cond.classLink RX7 q.2.1 (exN q.1) ∈ lw_tbl ∧ Jvm.Cond.initialized (exN q.1) ∈ lw_tbl := by decide +kernel
theorem exA : ∀ q ∈ EXl, ∀ w ∈ vx_atS RX7 q.2.2 (exN q.1) exNs, (w ∈ lw_tbl ∧ goodWord w = true) ∨ w = .castable (exN q.1) (exN q.1) ∨ w ∈ exD.map (fun n => Jvm.Cond.declares (Bundle.initS n)) := by decide +kernel
theorem exO : ∀ q ∈ EXl, ∀ w ∈ Jvm.Cond.classLink RX7 q.2.1 (exN q.1) :: Jvm.Cond.initialized (exN q.1) :: vx_atS RX7 q.2.2 (exN q.1) exNs, vx_ot w = true := by decide +kernel
theorem exF : ∀ q ∈ EXl, Bundle.fit (exN q.1) = true := by decide +kernel
theorem exFs : ∀ n ∈ exNs, Bundle.fit n = true := by decide +kernel
theorem ctW : ∀ a, a < 3 → Jvm.Cond.classLink RL (ctI a) (exN a) ∈ lw_tbl ∧ Jvm.Cond.castable (exN a) (exN a) ∈ lw_tbl ∧ ctI a ≠ 0 := by decide +kernel
theorem RL_own : ownS 9 = RL := rfl
theorem hn_own {y : Nat} (hy : y < 168) (h : mHn y ≠ []) : mOw y = 9 := by
  have hok := okH_all y hy
  simp only [okH, Bool.and_eq_true, Bool.or_eq_true, decide_eq_true_eq] at hok
  exact hok.1.2.resolve_left h
theorem LR.setN {ad : ADR} {ls' : Array Slot} {L : List AV} {i : Nat} {w : Value} (hi : i < L.length) (h' : lv_has ls' L.length (lvS (lvL ad L) i w)) : LR ad ls' (L.set i av0) := by
  refine ⟨by rw [List.length_set]; exact h'.1, h'.2.1, fun j u hj hu => ?_⟩
  by_cases e : j = i
  · subst e
    rw [List.getElem?_set_self hi] at hj
    cases hj
    cases hu
  · rw [List.getElem?_set_ne (fun q => e q.symm)] at hj
    refine h'.2.2 (j, cv ad u) (List.mem_cons_of_mem _ (List.mem_filter.mpr ⟨lvL_mem.mpr ⟨u, hj, hu, rfl⟩, ?_⟩))
    have hc : (cv ad u).category = 1 := by rw [cv_cat]; exact hu
    simp [e, hc]
theorem lv_args1 {ad : ADR} : ∀ (as : List AV) (k : Nat), (∀ v ∈ as, avc v = 1) → ∀ (i : Nat) (v : AV), as[i]? = some v → (k + i, cv ad v) ∈ lv_args k (as.map (cv ad))
  | [], _, _, i, v, h => by simp at h
  | a :: as, k, h1, 0, v, h => by
    cases h
    exact List.mem_cons_self
  | a :: as, k, h1, i + 1, v, h => by
    have hc : (cv ad a).category = 1 := by rw [cv_cat]; exact h1 a List.mem_cons_self
    have h2 := lv_args1 (ad := ad) as (k + 1) (fun w hw => h1 w (List.mem_cons_of_mem _ hw)) i v h
    show (k + (i + 1), cv ad v) ∈ (k, cv ad a) :: lv_args (if (cv ad a).category = 2 then k + 2 else k + 1) (as.map (cv ad))
    rw [hc]
    refine List.mem_cons_of_mem _ ?_
    rw [show k + (i + 1) = k + 1 + i by omega]
    exact h2
theorem lg_sl1 {ad : ADR} : ∀ (as : List AV), (∀ v ∈ as, avc v = 1) → (lg_sl (as.map (cv ad))).length = as.length
  | [], _ => rfl
  | a :: as, h1 => by
    have hc : (cv ad a).category = 1 := by rw [cv_cat]; exact h1 a List.mem_cons_self
    have h2 := lg_sl1 (ad := ad) as (fun w hw => h1 w (List.mem_cons_of_mem _ hw))
    unfold lg_sl at h2 ⊢
    rw [List.map_cons, List.flatMap_cons, List.length_append, h2, hc]
    simp
    omega
section Cts
variable {p : Program} {l : Launch} {e : Env} {R : Room} {s : State} {m : MethodId} {args : Array Value} {below : List Frame} {meth : Method} {c : Code} {y : Nat} {sc : SC} {tc : Nat → ClassId} {ad : ADR} {dC : Nat → ClassId} {dI : Nat → Nat → Nat}
set_option maxHeartbeats 4000000 in
theorem En_met {o : OUT} {Z : XT} {mc ms : Nat} (hl : l.stackTraces = false) (hy : y < 168) (C0 : Cx p s m args meth c y sc tc ad dC dI (rg ad s.heap.size)) (hfr : 8 ≤ R.frames) (hlo : 200 ≤ R.locals) (hcr : mc ≤ R.cells) (hsr : ms ≤ R.slots)
    (hT : (mHh y = none → c.exceptionTable.toList = []) ∧ ∀ hh, mHh y = some hh → c.exceptionTable.toList = tableOf hh) :
    En p l e R s m args below meth c (vx_MQ below (cQ tc ad dC dI o Z (rg ad s.heap.size)) (cX tc ad dC dI o Z (rg ad s.heap.size)) args s mc ms (rg ad s.heap.size)) y tc ad dC dI (rg ad s.heap.size) o Z mc ms := by
  obtain ⟨x0, hb, hml, hr, hlk, hown, hts, hK, hA, hG⟩ := id C0
  have hok := okH_all y hy
  simp only [okH, Bool.and_eq_true, Bool.or_eq_true, decide_eq_true_eq, List.all_eq_true] at hok
  obtain ⟨⟨⟨⟨k1, k2⟩, k3⟩, k4⟩, k5⟩ := hok
  have hcB : ∀ {H : Heap} {locs : List Loc} (t : State), t.heap = H → Wd s tc ad dC dI (rg ad s.heap.size) Z H locs → cB tc ad dC dI Z (rg ad s.heap.size) s t := fun t ht hW => ⟨by rw [ht]; exact hW.1, hW.2.2.F ht⟩
  refine ⟨?_, ?_, ?_, ?_, ?_, ?_⟩
  · intro v pc ls H locs ho hd hrt hW
    refine vx_ret ?_
    have hq : ∀ t : State, t.heap = H → s.WarmedH t.vm → cQ tc ad dC dI o Z (rg ad s.heap.size) args s (.returned (some (.int v))) t := fun t ht _ => ⟨⟨some (.inl v), ho, fun w hw => by cases hw; trivial, rfl⟩, hcB t ht hW⟩
    rcases hrt with hrt | ⟨hrt, hv⟩
    · exact W.zret (ty := .int) x0 hb (by rw [hr, hrt]) rfl hq hW.2.2.2.2 hd hlk
    · exact W.zret (ty := .boolean) x0 hb (by rw [hr, hrt]) (by rcases hv with rfl | rfl <;> rfl) hq hW.2.2.2.2 hd hlk
  · intro r pc ls H locs ho hvr hd hrt hW
    refine vx_ret ?_
    exact W.aret x0 hb (by rw [hr, hrt]) (Or.inl ⟨_, rfl⟩) (Or.inr ⟨_, rfl⟩) (fun t ht _ => ⟨⟨some (.inr (.inr r)), ho, fun w hw => by cases hw; exact hvr, rfl⟩, hcB t ht hW⟩) hW.2.2.2.2 hd hlk
  · intro pc ls H locs ho hd hrt hW
    refine vx_ret ?_
    exact W.vret x0 hb (by rw [hr, hrt]) (fun t ht _ => ⟨⟨none, ho, (fun w hw => by cases hw), rfl⟩, hcB t ht hW⟩) hW.2.2.2.2 hd hlk
  · intro x is pc cells slots ls H locs ho hx3 hc hs hth hsz hW
    obtain ⟨o1, o2, ik, ic, o3, o4, d0, d3, d4, d6, d9⟩ := hth
    obtain ⟨⟨is', tx⟩, hst, rfl⟩ := List.mem_map.mp o4
    obtain ⟨sa, hsa⟩ := hG.2.2.1 _ hst
    rw [o1] at hown
    have hw1 := exW _ o3
    refine vx_throwS (own := RX7) (cls := exN x) (names := exNs) (text := tx) (sa := sa) (A := rg ad s.heap.size) x0 hb hl hown (exF _ o3) exFs (hts _ (lwG_in hw1.1 rfl)) (hts _ (lwG_in hw1.2 rfl)) hsa (fun w hw => (exA _ o3 w hw).elim (fun h => hts w (lwG_in h.1 h.2)) (fun h => h.elim (fun h => by rw [h]; exact va_Nw.use rfl (hG.2.2.2.2.2.2.2.1 x hx3)) (fun h => by obtain ⟨n9, hn9, rfl⟩ := List.mem_map.mp h; exact va_Nw.use rfl (hG.2.2.2.2.2.2.2.2 n9 hn9)))) (exO _ o3) hG.1 hG.2.1 hW.2.2 (by rw [hsz, hml]) d0 d3 d4 d6 d9 ?_ (by show 2 + 3 < _; omega) (by show 0 + (13 * (2 + 1) + 43) ≤ _; omega) (by omega) (by omega) hlk ?_ hW.2.2.2.2 (by omega) (by omega)
    · rw [hT.1 o2]
      intro z hz
      cases hz
    · intro t hvm hsz1 hq1
      refine ⟨⟨x, ho, hx3, rfl⟩, ?_, ?_, ?_⟩
      · exact hW.1.kept (fun k9 z hz => hq1 z.1 ((hW.1 k9 z hz).lt))
      · exact Nat.le_trans hW.2.2.1 hsz1
      · intro q h1 h2
        rw [hq1 q (Nat.lt_of_lt_of_le h1 hW.2.2.1)]
        exact hW.2.2.2.1 q h1 h2
  · intro x pc ls H locs rest q ce ho hx3 h0 hce hcv hcl hW
    have hh0 : mHh y = none := by
      cases hh : mHh y with
      | none => rfl
      | some hh' => rw [hh, h0] at k3; cases k3
    refine vx_out (E := exN x) (by rw [hT.1 hh0]; intro z hz; cases hz) hlk hce hcv hcl (fun t ht hvm => ⟨⟨x, ho, hx3, rfl⟩, hcB t ht hW⟩) hW.2.2.2.2 (Nat.le_refl _) (Nat.le_refl _)
  · intro h pc pt cells slots L ls H locs rest q ce hm htb hpt hce hcv hcl hL kk
    have hne : mHn y ≠ [] := List.ne_nil_of_mem hm
    have ho9 : mOw y = 9 := k4.resolve_left hne
    rw [ho9, RL_own] at hown
    obtain ⟨hh, hhh⟩ : ∃ hh, mHh y = some hh := by
      cases hh : mHh y with
      | none =>
        rw [hh] at k3
        have : (mHn y).isEmpty = true := by simpa using k3.symm
        exact absurd (List.isEmpty_iff.mp this) hne
      | some hh' => exact ⟨hh', rfl⟩
    have htab := hT.2 hh hhh
    unfold hnT at k1
    rw [hhh] at k1
    dsimp only at k1
    obtain ⟨pre, suf, hsp⟩ := List.append_of_mem hm
    rw [hsp, List.map_append, List.map_cons] at k1
    obtain ⟨hpre, hrst, hh1, hh2, hh3⟩ := List.map_eq_append_iff.mp k1
    obtain ⟨x, hsuf, hh4, hh5, hh6⟩ := List.map_eq_cons_iff.mp hh3
    subst hh1
    subst hh4
    unfold tbOk at htb
    rw [hhh] at htb
    dsimp only at htb
    rw [List.all_eq_true] at htb
    have hxin := htb x (List.mem_append_right _ List.mem_cons_self)
    simp only [Bool.and_eq_true, decide_eq_true_eq] at hxin
    have hh5a : x.2.2.1 = h.2.1 := congrArg Prod.fst hh5
    have hh5b : x.2.2.2 = ctI h.1 := congrArg Prod.snd hh5
    have hk2 := k2 h hm
    have hc3 := ctW h.1 hk2.1.1
    rw [hsp, List.map_append, List.map_cons] at k5
    refine vx_catch (own := RL) (name := exN h.1) (E := exN h.1) hown (tableOf hpre) ⟨x.1, x.2.1, x.2.2.1, x.2.2.2⟩ (tableOf hsuf) (by rw [htab]; simp [tableOf]) ?_ (by simp [covers, hxin.1, hxin.2]) (by show x.2.2.2 ≠ 0; rw [hh5b]; exact hc3.2.2) (by show (Jvm.Cond.classLink RL x.2.2.2 (exN h.1)).before args s = true; rw [hh5b]; exact hts _ (lwG_in hc3.1 rfl)) (va_Nw.use rfl (hG.2.2.2.2.2.2.2.1 h.1 hk2.1.1)) hce hcv hcl ?_
    · intro z hz
      refine Or.inr ?_
      obtain ⟨w, hw, rfl⟩ := List.mem_map.mp hz
      have hw2 : (w.2.2.1, w.2.2.2) ∈ pre.map (fun h => (h.2.1, ctI h.1)) := by rw [← hh2]; exact List.mem_map.mpr ⟨w, hw, rfl⟩
      obtain ⟨g, hg, hg2⟩ := List.mem_map.mp hw2
      have hg3 : w.2.2.2 = ctI g.1 := (congrArg Prod.snd hg2).symm
      have hgm : g ∈ mHn y := by rw [hsp]; exact List.mem_append_left _ hg
      have hk9 := k2 g hgm
      have hc9 := ctW g.1 hk9.1.1
      have hne9 : h.1 ≠ g.1 := by
        have h8 := (List.nodup_append.mp k5).2.2
        exact fun q => h8 g.1 (List.mem_map.mpr ⟨g, hg, rfl⟩) h.1 List.mem_cons_self q.symm
      exact ⟨by show w.2.2.2 ≠ 0; rw [hg3]; exact hc9.2.2, exN g.1, by show (Jvm.Cond.classLink RL w.2.2.2 (exN g.1)).before args s = true; rw [hg3]; exact hts _ (lwG_in hc9.1 rfl), hG.2.2.2.2.2.1 h.1 g.1 hk2.1.1 hk9.1.1 hne9⟩
    · show W p l e R s m args below meth c H locs cells slots _ (F0 m x.2.2.1 ls [.ref q])
      rw [hh5a]
      have hi : h.2.2.1 < L.length := by rw [hL.2.1]; exact hk2.1.2
      have hfin : ∀ ls', lv_has ls' L.length (lvS (lvL ad L) h.2.2.1 (.ref q)) → W p l e R s m args below meth c H locs cells slots (vx_MQ below (cQ tc ad dC dI o Z (rg ad s.heap.size)) (cX tc ad dC dI o Z (rg ad s.heap.size)) args s mc ms (rg ad s.heap.size)) (F0 m pt ls' []) := fun ls' h' => kk ls' ⟨LR.setN hi h', by rw [List.length_set]; exact hL.2.1, set_vok hL.2.2 trivial⟩
      have hast := hk2.2
      unfold astOk at hast
      rw [hpt] at hast
      simp only [Bool.or_eq_true, Bool.and_eq_true, decide_eq_true_eq, Option.some.injEq] at hast
      rcases hast with ⟨⟨-, rfl⟩, hast⟩ | ⟨rfl, hast⟩
      · split at hast
        · next k hd =>
          simp only [decide_eq_true_eq] at hast
          exact lv_astore_n x0 hb hd hast hL.1.has hi rfl hfin
        · cases hast
      · split at hast
        · next k hd =>
          simp only [decide_eq_true_eq] at hast
          subst hast
          exact lv_astore x0 hb hd hL.1.has hi rfl hfin
        · cases hast
set_option maxHeartbeats 4000000 in
theorem ct_of {n : Nat} (hl : l.stackTraces = false) (hI : Sim l sc n) (d z : Nat) (as : List AV) (X : XT) (o : OUT) (Z : XT) (k : Nat) (hg : Go sc n d z 0 (ent z as) [] X o Z k) (hz : z < 167) (has : ∀ v ∈ as, vok v ∧ avc v = 1) (hn : as.length = mNa z) : Ct l sc tc ad dC dI d z as X o Z k := by
  intro sz
  have hds := mDs_ok z hz
  simp only [mDs, Bool.and_eq_true, decide_eq_true_eq] at hds
  obtain ⟨⟨⟨⟨⟨⟨⟨⟨d1, d2⟩, d3⟩, d4⟩, d5⟩, d6⟩, d7⟩, d8⟩, d9⟩ := hds
  have body : ∀ p e s m args below meth c s₁, BodyLoose p l (mNm z) (headSpec (wsY z) (rmY d k)) (mBy z) (mLo z) (mRt z) e s m args below meth c s₁ → c.maxLocals = mLo z → va_Pc (as.map (cv ad)) (cP sc tc ad dC dI X sz) args s →
      W p l e (headSpec (wsY z) (rmY d k)).room s m args below meth c s.heap [] 0 0 (vx_MQ below (cQ tc ad dC dI o Z (rg ad sz)) (cX tc ad dC dI o Z (rg ad sz)) args s k (6 * k) (rg ad sz)) (entryFrame m args (mLo z)) := by
    intro p e s m args below meth c s₁ B hml hv
    obtain ⟨rfl, rfl, hP, hK, hD, hG⟩ := hv
    have hts0 := atoms_spec (ws := wsY z) B.pre
    have hts : ∀ w ∈ lwG, w.before ((as.map (cv ad)).toArray) s = true := fun w hw => hts0 w (List.mem_cons_of_mem _ hw)
    have hown : s.vm.findClass (ownS (mOw z)) = some m.cls := by rw [d8]; exact findClass_of_methodNamed B.named
    have C0 : Cx p s m ((as.map (cv ad)).toArray) meth c z sc tc ad dC dI (rg ad s.heap.size) := ⟨B.exec, B.bytes, hml, B.returns, B.notSynchronized, hown, hts, hK, fun q hq => Or.inr hq, hG⟩
    have hcw : (mCw z).before ((as.map (cv ad)).toArray) s = true := hts0 _ List.mem_cons_self
    have hT : (mHh z = none → c.exceptionTable.toList = []) ∧ ∀ hh, mHh z = some hh → c.exceptionTable.toList = tableOf hh := by
      refine ⟨fun h0 => ?_, fun hh h0 => ?_⟩
      · unfold mCw at hcw
        rw [h0] at hcw
        obtain ⟨meth9, c9, h1, h2, -, -, -, -, h7, -⟩ := Cond.code_spec B.named hcw
        cases Option.some.inj (h1.symm.trans B.method)
        cases Option.some.inj (h2.symm.trans (Stand.of_body B).code)
        simpa using h7
      · unfold mCw at hcw
        rw [h0] at hcw
        exact vx_table (x := mNm z) B hcw
    have hE := En_met (R := (headSpec (wsY z) (rmY d k)).room) (e := e) (below := below) (o := o) (Z := Z) (mc := k) (ms := 6 * k) hl (by omega : z < 168) C0 (by show 8 ≤ d + 8; omega) (by show 200 ≤ 60 * d + 200; omega) (Nat.le_refl _) (Nat.le_refl _) hT
    have hW0 := hI d z 0 (ent z as) [] X o Z k hg C0 (Nat.le_refl _) (Nat.le_refl _) (Nat.zero_add k) (Nat.zero_add (6 * k)) (Nat.le_refl _) (Nat.le_refl _) hE 0 d9
    have hlen := lg_sl1 (ad := ad) as (fun v hv => (has v hv).2)
    have hle : (lg_sl (as.map (cv ad))).length ≤ mLo z := by rw [hlen, hn]; exact d6
    have hl9 := lv_entry (as.map (cv ad)) hle
    rw [lg_entry_eq]
    refine hW0 _ s.heap [] ⟨hP, ⟨hD.1, fun k9 q hq => ?_⟩, va_S.rf⟩ ⟨⟨?_, hl9.2.1, fun i v hv h1 => ?_⟩, ?_, fun v hv => ?_⟩ (fun v hv => nomatch hv)
    · obtain ⟨q', h2, rfl⟩ := wW_ad hq
      exact Or.inl ⟨q', List.mem_of_getElem? h2, rfl⟩
    · rw [hl9.1]
      unfold ent
      rw [List.length_append, List.length_replicate]
      omega
    · unfold ent at hv
      by_cases hi : i < as.length
      · rw [List.getElem?_append_left hi] at hv
        have h8 := lv_args1 (ad := ad) as 0 (fun v hv => (has v hv).2) i v hv
        rw [Nat.zero_add] at h8
        exact hl9.2.2 _ h8
      · rw [List.getElem?_append_right (by omega)] at hv
        have h8 := List.eq_of_mem_replicate (List.mem_of_getElem? hv)
        subst h8
        cases h1
    · unfold ent
      rw [List.length_append, List.length_replicate]
      omega
    · unfold ent at hv
      rcases List.mem_append.mp hv with h | h
      · exact (has v h).1
      · rw [List.eq_of_mem_replicate h]
        trivial
  cases hh : mHh z with
  | none =>
    have hcode : mCw z = .code (mNm z) (mBy z) (mLo z) (mRt z) := by unfold mCw; rw [hh]
    exact vx_ofW d4 (show wsY z = Jvm.Cond.code (mNm z) (mBy z) (mLo z) (mRt z) :: lwG from by unfold wsY; rw [hcode]) (fun p e s m args below meth c s₁ B hml _ hv => body p e s m args below meth c s₁ B hml hv)
  | some h9 =>
    have hcode : mCw z = .codeWith (mNm z) (mBy z) (mLo z) (mRt z) h9 := by unfold mCw; rw [hh]
    exact vx_ofWH d4 (show wsY z = Jvm.Cond.codeWith (mNm z) (mBy z) (mLo z) (mRt z) h9 :: lwG from by unfold wsY; rw [hcode]) body
theorem sim_all (hl : l.stackTraces = false) : ∀ n, Sim l sc n := by
  intro n
  induction n with
  | zero =>
    intro d y i L S X o Z k h
    exact h.elim
  | succ n ih =>
    intro d y i L S X o Z k h p e R s m args below meth c cells slots mc ms Q tc ad dC dI A C0 hfr hlo hmc hms hRc hRs hE pc hpc
    obtain ⟨sg, hsg, L', S', X', P, hx, hP, hT⟩ := h
    have hy := code_lt hsg
    have ok := List.all_eq_true.mp (okY_all y hy) sg (List.mem_of_getElem? hsg)
    simp only [Bool.and_eq_true] at ok
    have e1 : pc = sg.1 := by
      unfold sPc at hpc
      rw [hsg] at hpc
      exact (Option.some.inj hpc).symm
    subst e1
    exact simOps C0 ⟨by omega, by omega, by omega, by omega⟩ sg.2.1 ok.1 hx hP (simTm (fun d z as X o Z k => ct_of hl ih d z as X o Z k) ih hT hy ok.2 C0 hfr hlo hmc hms hRc hRs hE)
end Cts
end
section
/-! runs, without the count of steps -/
def Ev (sc : SC) : GoT := fun d y i L S X o Z k => ∃ n, Go sc n d y i L S X o Z k
theorem Cl_mono {r1 r2 : GoT} (h : ∀ d y i L S X o Z k, r1 d y i L S X o Z k → r2 d y i L S X o Z k) {d y z nx : Nat} {L S : List AV} {X : XT} {o : OUT} {Z : XT} {k : Nat} (hT : Cl r1 d y z nx L S X o Z k) : Cl r2 d y z nx L S X o Z k := by
  obtain ⟨d', o1, X1, k1, h1, h2, h3, h4, h5, h6, h7⟩ := hT
  refine ⟨d', o1, X1, k1, h1, h2, h3, h4, h5, h _ _ _ _ _ _ _ _ _ h6, ?_⟩
  rcases o1 with v | x
  · rcases v with _ | v
    · obtain ⟨k2, h8, h9⟩ := h7
      exact ⟨k2, h _ _ _ _ _ _ _ _ _ h8, h9⟩
    · obtain ⟨k2, h8, h9⟩ := h7
      exact ⟨k2, h _ _ _ _ _ _ _ _ _ h8, h9⟩
  · rcases h7 with h7 | ⟨g, h8, h9, k2, h10, h11⟩
    · exact Or.inl h7
    · exact Or.inr ⟨g, h8, h9, k2, h _ _ _ _ _ _ _ _ _ h10, h11⟩
theorem Tm_mono {r1 r2 : GoT} (h : ∀ d y i L S X o Z k, r1 d y i L S X o Z k → r2 d y i L S X o Z k) {d y : Nat} {t : Instr × Nat × Nat × Nat} {L S : List AV} {X : XT} {o : OUT} {Z : XT} {k : Nat} (hT : Tm r1 d y t L S X o Z k) : Tm r2 d y t L S X o Z k := by
  obtain ⟨ins, ln, a, b⟩ := t
  cases ins
  case nop => exact h _ _ _ _ _ _ _ _ _ hT
  case goto off => exact h _ _ _ _ _ _ _ _ _ hT
  case ifCond q off =>
    rcases S with _ | ⟨x | x, S⟩
    · exact hT.elim
    · exact ⟨fun c => h _ _ _ _ _ _ _ _ _ (hT.1 c), fun c => h _ _ _ _ _ _ _ _ _ (hT.2 c)⟩
    · exact hT.elim
  case if_icmp q off =>
    rcases S with _ | ⟨w | w, _ | ⟨x | x, S⟩⟩
    · exact hT.elim
    · exact hT.elim
    · exact ⟨fun c => h _ _ _ _ _ _ _ _ _ (hT.1 c), fun c => h _ _ _ _ _ _ _ _ _ (hT.2 c)⟩
    · exact hT.elim
    · exact hT.elim
    · exact hT.elim
    · exact hT.elim
  case tableswitch df lo hi offs =>
    rcases S with _ | ⟨x | x, S⟩
    · exact hT.elim
    · exact ⟨hT.1, h _ _ _ _ _ _ _ _ _ hT.2⟩
    · exact hT.elim
  case invokevirtual ix => exact Cl_mono h hT
  case invokestatic ix => exact Cl_mono h hT
  all_goals exact hT
theorem Go_succ {sc : SC} : ∀ (n d y i : Nat) (L S : List AV) (X : XT) (o : OUT) (Z : XT) (k : Nat), Go sc n d y i L S X o Z k → Go sc (n + 1) d y i L S X o Z k := by
  intro n
  induction n with
  | zero => intro d y i L S X o Z k h; exact h.elim
  | succ n ih =>
    intro d y i L S X o Z k h
    obtain ⟨sg, h1, L', S', X', P, h2, h3, h4⟩ := h
    exact ⟨sg, h1, L', S', X', P, h2, h3, Tm_mono ih h4⟩
theorem Go_le {sc : SC} {n m d y i : Nat} {L S : List AV} {X : XT} {o : OUT} {Z : XT} {k : Nat} (hnm : n ≤ m) (h : Go sc n d y i L S X o Z k) : Go sc m d y i L S X o Z k := by
  obtain ⟨q, rfl⟩ := Nat.le.dest hnm
  induction q with
  | zero => exact h
  | succ q ih => exact Go_succ _ _ _ _ _ _ _ _ _ _ (ih (Nat.le_add_right _ _))
theorem Cl_d {sc : SC} {n d y z nx : Nat} {L S : List AV} {X : XT} {o : OUT} {Z : XT} {k : Nat} (ih : ∀ (d y i : Nat) (L S : List AV) (X : XT) (o : OUT) (Z : XT) (k : Nat), Go sc n d y i L S X o Z k → Go sc n (d + 1) y i L S X o Z k) (hT : Cl (Go sc n) d y z nx L S X o Z k) : Cl (Go sc n) (d + 1) y z nx L S X o Z k := by
  obtain ⟨d', o1, X1, k1, rfl, h2, h3, h4, h5, h6, h7⟩ := hT
  refine ⟨d' + 1, o1, X1, k1, rfl, h2, h3, h4, h5, ih _ _ _ _ _ _ _ _ _ h6, ?_⟩
  rcases o1 with v | x
  · rcases v with _ | v
    · obtain ⟨k2, h8, h9⟩ := h7
      exact ⟨k2, ih _ _ _ _ _ _ _ _ _ h8, h9⟩
    · obtain ⟨k2, h8, h9⟩ := h7
      exact ⟨k2, ih _ _ _ _ _ _ _ _ _ h8, h9⟩
  · rcases h7 with h7 | ⟨g, h8, h9, k2, h10, h11⟩
    · exact Or.inl h7
    · exact Or.inr ⟨g, h8, h9, k2, ih _ _ _ _ _ _ _ _ _ h10, h11⟩
theorem Go_d {sc : SC} : ∀ (n d y i : Nat) (L S : List AV) (X : XT) (o : OUT) (Z : XT) (k : Nat), Go sc n d y i L S X o Z k → Go sc n (d + 1) y i L S X o Z k := by
  intro n
  induction n with
  | zero => intro d y i L S X o Z k h; exact h.elim
  | succ n ih =>
    intro d y i L S X o Z k h
    obtain ⟨sg, h1, L', S', X', P, h2, h3, hT⟩ := h
    refine ⟨sg, h1, L', S', X', P, h2, h3, ?_⟩
    obtain ⟨st, ops, ins, ln, a, b⟩ := sg
    cases ins
    case nop => exact ih _ _ _ _ _ _ _ _ _ hT
    case goto off => exact ih _ _ _ _ _ _ _ _ _ hT
    case ifCond q off =>
      rcases S' with _ | ⟨x | x, S'⟩
      · exact hT.elim
      · exact ⟨fun c => ih _ _ _ _ _ _ _ _ _ (hT.1 c), fun c => ih _ _ _ _ _ _ _ _ _ (hT.2 c)⟩
      · exact hT.elim
    case if_icmp q off =>
      rcases S' with _ | ⟨w | w, _ | ⟨x | x, S'⟩⟩
      · exact hT.elim
      · exact hT.elim
      · exact ⟨fun c => ih _ _ _ _ _ _ _ _ _ (hT.1 c), fun c => ih _ _ _ _ _ _ _ _ _ (hT.2 c)⟩
      · exact hT.elim
      · exact hT.elim
      · exact hT.elim
      · exact hT.elim
    case tableswitch df lo hi offs =>
      rcases S' with _ | ⟨x | x, S'⟩
      · exact hT.elim
      · exact ⟨hT.1, ih _ _ _ _ _ _ _ _ _ hT.2⟩
      · exact hT.elim
    case invokevirtual ix => exact Cl_d ih hT
    case invokestatic ix => exact Cl_d ih hT
    all_goals exact hT
theorem Ev_d {sc : SC} {d d' y i : Nat} {L S : List AV} {X : XT} {o : OUT} {Z : XT} {k : Nat} (h : Ev sc d y i L S X o Z k) (hd : d ≤ d') : Ev sc d' y i L S X o Z k := by
  obtain ⟨q, rfl⟩ := Nat.le.dest hd
  induction q with
  | zero => exact h
  | succ q ih =>
    obtain ⟨n, hn⟩ := ih (Nat.le_add_right _ _)
    exact ⟨n, Go_d _ _ _ _ _ _ _ _ _ _ hn⟩
theorem Cl_ev {sc : SC} {d y z nx : Nat} {L S : List AV} {X : XT} {o : OUT} {Z : XT} {k : Nat} (hT : Cl (Ev sc) d y z nx L S X o Z k) : ∃ n, Cl (Go sc n) d y z nx L S X o Z k := by
  obtain ⟨d', o1, X1, k1, h1, h2, h3, h4, h5, ⟨n1, h6⟩, h7⟩ := hT
  rcases o1 with v | x
  · rcases v with _ | v
    · obtain ⟨k2, ⟨n2, h8⟩, h9⟩ := h7
      exact ⟨n1 + n2, d', _, X1, k1, h1, h2, h3, h4, h5, Go_le (by omega) h6, k2, Go_le (by omega) h8, h9⟩
    · obtain ⟨k2, ⟨n2, h8⟩, h9⟩ := h7
      exact ⟨n1 + n2, d', _, X1, k1, h1, h2, h3, h4, h5, Go_le (by omega) h6, k2, Go_le (by omega) h8, h9⟩
  · rcases h7 with h7 | ⟨g, h8, h9, k2, ⟨n2, h10⟩, h11⟩
    · exact ⟨n1, d', _, X1, k1, h1, h2, h3, h4, h5, h6, Or.inl h7⟩
    · exact ⟨n1 + n2, d', _, X1, k1, h1, h2, h3, h4, h5, Go_le (by omega) h6, Or.inr ⟨g, h8, h9, k2, Go_le (by omega) h10, h11⟩⟩
theorem Tm_ev {sc : SC} {d y : Nat} {t : Instr × Nat × Nat × Nat} {L S : List AV} {X : XT} {o : OUT} {Z : XT} {k : Nat} (hT : Tm (Ev sc) d y t L S X o Z k) : ∃ n, Tm (Go sc n) d y t L S X o Z k := by
  obtain ⟨ins, ln, a, b⟩ := t
  cases ins
  case nop => exact hT
  case goto off => exact hT
  case ifCond q off =>
    rcases S with _ | ⟨x | x, S⟩
    · exact hT.elim
    · by_cases hc : cz q x
      · obtain ⟨n, hn⟩ := hT.1 hc
        exact ⟨n, fun _ => hn, fun h => absurd hc h⟩
      · obtain ⟨n, hn⟩ := hT.2 hc
        exact ⟨n, fun h => absurd h hc, fun _ => hn⟩
    · exact hT.elim
  case if_icmp q off =>
    rcases S with _ | ⟨w | w, _ | ⟨x | x, S⟩⟩
    · exact hT.elim
    · exact hT.elim
    · by_cases hc : ci2 q x w
      · obtain ⟨n, hn⟩ := hT.1 hc
        exact ⟨n, fun _ => hn, fun h => absurd hc h⟩
      · obtain ⟨n, hn⟩ := hT.2 hc
        exact ⟨n, fun h => absurd h hc, fun _ => hn⟩
    · exact hT.elim
    · exact hT.elim
    · exact hT.elim
    · exact hT.elim
  case tableswitch df lo hi offs =>
    rcases S with _ | ⟨x | x, S⟩
    · exact hT.elim
    · obtain ⟨n, hn⟩ := hT.2
      exact ⟨n, hT.1, hn⟩
    · exact hT.elim
  case invokevirtual ix => exact Cl_ev hT
  case invokestatic ix => exact Cl_ev hT
  all_goals exact ⟨0, hT⟩
def TE (sc : SC) (d y : Nat) (sg : SG) (L S : List AV) (X : XT) (o : OUT) (Z : XT) (k : Nat) : Prop := match sxs sc sg.2.1 L S X with
  | (L', S', X', P) => P ∧ Tm (Ev sc) d y sg.2.2 L' S' X' o Z k
/-- a stretch -/
theorem ev_seg {sc : SC} {d y i : Nat} {sg : SG} {L S : List AV} {X : XT} {o : OUT} {Z : XT} {k : Nat} (hs : (code9 y)[i]? = some sg) (h : TE sc d y sg L S X o Z k) : Ev sc d y i L S X o Z k := by
  unfold TE at h
  rcases hx : sxs sc sg.2.1 L S X with ⟨L', S', X', P⟩
  rw [hx] at h
  obtain ⟨n, hn⟩ := Tm_ev h.2
  exact ⟨n + 1, sg, hs, L', S', X', P, hx, h.1, hn⟩
def clk (z : Nat) (S : List AV) : Bool := decide (mNa z ≤ S.length) && decide (((S.drop (mNa z)).map avc).sum ≤ 8) && (S.take (mNa z)).all (fun v => decide (avc v = 1))
/-- a call that returns -/
theorem cl_ret {sc : SC} {d y z nx : Nat} {L S as rest : List AV} {X X1 : XT} {o : OUT} {v : Option AV} {Z : XT} {k : Nat} (h0 : clk z S = true) (h1 : (S.take (mNa z)).reverse = as) (h2 : S.drop (mNa z) = rest) (h3 : rcOk z as) (hc : Ev sc d z 0 (ent z as) [] X (.inl v) X1 0) (hn : Ev sc (d + 1) y nx L (v.toList ++ rest) X1 o Z k) : Cl (Ev sc) (d + 1) y z nx L S X o Z k := by
  simp only [clk, Bool.and_eq_true, decide_eq_true_eq] at h0
  subst h1
  subst h2
  refine ⟨d, _, X1, 0, rfl, h0.1.1, h0.1.2, h0.2, h3, hc, ?_⟩
  rcases v with _ | v
  · exact ⟨k, hn, (Nat.zero_add k).symm⟩
  · exact ⟨k, hn, (Nat.zero_add k).symm⟩
/-- a call that throws, in a method that doesn't catch -/
theorem cl_thr {sc : SC} {d y z nx x : Nat} {L S as : List AV} {X X1 : XT} {k : Nat} (h0 : clk z S = true) (h1 : (S.take (mNa z)).reverse = as) (h3 : rcOk z as) (hy : mHn y = []) (hc : Ev sc d z 0 (ent z as) [] X (.inr x) X1 k) : Cl (Ev sc) (d + 1) y z nx L S X (.inr x) X1 k := by
  simp only [clk, Bool.and_eq_true, decide_eq_true_eq] at h0
  subst h1
  exact ⟨d, _, X1, k, rfl, h0.1.1, h0.1.2, h0.2, h3, hc, Or.inl ⟨hy, rfl, rfl, rfl⟩⟩
/-- a call whose exception is caught -/
theorem cl_cat {sc : SC} {d y z nx x : Nat} {L S as : List AV} {X X1 : XT} {o : OUT} {Z : XT} {k k2 : Nat} {h : Nat × Nat × Nat × Nat} (h0 : clk z S = true) (h1 : (S.take (mNa z)).reverse = as) (h3 : rcOk z as) (hm : h ∈ mHn y) (hx : h.1 = x) (hc : Ev sc d z 0 (ent z as) [] X (.inr x) X1 k) (hn : Ev sc (d + 1) y h.2.2.2 (L.set h.2.2.1 av0) [] X1 o Z k2) : Cl (Ev sc) (d + 1) y z nx L S X o Z (k + k2) := by
  simp only [clk, Bool.and_eq_true, decide_eq_true_eq] at h0
  subst h1
  exact ⟨d, _, X1, k, rfl, h0.1.1, h0.1.2, h0.2, h3, hc, Or.inr ⟨h, hm, hx, k2, hn, rfl⟩⟩
theorem kS0 : kSh 0 = some (.inl (7, [some 1, some 8, some 15, some 19, some 25, none, none, none, none])) := rfl
theorem kS1 : kSh 1 = some (.inr (.inr (.inr (2, 6, 2)))) := rfl
theorem kS2 : kSh 2 = some (.inl (0, [some 3, some 5, some 6, some 7, none, none])) := rfl
theorem kS3 : kSh 3 = some (.inr (.inr (.inr (1, 5, 4)))) := rfl
theorem kS4 : kSh 4 = some (.inr (.inl 5)) := rfl
theorem kS5 : kSh 5 = some (.inr (.inl 5)) := rfl
theorem kS6 : kSh 6 = some (.inr (.inl 5)) := rfl
theorem kS7 : kSh 7 = some (.inr (.inl 5)) := rfl
theorem kS8 : kSh 8 = some (.inl (5, [some 9, some 12, some 13])) := rfl
theorem kS9 : kSh 9 = some (.inl (2, [some 10])) := rfl
theorem kS10 : kSh 10 = some (.inr (.inr (.inr (1, 5, 11)))) := rfl
theorem kS11 : kSh 11 = some (.inr (.inl 4)) := rfl
theorem kS12 : kSh 12 = some (.inr (.inl 5)) := rfl
theorem kS13 : kSh 13 = some (.inr (.inr (.inr (1, 5, 14)))) := rfl
theorem kS14 : kSh 14 = some (.inr (.inl 5)) := rfl
theorem kS15 : kSh 15 = some (.inl (6, [some 16])) := rfl
theorem kS16 : kSh 16 = some (.inl (2, [some 17])) := rfl
theorem kS17 : kSh 17 = some (.inr (.inr (.inr (1, 6, 18)))) := rfl
theorem kS18 : kSh 18 = some (.inr (.inl 5)) := rfl
theorem kS19 : kSh 19 = some (.inl (3, [some 20, some 23, some 24, none, none, none, none])) := rfl
theorem kS20 : kSh 20 = some (.inl (1, [some 21, some 22])) := rfl
theorem kS21 : kSh 21 = some (.inr (.inl 10)) := rfl
theorem kS22 : kSh 22 = some (.inr (.inl 10)) := rfl
theorem kS23 : kSh 23 = some (.inr (.inl 5)) := rfl
theorem kS24 : kSh 24 = some (.inr (.inl 5)) := rfl
theorem kS25 : kSh 25 = some (.inl (4, [some 26])) := rfl
theorem kS26 : kSh 26 = some (.inl (1, [some 27, some 28])) := rfl
theorem kS27 : kSh 27 = some (.inr (.inl 10)) := rfl
theorem kS28 : kSh 28 = some (.inr (.inl 10)) := rfl
theorem kS30 : kSh 30 = some (.inl (8, [none, none, none, none, some 31, some 32, some 33, some 34, some 35, some 36, some 37, some 38, some 39, some 40, some 41, some 42, none])) := rfl
theorem kS31 : kSh 31 = some (.inr (.inl 6)) := rfl
theorem kS32 : kSh 32 = some (.inr (.inl 6)) := rfl
theorem kS33 : kSh 33 = some (.inr (.inl 30)) := rfl
theorem kS34 : kSh 34 = some (.inr (.inl 30)) := rfl
theorem kS35 : kSh 35 = some (.inr (.inl 30)) := rfl
theorem kS36 : kSh 36 = some (.inr (.inl 30)) := rfl
theorem kS37 : kSh 37 = some (.inr (.inl 150)) := rfl
theorem kS38 : kSh 38 = some (.inr (.inl 5)) := rfl
theorem kS39 : kSh 39 = some (.inr (.inl 5)) := rfl
theorem kS40 : kSh 40 = some (.inr (.inl 25)) := rfl
theorem kS41 : kSh 41 = some (.inr (.inl 15)) := rfl
theorem kS42 : kSh 42 = some (.inr (.inl 5)) := rfl
theorem kS43 : kSh 43 = some (.inr (.inr (.inl 1))) := rfl
theorem kS50 : kSh 50 = none := rfl
theorem kS51 : kSh 51 = none := rfl
theorem kS52 : kSh 52 = none := rfl
theorem kS53 : kSh 53 = none := rfl
theorem en0 (a b c : AV) : ent 0 [a, b, c] = [a, b, c, av0, av0] := rfl
theorem en1 (a : AV) : ent 1 [a] = [a] := rfl
theorem en2 (a b : AV) : ent 2 [a, b] = [a, b] := rfl
theorem en3 (a b : AV) : ent 3 [a, b] = [a, b] := rfl
theorem en4 (a b : AV) : ent 4 [a, b] = [a, b] := rfl
theorem en5 (a : AV) : ent 5 [a] = [a] := rfl
theorem en6 (a b c d e : AV) : ent 6 [a, b, c, d, e] = [a, b, c, d, e] := rfl
theorem en7 (a b c : AV) : ent 7 [a, b, c] = [a, b, c] := rfl
theorem en8 (a b c : AV) : ent 8 [a, b, c] = [a, b, c] := rfl
theorem en9 (a b c : AV) : ent 9 [a, b, c] = [a, b, c, av0] := rfl
theorem en10 (a b c : AV) : ent 10 [a, b, c] = [a, b, c, av0] := rfl
theorem en11 (a b c : AV) : ent 11 [a, b, c] = [a, b, c, av0] := rfl
theorem en12 (a b : AV) : ent 12 [a, b] = [a, b, av0, av0] := rfl
theorem en13 (a : AV) : ent 13 [a] = [a, av0, av0, av0] := rfl
theorem en14 (a b : AV) : ent 14 [a, b] = [a, b] := rfl
theorem en15 (a b : AV) : ent 15 [a, b] = [a, b] := rfl
theorem en16 (a b c : AV) : ent 16 [a, b, c] = [a, b, c, av0, av0] := rfl
theorem en17 (a b c : AV) : ent 17 [a, b, c] = [a, b, c, av0, av0] := rfl
theorem en18 (a b c : AV) : ent 18 [a, b, c] = [a, b, c, av0, av0] := rfl
theorem en19 (a b : AV) : ent 19 [a, b] = [a, b] := rfl
theorem en20 (a b : AV) : ent 20 [a, b] = [a, b] := rfl
theorem en21 (a b c d : AV) : ent 21 [a, b, c, d] = [a, b, c, d] := rfl
theorem en22 (a b : AV) : ent 22 [a, b] = [a, b] := rfl
theorem en23 (a b : AV) : ent 23 [a, b] = [a, b] := rfl
theorem en24 (a b c : AV) : ent 24 [a, b, c] = [a, b, c, av0] := rfl
theorem en25 (a b c d e : AV) : ent 25 [a, b, c, d, e] = [a, b, c, d, e, av0, av0, av0, av0, av0] := rfl
theorem en26 (a b : AV) : ent 26 [a, b] = [a, b] := rfl
theorem en27 (a b : AV) : ent 27 [a, b] = [a, b] := rfl
theorem en28 (a b c d : AV) : ent 28 [a, b, c, d] = [a, b, c, d] := rfl
theorem en29 (a b c : AV) : ent 29 [a, b, c] = [a, b, c] := rfl
theorem en30 (a b c d : AV) : ent 30 [a, b, c, d] = [a, b, c, d, av0] := rfl
theorem en31 (a b c d : AV) : ent 31 [a, b, c, d] = [a, b, c, d, av0] := rfl
theorem en32 (a b c d e : AV) : ent 32 [a, b, c, d, e] = [a, b, c, d, e] := rfl
theorem en33 (a b c d e : AV) : ent 33 [a, b, c, d, e] = [a, b, c, d, e] := rfl
theorem en34 (a b c d e : AV) : ent 34 [a, b, c, d, e] = [a, b, c, d, e, av0] := rfl
theorem en35 (a b : AV) : ent 35 [a, b] = [a, b, av0, av0] := rfl
theorem en36 (a b : AV) : ent 36 [a, b] = [a, b, av0, av0, av0] := rfl
theorem en37 (a b c : AV) : ent 37 [a, b, c] = [a, b, c, av0, av0] := rfl
theorem en38 (a b c : AV) : ent 38 [a, b, c] = [a, b, c, av0, av0] := rfl
theorem en39 (a : AV) : ent 39 [a] = [a, av0, av0, av0] := rfl
theorem en40 (a : AV) : ent 40 [a] = [a, av0, av0, av0] := rfl
theorem en41 (a b c d e : AV) : ent 41 [a, b, c, d, e] = [a, b, c, d, e] := rfl
theorem en42 (a b c d e f : AV) : ent 42 [a, b, c, d, e, f] = [a, b, c, d, e, f, av0, av0, av0, av0, av0] := rfl
theorem en43 (a b : AV) : ent 43 [a, b] = [a, b, av0, av0, av0] := rfl
theorem en44 (a b : AV) : ent 44 [a, b] = [a, b] := rfl
theorem en45 (a b : AV) : ent 45 [a, b] = [a, b, av0] := rfl
theorem en46 (a b c : AV) : ent 46 [a, b, c] = [a, b, c] := rfl
theorem en47 (a b c : AV) : ent 47 [a, b, c] = [a, b, c, av0, av0] := rfl
theorem en48 (a b c d e : AV) : ent 48 [a, b, c, d, e] = [a, b, c, d, e, av0, av0] := rfl
theorem en49 (a b c d : AV) : ent 49 [a, b, c, d] = [a, b, c, d, av0, av0, av0] := rfl
theorem en50 (a b c d : AV) : ent 50 [a, b, c, d] = [a, b, c, d, av0, av0, av0] := rfl
theorem en51 (a b c d e : AV) : ent 51 [a, b, c, d, e] = [a, b, c, d, e, av0, av0, av0] := rfl
theorem en52 (a b c d e : AV) : ent 52 [a, b, c, d, e] = [a, b, c, d, e, av0] := rfl
theorem en53 (a b c d e : AV) : ent 53 [a, b, c, d, e] = [a, b, c, d, e] := rfl
theorem en54 (a b c d : AV) : ent 54 [a, b, c, d] = [a, b, c, d, av0, av0, av0, av0, av0, av0] := rfl
theorem en55 (a b : AV) : ent 55 [a, b] = [a, b] := rfl
theorem en56 (a b c : AV) : ent 56 [a, b, c] = [a, b, c, av0, av0] := rfl
theorem en57 (a b : AV) : ent 57 [a, b] = [a, b, av0, av0] := rfl
theorem en58 (a b : AV) : ent 58 [a, b] = [a, b, av0] := rfl
theorem en59 (a b c d e : AV) : ent 59 [a, b, c, d, e] = [a, b, c, d, e, av0] := rfl
theorem en60 (a b c : AV) : ent 60 [a, b, c] = [a, b, c, av0, av0, av0] := rfl
theorem en61 (a b c : AV) : ent 61 [a, b, c] = [a, b, c, av0] := rfl
theorem en62 (a b c : AV) : ent 62 [a, b, c] = [a, b, c, av0] := rfl
theorem en63 (a b c : AV) : ent 63 [a, b, c] = [a, b, c, av0] := rfl
theorem en64 (a b c : AV) : ent 64 [a, b, c] = [a, b, c] := rfl
theorem en65 (a : AV) : ent 65 [a] = [a] := rfl
theorem en66 (a : AV) : ent 66 [a] = [a] := rfl
theorem en67 (a b : AV) : ent 67 [a, b] = [a, b] := rfl
theorem en68 (a b : AV) : ent 68 [a, b] = [a, b, av0] := rfl
theorem en69 (a b : AV) : ent 69 [a, b] = [a, b, av0] := rfl
theorem en70 (a b : AV) : ent 70 [a, b] = [a, b, av0] := rfl
theorem en71 (a b : AV) : ent 71 [a, b] = [a, b, av0] := rfl
theorem en72 (a b : AV) : ent 72 [a, b] = [a, b, av0] := rfl
theorem en73 (a b c : AV) : ent 73 [a, b, c] = [a, b, c, av0] := rfl
theorem en74 (a b c : AV) : ent 74 [a, b, c] = [a, b, c, av0] := rfl
theorem en75 (a b : AV) : ent 75 [a, b] = [a, b] := rfl
theorem en76 (a b : AV) : ent 76 [a, b] = [a, b] := rfl
theorem en77 (a b : AV) : ent 77 [a, b] = [a, b] := rfl
theorem en78 (a b : AV) : ent 78 [a, b] = [a, b, av0, av0, av0] := rfl
theorem en79 (a b : AV) : ent 79 [a, b] = [a, b] := rfl
theorem en80 (a b : AV) : ent 80 [a, b] = [a, b, av0, av0] := rfl
theorem en81 (a b : AV) : ent 81 [a, b] = [a, b, av0] := rfl
theorem en82 (a b : AV) : ent 82 [a, b] = [a, b, av0] := rfl
theorem en83 (a b : AV) : ent 83 [a, b] = [a, b, av0] := rfl
theorem en84 (a b c : AV) : ent 84 [a, b, c] = [a, b, c] := rfl
theorem en85 (a b : AV) : ent 85 [a, b] = [a, b] := rfl
theorem en86 (a b : AV) : ent 86 [a, b] = [a, b, av0] := rfl
theorem en87 (a b : AV) : ent 87 [a, b] = [a, b] := rfl
theorem en88 (a b c : AV) : ent 88 [a, b, c] = [a, b, c, av0, av0] := rfl
theorem en89 (a : AV) : ent 89 [a] = [a] := rfl
theorem en90 (a b c : AV) : ent 90 [a, b, c] = [a, b, c] := rfl
theorem en91 (a b c d : AV) : ent 91 [a, b, c, d] = [a, b, c, d] := rfl
theorem en92 (a b : AV) : ent 92 [a, b] = [a, b] := rfl
theorem en93 (a b : AV) : ent 93 [a, b] = [a, b] := rfl
theorem en94 (a b : AV) : ent 94 [a, b] = [a, b] := rfl
theorem en95 (a b c : AV) : ent 95 [a, b, c] = [a, b, c] := rfl
theorem en96 (a b c : AV) : ent 96 [a, b, c] = [a, b, c] := rfl
theorem en97 (a b c : AV) : ent 97 [a, b, c] = [a, b, c] := rfl
theorem en98 (a b : AV) : ent 98 [a, b] = [a, b, av0] := rfl
theorem en99 (a b : AV) : ent 99 [a, b] = [a, b, av0, av0, av0] := rfl
theorem en100 (a b c d e : AV) : ent 100 [a, b, c, d, e] = [a, b, c, d, e] := rfl
theorem en101 (a b c d e : AV) : ent 101 [a, b, c, d, e] = [a, b, c, d, e, av0] := rfl
theorem en102 (a b c : AV) : ent 102 [a, b, c] = [a, b, c, av0, av0] := rfl
theorem en103 (a b c : AV) : ent 103 [a, b, c] = [a, b, c, av0] := rfl
theorem en104 (a b c : AV) : ent 104 [a, b, c] = [a, b, c, av0] := rfl
theorem en105 (a b c : AV) : ent 105 [a, b, c] = [a, b, c, av0] := rfl
theorem en106 (a b c : AV) : ent 106 [a, b, c] = [a, b, c] := rfl
theorem en107 (a b c : AV) : ent 107 [a, b, c] = [a, b, c, av0, av0] := rfl
theorem en108 (a b c d : AV) : ent 108 [a, b, c, d] = [a, b, c, d, av0, av0, av0, av0, av0] := rfl
theorem en109 (a b : AV) : ent 109 [a, b] = [a, b] := rfl
theorem en110 (a b c : AV) : ent 110 [a, b, c] = [a, b, c, av0, av0, av0, av0, av0, av0] := rfl
theorem en111 (a b c : AV) : ent 111 [a, b, c] = [a, b, c, av0, av0, av0] := rfl
theorem en112 (a b c : AV) : ent 112 [a, b, c] = [a, b, c, av0, av0, av0, av0, av0, av0, av0] := rfl
theorem en113 (a b : AV) : ent 113 [a, b] = [a, b, av0, av0] := rfl
theorem en114 (a b : AV) : ent 114 [a, b] = [a, b] := rfl
theorem en115 (a b c : AV) : ent 115 [a, b, c] = [a, b, c, av0, av0] := rfl
theorem en116 (a : AV) : ent 116 [a] = [a] := rfl
theorem en117 (a : AV) : ent 117 [a] = [a] := rfl
theorem en118 (a b : AV) : ent 118 [a, b] = [a, b] := rfl
theorem en119 (a b : AV) : ent 119 [a, b] = [a, b, av0, av0] := rfl
theorem en120 (a b : AV) : ent 120 [a, b] = [a, b] := rfl
theorem en121 (a b : AV) : ent 121 [a, b] = [a, b] := rfl
theorem en122 (a b : AV) : ent 122 [a, b] = [a, b] := rfl
theorem en123 (a b : AV) : ent 123 [a, b] = [a, b] := rfl
theorem en124 (a b c : AV) : ent 124 [a, b, c] = [a, b, c, av0] := rfl
theorem en125 (a b c : AV) : ent 125 [a, b, c] = [a, b, c, av0] := rfl
theorem en126 (a b : AV) : ent 126 [a, b] = [a, b] := rfl
theorem en127 (a b : AV) : ent 127 [a, b] = [a, b, av0, av0, av0] := rfl
theorem en128 (a b c : AV) : ent 128 [a, b, c] = [a, b, c, av0, av0] := rfl
theorem en129 (a b c : AV) : ent 129 [a, b, c] = [a, b, c, av0, av0, av0, av0] := rfl
theorem en130 (a b : AV) : ent 130 [a, b] = [a, b, av0, av0] := rfl
theorem en131 (a b : AV) : ent 131 [a, b] = [a, b] := rfl
theorem en132 (a b : AV) : ent 132 [a, b] = [a, b] := rfl
theorem en133 (a b : AV) : ent 133 [a, b] = [a, b, av0] := rfl
theorem en134 (a b : AV) : ent 134 [a, b] = [a, b, av0, av0] := rfl
theorem en135 (a b c : AV) : ent 135 [a, b, c] = [a, b, c, av0, av0, av0] := rfl
theorem en136 (a b c : AV) : ent 136 [a, b, c] = [a, b, c, av0, av0, av0] := rfl
theorem en137 (a b : AV) : ent 137 [a, b] = [a, b] := rfl
theorem en138 (a b c : AV) : ent 138 [a, b, c] = [a, b, c, av0, av0, av0] := rfl
theorem en139 (a b : AV) : ent 139 [a, b] = [a, b] := rfl
theorem en140 (a b : AV) : ent 140 [a, b] = [a, b] := rfl
theorem en141 (a b : AV) : ent 141 [a, b] = [a, b, av0, av0] := rfl
theorem en142 (a b : AV) : ent 142 [a, b] = [a, b, av0, av0, av0, av0, av0, av0, av0, av0] := rfl
theorem en143 (a b c : AV) : ent 143 [a, b, c] = [a, b, c, av0] := rfl
theorem en144 (a b c d e f : AV) : ent 144 [a, b, c, d, e, f] = [a, b, c, d, e, f, av0] := rfl
theorem en145 (a b c d : AV) : ent 145 [a, b, c, d] = [a, b, c, d, av0] := rfl
theorem en146 (a b c d : AV) : ent 146 [a, b, c, d] = [a, b, c, d, av0] := rfl
theorem en147 (a b c d : AV) : ent 147 [a, b, c, d] = [a, b, c, d, av0] := rfl
theorem en148 (a b c d : AV) : ent 148 [a, b, c, d] = [a, b, c, d, av0] := rfl
theorem en149 (a b c : AV) : ent 149 [a, b, c] = [a, b, c, av0] := rfl
theorem en150 (a b c : AV) : ent 150 [a, b, c] = [a, b, c, av0] := rfl
theorem en151 (a b c : AV) : ent 151 [a, b, c] = [a, b, c, av0] := rfl
theorem en152 (a b c : AV) : ent 152 [a, b, c] = [a, b, c, av0] := rfl
theorem en153 (a b c : AV) : ent 153 [a, b, c] = [a, b, c, av0] := rfl
theorem en154 (a b c : AV) : ent 154 [a, b, c] = [a, b, c, av0] := rfl
theorem en155 (a b c : AV) : ent 155 [a, b, c] = [a, b, c, av0] := rfl
theorem en156 (a b c d : AV) : ent 156 [a, b, c, d] = [a, b, c, d, av0] := rfl
theorem en157 (a b c d : AV) : ent 157 [a, b, c, d] = [a, b, c, d, av0] := rfl
theorem en158 (a b c : AV) : ent 158 [a, b, c] = [a, b, c, av0] := rfl
theorem en159 (a b c : AV) : ent 159 [a, b, c] = [a, b, c, av0] := rfl
theorem en160 (a b c : AV) : ent 160 [a, b, c] = [a, b, c, av0] := rfl
theorem en161 (a b c : AV) : ent 161 [a, b, c] = [a, b, c, av0] := rfl
theorem en162 (a b c : AV) : ent 162 [a, b, c] = [a, b, c, av0] := rfl
theorem en163 (a b c : AV) : ent 163 [a, b, c] = [a, b, c, av0] := rfl
theorem en164 (a b c : AV) : ent 164 [a, b, c] = [a, b, c, av0] := rfl
theorem en165 (a b c : AV) : ent 165 [a, b, c] = [a, b, c, av0] := rfl
theorem en166 (a b c : AV) : ent 166 [a, b, c] = [a, b, c, av0] := rfl
/-- a loop that counts up -/
theorem loop_up {P : Nat → Prop} {n : Nat} (hx : P n) (hs : ∀ j, j < n → P (j + 1) → P j) : ∀ j, j ≤ n → P j := by
  have h : ∀ q, q ≤ n → P (n - q) := by
    intro q
    induction q with
    | zero => intro _; exact hx
    | succ q ih =>
      intro hq
      refine hs (n - (q + 1)) (by omega) ?_
      rw [show n - (q + 1) + 1 = n - q by omega]
      exact ih (by omega)
  intro j hj
  have h1 := h (n - j) (by omega)
  rwa [show n - (n - j) = j by omega] at h1
abbrev vI (x : Int32) : AV := .inl x
abbrev vR (k : Nat) (a b : Int32) : AV := .inr (.inr (k, a, b))
theorem cv1 {sc : SC} {d y z nx : Nat} {L rest : List AV} {a1 v : AV} {X X1 : XT} {o : OUT} {Z : XT} {k : Nat} (hz : mNa z = 1) (h0 : clk z (a1 :: rest) = true) (h3 : rcOk z [a1]) (hc : Ev sc d z 0 (ent z [a1]) [] X (.inl (some v)) X1 0) (hn : Ev sc (d + 1) y nx L (v :: rest) X1 o Z k) : Cl (Ev sc) (d + 1) y z nx L (a1 :: rest) X o Z k := cl_ret h0 (by rw [hz]; rfl) (by rw [hz]; rfl) h3 hc hn
theorem cu1 {sc : SC} {d y z nx : Nat} {L rest : List AV} {a1 : AV} {X X1 : XT} {o : OUT} {Z : XT} {k : Nat} (hz : mNa z = 1) (h0 : clk z (a1 :: rest) = true) (h3 : rcOk z [a1]) (hc : Ev sc d z 0 (ent z [a1]) [] X (.inl none) X1 0) (hn : Ev sc (d + 1) y nx L (rest) X1 o Z k) : Cl (Ev sc) (d + 1) y z nx L (a1 :: rest) X o Z k := cl_ret h0 (by rw [hz]; rfl) (by rw [hz]; rfl) h3 hc hn
theorem cv2 {sc : SC} {d y z nx : Nat} {L rest : List AV} {a1 a2 v : AV} {X X1 : XT} {o : OUT} {Z : XT} {k : Nat} (hz : mNa z = 2) (h0 : clk z (a2 :: a1 :: rest) = true) (h3 : rcOk z [a1, a2]) (hc : Ev sc d z 0 (ent z [a1, a2]) [] X (.inl (some v)) X1 0) (hn : Ev sc (d + 1) y nx L (v :: rest) X1 o Z k) : Cl (Ev sc) (d + 1) y z nx L (a2 :: a1 :: rest) X o Z k := cl_ret h0 (by rw [hz]; rfl) (by rw [hz]; rfl) h3 hc hn
theorem cu2 {sc : SC} {d y z nx : Nat} {L rest : List AV} {a1 a2 : AV} {X X1 : XT} {o : OUT} {Z : XT} {k : Nat} (hz : mNa z = 2) (h0 : clk z (a2 :: a1 :: rest) = true) (h3 : rcOk z [a1, a2]) (hc : Ev sc d z 0 (ent z [a1, a2]) [] X (.inl none) X1 0) (hn : Ev sc (d + 1) y nx L (rest) X1 o Z k) : Cl (Ev sc) (d + 1) y z nx L (a2 :: a1 :: rest) X o Z k := cl_ret h0 (by rw [hz]; rfl) (by rw [hz]; rfl) h3 hc hn
theorem cv3 {sc : SC} {d y z nx : Nat} {L rest : List AV} {a1 a2 a3 v : AV} {X X1 : XT} {o : OUT} {Z : XT} {k : Nat} (hz : mNa z = 3) (h0 : clk z (a3 :: a2 :: a1 :: rest) = true) (h3 : rcOk z [a1, a2, a3]) (hc : Ev sc d z 0 (ent z [a1, a2, a3]) [] X (.inl (some v)) X1 0) (hn : Ev sc (d + 1) y nx L (v :: rest) X1 o Z k) : Cl (Ev sc) (d + 1) y z nx L (a3 :: a2 :: a1 :: rest) X o Z k := cl_ret h0 (by rw [hz]; rfl) (by rw [hz]; rfl) h3 hc hn
theorem cu3 {sc : SC} {d y z nx : Nat} {L rest : List AV} {a1 a2 a3 : AV} {X X1 : XT} {o : OUT} {Z : XT} {k : Nat} (hz : mNa z = 3) (h0 : clk z (a3 :: a2 :: a1 :: rest) = true) (h3 : rcOk z [a1, a2, a3]) (hc : Ev sc d z 0 (ent z [a1, a2, a3]) [] X (.inl none) X1 0) (hn : Ev sc (d + 1) y nx L (rest) X1 o Z k) : Cl (Ev sc) (d + 1) y z nx L (a3 :: a2 :: a1 :: rest) X o Z k := cl_ret h0 (by rw [hz]; rfl) (by rw [hz]; rfl) h3 hc hn
theorem cv4 {sc : SC} {d y z nx : Nat} {L rest : List AV} {a1 a2 a3 a4 v : AV} {X X1 : XT} {o : OUT} {Z : XT} {k : Nat} (hz : mNa z = 4) (h0 : clk z (a4 :: a3 :: a2 :: a1 :: rest) = true) (h3 : rcOk z [a1, a2, a3, a4]) (hc : Ev sc d z 0 (ent z [a1, a2, a3, a4]) [] X (.inl (some v)) X1 0) (hn : Ev sc (d + 1) y nx L (v :: rest) X1 o Z k) : Cl (Ev sc) (d + 1) y z nx L (a4 :: a3 :: a2 :: a1 :: rest) X o Z k := cl_ret h0 (by rw [hz]; rfl) (by rw [hz]; rfl) h3 hc hn
theorem cu4 {sc : SC} {d y z nx : Nat} {L rest : List AV} {a1 a2 a3 a4 : AV} {X X1 : XT} {o : OUT} {Z : XT} {k : Nat} (hz : mNa z = 4) (h0 : clk z (a4 :: a3 :: a2 :: a1 :: rest) = true) (h3 : rcOk z [a1, a2, a3, a4]) (hc : Ev sc d z 0 (ent z [a1, a2, a3, a4]) [] X (.inl none) X1 0) (hn : Ev sc (d + 1) y nx L (rest) X1 o Z k) : Cl (Ev sc) (d + 1) y z nx L (a4 :: a3 :: a2 :: a1 :: rest) X o Z k := cl_ret h0 (by rw [hz]; rfl) (by rw [hz]; rfl) h3 hc hn
theorem cv5 {sc : SC} {d y z nx : Nat} {L rest : List AV} {a1 a2 a3 a4 a5 v : AV} {X X1 : XT} {o : OUT} {Z : XT} {k : Nat} (hz : mNa z = 5) (h0 : clk z (a5 :: a4 :: a3 :: a2 :: a1 :: rest) = true) (h3 : rcOk z [a1, a2, a3, a4, a5]) (hc : Ev sc d z 0 (ent z [a1, a2, a3, a4, a5]) [] X (.inl (some v)) X1 0) (hn : Ev sc (d + 1) y nx L (v :: rest) X1 o Z k) : Cl (Ev sc) (d + 1) y z nx L (a5 :: a4 :: a3 :: a2 :: a1 :: rest) X o Z k := cl_ret h0 (by rw [hz]; rfl) (by rw [hz]; rfl) h3 hc hn
theorem cu5 {sc : SC} {d y z nx : Nat} {L rest : List AV} {a1 a2 a3 a4 a5 : AV} {X X1 : XT} {o : OUT} {Z : XT} {k : Nat} (hz : mNa z = 5) (h0 : clk z (a5 :: a4 :: a3 :: a2 :: a1 :: rest) = true) (h3 : rcOk z [a1, a2, a3, a4, a5]) (hc : Ev sc d z 0 (ent z [a1, a2, a3, a4, a5]) [] X (.inl none) X1 0) (hn : Ev sc (d + 1) y nx L (rest) X1 o Z k) : Cl (Ev sc) (d + 1) y z nx L (a5 :: a4 :: a3 :: a2 :: a1 :: rest) X o Z k := cl_ret h0 (by rw [hz]; rfl) (by rw [hz]; rfl) h3 hc hn
theorem cv6 {sc : SC} {d y z nx : Nat} {L rest : List AV} {a1 a2 a3 a4 a5 a6 v : AV} {X X1 : XT} {o : OUT} {Z : XT} {k : Nat} (hz : mNa z = 6) (h0 : clk z (a6 :: a5 :: a4 :: a3 :: a2 :: a1 :: rest) = true) (h3 : rcOk z [a1, a2, a3, a4, a5, a6]) (hc : Ev sc d z 0 (ent z [a1, a2, a3, a4, a5, a6]) [] X (.inl (some v)) X1 0) (hn : Ev sc (d + 1) y nx L (v :: rest) X1 o Z k) : Cl (Ev sc) (d + 1) y z nx L (a6 :: a5 :: a4 :: a3 :: a2 :: a1 :: rest) X o Z k := cl_ret h0 (by rw [hz]; rfl) (by rw [hz]; rfl) h3 hc hn
theorem cu6 {sc : SC} {d y z nx : Nat} {L rest : List AV} {a1 a2 a3 a4 a5 a6 : AV} {X X1 : XT} {o : OUT} {Z : XT} {k : Nat} (hz : mNa z = 6) (h0 : clk z (a6 :: a5 :: a4 :: a3 :: a2 :: a1 :: rest) = true) (h3 : rcOk z [a1, a2, a3, a4, a5, a6]) (hc : Ev sc d z 0 (ent z [a1, a2, a3, a4, a5, a6]) [] X (.inl none) X1 0) (hn : Ev sc (d + 1) y nx L (rest) X1 o Z k) : Cl (Ev sc) (d + 1) y z nx L (a6 :: a5 :: a4 :: a3 :: a2 :: a1 :: rest) X o Z k := cl_ret h0 (by rw [hz]; rfl) (by rw [hz]; rfl) h3 hc hn
theorem cv7 {sc : SC} {d y z nx : Nat} {L rest : List AV} {a1 a2 a3 a4 a5 a6 a7 v : AV} {X X1 : XT} {o : OUT} {Z : XT} {k : Nat} (hz : mNa z = 7) (h0 : clk z (a7 :: a6 :: a5 :: a4 :: a3 :: a2 :: a1 :: rest) = true) (h3 : rcOk z [a1, a2, a3, a4, a5, a6, a7]) (hc : Ev sc d z 0 (ent z [a1, a2, a3, a4, a5, a6, a7]) [] X (.inl (some v)) X1 0) (hn : Ev sc (d + 1) y nx L (v :: rest) X1 o Z k) : Cl (Ev sc) (d + 1) y z nx L (a7 :: a6 :: a5 :: a4 :: a3 :: a2 :: a1 :: rest) X o Z k := cl_ret h0 (by rw [hz]; rfl) (by rw [hz]; rfl) h3 hc hn
theorem cu7 {sc : SC} {d y z nx : Nat} {L rest : List AV} {a1 a2 a3 a4 a5 a6 a7 : AV} {X X1 : XT} {o : OUT} {Z : XT} {k : Nat} (hz : mNa z = 7) (h0 : clk z (a7 :: a6 :: a5 :: a4 :: a3 :: a2 :: a1 :: rest) = true) (h3 : rcOk z [a1, a2, a3, a4, a5, a6, a7]) (hc : Ev sc d z 0 (ent z [a1, a2, a3, a4, a5, a6, a7]) [] X (.inl none) X1 0) (hn : Ev sc (d + 1) y nx L (rest) X1 o Z k) : Cl (Ev sc) (d + 1) y z nx L (a7 :: a6 :: a5 :: a4 :: a3 :: a2 :: a1 :: rest) X o Z k := cl_ret h0 (by rw [hz]; rfl) (by rw [hz]; rfl) h3 hc hn
def bI (p : Prop) [Decidable p] : Int32 := if p then 1 else 0
theorem bI_t {p : Prop} [Decidable p] (h : p) : bI p = 1 := if_pos h
theorem bI_f {p : Prop} [Decidable p] (h : ¬ p) : bI p = 0 := if_neg h
theorem bI_01 (p : Prop) [Decidable p] : bI p = 0 ∨ bI p = 1 := by
  by_cases h : p
  · exact Or.inr (bI_t h)
  · exact Or.inl (bI_f h)
theorem bI_ne {p : Prop} [Decidable p] : ¬ bI p = 0 ↔ p := by
  by_cases h : p
  · rw [bI_t h]; exact ⟨fun _ => h, fun _ => by decide⟩
  · rw [bI_f h]; exact ⟨fun q => absurd rfl q, fun q => absurd q h⟩
theorem bI_eq {p : Prop} [Decidable p] : bI p = 0 ↔ ¬ p := by
  by_cases h : p
  · rw [bI_t h]; exact ⟨fun q => absurd q (by decide), fun q => absurd h q⟩
  · rw [bI_f h]; exact ⟨fun _ => h, fun _ => rfl⟩
def sumN (f : Nat → Int32) : Nat → Int32
  | 0 => 0
  | n + 1 => sumN f n + f n
theorem sumN_congr {f g : Nat → Int32} : ∀ {n : Nat}, (∀ j, j < n → f j = g j) → sumN f n = sumN g n
  | 0, _ => rfl
  | n + 1, h => by rw [sumN, sumN, sumN_congr (fun j hj => h j (by omega)), h n (by omega)]
theorem sumN_zero {f : Nat → Int32} : ∀ {n : Nat}, (∀ j, j < n → f j = 0) → sumN f n = 0
  | 0, _ => rfl
  | n + 1, h => by rw [sumN, sumN_zero (fun j hj => h j (by omega)), h n (by omega)]; rfl
theorem vpn {j n : Nat} (h : j < n) (hn : n < 1000) : vp_in (nI j) n := vp_in_nI h (by omega)
theorem nle {a b : Nat} (h : a < b) (hb : b < 1000) : ¬ nI b ≤ nI a := nI_ge h (by omega)
theorem nleI {a b : Nat} (h : a ≤ b) (hb : b < 1000) : nI a ≤ nI b := nI_le h (by omega)
theorem i_nlt {x y : Int32} (h : x ≤ y) : ¬ y < x := fun q => by
  rw [Int32.lt_iff_toInt_lt] at q
  rw [Int32.le_iff_toInt_le] at h
  omega
theorem i_lt {x y : Int32} (h : ¬ x ≤ y) : y < x := by
  rw [Int32.lt_iff_toInt_lt]
  rw [Int32.le_iff_toInt_le] at h
  omega
theorem i_le {x y : Int32} (h : ¬ x < y) : y ≤ x := by
  rw [Int32.le_iff_toInt_le]
  rw [Int32.lt_iff_toInt_lt] at h
  omega
theorem i_irr (x : Int32) : ¬ x < x := fun q => by
  rw [Int32.lt_iff_toInt_lt] at q
  omega
theorem i_tr {x y z : Int32} (h1 : x < y) (h2 : y < z) : x < z := by
  rw [Int32.lt_iff_toInt_lt] at *
  omega
theorem i_tri {x y : Int32} (h : ¬ x = y) : x < y ∨ y < x := by
  rw [Int32.lt_iff_toInt_lt, Int32.lt_iff_toInt_lt]
  have h2 : x.toInt ≠ y.toInt := fun q => h (Int32.toInt_inj.mp q)
  omega
theorem i_ne {x y : Int32} (h : x < y) : ¬ x = y := fun q => i_irr x (by rw [q] at h ⊢; exact h)
end
section
/-! what the methods of a group do: g is its number -/
section Grp
variable {sc : SC} {d : Nat} {X : XT} {g : Int32}
theorem s_size : Ev sc d 1 0 (ent 1 [vR 2 0 g]) [] X (.inl (some (.inl (X.1 2 0 g 5)))) X 0 := by
  rw [en1]
  refine ev_seg rfl ?_
  simp only [TE, sxs, sx, ldI, ldA, stI, stA, inc, gtF, ptF, ldX, stX, ldR, ldL, stL, dp1, dp2, Tm, kS0, kS1, kS2, kS3, kS4, kS5, kS6, kS7, kS8, kS9, kS10, kS11, kS12, kS13, kS14, kS15, kS16, kS17, kS18, kS19, kS20, kS21, kS22, kS23, kS24, kS25, kS26, kS27, kS28, kS30, kS31, kS32, kS33, kS34, kS35, kS36, kS37, kS38, kS39, kS40, kS41, kS42, kS43, kS50, kS51, kS52, kS53, List.getElem?_cons_zero, List.getElem?_cons_succ, List.set_cons_zero, List.set_cons_succ, List.length_cons, List.length_nil, List.drop_succ_cons, List.drop_zero, List.cons_append, List.nil_append, Option.toList_some, Option.toList_none, cz, ci2, true_and, and_true, and_self, true_or, or_true, nI_1, Nat.reduceAdd, Nat.reduceLT]
theorem s_seatOf {t : Int32} : Ev sc d 3 0 (ent 3 [vR 2 0 g, vI t]) [] X (.inl (some (.inl (t - X.1 2 0 g 4)))) X 0 := by
  rw [en3]
  refine ev_seg rfl ?_
  simp only [TE, sxs, sx, ldI, ldA, stI, stA, inc, gtF, ptF, ldX, stX, ldR, ldL, stL, dp1, dp2, Tm, kS0, kS1, kS2, kS3, kS4, kS5, kS6, kS7, kS8, kS9, kS10, kS11, kS12, kS13, kS14, kS15, kS16, kS17, kS18, kS19, kS20, kS21, kS22, kS23, kS24, kS25, kS26, kS27, kS28, kS30, kS31, kS32, kS33, kS34, kS35, kS36, kS37, kS38, kS39, kS40, kS41, kS42, kS43, kS50, kS51, kS52, kS53, List.getElem?_cons_zero, List.getElem?_cons_succ, List.set_cons_zero, List.set_cons_succ, List.length_cons, List.length_nil, List.drop_succ_cons, List.drop_zero, List.cons_append, List.nil_append, Option.toList_some, Option.toList_none, cz, ci2, true_and, and_true, and_self, true_or, or_true, nI_1, Nat.reduceAdd, Nat.reduceLT]
theorem s_teamOn {t : Int32} : Ev sc d 4 0 (ent 4 [vR 2 0 g, vI t]) [] X (.inl (some (.inl (X.1 2 0 g 4 + t)))) X 0 := by
  rw [en4]
  refine ev_seg rfl ?_
  simp only [TE, sxs, sx, ldI, ldA, stI, stA, inc, gtF, ptF, ldX, stX, ldR, ldL, stL, dp1, dp2, Tm, kS0, kS1, kS2, kS3, kS4, kS5, kS6, kS7, kS8, kS9, kS10, kS11, kS12, kS13, kS14, kS15, kS16, kS17, kS18, kS19, kS20, kS21, kS22, kS23, kS24, kS25, kS26, kS27, kS28, kS30, kS31, kS32, kS33, kS34, kS35, kS36, kS37, kS38, kS39, kS40, kS41, kS42, kS43, kS50, kS51, kS52, kS53, List.getElem?_cons_zero, List.getElem?_cons_succ, List.set_cons_zero, List.set_cons_succ, List.length_cons, List.length_nil, List.drop_succ_cons, List.drop_zero, List.cons_append, List.nil_append, Option.toList_some, Option.toList_none, cz, ci2, true_and, and_true, and_self, true_or, or_true, nI_1, Nat.reduceAdd, Nat.reduceLT]
theorem s_everyone : Ev sc d 5 0 (ent 5 [vR 2 0 g]) [] X (.inl (some (.inl ((1 <<< (X.1 2 0 g 5 &&& 31)) - 1)))) X 0 := by
  rw [en5]
  refine ev_seg rfl ?_
  simp only [TE, sxs, sx, ldI, ldA, stI, stA, inc, gtF, ptF, ldX, stX, ldR, ldL, stL, dp1, dp2, Tm, kS0, kS1, kS2, kS3, kS4, kS5, kS6, kS7, kS8, kS9, kS10, kS11, kS12, kS13, kS14, kS15, kS16, kS17, kS18, kS19, kS20, kS21, kS22, kS23, kS24, kS25, kS26, kS27, kS28, kS30, kS31, kS32, kS33, kS34, kS35, kS36, kS37, kS38, kS39, kS40, kS41, kS42, kS43, kS50, kS51, kS52, kS53, List.getElem?_cons_zero, List.getElem?_cons_succ, List.set_cons_zero, List.set_cons_succ, List.length_cons, List.length_nil, List.drop_succ_cons, List.drop_zero, List.cons_append, List.nil_append, Option.toList_some, Option.toList_none, cz, ci2, true_and, and_true, and_self, true_or, or_true, nI_1, Nat.reduceAdd, Nat.reduceLT]
theorem s_hasTeam {t : Int32} : Ev sc d 2 0 (ent 2 [vR 2 0 g, vI t]) [] X (.inl (some (.inl (bI (X.1 2 0 g 4 ≤ t ∧ t < X.1 2 0 g 4 + X.1 2 0 g 5))))) X 0 := by
  rw [en2]
  refine ev_seg rfl ?_
  simp only [TE, sxs, sx, ldI, ldA, stI, stA, inc, gtF, ptF, ldX, stX, ldR, ldL, stL, dp1, dp2, Tm, kS0, kS1, kS2, kS3, kS4, kS5, kS6, kS7, kS8, kS9, kS10, kS11, kS12, kS13, kS14, kS15, kS16, kS17, kS18, kS19, kS20, kS21, kS22, kS23, kS24, kS25, kS26, kS27, kS28, kS30, kS31, kS32, kS33, kS34, kS35, kS36, kS37, kS38, kS39, kS40, kS41, kS42, kS43, kS50, kS51, kS52, kS53, List.getElem?_cons_zero, List.getElem?_cons_succ, List.set_cons_zero, List.set_cons_succ, List.length_cons, List.length_nil, List.drop_succ_cons, List.drop_zero, List.cons_append, List.nil_append, Option.toList_some, Option.toList_none, cz, ci2, true_and, and_true, and_self, true_or, or_true, nI_1, Nat.reduceAdd, Nat.reduceLT]
  refine ⟨fun h => ?_, fun h => ?_⟩
  · rw [bI_f (fun q => by have := Int32.lt_iff_toInt_lt.mp h; have := Int32.le_iff_toInt_le.mp q.1; omega)]
    refine ev_seg rfl ?_
    simp only [TE, sxs, sx, ldI, ldA, stI, stA, inc, gtF, ptF, ldX, stX, ldR, ldL, stL, dp1, dp2, Tm, kS0, kS1, kS2, kS3, kS4, kS5, kS6, kS7, kS8, kS9, kS10, kS11, kS12, kS13, kS14, kS15, kS16, kS17, kS18, kS19, kS20, kS21, kS22, kS23, kS24, kS25, kS26, kS27, kS28, kS30, kS31, kS32, kS33, kS34, kS35, kS36, kS37, kS38, kS39, kS40, kS41, kS42, kS43, kS50, kS51, kS52, kS53, List.getElem?_cons_zero, List.getElem?_cons_succ, List.set_cons_zero, List.set_cons_succ, List.length_cons, List.length_nil, List.drop_succ_cons, List.drop_zero, List.cons_append, List.nil_append, Option.toList_some, Option.toList_none, cz, ci2, true_and, and_true, and_self, true_or, or_true, nI_1, Nat.reduceAdd, Nat.reduceLT]
    refine ev_seg rfl ?_
    simp only [TE, sxs, sx, ldI, ldA, stI, stA, inc, gtF, ptF, ldX, stX, ldR, ldL, stL, dp1, dp2, Tm, kS0, kS1, kS2, kS3, kS4, kS5, kS6, kS7, kS8, kS9, kS10, kS11, kS12, kS13, kS14, kS15, kS16, kS17, kS18, kS19, kS20, kS21, kS22, kS23, kS24, kS25, kS26, kS27, kS28, kS30, kS31, kS32, kS33, kS34, kS35, kS36, kS37, kS38, kS39, kS40, kS41, kS42, kS43, kS50, kS51, kS52, kS53, List.getElem?_cons_zero, List.getElem?_cons_succ, List.set_cons_zero, List.set_cons_succ, List.length_cons, List.length_nil, List.drop_succ_cons, List.drop_zero, List.cons_append, List.nil_append, Option.toList_some, Option.toList_none, cz, ci2, true_and, and_true, and_self, true_or, or_true, nI_1, Nat.reduceAdd, Nat.reduceLT]
  · refine ev_seg rfl ?_
    simp only [TE, sxs, sx, ldI, ldA, stI, stA, inc, gtF, ptF, ldX, stX, ldR, ldL, stL, dp1, dp2, Tm, kS0, kS1, kS2, kS3, kS4, kS5, kS6, kS7, kS8, kS9, kS10, kS11, kS12, kS13, kS14, kS15, kS16, kS17, kS18, kS19, kS20, kS21, kS22, kS23, kS24, kS25, kS26, kS27, kS28, kS30, kS31, kS32, kS33, kS34, kS35, kS36, kS37, kS38, kS39, kS40, kS41, kS42, kS43, kS50, kS51, kS52, kS53, List.getElem?_cons_zero, List.getElem?_cons_succ, List.set_cons_zero, List.set_cons_succ, List.length_cons, List.length_nil, List.drop_succ_cons, List.drop_zero, List.cons_append, List.nil_append, Option.toList_some, Option.toList_none, cz, ci2, true_and, and_true, and_self, true_or, or_true, nI_1, Nat.reduceAdd, Nat.reduceLT]
    refine ⟨fun h2 => ?_, fun h2 => ?_⟩
    · rw [bI_f (fun q => by have := Int32.lt_iff_toInt_lt.mp q.2; have := Int32.le_iff_toInt_le.mp h2; omega)]
      refine ev_seg rfl ?_
      simp only [TE, sxs, sx, ldI, ldA, stI, stA, inc, gtF, ptF, ldX, stX, ldR, ldL, stL, dp1, dp2, Tm, kS0, kS1, kS2, kS3, kS4, kS5, kS6, kS7, kS8, kS9, kS10, kS11, kS12, kS13, kS14, kS15, kS16, kS17, kS18, kS19, kS20, kS21, kS22, kS23, kS24, kS25, kS26, kS27, kS28, kS30, kS31, kS32, kS33, kS34, kS35, kS36, kS37, kS38, kS39, kS40, kS41, kS42, kS43, kS50, kS51, kS52, kS53, List.getElem?_cons_zero, List.getElem?_cons_succ, List.set_cons_zero, List.set_cons_succ, List.length_cons, List.length_nil, List.drop_succ_cons, List.drop_zero, List.cons_append, List.nil_append, Option.toList_some, Option.toList_none, cz, ci2, true_and, and_true, and_self, true_or, or_true, nI_1, Nat.reduceAdd, Nat.reduceLT]
      refine ev_seg rfl ?_
      simp only [TE, sxs, sx, ldI, ldA, stI, stA, inc, gtF, ptF, ldX, stX, ldR, ldL, stL, dp1, dp2, Tm, kS0, kS1, kS2, kS3, kS4, kS5, kS6, kS7, kS8, kS9, kS10, kS11, kS12, kS13, kS14, kS15, kS16, kS17, kS18, kS19, kS20, kS21, kS22, kS23, kS24, kS25, kS26, kS27, kS28, kS30, kS31, kS32, kS33, kS34, kS35, kS36, kS37, kS38, kS39, kS40, kS41, kS42, kS43, kS50, kS51, kS52, kS53, List.getElem?_cons_zero, List.getElem?_cons_succ, List.set_cons_zero, List.set_cons_succ, List.length_cons, List.length_nil, List.drop_succ_cons, List.drop_zero, List.cons_append, List.nil_append, Option.toList_some, Option.toList_none, cz, ci2, true_and, and_true, and_self, true_or, or_true, nI_1, Nat.reduceAdd, Nat.reduceLT]
    · rw [bI_t ⟨by rw [Int32.le_iff_toInt_le]; rw [Int32.lt_iff_toInt_lt] at h; omega, by rw [Int32.lt_iff_toInt_lt]; rw [Int32.le_iff_toInt_le] at h2; omega⟩]
      refine ev_seg rfl ?_
      simp only [TE, sxs, sx, ldI, ldA, stI, stA, inc, gtF, ptF, ldX, stX, ldR, ldL, stL, dp1, dp2, Tm, kS0, kS1, kS2, kS3, kS4, kS5, kS6, kS7, kS8, kS9, kS10, kS11, kS12, kS13, kS14, kS15, kS16, kS17, kS18, kS19, kS20, kS21, kS22, kS23, kS24, kS25, kS26, kS27, kS28, kS30, kS31, kS32, kS33, kS34, kS35, kS36, kS37, kS38, kS39, kS40, kS41, kS42, kS43, kS50, kS51, kS52, kS53, List.getElem?_cons_zero, List.getElem?_cons_succ, List.set_cons_zero, List.set_cons_succ, List.length_cons, List.length_nil, List.drop_succ_cons, List.drop_zero, List.cons_append, List.nil_append, Option.toList_some, Option.toList_none, cz, ci2, true_and, and_true, and_self, true_or, or_true, nI_1, Nat.reduceAdd, Nat.reduceLT]
      refine ev_seg rfl ?_
      simp only [TE, sxs, sx, ldI, ldA, stI, stA, inc, gtF, ptF, ldX, stX, ldR, ldL, stL, dp1, dp2, Tm, kS0, kS1, kS2, kS3, kS4, kS5, kS6, kS7, kS8, kS9, kS10, kS11, kS12, kS13, kS14, kS15, kS16, kS17, kS18, kS19, kS20, kS21, kS22, kS23, kS24, kS25, kS26, kS27, kS28, kS30, kS31, kS32, kS33, kS34, kS35, kS36, kS37, kS38, kS39, kS40, kS41, kS42, kS43, kS50, kS51, kS52, kS53, List.getElem?_cons_zero, List.getElem?_cons_succ, List.set_cons_zero, List.set_cons_succ, List.length_cons, List.length_nil, List.drop_succ_cons, List.drop_zero, List.cons_append, List.nil_append, Option.toList_some, Option.toList_none, cz, ci2, true_and, and_true, and_self, true_or, or_true, nI_1, Nat.reduceAdd, Nat.reduceLT]
def tellX (X : XT) (g a b x y : Int32) : XT := (xs (xs X.1 4 g a b x) 4 g b a y, X.2)
theorem s_tell {a b x y : Int32} (ha : vp_in a 5) (hb : vp_in b 5) : Ev sc d 6 0 (ent 6 [vR 2 0 g, vI a, vI b, vI x, vI y]) [] X (.inl none) (tellX X g a b x y) 0 := by
  rw [en6]
  refine ev_seg rfl ?_
  simp only [TE, sxs, sx, ldI, ldA, stI, stA, inc, gtF, ptF, ldX, stX, ldR, ldL, stL, dp1, dp2, Tm, kS0, kS1, kS2, kS3, kS4, kS5, kS6, kS7, kS8, kS9, kS10, kS11, kS12, kS13, kS14, kS15, kS16, kS17, kS18, kS19, kS20, kS21, kS22, kS23, kS24, kS25, kS26, kS27, kS28, kS30, kS31, kS32, kS33, kS34, kS35, kS36, kS37, kS38, kS39, kS40, kS41, kS42, kS43, kS50, kS51, kS52, kS53, List.getElem?_cons_zero, List.getElem?_cons_succ, List.set_cons_zero, List.set_cons_succ, List.length_cons, List.length_nil, List.drop_succ_cons, List.drop_zero, List.cons_append, List.nil_append, Option.toList_some, Option.toList_none, cz, ci2, true_and, and_true, and_self, true_or, or_true, nI_1, Nat.reduceAdd, Nat.reduceLT]
  exact ⟨(by first | assumption | (and_intros <;> first | assumption | trivial | decide)), rfl⟩
theorem s_untell {a b : Int32} (ha : vp_in a 5) (hb : vp_in b 5) : Ev sc (d + 1) 7 0 (ent 7 [vR 2 0 g, vI a, vI b]) [] X (.inl none) (tellX X g a b (-1) (-1)) 0 := by
  rw [en7]
  refine ev_seg rfl ?_
  simp only [TE, sxs, sx, ldI, ldA, stI, stA, inc, gtF, ptF, ldX, stX, ldR, ldL, stL, dp1, dp2, Tm, kS0, kS1, kS2, kS3, kS4, kS5, kS6, kS7, kS8, kS9, kS10, kS11, kS12, kS13, kS14, kS15, kS16, kS17, kS18, kS19, kS20, kS21, kS22, kS23, kS24, kS25, kS26, kS27, kS28, kS30, kS31, kS32, kS33, kS34, kS35, kS36, kS37, kS38, kS39, kS40, kS41, kS42, kS43, kS50, kS51, kS52, kS53, List.getElem?_cons_zero, List.getElem?_cons_succ, List.set_cons_zero, List.set_cons_succ, List.length_cons, List.length_nil, List.drop_succ_cons, List.drop_zero, List.cons_append, List.nil_append, Option.toList_some, Option.toList_none, cz, ci2, true_and, and_true, and_self, true_or, or_true, nI_1, Nat.reduceAdd, Nat.reduceLT]
  refine cu5 rfl rfl (by first | exact rfl | exact trivial) (s_tell ha hb) ?_
  refine ev_seg rfl ?_
  simp only [TE, sxs, sx, ldI, ldA, stI, stA, inc, gtF, ptF, ldX, stX, ldR, ldL, stL, dp1, dp2, Tm, kS0, kS1, kS2, kS3, kS4, kS5, kS6, kS7, kS8, kS9, kS10, kS11, kS12, kS13, kS14, kS15, kS16, kS17, kS18, kS19, kS20, kS21, kS22, kS23, kS24, kS25, kS26, kS27, kS28, kS30, kS31, kS32, kS33, kS34, kS35, kS36, kS37, kS38, kS39, kS40, kS41, kS42, kS43, kS50, kS51, kS52, kS53, List.getElem?_cons_zero, List.getElem?_cons_succ, List.set_cons_zero, List.set_cons_succ, List.length_cons, List.length_nil, List.drop_succ_cons, List.drop_zero, List.cons_append, List.nil_append, Option.toList_some, Option.toList_none, cz, ci2, true_and, and_true, and_self, true_or, or_true, nI_1, Nat.reduceAdd, Nat.reduceLT]
theorem s_hasResult {a b : Int32} (ha : vp_in a 5) (hb : vp_in b 5) : Ev sc d 8 0 (ent 8 [vR 2 0 g, vI a, vI b]) [] X (.inl (some (.inl (bI (¬ X.1 4 g a b = -1))))) X 0 := by
  rw [en8]
  refine ev_seg rfl ?_
  simp only [TE, sxs, sx, ldI, ldA, stI, stA, inc, gtF, ptF, ldX, stX, ldR, ldL, stL, dp1, dp2, Tm, kS0, kS1, kS2, kS3, kS4, kS5, kS6, kS7, kS8, kS9, kS10, kS11, kS12, kS13, kS14, kS15, kS16, kS17, kS18, kS19, kS20, kS21, kS22, kS23, kS24, kS25, kS26, kS27, kS28, kS30, kS31, kS32, kS33, kS34, kS35, kS36, kS37, kS38, kS39, kS40, kS41, kS42, kS43, kS50, kS51, kS52, kS53, List.getElem?_cons_zero, List.getElem?_cons_succ, List.set_cons_zero, List.set_cons_succ, List.length_cons, List.length_nil, List.drop_succ_cons, List.drop_zero, List.cons_append, List.nil_append, Option.toList_some, Option.toList_none, cz, ci2, true_and, and_true, and_self, true_or, or_true, nI_1, Nat.reduceAdd, Nat.reduceLT]
  refine ⟨(by first | assumption | (and_intros <;> first | assumption | trivial | decide)), fun h => ?_, fun h => ?_⟩
  · rw [bI_f (fun q => q h)]
    refine ev_seg rfl ?_
    simp only [TE, sxs, sx, ldI, ldA, stI, stA, inc, gtF, ptF, ldX, stX, ldR, ldL, stL, dp1, dp2, Tm, kS0, kS1, kS2, kS3, kS4, kS5, kS6, kS7, kS8, kS9, kS10, kS11, kS12, kS13, kS14, kS15, kS16, kS17, kS18, kS19, kS20, kS21, kS22, kS23, kS24, kS25, kS26, kS27, kS28, kS30, kS31, kS32, kS33, kS34, kS35, kS36, kS37, kS38, kS39, kS40, kS41, kS42, kS43, kS50, kS51, kS52, kS53, List.getElem?_cons_zero, List.getElem?_cons_succ, List.set_cons_zero, List.set_cons_succ, List.length_cons, List.length_nil, List.drop_succ_cons, List.drop_zero, List.cons_append, List.nil_append, Option.toList_some, Option.toList_none, cz, ci2, true_and, and_true, and_self, true_or, or_true, nI_1, Nat.reduceAdd, Nat.reduceLT]
    refine ev_seg rfl ?_
    simp only [TE, sxs, sx, ldI, ldA, stI, stA, inc, gtF, ptF, ldX, stX, ldR, ldL, stL, dp1, dp2, Tm, kS0, kS1, kS2, kS3, kS4, kS5, kS6, kS7, kS8, kS9, kS10, kS11, kS12, kS13, kS14, kS15, kS16, kS17, kS18, kS19, kS20, kS21, kS22, kS23, kS24, kS25, kS26, kS27, kS28, kS30, kS31, kS32, kS33, kS34, kS35, kS36, kS37, kS38, kS39, kS40, kS41, kS42, kS43, kS50, kS51, kS52, kS53, List.getElem?_cons_zero, List.getElem?_cons_succ, List.set_cons_zero, List.set_cons_succ, List.length_cons, List.length_nil, List.drop_succ_cons, List.drop_zero, List.cons_append, List.nil_append, Option.toList_some, Option.toList_none, cz, ci2, true_and, and_true, and_self, true_or, or_true, nI_1, Nat.reduceAdd, Nat.reduceLT]
  · rw [bI_t h]
    refine ev_seg rfl ?_
    simp only [TE, sxs, sx, ldI, ldA, stI, stA, inc, gtF, ptF, ldX, stX, ldR, ldL, stL, dp1, dp2, Tm, kS0, kS1, kS2, kS3, kS4, kS5, kS6, kS7, kS8, kS9, kS10, kS11, kS12, kS13, kS14, kS15, kS16, kS17, kS18, kS19, kS20, kS21, kS22, kS23, kS24, kS25, kS26, kS27, kS28, kS30, kS31, kS32, kS33, kS34, kS35, kS36, kS37, kS38, kS39, kS40, kS41, kS42, kS43, kS50, kS51, kS52, kS53, List.getElem?_cons_zero, List.getElem?_cons_succ, List.set_cons_zero, List.set_cons_succ, List.length_cons, List.length_nil, List.drop_succ_cons, List.drop_zero, List.cons_append, List.nil_append, Option.toList_some, Option.toList_none, cz, ci2, true_and, and_true, and_self, true_or, or_true, nI_1, Nat.reduceAdd, Nat.reduceLT]
    refine ev_seg rfl ?_
    simp only [TE, sxs, sx, ldI, ldA, stI, stA, inc, gtF, ptF, ldX, stX, ldR, ldL, stL, dp1, dp2, Tm, kS0, kS1, kS2, kS3, kS4, kS5, kS6, kS7, kS8, kS9, kS10, kS11, kS12, kS13, kS14, kS15, kS16, kS17, kS18, kS19, kS20, kS21, kS22, kS23, kS24, kS25, kS26, kS27, kS28, kS30, kS31, kS32, kS33, kS34, kS35, kS36, kS37, kS38, kS39, kS40, kS41, kS42, kS43, kS50, kS51, kS52, kS53, List.getElem?_cons_zero, List.getElem?_cons_succ, List.set_cons_zero, List.set_cons_succ, List.length_cons, List.length_nil, List.drop_succ_cons, List.drop_zero, List.cons_append, List.nil_append, Option.toList_some, Option.toList_none, cz, ci2, true_and, and_true, and_self, true_or, or_true, nI_1, Nat.reduceAdd, Nat.reduceLT]
theorem s_putTaken {a v : Int32} (ha : vp_in a 5) : Ev sc d 9 0 (ent 9 [vR 2 0 g, vI a, vI v]) [] X (.inl (some (.inl (X.1 5 0 g a)))) (xs X.1 5 0 g a v, X.2) 0 := by
  rw [en9]
  refine ev_seg rfl ?_
  simp only [TE, sxs, sx, ldI, ldA, stI, stA, inc, gtF, ptF, ldX, stX, ldR, ldL, stL, dp1, dp2, Tm, kS0, kS1, kS2, kS3, kS4, kS5, kS6, kS7, kS8, kS9, kS10, kS11, kS12, kS13, kS14, kS15, kS16, kS17, kS18, kS19, kS20, kS21, kS22, kS23, kS24, kS25, kS26, kS27, kS28, kS30, kS31, kS32, kS33, kS34, kS35, kS36, kS37, kS38, kS39, kS40, kS41, kS42, kS43, kS50, kS51, kS52, kS53, List.getElem?_cons_zero, List.getElem?_cons_succ, List.set_cons_zero, List.set_cons_succ, List.length_cons, List.length_nil, List.drop_succ_cons, List.drop_zero, List.cons_append, List.nil_append, Option.toList_some, Option.toList_none, cz, ci2, true_and, and_true, and_self, true_or, or_true, nI_1, Nat.reduceAdd, Nat.reduceLT]
  exact (by first | assumption | (and_intros <;> first | assumption | trivial | decide))
theorem s_putCards {a v : Int32} (ha : vp_in a 5) : Ev sc d 10 0 (ent 10 [vR 2 0 g, vI a, vI v]) [] X (.inl (some (.inl (X.1 6 0 g a)))) (xs X.1 6 0 g a v, X.2) 0 := by
  rw [en10]
  refine ev_seg rfl ?_
  simp only [TE, sxs, sx, ldI, ldA, stI, stA, inc, gtF, ptF, ldX, stX, ldR, ldL, stL, dp1, dp2, Tm, kS0, kS1, kS2, kS3, kS4, kS5, kS6, kS7, kS8, kS9, kS10, kS11, kS12, kS13, kS14, kS15, kS16, kS17, kS18, kS19, kS20, kS21, kS22, kS23, kS24, kS25, kS26, kS27, kS28, kS30, kS31, kS32, kS33, kS34, kS35, kS36, kS37, kS38, kS39, kS40, kS41, kS42, kS43, kS50, kS51, kS52, kS53, List.getElem?_cons_zero, List.getElem?_cons_succ, List.set_cons_zero, List.set_cons_succ, List.length_cons, List.length_nil, List.drop_succ_cons, List.drop_zero, List.cons_append, List.nil_append, Option.toList_some, Option.toList_none, cz, ci2, true_and, and_true, and_self, true_or, or_true, nI_1, Nat.reduceAdd, Nat.reduceLT]
  exact (by first | assumption | (and_intros <;> first | assumption | trivial | decide))
theorem s_putLot {a v : Int32} (ha : vp_in a 5) : Ev sc d 11 0 (ent 11 [vR 2 0 g, vI a, vI v]) [] X (.inl (some (.inl (X.1 7 0 g a)))) (xs X.1 7 0 g a v, X.2) 0 := by
  rw [en11]
  refine ev_seg rfl ?_
  simp only [TE, sxs, sx, ldI, ldA, stI, stA, inc, gtF, ptF, ldX, stX, ldR, ldL, stL, dp1, dp2, Tm, kS0, kS1, kS2, kS3, kS4, kS5, kS6, kS7, kS8, kS9, kS10, kS11, kS12, kS13, kS14, kS15, kS16, kS17, kS18, kS19, kS20, kS21, kS22, kS23, kS24, kS25, kS26, kS27, kS28, kS30, kS31, kS32, kS33, kS34, kS35, kS36, kS37, kS38, kS39, kS40, kS41, kS42, kS43, kS50, kS51, kS52, kS53, List.getElem?_cons_zero, List.getElem?_cons_succ, List.set_cons_zero, List.set_cons_succ, List.length_cons, List.length_nil, List.drop_succ_cons, List.drop_zero, List.cons_append, List.nil_append, Option.toList_some, Option.toList_none, cz, ci2, true_and, and_true, and_self, true_or, or_true, nI_1, Nat.reduceAdd, Nat.reduceLT]
  exact (by first | assumption | (and_intros <;> first | assumption | trivial | decide))
theorem s_takenFrom {a : Int32} (ha : vp_in a 5) : Ev sc d 15 0 (ent 15 [vR 2 0 g, vI a]) [] X (.inl (some (.inl (X.1 5 0 g a)))) X 0 := by
  rw [en15]
  refine ev_seg rfl ?_
  simp only [TE, sxs, sx, ldI, ldA, stI, stA, inc, gtF, ptF, ldX, stX, ldR, ldL, stL, dp1, dp2, Tm, kS0, kS1, kS2, kS3, kS4, kS5, kS6, kS7, kS8, kS9, kS10, kS11, kS12, kS13, kS14, kS15, kS16, kS17, kS18, kS19, kS20, kS21, kS22, kS23, kS24, kS25, kS26, kS27, kS28, kS30, kS31, kS32, kS33, kS34, kS35, kS36, kS37, kS38, kS39, kS40, kS41, kS42, kS43, kS50, kS51, kS52, kS53, List.getElem?_cons_zero, List.getElem?_cons_succ, List.set_cons_zero, List.set_cons_succ, List.length_cons, List.length_nil, List.drop_succ_cons, List.drop_zero, List.cons_append, List.nil_append, Option.toList_some, Option.toList_none, cz, ci2, true_and, and_true, and_self, true_or, or_true, nI_1, Nat.reduceAdd, Nat.reduceLT]
  exact (by first | assumption | (and_intros <;> first | assumption | trivial | decide))
theorem s_cardMark {a : Int32} (ha : vp_in a 5) : Ev sc d 19 0 (ent 19 [vR 2 0 g, vI a]) [] X (.inl (some (.inl (-X.1 6 0 g a)))) X 0 := by
  rw [en19]
  refine ev_seg rfl ?_
  simp only [TE, sxs, sx, ldI, ldA, stI, stA, inc, gtF, ptF, ldX, stX, ldR, ldL, stL, dp1, dp2, Tm, kS0, kS1, kS2, kS3, kS4, kS5, kS6, kS7, kS8, kS9, kS10, kS11, kS12, kS13, kS14, kS15, kS16, kS17, kS18, kS19, kS20, kS21, kS22, kS23, kS24, kS25, kS26, kS27, kS28, kS30, kS31, kS32, kS33, kS34, kS35, kS36, kS37, kS38, kS39, kS40, kS41, kS42, kS43, kS50, kS51, kS52, kS53, List.getElem?_cons_zero, List.getElem?_cons_succ, List.set_cons_zero, List.set_cons_succ, List.length_cons, List.length_nil, List.drop_succ_cons, List.drop_zero, List.cons_append, List.nil_append, Option.toList_some, Option.toList_none, cz, ci2, true_and, and_true, and_self, true_or, or_true, nI_1, Nat.reduceAdd, Nat.reduceLT]
  exact (by first | assumption | (and_intros <;> first | assumption | trivial | decide))
def lotMk (X : XT) (g a : Int32) : Int32 := -(X.1 7 0 g a * 6 * 5 + X.1 2 0 g 4 + a)
theorem s_lotMark {a : Int32} (ha : vp_in a 5) : Ev sc d 20 0 (ent 20 [vR 2 0 g, vI a]) [] X (.inl (some (.inl (lotMk X g a)))) X 0 := by
  rw [en20]
  refine ev_seg rfl ?_
  simp only [TE, sxs, sx, ldI, ldA, stI, stA, inc, gtF, ptF, ldX, stX, ldR, ldL, stL, dp1, dp2, Tm, kS0, kS1, kS2, kS3, kS4, kS5, kS6, kS7, kS8, kS9, kS10, kS11, kS12, kS13, kS14, kS15, kS16, kS17, kS18, kS19, kS20, kS21, kS22, kS23, kS24, kS25, kS26, kS27, kS28, kS30, kS31, kS32, kS33, kS34, kS35, kS36, kS37, kS38, kS39, kS40, kS41, kS42, kS43, kS50, kS51, kS52, kS53, List.getElem?_cons_zero, List.getElem?_cons_succ, List.set_cons_zero, List.set_cons_succ, List.length_cons, List.length_nil, List.drop_succ_cons, List.drop_zero, List.cons_append, List.nil_append, Option.toList_some, Option.toList_none, cz, ci2, true_and, and_true, and_self, true_or, or_true, nI_1, Nat.reduceAdd, Nat.reduceLT]
  exact ⟨(by first | assumption | (and_intros <;> first | assumption | trivial | decide)), rfl⟩
abbrev bit (set o : Int32) : Prop := ¬ (set >>> (o &&& 31)) &&& 1 = 0
theorem s_counts {a b set : Int32} (ha : vp_in a 5) (hb : vp_in b 5) : Ev sc d 21 0 (ent 21 [vR 2 0 g, vI a, vI b, vI set]) [] X (.inl (some (.inl (bI (bit set b ∧ ¬ X.1 4 g a b = -1))))) X 0 := by
  rw [en21]
  refine ev_seg rfl ?_
  simp only [TE, sxs, sx, ldI, ldA, stI, stA, inc, gtF, ptF, ldX, stX, ldR, ldL, stL, dp1, dp2, Tm, kS0, kS1, kS2, kS3, kS4, kS5, kS6, kS7, kS8, kS9, kS10, kS11, kS12, kS13, kS14, kS15, kS16, kS17, kS18, kS19, kS20, kS21, kS22, kS23, kS24, kS25, kS26, kS27, kS28, kS30, kS31, kS32, kS33, kS34, kS35, kS36, kS37, kS38, kS39, kS40, kS41, kS42, kS43, kS50, kS51, kS52, kS53, List.getElem?_cons_zero, List.getElem?_cons_succ, List.set_cons_zero, List.set_cons_succ, List.length_cons, List.length_nil, List.drop_succ_cons, List.drop_zero, List.cons_append, List.nil_append, Option.toList_some, Option.toList_none, cz, ci2, true_and, and_true, and_self, true_or, or_true, nI_1, Nat.reduceAdd, Nat.reduceLT]
  refine ⟨fun h => ?_, fun h => ?_⟩
  · rw [bI_f (fun q => q.1 h)]
    refine ev_seg rfl ?_
    simp only [TE, sxs, sx, ldI, ldA, stI, stA, inc, gtF, ptF, ldX, stX, ldR, ldL, stL, dp1, dp2, Tm, kS0, kS1, kS2, kS3, kS4, kS5, kS6, kS7, kS8, kS9, kS10, kS11, kS12, kS13, kS14, kS15, kS16, kS17, kS18, kS19, kS20, kS21, kS22, kS23, kS24, kS25, kS26, kS27, kS28, kS30, kS31, kS32, kS33, kS34, kS35, kS36, kS37, kS38, kS39, kS40, kS41, kS42, kS43, kS50, kS51, kS52, kS53, List.getElem?_cons_zero, List.getElem?_cons_succ, List.set_cons_zero, List.set_cons_succ, List.length_cons, List.length_nil, List.drop_succ_cons, List.drop_zero, List.cons_append, List.nil_append, Option.toList_some, Option.toList_none, cz, ci2, true_and, and_true, and_self, true_or, or_true, nI_1, Nat.reduceAdd, Nat.reduceLT]
    refine ev_seg rfl ?_
    simp only [TE, sxs, sx, ldI, ldA, stI, stA, inc, gtF, ptF, ldX, stX, ldR, ldL, stL, dp1, dp2, Tm, kS0, kS1, kS2, kS3, kS4, kS5, kS6, kS7, kS8, kS9, kS10, kS11, kS12, kS13, kS14, kS15, kS16, kS17, kS18, kS19, kS20, kS21, kS22, kS23, kS24, kS25, kS26, kS27, kS28, kS30, kS31, kS32, kS33, kS34, kS35, kS36, kS37, kS38, kS39, kS40, kS41, kS42, kS43, kS50, kS51, kS52, kS53, List.getElem?_cons_zero, List.getElem?_cons_succ, List.set_cons_zero, List.set_cons_succ, List.length_cons, List.length_nil, List.drop_succ_cons, List.drop_zero, List.cons_append, List.nil_append, Option.toList_some, Option.toList_none, cz, ci2, true_and, and_true, and_self, true_or, or_true, nI_1, Nat.reduceAdd, Nat.reduceLT]
  · refine ev_seg rfl ?_
    simp only [TE, sxs, sx, ldI, ldA, stI, stA, inc, gtF, ptF, ldX, stX, ldR, ldL, stL, dp1, dp2, Tm, kS0, kS1, kS2, kS3, kS4, kS5, kS6, kS7, kS8, kS9, kS10, kS11, kS12, kS13, kS14, kS15, kS16, kS17, kS18, kS19, kS20, kS21, kS22, kS23, kS24, kS25, kS26, kS27, kS28, kS30, kS31, kS32, kS33, kS34, kS35, kS36, kS37, kS38, kS39, kS40, kS41, kS42, kS43, kS50, kS51, kS52, kS53, List.getElem?_cons_zero, List.getElem?_cons_succ, List.set_cons_zero, List.set_cons_succ, List.length_cons, List.length_nil, List.drop_succ_cons, List.drop_zero, List.cons_append, List.nil_append, Option.toList_some, Option.toList_none, cz, ci2, true_and, and_true, and_self, true_or, or_true, nI_1, Nat.reduceAdd, Nat.reduceLT]
    refine ⟨(by first | assumption | (and_intros <;> first | assumption | trivial | decide)), fun h2 => ?_, fun h2 => ?_⟩
    · rw [bI_f (fun q => q.2 h2)]
      refine ev_seg rfl ?_
      simp only [TE, sxs, sx, ldI, ldA, stI, stA, inc, gtF, ptF, ldX, stX, ldR, ldL, stL, dp1, dp2, Tm, kS0, kS1, kS2, kS3, kS4, kS5, kS6, kS7, kS8, kS9, kS10, kS11, kS12, kS13, kS14, kS15, kS16, kS17, kS18, kS19, kS20, kS21, kS22, kS23, kS24, kS25, kS26, kS27, kS28, kS30, kS31, kS32, kS33, kS34, kS35, kS36, kS37, kS38, kS39, kS40, kS41, kS42, kS43, kS50, kS51, kS52, kS53, List.getElem?_cons_zero, List.getElem?_cons_succ, List.set_cons_zero, List.set_cons_succ, List.length_cons, List.length_nil, List.drop_succ_cons, List.drop_zero, List.cons_append, List.nil_append, Option.toList_some, Option.toList_none, cz, ci2, true_and, and_true, and_self, true_or, or_true, nI_1, Nat.reduceAdd, Nat.reduceLT]
      refine ev_seg rfl ?_
      simp only [TE, sxs, sx, ldI, ldA, stI, stA, inc, gtF, ptF, ldX, stX, ldR, ldL, stL, dp1, dp2, Tm, kS0, kS1, kS2, kS3, kS4, kS5, kS6, kS7, kS8, kS9, kS10, kS11, kS12, kS13, kS14, kS15, kS16, kS17, kS18, kS19, kS20, kS21, kS22, kS23, kS24, kS25, kS26, kS27, kS28, kS30, kS31, kS32, kS33, kS34, kS35, kS36, kS37, kS38, kS39, kS40, kS41, kS42, kS43, kS50, kS51, kS52, kS53, List.getElem?_cons_zero, List.getElem?_cons_succ, List.set_cons_zero, List.set_cons_succ, List.length_cons, List.length_nil, List.drop_succ_cons, List.drop_zero, List.cons_append, List.nil_append, Option.toList_some, Option.toList_none, cz, ci2, true_and, and_true, and_self, true_or, or_true, nI_1, Nat.reduceAdd, Nat.reduceLT]
    · rw [bI_t ⟨h, h2⟩]
      refine ev_seg rfl ?_
      simp only [TE, sxs, sx, ldI, ldA, stI, stA, inc, gtF, ptF, ldX, stX, ldR, ldL, stL, dp1, dp2, Tm, kS0, kS1, kS2, kS3, kS4, kS5, kS6, kS7, kS8, kS9, kS10, kS11, kS12, kS13, kS14, kS15, kS16, kS17, kS18, kS19, kS20, kS21, kS22, kS23, kS24, kS25, kS26, kS27, kS28, kS30, kS31, kS32, kS33, kS34, kS35, kS36, kS37, kS38, kS39, kS40, kS41, kS42, kS43, kS50, kS51, kS52, kS53, List.getElem?_cons_zero, List.getElem?_cons_succ, List.set_cons_zero, List.set_cons_succ, List.length_cons, List.length_nil, List.drop_succ_cons, List.drop_zero, List.cons_append, List.nil_append, Option.toList_some, Option.toList_none, cz, ci2, true_and, and_true, and_self, true_or, or_true, nI_1, Nat.reduceAdd, Nat.reduceLT]
      refine ev_seg rfl ?_
      simp only [TE, sxs, sx, ldI, ldA, stI, stA, inc, gtF, ptF, ldX, stX, ldR, ldL, stL, dp1, dp2, Tm, kS0, kS1, kS2, kS3, kS4, kS5, kS6, kS7, kS8, kS9, kS10, kS11, kS12, kS13, kS14, kS15, kS16, kS17, kS18, kS19, kS20, kS21, kS22, kS23, kS24, kS25, kS26, kS27, kS28, kS30, kS31, kS32, kS33, kS34, kS35, kS36, kS37, kS38, kS39, kS40, kS41, kS42, kS43, kS50, kS51, kS52, kS53, List.getElem?_cons_zero, List.getElem?_cons_succ, List.set_cons_zero, List.set_cons_succ, List.length_cons, List.length_nil, List.drop_succ_cons, List.drop_zero, List.cons_append, List.nil_append, Option.toList_some, Option.toList_none, cz, ci2, true_and, and_true, and_self, true_or, or_true, nI_1, Nat.reduceAdd, Nat.reduceLT]
def pF (x y : Int32) : Int32 := if x = y then 1 else if x ≤ y then 0 else 3
theorem s_pointsFor {x y : Int32} : Ev sc d 22 0 (ent 22 [vI x, vI y]) [] X (.inl (some (.inl (pF x y)))) X 0 := by
  rw [en22]
  refine ev_seg rfl ?_
  simp only [TE, sxs, sx, ldI, ldA, stI, stA, inc, gtF, ptF, ldX, stX, ldR, ldL, stL, dp1, dp2, Tm, kS0, kS1, kS2, kS3, kS4, kS5, kS6, kS7, kS8, kS9, kS10, kS11, kS12, kS13, kS14, kS15, kS16, kS17, kS18, kS19, kS20, kS21, kS22, kS23, kS24, kS25, kS26, kS27, kS28, kS30, kS31, kS32, kS33, kS34, kS35, kS36, kS37, kS38, kS39, kS40, kS41, kS42, kS43, kS50, kS51, kS52, kS53, List.getElem?_cons_zero, List.getElem?_cons_succ, List.set_cons_zero, List.set_cons_succ, List.length_cons, List.length_nil, List.drop_succ_cons, List.drop_zero, List.cons_append, List.nil_append, Option.toList_some, Option.toList_none, cz, ci2, true_and, and_true, and_self, true_or, or_true, nI_1, Nat.reduceAdd, Nat.reduceLT]
  refine ⟨fun h => ?_, fun h => ?_⟩
  · refine ev_seg rfl ?_
    simp only [TE, sxs, sx, ldI, ldA, stI, stA, inc, gtF, ptF, ldX, stX, ldR, ldL, stL, dp1, dp2, Tm, kS0, kS1, kS2, kS3, kS4, kS5, kS6, kS7, kS8, kS9, kS10, kS11, kS12, kS13, kS14, kS15, kS16, kS17, kS18, kS19, kS20, kS21, kS22, kS23, kS24, kS25, kS26, kS27, kS28, kS30, kS31, kS32, kS33, kS34, kS35, kS36, kS37, kS38, kS39, kS40, kS41, kS42, kS43, kS50, kS51, kS52, kS53, List.getElem?_cons_zero, List.getElem?_cons_succ, List.set_cons_zero, List.set_cons_succ, List.length_cons, List.length_nil, List.drop_succ_cons, List.drop_zero, List.cons_append, List.nil_append, Option.toList_some, Option.toList_none, cz, ci2, true_and, and_true, and_self, true_or, or_true, nI_1, Nat.reduceAdd, Nat.reduceLT]
    refine ⟨fun h2 => ?_, fun h2 => ?_⟩
    · rw [show pF x y = 0 by unfold pF; rw [if_neg h, if_pos h2]]
      refine ev_seg rfl ?_
      simp only [TE, sxs, sx, ldI, ldA, stI, stA, inc, gtF, ptF, ldX, stX, ldR, ldL, stL, dp1, dp2, Tm, kS0, kS1, kS2, kS3, kS4, kS5, kS6, kS7, kS8, kS9, kS10, kS11, kS12, kS13, kS14, kS15, kS16, kS17, kS18, kS19, kS20, kS21, kS22, kS23, kS24, kS25, kS26, kS27, kS28, kS30, kS31, kS32, kS33, kS34, kS35, kS36, kS37, kS38, kS39, kS40, kS41, kS42, kS43, kS50, kS51, kS52, kS53, List.getElem?_cons_zero, List.getElem?_cons_succ, List.set_cons_zero, List.set_cons_succ, List.length_cons, List.length_nil, List.drop_succ_cons, List.drop_zero, List.cons_append, List.nil_append, Option.toList_some, Option.toList_none, cz, ci2, true_and, and_true, and_self, true_or, or_true, nI_1, Nat.reduceAdd, Nat.reduceLT]
      refine ev_seg rfl ?_
      simp only [TE, sxs, sx, ldI, ldA, stI, stA, inc, gtF, ptF, ldX, stX, ldR, ldL, stL, dp1, dp2, Tm, kS0, kS1, kS2, kS3, kS4, kS5, kS6, kS7, kS8, kS9, kS10, kS11, kS12, kS13, kS14, kS15, kS16, kS17, kS18, kS19, kS20, kS21, kS22, kS23, kS24, kS25, kS26, kS27, kS28, kS30, kS31, kS32, kS33, kS34, kS35, kS36, kS37, kS38, kS39, kS40, kS41, kS42, kS43, kS50, kS51, kS52, kS53, List.getElem?_cons_zero, List.getElem?_cons_succ, List.set_cons_zero, List.set_cons_succ, List.length_cons, List.length_nil, List.drop_succ_cons, List.drop_zero, List.cons_append, List.nil_append, Option.toList_some, Option.toList_none, cz, ci2, true_and, and_true, and_self, true_or, or_true, nI_1, Nat.reduceAdd, Nat.reduceLT]
    · rw [show pF x y = 3 by unfold pF; rw [if_neg h, if_neg h2]]
      refine ev_seg rfl ?_
      simp only [TE, sxs, sx, ldI, ldA, stI, stA, inc, gtF, ptF, ldX, stX, ldR, ldL, stL, dp1, dp2, Tm, kS0, kS1, kS2, kS3, kS4, kS5, kS6, kS7, kS8, kS9, kS10, kS11, kS12, kS13, kS14, kS15, kS16, kS17, kS18, kS19, kS20, kS21, kS22, kS23, kS24, kS25, kS26, kS27, kS28, kS30, kS31, kS32, kS33, kS34, kS35, kS36, kS37, kS38, kS39, kS40, kS41, kS42, kS43, kS50, kS51, kS52, kS53, List.getElem?_cons_zero, List.getElem?_cons_succ, List.set_cons_zero, List.set_cons_succ, List.length_cons, List.length_nil, List.drop_succ_cons, List.drop_zero, List.cons_append, List.nil_append, Option.toList_some, Option.toList_none, cz, ci2, true_and, and_true, and_self, true_or, or_true, nI_1, Nat.reduceAdd, Nat.reduceLT]
      refine ev_seg rfl ?_
      simp only [TE, sxs, sx, ldI, ldA, stI, stA, inc, gtF, ptF, ldX, stX, ldR, ldL, stL, dp1, dp2, Tm, kS0, kS1, kS2, kS3, kS4, kS5, kS6, kS7, kS8, kS9, kS10, kS11, kS12, kS13, kS14, kS15, kS16, kS17, kS18, kS19, kS20, kS21, kS22, kS23, kS24, kS25, kS26, kS27, kS28, kS30, kS31, kS32, kS33, kS34, kS35, kS36, kS37, kS38, kS39, kS40, kS41, kS42, kS43, kS50, kS51, kS52, kS53, List.getElem?_cons_zero, List.getElem?_cons_succ, List.set_cons_zero, List.set_cons_succ, List.length_cons, List.length_nil, List.drop_succ_cons, List.drop_zero, List.cons_append, List.nil_append, Option.toList_some, Option.toList_none, cz, ci2, true_and, and_true, and_self, true_or, or_true, nI_1, Nat.reduceAdd, Nat.reduceLT]
  · rw [show pF x y = 1 by unfold pF; rw [if_pos (Classical.not_not.mp h)]]
    refine ev_seg rfl ?_
    simp only [TE, sxs, sx, ldI, ldA, stI, stA, inc, gtF, ptF, ldX, stX, ldR, ldL, stL, dp1, dp2, Tm, kS0, kS1, kS2, kS3, kS4, kS5, kS6, kS7, kS8, kS9, kS10, kS11, kS12, kS13, kS14, kS15, kS16, kS17, kS18, kS19, kS20, kS21, kS22, kS23, kS24, kS25, kS26, kS27, kS28, kS30, kS31, kS32, kS33, kS34, kS35, kS36, kS37, kS38, kS39, kS40, kS41, kS42, kS43, kS50, kS51, kS52, kS53, List.getElem?_cons_zero, List.getElem?_cons_succ, List.set_cons_zero, List.set_cons_succ, List.length_cons, List.length_nil, List.drop_succ_cons, List.drop_zero, List.cons_append, List.nil_append, Option.toList_some, Option.toList_none, cz, ci2, true_and, and_true, and_self, true_or, or_true, nI_1, Nat.reduceAdd, Nat.reduceLT]
/-- the sum of a row's matches against the seats of a set -/
def rowSum (X : XT) (g a set : Int32) (f : Int32 → Int32 → Int32) (n : Nat) : Int32 := sumN (fun j => if bit set (nI j) ∧ ¬ X.1 4 g a (nI j) = -1 then f (X.1 4 g a (nI j)) (X.1 4 g (nI j) a) else 0) n
theorem s_pointsFrom {a set : Int32} {n : Nat} (hn : X.1 2 0 g 5 = nI n) (hn5 : n ≤ 5) (ha : vp_in a 5) : Ev sc (d + 1) 16 0 (ent 16 [vR 2 0 g, vI a, vI set]) [] X (.inl (some (.inl (rowSum X g a set pF n)))) X 0 := by
  rw [en16]
  refine ev_seg rfl ?_
  simp only [TE, sxs, sx, ldI, ldA, stI, stA, inc, gtF, ptF, ldX, stX, ldR, ldL, stL, dp1, dp2, Tm, kS0, kS1, kS2, kS3, kS4, kS5, kS6, kS7, kS8, kS9, kS10, kS11, kS12, kS13, kS14, kS15, kS16, kS17, kS18, kS19, kS20, kS21, kS22, kS23, kS24, kS25, kS26, kS27, kS28, kS30, kS31, kS32, kS33, kS34, kS35, kS36, kS37, kS38, kS39, kS40, kS41, kS42, kS43, kS50, kS51, kS52, kS53, List.getElem?_cons_zero, List.getElem?_cons_succ, List.set_cons_zero, List.set_cons_succ, List.length_cons, List.length_nil, List.drop_succ_cons, List.drop_zero, List.cons_append, List.nil_append, Option.toList_some, Option.toList_none, cz, ci2, true_and, and_true, and_self, true_or, or_true, nI_1, Nat.reduceAdd, Nat.reduceLT]
  have loop : ∀ j, j ≤ n → Ev sc (d + 1) 16 1 [vR 2 0 g, vI a, vI set, vI (rowSum X g a set pF j), vI (nI j)] [] X (.inl (some (.inl (rowSum X g a set pF n)))) X 0 := by
    apply loop_up
    · refine ev_seg rfl ?_
      simp only [TE, sxs, sx, ldI, ldA, stI, stA, inc, gtF, ptF, ldX, stX, ldR, ldL, stL, dp1, dp2, Tm, kS0, kS1, kS2, kS3, kS4, kS5, kS6, kS7, kS8, kS9, kS10, kS11, kS12, kS13, kS14, kS15, kS16, kS17, kS18, kS19, kS20, kS21, kS22, kS23, kS24, kS25, kS26, kS27, kS28, kS30, kS31, kS32, kS33, kS34, kS35, kS36, kS37, kS38, kS39, kS40, kS41, kS42, kS43, kS50, kS51, kS52, kS53, List.getElem?_cons_zero, List.getElem?_cons_succ, List.set_cons_zero, List.set_cons_succ, List.length_cons, List.length_nil, List.drop_succ_cons, List.drop_zero, List.cons_append, List.nil_append, Option.toList_some, Option.toList_none, cz, ci2, true_and, and_true, and_self, true_or, or_true, nI_1, Nat.reduceAdd, Nat.reduceLT, hn]
      refine ⟨fun _ => ?_, fun h => absurd (nleI (Nat.le_refl _) (by omega)) h⟩
      refine ev_seg rfl ?_
      simp only [TE, sxs, sx, ldI, ldA, stI, stA, inc, gtF, ptF, ldX, stX, ldR, ldL, stL, dp1, dp2, Tm, kS0, kS1, kS2, kS3, kS4, kS5, kS6, kS7, kS8, kS9, kS10, kS11, kS12, kS13, kS14, kS15, kS16, kS17, kS18, kS19, kS20, kS21, kS22, kS23, kS24, kS25, kS26, kS27, kS28, kS30, kS31, kS32, kS33, kS34, kS35, kS36, kS37, kS38, kS39, kS40, kS41, kS42, kS43, kS50, kS51, kS52, kS53, List.getElem?_cons_zero, List.getElem?_cons_succ, List.set_cons_zero, List.set_cons_succ, List.length_cons, List.length_nil, List.drop_succ_cons, List.drop_zero, List.cons_append, List.nil_append, Option.toList_some, Option.toList_none, cz, ci2, true_and, and_true, and_self, true_or, or_true, nI_1, Nat.reduceAdd, Nat.reduceLT]
    · intro j hj ih
      have hj5 : vp_in (nI j) 5 := vpn (by omega) (by decide)
      refine ev_seg rfl ?_
      simp only [TE, sxs, sx, ldI, ldA, stI, stA, inc, gtF, ptF, ldX, stX, ldR, ldL, stL, dp1, dp2, Tm, kS0, kS1, kS2, kS3, kS4, kS5, kS6, kS7, kS8, kS9, kS10, kS11, kS12, kS13, kS14, kS15, kS16, kS17, kS18, kS19, kS20, kS21, kS22, kS23, kS24, kS25, kS26, kS27, kS28, kS30, kS31, kS32, kS33, kS34, kS35, kS36, kS37, kS38, kS39, kS40, kS41, kS42, kS43, kS50, kS51, kS52, kS53, List.getElem?_cons_zero, List.getElem?_cons_succ, List.set_cons_zero, List.set_cons_succ, List.length_cons, List.length_nil, List.drop_succ_cons, List.drop_zero, List.cons_append, List.nil_append, Option.toList_some, Option.toList_none, cz, ci2, true_and, and_true, and_self, true_or, or_true, nI_1, Nat.reduceAdd, Nat.reduceLT, hn]
      refine ⟨fun h => absurd h (nle hj (by omega)), fun _ => ?_⟩
      refine ev_seg rfl ?_
      simp only [TE, sxs, sx, ldI, ldA, stI, stA, inc, gtF, ptF, ldX, stX, ldR, ldL, stL, dp1, dp2, Tm, kS0, kS1, kS2, kS3, kS4, kS5, kS6, kS7, kS8, kS9, kS10, kS11, kS12, kS13, kS14, kS15, kS16, kS17, kS18, kS19, kS20, kS21, kS22, kS23, kS24, kS25, kS26, kS27, kS28, kS30, kS31, kS32, kS33, kS34, kS35, kS36, kS37, kS38, kS39, kS40, kS41, kS42, kS43, kS50, kS51, kS52, kS53, List.getElem?_cons_zero, List.getElem?_cons_succ, List.set_cons_zero, List.set_cons_succ, List.length_cons, List.length_nil, List.drop_succ_cons, List.drop_zero, List.cons_append, List.nil_append, Option.toList_some, Option.toList_none, cz, ci2, true_and, and_true, and_self, true_or, or_true, nI_1, Nat.reduceAdd, Nat.reduceLT]
      refine cv4 rfl rfl (by first | exact rfl | exact trivial) (s_counts ha hj5) ?_
      refine ev_seg rfl ?_
      simp only [TE, sxs, sx, ldI, ldA, stI, stA, inc, gtF, ptF, ldX, stX, ldR, ldL, stL, dp1, dp2, Tm, kS0, kS1, kS2, kS3, kS4, kS5, kS6, kS7, kS8, kS9, kS10, kS11, kS12, kS13, kS14, kS15, kS16, kS17, kS18, kS19, kS20, kS21, kS22, kS23, kS24, kS25, kS26, kS27, kS28, kS30, kS31, kS32, kS33, kS34, kS35, kS36, kS37, kS38, kS39, kS40, kS41, kS42, kS43, kS50, kS51, kS52, kS53, List.getElem?_cons_zero, List.getElem?_cons_succ, List.set_cons_zero, List.set_cons_succ, List.length_cons, List.length_nil, List.drop_succ_cons, List.drop_zero, List.cons_append, List.nil_append, Option.toList_some, Option.toList_none, cz, ci2, true_and, and_true, and_self, true_or, or_true, nI_1, Nat.reduceAdd, Nat.reduceLT, bI_eq]
      refine ⟨fun h => ?_, fun h => ?_⟩
      · refine ev_seg rfl ?_
        simp only [TE, sxs, sx, ldI, ldA, stI, stA, inc, gtF, ptF, ldX, stX, ldR, ldL, stL, dp1, dp2, Tm, kS0, kS1, kS2, kS3, kS4, kS5, kS6, kS7, kS8, kS9, kS10, kS11, kS12, kS13, kS14, kS15, kS16, kS17, kS18, kS19, kS20, kS21, kS22, kS23, kS24, kS25, kS26, kS27, kS28, kS30, kS31, kS32, kS33, kS34, kS35, kS36, kS37, kS38, kS39, kS40, kS41, kS42, kS43, kS50, kS51, kS52, kS53, List.getElem?_cons_zero, List.getElem?_cons_succ, List.set_cons_zero, List.set_cons_succ, List.length_cons, List.length_nil, List.drop_succ_cons, List.drop_zero, List.cons_append, List.nil_append, Option.toList_some, Option.toList_none, cz, ci2, true_and, and_true, and_self, true_or, or_true, nI_1, Nat.reduceAdd, Nat.reduceLT]
        have e : rowSum X g a set pF (j + 1) = rowSum X g a set pF j := by
          show _ + (if _ then _ else _) = _
          rw [if_neg h, Int32.add_zero]
          rfl
        rw [e] at ih
        exact ih
      · refine ev_seg rfl ?_
        simp only [TE, sxs, sx, ldI, ldA, stI, stA, inc, gtF, ptF, ldX, stX, ldR, ldL, stL, dp1, dp2, Tm, kS0, kS1, kS2, kS3, kS4, kS5, kS6, kS7, kS8, kS9, kS10, kS11, kS12, kS13, kS14, kS15, kS16, kS17, kS18, kS19, kS20, kS21, kS22, kS23, kS24, kS25, kS26, kS27, kS28, kS30, kS31, kS32, kS33, kS34, kS35, kS36, kS37, kS38, kS39, kS40, kS41, kS42, kS43, kS50, kS51, kS52, kS53, List.getElem?_cons_zero, List.getElem?_cons_succ, List.set_cons_zero, List.set_cons_succ, List.length_cons, List.length_nil, List.drop_succ_cons, List.drop_zero, List.cons_append, List.nil_append, Option.toList_some, Option.toList_none, cz, ci2, true_and, and_true, and_self, true_or, or_true, nI_1, Nat.reduceAdd, Nat.reduceLT]
        refine ⟨(by first | assumption | (and_intros <;> first | assumption | trivial | decide)), cv2 rfl rfl (by first | exact rfl | exact trivial) (s_pointsFor) ?_⟩
        refine ev_seg rfl ?_
        simp only [TE, sxs, sx, ldI, ldA, stI, stA, inc, gtF, ptF, ldX, stX, ldR, ldL, stL, dp1, dp2, Tm, kS0, kS1, kS2, kS3, kS4, kS5, kS6, kS7, kS8, kS9, kS10, kS11, kS12, kS13, kS14, kS15, kS16, kS17, kS18, kS19, kS20, kS21, kS22, kS23, kS24, kS25, kS26, kS27, kS28, kS30, kS31, kS32, kS33, kS34, kS35, kS36, kS37, kS38, kS39, kS40, kS41, kS42, kS43, kS50, kS51, kS52, kS53, List.getElem?_cons_zero, List.getElem?_cons_succ, List.set_cons_zero, List.set_cons_succ, List.length_cons, List.length_nil, List.drop_succ_cons, List.drop_zero, List.cons_append, List.nil_append, Option.toList_some, Option.toList_none, cz, ci2, true_and, and_true, and_self, true_or, or_true, nI_1, Nat.reduceAdd, Nat.reduceLT]
        refine ev_seg rfl ?_
        simp only [TE, sxs, sx, ldI, ldA, stI, stA, inc, gtF, ptF, ldX, stX, ldR, ldL, stL, dp1, dp2, Tm, kS0, kS1, kS2, kS3, kS4, kS5, kS6, kS7, kS8, kS9, kS10, kS11, kS12, kS13, kS14, kS15, kS16, kS17, kS18, kS19, kS20, kS21, kS22, kS23, kS24, kS25, kS26, kS27, kS28, kS30, kS31, kS32, kS33, kS34, kS35, kS36, kS37, kS38, kS39, kS40, kS41, kS42, kS43, kS50, kS51, kS52, kS53, List.getElem?_cons_zero, List.getElem?_cons_succ, List.set_cons_zero, List.set_cons_succ, List.length_cons, List.length_nil, List.drop_succ_cons, List.drop_zero, List.cons_append, List.nil_append, Option.toList_some, Option.toList_none, cz, ci2, true_and, and_true, and_self, true_or, or_true, nI_1, Nat.reduceAdd, Nat.reduceLT]
        have e : rowSum X g a set pF (j + 1) = rowSum X g a set pF j + pF (X.1 4 g a (nI j)) (X.1 4 g (nI j) a) := by
          show _ + (if _ then _ else _) = _
          rw [if_pos (Classical.not_not.mp h)]
          rfl
        rw [e] at ih
        exact ih
  exact loop 0 (Nat.zero_le _)
def dF (x y : Int32) : Int32 := x - y
def gF9 (x _y : Int32) : Int32 := x
theorem s_differenceFrom {a set : Int32} {n : Nat} (hn : X.1 2 0 g 5 = nI n) (hn5 : n ≤ 5) (ha : vp_in a 5) : Ev sc (d + 1) 17 0 (ent 17 [vR 2 0 g, vI a, vI set]) [] X (.inl (some (.inl (rowSum X g a set dF n)))) X 0 := by
  rw [en17]
  refine ev_seg rfl ?_
  simp only [TE, sxs, sx, ldI, ldA, stI, stA, inc, gtF, ptF, ldX, stX, ldR, ldL, stL, dp1, dp2, Tm, kS0, kS1, kS2, kS3, kS4, kS5, kS6, kS7, kS8, kS9, kS10, kS11, kS12, kS13, kS14, kS15, kS16, kS17, kS18, kS19, kS20, kS21, kS22, kS23, kS24, kS25, kS26, kS27, kS28, kS30, kS31, kS32, kS33, kS34, kS35, kS36, kS37, kS38, kS39, kS40, kS41, kS42, kS43, kS50, kS51, kS52, kS53, List.getElem?_cons_zero, List.getElem?_cons_succ, List.set_cons_zero, List.set_cons_succ, List.length_cons, List.length_nil, List.drop_succ_cons, List.drop_zero, List.cons_append, List.nil_append, Option.toList_some, Option.toList_none, cz, ci2, true_and, and_true, and_self, true_or, or_true, nI_1, Nat.reduceAdd, Nat.reduceLT]
  have loop : ∀ j, j ≤ n → Ev sc (d + 1) 17 1 [vR 2 0 g, vI a, vI set, vI (rowSum X g a set dF j), vI (nI j)] [] X (.inl (some (.inl (rowSum X g a set dF n)))) X 0 := by
    apply loop_up
    · refine ev_seg rfl ?_
      simp only [TE, sxs, sx, ldI, ldA, stI, stA, inc, gtF, ptF, ldX, stX, ldR, ldL, stL, dp1, dp2, Tm, kS0, kS1, kS2, kS3, kS4, kS5, kS6, kS7, kS8, kS9, kS10, kS11, kS12, kS13, kS14, kS15, kS16, kS17, kS18, kS19, kS20, kS21, kS22, kS23, kS24, kS25, kS26, kS27, kS28, kS30, kS31, kS32, kS33, kS34, kS35, kS36, kS37, kS38, kS39, kS40, kS41, kS42, kS43, kS50, kS51, kS52, kS53, List.getElem?_cons_zero, List.getElem?_cons_succ, List.set_cons_zero, List.set_cons_succ, List.length_cons, List.length_nil, List.drop_succ_cons, List.drop_zero, List.cons_append, List.nil_append, Option.toList_some, Option.toList_none, cz, ci2, true_and, and_true, and_self, true_or, or_true, nI_1, Nat.reduceAdd, Nat.reduceLT, hn]
      refine ⟨fun _ => ?_, fun h => absurd (nleI (Nat.le_refl _) (by omega)) h⟩
      refine ev_seg rfl ?_
      simp only [TE, sxs, sx, ldI, ldA, stI, stA, inc, gtF, ptF, ldX, stX, ldR, ldL, stL, dp1, dp2, Tm, kS0, kS1, kS2, kS3, kS4, kS5, kS6, kS7, kS8, kS9, kS10, kS11, kS12, kS13, kS14, kS15, kS16, kS17, kS18, kS19, kS20, kS21, kS22, kS23, kS24, kS25, kS26, kS27, kS28, kS30, kS31, kS32, kS33, kS34, kS35, kS36, kS37, kS38, kS39, kS40, kS41, kS42, kS43, kS50, kS51, kS52, kS53, List.getElem?_cons_zero, List.getElem?_cons_succ, List.set_cons_zero, List.set_cons_succ, List.length_cons, List.length_nil, List.drop_succ_cons, List.drop_zero, List.cons_append, List.nil_append, Option.toList_some, Option.toList_none, cz, ci2, true_and, and_true, and_self, true_or, or_true, nI_1, Nat.reduceAdd, Nat.reduceLT]
    · intro j hj ih
      have hj5 : vp_in (nI j) 5 := vpn (by omega) (by decide)
      refine ev_seg rfl ?_
      simp only [TE, sxs, sx, ldI, ldA, stI, stA, inc, gtF, ptF, ldX, stX, ldR, ldL, stL, dp1, dp2, Tm, kS0, kS1, kS2, kS3, kS4, kS5, kS6, kS7, kS8, kS9, kS10, kS11, kS12, kS13, kS14, kS15, kS16, kS17, kS18, kS19, kS20, kS21, kS22, kS23, kS24, kS25, kS26, kS27, kS28, kS30, kS31, kS32, kS33, kS34, kS35, kS36, kS37, kS38, kS39, kS40, kS41, kS42, kS43, kS50, kS51, kS52, kS53, List.getElem?_cons_zero, List.getElem?_cons_succ, List.set_cons_zero, List.set_cons_succ, List.length_cons, List.length_nil, List.drop_succ_cons, List.drop_zero, List.cons_append, List.nil_append, Option.toList_some, Option.toList_none, cz, ci2, true_and, and_true, and_self, true_or, or_true, nI_1, Nat.reduceAdd, Nat.reduceLT, hn]
      refine ⟨fun h => absurd h (nle hj (by omega)), fun _ => ?_⟩
      refine ev_seg rfl ?_
      simp only [TE, sxs, sx, ldI, ldA, stI, stA, inc, gtF, ptF, ldX, stX, ldR, ldL, stL, dp1, dp2, Tm, kS0, kS1, kS2, kS3, kS4, kS5, kS6, kS7, kS8, kS9, kS10, kS11, kS12, kS13, kS14, kS15, kS16, kS17, kS18, kS19, kS20, kS21, kS22, kS23, kS24, kS25, kS26, kS27, kS28, kS30, kS31, kS32, kS33, kS34, kS35, kS36, kS37, kS38, kS39, kS40, kS41, kS42, kS43, kS50, kS51, kS52, kS53, List.getElem?_cons_zero, List.getElem?_cons_succ, List.set_cons_zero, List.set_cons_succ, List.length_cons, List.length_nil, List.drop_succ_cons, List.drop_zero, List.cons_append, List.nil_append, Option.toList_some, Option.toList_none, cz, ci2, true_and, and_true, and_self, true_or, or_true, nI_1, Nat.reduceAdd, Nat.reduceLT]
      refine cv4 rfl rfl (by first | exact rfl | exact trivial) (s_counts ha hj5) ?_
      refine ev_seg rfl ?_
      simp only [TE, sxs, sx, ldI, ldA, stI, stA, inc, gtF, ptF, ldX, stX, ldR, ldL, stL, dp1, dp2, Tm, kS0, kS1, kS2, kS3, kS4, kS5, kS6, kS7, kS8, kS9, kS10, kS11, kS12, kS13, kS14, kS15, kS16, kS17, kS18, kS19, kS20, kS21, kS22, kS23, kS24, kS25, kS26, kS27, kS28, kS30, kS31, kS32, kS33, kS34, kS35, kS36, kS37, kS38, kS39, kS40, kS41, kS42, kS43, kS50, kS51, kS52, kS53, List.getElem?_cons_zero, List.getElem?_cons_succ, List.set_cons_zero, List.set_cons_succ, List.length_cons, List.length_nil, List.drop_succ_cons, List.drop_zero, List.cons_append, List.nil_append, Option.toList_some, Option.toList_none, cz, ci2, true_and, and_true, and_self, true_or, or_true, nI_1, Nat.reduceAdd, Nat.reduceLT, bI_eq]
      refine ⟨fun h => ?_, fun h => ?_⟩
      · refine ev_seg rfl ?_
        simp only [TE, sxs, sx, ldI, ldA, stI, stA, inc, gtF, ptF, ldX, stX, ldR, ldL, stL, dp1, dp2, Tm, kS0, kS1, kS2, kS3, kS4, kS5, kS6, kS7, kS8, kS9, kS10, kS11, kS12, kS13, kS14, kS15, kS16, kS17, kS18, kS19, kS20, kS21, kS22, kS23, kS24, kS25, kS26, kS27, kS28, kS30, kS31, kS32, kS33, kS34, kS35, kS36, kS37, kS38, kS39, kS40, kS41, kS42, kS43, kS50, kS51, kS52, kS53, List.getElem?_cons_zero, List.getElem?_cons_succ, List.set_cons_zero, List.set_cons_succ, List.length_cons, List.length_nil, List.drop_succ_cons, List.drop_zero, List.cons_append, List.nil_append, Option.toList_some, Option.toList_none, cz, ci2, true_and, and_true, and_self, true_or, or_true, nI_1, Nat.reduceAdd, Nat.reduceLT]
        have e : rowSum X g a set dF (j + 1) = rowSum X g a set dF j := by
          show _ + (if _ then _ else _) = _
          rw [if_neg h, Int32.add_zero]
          rfl
        rw [e] at ih
        exact ih
      · refine ev_seg rfl ?_
        simp only [TE, sxs, sx, ldI, ldA, stI, stA, inc, gtF, ptF, ldX, stX, ldR, ldL, stL, dp1, dp2, Tm, kS0, kS1, kS2, kS3, kS4, kS5, kS6, kS7, kS8, kS9, kS10, kS11, kS12, kS13, kS14, kS15, kS16, kS17, kS18, kS19, kS20, kS21, kS22, kS23, kS24, kS25, kS26, kS27, kS28, kS30, kS31, kS32, kS33, kS34, kS35, kS36, kS37, kS38, kS39, kS40, kS41, kS42, kS43, kS50, kS51, kS52, kS53, List.getElem?_cons_zero, List.getElem?_cons_succ, List.set_cons_zero, List.set_cons_succ, List.length_cons, List.length_nil, List.drop_succ_cons, List.drop_zero, List.cons_append, List.nil_append, Option.toList_some, Option.toList_none, cz, ci2, true_and, and_true, and_self, true_or, or_true, nI_1, Nat.reduceAdd, Nat.reduceLT]
        refine ⟨(by first | assumption | (and_intros <;> first | assumption | trivial | decide)), ?_⟩
        refine ev_seg rfl ?_
        simp only [TE, sxs, sx, ldI, ldA, stI, stA, inc, gtF, ptF, ldX, stX, ldR, ldL, stL, dp1, dp2, Tm, kS0, kS1, kS2, kS3, kS4, kS5, kS6, kS7, kS8, kS9, kS10, kS11, kS12, kS13, kS14, kS15, kS16, kS17, kS18, kS19, kS20, kS21, kS22, kS23, kS24, kS25, kS26, kS27, kS28, kS30, kS31, kS32, kS33, kS34, kS35, kS36, kS37, kS38, kS39, kS40, kS41, kS42, kS43, kS50, kS51, kS52, kS53, List.getElem?_cons_zero, List.getElem?_cons_succ, List.set_cons_zero, List.set_cons_succ, List.length_cons, List.length_nil, List.drop_succ_cons, List.drop_zero, List.cons_append, List.nil_append, Option.toList_some, Option.toList_none, cz, ci2, true_and, and_true, and_self, true_or, or_true, nI_1, Nat.reduceAdd, Nat.reduceLT]
        have e : rowSum X g a set dF (j + 1) = rowSum X g a set dF j + (X.1 4 g a (nI j) - X.1 4 g (nI j) a) := by
          show _ + (if _ then _ else _) = _
          rw [if_pos (Classical.not_not.mp h)]
          rfl
        rw [e] at ih
        exact ih
  exact loop 0 (Nat.zero_le _)
theorem s_goalsFrom {a set : Int32} {n : Nat} (hn : X.1 2 0 g 5 = nI n) (hn5 : n ≤ 5) (ha : vp_in a 5) : Ev sc (d + 1) 18 0 (ent 18 [vR 2 0 g, vI a, vI set]) [] X (.inl (some (.inl (rowSum X g a set gF9 n)))) X 0 := by
  rw [en18]
  refine ev_seg rfl ?_
  simp only [TE, sxs, sx, ldI, ldA, stI, stA, inc, gtF, ptF, ldX, stX, ldR, ldL, stL, dp1, dp2, Tm, kS0, kS1, kS2, kS3, kS4, kS5, kS6, kS7, kS8, kS9, kS10, kS11, kS12, kS13, kS14, kS15, kS16, kS17, kS18, kS19, kS20, kS21, kS22, kS23, kS24, kS25, kS26, kS27, kS28, kS30, kS31, kS32, kS33, kS34, kS35, kS36, kS37, kS38, kS39, kS40, kS41, kS42, kS43, kS50, kS51, kS52, kS53, List.getElem?_cons_zero, List.getElem?_cons_succ, List.set_cons_zero, List.set_cons_succ, List.length_cons, List.length_nil, List.drop_succ_cons, List.drop_zero, List.cons_append, List.nil_append, Option.toList_some, Option.toList_none, cz, ci2, true_and, and_true, and_self, true_or, or_true, nI_1, Nat.reduceAdd, Nat.reduceLT]
  have loop : ∀ j, j ≤ n → Ev sc (d + 1) 18 1 [vR 2 0 g, vI a, vI set, vI (rowSum X g a set gF9 j), vI (nI j)] [] X (.inl (some (.inl (rowSum X g a set gF9 n)))) X 0 := by
    apply loop_up
    · refine ev_seg rfl ?_
      simp only [TE, sxs, sx, ldI, ldA, stI, stA, inc, gtF, ptF, ldX, stX, ldR, ldL, stL, dp1, dp2, Tm, kS0, kS1, kS2, kS3, kS4, kS5, kS6, kS7, kS8, kS9, kS10, kS11, kS12, kS13, kS14, kS15, kS16, kS17, kS18, kS19, kS20, kS21, kS22, kS23, kS24, kS25, kS26, kS27, kS28, kS30, kS31, kS32, kS33, kS34, kS35, kS36, kS37, kS38, kS39, kS40, kS41, kS42, kS43, kS50, kS51, kS52, kS53, List.getElem?_cons_zero, List.getElem?_cons_succ, List.set_cons_zero, List.set_cons_succ, List.length_cons, List.length_nil, List.drop_succ_cons, List.drop_zero, List.cons_append, List.nil_append, Option.toList_some, Option.toList_none, cz, ci2, true_and, and_true, and_self, true_or, or_true, nI_1, Nat.reduceAdd, Nat.reduceLT, hn]
      refine ⟨fun _ => ?_, fun h => absurd (nleI (Nat.le_refl _) (by omega)) h⟩
      refine ev_seg rfl ?_
      simp only [TE, sxs, sx, ldI, ldA, stI, stA, inc, gtF, ptF, ldX, stX, ldR, ldL, stL, dp1, dp2, Tm, kS0, kS1, kS2, kS3, kS4, kS5, kS6, kS7, kS8, kS9, kS10, kS11, kS12, kS13, kS14, kS15, kS16, kS17, kS18, kS19, kS20, kS21, kS22, kS23, kS24, kS25, kS26, kS27, kS28, kS30, kS31, kS32, kS33, kS34, kS35, kS36, kS37, kS38, kS39, kS40, kS41, kS42, kS43, kS50, kS51, kS52, kS53, List.getElem?_cons_zero, List.getElem?_cons_succ, List.set_cons_zero, List.set_cons_succ, List.length_cons, List.length_nil, List.drop_succ_cons, List.drop_zero, List.cons_append, List.nil_append, Option.toList_some, Option.toList_none, cz, ci2, true_and, and_true, and_self, true_or, or_true, nI_1, Nat.reduceAdd, Nat.reduceLT]
    · intro j hj ih
      have hj5 : vp_in (nI j) 5 := vpn (by omega) (by decide)
      refine ev_seg rfl ?_
      simp only [TE, sxs, sx, ldI, ldA, stI, stA, inc, gtF, ptF, ldX, stX, ldR, ldL, stL, dp1, dp2, Tm, kS0, kS1, kS2, kS3, kS4, kS5, kS6, kS7, kS8, kS9, kS10, kS11, kS12, kS13, kS14, kS15, kS16, kS17, kS18, kS19, kS20, kS21, kS22, kS23, kS24, kS25, kS26, kS27, kS28, kS30, kS31, kS32, kS33, kS34, kS35, kS36, kS37, kS38, kS39, kS40, kS41, kS42, kS43, kS50, kS51, kS52, kS53, List.getElem?_cons_zero, List.getElem?_cons_succ, List.set_cons_zero, List.set_cons_succ, List.length_cons, List.length_nil, List.drop_succ_cons, List.drop_zero, List.cons_append, List.nil_append, Option.toList_some, Option.toList_none, cz, ci2, true_and, and_true, and_self, true_or, or_true, nI_1, Nat.reduceAdd, Nat.reduceLT, hn]
      refine ⟨fun h => absurd h (nle hj (by omega)), fun _ => ?_⟩
      refine ev_seg rfl ?_
      simp only [TE, sxs, sx, ldI, ldA, stI, stA, inc, gtF, ptF, ldX, stX, ldR, ldL, stL, dp1, dp2, Tm, kS0, kS1, kS2, kS3, kS4, kS5, kS6, kS7, kS8, kS9, kS10, kS11, kS12, kS13, kS14, kS15, kS16, kS17, kS18, kS19, kS20, kS21, kS22, kS23, kS24, kS25, kS26, kS27, kS28, kS30, kS31, kS32, kS33, kS34, kS35, kS36, kS37, kS38, kS39, kS40, kS41, kS42, kS43, kS50, kS51, kS52, kS53, List.getElem?_cons_zero, List.getElem?_cons_succ, List.set_cons_zero, List.set_cons_succ, List.length_cons, List.length_nil, List.drop_succ_cons, List.drop_zero, List.cons_append, List.nil_append, Option.toList_some, Option.toList_none, cz, ci2, true_and, and_true, and_self, true_or, or_true, nI_1, Nat.reduceAdd, Nat.reduceLT]
      refine cv4 rfl rfl (by first | exact rfl | exact trivial) (s_counts ha hj5) ?_
      refine ev_seg rfl ?_
      simp only [TE, sxs, sx, ldI, ldA, stI, stA, inc, gtF, ptF, ldX, stX, ldR, ldL, stL, dp1, dp2, Tm, kS0, kS1, kS2, kS3, kS4, kS5, kS6, kS7, kS8, kS9, kS10, kS11, kS12, kS13, kS14, kS15, kS16, kS17, kS18, kS19, kS20, kS21, kS22, kS23, kS24, kS25, kS26, kS27, kS28, kS30, kS31, kS32, kS33, kS34, kS35, kS36, kS37, kS38, kS39, kS40, kS41, kS42, kS43, kS50, kS51, kS52, kS53, List.getElem?_cons_zero, List.getElem?_cons_succ, List.set_cons_zero, List.set_cons_succ, List.length_cons, List.length_nil, List.drop_succ_cons, List.drop_zero, List.cons_append, List.nil_append, Option.toList_some, Option.toList_none, cz, ci2, true_and, and_true, and_self, true_or, or_true, nI_1, Nat.reduceAdd, Nat.reduceLT, bI_eq]
      refine ⟨fun h => ?_, fun h => ?_⟩
      · refine ev_seg rfl ?_
        simp only [TE, sxs, sx, ldI, ldA, stI, stA, inc, gtF, ptF, ldX, stX, ldR, ldL, stL, dp1, dp2, Tm, kS0, kS1, kS2, kS3, kS4, kS5, kS6, kS7, kS8, kS9, kS10, kS11, kS12, kS13, kS14, kS15, kS16, kS17, kS18, kS19, kS20, kS21, kS22, kS23, kS24, kS25, kS26, kS27, kS28, kS30, kS31, kS32, kS33, kS34, kS35, kS36, kS37, kS38, kS39, kS40, kS41, kS42, kS43, kS50, kS51, kS52, kS53, List.getElem?_cons_zero, List.getElem?_cons_succ, List.set_cons_zero, List.set_cons_succ, List.length_cons, List.length_nil, List.drop_succ_cons, List.drop_zero, List.cons_append, List.nil_append, Option.toList_some, Option.toList_none, cz, ci2, true_and, and_true, and_self, true_or, or_true, nI_1, Nat.reduceAdd, Nat.reduceLT]
        have e : rowSum X g a set gF9 (j + 1) = rowSum X g a set gF9 j := by
          show _ + (if _ then _ else _) = _
          rw [if_neg h, Int32.add_zero]
          rfl
        rw [e] at ih
        exact ih
      · refine ev_seg rfl ?_
        simp only [TE, sxs, sx, ldI, ldA, stI, stA, inc, gtF, ptF, ldX, stX, ldR, ldL, stL, dp1, dp2, Tm, kS0, kS1, kS2, kS3, kS4, kS5, kS6, kS7, kS8, kS9, kS10, kS11, kS12, kS13, kS14, kS15, kS16, kS17, kS18, kS19, kS20, kS21, kS22, kS23, kS24, kS25, kS26, kS27, kS28, kS30, kS31, kS32, kS33, kS34, kS35, kS36, kS37, kS38, kS39, kS40, kS41, kS42, kS43, kS50, kS51, kS52, kS53, List.getElem?_cons_zero, List.getElem?_cons_succ, List.set_cons_zero, List.set_cons_succ, List.length_cons, List.length_nil, List.drop_succ_cons, List.drop_zero, List.cons_append, List.nil_append, Option.toList_some, Option.toList_none, cz, ci2, true_and, and_true, and_self, true_or, or_true, nI_1, Nat.reduceAdd, Nat.reduceLT]
        refine ⟨(by first | assumption | (and_intros <;> first | assumption | trivial | decide)), ?_⟩
        refine ev_seg rfl ?_
        simp only [TE, sxs, sx, ldI, ldA, stI, stA, inc, gtF, ptF, ldX, stX, ldR, ldL, stL, dp1, dp2, Tm, kS0, kS1, kS2, kS3, kS4, kS5, kS6, kS7, kS8, kS9, kS10, kS11, kS12, kS13, kS14, kS15, kS16, kS17, kS18, kS19, kS20, kS21, kS22, kS23, kS24, kS25, kS26, kS27, kS28, kS30, kS31, kS32, kS33, kS34, kS35, kS36, kS37, kS38, kS39, kS40, kS41, kS42, kS43, kS50, kS51, kS52, kS53, List.getElem?_cons_zero, List.getElem?_cons_succ, List.set_cons_zero, List.set_cons_succ, List.length_cons, List.length_nil, List.drop_succ_cons, List.drop_zero, List.cons_append, List.nil_append, Option.toList_some, Option.toList_none, cz, ci2, true_and, and_true, and_self, true_or, or_true, nI_1, Nat.reduceAdd, Nat.reduceLT]
        have e : rowSum X g a set gF9 (j + 1) = rowSum X g a set gF9 j + X.1 4 g a (nI j) := by
          show _ + (if _ then _ else _) = _
          rw [if_pos (Classical.not_not.mp h)]
          rfl
        rw [e] at ih
        exact ih
  exact loop 0 (Nat.zero_le _)
def evy (n : Nat) : Int32 := (1 <<< (nI n &&& 31)) - 1
theorem s_pointsOf {a : Int32} {n : Nat} (hn : X.1 2 0 g 5 = nI n) (hn5 : n ≤ 5) (ha : vp_in a 5) : Ev sc (d + 2) 14 0 (ent 14 [vR 2 0 g, vI a]) [] X (.inl (some (.inl (rowSum X g a (evy n) pF n - X.1 5 0 g a)))) X 0 := by
  rw [en14]
  refine ev_seg rfl ?_
  simp only [TE, sxs, sx, ldI, ldA, stI, stA, inc, gtF, ptF, ldX, stX, ldR, ldL, stL, dp1, dp2, Tm, kS0, kS1, kS2, kS3, kS4, kS5, kS6, kS7, kS8, kS9, kS10, kS11, kS12, kS13, kS14, kS15, kS16, kS17, kS18, kS19, kS20, kS21, kS22, kS23, kS24, kS25, kS26, kS27, kS28, kS30, kS31, kS32, kS33, kS34, kS35, kS36, kS37, kS38, kS39, kS40, kS41, kS42, kS43, kS50, kS51, kS52, kS53, List.getElem?_cons_zero, List.getElem?_cons_succ, List.set_cons_zero, List.set_cons_succ, List.length_cons, List.length_nil, List.drop_succ_cons, List.drop_zero, List.cons_append, List.nil_append, Option.toList_some, Option.toList_none, cz, ci2, true_and, and_true, and_self, true_or, or_true, nI_1, Nat.reduceAdd, Nat.reduceLT]
  refine cv1 rfl rfl (by first | exact rfl | exact trivial) (s_everyone) ?_
  refine ev_seg rfl ?_
  simp only [TE, sxs, sx, ldI, ldA, stI, stA, inc, gtF, ptF, ldX, stX, ldR, ldL, stL, dp1, dp2, Tm, kS0, kS1, kS2, kS3, kS4, kS5, kS6, kS7, kS8, kS9, kS10, kS11, kS12, kS13, kS14, kS15, kS16, kS17, kS18, kS19, kS20, kS21, kS22, kS23, kS24, kS25, kS26, kS27, kS28, kS30, kS31, kS32, kS33, kS34, kS35, kS36, kS37, kS38, kS39, kS40, kS41, kS42, kS43, kS50, kS51, kS52, kS53, List.getElem?_cons_zero, List.getElem?_cons_succ, List.set_cons_zero, List.set_cons_succ, List.length_cons, List.length_nil, List.drop_succ_cons, List.drop_zero, List.cons_append, List.nil_append, Option.toList_some, Option.toList_none, cz, ci2, true_and, and_true, and_self, true_or, or_true, nI_1, Nat.reduceAdd, Nat.reduceLT, hn]
  refine cv3 rfl rfl (by first | exact rfl | exact trivial) (s_pointsFrom hn hn5 ha) ?_
  refine ev_seg rfl ?_
  simp only [TE, sxs, sx, ldI, ldA, stI, stA, inc, gtF, ptF, ldX, stX, ldR, ldL, stL, dp1, dp2, Tm, kS0, kS1, kS2, kS3, kS4, kS5, kS6, kS7, kS8, kS9, kS10, kS11, kS12, kS13, kS14, kS15, kS16, kS17, kS18, kS19, kS20, kS21, kS22, kS23, kS24, kS25, kS26, kS27, kS28, kS30, kS31, kS32, kS33, kS34, kS35, kS36, kS37, kS38, kS39, kS40, kS41, kS42, kS43, kS50, kS51, kS52, kS53, List.getElem?_cons_zero, List.getElem?_cons_succ, List.set_cons_zero, List.set_cons_succ, List.length_cons, List.length_nil, List.drop_succ_cons, List.drop_zero, List.cons_append, List.nil_append, Option.toList_some, Option.toList_none, cz, ci2, true_and, and_true, and_self, true_or, or_true, nI_1, Nat.reduceAdd, Nat.reduceLT]
  exact ⟨(by first | assumption | (and_intros <;> first | assumption | trivial | decide)), rfl⟩
def plSum (X : XT) (g a : Int32) (n : Nat) : Int32 := sumN (fun j => bI (¬ X.1 4 g a (nI j) = -1)) n
theorem s_playedBy {a : Int32} {n : Nat} (hn : X.1 2 0 g 5 = nI n) (hn5 : n ≤ 5) (ha : vp_in a 5) : Ev sc (d + 1) 12 0 (ent 12 [vR 2 0 g, vI a]) [] X (.inl (some (.inl (plSum X g a n)))) X 0 := by
  rw [en12]
  refine ev_seg rfl ?_
  simp only [TE, sxs, sx, ldI, ldA, stI, stA, inc, gtF, ptF, ldX, stX, ldR, ldL, stL, dp1, dp2, Tm, kS0, kS1, kS2, kS3, kS4, kS5, kS6, kS7, kS8, kS9, kS10, kS11, kS12, kS13, kS14, kS15, kS16, kS17, kS18, kS19, kS20, kS21, kS22, kS23, kS24, kS25, kS26, kS27, kS28, kS30, kS31, kS32, kS33, kS34, kS35, kS36, kS37, kS38, kS39, kS40, kS41, kS42, kS43, kS50, kS51, kS52, kS53, List.getElem?_cons_zero, List.getElem?_cons_succ, List.set_cons_zero, List.set_cons_succ, List.length_cons, List.length_nil, List.drop_succ_cons, List.drop_zero, List.cons_append, List.nil_append, Option.toList_some, Option.toList_none, cz, ci2, true_and, and_true, and_self, true_or, or_true, nI_1, Nat.reduceAdd, Nat.reduceLT]
  have loop : ∀ j, j ≤ n → Ev sc (d + 1) 12 1 [vR 2 0 g, vI a, vI (plSum X g a j), vI (nI j)] [] X (.inl (some (.inl (plSum X g a n)))) X 0 := by
    apply loop_up
    · refine ev_seg rfl ?_
      simp only [TE, sxs, sx, ldI, ldA, stI, stA, inc, gtF, ptF, ldX, stX, ldR, ldL, stL, dp1, dp2, Tm, kS0, kS1, kS2, kS3, kS4, kS5, kS6, kS7, kS8, kS9, kS10, kS11, kS12, kS13, kS14, kS15, kS16, kS17, kS18, kS19, kS20, kS21, kS22, kS23, kS24, kS25, kS26, kS27, kS28, kS30, kS31, kS32, kS33, kS34, kS35, kS36, kS37, kS38, kS39, kS40, kS41, kS42, kS43, kS50, kS51, kS52, kS53, List.getElem?_cons_zero, List.getElem?_cons_succ, List.set_cons_zero, List.set_cons_succ, List.length_cons, List.length_nil, List.drop_succ_cons, List.drop_zero, List.cons_append, List.nil_append, Option.toList_some, Option.toList_none, cz, ci2, true_and, and_true, and_self, true_or, or_true, nI_1, Nat.reduceAdd, Nat.reduceLT, hn]
      refine ⟨fun _ => ?_, fun h => absurd (nleI (Nat.le_refl _) (by omega)) h⟩
      refine ev_seg rfl ?_
      simp only [TE, sxs, sx, ldI, ldA, stI, stA, inc, gtF, ptF, ldX, stX, ldR, ldL, stL, dp1, dp2, Tm, kS0, kS1, kS2, kS3, kS4, kS5, kS6, kS7, kS8, kS9, kS10, kS11, kS12, kS13, kS14, kS15, kS16, kS17, kS18, kS19, kS20, kS21, kS22, kS23, kS24, kS25, kS26, kS27, kS28, kS30, kS31, kS32, kS33, kS34, kS35, kS36, kS37, kS38, kS39, kS40, kS41, kS42, kS43, kS50, kS51, kS52, kS53, List.getElem?_cons_zero, List.getElem?_cons_succ, List.set_cons_zero, List.set_cons_succ, List.length_cons, List.length_nil, List.drop_succ_cons, List.drop_zero, List.cons_append, List.nil_append, Option.toList_some, Option.toList_none, cz, ci2, true_and, and_true, and_self, true_or, or_true, nI_1, Nat.reduceAdd, Nat.reduceLT]
    · intro j hj ih
      have hj5 : vp_in (nI j) 5 := vpn (by omega) (by decide)
      refine ev_seg rfl ?_
      simp only [TE, sxs, sx, ldI, ldA, stI, stA, inc, gtF, ptF, ldX, stX, ldR, ldL, stL, dp1, dp2, Tm, kS0, kS1, kS2, kS3, kS4, kS5, kS6, kS7, kS8, kS9, kS10, kS11, kS12, kS13, kS14, kS15, kS16, kS17, kS18, kS19, kS20, kS21, kS22, kS23, kS24, kS25, kS26, kS27, kS28, kS30, kS31, kS32, kS33, kS34, kS35, kS36, kS37, kS38, kS39, kS40, kS41, kS42, kS43, kS50, kS51, kS52, kS53, List.getElem?_cons_zero, List.getElem?_cons_succ, List.set_cons_zero, List.set_cons_succ, List.length_cons, List.length_nil, List.drop_succ_cons, List.drop_zero, List.cons_append, List.nil_append, Option.toList_some, Option.toList_none, cz, ci2, true_and, and_true, and_self, true_or, or_true, nI_1, Nat.reduceAdd, Nat.reduceLT, hn]
      refine ⟨fun h => absurd h (nle hj (by omega)), fun _ => ?_⟩
      refine ev_seg rfl ?_
      simp only [TE, sxs, sx, ldI, ldA, stI, stA, inc, gtF, ptF, ldX, stX, ldR, ldL, stL, dp1, dp2, Tm, kS0, kS1, kS2, kS3, kS4, kS5, kS6, kS7, kS8, kS9, kS10, kS11, kS12, kS13, kS14, kS15, kS16, kS17, kS18, kS19, kS20, kS21, kS22, kS23, kS24, kS25, kS26, kS27, kS28, kS30, kS31, kS32, kS33, kS34, kS35, kS36, kS37, kS38, kS39, kS40, kS41, kS42, kS43, kS50, kS51, kS52, kS53, List.getElem?_cons_zero, List.getElem?_cons_succ, List.set_cons_zero, List.set_cons_succ, List.length_cons, List.length_nil, List.drop_succ_cons, List.drop_zero, List.cons_append, List.nil_append, Option.toList_some, Option.toList_none, cz, ci2, true_and, and_true, and_self, true_or, or_true, nI_1, Nat.reduceAdd, Nat.reduceLT]
      refine cv3 rfl rfl (by first | exact rfl | exact trivial) (s_hasResult ha hj5) ?_
      refine ev_seg rfl ?_
      simp only [TE, sxs, sx, ldI, ldA, stI, stA, inc, gtF, ptF, ldX, stX, ldR, ldL, stL, dp1, dp2, Tm, kS0, kS1, kS2, kS3, kS4, kS5, kS6, kS7, kS8, kS9, kS10, kS11, kS12, kS13, kS14, kS15, kS16, kS17, kS18, kS19, kS20, kS21, kS22, kS23, kS24, kS25, kS26, kS27, kS28, kS30, kS31, kS32, kS33, kS34, kS35, kS36, kS37, kS38, kS39, kS40, kS41, kS42, kS43, kS50, kS51, kS52, kS53, List.getElem?_cons_zero, List.getElem?_cons_succ, List.set_cons_zero, List.set_cons_succ, List.length_cons, List.length_nil, List.drop_succ_cons, List.drop_zero, List.cons_append, List.nil_append, Option.toList_some, Option.toList_none, cz, ci2, true_and, and_true, and_self, true_or, or_true, nI_1, Nat.reduceAdd, Nat.reduceLT, bI_eq]
      refine ⟨fun h => ?_, fun h => ?_⟩
      · refine ev_seg rfl ?_
        simp only [TE, sxs, sx, ldI, ldA, stI, stA, inc, gtF, ptF, ldX, stX, ldR, ldL, stL, dp1, dp2, Tm, kS0, kS1, kS2, kS3, kS4, kS5, kS6, kS7, kS8, kS9, kS10, kS11, kS12, kS13, kS14, kS15, kS16, kS17, kS18, kS19, kS20, kS21, kS22, kS23, kS24, kS25, kS26, kS27, kS28, kS30, kS31, kS32, kS33, kS34, kS35, kS36, kS37, kS38, kS39, kS40, kS41, kS42, kS43, kS50, kS51, kS52, kS53, List.getElem?_cons_zero, List.getElem?_cons_succ, List.set_cons_zero, List.set_cons_succ, List.length_cons, List.length_nil, List.drop_succ_cons, List.drop_zero, List.cons_append, List.nil_append, Option.toList_some, Option.toList_none, cz, ci2, true_and, and_true, and_self, true_or, or_true, nI_1, Nat.reduceAdd, Nat.reduceLT]
        have e : plSum X g a (j + 1) = plSum X g a j := by
          show _ + bI _ = _
          rw [bI_f h, Int32.add_zero]
          rfl
        rw [e] at ih
        exact ih
      · refine ev_seg rfl ?_
        simp only [TE, sxs, sx, ldI, ldA, stI, stA, inc, gtF, ptF, ldX, stX, ldR, ldL, stL, dp1, dp2, Tm, kS0, kS1, kS2, kS3, kS4, kS5, kS6, kS7, kS8, kS9, kS10, kS11, kS12, kS13, kS14, kS15, kS16, kS17, kS18, kS19, kS20, kS21, kS22, kS23, kS24, kS25, kS26, kS27, kS28, kS30, kS31, kS32, kS33, kS34, kS35, kS36, kS37, kS38, kS39, kS40, kS41, kS42, kS43, kS50, kS51, kS52, kS53, List.getElem?_cons_zero, List.getElem?_cons_succ, List.set_cons_zero, List.set_cons_succ, List.length_cons, List.length_nil, List.drop_succ_cons, List.drop_zero, List.cons_append, List.nil_append, Option.toList_some, Option.toList_none, cz, ci2, true_and, and_true, and_self, true_or, or_true, nI_1, Nat.reduceAdd, Nat.reduceLT]
        refine ev_seg rfl ?_
        simp only [TE, sxs, sx, ldI, ldA, stI, stA, inc, gtF, ptF, ldX, stX, ldR, ldL, stL, dp1, dp2, Tm, kS0, kS1, kS2, kS3, kS4, kS5, kS6, kS7, kS8, kS9, kS10, kS11, kS12, kS13, kS14, kS15, kS16, kS17, kS18, kS19, kS20, kS21, kS22, kS23, kS24, kS25, kS26, kS27, kS28, kS30, kS31, kS32, kS33, kS34, kS35, kS36, kS37, kS38, kS39, kS40, kS41, kS42, kS43, kS50, kS51, kS52, kS53, List.getElem?_cons_zero, List.getElem?_cons_succ, List.set_cons_zero, List.set_cons_succ, List.length_cons, List.length_nil, List.drop_succ_cons, List.drop_zero, List.cons_append, List.nil_append, Option.toList_some, Option.toList_none, cz, ci2, true_and, and_true, and_self, true_or, or_true, nI_1, Nat.reduceAdd, Nat.reduceLT]
        have e : plSum X g a (j + 1) = plSum X g a j + 1 := by
          show _ + bI _ = _
          rw [bI_t (Classical.not_not.mp h)]
          rfl
        rw [e] at ih
        exact ih
  exact loop 0 (Nat.zero_le _)
/-- the matches of one seat with higher ones that are left -/
def lfRow (X : XT) (g : Int32) (a n : Nat) : Int32 := sumN (fun j => if a < j then bI (X.1 4 g (nI a) (nI j) = -1) else 0) n
def lfSum (X : XT) (g : Int32) (m n : Nat) : Int32 := sumN (fun a => lfRow X g a n) m
theorem lfRow_lo (X : XT) (g : Int32) {a n : Nat} (h : n ≤ a + 1) : lfRow X g a n = 0 := sumN_zero (fun j hj => if_neg (by omega))
theorem s_left {n : Nat} (hn : X.1 2 0 g 5 = nI n) (hn5 : n ≤ 5) : Ev sc (d + 1) 13 0 (ent 13 [vR 2 0 g]) [] X (.inl (some (.inl (lfSum X g n n)))) X 0 := by
  rw [en13]
  refine ev_seg rfl ?_
  simp only [TE, sxs, sx, ldI, ldA, stI, stA, inc, gtF, ptF, ldX, stX, ldR, ldL, stL, dp1, dp2, Tm, kS0, kS1, kS2, kS3, kS4, kS5, kS6, kS7, kS8, kS9, kS10, kS11, kS12, kS13, kS14, kS15, kS16, kS17, kS18, kS19, kS20, kS21, kS22, kS23, kS24, kS25, kS26, kS27, kS28, kS30, kS31, kS32, kS33, kS34, kS35, kS36, kS37, kS38, kS39, kS40, kS41, kS42, kS43, kS50, kS51, kS52, kS53, List.getElem?_cons_zero, List.getElem?_cons_succ, List.set_cons_zero, List.set_cons_succ, List.length_cons, List.length_nil, List.drop_succ_cons, List.drop_zero, List.cons_append, List.nil_append, Option.toList_some, Option.toList_none, cz, ci2, true_and, and_true, and_self, true_or, or_true, nI_1, Nat.reduceAdd, Nat.reduceLT]
  have loop : ∀ a, a ≤ n → ∀ z : AV, Ev sc (d + 1) 13 1 [vR 2 0 g, vI (lfSum X g a n), vI (nI a), z] [] X (.inl (some (.inl (lfSum X g n n)))) X 0 := by
    apply loop_up
    · intro z
      refine ev_seg rfl ?_
      simp only [TE, sxs, sx, ldI, ldA, stI, stA, inc, gtF, ptF, ldX, stX, ldR, ldL, stL, dp1, dp2, Tm, kS0, kS1, kS2, kS3, kS4, kS5, kS6, kS7, kS8, kS9, kS10, kS11, kS12, kS13, kS14, kS15, kS16, kS17, kS18, kS19, kS20, kS21, kS22, kS23, kS24, kS25, kS26, kS27, kS28, kS30, kS31, kS32, kS33, kS34, kS35, kS36, kS37, kS38, kS39, kS40, kS41, kS42, kS43, kS50, kS51, kS52, kS53, List.getElem?_cons_zero, List.getElem?_cons_succ, List.set_cons_zero, List.set_cons_succ, List.length_cons, List.length_nil, List.drop_succ_cons, List.drop_zero, List.cons_append, List.nil_append, Option.toList_some, Option.toList_none, cz, ci2, true_and, and_true, and_self, true_or, or_true, nI_1, Nat.reduceAdd, Nat.reduceLT, hn]
      refine ⟨fun _ => ?_, fun h => absurd (nleI (Nat.le_refl _) (by omega)) h⟩
      refine ev_seg rfl ?_
      simp only [TE, sxs, sx, ldI, ldA, stI, stA, inc, gtF, ptF, ldX, stX, ldR, ldL, stL, dp1, dp2, Tm, kS0, kS1, kS2, kS3, kS4, kS5, kS6, kS7, kS8, kS9, kS10, kS11, kS12, kS13, kS14, kS15, kS16, kS17, kS18, kS19, kS20, kS21, kS22, kS23, kS24, kS25, kS26, kS27, kS28, kS30, kS31, kS32, kS33, kS34, kS35, kS36, kS37, kS38, kS39, kS40, kS41, kS42, kS43, kS50, kS51, kS52, kS53, List.getElem?_cons_zero, List.getElem?_cons_succ, List.set_cons_zero, List.set_cons_succ, List.length_cons, List.length_nil, List.drop_succ_cons, List.drop_zero, List.cons_append, List.nil_append, Option.toList_some, Option.toList_none, cz, ci2, true_and, and_true, and_self, true_or, or_true, nI_1, Nat.reduceAdd, Nat.reduceLT]
    · intro a ha iha z
      have ha5 : vp_in (nI a) 5 := vpn (by omega) (by decide)
      refine ev_seg rfl ?_
      simp only [TE, sxs, sx, ldI, ldA, stI, stA, inc, gtF, ptF, ldX, stX, ldR, ldL, stL, dp1, dp2, Tm, kS0, kS1, kS2, kS3, kS4, kS5, kS6, kS7, kS8, kS9, kS10, kS11, kS12, kS13, kS14, kS15, kS16, kS17, kS18, kS19, kS20, kS21, kS22, kS23, kS24, kS25, kS26, kS27, kS28, kS30, kS31, kS32, kS33, kS34, kS35, kS36, kS37, kS38, kS39, kS40, kS41, kS42, kS43, kS50, kS51, kS52, kS53, List.getElem?_cons_zero, List.getElem?_cons_succ, List.set_cons_zero, List.set_cons_succ, List.length_cons, List.length_nil, List.drop_succ_cons, List.drop_zero, List.cons_append, List.nil_append, Option.toList_some, Option.toList_none, cz, ci2, true_and, and_true, and_self, true_or, or_true, nI_1, Nat.reduceAdd, Nat.reduceLT, hn]
      refine ⟨fun h => absurd h (nle ha (by omega)), fun _ => ?_⟩
      refine ev_seg rfl ?_
      simp only [TE, sxs, sx, ldI, ldA, stI, stA, inc, gtF, ptF, ldX, stX, ldR, ldL, stL, dp1, dp2, Tm, kS0, kS1, kS2, kS3, kS4, kS5, kS6, kS7, kS8, kS9, kS10, kS11, kS12, kS13, kS14, kS15, kS16, kS17, kS18, kS19, kS20, kS21, kS22, kS23, kS24, kS25, kS26, kS27, kS28, kS30, kS31, kS32, kS33, kS34, kS35, kS36, kS37, kS38, kS39, kS40, kS41, kS42, kS43, kS50, kS51, kS52, kS53, List.getElem?_cons_zero, List.getElem?_cons_succ, List.set_cons_zero, List.set_cons_succ, List.length_cons, List.length_nil, List.drop_succ_cons, List.drop_zero, List.cons_append, List.nil_append, Option.toList_some, Option.toList_none, cz, ci2, true_and, and_true, and_self, true_or, or_true, nI_1, Nat.reduceAdd, Nat.reduceLT]
      have inner : ∀ j, j ≤ n → a + 1 ≤ j → Ev sc (d + 1) 13 3 [vR 2 0 g, vI (lfSum X g a n + lfRow X g a j), vI (nI a), vI (nI j)] [] X (.inl (some (.inl (lfSum X g n n)))) X 0 := by
        apply loop_up
        · intro _
          refine ev_seg rfl ?_
          simp only [TE, sxs, sx, ldI, ldA, stI, stA, inc, gtF, ptF, ldX, stX, ldR, ldL, stL, dp1, dp2, Tm, kS0, kS1, kS2, kS3, kS4, kS5, kS6, kS7, kS8, kS9, kS10, kS11, kS12, kS13, kS14, kS15, kS16, kS17, kS18, kS19, kS20, kS21, kS22, kS23, kS24, kS25, kS26, kS27, kS28, kS30, kS31, kS32, kS33, kS34, kS35, kS36, kS37, kS38, kS39, kS40, kS41, kS42, kS43, kS50, kS51, kS52, kS53, List.getElem?_cons_zero, List.getElem?_cons_succ, List.set_cons_zero, List.set_cons_succ, List.length_cons, List.length_nil, List.drop_succ_cons, List.drop_zero, List.cons_append, List.nil_append, Option.toList_some, Option.toList_none, cz, ci2, true_and, and_true, and_self, true_or, or_true, nI_1, Nat.reduceAdd, Nat.reduceLT, hn]
          refine ⟨fun _ => ?_, fun h => absurd (nleI (Nat.le_refl _) (by omega)) h⟩
          refine ev_seg rfl ?_
          simp only [TE, sxs, sx, ldI, ldA, stI, stA, inc, gtF, ptF, ldX, stX, ldR, ldL, stL, dp1, dp2, Tm, kS0, kS1, kS2, kS3, kS4, kS5, kS6, kS7, kS8, kS9, kS10, kS11, kS12, kS13, kS14, kS15, kS16, kS17, kS18, kS19, kS20, kS21, kS22, kS23, kS24, kS25, kS26, kS27, kS28, kS30, kS31, kS32, kS33, kS34, kS35, kS36, kS37, kS38, kS39, kS40, kS41, kS42, kS43, kS50, kS51, kS52, kS53, List.getElem?_cons_zero, List.getElem?_cons_succ, List.set_cons_zero, List.set_cons_succ, List.length_cons, List.length_nil, List.drop_succ_cons, List.drop_zero, List.cons_append, List.nil_append, Option.toList_some, Option.toList_none, cz, ci2, true_and, and_true, and_self, true_or, or_true, nI_1, Nat.reduceAdd, Nat.reduceLT]
          exact iha _
        · intro j hj ih haj
          have hj5 : vp_in (nI j) 5 := vpn (by omega) (by decide)
          have ih := ih (by omega)
          have e0 : lfRow X g a (j + 1) = lfRow X g a j + bI (X.1 4 g (nI a) (nI j) = -1) := by
            show _ + (if _ then _ else _) = _
            rw [if_pos (by omega : a < j)]
            rfl
          rw [e0, ← Int32.add_assoc] at ih
          refine ev_seg rfl ?_
          simp only [TE, sxs, sx, ldI, ldA, stI, stA, inc, gtF, ptF, ldX, stX, ldR, ldL, stL, dp1, dp2, Tm, kS0, kS1, kS2, kS3, kS4, kS5, kS6, kS7, kS8, kS9, kS10, kS11, kS12, kS13, kS14, kS15, kS16, kS17, kS18, kS19, kS20, kS21, kS22, kS23, kS24, kS25, kS26, kS27, kS28, kS30, kS31, kS32, kS33, kS34, kS35, kS36, kS37, kS38, kS39, kS40, kS41, kS42, kS43, kS50, kS51, kS52, kS53, List.getElem?_cons_zero, List.getElem?_cons_succ, List.set_cons_zero, List.set_cons_succ, List.length_cons, List.length_nil, List.drop_succ_cons, List.drop_zero, List.cons_append, List.nil_append, Option.toList_some, Option.toList_none, cz, ci2, true_and, and_true, and_self, true_or, or_true, nI_1, Nat.reduceAdd, Nat.reduceLT, hn]
          refine ⟨fun h => absurd h (nle hj (by omega)), fun _ => ?_⟩
          refine ev_seg rfl ?_
          simp only [TE, sxs, sx, ldI, ldA, stI, stA, inc, gtF, ptF, ldX, stX, ldR, ldL, stL, dp1, dp2, Tm, kS0, kS1, kS2, kS3, kS4, kS5, kS6, kS7, kS8, kS9, kS10, kS11, kS12, kS13, kS14, kS15, kS16, kS17, kS18, kS19, kS20, kS21, kS22, kS23, kS24, kS25, kS26, kS27, kS28, kS30, kS31, kS32, kS33, kS34, kS35, kS36, kS37, kS38, kS39, kS40, kS41, kS42, kS43, kS50, kS51, kS52, kS53, List.getElem?_cons_zero, List.getElem?_cons_succ, List.set_cons_zero, List.set_cons_succ, List.length_cons, List.length_nil, List.drop_succ_cons, List.drop_zero, List.cons_append, List.nil_append, Option.toList_some, Option.toList_none, cz, ci2, true_and, and_true, and_self, true_or, or_true, nI_1, Nat.reduceAdd, Nat.reduceLT]
          refine cv3 rfl rfl (by first | exact rfl | exact trivial) (s_hasResult ha5 hj5) ?_
          refine ev_seg rfl ?_
          simp only [TE, sxs, sx, ldI, ldA, stI, stA, inc, gtF, ptF, ldX, stX, ldR, ldL, stL, dp1, dp2, Tm, kS0, kS1, kS2, kS3, kS4, kS5, kS6, kS7, kS8, kS9, kS10, kS11, kS12, kS13, kS14, kS15, kS16, kS17, kS18, kS19, kS20, kS21, kS22, kS23, kS24, kS25, kS26, kS27, kS28, kS30, kS31, kS32, kS33, kS34, kS35, kS36, kS37, kS38, kS39, kS40, kS41, kS42, kS43, kS50, kS51, kS52, kS53, List.getElem?_cons_zero, List.getElem?_cons_succ, List.set_cons_zero, List.set_cons_succ, List.length_cons, List.length_nil, List.drop_succ_cons, List.drop_zero, List.cons_append, List.nil_append, Option.toList_some, Option.toList_none, cz, ci2, true_and, and_true, and_self, true_or, or_true, nI_1, Nat.reduceAdd, Nat.reduceLT, bI_eq, Classical.not_not]
          refine ⟨fun h => ?_, fun h => ?_⟩
          · refine ev_seg rfl ?_
            simp only [TE, sxs, sx, ldI, ldA, stI, stA, inc, gtF, ptF, ldX, stX, ldR, ldL, stL, dp1, dp2, Tm, kS0, kS1, kS2, kS3, kS4, kS5, kS6, kS7, kS8, kS9, kS10, kS11, kS12, kS13, kS14, kS15, kS16, kS17, kS18, kS19, kS20, kS21, kS22, kS23, kS24, kS25, kS26, kS27, kS28, kS30, kS31, kS32, kS33, kS34, kS35, kS36, kS37, kS38, kS39, kS40, kS41, kS42, kS43, kS50, kS51, kS52, kS53, List.getElem?_cons_zero, List.getElem?_cons_succ, List.set_cons_zero, List.set_cons_succ, List.length_cons, List.length_nil, List.drop_succ_cons, List.drop_zero, List.cons_append, List.nil_append, Option.toList_some, Option.toList_none, cz, ci2, true_and, and_true, and_self, true_or, or_true, nI_1, Nat.reduceAdd, Nat.reduceLT]
            rw [bI_f h, Int32.add_zero] at ih
            exact ih
          · refine ev_seg rfl ?_
            simp only [TE, sxs, sx, ldI, ldA, stI, stA, inc, gtF, ptF, ldX, stX, ldR, ldL, stL, dp1, dp2, Tm, kS0, kS1, kS2, kS3, kS4, kS5, kS6, kS7, kS8, kS9, kS10, kS11, kS12, kS13, kS14, kS15, kS16, kS17, kS18, kS19, kS20, kS21, kS22, kS23, kS24, kS25, kS26, kS27, kS28, kS30, kS31, kS32, kS33, kS34, kS35, kS36, kS37, kS38, kS39, kS40, kS41, kS42, kS43, kS50, kS51, kS52, kS53, List.getElem?_cons_zero, List.getElem?_cons_succ, List.set_cons_zero, List.set_cons_succ, List.length_cons, List.length_nil, List.drop_succ_cons, List.drop_zero, List.cons_append, List.nil_append, Option.toList_some, Option.toList_none, cz, ci2, true_and, and_true, and_self, true_or, or_true, nI_1, Nat.reduceAdd, Nat.reduceLT]
            refine ev_seg rfl ?_
            simp only [TE, sxs, sx, ldI, ldA, stI, stA, inc, gtF, ptF, ldX, stX, ldR, ldL, stL, dp1, dp2, Tm, kS0, kS1, kS2, kS3, kS4, kS5, kS6, kS7, kS8, kS9, kS10, kS11, kS12, kS13, kS14, kS15, kS16, kS17, kS18, kS19, kS20, kS21, kS22, kS23, kS24, kS25, kS26, kS27, kS28, kS30, kS31, kS32, kS33, kS34, kS35, kS36, kS37, kS38, kS39, kS40, kS41, kS42, kS43, kS50, kS51, kS52, kS53, List.getElem?_cons_zero, List.getElem?_cons_succ, List.set_cons_zero, List.set_cons_succ, List.length_cons, List.length_nil, List.drop_succ_cons, List.drop_zero, List.cons_append, List.nil_append, Option.toList_some, Option.toList_none, cz, ci2, true_and, and_true, and_self, true_or, or_true, nI_1, Nat.reduceAdd, Nat.reduceLT]
            rw [bI_t h] at ih
            exact ih
      have h0 := inner (a + 1) (by omega) (Nat.le_refl _)
      rw [lfRow_lo X g (Nat.le_refl _), Int32.add_zero] at h0
      exact h0
  exact loop 0 (Nat.zero_le _) _
/-- the group is made anew: its teams from f on, n of them -/
def opRow (F : XF) (g a : Int32) : Nat → XF
  | 0 => F
  | j + 1 => xs (opRow F g a j) 4 g a (nI j) (-1)
def opAll (F : XF) (g f : Int32) (n : Nat) : Nat → XF
  | 0 => F
  | a + 1 => opRow (xs (opAll F g f n a) 7 0 g (nI a) (f + nI a)) g (nI a) n
def opX (X : XT) (g f : Int32) (n : Nat) : XT := (opAll (xs (xs X.1 2 0 g 4 f) 2 0 g 5 (nI n)) g f n n, X.2)
theorem s_opengrp {f : Int32} {n : Nat} (hn5 : n ≤ 5) : Ev sc d 0 0 (ent 0 [vR 2 0 g, vI f, vI (nI n)]) [] X (.inl none) (opX X g f n) 0 := by
  rw [en0]
  refine ev_seg rfl ?_
  simp only [TE, sxs, sx, ldI, ldA, stI, stA, inc, gtF, ptF, ldX, stX, ldR, ldL, stL, dp1, dp2, Tm, kS0, kS1, kS2, kS3, kS4, kS5, kS6, kS7, kS8, kS9, kS10, kS11, kS12, kS13, kS14, kS15, kS16, kS17, kS18, kS19, kS20, kS21, kS22, kS23, kS24, kS25, kS26, kS27, kS28, kS30, kS31, kS32, kS33, kS34, kS35, kS36, kS37, kS38, kS39, kS40, kS41, kS42, kS43, kS50, kS51, kS52, kS53, List.getElem?_cons_zero, List.getElem?_cons_succ, List.set_cons_zero, List.set_cons_succ, List.length_cons, List.length_nil, List.drop_succ_cons, List.drop_zero, List.cons_append, List.nil_append, Option.toList_some, Option.toList_none, cz, ci2, true_and, and_true, and_self, true_or, or_true, nI_1, Nat.reduceAdd, Nat.reduceLT]
  generalize hF : xs (xs X.1 2 0 g 4 f) 2 0 g 5 (nI n) = F
  have hopX : opX X g f n = (opAll F g f n n, X.2) := by unfold opX; rw [hF]
  rw [hopX]
  have loop : ∀ a, a ≤ n → ∀ z : AV, Ev sc d 0 1 [vR 2 0 g, vI f, vI (nI n), vI (nI a), z] [] (opAll F g f n a, X.2) (.inl none) (opAll F g f n n, X.2) 0 := by
    apply loop_up
    · intro z
      refine ev_seg rfl ?_
      simp only [TE, sxs, sx, ldI, ldA, stI, stA, inc, gtF, ptF, ldX, stX, ldR, ldL, stL, dp1, dp2, Tm, kS0, kS1, kS2, kS3, kS4, kS5, kS6, kS7, kS8, kS9, kS10, kS11, kS12, kS13, kS14, kS15, kS16, kS17, kS18, kS19, kS20, kS21, kS22, kS23, kS24, kS25, kS26, kS27, kS28, kS30, kS31, kS32, kS33, kS34, kS35, kS36, kS37, kS38, kS39, kS40, kS41, kS42, kS43, kS50, kS51, kS52, kS53, List.getElem?_cons_zero, List.getElem?_cons_succ, List.set_cons_zero, List.set_cons_succ, List.length_cons, List.length_nil, List.drop_succ_cons, List.drop_zero, List.cons_append, List.nil_append, Option.toList_some, Option.toList_none, cz, ci2, true_and, and_true, and_self, true_or, or_true, nI_1, Nat.reduceAdd, Nat.reduceLT]
      refine ⟨fun _ => ?_, fun h => absurd (nleI (Nat.le_refl _) (by omega)) h⟩
      refine ev_seg rfl ?_
      simp only [TE, sxs, sx, ldI, ldA, stI, stA, inc, gtF, ptF, ldX, stX, ldR, ldL, stL, dp1, dp2, Tm, kS0, kS1, kS2, kS3, kS4, kS5, kS6, kS7, kS8, kS9, kS10, kS11, kS12, kS13, kS14, kS15, kS16, kS17, kS18, kS19, kS20, kS21, kS22, kS23, kS24, kS25, kS26, kS27, kS28, kS30, kS31, kS32, kS33, kS34, kS35, kS36, kS37, kS38, kS39, kS40, kS41, kS42, kS43, kS50, kS51, kS52, kS53, List.getElem?_cons_zero, List.getElem?_cons_succ, List.set_cons_zero, List.set_cons_succ, List.length_cons, List.length_nil, List.drop_succ_cons, List.drop_zero, List.cons_append, List.nil_append, Option.toList_some, Option.toList_none, cz, ci2, true_and, and_true, and_self, true_or, or_true, nI_1, Nat.reduceAdd, Nat.reduceLT]
    · intro a ha iha z
      have ha5 : vp_in (nI a) 5 := vpn (by omega) (by decide)
      refine ev_seg rfl ?_
      simp only [TE, sxs, sx, ldI, ldA, stI, stA, inc, gtF, ptF, ldX, stX, ldR, ldL, stL, dp1, dp2, Tm, kS0, kS1, kS2, kS3, kS4, kS5, kS6, kS7, kS8, kS9, kS10, kS11, kS12, kS13, kS14, kS15, kS16, kS17, kS18, kS19, kS20, kS21, kS22, kS23, kS24, kS25, kS26, kS27, kS28, kS30, kS31, kS32, kS33, kS34, kS35, kS36, kS37, kS38, kS39, kS40, kS41, kS42, kS43, kS50, kS51, kS52, kS53, List.getElem?_cons_zero, List.getElem?_cons_succ, List.set_cons_zero, List.set_cons_succ, List.length_cons, List.length_nil, List.drop_succ_cons, List.drop_zero, List.cons_append, List.nil_append, Option.toList_some, Option.toList_none, cz, ci2, true_and, and_true, and_self, true_or, or_true, nI_1, Nat.reduceAdd, Nat.reduceLT]
      refine ⟨fun h => absurd h (nle ha (by omega)), fun _ => ?_⟩
      refine ev_seg rfl ?_
      simp only [TE, sxs, sx, ldI, ldA, stI, stA, inc, gtF, ptF, ldX, stX, ldR, ldL, stL, dp1, dp2, Tm, kS0, kS1, kS2, kS3, kS4, kS5, kS6, kS7, kS8, kS9, kS10, kS11, kS12, kS13, kS14, kS15, kS16, kS17, kS18, kS19, kS20, kS21, kS22, kS23, kS24, kS25, kS26, kS27, kS28, kS30, kS31, kS32, kS33, kS34, kS35, kS36, kS37, kS38, kS39, kS40, kS41, kS42, kS43, kS50, kS51, kS52, kS53, List.getElem?_cons_zero, List.getElem?_cons_succ, List.set_cons_zero, List.set_cons_succ, List.length_cons, List.length_nil, List.drop_succ_cons, List.drop_zero, List.cons_append, List.nil_append, Option.toList_some, Option.toList_none, cz, ci2, true_and, and_true, and_self, true_or, or_true, nI_1, Nat.reduceAdd, Nat.reduceLT]
      refine ⟨(by first | assumption | (and_intros <;> first | assumption | trivial | decide)), ?_⟩
      generalize hF2 : xs (opAll F g f n a) 7 0 g (nI a) (f + nI a) = F2
      have iha : ∀ z, Ev sc d 0 1 [vR 2 0 g, vI f, vI (nI n), vI (nI (a + 1)), z] [] (opRow F2 g (nI a) n, X.2) (.inl none) (opAll F g f n n, X.2) 0 := by rw [← hF2]; exact iha
      have inner : ∀ j, j ≤ n → Ev sc d 0 3 [vR 2 0 g, vI f, vI (nI n), vI (nI a), vI (nI j)] [] (opRow F2 g (nI a) j, X.2) (.inl none) (opAll F g f n n, X.2) 0 := by
        apply loop_up
        · refine ev_seg rfl ?_
          simp only [TE, sxs, sx, ldI, ldA, stI, stA, inc, gtF, ptF, ldX, stX, ldR, ldL, stL, dp1, dp2, Tm, kS0, kS1, kS2, kS3, kS4, kS5, kS6, kS7, kS8, kS9, kS10, kS11, kS12, kS13, kS14, kS15, kS16, kS17, kS18, kS19, kS20, kS21, kS22, kS23, kS24, kS25, kS26, kS27, kS28, kS30, kS31, kS32, kS33, kS34, kS35, kS36, kS37, kS38, kS39, kS40, kS41, kS42, kS43, kS50, kS51, kS52, kS53, List.getElem?_cons_zero, List.getElem?_cons_succ, List.set_cons_zero, List.set_cons_succ, List.length_cons, List.length_nil, List.drop_succ_cons, List.drop_zero, List.cons_append, List.nil_append, Option.toList_some, Option.toList_none, cz, ci2, true_and, and_true, and_self, true_or, or_true, nI_1, Nat.reduceAdd, Nat.reduceLT]
          refine ⟨fun _ => ?_, fun h => absurd (nleI (Nat.le_refl _) (by omega)) h⟩
          refine ev_seg rfl ?_
          simp only [TE, sxs, sx, ldI, ldA, stI, stA, inc, gtF, ptF, ldX, stX, ldR, ldL, stL, dp1, dp2, Tm, kS0, kS1, kS2, kS3, kS4, kS5, kS6, kS7, kS8, kS9, kS10, kS11, kS12, kS13, kS14, kS15, kS16, kS17, kS18, kS19, kS20, kS21, kS22, kS23, kS24, kS25, kS26, kS27, kS28, kS30, kS31, kS32, kS33, kS34, kS35, kS36, kS37, kS38, kS39, kS40, kS41, kS42, kS43, kS50, kS51, kS52, kS53, List.getElem?_cons_zero, List.getElem?_cons_succ, List.set_cons_zero, List.set_cons_succ, List.length_cons, List.length_nil, List.drop_succ_cons, List.drop_zero, List.cons_append, List.nil_append, Option.toList_some, Option.toList_none, cz, ci2, true_and, and_true, and_self, true_or, or_true, nI_1, Nat.reduceAdd, Nat.reduceLT]
          exact iha _
        · intro j hj ih
          have hj5 : vp_in (nI j) 5 := vpn (by omega) (by decide)
          refine ev_seg rfl ?_
          simp only [TE, sxs, sx, ldI, ldA, stI, stA, inc, gtF, ptF, ldX, stX, ldR, ldL, stL, dp1, dp2, Tm, kS0, kS1, kS2, kS3, kS4, kS5, kS6, kS7, kS8, kS9, kS10, kS11, kS12, kS13, kS14, kS15, kS16, kS17, kS18, kS19, kS20, kS21, kS22, kS23, kS24, kS25, kS26, kS27, kS28, kS30, kS31, kS32, kS33, kS34, kS35, kS36, kS37, kS38, kS39, kS40, kS41, kS42, kS43, kS50, kS51, kS52, kS53, List.getElem?_cons_zero, List.getElem?_cons_succ, List.set_cons_zero, List.set_cons_succ, List.length_cons, List.length_nil, List.drop_succ_cons, List.drop_zero, List.cons_append, List.nil_append, Option.toList_some, Option.toList_none, cz, ci2, true_and, and_true, and_self, true_or, or_true, nI_1, Nat.reduceAdd, Nat.reduceLT]
          refine ⟨fun h => absurd h (nle hj (by omega)), fun _ => ?_⟩
          refine ev_seg rfl ?_
          simp only [TE, sxs, sx, ldI, ldA, stI, stA, inc, gtF, ptF, ldX, stX, ldR, ldL, stL, dp1, dp2, Tm, kS0, kS1, kS2, kS3, kS4, kS5, kS6, kS7, kS8, kS9, kS10, kS11, kS12, kS13, kS14, kS15, kS16, kS17, kS18, kS19, kS20, kS21, kS22, kS23, kS24, kS25, kS26, kS27, kS28, kS30, kS31, kS32, kS33, kS34, kS35, kS36, kS37, kS38, kS39, kS40, kS41, kS42, kS43, kS50, kS51, kS52, kS53, List.getElem?_cons_zero, List.getElem?_cons_succ, List.set_cons_zero, List.set_cons_succ, List.length_cons, List.length_nil, List.drop_succ_cons, List.drop_zero, List.cons_append, List.nil_append, Option.toList_some, Option.toList_none, cz, ci2, true_and, and_true, and_self, true_or, or_true, nI_1, Nat.reduceAdd, Nat.reduceLT]
          exact ⟨(by first | assumption | (and_intros <;> first | assumption | trivial | decide)), ih⟩
      exact inner 0 (Nat.zero_le _)
  exact loop 0 (Nat.zero_le _) _
end Grp
end
section
/-! rows of marks -/
def faux (f g : Nat → Int32) : Nat → Nat → Nat
  | 0, c => c
  | q + 1, c => if f c = g c then faux f g q (c + 1) else c
/-- the first place of m in which two rows differ, m if there is none -/
def fa (f g : Nat → Int32) (m : Nat) : Nat := faux f g m 0
def bet (f g : Nat → Int32) (m : Nat) : Prop := fa f g m < m ∧ g (fa f g m) < f (fa f g m)
theorem faux_le (f g : Nat → Int32) : ∀ q c, faux f g q c ≤ c + q
  | 0, c => Nat.le_refl _
  | q + 1, c => by
    unfold faux
    split
    · have := faux_le f g q (c + 1); omega
    · omega
theorem faux_ge (f g : Nat → Int32) : ∀ q c, c ≤ faux f g q c
  | 0, c => Nat.le_refl _
  | q + 1, c => by
    unfold faux
    split
    · have := faux_ge f g q (c + 1); omega
    · omega
theorem fa_le (f g : Nat → Int32) (m : Nat) : fa f g m ≤ m := by have := faux_le f g m 0; unfold fa; omega
def betD (f g : Nat → Int32) (m : Nat) : Decidable (bet f g m) := inferInstanceAs (Decidable (fa f g m < m ∧ g (fa f g m) < f (fa f g m)))
section Mks
variable {sc : SC} {d : Nat} {X : XT}
theorem s_put9 {r c v : Int32} (hr : vp_in r 5) (hc : vp_in c 4) : Ev sc d 28 0 (ent 28 [vR 9 0 0, vI r, vI c, vI v]) [] X (.inl none) (xs X.1 11 0 r c v, X.2) 0 := by
  rw [en28]
  refine ev_seg rfl ?_
  simp only [TE, sxs, sx, ldI, ldA, stI, stA, inc, gtF, ptF, ldX, stX, ldR, ldL, stL, dp1, dp2, Tm, kS0, kS1, kS2, kS3, kS4, kS5, kS6, kS7, kS8, kS9, kS10, kS11, kS12, kS13, kS14, kS15, kS16, kS17, kS18, kS19, kS20, kS21, kS22, kS23, kS24, kS25, kS26, kS27, kS28, kS30, kS31, kS32, kS33, kS34, kS35, kS36, kS37, kS38, kS39, kS40, kS41, kS42, kS43, kS50, kS51, kS52, kS53, List.getElem?_cons_zero, List.getElem?_cons_succ, List.set_cons_zero, List.set_cons_succ, List.length_cons, List.length_nil, List.drop_succ_cons, List.drop_zero, List.cons_append, List.nil_append, Option.toList_some, Option.toList_none, cz, ci2, true_and, and_true, and_self, true_or, or_true, nI_1, Nat.reduceAdd, Nat.reduceLT]
  exact (by first | assumption | (and_intros <;> first | assumption | trivial | decide))
theorem s_at9 {r c : Int32} (hr : vp_in r 5) (hc : vp_in c 4) : Ev sc d 29 0 (ent 29 [vR 9 0 0, vI r, vI c]) [] X (.inl (some (.inl (X.1 11 0 r c)))) X 0 := by
  rw [en29]
  refine ev_seg rfl ?_
  simp only [TE, sxs, sx, ldI, ldA, stI, stA, inc, gtF, ptF, ldX, stX, ldR, ldL, stL, dp1, dp2, Tm, kS0, kS1, kS2, kS3, kS4, kS5, kS6, kS7, kS8, kS9, kS10, kS11, kS12, kS13, kS14, kS15, kS16, kS17, kS18, kS19, kS20, kS21, kS22, kS23, kS24, kS25, kS26, kS27, kS28, kS30, kS31, kS32, kS33, kS34, kS35, kS36, kS37, kS38, kS39, kS40, kS41, kS42, kS43, kS50, kS51, kS52, kS53, List.getElem?_cons_zero, List.getElem?_cons_succ, List.set_cons_zero, List.set_cons_succ, List.length_cons, List.length_nil, List.drop_succ_cons, List.drop_zero, List.cons_append, List.nil_append, Option.toList_some, Option.toList_none, cz, ci2, true_and, and_true, and_self, true_or, or_true, nI_1, Nat.reduceAdd, Nat.reduceLT]
  exact (by first | assumption | (and_intros <;> first | assumption | trivial | decide))
theorem s_firstApart9 {r s : Int32} {m : Nat} (hr : vp_in r 5) (hs : vp_in s 5) (hm : m ≤ 4) : Ev sc d 30 0 (ent 30 [vR 9 0 0, vI r, vI s, vI (nI m)]) [] X (.inl (some (.inl (nI (fa (fun c => X.1 11 0 r (nI c)) (fun c => X.1 11 0 s (nI c)) m))))) X 0 := by
  rw [en30]
  refine ev_seg rfl ?_
  simp only [TE, sxs, sx, ldI, ldA, stI, stA, inc, gtF, ptF, ldX, stX, ldR, ldL, stL, dp1, dp2, Tm, kS0, kS1, kS2, kS3, kS4, kS5, kS6, kS7, kS8, kS9, kS10, kS11, kS12, kS13, kS14, kS15, kS16, kS17, kS18, kS19, kS20, kS21, kS22, kS23, kS24, kS25, kS26, kS27, kS28, kS30, kS31, kS32, kS33, kS34, kS35, kS36, kS37, kS38, kS39, kS40, kS41, kS42, kS43, kS50, kS51, kS52, kS53, List.getElem?_cons_zero, List.getElem?_cons_succ, List.set_cons_zero, List.set_cons_succ, List.length_cons, List.length_nil, List.drop_succ_cons, List.drop_zero, List.cons_append, List.nil_append, Option.toList_some, Option.toList_none, cz, ci2, true_and, and_true, and_self, true_or, or_true, nI_1, Nat.reduceAdd, Nat.reduceLT]
  have loop : ∀ q c, c + q = m → Ev sc d 30 1 [vR 9 0 0, vI r, vI s, vI (nI m), vI (nI c)] [] X (.inl (some (.inl (nI (faux (fun c => X.1 11 0 r (nI c)) (fun c => X.1 11 0 s (nI c)) q c))))) X 0 := by
    intro q
    induction q with
    | zero =>
      intro c hc
      refine ev_seg rfl ?_
      simp only [TE, sxs, sx, ldI, ldA, stI, stA, inc, gtF, ptF, ldX, stX, ldR, ldL, stL, dp1, dp2, Tm, kS0, kS1, kS2, kS3, kS4, kS5, kS6, kS7, kS8, kS9, kS10, kS11, kS12, kS13, kS14, kS15, kS16, kS17, kS18, kS19, kS20, kS21, kS22, kS23, kS24, kS25, kS26, kS27, kS28, kS30, kS31, kS32, kS33, kS34, kS35, kS36, kS37, kS38, kS39, kS40, kS41, kS42, kS43, kS50, kS51, kS52, kS53, List.getElem?_cons_zero, List.getElem?_cons_succ, List.set_cons_zero, List.set_cons_succ, List.length_cons, List.length_nil, List.drop_succ_cons, List.drop_zero, List.cons_append, List.nil_append, Option.toList_some, Option.toList_none, cz, ci2, true_and, and_true, and_self, true_or, or_true, nI_1, Nat.reduceAdd, Nat.reduceLT]
      refine ⟨fun _ => ?_, fun h => absurd (nleI (by omega) (by omega)) h⟩
      refine ev_seg rfl ?_
      simp only [TE, sxs, sx, ldI, ldA, stI, stA, inc, gtF, ptF, ldX, stX, ldR, ldL, stL, dp1, dp2, Tm, kS0, kS1, kS2, kS3, kS4, kS5, kS6, kS7, kS8, kS9, kS10, kS11, kS12, kS13, kS14, kS15, kS16, kS17, kS18, kS19, kS20, kS21, kS22, kS23, kS24, kS25, kS26, kS27, kS28, kS30, kS31, kS32, kS33, kS34, kS35, kS36, kS37, kS38, kS39, kS40, kS41, kS42, kS43, kS50, kS51, kS52, kS53, List.getElem?_cons_zero, List.getElem?_cons_succ, List.set_cons_zero, List.set_cons_succ, List.length_cons, List.length_nil, List.drop_succ_cons, List.drop_zero, List.cons_append, List.nil_append, Option.toList_some, Option.toList_none, cz, ci2, true_and, and_true, and_self, true_or, or_true, nI_1, Nat.reduceAdd, Nat.reduceLT]
      rfl
    | succ q ih =>
      intro c hc
      have hc4 : vp_in (nI c) 4 := vpn (by omega) (by decide)
      have ih := ih (c + 1) (by omega)
      refine ev_seg rfl ?_
      simp only [TE, sxs, sx, ldI, ldA, stI, stA, inc, gtF, ptF, ldX, stX, ldR, ldL, stL, dp1, dp2, Tm, kS0, kS1, kS2, kS3, kS4, kS5, kS6, kS7, kS8, kS9, kS10, kS11, kS12, kS13, kS14, kS15, kS16, kS17, kS18, kS19, kS20, kS21, kS22, kS23, kS24, kS25, kS26, kS27, kS28, kS30, kS31, kS32, kS33, kS34, kS35, kS36, kS37, kS38, kS39, kS40, kS41, kS42, kS43, kS50, kS51, kS52, kS53, List.getElem?_cons_zero, List.getElem?_cons_succ, List.set_cons_zero, List.set_cons_succ, List.length_cons, List.length_nil, List.drop_succ_cons, List.drop_zero, List.cons_append, List.nil_append, Option.toList_some, Option.toList_none, cz, ci2, true_and, and_true, and_self, true_or, or_true, nI_1, Nat.reduceAdd, Nat.reduceLT]
      refine ⟨fun h => absurd h (nle (by omega) (by omega)), fun _ => ?_⟩
      refine ev_seg rfl ?_
      simp only [TE, sxs, sx, ldI, ldA, stI, stA, inc, gtF, ptF, ldX, stX, ldR, ldL, stL, dp1, dp2, Tm, kS0, kS1, kS2, kS3, kS4, kS5, kS6, kS7, kS8, kS9, kS10, kS11, kS12, kS13, kS14, kS15, kS16, kS17, kS18, kS19, kS20, kS21, kS22, kS23, kS24, kS25, kS26, kS27, kS28, kS30, kS31, kS32, kS33, kS34, kS35, kS36, kS37, kS38, kS39, kS40, kS41, kS42, kS43, kS50, kS51, kS52, kS53, List.getElem?_cons_zero, List.getElem?_cons_succ, List.set_cons_zero, List.set_cons_succ, List.length_cons, List.length_nil, List.drop_succ_cons, List.drop_zero, List.cons_append, List.nil_append, Option.toList_some, Option.toList_none, cz, ci2, true_and, and_true, and_self, true_or, or_true, nI_1, Nat.reduceAdd, Nat.reduceLT]
      refine ⟨(by first | assumption | (and_intros <;> first | assumption | trivial | decide)), fun h => ?_, fun h => ?_⟩
      · rw [show faux (fun c => X.1 11 0 r (nI c)) (fun c => X.1 11 0 s (nI c)) (q + 1) c = c from if_neg h]
        refine ev_seg rfl ?_
        simp only [TE, sxs, sx, ldI, ldA, stI, stA, inc, gtF, ptF, ldX, stX, ldR, ldL, stL, dp1, dp2, Tm, kS0, kS1, kS2, kS3, kS4, kS5, kS6, kS7, kS8, kS9, kS10, kS11, kS12, kS13, kS14, kS15, kS16, kS17, kS18, kS19, kS20, kS21, kS22, kS23, kS24, kS25, kS26, kS27, kS28, kS30, kS31, kS32, kS33, kS34, kS35, kS36, kS37, kS38, kS39, kS40, kS41, kS42, kS43, kS50, kS51, kS52, kS53, List.getElem?_cons_zero, List.getElem?_cons_succ, List.set_cons_zero, List.set_cons_succ, List.length_cons, List.length_nil, List.drop_succ_cons, List.drop_zero, List.cons_append, List.nil_append, Option.toList_some, Option.toList_none, cz, ci2, true_and, and_true, and_self, true_or, or_true, nI_1, Nat.reduceAdd, Nat.reduceLT]
      · rw [show faux (fun c => X.1 11 0 r (nI c)) (fun c => X.1 11 0 s (nI c)) (q + 1) c = faux (fun c => X.1 11 0 r (nI c)) (fun c => X.1 11 0 s (nI c)) q (c + 1) from if_pos (Classical.not_not.mp h)]
        refine ev_seg rfl ?_
        simp only [TE, sxs, sx, ldI, ldA, stI, stA, inc, gtF, ptF, ldX, stX, ldR, ldL, stL, dp1, dp2, Tm, kS0, kS1, kS2, kS3, kS4, kS5, kS6, kS7, kS8, kS9, kS10, kS11, kS12, kS13, kS14, kS15, kS16, kS17, kS18, kS19, kS20, kS21, kS22, kS23, kS24, kS25, kS26, kS27, kS28, kS30, kS31, kS32, kS33, kS34, kS35, kS36, kS37, kS38, kS39, kS40, kS41, kS42, kS43, kS50, kS51, kS52, kS53, List.getElem?_cons_zero, List.getElem?_cons_succ, List.set_cons_zero, List.set_cons_succ, List.length_cons, List.length_nil, List.drop_succ_cons, List.drop_zero, List.cons_append, List.nil_append, Option.toList_some, Option.toList_none, cz, ci2, true_and, and_true, and_self, true_or, or_true, nI_1, Nat.reduceAdd, Nat.reduceLT]
        exact ih
  exact loop m 0 (by omega)
theorem s_isBetter9 {r s : Int32} {m : Nat} (hr : vp_in r 5) (hs : vp_in s 5) (hm : m ≤ 4) [Decidable (bet (fun c => X.1 11 0 r (nI c)) (fun c => X.1 11 0 s (nI c)) m)] : Ev sc (d + 1) 31 0 (ent 31 [vR 9 0 0, vI r, vI s, vI (nI m)]) [] X (.inl (some (.inl (bI (bet (fun c => X.1 11 0 r (nI c)) (fun c => X.1 11 0 s (nI c)) m))))) X 0 := by
  rw [en31]
  refine ev_seg rfl ?_
  simp only [TE, sxs, sx, ldI, ldA, stI, stA, inc, gtF, ptF, ldX, stX, ldR, ldL, stL, dp1, dp2, Tm, kS0, kS1, kS2, kS3, kS4, kS5, kS6, kS7, kS8, kS9, kS10, kS11, kS12, kS13, kS14, kS15, kS16, kS17, kS18, kS19, kS20, kS21, kS22, kS23, kS24, kS25, kS26, kS27, kS28, kS30, kS31, kS32, kS33, kS34, kS35, kS36, kS37, kS38, kS39, kS40, kS41, kS42, kS43, kS50, kS51, kS52, kS53, List.getElem?_cons_zero, List.getElem?_cons_succ, List.set_cons_zero, List.set_cons_succ, List.length_cons, List.length_nil, List.drop_succ_cons, List.drop_zero, List.cons_append, List.nil_append, Option.toList_some, Option.toList_none, cz, ci2, true_and, and_true, and_self, true_or, or_true, nI_1, Nat.reduceAdd, Nat.reduceLT]
  refine cv4 rfl rfl (by first | exact rfl | exact trivial) (s_firstApart9 hr hs hm) ?_
  have hle := fa_le (fun c => X.1 11 0 r (nI c)) (fun c => X.1 11 0 s (nI c)) m
  refine ev_seg rfl ?_
  simp only [TE, sxs, sx, ldI, ldA, stI, stA, inc, gtF, ptF, ldX, stX, ldR, ldL, stL, dp1, dp2, Tm, kS0, kS1, kS2, kS3, kS4, kS5, kS6, kS7, kS8, kS9, kS10, kS11, kS12, kS13, kS14, kS15, kS16, kS17, kS18, kS19, kS20, kS21, kS22, kS23, kS24, kS25, kS26, kS27, kS28, kS30, kS31, kS32, kS33, kS34, kS35, kS36, kS37, kS38, kS39, kS40, kS41, kS42, kS43, kS50, kS51, kS52, kS53, List.getElem?_cons_zero, List.getElem?_cons_succ, List.set_cons_zero, List.set_cons_succ, List.length_cons, List.length_nil, List.drop_succ_cons, List.drop_zero, List.cons_append, List.nil_append, Option.toList_some, Option.toList_none, cz, ci2, true_and, and_true, and_self, true_or, or_true, nI_1, Nat.reduceAdd, Nat.reduceLT]
  refine ⟨fun h => ?_, fun h => ?_⟩
  · rw [bI_f (fun q => nle q.1 (by omega) h)]
    refine ev_seg rfl ?_
    simp only [TE, sxs, sx, ldI, ldA, stI, stA, inc, gtF, ptF, ldX, stX, ldR, ldL, stL, dp1, dp2, Tm, kS0, kS1, kS2, kS3, kS4, kS5, kS6, kS7, kS8, kS9, kS10, kS11, kS12, kS13, kS14, kS15, kS16, kS17, kS18, kS19, kS20, kS21, kS22, kS23, kS24, kS25, kS26, kS27, kS28, kS30, kS31, kS32, kS33, kS34, kS35, kS36, kS37, kS38, kS39, kS40, kS41, kS42, kS43, kS50, kS51, kS52, kS53, List.getElem?_cons_zero, List.getElem?_cons_succ, List.set_cons_zero, List.set_cons_succ, List.length_cons, List.length_nil, List.drop_succ_cons, List.drop_zero, List.cons_append, List.nil_append, Option.toList_some, Option.toList_none, cz, ci2, true_and, and_true, and_self, true_or, or_true, nI_1, Nat.reduceAdd, Nat.reduceLT]
    refine ev_seg rfl ?_
    simp only [TE, sxs, sx, ldI, ldA, stI, stA, inc, gtF, ptF, ldX, stX, ldR, ldL, stL, dp1, dp2, Tm, kS0, kS1, kS2, kS3, kS4, kS5, kS6, kS7, kS8, kS9, kS10, kS11, kS12, kS13, kS14, kS15, kS16, kS17, kS18, kS19, kS20, kS21, kS22, kS23, kS24, kS25, kS26, kS27, kS28, kS30, kS31, kS32, kS33, kS34, kS35, kS36, kS37, kS38, kS39, kS40, kS41, kS42, kS43, kS50, kS51, kS52, kS53, List.getElem?_cons_zero, List.getElem?_cons_succ, List.set_cons_zero, List.set_cons_succ, List.length_cons, List.length_nil, List.drop_succ_cons, List.drop_zero, List.cons_append, List.nil_append, Option.toList_some, Option.toList_none, cz, ci2, true_and, and_true, and_self, true_or, or_true, nI_1, Nat.reduceAdd, Nat.reduceLT]
  · have hlt : fa (fun c => X.1 11 0 r (nI c)) (fun c => X.1 11 0 s (nI c)) m < m := by
      rcases Nat.lt_or_ge (fa (fun c => X.1 11 0 r (nI c)) (fun c => X.1 11 0 s (nI c)) m) m with q | q
      · exact q
      · exact absurd (nleI q (by omega)) h
    have hc4 : vp_in (nI (fa (fun c => X.1 11 0 r (nI c)) (fun c => X.1 11 0 s (nI c)) m)) 4 := vpn (by omega) (by decide)
    refine ev_seg rfl ?_
    simp only [TE, sxs, sx, ldI, ldA, stI, stA, inc, gtF, ptF, ldX, stX, ldR, ldL, stL, dp1, dp2, Tm, kS0, kS1, kS2, kS3, kS4, kS5, kS6, kS7, kS8, kS9, kS10, kS11, kS12, kS13, kS14, kS15, kS16, kS17, kS18, kS19, kS20, kS21, kS22, kS23, kS24, kS25, kS26, kS27, kS28, kS30, kS31, kS32, kS33, kS34, kS35, kS36, kS37, kS38, kS39, kS40, kS41, kS42, kS43, kS50, kS51, kS52, kS53, List.getElem?_cons_zero, List.getElem?_cons_succ, List.set_cons_zero, List.set_cons_succ, List.length_cons, List.length_nil, List.drop_succ_cons, List.drop_zero, List.cons_append, List.nil_append, Option.toList_some, Option.toList_none, cz, ci2, true_and, and_true, and_self, true_or, or_true, nI_1, Nat.reduceAdd, Nat.reduceLT]
    refine ⟨(by first | assumption | (and_intros <;> first | assumption | trivial | decide)), fun h2 => ?_, fun h2 => ?_⟩
    · rw [bI_f (fun q => i_nlt h2 q.2)]
      refine ev_seg rfl ?_
      simp only [TE, sxs, sx, ldI, ldA, stI, stA, inc, gtF, ptF, ldX, stX, ldR, ldL, stL, dp1, dp2, Tm, kS0, kS1, kS2, kS3, kS4, kS5, kS6, kS7, kS8, kS9, kS10, kS11, kS12, kS13, kS14, kS15, kS16, kS17, kS18, kS19, kS20, kS21, kS22, kS23, kS24, kS25, kS26, kS27, kS28, kS30, kS31, kS32, kS33, kS34, kS35, kS36, kS37, kS38, kS39, kS40, kS41, kS42, kS43, kS50, kS51, kS52, kS53, List.getElem?_cons_zero, List.getElem?_cons_succ, List.set_cons_zero, List.set_cons_succ, List.length_cons, List.length_nil, List.drop_succ_cons, List.drop_zero, List.cons_append, List.nil_append, Option.toList_some, Option.toList_none, cz, ci2, true_and, and_true, and_self, true_or, or_true, nI_1, Nat.reduceAdd, Nat.reduceLT]
      refine ev_seg rfl ?_
      simp only [TE, sxs, sx, ldI, ldA, stI, stA, inc, gtF, ptF, ldX, stX, ldR, ldL, stL, dp1, dp2, Tm, kS0, kS1, kS2, kS3, kS4, kS5, kS6, kS7, kS8, kS9, kS10, kS11, kS12, kS13, kS14, kS15, kS16, kS17, kS18, kS19, kS20, kS21, kS22, kS23, kS24, kS25, kS26, kS27, kS28, kS30, kS31, kS32, kS33, kS34, kS35, kS36, kS37, kS38, kS39, kS40, kS41, kS42, kS43, kS50, kS51, kS52, kS53, List.getElem?_cons_zero, List.getElem?_cons_succ, List.set_cons_zero, List.set_cons_succ, List.length_cons, List.length_nil, List.drop_succ_cons, List.drop_zero, List.cons_append, List.nil_append, Option.toList_some, Option.toList_none, cz, ci2, true_and, and_true, and_self, true_or, or_true, nI_1, Nat.reduceAdd, Nat.reduceLT]
    · rw [bI_t ⟨hlt, i_lt h2⟩]
      refine ev_seg rfl ?_
      simp only [TE, sxs, sx, ldI, ldA, stI, stA, inc, gtF, ptF, ldX, stX, ldR, ldL, stL, dp1, dp2, Tm, kS0, kS1, kS2, kS3, kS4, kS5, kS6, kS7, kS8, kS9, kS10, kS11, kS12, kS13, kS14, kS15, kS16, kS17, kS18, kS19, kS20, kS21, kS22, kS23, kS24, kS25, kS26, kS27, kS28, kS30, kS31, kS32, kS33, kS34, kS35, kS36, kS37, kS38, kS39, kS40, kS41, kS42, kS43, kS50, kS51, kS52, kS53, List.getElem?_cons_zero, List.getElem?_cons_succ, List.set_cons_zero, List.set_cons_succ, List.length_cons, List.length_nil, List.drop_succ_cons, List.drop_zero, List.cons_append, List.nil_append, Option.toList_some, Option.toList_none, cz, ci2, true_and, and_true, and_self, true_or, or_true, nI_1, Nat.reduceAdd, Nat.reduceLT]
      refine ev_seg rfl ?_
      simp only [TE, sxs, sx, ldI, ldA, stI, stA, inc, gtF, ptF, ldX, stX, ldR, ldL, stL, dp1, dp2, Tm, kS0, kS1, kS2, kS3, kS4, kS5, kS6, kS7, kS8, kS9, kS10, kS11, kS12, kS13, kS14, kS15, kS16, kS17, kS18, kS19, kS20, kS21, kS22, kS23, kS24, kS25, kS26, kS27, kS28, kS30, kS31, kS32, kS33, kS34, kS35, kS36, kS37, kS38, kS39, kS40, kS41, kS42, kS43, kS50, kS51, kS52, kS53, List.getElem?_cons_zero, List.getElem?_cons_succ, List.set_cons_zero, List.set_cons_succ, List.length_cons, List.length_nil, List.drop_succ_cons, List.drop_zero, List.cons_append, List.nil_append, Option.toList_some, Option.toList_none, cz, ci2, true_and, and_true, and_self, true_or, or_true, nI_1, Nat.reduceAdd, Nat.reduceLT]
theorem s_put16 {r c v : Int32} (hr : vp_in r 6) (hc : vp_in c 5) : Ev sc d 28 0 (ent 28 [vR 16 0 0, vI r, vI c, vI v]) [] X (.inl none) (xs X.1 18 0 r c v, X.2) 0 := by
  rw [en28]
  refine ev_seg rfl ?_
  simp only [TE, sxs, sx, ldI, ldA, stI, stA, inc, gtF, ptF, ldX, stX, ldR, ldL, stL, dp1, dp2, Tm, kS0, kS1, kS2, kS3, kS4, kS5, kS6, kS7, kS8, kS9, kS10, kS11, kS12, kS13, kS14, kS15, kS16, kS17, kS18, kS19, kS20, kS21, kS22, kS23, kS24, kS25, kS26, kS27, kS28, kS30, kS31, kS32, kS33, kS34, kS35, kS36, kS37, kS38, kS39, kS40, kS41, kS42, kS43, kS50, kS51, kS52, kS53, List.getElem?_cons_zero, List.getElem?_cons_succ, List.set_cons_zero, List.set_cons_succ, List.length_cons, List.length_nil, List.drop_succ_cons, List.drop_zero, List.cons_append, List.nil_append, Option.toList_some, Option.toList_none, cz, ci2, true_and, and_true, and_self, true_or, or_true, nI_1, Nat.reduceAdd, Nat.reduceLT]
  exact (by first | assumption | (and_intros <;> first | assumption | trivial | decide))
theorem s_at16 {r c : Int32} (hr : vp_in r 6) (hc : vp_in c 5) : Ev sc d 29 0 (ent 29 [vR 16 0 0, vI r, vI c]) [] X (.inl (some (.inl (X.1 18 0 r c)))) X 0 := by
  rw [en29]
  refine ev_seg rfl ?_
  simp only [TE, sxs, sx, ldI, ldA, stI, stA, inc, gtF, ptF, ldX, stX, ldR, ldL, stL, dp1, dp2, Tm, kS0, kS1, kS2, kS3, kS4, kS5, kS6, kS7, kS8, kS9, kS10, kS11, kS12, kS13, kS14, kS15, kS16, kS17, kS18, kS19, kS20, kS21, kS22, kS23, kS24, kS25, kS26, kS27, kS28, kS30, kS31, kS32, kS33, kS34, kS35, kS36, kS37, kS38, kS39, kS40, kS41, kS42, kS43, kS50, kS51, kS52, kS53, List.getElem?_cons_zero, List.getElem?_cons_succ, List.set_cons_zero, List.set_cons_succ, List.length_cons, List.length_nil, List.drop_succ_cons, List.drop_zero, List.cons_append, List.nil_append, Option.toList_some, Option.toList_none, cz, ci2, true_and, and_true, and_self, true_or, or_true, nI_1, Nat.reduceAdd, Nat.reduceLT]
  exact (by first | assumption | (and_intros <;> first | assumption | trivial | decide))
theorem s_firstApart16 {r s : Int32} {m : Nat} (hr : vp_in r 6) (hs : vp_in s 6) (hm : m ≤ 5) : Ev sc d 30 0 (ent 30 [vR 16 0 0, vI r, vI s, vI (nI m)]) [] X (.inl (some (.inl (nI (fa (fun c => X.1 18 0 r (nI c)) (fun c => X.1 18 0 s (nI c)) m))))) X 0 := by
  rw [en30]
  refine ev_seg rfl ?_
  simp only [TE, sxs, sx, ldI, ldA, stI, stA, inc, gtF, ptF, ldX, stX, ldR, ldL, stL, dp1, dp2, Tm, kS0, kS1, kS2, kS3, kS4, kS5, kS6, kS7, kS8, kS9, kS10, kS11, kS12, kS13, kS14, kS15, kS16, kS17, kS18, kS19, kS20, kS21, kS22, kS23, kS24, kS25, kS26, kS27, kS28, kS30, kS31, kS32, kS33, kS34, kS35, kS36, kS37, kS38, kS39, kS40, kS41, kS42, kS43, kS50, kS51, kS52, kS53, List.getElem?_cons_zero, List.getElem?_cons_succ, List.set_cons_zero, List.set_cons_succ, List.length_cons, List.length_nil, List.drop_succ_cons, List.drop_zero, List.cons_append, List.nil_append, Option.toList_some, Option.toList_none, cz, ci2, true_and, and_true, and_self, true_or, or_true, nI_1, Nat.reduceAdd, Nat.reduceLT]
  have loop : ∀ q c, c + q = m → Ev sc d 30 1 [vR 16 0 0, vI r, vI s, vI (nI m), vI (nI c)] [] X (.inl (some (.inl (nI (faux (fun c => X.1 18 0 r (nI c)) (fun c => X.1 18 0 s (nI c)) q c))))) X 0 := by
    intro q
    induction q with
    | zero =>
      intro c hc
      refine ev_seg rfl ?_
      simp only [TE, sxs, sx, ldI, ldA, stI, stA, inc, gtF, ptF, ldX, stX, ldR, ldL, stL, dp1, dp2, Tm, kS0, kS1, kS2, kS3, kS4, kS5, kS6, kS7, kS8, kS9, kS10, kS11, kS12, kS13, kS14, kS15, kS16, kS17, kS18, kS19, kS20, kS21, kS22, kS23, kS24, kS25, kS26, kS27, kS28, kS30, kS31, kS32, kS33, kS34, kS35, kS36, kS37, kS38, kS39, kS40, kS41, kS42, kS43, kS50, kS51, kS52, kS53, List.getElem?_cons_zero, List.getElem?_cons_succ, List.set_cons_zero, List.set_cons_succ, List.length_cons, List.length_nil, List.drop_succ_cons, List.drop_zero, List.cons_append, List.nil_append, Option.toList_some, Option.toList_none, cz, ci2, true_and, and_true, and_self, true_or, or_true, nI_1, Nat.reduceAdd, Nat.reduceLT]
      refine ⟨fun _ => ?_, fun h => absurd (nleI (by omega) (by omega)) h⟩
      refine ev_seg rfl ?_
      simp only [TE, sxs, sx, ldI, ldA, stI, stA, inc, gtF, ptF, ldX, stX, ldR, ldL, stL, dp1, dp2, Tm, kS0, kS1, kS2, kS3, kS4, kS5, kS6, kS7, kS8, kS9, kS10, kS11, kS12, kS13, kS14, kS15, kS16, kS17, kS18, kS19, kS20, kS21, kS22, kS23, kS24, kS25, kS26, kS27, kS28, kS30, kS31, kS32, kS33, kS34, kS35, kS36, kS37, kS38, kS39, kS40, kS41, kS42, kS43, kS50, kS51, kS52, kS53, List.getElem?_cons_zero, List.getElem?_cons_succ, List.set_cons_zero, List.set_cons_succ, List.length_cons, List.length_nil, List.drop_succ_cons, List.drop_zero, List.cons_append, List.nil_append, Option.toList_some, Option.toList_none, cz, ci2, true_and, and_true, and_self, true_or, or_true, nI_1, Nat.reduceAdd, Nat.reduceLT]
      rfl
    | succ q ih =>
      intro c hc
      have hc4 : vp_in (nI c) 5 := vpn (by omega) (by decide)
      have ih := ih (c + 1) (by omega)
      refine ev_seg rfl ?_
      simp only [TE, sxs, sx, ldI, ldA, stI, stA, inc, gtF, ptF, ldX, stX, ldR, ldL, stL, dp1, dp2, Tm, kS0, kS1, kS2, kS3, kS4, kS5, kS6, kS7, kS8, kS9, kS10, kS11, kS12, kS13, kS14, kS15, kS16, kS17, kS18, kS19, kS20, kS21, kS22, kS23, kS24, kS25, kS26, kS27, kS28, kS30, kS31, kS32, kS33, kS34, kS35, kS36, kS37, kS38, kS39, kS40, kS41, kS42, kS43, kS50, kS51, kS52, kS53, List.getElem?_cons_zero, List.getElem?_cons_succ, List.set_cons_zero, List.set_cons_succ, List.length_cons, List.length_nil, List.drop_succ_cons, List.drop_zero, List.cons_append, List.nil_append, Option.toList_some, Option.toList_none, cz, ci2, true_and, and_true, and_self, true_or, or_true, nI_1, Nat.reduceAdd, Nat.reduceLT]
      refine ⟨fun h => absurd h (nle (by omega) (by omega)), fun _ => ?_⟩
      refine ev_seg rfl ?_
      simp only [TE, sxs, sx, ldI, ldA, stI, stA, inc, gtF, ptF, ldX, stX, ldR, ldL, stL, dp1, dp2, Tm, kS0, kS1, kS2, kS3, kS4, kS5, kS6, kS7, kS8, kS9, kS10, kS11, kS12, kS13, kS14, kS15, kS16, kS17, kS18, kS19, kS20, kS21, kS22, kS23, kS24, kS25, kS26, kS27, kS28, kS30, kS31, kS32, kS33, kS34, kS35, kS36, kS37, kS38, kS39, kS40, kS41, kS42, kS43, kS50, kS51, kS52, kS53, List.getElem?_cons_zero, List.getElem?_cons_succ, List.set_cons_zero, List.set_cons_succ, List.length_cons, List.length_nil, List.drop_succ_cons, List.drop_zero, List.cons_append, List.nil_append, Option.toList_some, Option.toList_none, cz, ci2, true_and, and_true, and_self, true_or, or_true, nI_1, Nat.reduceAdd, Nat.reduceLT]
      refine ⟨(by first | assumption | (and_intros <;> first | assumption | trivial | decide)), fun h => ?_, fun h => ?_⟩
      · rw [show faux (fun c => X.1 18 0 r (nI c)) (fun c => X.1 18 0 s (nI c)) (q + 1) c = c from if_neg h]
        refine ev_seg rfl ?_
        simp only [TE, sxs, sx, ldI, ldA, stI, stA, inc, gtF, ptF, ldX, stX, ldR, ldL, stL, dp1, dp2, Tm, kS0, kS1, kS2, kS3, kS4, kS5, kS6, kS7, kS8, kS9, kS10, kS11, kS12, kS13, kS14, kS15, kS16, kS17, kS18, kS19, kS20, kS21, kS22, kS23, kS24, kS25, kS26, kS27, kS28, kS30, kS31, kS32, kS33, kS34, kS35, kS36, kS37, kS38, kS39, kS40, kS41, kS42, kS43, kS50, kS51, kS52, kS53, List.getElem?_cons_zero, List.getElem?_cons_succ, List.set_cons_zero, List.set_cons_succ, List.length_cons, List.length_nil, List.drop_succ_cons, List.drop_zero, List.cons_append, List.nil_append, Option.toList_some, Option.toList_none, cz, ci2, true_and, and_true, and_self, true_or, or_true, nI_1, Nat.reduceAdd, Nat.reduceLT]
      · rw [show faux (fun c => X.1 18 0 r (nI c)) (fun c => X.1 18 0 s (nI c)) (q + 1) c = faux (fun c => X.1 18 0 r (nI c)) (fun c => X.1 18 0 s (nI c)) q (c + 1) from if_pos (Classical.not_not.mp h)]
        refine ev_seg rfl ?_
        simp only [TE, sxs, sx, ldI, ldA, stI, stA, inc, gtF, ptF, ldX, stX, ldR, ldL, stL, dp1, dp2, Tm, kS0, kS1, kS2, kS3, kS4, kS5, kS6, kS7, kS8, kS9, kS10, kS11, kS12, kS13, kS14, kS15, kS16, kS17, kS18, kS19, kS20, kS21, kS22, kS23, kS24, kS25, kS26, kS27, kS28, kS30, kS31, kS32, kS33, kS34, kS35, kS36, kS37, kS38, kS39, kS40, kS41, kS42, kS43, kS50, kS51, kS52, kS53, List.getElem?_cons_zero, List.getElem?_cons_succ, List.set_cons_zero, List.set_cons_succ, List.length_cons, List.length_nil, List.drop_succ_cons, List.drop_zero, List.cons_append, List.nil_append, Option.toList_some, Option.toList_none, cz, ci2, true_and, and_true, and_self, true_or, or_true, nI_1, Nat.reduceAdd, Nat.reduceLT]
        exact ih
  exact loop m 0 (by omega)
theorem s_isBetter16 {r s : Int32} {m : Nat} (hr : vp_in r 6) (hs : vp_in s 6) (hm : m ≤ 5) [Decidable (bet (fun c => X.1 18 0 r (nI c)) (fun c => X.1 18 0 s (nI c)) m)] : Ev sc (d + 1) 31 0 (ent 31 [vR 16 0 0, vI r, vI s, vI (nI m)]) [] X (.inl (some (.inl (bI (bet (fun c => X.1 18 0 r (nI c)) (fun c => X.1 18 0 s (nI c)) m))))) X 0 := by
  rw [en31]
  refine ev_seg rfl ?_
  simp only [TE, sxs, sx, ldI, ldA, stI, stA, inc, gtF, ptF, ldX, stX, ldR, ldL, stL, dp1, dp2, Tm, kS0, kS1, kS2, kS3, kS4, kS5, kS6, kS7, kS8, kS9, kS10, kS11, kS12, kS13, kS14, kS15, kS16, kS17, kS18, kS19, kS20, kS21, kS22, kS23, kS24, kS25, kS26, kS27, kS28, kS30, kS31, kS32, kS33, kS34, kS35, kS36, kS37, kS38, kS39, kS40, kS41, kS42, kS43, kS50, kS51, kS52, kS53, List.getElem?_cons_zero, List.getElem?_cons_succ, List.set_cons_zero, List.set_cons_succ, List.length_cons, List.length_nil, List.drop_succ_cons, List.drop_zero, List.cons_append, List.nil_append, Option.toList_some, Option.toList_none, cz, ci2, true_and, and_true, and_self, true_or, or_true, nI_1, Nat.reduceAdd, Nat.reduceLT]
  refine cv4 rfl rfl (by first | exact rfl | exact trivial) (s_firstApart16 hr hs hm) ?_
  have hle := fa_le (fun c => X.1 18 0 r (nI c)) (fun c => X.1 18 0 s (nI c)) m
  refine ev_seg rfl ?_
  simp only [TE, sxs, sx, ldI, ldA, stI, stA, inc, gtF, ptF, ldX, stX, ldR, ldL, stL, dp1, dp2, Tm, kS0, kS1, kS2, kS3, kS4, kS5, kS6, kS7, kS8, kS9, kS10, kS11, kS12, kS13, kS14, kS15, kS16, kS17, kS18, kS19, kS20, kS21, kS22, kS23, kS24, kS25, kS26, kS27, kS28, kS30, kS31, kS32, kS33, kS34, kS35, kS36, kS37, kS38, kS39, kS40, kS41, kS42, kS43, kS50, kS51, kS52, kS53, List.getElem?_cons_zero, List.getElem?_cons_succ, List.set_cons_zero, List.set_cons_succ, List.length_cons, List.length_nil, List.drop_succ_cons, List.drop_zero, List.cons_append, List.nil_append, Option.toList_some, Option.toList_none, cz, ci2, true_and, and_true, and_self, true_or, or_true, nI_1, Nat.reduceAdd, Nat.reduceLT]
  refine ⟨fun h => ?_, fun h => ?_⟩
  · rw [bI_f (fun q => nle q.1 (by omega) h)]
    refine ev_seg rfl ?_
    simp only [TE, sxs, sx, ldI, ldA, stI, stA, inc, gtF, ptF, ldX, stX, ldR, ldL, stL, dp1, dp2, Tm, kS0, kS1, kS2, kS3, kS4, kS5, kS6, kS7, kS8, kS9, kS10, kS11, kS12, kS13, kS14, kS15, kS16, kS17, kS18, kS19, kS20, kS21, kS22, kS23, kS24, kS25, kS26, kS27, kS28, kS30, kS31, kS32, kS33, kS34, kS35, kS36, kS37, kS38, kS39, kS40, kS41, kS42, kS43, kS50, kS51, kS52, kS53, List.getElem?_cons_zero, List.getElem?_cons_succ, List.set_cons_zero, List.set_cons_succ, List.length_cons, List.length_nil, List.drop_succ_cons, List.drop_zero, List.cons_append, List.nil_append, Option.toList_some, Option.toList_none, cz, ci2, true_and, and_true, and_self, true_or, or_true, nI_1, Nat.reduceAdd, Nat.reduceLT]
    refine ev_seg rfl ?_
    simp only [TE, sxs, sx, ldI, ldA, stI, stA, inc, gtF, ptF, ldX, stX, ldR, ldL, stL, dp1, dp2, Tm, kS0, kS1, kS2, kS3, kS4, kS5, kS6, kS7, kS8, kS9, kS10, kS11, kS12, kS13, kS14, kS15, kS16, kS17, kS18, kS19, kS20, kS21, kS22, kS23, kS24, kS25, kS26, kS27, kS28, kS30, kS31, kS32, kS33, kS34, kS35, kS36, kS37, kS38, kS39, kS40, kS41, kS42, kS43, kS50, kS51, kS52, kS53, List.getElem?_cons_zero, List.getElem?_cons_succ, List.set_cons_zero, List.set_cons_succ, List.length_cons, List.length_nil, List.drop_succ_cons, List.drop_zero, List.cons_append, List.nil_append, Option.toList_some, Option.toList_none, cz, ci2, true_and, and_true, and_self, true_or, or_true, nI_1, Nat.reduceAdd, Nat.reduceLT]
  · have hlt : fa (fun c => X.1 18 0 r (nI c)) (fun c => X.1 18 0 s (nI c)) m < m := by
      rcases Nat.lt_or_ge (fa (fun c => X.1 18 0 r (nI c)) (fun c => X.1 18 0 s (nI c)) m) m with q | q
      · exact q
      · exact absurd (nleI q (by omega)) h
    have hc4 : vp_in (nI (fa (fun c => X.1 18 0 r (nI c)) (fun c => X.1 18 0 s (nI c)) m)) 5 := vpn (by omega) (by decide)
    refine ev_seg rfl ?_
    simp only [TE, sxs, sx, ldI, ldA, stI, stA, inc, gtF, ptF, ldX, stX, ldR, ldL, stL, dp1, dp2, Tm, kS0, kS1, kS2, kS3, kS4, kS5, kS6, kS7, kS8, kS9, kS10, kS11, kS12, kS13, kS14, kS15, kS16, kS17, kS18, kS19, kS20, kS21, kS22, kS23, kS24, kS25, kS26, kS27, kS28, kS30, kS31, kS32, kS33, kS34, kS35, kS36, kS37, kS38, kS39, kS40, kS41, kS42, kS43, kS50, kS51, kS52, kS53, List.getElem?_cons_zero, List.getElem?_cons_succ, List.set_cons_zero, List.set_cons_succ, List.length_cons, List.length_nil, List.drop_succ_cons, List.drop_zero, List.cons_append, List.nil_append, Option.toList_some, Option.toList_none, cz, ci2, true_and, and_true, and_self, true_or, or_true, nI_1, Nat.reduceAdd, Nat.reduceLT]
    refine ⟨(by first | assumption | (and_intros <;> first | assumption | trivial | decide)), fun h2 => ?_, fun h2 => ?_⟩
    · rw [bI_f (fun q => i_nlt h2 q.2)]
      refine ev_seg rfl ?_
      simp only [TE, sxs, sx, ldI, ldA, stI, stA, inc, gtF, ptF, ldX, stX, ldR, ldL, stL, dp1, dp2, Tm, kS0, kS1, kS2, kS3, kS4, kS5, kS6, kS7, kS8, kS9, kS10, kS11, kS12, kS13, kS14, kS15, kS16, kS17, kS18, kS19, kS20, kS21, kS22, kS23, kS24, kS25, kS26, kS27, kS28, kS30, kS31, kS32, kS33, kS34, kS35, kS36, kS37, kS38, kS39, kS40, kS41, kS42, kS43, kS50, kS51, kS52, kS53, List.getElem?_cons_zero, List.getElem?_cons_succ, List.set_cons_zero, List.set_cons_succ, List.length_cons, List.length_nil, List.drop_succ_cons, List.drop_zero, List.cons_append, List.nil_append, Option.toList_some, Option.toList_none, cz, ci2, true_and, and_true, and_self, true_or, or_true, nI_1, Nat.reduceAdd, Nat.reduceLT]
      refine ev_seg rfl ?_
      simp only [TE, sxs, sx, ldI, ldA, stI, stA, inc, gtF, ptF, ldX, stX, ldR, ldL, stL, dp1, dp2, Tm, kS0, kS1, kS2, kS3, kS4, kS5, kS6, kS7, kS8, kS9, kS10, kS11, kS12, kS13, kS14, kS15, kS16, kS17, kS18, kS19, kS20, kS21, kS22, kS23, kS24, kS25, kS26, kS27, kS28, kS30, kS31, kS32, kS33, kS34, kS35, kS36, kS37, kS38, kS39, kS40, kS41, kS42, kS43, kS50, kS51, kS52, kS53, List.getElem?_cons_zero, List.getElem?_cons_succ, List.set_cons_zero, List.set_cons_succ, List.length_cons, List.length_nil, List.drop_succ_cons, List.drop_zero, List.cons_append, List.nil_append, Option.toList_some, Option.toList_none, cz, ci2, true_and, and_true, and_self, true_or, or_true, nI_1, Nat.reduceAdd, Nat.reduceLT]
    · rw [bI_t ⟨hlt, i_lt h2⟩]
      refine ev_seg rfl ?_
      simp only [TE, sxs, sx, ldI, ldA, stI, stA, inc, gtF, ptF, ldX, stX, ldR, ldL, stL, dp1, dp2, Tm, kS0, kS1, kS2, kS3, kS4, kS5, kS6, kS7, kS8, kS9, kS10, kS11, kS12, kS13, kS14, kS15, kS16, kS17, kS18, kS19, kS20, kS21, kS22, kS23, kS24, kS25, kS26, kS27, kS28, kS30, kS31, kS32, kS33, kS34, kS35, kS36, kS37, kS38, kS39, kS40, kS41, kS42, kS43, kS50, kS51, kS52, kS53, List.getElem?_cons_zero, List.getElem?_cons_succ, List.set_cons_zero, List.set_cons_succ, List.length_cons, List.length_nil, List.drop_succ_cons, List.drop_zero, List.cons_append, List.nil_append, Option.toList_some, Option.toList_none, cz, ci2, true_and, and_true, and_self, true_or, or_true, nI_1, Nat.reduceAdd, Nat.reduceLT]
      refine ev_seg rfl ?_
      simp only [TE, sxs, sx, ldI, ldA, stI, stA, inc, gtF, ptF, ldX, stX, ldR, ldL, stL, dp1, dp2, Tm, kS0, kS1, kS2, kS3, kS4, kS5, kS6, kS7, kS8, kS9, kS10, kS11, kS12, kS13, kS14, kS15, kS16, kS17, kS18, kS19, kS20, kS21, kS22, kS23, kS24, kS25, kS26, kS27, kS28, kS30, kS31, kS32, kS33, kS34, kS35, kS36, kS37, kS38, kS39, kS40, kS41, kS42, kS43, kS50, kS51, kS52, kS53, List.getElem?_cons_zero, List.getElem?_cons_succ, List.set_cons_zero, List.set_cons_succ, List.length_cons, List.length_nil, List.drop_succ_cons, List.drop_zero, List.cons_append, List.nil_append, Option.toList_some, Option.toList_none, cz, ci2, true_and, and_true, and_self, true_or, or_true, nI_1, Nat.reduceAdd, Nat.reduceLT]
end Mks
end
section
/-! counting; rows compared; the place of a team among tied ones -/
theorem faux_spec (f g : Nat → Int32) : ∀ q c, (∀ i, c ≤ i → i < faux f g q c → f i = g i) ∧ (faux f g q c < c + q → ¬ f (faux f g q c) = g (faux f g q c))
  | 0, c => ⟨fun i h1 h2 => absurd h2 (by unfold faux; omega), fun h => absurd h (by unfold faux; omega)⟩
  | q + 1, c => by
    by_cases h : f c = g c
    · have e : faux f g (q + 1) c = faux f g q (c + 1) := if_pos h
      rw [e]
      obtain ⟨h1, h2⟩ := faux_spec f g q (c + 1)
      refine ⟨fun i hi hl => ?_, fun hl => h2 (by omega)⟩
      rcases Nat.lt_or_ge c i with w | w
      · exact h1 i w hl
      · rw [show i = c by omega]; exact h
    · have e : faux f g (q + 1) c = c := if_neg h
      rw [e]
      exact ⟨fun i h1 h2 => absurd h2 (by omega), fun _ => h⟩
theorem fa_same {f g : Nat → Int32} {m i : Nat} (h : i < fa f g m) : f i = g i := (faux_spec f g m 0).1 i (Nat.zero_le _) h
theorem fa_diff {f g : Nat → Int32} {m : Nat} (h : fa f g m < m) : ¬ f (fa f g m) = g (fa f g m) := (faux_spec f g m 0).2 (by unfold fa at h; omega)
theorem fa_uniq {f g : Nat → Int32} {m i : Nat} (hi : i < m) (h1 : ∀ c, c < i → f c = g c) (h2 : ¬ f i = g i) : fa f g m = i := by
  rcases Nat.lt_trichotomy (fa f g m) i with h | h | h
  · exact absurd (h1 _ h) (fa_diff (by omega))
  · exact h
  · exact absurd (fa_same h) h2
theorem fa_all {f g : Nat → Int32} {m : Nat} : fa f g m = m ↔ ∀ c, c < m → f c = g c := by
  constructor
  · intro h c hc
    exact fa_same (m := m) (by omega)
  · intro h
    rcases Nat.lt_or_ge (fa f g m) m with q | q
    · exact absurd (h _ q) (fa_diff q)
    · have := fa_le f g m; omega
theorem fa_comm (f g : Nat → Int32) (m : Nat) : fa f g m = fa g f m := by
  rcases Nat.lt_or_ge (fa g f m) m with q | q
  · exact fa_uniq q (fun c hc => (fa_same hc).symm) (fun e => fa_diff q e.symm)
  · have e : fa g f m = m := by have := fa_le g f m; omega
    rw [e]
    exact fa_all.mpr (fun c hc => (fa_all.mp e c hc).symm)
theorem fa_congr {f g f' g' : Nat → Int32} {m : Nat} (hf : ∀ c, c < m → f c = f' c) (hg : ∀ c, c < m → g c = g' c) : fa f g m = fa f' g' m := by
  rcases Nat.lt_or_ge (fa f' g' m) m with q | q
  · exact fa_uniq q (fun c hc => by rw [hf c (by omega), hg c (by omega)]; exact fa_same hc) (fun e => fa_diff q (by rw [← hf _ q, ← hg _ q]; exact e))
  · have e : fa f' g' m = m := by have := fa_le f' g' m; omega
    rw [e]
    exact fa_all.mpr (fun c hc => by rw [hf c hc, hg c hc]; exact fa_all.mp e c hc)
theorem bet_congr {f g f' g' : Nat → Int32} {m : Nat} (hf : ∀ c, c < m → f c = f' c) (hg : ∀ c, c < m → g c = g' c) : bet f g m ↔ bet f' g' m := by
  unfold bet
  rw [fa_congr hf hg]
  constructor
  · rintro ⟨h1, h2⟩
    rw [hf _ h1, hg _ h1] at h2
    exact ⟨h1, h2⟩
  · rintro ⟨h1, h2⟩
    rw [← hf _ h1, ← hg _ h1] at h2
    exact ⟨h1, h2⟩
theorem bet_asym {f g : Nat → Int32} {m : Nat} (h : bet f g m) : ¬ bet g f m := by
  intro q
  unfold bet at h q
  rw [fa_comm] at q
  exact i_irr _ (i_tr h.2 q.2)
theorem bet_irr (f : Nat → Int32) (m : Nat) : ¬ bet f f m := fun h => bet_asym h h
theorem bet_tot {f g : Nat → Int32} {m : Nat} (h : ¬ fa f g m = m) : bet f g m ∨ bet g f m := by
  have hlt : fa f g m < m := by have := fa_le f g m; omega
  rcases i_tri (fa_diff hlt) with q | q
  · refine Or.inr ⟨by rw [fa_comm]; exact hlt, ?_⟩
    rw [fa_comm]
    exact q
  · exact Or.inl ⟨hlt, q⟩
theorem bet_fa {f g : Nat → Int32} {m : Nat} (h : bet f g m) : ¬ fa f g m = m := by have := h.1; omega
theorem bet_neg {f h : Nat → Int32} (g : Nat → Int32) {m : Nat} (hb : bet f h m) : bet f g m ∨ bet g h m := by
  obtain ⟨h1, h2⟩ := hb
  generalize hi : fa f h m = i at h1 h2
  have hs : ∀ c, c < i → f c = h c := fun c hc => fa_same (by rw [hi]; exact hc)
  have hj0 := fa_le f g m
  generalize hj : fa f g m = j at hj0
  have hsj : ∀ c, c < j → f c = g c := fun c hc => fa_same (by rw [hj]; exact hc)
  rcases Nat.lt_trichotomy j i with q | q | q
  · have hd : ¬ f j = g j := by have := fa_diff (f := f) (g := g) (m := m) (by omega); rwa [hj] at this
    rcases i_tri hd with w | w
    · refine Or.inr ?_
      have e : fa g h m = j := fa_uniq (by omega) (fun c hc => by rw [← hsj c hc]; exact hs c (by omega)) (fun e => hd (by rw [hs j q]; exact e.symm))
      refine ⟨by omega, ?_⟩
      rw [e, ← hs j q]
      exact w
    · exact Or.inl ⟨by omega, by rw [hj]; exact w⟩
  · subst q
    have hd : ¬ f j = g j := by have := fa_diff (f := f) (g := g) (m := m) (by omega); rwa [hj] at this
    rcases i_tri hd with w | w
    · refine Or.inr ?_
      have hgh : h j < g j := i_tr h2 w
      have e : fa g h m = j := fa_uniq (by omega) (fun c hc => by rw [← hsj c hc]; exact hs c hc) (fun e => i_ne hgh e.symm)
      refine ⟨by omega, ?_⟩
      rw [e]
      exact hgh
    · exact Or.inl ⟨by omega, by rw [hj]; exact w⟩
  · refine Or.inr ?_
    have hgi : f i = g i := hsj i q
    have hgh : h i < g i := by rw [← hgi]; exact h2
    have e : fa g h m = i := fa_uniq h1 (fun c hc => by rw [← hsj c (by omega)]; exact hs c hc) (fun e => i_ne hgh e.symm)
    refine ⟨by omega, ?_⟩
    rw [e]
    exact hgh
theorem bet_tr {f g h : Nat → Int32} {m : Nat} (h1 : bet f g m) (h2 : bet g h m) : bet f h m := (bet_neg h h1).resolve_right (bet_asym h2)
/-! counts -/
def ct (p : Nat → Bool) : Nat → Nat
  | 0 => 0
  | n + 1 => ct p n + (if p n = true then 1 else 0)
theorem ct_le (p : Nat → Bool) : ∀ n, ct p n ≤ n
  | 0 => Nat.le_refl _
  | n + 1 => by
    have := ct_le p n
    unfold ct
    split <;> omega
theorem ct_congr {p q : Nat → Bool} : ∀ {n : Nat}, (∀ j, j < n → p j = q j) → ct p n = ct q n
  | 0, _ => rfl
  | n + 1, h => by rw [ct, ct, ct_congr (fun j hj => h j (by omega)), h n (by omega)]
theorem ct_mono {p q : Nat → Bool} : ∀ {n : Nat}, (∀ j, j < n → p j = true → q j = true) → ct p n ≤ ct q n
  | 0, _ => Nat.le_refl _
  | n + 1, h => by
    have h1 := ct_mono (p := p) (q := q) (n := n) (fun j hj => h j (by omega))
    have h2 := h n (by omega)
    unfold ct
    by_cases hp : p n = true
    · rw [if_pos hp, if_pos (h2 hp)]; omega
    · rw [if_neg hp]; omega
theorem ct_lt {p q : Nat → Bool} {a : Nat} : ∀ {n : Nat}, (∀ j, j < n → p j = true → q j = true) → a < n → p a = false → q a = true → ct p n < ct q n
  | 0, _, ha, _, _ => absurd ha (Nat.not_lt_zero _)
  | n + 1, h, ha, h1, h2 => by
    unfold ct
    rcases Nat.lt_or_ge a n with w | w
    · have h3 := ct_lt (p := p) (q := q) (n := n) (fun j hj => h j (by omega)) w h1 h2
      have h4 := h n (by omega)
      by_cases hp : p n = true
      · rw [if_pos hp, if_pos (h4 hp)]; omega
      · rw [if_neg hp]; omega
    · have e : a = n := by omega
      subst e
      have h3 := ct_mono (p := p) (q := q) (n := a) (fun j hj => h j (by omega))
      rw [h1, h2]
      simp
      omega
theorem ct_add {p q : Nat → Bool} : ∀ {n : Nat}, (∀ j, j < n → ¬ (p j = true ∧ q j = true)) → ct (fun j => p j || q j) n = ct p n + ct q n
  | 0, _ => rfl
  | n + 1, h => by
    have h1 := ct_add (p := p) (q := q) (n := n) (fun j hj => h j (by omega))
    have h2 := h n (by omega)
    unfold ct
    rw [h1]
    cases hp : p n <;> cases hq : q n <;> simp_all <;> omega
theorem ct_zero {p : Nat → Bool} : ∀ {n : Nat}, (∀ j, j < n → p j = false) → ct p n = 0
  | 0, _ => rfl
  | n + 1, h => by rw [ct, ct_zero (fun j hj => h j (by omega)), h n (by omega)]; rfl
theorem ct_one {p : Nat → Bool} {a : Nat} : ∀ {n : Nat}, a < n → (∀ j, j < n → (p j = true ↔ j = a)) → ct p n = 1
  | 0, h, _ => absurd h (Nat.not_lt_zero _)
  | n + 1, h, hp => by
    unfold ct
    rcases Nat.lt_or_ge a n with w | w
    · rw [ct_one w (fun j hj => hp j (by omega)), if_neg (fun q => by have := (hp n (by omega)).mp q; omega)]
    · have e : a = n := by omega
      subst e
      rw [ct_zero (fun j hj => by
        cases hq : p j with
        | false => rfl
        | true => have := (hp j (by omega)).mp hq; omega), if_pos ((hp a (by omega)).mpr rfl)]
theorem fb_holes : ∀ (m n : Nat) (f : Nat → Nat), (∀ i, i < n → f i < m) → (∀ i j, i < j → j < n → f i ≠ f j) → n ≤ m := by
  intro m
  induction m with
  | zero =>
    intro n f h1 _
    rcases Nat.eq_zero_or_pos n with h | h
    · omega
    · exact absurd (h1 0 h) (Nat.not_lt_zero _)
  | succ m ih =>
    intro n f h1 h2
    by_cases hx : ∃ i, i < n ∧ f i = m
    · obtain ⟨a, ha, hfa⟩ := hx
      have hg := ih (n - 1) (fun i => if i < a then f i else f (i + 1)) (by
        intro i hi
        by_cases q : i < a
        · simp only [if_pos q]
          have b1 := h1 i (by omega)
          have b2 := h2 i a q ha
          omega
        · simp only [if_neg q]
          have b1 := h1 (i + 1) (by omega)
          have b2 := h2 a (i + 1) (by omega) (by omega)
          omega) (by
        intro i j hij hj
        by_cases q : i < a
        · by_cases r : j < a
          · simp only [if_pos q, if_pos r]
            exact h2 i j hij (by omega)
          · simp only [if_pos q, if_neg r]
            exact h2 i (j + 1) (by omega) (by omega)
        · have r : ¬ j < a := by omega
          simp only [if_neg q, if_neg r]
          exact h2 (i + 1) (j + 1) (by omega) (by omega))
      omega
    · have hg := ih n f (fun i hi => by
        have b1 := h1 i hi
        have b2 : f i ≠ m := fun e => hx ⟨i, hi, e⟩
        omega) h2
      omega
/-- two of them in one place -/
theorem fb_twice {m n : Nat} {f : Nat → Nat} (h : ∀ i, i < n → f i < m) (hm : m < n) : ∃ i j, i < j ∧ j < n ∧ f i = f j := by
  refine Classical.byContradiction fun hx => ?_
  have := fb_holes m n f h (fun i j hij hj e => hx ⟨i, j, hij, hj, e⟩)
  omega
/-- as many as places, none twice: each place is taken -/
theorem fb_onto {n : Nat} {f : Nat → Nat} (h : ∀ i, i < n → f i < n) (h2 : ∀ i j, i < j → j < n → f i ≠ f j) {y : Nat} (hy : y < n) : ∃ i, i < n ∧ f i = y := by
  refine Classical.byContradiction fun hx => ?_
  have hne : ∀ i, i < n → f i ≠ y := fun i hi e => hx ⟨i, hi, e⟩
  have := fb_holes (n - 1) n (fun i => if f i < y then f i else f i - 1) (by
    intro i hi
    have b1 := h i hi
    have b2 := hne i hi
    by_cases q : f i < y
    · simp only [if_pos q]; omega
    · simp only [if_neg q]; omega) (by
    intro i j hij hj
    have b1 := hne i (by omega)
    have b2 := hne j hj
    have b3 := h2 i j hij hj
    by_cases q : f i < y
    · by_cases r : f j < y
      · simp only [if_pos q, if_pos r]; exact b3
      · simp only [if_pos q, if_neg r]; omega
    · by_cases r : f j < y
      · simp only [if_neg q, if_pos r]; omega
      · simp only [if_neg q, if_neg r]; omega)
  omega
/-- a bijection keeps counts -/
theorem ct_perm {p : Nat → Bool} {σ : Nat → Nat} : ∀ {n : Nat}, (∀ i, i < n → σ i < n) → (∀ i j, i < n → j < n → σ i = σ j → i = j) → ct (fun i => p (σ i)) n = ct p n := by
  intro n
  -- by taking one element out at a time
  have key : ∀ (k : Nat) (q : Nat → Bool), k ≤ n → (∀ i, i < n → σ i < n) → (∀ i j, i < n → j < n → σ i = σ j → i = j) → ct (fun i => p (σ i)) k = ct (fun z => p z && (List.range k).any (fun i => σ i == z)) n := by
    intro k
    induction k with
    | zero =>
      intro q _ _ _
      exact (ct_zero (fun j _ => by simp)).symm
    | succ k ih =>
      intro q hk h1 h2
      have e1 := ih q (by omega) h1 h2
      rw [ct, e1]
      have hd : ∀ z, z < n → ¬ ((p z && (List.range k).any (fun i => σ i == z)) = true ∧ (p z && σ k == z) = true) := by
        intro z hz ⟨w1, w2⟩
        simp only [Bool.and_eq_true, List.any_eq_true, List.mem_range, beq_iff_eq] at w1 w2
        obtain ⟨-, i, hi, e⟩ := w1
        have := h2 i k (by omega) (by omega) (e.trans w2.2.symm)
        omega
      have e2 : ct (fun z => p z && (List.range (k + 1)).any (fun i => σ i == z)) n = ct (fun z => (p z && (List.range k).any (fun i => σ i == z)) || (p z && σ k == z)) n := by
        apply ct_congr
        intro z hz
        rw [List.range_succ, List.any_append]
        simp only [List.any_cons, List.any_nil, Bool.or_false]
        cases p z <;> simp
      rw [e2, ct_add hd]
      congr 1
      by_cases hp : p (σ k) = true
      · rw [if_pos hp]
        refine (ct_one (h1 k (by omega)) (fun z hz => ?_)).symm
        simp only [Bool.and_eq_true, beq_iff_eq]
        constructor
        · rintro ⟨-, e⟩; exact e.symm
        · rintro rfl; exact ⟨hp, rfl⟩
      · rw [if_neg hp]
        refine (ct_zero (fun z hz => ?_)).symm
        cases hw : (p z && σ k == z) with
        | false => rfl
        | true =>
          simp only [Bool.and_eq_true, beq_iff_eq] at hw
          rw [hw.2] at hp
          exact absurd hw.1 hp
  intro h1 h2
  rw [key n p (Nat.le_refl _) h1 h2]
  have hall : ∀ z, z < n → (List.range n).any (fun i => σ i == z) = true := by
    intro z hz
    obtain ⟨i, hi, e⟩ := fb_onto h1 (fun i j hij hj e => by have := h2 i j (by omega) hj e; omega) hz
    exact List.any_eq_true.mpr ⟨i, List.mem_range.mpr hi, by simp [e]⟩
  exact ct_congr (fun z hz => by rw [hall z hz, Bool.and_true])
theorem ct_rng {s t : Nat} : ∀ {n : Nat}, s ≤ t → t ≤ n → ct (fun i => decide (s ≤ i) && decide (i < t)) n = t - s
  | 0, h1, h2 => by unfold ct; omega
  | n + 1, h1, h2 => by
    unfold ct
    rcases Nat.lt_or_ge n t with w | w
    · have e : t = n + 1 := by omega
      subst e
      by_cases hs : s ≤ n
      · have h3 : ct (fun i => decide (s ≤ i) && decide (i < n + 1)) n = ct (fun i => decide (s ≤ i) && decide (i < n)) n := ct_congr (fun j hj => by simp [hj, Nat.lt_succ_of_lt hj])
        rw [h3, ct_rng hs (Nat.le_refl _)]
        simp [hs]
        omega
      · have h3 : ct (fun i => decide (s ≤ i) && decide (i < n + 1)) n = 0 := ct_zero (fun j hj => by simp; omega)
        rw [h3]
        simp [hs]
        omega
    · rw [ct_rng h1 w]
      simp
      omega
/-! how many of a class are better -/
def betB (f g : Nat → Int32) (m : Nat) : Bool := decide (fa f g m < m) && decide (g (fa f g m) < f (fa f g m))
theorem betB_iff {f g : Nat → Int32} {m : Nat} : betB f g m = true ↔ bet f g m := by
  unfold betB bet
  rw [Bool.and_eq_true, decide_eq_true_eq, decide_eq_true_eq]
theorem betB_no {f g : Nat → Int32} {m : Nat} (h : ¬ bet f g m) : betB f g m = false := by
  cases hb : betB f g m with
  | false => rfl
  | true => exact absurd (betB_iff.mp hb) h
theorem betB_congr {f g f' g' : Nat → Int32} {m : Nat} (hf : ∀ c, c < m → f c = f' c) (hg : ∀ c, c < m → g c = g' c) : betB f g m = betB f' g' m := by
  cases hb : betB f' g' m with
  | false => exact betB_no (fun q => by rw [betB_iff.mpr ((bet_congr hf hg).mp q)] at hb; cases hb)
  | true => exact betB_iff.mpr ((bet_congr hf hg).mpr (betB_iff.mp hb))
def kap (K : Nat → Nat → Int32) (m : Nat) (C : Nat → Bool) (n a : Nat) : Nat := ct (fun z => C z && betB (K z) (K a) m) n
section Kap
variable {K : Nat → Nat → Int32} {m n : Nat} {C : Nat → Bool} {a b : Nat}
theorem kap_eq (h : fa (K a) (K b) m = m) : kap K m C n a = kap K m C n b := ct_congr (fun j _ => by rw [betB_congr (fun c _ => rfl) (fa_all.mp h)])
theorem kap_lt (ha : a < n) (hC : C a = true) (h : bet (K a) (K b) m) : kap K m C n a < kap K m C n b := by
  refine ct_lt (a := a) (fun j hj hp => ?_) ha ?_ ?_
  · simp only [Bool.and_eq_true] at hp ⊢
    exact ⟨hp.1, betB_iff.mpr (bet_tr (betB_iff.mp hp.2) h)⟩
  · rw [betB_no (bet_irr _ _), Bool.and_false]
  · rw [hC, betB_iff.mpr h]; rfl
theorem kap_bet (ha : a < n) (hC : C a = true) (hb : b < n) (hCb : C b = true) : bet (K a) (K b) m ↔ kap K m C n a < kap K m C n b := by
  constructor
  · exact kap_lt ha hC
  · intro h
    by_cases hf : fa (K a) (K b) m = m
    · rw [kap_eq hf] at h; omega
    · rcases bet_tot hf with q | q
      · exact q
      · have := kap_lt (C := C) hb hCb q; omega
theorem kap_fa (ha : a < n) (hC : C a = true) (hb : b < n) (hCb : C b = true) : fa (K a) (K b) m = m ↔ kap K m C n a = kap K m C n b := by
  constructor
  · exact kap_eq
  · intro h
    refine Classical.byContradiction fun hf => ?_
    rcases bet_tot hf with q | q
    · have := kap_lt (C := C) ha hC q; omega
    · have := kap_lt (C := C) hb hCb q; omega
theorem kap_size (ha : a < n) (hC : C a = true) : kap K m C n a < ct C n := by
  refine ct_lt (a := a) (fun j hj hp => ?_) ha ?_ hC
  · simp only [Bool.and_eq_true] at hp
    exact hp.1
  · rw [betB_no (bet_irr _ _), Bool.and_false]
theorem kap_congr {K' : Nat → Nat → Int32} {C' : Nat → Bool} (hC : ∀ j, j < n → C j = C' j) (hK : ∀ z, z < n → ∀ c, c < m → K z c = K' z c) (ha : a < n) : kap K m C n a = kap K' m C' n a :=
  ct_congr (fun j hj => by rw [hC j hj, betB_congr (hK j hj) (hK a ha)])
end Kap
/-! classes of tied teams -/
def rsC (S : Nat → Nat → Int32) (n : Nat) (C : Nat → Bool) (f : Int32 → Int32 → Int32) (a : Nat) : Int32 := sumN (fun j => if C j = true ∧ ¬ S a j = -1 then f (S a j) (S j a) else 0) n
theorem rsC_congr {S : Nat → Nat → Int32} {n : Nat} {C C' : Nat → Bool} {f : Int32 → Int32 → Int32} {a : Nat} (h : ∀ j, j < n → C j = C' j) : rsC S n C f a = rsC S n C' f a := sumN_congr (fun j hj => by rw [h j hj])
def k3 (S : Nat → Nat → Int32) (n : Nat) (C : Nat → Bool) (a c : Nat) : Int32 := if c = 0 then rsC S n C pF a else if c = 1 then rsC S n C dF a else rsC S n C gF9 a
theorem k3_congr {S : Nat → Nat → Int32} {n : Nat} {C C' : Nat → Bool} (h : ∀ j, j < n → C j = C' j) (a c : Nat) : k3 S n C a c = k3 S n C' a c := by
  unfold k3
  rw [rsC_congr h, rsC_congr h, rsC_congr h]
def alk (S : Nat → Nat → Int32) (n : Nat) (C : Nat → Bool) (a z : Nat) : Bool := C z && decide (fa (k3 S n C a) (k3 S n C z) 3 = 3)
theorem alk_congr {S : Nat → Nat → Int32} {n : Nat} {C C' : Nat → Bool} (h : ∀ j, j < n → C j = C' j) (a : Nat) : ∀ z, z < n → alk S n C a z = alk S n C' a z := by
  intro z hz
  unfold alk
  rw [h z hz, fa_congr (fun c _ => k3_congr h a c) (fun c _ => k3_congr h z c)]
/-- all of a class are alike -/
def ALb (S : Nat → Nat → Int32) (n : Nat) (C : Nat → Bool) : Bool := (List.range n).all fun x => (List.range n).all fun z => !C x || !C z || decide (fa (k3 S n C x) (k3 S n C z) 3 = 3)
theorem ALb_iff {S : Nat → Nat → Int32} {n : Nat} {C : Nat → Bool} : ALb S n C = true ↔ ∀ x z, x < n → z < n → C x = true → C z = true → fa (k3 S n C x) (k3 S n C z) 3 = 3 := by
  unfold ALb
  simp only [List.all_eq_true, List.mem_range, Bool.or_eq_true, Bool.not_eq_true', decide_eq_true_eq]
  constructor
  · intro h x z hx hz h1 h2
    rcases h x hx z hz with (h3 | h3) | h3
    · rw [h1] at h3; cases h3
    · rw [h2] at h3; cases h3
    · exact h3
  · intro h x hx z hz
    cases h1 : C x with
    | false => exact Or.inl (Or.inl rfl)
    | true =>
      cases h2 : C z with
      | false => exact Or.inl (Or.inr rfl)
      | true => exact Or.inr (h x z hx hz h1 h2)
theorem ALb_congr {S : Nat → Nat → Int32} {n : Nat} {C C' : Nat → Bool} (h : ∀ j, j < n → C j = C' j) : ALb S n C = ALb S n C' := by
  have e : ∀ {A B : Nat → Bool}, (∀ j, j < n → A j = B j) → ALb S n A = true → ALb S n B = true := by
    intro A B hAB hA
    rw [ALb_iff] at hA ⊢
    intro x z hx hz h1 h2
    rw [← hAB x hx] at h1
    rw [← hAB z hz] at h2
    rw [← fa_congr (fun c _ => k3_congr hAB x c) (fun c _ => k3_congr hAB z c)]
    exact hA x z hx hz h1 h2
  cases h1 : ALb S n C with
  | true => exact (e h h1).symm
  | false =>
    cases h2 : ALb S n C' with
    | false => rfl
    | true => rw [e (fun j hj => (h j hj).symm) h2] at h1; cases h1
/-- how many places behind the first of its class a team comes to stand; K: the marks that count when all are alike -/
def POS (S : Nat → Nat → Int32) (n : Nat) (K : Nat → Nat → Int32) : Nat → (Nat → Bool) → Nat → Nat
  | 0, _, _ => 0
  | f + 1, C, a => if ALb S n C = true then kap K 4 C n a else kap (k3 S n C) 3 C n a + POS S n K f (alk S n C a) a
theorem POS_congr {S : Nat → Nat → Int32} {n : Nat} {K : Nat → Nat → Int32} : ∀ (f : Nat) {C C' : Nat → Bool} {a : Nat}, (∀ j, j < n → C j = C' j) → a < n → POS S n K f C a = POS S n K f C' a
  | 0, _, _, _, _, _ => rfl
  | f + 1, C, C', a, h, ha => by
    unfold POS
    rw [ALb_congr h, kap_congr h (fun _ _ _ _ => rfl) ha, kap_congr (K := k3 S n C) (K' := k3 S n C') h (fun z _ c _ => k3_congr h z c) ha, POS_congr f (alk_congr h a) ha]
/-- the rule by which two of a class are told apart -/
def RUL (S : Nat → Nat → Int32) (n : Nat) (K : Nat → Nat → Int32) : Nat → (Nat → Bool) → Nat → Nat → Nat
  | 0, _, _, _ => 0
  | f + 1, C, a, b => if fa (k3 S n C a) (k3 S n C b) 3 < 3 then 1 + fa (k3 S n C a) (k3 S n C b) 3 else if ALb S n C = true then 4 + fa (K a) (K b) 4 else RUL S n K f (alk S n C a) a b
theorem RUL_congr {S : Nat → Nat → Int32} {n : Nat} {K : Nat → Nat → Int32} : ∀ (f : Nat) {C C' : Nat → Bool} {a b : Nat}, (∀ j, j < n → C j = C' j) → RUL S n K f C a b = RUL S n K f C' a b
  | 0, _, _, _, _, _ => rfl
  | f + 1, C, C', a, b, h => by
    unfold RUL
    rw [ALb_congr h, fa_congr (fun c _ => k3_congr h a c) (fun c _ => k3_congr h b c), RUL_congr f (alk_congr h a)]
theorem POS_one {S : Nat → Nat → Int32} {n : Nat} {K : Nat → Nat → Int32} {f : Nat} {C : Nat → Bool} {a : Nat} (h : ∀ z, z < n → C z = true → z = a) : POS S n K f C a = 0 := by
  cases f with
  | zero => rfl
  | succ f =>
    have hA : ALb S n C = true := ALb_iff.mpr (fun x z hx hz h1 h2 => by rw [h x hx h1, h z hz h2]; exact fa_all.mpr (fun _ _ => rfl))
    unfold POS
    rw [if_pos hA]
    refine ct_zero (fun j hj => ?_)
    cases hc : C j with
    | false => rfl
    | true => rw [h j hj hc, betB_no (bet_irr _ _)]; rfl
end
section
/-! sorting a stretch of the table -/
section Srt
variable {sc : SC} {d : Nat} {X : XT}
theorem s_isB9 {r s : Int32} {m : Nat} (hr : vp_in r 5) (hs : vp_in s 5) (hm : m ≤ 4) : Ev sc (d + 1) 31 0 (ent 31 [vR 9 0 0, vI r, vI s, vI (nI m)]) [] X (.inl (some (.inl (bI (betB (fun c => X.1 11 0 r (nI c)) (fun c => X.1 11 0 s (nI c)) m = true))))) X 0 := by
  have h := @s_isBetter9 sc d X r s m hr hs hm (betD _ _ _)
  have e : bI (betB (fun c => X.1 11 0 r (nI c)) (fun c => X.1 11 0 s (nI c)) m = true) = @bI (bet (fun c => X.1 11 0 r (nI c)) (fun c => X.1 11 0 s (nI c)) m) (betD _ _ _) := by
    by_cases q : bet (fun c => X.1 11 0 r (nI c)) (fun c => X.1 11 0 s (nI c)) m
    · rw [bI_t (betB_iff.mpr q), @bI_t _ (betD _ _ _) q]
    · rw [bI_f (fun w => q (betB_iff.mp w)), @bI_f _ (betD _ _ _) q]
  rw [e]
  exact h
/-- nothing but these kinds has changed -/
def Fr (K : List Nat) (X X' : XT) : Prop := X'.2 = X.2 ∧ ∀ k, k ∉ K → X'.1 k = X.1 k
theorem Fr.rf (K : List Nat) (X : XT) : Fr K X X := ⟨rfl, fun _ _ => rfl⟩
theorem Fr.tr {K : List Nat} {X Y Z : XT} (h1 : Fr K X Y) (h2 : Fr K Y Z) : Fr K X Z := ⟨h2.1.trans h1.1, fun k hk => (h2.2 k hk).trans (h1.2 k hk)⟩
theorem Fr.mo {K K' : List Nat} {X Y : XT} (h : Fr K X Y) (hK : ∀ k, k ∈ K → k ∈ K') : Fr K' X Y := ⟨h.1, fun k hk => h.2 k (fun q => hk (hK k q))⟩
theorem Fr.xs {K : List Nat} (X : XT) {k : Nat} (a b j x : Int32) (hk : k ∈ K) : Fr K X (xs X.1 k a b j x, X.2) := by
  refine ⟨rfl, fun k' hk' => ?_⟩
  funext a' b' j'
  show (if k' = k ∧ _ then _ else _) = _
  rw [if_neg]
  rintro ⟨rfl, -⟩
  exact hk' hk
theorem Fr.at {K : List Nat} {X Y : XT} (h : Fr K X Y) (k : Nat) (hk : k ∉ K) (a b j : Int32) : Y.1 k a b j = X.1 k a b j := by rw [h.2 k hk]
def OrdH (X : XT) (n : Nat) (σ : Nat → Nat) : Prop := ∀ i, i < n → X.1 12 0 0 (nI i) = nI (σ i) ∧ σ i < n
def mrow (X : XT) (z : Nat) : Nat → Int32 := fun c => X.1 11 0 (nI z) (nI c)
/-- the same teams in a stretch, in another order -/
def PS (s e : Nat) (σ σ' : Nat → Nat) : Prop := (∀ i, (i < s ∨ e ≤ i) → σ' i = σ i) ∧ (∀ i, s ≤ i → i < e → ∃ j, s ≤ j ∧ j < e ∧ σ' i = σ j) ∧ (∀ j, s ≤ j → j < e → ∃ i, s ≤ i ∧ i < e ∧ σ' i = σ j) ∧ ∀ n, e ≤ n → (∀ i j, i < n → j < n → σ i = σ j → i = j) → ∀ i j, i < n → j < n → σ' i = σ' j → i = j
theorem PS.rf (s e : Nat) (σ : Nat → Nat) : PS s e σ σ := ⟨fun _ _ => rfl, fun i h1 h2 => ⟨i, h1, h2, rfl⟩, fun i h1 h2 => ⟨i, h1, h2, rfl⟩, fun _ _ h => h⟩
theorem PS.tr {s e : Nat} {σ τ υ : Nat → Nat} (h1 : PS s e σ τ) (h2 : PS s e τ υ) : PS s e σ υ := by
  refine ⟨fun i hi => (h2.1 i hi).trans (h1.1 i hi), fun i a b => ?_, fun j a b => ?_, fun n hn h => h2.2.2.2 n hn (h1.2.2.2 n hn h)⟩
  · obtain ⟨j, c1, c2, c3⟩ := h2.2.1 i a b
    obtain ⟨q, d1, d2, d3⟩ := h1.2.1 j c1 c2
    exact ⟨q, d1, d2, c3.trans d3⟩
  · obtain ⟨i, c1, c2, c3⟩ := h1.2.2.1 j a b
    obtain ⟨q, d1, d2, d3⟩ := h2.2.2.1 i c1 c2
    exact ⟨q, d1, d2, d3.trans c3⟩
theorem PS.mo {s e s' e' : Nat} {σ τ : Nat → Nat} (h : PS s e σ τ) (hs : s' ≤ s) (he : e ≤ e') : PS s' e' σ τ := by
  refine ⟨fun i hi => h.1 i (by omega), fun i a b => ?_, fun j a b => ?_, fun n hn => h.2.2.2 n (by omega)⟩
  · by_cases hi : s ≤ i ∧ i < e
    · obtain ⟨j, c1, c2, c3⟩ := h.2.1 i hi.1 hi.2
      exact ⟨j, by omega, by omega, c3⟩
    · exact ⟨i, a, b, h.1 i (by omega)⟩
  · by_cases hi : s ≤ j ∧ j < e
    · obtain ⟨i, c1, c2, c3⟩ := h.2.2.1 j hi.1 hi.2
      exact ⟨i, by omega, by omega, c3⟩
    · exact ⟨j, a, b, h.1 j (by omega)⟩
def swp (σ : Nat → Nat) (t : Nat) : Nat → Nat := fun i => if i = t + 1 then σ t else if i = t then σ (t + 1) else σ i
theorem swp_ps {s e t : Nat} {σ : Nat → Nat} (h1 : s ≤ t) (h2 : t + 1 < e) : PS s e σ (swp σ t) := by
  have inv : ∀ i, ∃ j, (i = j ∨ (i = t ∧ j = t + 1) ∨ (i = t + 1 ∧ j = t)) ∧ swp σ t i = σ j ∧ swp σ t j = σ i ∧ (i = t + 1 → j = t) ∧ (i = t → j = t + 1) := by
    intro i
    unfold swp
    by_cases a : i = t + 1
    · exact ⟨t, by omega, by simp [a], by simp [a], by omega, by omega⟩
    · by_cases b : i = t
      · exact ⟨t + 1, by omega, by simp [b], by simp [b], by omega, by omega⟩
      · exact ⟨i, by omega, by simp [a, b], by simp [a, b], by omega, by omega⟩
  refine ⟨fun i hi => ?_, fun i a b => ?_, fun j a b => ?_, fun n hn hinj i j hi hj he => ?_⟩
  · unfold swp
    rw [if_neg (by omega), if_neg (by omega)]
  · obtain ⟨j, c, d1, d2, -, -⟩ := inv i
    exact ⟨j, by omega, by omega, d1⟩
  · obtain ⟨i, c, d1, d2, -, -⟩ := inv j
    exact ⟨i, by omega, by omega, d2⟩
  · obtain ⟨i', c, d1, d2, c3, c4⟩ := inv i
    obtain ⟨j', c', d1', d2', c3', c4'⟩ := inv j
    rw [d1, d1'] at he
    have := hinj i' j' (by omega) (by omega) he
    omega
/-- sorted on a stretch -/
def Srd (X : XT) (m s p : Nat) (σ : Nat → Nat) : Prop := ∀ i j, s ≤ i → i < j → j < p → ¬ bet (mrow X (σ j)) (mrow X (σ i)) m
abbrev aL (s e m : Nat) (fr : Int32) (a b c : AV) : List AV := [vR 8 0 0, vI (nI s), vI (nI e), vI (nI m), vI fr, a, b, c]
theorem arr_in {s e m n p : Nat} {fr : Int32} (hn : n ≤ 5) (he : e ≤ n) (hm : m ≤ 4) (hp : p < e) : ∀ (t : Nat) (X : XT) (σ : Nat → Nat) (z : AV), s ≤ t → t ≤ p → OrdH X n σ →
    (∀ i j, s ≤ i → i < j → j ≤ p → i ≠ t → j ≠ t → ¬ bet (mrow X (σ j)) (mrow X (σ i)) m) → (∀ j, t < j → j ≤ p → ¬ bet (mrow X (σ j)) (mrow X (σ t)) m) →
    ∃ (X' : XT) (σ' : Nat → Nat) (z6 z7 : AV), OrdH X' n σ' ∧ PS s e σ σ' ∧ Fr [12] X X' ∧ Srd X' m s (p + 1) σ' ∧ ∀ Z, Ev sc (d + 2) 51 7 (aL s e m fr (vI (nI p)) z6 z7) [] X' (.inl none) Z 0 → Ev sc (d + 2) 51 3 (aL s e m fr (vI (nI p)) (vI (nI t)) z) [] X (.inl none) Z 0 := by
  intro t
  induction t with
  | zero =>
    intro X σ z hs0 hp0 hO h1 h2
    refine ⟨X, σ, vI (nI 0), z, hO, PS.rf _ _ _, Fr.rf _ _, fun i j a b c => ?_, fun Z hZ => ?_⟩
    · by_cases hi : i = 0
      · rw [hi]; exact h2 j (by omega) (by omega)
      · exact h1 i j a b (by omega) hi (by omega)
    · refine ev_seg rfl ?_
      simp only [TE, sxs, sx, ldI, ldA, stI, stA, inc, gtF, ptF, ldX, stX, ldR, ldL, stL, dp1, dp2, Tm, kS0, kS1, kS2, kS3, kS4, kS5, kS6, kS7, kS8, kS9, kS10, kS11, kS12, kS13, kS14, kS15, kS16, kS17, kS18, kS19, kS20, kS21, kS22, kS23, kS24, kS25, kS26, kS27, kS28, kS30, kS31, kS32, kS33, kS34, kS35, kS36, kS37, kS38, kS39, kS40, kS41, kS42, kS43, kS50, kS51, kS52, kS53, List.getElem?_cons_zero, List.getElem?_cons_succ, List.set_cons_zero, List.set_cons_succ, List.length_cons, List.length_nil, List.drop_succ_cons, List.drop_zero, List.cons_append, List.nil_append, Option.toList_some, Option.toList_none, cz, ci2, true_and, and_true, and_self, true_or, or_true, nI_1, Nat.reduceAdd, Nat.reduceLT]
      refine ⟨fun _ => hZ, fun h => absurd (nleI (by omega) (by omega)) h⟩
  | succ t ih =>
    intro X σ z hs0 hp0 hO h1 h2
    obtain ⟨o1, o2⟩ := hO (t + 1) (by omega)
    obtain ⟨o3, o4⟩ := hO t (by omega)
    have v1 : vp_in (nI (t + 1)) 5 := vpn (by omega) (by decide)
    have v2 : vp_in (nI t) 5 := vpn (by omega) (by decide)
    have w1 : vp_in (nI (σ (t + 1))) 5 := vpn (by omega) (by decide)
    have w2 : vp_in (nI (σ t)) 5 := vpn (by omega) (by decide)
    by_cases hst : s = t + 1
    · refine ⟨X, σ, vI (nI (t + 1)), z, hO, PS.rf _ _ _, Fr.rf _ _, fun i j a b c => ?_, fun Z hZ => ?_⟩
      · by_cases hi : i = t + 1
        · rw [hi]; exact h2 j (by omega) (by omega)
        · exact h1 i j a b (by omega) hi (by omega)
      · refine ev_seg rfl ?_
        simp only [TE, sxs, sx, ldI, ldA, stI, stA, inc, gtF, ptF, ldX, stX, ldR, ldL, stL, dp1, dp2, Tm, kS0, kS1, kS2, kS3, kS4, kS5, kS6, kS7, kS8, kS9, kS10, kS11, kS12, kS13, kS14, kS15, kS16, kS17, kS18, kS19, kS20, kS21, kS22, kS23, kS24, kS25, kS26, kS27, kS28, kS30, kS31, kS32, kS33, kS34, kS35, kS36, kS37, kS38, kS39, kS40, kS41, kS42, kS43, kS50, kS51, kS52, kS53, List.getElem?_cons_zero, List.getElem?_cons_succ, List.set_cons_zero, List.set_cons_succ, List.length_cons, List.length_nil, List.drop_succ_cons, List.drop_zero, List.cons_append, List.nil_append, Option.toList_some, Option.toList_none, cz, ci2, true_and, and_true, and_self, true_or, or_true, nI_1, Nat.reduceAdd, Nat.reduceLT]
        refine ⟨fun _ => hZ, fun h => absurd (nleI (by omega) (by omega)) h⟩
    · have hst2 : s ≤ t := by omega
      by_cases hb : betB (mrow X (σ (t + 1))) (mrow X (σ t)) m = true
      · -- one up
        have hbt := betB_iff.mp hb
        generalize hX1 : ((xs (xs X.1 12 0 0 (nI (t + 1)) (nI (σ t))) 12 0 0 (nI t) (nI (σ (t + 1))), X.2) : XT) = X1
        have hf1 : Fr [12] X X1 := by
          rw [← hX1]
          exact (Fr.xs X 0 0 (nI (t + 1)) (nI (σ t)) (List.mem_singleton.mpr rfl)).tr (Fr.xs _ 0 0 (nI t) (nI (σ (t + 1))) (List.mem_singleton.mpr rfl))
        have hmr : ∀ q, mrow X1 q = mrow X q := by
          intro q
          funext c
          exact hf1.at 11 (by decide) _ _ _
        have hO1 : OrdH X1 n (swp σ t) := by
          intro i hi
          obtain ⟨p1, p2⟩ := hO i hi
          rw [← hX1]
          show xs (xs X.1 12 0 0 (nI (t + 1)) (nI (σ t))) 12 0 0 (nI t) (nI (σ (t + 1))) 12 0 0 (nI i) = nI (swp σ t i) ∧ _
          unfold swp
          by_cases a : i = t + 1
          · subst a
            rw [xs_nj _ _ _ _ _ (fun q => by have := nI_inj (by omega) (by omega) q; omega), xs_self, if_pos rfl]
            exact ⟨rfl, o4⟩
          · by_cases b : i = t
            · subst b
              rw [xs_self, if_neg a, if_pos rfl]
              exact ⟨rfl, o2⟩
            · rw [xs_nj _ _ _ _ _ (fun q => by have := nI_inj (by omega) (by omega) q; omega), xs_nj _ _ _ _ _ (fun q => by have := nI_inj (by omega) (by omega) q; omega), if_neg a, if_neg b]
              exact ⟨p1, p2⟩
        have s1 : swp σ t (t + 1) = σ t := by unfold swp; rw [if_pos rfl]
        have s2 : swp σ t t = σ (t + 1) := by unfold swp; rw [if_neg (by omega), if_pos rfl]
        have s3 : ∀ i, i ≠ t → i ≠ t + 1 → swp σ t i = σ i := by intro i a b; unfold swp; rw [if_neg b, if_neg a]
        obtain ⟨X', σ', z6, z7, g1, g2, g3, g4, g5⟩ := ih X1 (swp σ t) (vI (nI (σ (t + 1)))) hst2 (by omega) hO1 (by
          intro i j a b c hi hj
          rw [hmr, hmr]
          by_cases hj1 : j = t + 1
          · rw [hj1, s1, s3 i hi (by omega)]
            exact h1 i t a (by omega) (by omega) (by omega) (by omega)
          · by_cases hi1 : i = t + 1
            · rw [hi1, s1, s3 j hj hj1]
              exact h1 t j hst2 (by omega) c (by omega) hj1
            · rw [s3 i hi hi1, s3 j hj hj1]
              exact h1 i j a b c hi1 hj1) (by
          intro j a c
          rw [hmr, hmr, s2]
          by_cases hj1 : j = t + 1
          · rw [hj1, s1]
            exact bet_asym hbt
          · rw [s3 j (by omega) hj1]
            exact h2 j (by omega) c)
        refine ⟨X', σ', z6, z7, g1, (swp_ps hst2 (by omega)).tr g2, hf1.tr g3, g4, fun Z hZ => ?_⟩
        have hg := g5 Z hZ
        rw [← hX1] at hg
        refine ev_seg rfl ?_
        simp only [TE, sxs, sx, ldI, ldA, stI, stA, inc, gtF, ptF, ldX, stX, ldR, ldL, stL, dp1, dp2, Tm, kS0, kS1, kS2, kS3, kS4, kS5, kS6, kS7, kS8, kS9, kS10, kS11, kS12, kS13, kS14, kS15, kS16, kS17, kS18, kS19, kS20, kS21, kS22, kS23, kS24, kS25, kS26, kS27, kS28, kS30, kS31, kS32, kS33, kS34, kS35, kS36, kS37, kS38, kS39, kS40, kS41, kS42, kS43, kS50, kS51, kS52, kS53, List.getElem?_cons_zero, List.getElem?_cons_succ, List.set_cons_zero, List.set_cons_succ, List.length_cons, List.length_nil, List.drop_succ_cons, List.drop_zero, List.cons_append, List.nil_append, Option.toList_some, Option.toList_none, cz, ci2, true_and, and_true, and_self, true_or, or_true, nI_1, Nat.reduceAdd, Nat.reduceLT]
        refine ⟨fun h => absurd h (nle (by omega) (by omega)), fun _ => ?_⟩
        refine ev_seg rfl ?_
        simp only [TE, sxs, sx, ldI, ldA, stI, stA, inc, gtF, ptF, ldX, stX, ldR, ldL, stL, dp1, dp2, Tm, kS0, kS1, kS2, kS3, kS4, kS5, kS6, kS7, kS8, kS9, kS10, kS11, kS12, kS13, kS14, kS15, kS16, kS17, kS18, kS19, kS20, kS21, kS22, kS23, kS24, kS25, kS26, kS27, kS28, kS30, kS31, kS32, kS33, kS34, kS35, kS36, kS37, kS38, kS39, kS40, kS41, kS42, kS43, kS50, kS51, kS52, kS53, List.getElem?_cons_zero, List.getElem?_cons_succ, List.set_cons_zero, List.set_cons_succ, List.length_cons, List.length_nil, List.drop_succ_cons, List.drop_zero, List.cons_append, List.nil_append, Option.toList_some, Option.toList_none, cz, ci2, true_and, and_true, and_self, true_or, or_true, nI_1, Nat.reduceAdd, Nat.reduceLT, o1, o3, nI_pred]
        refine ⟨(by first | assumption | (and_intros <;> first | assumption | trivial | decide)), cv4 rfl rfl (by first | exact rfl | exact trivial) (s_isB9 w1 w2 hm) ?_⟩
        refine ev_seg rfl ?_
        simp only [TE, sxs, sx, ldI, ldA, stI, stA, inc, gtF, ptF, ldX, stX, ldR, ldL, stL, dp1, dp2, Tm, kS0, kS1, kS2, kS3, kS4, kS5, kS6, kS7, kS8, kS9, kS10, kS11, kS12, kS13, kS14, kS15, kS16, kS17, kS18, kS19, kS20, kS21, kS22, kS23, kS24, kS25, kS26, kS27, kS28, kS30, kS31, kS32, kS33, kS34, kS35, kS36, kS37, kS38, kS39, kS40, kS41, kS42, kS43, kS50, kS51, kS52, kS53, List.getElem?_cons_zero, List.getElem?_cons_succ, List.set_cons_zero, List.set_cons_succ, List.length_cons, List.length_nil, List.drop_succ_cons, List.drop_zero, List.cons_append, List.nil_append, Option.toList_some, Option.toList_none, cz, ci2, true_and, and_true, and_self, true_or, or_true, nI_1, Nat.reduceAdd, Nat.reduceLT, bI_eq]
        refine ⟨fun h => absurd hb h, fun _ => ?_⟩
        refine ev_seg rfl ?_
        simp only [TE, sxs, sx, ldI, ldA, stI, stA, inc, gtF, ptF, ldX, stX, ldR, ldL, stL, dp1, dp2, Tm, kS0, kS1, kS2, kS3, kS4, kS5, kS6, kS7, kS8, kS9, kS10, kS11, kS12, kS13, kS14, kS15, kS16, kS17, kS18, kS19, kS20, kS21, kS22, kS23, kS24, kS25, kS26, kS27, kS28, kS30, kS31, kS32, kS33, kS34, kS35, kS36, kS37, kS38, kS39, kS40, kS41, kS42, kS43, kS50, kS51, kS52, kS53, List.getElem?_cons_zero, List.getElem?_cons_succ, List.set_cons_zero, List.set_cons_succ, List.length_cons, List.length_nil, List.drop_succ_cons, List.drop_zero, List.cons_append, List.nil_append, Option.toList_some, Option.toList_none, cz, ci2, true_and, and_true, and_self, true_or, or_true, nI_1, Nat.reduceAdd, Nat.reduceLT, o1, o3, nI_pred]
        refine ⟨(by first | assumption | (and_intros <;> first | assumption | trivial | decide)), ?_⟩
        rw [show nI (t + 1) + (-1) = nI t from pk_m1 t]
        exact hg
      · refine ⟨X, σ, vI (nI (t + 1)), z, hO, PS.rf _ _ _, Fr.rf _ _, fun i j a b c => ?_, fun Z hZ => ?_⟩
        · have hnb : ¬ bet (mrow X (σ (t + 1))) (mrow X (σ t)) m := fun q => hb (betB_iff.mpr q)
          by_cases hi : i = t + 1
          · rw [hi]; exact h2 j (by omega) (by omega)
          · by_cases hj : j = t + 1
            · rw [hj]
              by_cases hit : i = t
              · rw [hit]; exact hnb
              · intro q
                rcases bet_neg (mrow X (σ t)) q with w | w
                · exact hnb w
                · exact h1 i t a (by omega) (by omega) hi (by omega) w
            · exact h1 i j a b (by omega) hi hj
        · refine ev_seg rfl ?_
          simp only [TE, sxs, sx, ldI, ldA, stI, stA, inc, gtF, ptF, ldX, stX, ldR, ldL, stL, dp1, dp2, Tm, kS0, kS1, kS2, kS3, kS4, kS5, kS6, kS7, kS8, kS9, kS10, kS11, kS12, kS13, kS14, kS15, kS16, kS17, kS18, kS19, kS20, kS21, kS22, kS23, kS24, kS25, kS26, kS27, kS28, kS30, kS31, kS32, kS33, kS34, kS35, kS36, kS37, kS38, kS39, kS40, kS41, kS42, kS43, kS50, kS51, kS52, kS53, List.getElem?_cons_zero, List.getElem?_cons_succ, List.set_cons_zero, List.set_cons_succ, List.length_cons, List.length_nil, List.drop_succ_cons, List.drop_zero, List.cons_append, List.nil_append, Option.toList_some, Option.toList_none, cz, ci2, true_and, and_true, and_self, true_or, or_true, nI_1, Nat.reduceAdd, Nat.reduceLT]
          refine ⟨fun h => absurd h (nle (by omega) (by omega)), fun _ => ?_⟩
          refine ev_seg rfl ?_
          simp only [TE, sxs, sx, ldI, ldA, stI, stA, inc, gtF, ptF, ldX, stX, ldR, ldL, stL, dp1, dp2, Tm, kS0, kS1, kS2, kS3, kS4, kS5, kS6, kS7, kS8, kS9, kS10, kS11, kS12, kS13, kS14, kS15, kS16, kS17, kS18, kS19, kS20, kS21, kS22, kS23, kS24, kS25, kS26, kS27, kS28, kS30, kS31, kS32, kS33, kS34, kS35, kS36, kS37, kS38, kS39, kS40, kS41, kS42, kS43, kS50, kS51, kS52, kS53, List.getElem?_cons_zero, List.getElem?_cons_succ, List.set_cons_zero, List.set_cons_succ, List.length_cons, List.length_nil, List.drop_succ_cons, List.drop_zero, List.cons_append, List.nil_append, Option.toList_some, Option.toList_none, cz, ci2, true_and, and_true, and_self, true_or, or_true, nI_1, Nat.reduceAdd, Nat.reduceLT, o1, o3, nI_pred]
          refine ⟨(by first | assumption | (and_intros <;> first | assumption | trivial | decide)), cv4 rfl rfl (by first | exact rfl | exact trivial) (s_isB9 w1 w2 hm) ?_⟩
          refine ev_seg rfl ?_
          simp only [TE, sxs, sx, ldI, ldA, stI, stA, inc, gtF, ptF, ldX, stX, ldR, ldL, stL, dp1, dp2, Tm, kS0, kS1, kS2, kS3, kS4, kS5, kS6, kS7, kS8, kS9, kS10, kS11, kS12, kS13, kS14, kS15, kS16, kS17, kS18, kS19, kS20, kS21, kS22, kS23, kS24, kS25, kS26, kS27, kS28, kS30, kS31, kS32, kS33, kS34, kS35, kS36, kS37, kS38, kS39, kS40, kS41, kS42, kS43, kS50, kS51, kS52, kS53, List.getElem?_cons_zero, List.getElem?_cons_succ, List.set_cons_zero, List.set_cons_succ, List.length_cons, List.length_nil, List.drop_succ_cons, List.drop_zero, List.cons_append, List.nil_append, Option.toList_some, Option.toList_none, cz, ci2, true_and, and_true, and_self, true_or, or_true, nI_1, Nat.reduceAdd, Nat.reduceLT, bI_eq]
          exact ⟨fun _ => hZ, fun h => absurd (Classical.not_not.mp h) hb⟩
theorem arr_sort {s e m n : Nat} {fr : Int32} (hn : n ≤ 5) (he : e ≤ n) (hm : m ≤ 4) : ∀ (q p : Nat) (X : XT) (σ : Nat → Nat) (z6 z7 : AV), p + q = e → s < p → OrdH X n σ → Srd X m s p σ →
    ∃ (X' : XT) (σ' : Nat → Nat) (z5' z6' z7' : AV), OrdH X' n σ' ∧ PS s e σ σ' ∧ Fr [12] X X' ∧ Srd X' m s e σ' ∧ ∀ Z, Ev sc (d + 2) 51 8 (aL s e m fr z5' z6' z7') [] X' (.inl none) Z 0 → Ev sc (d + 2) 51 1 (aL s e m fr (vI (nI p)) z6 z7) [] X (.inl none) Z 0 := by
  intro q
  induction q with
  | zero =>
    intro p X σ z6 z7 hpq hsp hO hs
    refine ⟨X, σ, vI (nI p), z6, z7, hO, PS.rf _ _ _, Fr.rf _ _, by rw [show e = p by omega]; exact hs, fun Z hZ => ?_⟩
    refine ev_seg rfl ?_
    simp only [TE, sxs, sx, ldI, ldA, stI, stA, inc, gtF, ptF, ldX, stX, ldR, ldL, stL, dp1, dp2, Tm, kS0, kS1, kS2, kS3, kS4, kS5, kS6, kS7, kS8, kS9, kS10, kS11, kS12, kS13, kS14, kS15, kS16, kS17, kS18, kS19, kS20, kS21, kS22, kS23, kS24, kS25, kS26, kS27, kS28, kS30, kS31, kS32, kS33, kS34, kS35, kS36, kS37, kS38, kS39, kS40, kS41, kS42, kS43, kS50, kS51, kS52, kS53, List.getElem?_cons_zero, List.getElem?_cons_succ, List.set_cons_zero, List.set_cons_succ, List.length_cons, List.length_nil, List.drop_succ_cons, List.drop_zero, List.cons_append, List.nil_append, Option.toList_some, Option.toList_none, cz, ci2, true_and, and_true, and_self, true_or, or_true, nI_1, Nat.reduceAdd, Nat.reduceLT]
    exact ⟨fun _ => hZ, fun h => absurd (nleI (by omega) (by omega)) h⟩
  | succ q ih =>
    intro p X σ z6 z7 hpq hsp hO hs
    obtain ⟨X1, σ1, y6, y7, a1, a2, a3, a4, a5⟩ := arr_in (sc := sc) (d := d) (fr := fr) (s := s) hn he hm (by omega : p < e) p X σ z7 (by omega) (Nat.le_refl _) hO (fun i j h1 h2 h3 h4 h5 => hs i j h1 h2 (by omega)) (fun j h1 h2 => absurd h1 (by omega))
    obtain ⟨X', σ', z5', z6', z7', b1, b2, b3, b4, b5⟩ := ih (p + 1) X1 σ1 y6 y7 (by omega) (by omega) a1 a4
    refine ⟨X', σ', z5', z6', z7', b1, a2.tr b2, a3.tr b3, b4, fun Z hZ => ?_⟩
    have h1 := b5 Z hZ
    refine ev_seg rfl ?_
    simp only [TE, sxs, sx, ldI, ldA, stI, stA, inc, gtF, ptF, ldX, stX, ldR, ldL, stL, dp1, dp2, Tm, kS0, kS1, kS2, kS3, kS4, kS5, kS6, kS7, kS8, kS9, kS10, kS11, kS12, kS13, kS14, kS15, kS16, kS17, kS18, kS19, kS20, kS21, kS22, kS23, kS24, kS25, kS26, kS27, kS28, kS30, kS31, kS32, kS33, kS34, kS35, kS36, kS37, kS38, kS39, kS40, kS41, kS42, kS43, kS50, kS51, kS52, kS53, List.getElem?_cons_zero, List.getElem?_cons_succ, List.set_cons_zero, List.set_cons_succ, List.length_cons, List.length_nil, List.drop_succ_cons, List.drop_zero, List.cons_append, List.nil_append, Option.toList_some, Option.toList_none, cz, ci2, true_and, and_true, and_self, true_or, or_true, nI_1, Nat.reduceAdd, Nat.reduceLT]
    refine ⟨fun h => absurd h (nle (by omega) (by omega)), fun _ => ?_⟩
    refine ev_seg rfl ?_
    simp only [TE, sxs, sx, ldI, ldA, stI, stA, inc, gtF, ptF, ldX, stX, ldR, ldL, stL, dp1, dp2, Tm, kS0, kS1, kS2, kS3, kS4, kS5, kS6, kS7, kS8, kS9, kS10, kS11, kS12, kS13, kS14, kS15, kS16, kS17, kS18, kS19, kS20, kS21, kS22, kS23, kS24, kS25, kS26, kS27, kS28, kS30, kS31, kS32, kS33, kS34, kS35, kS36, kS37, kS38, kS39, kS40, kS41, kS42, kS43, kS50, kS51, kS52, kS53, List.getElem?_cons_zero, List.getElem?_cons_succ, List.set_cons_zero, List.set_cons_succ, List.length_cons, List.length_nil, List.drop_succ_cons, List.drop_zero, List.cons_append, List.nil_append, Option.toList_some, Option.toList_none, cz, ci2, true_and, and_true, and_self, true_or, or_true, nI_1, Nat.reduceAdd, Nat.reduceLT]
    refine a5 Z ?_
    refine ev_seg rfl ?_
    simp only [TE, sxs, sx, ldI, ldA, stI, stA, inc, gtF, ptF, ldX, stX, ldR, ldL, stL, dp1, dp2, Tm, kS0, kS1, kS2, kS3, kS4, kS5, kS6, kS7, kS8, kS9, kS10, kS11, kS12, kS13, kS14, kS15, kS16, kS17, kS18, kS19, kS20, kS21, kS22, kS23, kS24, kS25, kS26, kS27, kS28, kS30, kS31, kS32, kS33, kS34, kS35, kS36, kS37, kS38, kS39, kS40, kS41, kS42, kS43, kS50, kS51, kS52, kS53, List.getElem?_cons_zero, List.getElem?_cons_succ, List.set_cons_zero, List.set_cons_succ, List.length_cons, List.length_nil, List.drop_succ_cons, List.drop_zero, List.cons_append, List.nil_append, Option.toList_some, Option.toList_none, cz, ci2, true_and, and_true, and_self, true_or, or_true, nI_1, Nat.reduceAdd, Nat.reduceLT]
    exact h1
end Srt
end
section
/-! arranging: sorted, and the rules noted -/
section Arr
variable {sc : SC} {d : Nat} {X : XT}
abbrev RU (X : XT) (a b : Nat) : Int32 := X.1 14 0 (nI a) (nI b)
/-- two teams' rule noted, where they are apart -/
noncomputable def ntX (X : XT) (a b m fr : Nat) : XT := if fa (mrow X a) (mrow X b) m < m then (xs (xs X.1 14 0 (nI a) (nI b) (nI (fr + fa (mrow X a) (mrow X b) m))) 14 0 (nI b) (nI a) (nI (fr + fa (mrow X a) (mrow X b) m)), X.2) else X
theorem s_noteRule {a b m fr : Nat} (ha : a < 5) (hb : b < 5) (hm : m ≤ 4) : Ev sc (d + 1) 52 0 (ent 52 [vR 8 0 0, vI (nI a), vI (nI b), vI (nI m), vI (nI fr)]) [] X (.inl none) (ntX X a b m fr) 0 := by
  rw [en52]
  have v1 : vp_in (nI a) 5 := vpn ha (by decide)
  have v2 : vp_in (nI b) 5 := vpn hb (by decide)
  refine ev_seg rfl ?_
  simp only [TE, sxs, sx, ldI, ldA, stI, stA, inc, gtF, ptF, ldX, stX, ldR, ldL, stL, dp1, dp2, Tm, kS0, kS1, kS2, kS3, kS4, kS5, kS6, kS7, kS8, kS9, kS10, kS11, kS12, kS13, kS14, kS15, kS16, kS17, kS18, kS19, kS20, kS21, kS22, kS23, kS24, kS25, kS26, kS27, kS28, kS30, kS31, kS32, kS33, kS34, kS35, kS36, kS37, kS38, kS39, kS40, kS41, kS42, kS43, kS50, kS51, kS52, kS53, List.getElem?_cons_zero, List.getElem?_cons_succ, List.set_cons_zero, List.set_cons_succ, List.length_cons, List.length_nil, List.drop_succ_cons, List.drop_zero, List.cons_append, List.nil_append, Option.toList_some, Option.toList_none, cz, ci2, true_and, and_true, and_self, true_or, or_true, nI_1, Nat.reduceAdd, Nat.reduceLT]
  refine cv4 rfl rfl (by first | exact rfl | exact trivial) (s_firstApart9 v1 v2 hm) ?_
  have hle := fa_le (mrow X a) (mrow X b) m
  have e0 : fa (fun c => X.1 11 0 (nI a) (nI c)) (fun c => X.1 11 0 (nI b) (nI c)) m = fa (mrow X a) (mrow X b) m := rfl
  refine ev_seg rfl ?_
  simp only [TE, sxs, sx, ldI, ldA, stI, stA, inc, gtF, ptF, ldX, stX, ldR, ldL, stL, dp1, dp2, Tm, kS0, kS1, kS2, kS3, kS4, kS5, kS6, kS7, kS8, kS9, kS10, kS11, kS12, kS13, kS14, kS15, kS16, kS17, kS18, kS19, kS20, kS21, kS22, kS23, kS24, kS25, kS26, kS27, kS28, kS30, kS31, kS32, kS33, kS34, kS35, kS36, kS37, kS38, kS39, kS40, kS41, kS42, kS43, kS50, kS51, kS52, kS53, List.getElem?_cons_zero, List.getElem?_cons_succ, List.set_cons_zero, List.set_cons_succ, List.length_cons, List.length_nil, List.drop_succ_cons, List.drop_zero, List.cons_append, List.nil_append, Option.toList_some, Option.toList_none, cz, ci2, true_and, and_true, and_self, true_or, or_true, nI_1, Nat.reduceAdd, Nat.reduceLT, e0]
  refine ⟨fun h => ?_, fun h => ?_⟩
  · have hge : ¬ fa (mrow X a) (mrow X b) m < m := fun q => nle q (by omega) h
    rw [show ntX X a b m fr = X from if_neg hge]
    refine ev_seg rfl ?_
    simp only [TE, sxs, sx, ldI, ldA, stI, stA, inc, gtF, ptF, ldX, stX, ldR, ldL, stL, dp1, dp2, Tm, kS0, kS1, kS2, kS3, kS4, kS5, kS6, kS7, kS8, kS9, kS10, kS11, kS12, kS13, kS14, kS15, kS16, kS17, kS18, kS19, kS20, kS21, kS22, kS23, kS24, kS25, kS26, kS27, kS28, kS30, kS31, kS32, kS33, kS34, kS35, kS36, kS37, kS38, kS39, kS40, kS41, kS42, kS43, kS50, kS51, kS52, kS53, List.getElem?_cons_zero, List.getElem?_cons_succ, List.set_cons_zero, List.set_cons_succ, List.length_cons, List.length_nil, List.drop_succ_cons, List.drop_zero, List.cons_append, List.nil_append, Option.toList_some, Option.toList_none, cz, ci2, true_and, and_true, and_self, true_or, or_true, nI_1, Nat.reduceAdd, Nat.reduceLT]
  · have hlt : fa (mrow X a) (mrow X b) m < m := by
      rcases Nat.lt_or_ge (fa (mrow X a) (mrow X b) m) m with q | q
      · exact q
      · exact absurd (nleI q (by omega)) h
    rw [show ntX X a b m fr = _ from if_pos hlt]
    refine ev_seg rfl ?_
    simp only [TE, sxs, sx, ldI, ldA, stI, stA, inc, gtF, ptF, ldX, stX, ldR, ldL, stL, dp1, dp2, Tm, kS0, kS1, kS2, kS3, kS4, kS5, kS6, kS7, kS8, kS9, kS10, kS11, kS12, kS13, kS14, kS15, kS16, kS17, kS18, kS19, kS20, kS21, kS22, kS23, kS24, kS25, kS26, kS27, kS28, kS30, kS31, kS32, kS33, kS34, kS35, kS36, kS37, kS38, kS39, kS40, kS41, kS42, kS43, kS50, kS51, kS52, kS53, List.getElem?_cons_zero, List.getElem?_cons_succ, List.set_cons_zero, List.set_cons_succ, List.length_cons, List.length_nil, List.drop_succ_cons, List.drop_zero, List.cons_append, List.nil_append, Option.toList_some, Option.toList_none, cz, ci2, true_and, and_true, and_self, true_or, or_true, nI_1, Nat.reduceAdd, Nat.reduceLT]
    refine ⟨(by first | assumption | (and_intros <;> first | assumption | trivial | decide)), ?_⟩
    refine ev_seg rfl ?_
    simp only [TE, sxs, sx, ldI, ldA, stI, stA, inc, gtF, ptF, ldX, stX, ldR, ldL, stL, dp1, dp2, Tm, kS0, kS1, kS2, kS3, kS4, kS5, kS6, kS7, kS8, kS9, kS10, kS11, kS12, kS13, kS14, kS15, kS16, kS17, kS18, kS19, kS20, kS21, kS22, kS23, kS24, kS25, kS26, kS27, kS28, kS30, kS31, kS32, kS33, kS34, kS35, kS36, kS37, kS38, kS39, kS40, kS41, kS42, kS43, kS50, kS51, kS52, kS53, List.getElem?_cons_zero, List.getElem?_cons_succ, List.set_cons_zero, List.set_cons_succ, List.length_cons, List.length_nil, List.drop_succ_cons, List.drop_zero, List.cons_append, List.nil_append, Option.toList_some, Option.toList_none, cz, ci2, true_and, and_true, and_self, true_or, or_true, nI_1, Nat.reduceAdd, Nat.reduceLT, nI_add]
theorem nt_fr (X : XT) (a b m fr : Nat) : Fr [14] X (ntX X a b m fr) := by
  unfold ntX
  split
  · exact (Fr.xs X 0 _ _ _ (List.mem_singleton.mpr rfl)).tr (Fr.xs _ 0 _ _ _ (List.mem_singleton.mpr rfl))
  · exact Fr.rf _ _
theorem nt_ru (X : XT) {a b m fr x y : Nat} (ha : a < 5) (hb : b < 5) (hx : x < 5) (hy : y < 5) : RU (ntX X a b m fr) x y = if ((x = a ∧ y = b) ∨ (x = b ∧ y = a)) ∧ fa (mrow X a) (mrow X b) m < m then nI (fr + fa (mrow X a) (mrow X b) m) else RU X x y := by
  unfold ntX
  by_cases h : fa (mrow X a) (mrow X b) m < m
  · rw [if_pos h]
    have inj : ∀ {p q : Nat}, p < 5 → q < 5 → (nI p = nI q ↔ p = q) := fun hp hq => ⟨fun e => nI_inj (by omega) (by omega) e, fun e => by rw [e]⟩
    show (if (14 = 14 ∧ (0 : Int32) = 0 ∧ nI x = nI b ∧ nI y = nI a) then _ else if (14 = 14 ∧ (0 : Int32) = 0 ∧ nI x = nI a ∧ nI y = nI b) then _ else X.1 14 0 (nI x) (nI y)) = _
    simp only [inj hx hb, inj hy ha, inj hx ha, inj hy hb, true_and, h, and_true]
    by_cases h1 : x = b ∧ y = a
    · rw [if_pos h1, if_pos (Or.inr h1)]
    · rw [if_neg h1]
      by_cases h2 : x = a ∧ y = b
      · rw [if_pos h2, if_pos (Or.inl h2)]
      · rw [if_neg h2, if_neg (fun q => q.elim h2 h1)]
  · rw [if_neg h, if_neg (fun q => h q.2)]
/-- pairs whose rule is noted when the loops stand at p, q -/
def prd (s e p q i j : Nat) : Prop := s ≤ i ∧ i < e ∧ s ≤ j ∧ j < e ∧ i ≠ j ∧ ((i < p ∨ j < p) ∨ (i = p ∧ j < q) ∨ (j = p ∧ i < q))
theorem arr_rules {s e m n fr : Nat} {σ : Nat → Nat} (hn : n ≤ 5) (he : e ≤ n) (hm : m ≤ 4) (hinj : ∀ i j, i < n → j < n → σ i = σ j → i = j) (hO : OrdH X n σ) : ∀ p, p ≤ e → s ≤ p → ∀ (X1 : XT) (z6 z7 : AV), Fr [14] X X1 →
    (∀ i j, i < n → j < n → i ≠ j → ((prd s e p 0 i j ∧ fa (mrow X (σ i)) (mrow X (σ j)) m < m) → RU X1 (σ i) (σ j) = nI (fr + fa (mrow X (σ i)) (mrow X (σ j)) m)) ∧ (¬ (prd s e p 0 i j ∧ fa (mrow X (σ i)) (mrow X (σ j)) m < m) → RU X1 (σ i) (σ j) = RU X (σ i) (σ j))) →
    ∃ Z, Fr [14] X Z ∧ Ev sc (d + 2) 51 9 (aL s e m (nI fr) (vI (nI p)) z6 z7) [] X1 (.inl none) Z 0 ∧
      ∀ i j, i < n → j < n → i ≠ j → ((s ≤ i ∧ i < e ∧ s ≤ j ∧ j < e ∧ fa (mrow X (σ i)) (mrow X (σ j)) m < m) → RU Z (σ i) (σ j) = nI (fr + fa (mrow X (σ i)) (mrow X (σ j)) m)) ∧ (¬ (s ≤ i ∧ i < e ∧ s ≤ j ∧ j < e ∧ fa (mrow X (σ i)) (mrow X (σ j)) m < m) → RU Z (σ i) (σ j) = RU X (σ i) (σ j)) := by
  apply loop_up
  · intro hsp X1 z6 z7 hf hI
    refine ⟨X1, hf, ?_, fun i j hi hj hij => ⟨fun h => (hI i j hi hj hij).1 ⟨⟨h.1, h.2.1, h.2.2.1, h.2.2.2.1, hij, Or.inl (by omega)⟩, h.2.2.2.2⟩, fun h => (hI i j hi hj hij).2 (fun q => h ⟨q.1.1, q.1.2.1, q.1.2.2.1, q.1.2.2.2.1, q.2⟩)⟩⟩
    refine ev_seg rfl ?_
    simp only [TE, sxs, sx, ldI, ldA, stI, stA, inc, gtF, ptF, ldX, stX, ldR, ldL, stL, dp1, dp2, Tm, kS0, kS1, kS2, kS3, kS4, kS5, kS6, kS7, kS8, kS9, kS10, kS11, kS12, kS13, kS14, kS15, kS16, kS17, kS18, kS19, kS20, kS21, kS22, kS23, kS24, kS25, kS26, kS27, kS28, kS30, kS31, kS32, kS33, kS34, kS35, kS36, kS37, kS38, kS39, kS40, kS41, kS42, kS43, kS50, kS51, kS52, kS53, List.getElem?_cons_zero, List.getElem?_cons_succ, List.set_cons_zero, List.set_cons_succ, List.length_cons, List.length_nil, List.drop_succ_cons, List.drop_zero, List.cons_append, List.nil_append, Option.toList_some, Option.toList_none, cz, ci2, true_and, and_true, and_self, true_or, or_true, nI_1, Nat.reduceAdd, Nat.reduceLT]
    refine ⟨fun _ => ?_, fun h => absurd (nleI (Nat.le_refl _) (by omega)) h⟩
    refine ev_seg rfl ?_
    simp only [TE, sxs, sx, ldI, ldA, stI, stA, inc, gtF, ptF, ldX, stX, ldR, ldL, stL, dp1, dp2, Tm, kS0, kS1, kS2, kS3, kS4, kS5, kS6, kS7, kS8, kS9, kS10, kS11, kS12, kS13, kS14, kS15, kS16, kS17, kS18, kS19, kS20, kS21, kS22, kS23, kS24, kS25, kS26, kS27, kS28, kS30, kS31, kS32, kS33, kS34, kS35, kS36, kS37, kS38, kS39, kS40, kS41, kS42, kS43, kS50, kS51, kS52, kS53, List.getElem?_cons_zero, List.getElem?_cons_succ, List.set_cons_zero, List.set_cons_succ, List.length_cons, List.length_nil, List.drop_succ_cons, List.drop_zero, List.cons_append, List.nil_append, Option.toList_some, Option.toList_none, cz, ci2, true_and, and_true, and_self, true_or, or_true, nI_1, Nat.reduceAdd, Nat.reduceLT]
  · intro p hp ihp hsp X1 z6 z7 hf hI
    have inner : ∀ q, q ≤ e → p + 1 ≤ q → ∀ (X2 : XT) (z7 : AV), Fr [14] X X2 →
        (∀ i j, i < n → j < n → i ≠ j → ((prd s e p q i j ∧ fa (mrow X (σ i)) (mrow X (σ j)) m < m) → RU X2 (σ i) (σ j) = nI (fr + fa (mrow X (σ i)) (mrow X (σ j)) m)) ∧ (¬ (prd s e p q i j ∧ fa (mrow X (σ i)) (mrow X (σ j)) m < m) → RU X2 (σ i) (σ j) = RU X (σ i) (σ j))) →
        ∃ Z, Fr [14] X Z ∧ Ev sc (d + 2) 51 11 (aL s e m (nI fr) (vI (nI p)) (vI (nI q)) z7) [] X2 (.inl none) Z 0 ∧
          ∀ i j, i < n → j < n → i ≠ j → ((s ≤ i ∧ i < e ∧ s ≤ j ∧ j < e ∧ fa (mrow X (σ i)) (mrow X (σ j)) m < m) → RU Z (σ i) (σ j) = nI (fr + fa (mrow X (σ i)) (mrow X (σ j)) m)) ∧ (¬ (s ≤ i ∧ i < e ∧ s ≤ j ∧ j < e ∧ fa (mrow X (σ i)) (mrow X (σ j)) m < m) → RU Z (σ i) (σ j) = RU X (σ i) (σ j)) := by
      apply loop_up
      · intro _ X2 z7 hf2 hI2
        obtain ⟨Z, g1, g2, g3⟩ := ihp (by omega) X2 (vI (nI e)) z7 hf2 (fun i j hi hj hij => ⟨fun h => (hI2 i j hi hj hij).1 ⟨⟨h.1.1, h.1.2.1, h.1.2.2.1, h.1.2.2.2.1, hij, by have := h.1; unfold prd at this; omega⟩, h.2⟩, fun h => (hI2 i j hi hj hij).2 (fun q => h ⟨⟨q.1.1, q.1.2.1, q.1.2.2.1, q.1.2.2.2.1, hij, by have := q.1; unfold prd at this; omega⟩, q.2⟩)⟩)
        refine ⟨Z, g1, ?_, g3⟩
        refine ev_seg rfl ?_
        simp only [TE, sxs, sx, ldI, ldA, stI, stA, inc, gtF, ptF, ldX, stX, ldR, ldL, stL, dp1, dp2, Tm, kS0, kS1, kS2, kS3, kS4, kS5, kS6, kS7, kS8, kS9, kS10, kS11, kS12, kS13, kS14, kS15, kS16, kS17, kS18, kS19, kS20, kS21, kS22, kS23, kS24, kS25, kS26, kS27, kS28, kS30, kS31, kS32, kS33, kS34, kS35, kS36, kS37, kS38, kS39, kS40, kS41, kS42, kS43, kS50, kS51, kS52, kS53, List.getElem?_cons_zero, List.getElem?_cons_succ, List.set_cons_zero, List.set_cons_succ, List.length_cons, List.length_nil, List.drop_succ_cons, List.drop_zero, List.cons_append, List.nil_append, Option.toList_some, Option.toList_none, cz, ci2, true_and, and_true, and_self, true_or, or_true, nI_1, Nat.reduceAdd, Nat.reduceLT]
        refine ⟨fun _ => ?_, fun h => absurd (nleI (Nat.le_refl _) (by omega)) h⟩
        refine ev_seg rfl ?_
        simp only [TE, sxs, sx, ldI, ldA, stI, stA, inc, gtF, ptF, ldX, stX, ldR, ldL, stL, dp1, dp2, Tm, kS0, kS1, kS2, kS3, kS4, kS5, kS6, kS7, kS8, kS9, kS10, kS11, kS12, kS13, kS14, kS15, kS16, kS17, kS18, kS19, kS20, kS21, kS22, kS23, kS24, kS25, kS26, kS27, kS28, kS30, kS31, kS32, kS33, kS34, kS35, kS36, kS37, kS38, kS39, kS40, kS41, kS42, kS43, kS50, kS51, kS52, kS53, List.getElem?_cons_zero, List.getElem?_cons_succ, List.set_cons_zero, List.set_cons_succ, List.length_cons, List.length_nil, List.drop_succ_cons, List.drop_zero, List.cons_append, List.nil_append, Option.toList_some, Option.toList_none, cz, ci2, true_and, and_true, and_self, true_or, or_true, nI_1, Nat.reduceAdd, Nat.reduceLT]
        exact g2
      · intro q hq ihq hpq X2 z7 hf2 hI2
        obtain ⟨o1, o2⟩ := hO p (by omega)
        obtain ⟨o3, o4⟩ := hO q (by omega)
        have hmr : ∀ w, mrow X2 w = mrow X w := by
          intro w
          funext c
          exact hf2.at 11 (by decide) _ _ _
        have r1 : X2.1 12 0 0 (nI p) = nI (σ p) := by rw [hf2.at 12 (by decide)]; exact o1
        have r2 : X2.1 12 0 0 (nI q) = nI (σ q) := by rw [hf2.at 12 (by decide)]; exact o3
        have hnr : ∀ i j, i < n → j < n → RU (ntX X2 (σ p) (σ q) m fr) (σ i) (σ j) = if ((σ i = σ p ∧ σ j = σ q) ∨ (σ i = σ q ∧ σ j = σ p)) ∧ fa (mrow X (σ p)) (mrow X (σ q)) m < m then nI (fr + fa (mrow X (σ p)) (mrow X (σ q)) m) else RU X2 (σ i) (σ j) := by
          intro i j hi hj
          have h9 := nt_ru X2 (a := σ p) (b := σ q) (m := m) (fr := fr) (x := σ i) (y := σ j) (by omega) (by omega) (by have := (hO i hi).2; omega) (by have := (hO j hj).2; omega)
          rwa [hmr, hmr] at h9
        obtain ⟨Z, g1, g2, g3⟩ := ihq (by omega) (ntX X2 (σ p) (σ q) m fr) z7 (hf2.tr (nt_fr _ _ _ _ _)) (fun i j hi hj hij => by
          have ip : (σ i = σ p ↔ i = p) := ⟨fun w => hinj i p hi (by omega) w, fun w => by rw [w]⟩
          have iq : (σ i = σ q ↔ i = q) := ⟨fun w => hinj i q hi (by omega) w, fun w => by rw [w]⟩
          have jp : (σ j = σ p ↔ j = p) := ⟨fun w => hinj j p hj (by omega) w, fun w => by rw [w]⟩
          have jq : (σ j = σ q ↔ j = q) := ⟨fun w => hinj j q hj (by omega) w, fun w => by rw [w]⟩
          have hr := hnr i j hi hj
          simp only [ip, iq, jp, jq] at hr
          obtain ⟨c1, c2⟩ := hI2 i j hi hj hij
          have hpr : prd s e p (q + 1) i j ↔ prd s e p q i j ∨ ((i = p ∧ j = q) ∨ (i = q ∧ j = p)) := by
            unfold prd
            constructor
            · rintro ⟨w1, w2, w3, w4, w5, w6⟩
              by_cases h9 : (i = p ∧ j = q) ∨ (i = q ∧ j = p)
              · exact Or.inr h9
              · exact Or.inl ⟨w1, w2, w3, w4, w5, by omega⟩
            · rintro (⟨w1, w2, w3, w4, w5, w6⟩ | (⟨rfl, rfl⟩ | ⟨rfl, rfl⟩))
              · exact ⟨w1, w2, w3, w4, w5, by omega⟩
              · exact ⟨by omega, by omega, by omega, by omega, by omega, by omega⟩
              · exact ⟨by omega, by omega, by omega, by omega, by omega, by omega⟩
          have hsym : ((i = p ∧ j = q) ∨ (i = q ∧ j = p)) → fa (mrow X (σ i)) (mrow X (σ j)) m = fa (mrow X (σ p)) (mrow X (σ q)) m := by
            rintro (⟨rfl, rfl⟩ | ⟨rfl, rfl⟩)
            · rfl
            · exact fa_comm _ _ _
          refine ⟨fun h => ?_, fun h => ?_⟩
          · rw [hr]
            by_cases h9 : (i = p ∧ j = q) ∨ (i = q ∧ j = p)
            · rw [if_pos ⟨h9, by rw [← hsym h9]; exact h.2⟩, hsym h9]
            · rw [if_neg (fun w => h9 w.1)]
              exact c1 ⟨(hpr.mp h.1).resolve_right h9, h.2⟩
          · rw [hr]
            by_cases h9 : (i = p ∧ j = q) ∨ (i = q ∧ j = p)
            · rw [if_neg (fun w => h ⟨hpr.mpr (Or.inr h9), by rw [hsym h9]; exact w.2⟩)]
              exact c2 (fun w => h ⟨hpr.mpr (Or.inl w.1), w.2⟩)
            · rw [if_neg (fun w => h9 w.1)]
              exact c2 (fun w => h ⟨hpr.mpr (Or.inl w.1), w.2⟩))
        refine ⟨Z, g1, ?_, g3⟩
        have vp : vp_in (nI p) 5 := vpn (by omega) (by decide)
        have vq : vp_in (nI q) 5 := vpn (by omega) (by decide)
        refine ev_seg rfl ?_
        simp only [TE, sxs, sx, ldI, ldA, stI, stA, inc, gtF, ptF, ldX, stX, ldR, ldL, stL, dp1, dp2, Tm, kS0, kS1, kS2, kS3, kS4, kS5, kS6, kS7, kS8, kS9, kS10, kS11, kS12, kS13, kS14, kS15, kS16, kS17, kS18, kS19, kS20, kS21, kS22, kS23, kS24, kS25, kS26, kS27, kS28, kS30, kS31, kS32, kS33, kS34, kS35, kS36, kS37, kS38, kS39, kS40, kS41, kS42, kS43, kS50, kS51, kS52, kS53, List.getElem?_cons_zero, List.getElem?_cons_succ, List.set_cons_zero, List.set_cons_succ, List.length_cons, List.length_nil, List.drop_succ_cons, List.drop_zero, List.cons_append, List.nil_append, Option.toList_some, Option.toList_none, cz, ci2, true_and, and_true, and_self, true_or, or_true, nI_1, Nat.reduceAdd, Nat.reduceLT]
        refine ⟨fun h => absurd h (nle hq (by omega)), fun _ => ?_⟩
        refine ev_seg rfl ?_
        simp only [TE, sxs, sx, ldI, ldA, stI, stA, inc, gtF, ptF, ldX, stX, ldR, ldL, stL, dp1, dp2, Tm, kS0, kS1, kS2, kS3, kS4, kS5, kS6, kS7, kS8, kS9, kS10, kS11, kS12, kS13, kS14, kS15, kS16, kS17, kS18, kS19, kS20, kS21, kS22, kS23, kS24, kS25, kS26, kS27, kS28, kS30, kS31, kS32, kS33, kS34, kS35, kS36, kS37, kS38, kS39, kS40, kS41, kS42, kS43, kS50, kS51, kS52, kS53, List.getElem?_cons_zero, List.getElem?_cons_succ, List.set_cons_zero, List.set_cons_succ, List.length_cons, List.length_nil, List.drop_succ_cons, List.drop_zero, List.cons_append, List.nil_append, Option.toList_some, Option.toList_none, cz, ci2, true_and, and_true, and_self, true_or, or_true, nI_1, Nat.reduceAdd, Nat.reduceLT, r1, r2]
        refine ⟨(by first | assumption | (and_intros <;> first | assumption | trivial | decide)), cu5 rfl rfl (by first | exact rfl | exact trivial) (s_noteRule (by omega) (by omega) hm) ?_⟩
        refine ev_seg rfl ?_
        simp only [TE, sxs, sx, ldI, ldA, stI, stA, inc, gtF, ptF, ldX, stX, ldR, ldL, stL, dp1, dp2, Tm, kS0, kS1, kS2, kS3, kS4, kS5, kS6, kS7, kS8, kS9, kS10, kS11, kS12, kS13, kS14, kS15, kS16, kS17, kS18, kS19, kS20, kS21, kS22, kS23, kS24, kS25, kS26, kS27, kS28, kS30, kS31, kS32, kS33, kS34, kS35, kS36, kS37, kS38, kS39, kS40, kS41, kS42, kS43, kS50, kS51, kS52, kS53, List.getElem?_cons_zero, List.getElem?_cons_succ, List.set_cons_zero, List.set_cons_succ, List.length_cons, List.length_nil, List.drop_succ_cons, List.drop_zero, List.cons_append, List.nil_append, Option.toList_some, Option.toList_none, cz, ci2, true_and, and_true, and_self, true_or, or_true, nI_1, Nat.reduceAdd, Nat.reduceLT]
        exact g2
    obtain ⟨Z, g1, g2, g3⟩ := inner (p + 1) (by omega) (Nat.le_refl _) X1 z7 hf (fun i j hi hj hij => ⟨fun h => (hI i j hi hj hij).1 ⟨⟨h.1.1, h.1.2.1, h.1.2.2.1, h.1.2.2.2.1, hij, by have := h.1; unfold prd at this; omega⟩, h.2⟩, fun h => (hI i j hi hj hij).2 (fun q => h ⟨⟨q.1.1, q.1.2.1, q.1.2.2.1, q.1.2.2.2.1, hij, by have := q.1; unfold prd at this; omega⟩, q.2⟩)⟩)
    refine ⟨Z, g1, ?_, g3⟩
    refine ev_seg rfl ?_
    simp only [TE, sxs, sx, ldI, ldA, stI, stA, inc, gtF, ptF, ldX, stX, ldR, ldL, stL, dp1, dp2, Tm, kS0, kS1, kS2, kS3, kS4, kS5, kS6, kS7, kS8, kS9, kS10, kS11, kS12, kS13, kS14, kS15, kS16, kS17, kS18, kS19, kS20, kS21, kS22, kS23, kS24, kS25, kS26, kS27, kS28, kS30, kS31, kS32, kS33, kS34, kS35, kS36, kS37, kS38, kS39, kS40, kS41, kS42, kS43, kS50, kS51, kS52, kS53, List.getElem?_cons_zero, List.getElem?_cons_succ, List.set_cons_zero, List.set_cons_succ, List.length_cons, List.length_nil, List.drop_succ_cons, List.drop_zero, List.cons_append, List.nil_append, Option.toList_some, Option.toList_none, cz, ci2, true_and, and_true, and_self, true_or, or_true, nI_1, Nat.reduceAdd, Nat.reduceLT]
    refine ⟨fun h => absurd h (nle hp (by omega)), fun _ => ?_⟩
    refine ev_seg rfl ?_
    simp only [TE, sxs, sx, ldI, ldA, stI, stA, inc, gtF, ptF, ldX, stX, ldR, ldL, stL, dp1, dp2, Tm, kS0, kS1, kS2, kS3, kS4, kS5, kS6, kS7, kS8, kS9, kS10, kS11, kS12, kS13, kS14, kS15, kS16, kS17, kS18, kS19, kS20, kS21, kS22, kS23, kS24, kS25, kS26, kS27, kS28, kS30, kS31, kS32, kS33, kS34, kS35, kS36, kS37, kS38, kS39, kS40, kS41, kS42, kS43, kS50, kS51, kS52, kS53, List.getElem?_cons_zero, List.getElem?_cons_succ, List.set_cons_zero, List.set_cons_succ, List.length_cons, List.length_nil, List.drop_succ_cons, List.drop_zero, List.cons_append, List.nil_append, Option.toList_some, Option.toList_none, cz, ci2, true_and, and_true, and_self, true_or, or_true, nI_1, Nat.reduceAdd, Nat.reduceLT]
    exact g2
/-- the whole: a stretch is sorted by m marks, and the rules noted -/
theorem s_arrange {s e m n fr : Nat} {σ : Nat → Nat} (hn : n ≤ 5) (hse : s < e) (he : e ≤ n) (hm : m ≤ 4) (hinj : ∀ i j, i < n → j < n → σ i = σ j → i = j) (hO : OrdH X n σ) :
    ∃ (Z : XT) (τ : Nat → Nat), Ev sc (d + 2) 51 0 (ent 51 [vR 8 0 0, vI (nI s), vI (nI e), vI (nI m), vI (nI fr)]) [] X (.inl none) Z 0 ∧ Fr [12, 14] X Z ∧ OrdH Z n τ ∧ PS s e σ τ ∧ Srd X m s e τ ∧
      ∀ i j, i < n → j < n → i ≠ j → ((s ≤ i ∧ i < e ∧ s ≤ j ∧ j < e ∧ fa (mrow X (τ i)) (mrow X (τ j)) m < m) → RU Z (τ i) (τ j) = nI (fr + fa (mrow X (τ i)) (mrow X (τ j)) m)) ∧ (¬ (s ≤ i ∧ i < e ∧ s ≤ j ∧ j < e ∧ fa (mrow X (τ i)) (mrow X (τ j)) m < m) → RU Z (τ i) (τ j) = RU X (τ i) (τ j)) := by
  obtain ⟨X1, τ, y5, y6, y7, a1, a2, a3, a4, a5⟩ := arr_sort (sc := sc) (d := d) (fr := nI fr) (s := s) hn he hm (e - (s + 1)) (s + 1) X σ av0 av0 (by omega) (by omega) hO (fun i j h1 h2 h3 => absurd h3 (by omega))
  have hmr : ∀ w, mrow X1 w = mrow X w := by
    intro w
    funext c
    exact a3.at 11 (by decide) _ _ _
  have hru : ∀ a b, RU X1 a b = RU X a b := fun a b => a3.at 14 (by decide) _ _ _
  have hinj1 := a2.2.2.2 n he hinj
  obtain ⟨Z, g1, g2, g3⟩ := arr_rules (sc := sc) (d := d) (X := X1) (fr := fr) (s := s) hn he hm hinj1 a1 s (by omega) (Nat.le_refl _) X1 y6 y7 (Fr.rf _ _) (fun i j hi hj hij => ⟨fun h => absurd h.1 (by unfold prd; omega), fun _ => rfl⟩)
  simp only [hmr, hru] at g3
  refine ⟨Z, τ, ?_, (a3.mo (by decide)).tr (g1.mo (by decide)), fun i hi => ?_, a2, fun i j h1 h2 h3 => ?_, g3⟩
  · rw [en51]
    refine ev_seg rfl ?_
    simp only [TE, sxs, sx, ldI, ldA, stI, stA, inc, gtF, ptF, ldX, stX, ldR, ldL, stL, dp1, dp2, Tm, kS0, kS1, kS2, kS3, kS4, kS5, kS6, kS7, kS8, kS9, kS10, kS11, kS12, kS13, kS14, kS15, kS16, kS17, kS18, kS19, kS20, kS21, kS22, kS23, kS24, kS25, kS26, kS27, kS28, kS30, kS31, kS32, kS33, kS34, kS35, kS36, kS37, kS38, kS39, kS40, kS41, kS42, kS43, kS50, kS51, kS52, kS53, List.getElem?_cons_zero, List.getElem?_cons_succ, List.set_cons_zero, List.set_cons_succ, List.length_cons, List.length_nil, List.drop_succ_cons, List.drop_zero, List.cons_append, List.nil_append, Option.toList_some, Option.toList_none, cz, ci2, true_and, and_true, and_self, true_or, or_true, nI_1, Nat.reduceAdd, Nat.reduceLT]
    refine a5 Z ?_
    refine ev_seg rfl ?_
    simp only [TE, sxs, sx, ldI, ldA, stI, stA, inc, gtF, ptF, ldX, stX, ldR, ldL, stL, dp1, dp2, Tm, kS0, kS1, kS2, kS3, kS4, kS5, kS6, kS7, kS8, kS9, kS10, kS11, kS12, kS13, kS14, kS15, kS16, kS17, kS18, kS19, kS20, kS21, kS22, kS23, kS24, kS25, kS26, kS27, kS28, kS30, kS31, kS32, kS33, kS34, kS35, kS36, kS37, kS38, kS39, kS40, kS41, kS42, kS43, kS50, kS51, kS52, kS53, List.getElem?_cons_zero, List.getElem?_cons_succ, List.set_cons_zero, List.set_cons_succ, List.length_cons, List.length_nil, List.drop_succ_cons, List.drop_zero, List.cons_append, List.nil_append, Option.toList_some, Option.toList_none, cz, ci2, true_and, and_true, and_self, true_or, or_true, nI_1, Nat.reduceAdd, Nat.reduceLT]
    exact g2
  · obtain ⟨w1, w2⟩ := a1 i hi
    exact ⟨by rw [g1.at 12 (by decide)]; exact w1, w2⟩
  · have := a4 i j h1 h2 h3
    rwa [hmr, hmr] at this
end Arr
end
section
/-! sets of seats, marks -/
section Mkg
variable {sc : SC} {d : Nat} {X : XT} {g : Int32}
theorem m_or : ∀ m, m < 32 → ∀ v, v < 5 → nI m ||| ((1 : Int32) <<< (nI v &&& 31)) = nI (m ||| 2 ^ v) ∧ m ||| 2 ^ v < 32 := by decide +kernel
theorem m_bit : ∀ m, m < 32 → ∀ j, j < 5 → (bit (nI m) (nI j) ↔ m.testBit j = true) := by decide +kernel
theorem m_evy : ∀ n, n < 6 → evy n = nI (2 ^ n - 1) ∧ 2 ^ n - 1 < 32 ∧ ∀ j, j < 5 → (2 ^ n - 1).testBit j = decide (j < n) := by decide +kernel
def mkM (σ : Nat → Nat) (s : Nat) : Nat → Nat
  | 0 => 0
  | q + 1 => mkM σ s q ||| 2 ^ σ (s + q)
theorem mkM_lt {σ : Nat → Nat} {s : Nat} : ∀ {q : Nat}, (∀ i, s ≤ i → i < s + q → σ i < 5) → mkM σ s q < 32
  | 0, _ => by unfold mkM; decide
  | q + 1, h => (m_or _ (mkM_lt (fun i h1 h2 => h i h1 (by omega))) _ (h (s + q) (by omega) (by omega))).2
theorem mkM_bit {σ : Nat → Nat} {s : Nat} : ∀ {q j : Nat}, (mkM σ s q).testBit j = true ↔ ∃ i, s ≤ i ∧ i < s + q ∧ σ i = j
  | 0, j => by
    unfold mkM
    simp
    intro i h1 h2
    omega
  | q + 1, j => by
    unfold mkM
    rw [Nat.testBit_or, Bool.or_eq_true, mkM_bit, Nat.testBit_two_pow, decide_eq_true_eq]
    constructor
    · rintro (⟨i, h1, h2, h3⟩ | h)
      · exact ⟨i, h1, by omega, h3⟩
      · exact ⟨s + q, by omega, by omega, h⟩
    · rintro ⟨i, h1, h2, h3⟩
      by_cases hi : i = s + q
      · subst hi; exact Or.inr h3
      · exact Or.inl ⟨i, h1, by omega, h3⟩
theorem s_setOf {s e n : Nat} {σ : Nat → Nat} (hn : n ≤ 5) (hse : s ≤ e) (he : e ≤ n) (hO : OrdH X n σ) : Ev sc d 47 0 (ent 47 [vR 8 0 0, vI (nI s), vI (nI e)]) [] X (.inl (some (.inl (nI (mkM σ s (e - s)))))) X 0 := by
  rw [en47]
  refine ev_seg rfl ?_
  simp only [TE, sxs, sx, ldI, ldA, stI, stA, inc, gtF, ptF, ldX, stX, ldR, ldL, stL, dp1, dp2, Tm, kS0, kS1, kS2, kS3, kS4, kS5, kS6, kS7, kS8, kS9, kS10, kS11, kS12, kS13, kS14, kS15, kS16, kS17, kS18, kS19, kS20, kS21, kS22, kS23, kS24, kS25, kS26, kS27, kS28, kS30, kS31, kS32, kS33, kS34, kS35, kS36, kS37, kS38, kS39, kS40, kS41, kS42, kS43, kS50, kS51, kS52, kS53, List.getElem?_cons_zero, List.getElem?_cons_succ, List.set_cons_zero, List.set_cons_succ, List.length_cons, List.length_nil, List.drop_succ_cons, List.drop_zero, List.cons_append, List.nil_append, Option.toList_some, Option.toList_none, cz, ci2, true_and, and_true, and_self, true_or, or_true, nI_1, Nat.reduceAdd, Nat.reduceLT]
  have loop : ∀ p, p ≤ e → s ≤ p → Ev sc d 47 1 [vR 8 0 0, vI (nI s), vI (nI e), vI (nI (mkM σ s (p - s))), vI (nI p)] [] X (.inl (some (.inl (nI (mkM σ s (e - s)))))) X 0 := by
    apply loop_up
    · intro _
      refine ev_seg rfl ?_
      simp only [TE, sxs, sx, ldI, ldA, stI, stA, inc, gtF, ptF, ldX, stX, ldR, ldL, stL, dp1, dp2, Tm, kS0, kS1, kS2, kS3, kS4, kS5, kS6, kS7, kS8, kS9, kS10, kS11, kS12, kS13, kS14, kS15, kS16, kS17, kS18, kS19, kS20, kS21, kS22, kS23, kS24, kS25, kS26, kS27, kS28, kS30, kS31, kS32, kS33, kS34, kS35, kS36, kS37, kS38, kS39, kS40, kS41, kS42, kS43, kS50, kS51, kS52, kS53, List.getElem?_cons_zero, List.getElem?_cons_succ, List.set_cons_zero, List.set_cons_succ, List.length_cons, List.length_nil, List.drop_succ_cons, List.drop_zero, List.cons_append, List.nil_append, Option.toList_some, Option.toList_none, cz, ci2, true_and, and_true, and_self, true_or, or_true, nI_1, Nat.reduceAdd, Nat.reduceLT]
      refine ⟨fun _ => ?_, fun h => absurd (nleI (Nat.le_refl _) (by omega)) h⟩
      refine ev_seg rfl ?_
      simp only [TE, sxs, sx, ldI, ldA, stI, stA, inc, gtF, ptF, ldX, stX, ldR, ldL, stL, dp1, dp2, Tm, kS0, kS1, kS2, kS3, kS4, kS5, kS6, kS7, kS8, kS9, kS10, kS11, kS12, kS13, kS14, kS15, kS16, kS17, kS18, kS19, kS20, kS21, kS22, kS23, kS24, kS25, kS26, kS27, kS28, kS30, kS31, kS32, kS33, kS34, kS35, kS36, kS37, kS38, kS39, kS40, kS41, kS42, kS43, kS50, kS51, kS52, kS53, List.getElem?_cons_zero, List.getElem?_cons_succ, List.set_cons_zero, List.set_cons_succ, List.length_cons, List.length_nil, List.drop_succ_cons, List.drop_zero, List.cons_append, List.nil_append, Option.toList_some, Option.toList_none, cz, ci2, true_and, and_true, and_self, true_or, or_true, nI_1, Nat.reduceAdd, Nat.reduceLT]
    · intro p hp ih hsp
      obtain ⟨o1, o2⟩ := hO p (by omega)
      have v1 : vp_in (nI p) 5 := vpn (by omega) (by decide)
      have hm : mkM σ s (p - s) < 32 := mkM_lt (fun i h1 h2 => by have := (hO i (by omega)).2; omega)
      have e1 : mkM σ s (p + 1 - s) = mkM σ s (p - s) ||| 2 ^ σ p := by
        rw [show p + 1 - s = p - s + 1 by omega, mkM, show s + (p - s) = p by omega]
      have ih := ih (by omega)
      rw [e1, ← (m_or _ hm _ (by omega : σ p < 5)).1] at ih
      refine ev_seg rfl ?_
      simp only [TE, sxs, sx, ldI, ldA, stI, stA, inc, gtF, ptF, ldX, stX, ldR, ldL, stL, dp1, dp2, Tm, kS0, kS1, kS2, kS3, kS4, kS5, kS6, kS7, kS8, kS9, kS10, kS11, kS12, kS13, kS14, kS15, kS16, kS17, kS18, kS19, kS20, kS21, kS22, kS23, kS24, kS25, kS26, kS27, kS28, kS30, kS31, kS32, kS33, kS34, kS35, kS36, kS37, kS38, kS39, kS40, kS41, kS42, kS43, kS50, kS51, kS52, kS53, List.getElem?_cons_zero, List.getElem?_cons_succ, List.set_cons_zero, List.set_cons_succ, List.length_cons, List.length_nil, List.drop_succ_cons, List.drop_zero, List.cons_append, List.nil_append, Option.toList_some, Option.toList_none, cz, ci2, true_and, and_true, and_self, true_or, or_true, nI_1, Nat.reduceAdd, Nat.reduceLT]
      refine ⟨fun h => absurd h (nle hp (by omega)), fun _ => ?_⟩
      refine ev_seg rfl ?_
      simp only [TE, sxs, sx, ldI, ldA, stI, stA, inc, gtF, ptF, ldX, stX, ldR, ldL, stL, dp1, dp2, Tm, kS0, kS1, kS2, kS3, kS4, kS5, kS6, kS7, kS8, kS9, kS10, kS11, kS12, kS13, kS14, kS15, kS16, kS17, kS18, kS19, kS20, kS21, kS22, kS23, kS24, kS25, kS26, kS27, kS28, kS30, kS31, kS32, kS33, kS34, kS35, kS36, kS37, kS38, kS39, kS40, kS41, kS42, kS43, kS50, kS51, kS52, kS53, List.getElem?_cons_zero, List.getElem?_cons_succ, List.set_cons_zero, List.set_cons_succ, List.length_cons, List.length_nil, List.drop_succ_cons, List.drop_zero, List.cons_append, List.nil_append, Option.toList_some, Option.toList_none, cz, ci2, true_and, and_true, and_self, true_or, or_true, nI_1, Nat.reduceAdd, Nat.reduceLT, o1]
      exact ⟨(by first | assumption | (and_intros <;> first | assumption | trivial | decide)), ih⟩
  have h0 := loop s hse (Nat.le_refl _)
  rw [Nat.sub_self] at h0
  exact h0
/-- the results of a group, by seats -/
def scC (X : XT) (g : Int32) (a b : Nat) : Int32 := X.1 4 g (nI a) (nI b)
theorem rowSum_rs {M n a : Nat} {f : Int32 → Int32 → Int32} (hM : M < 32) (hn : n ≤ 5) : rowSum X g (nI a) (nI M) f n = rsC (scC X g) n (fun j => M.testBit j) f a := by
  apply sumN_congr
  intro j hj
  have h := m_bit M hM j (by omega)
  by_cases h1 : bit (nI M) (nI j) ∧ ¬ X.1 4 g (nI a) (nI j) = -1
  · rw [if_pos h1]
    exact (if_pos (show M.testBit j = true ∧ ¬ scC X g a j = -1 from ⟨h.mp h1.1, h1.2⟩)).symm
  · rw [if_neg h1]
    exact (if_neg (show ¬ (M.testBit j = true ∧ ¬ scC X g a j = -1) from fun q => h1 ⟨h.mpr q.1, q.2⟩)).symm
theorem rowSum_all {n a : Nat} {f : Int32 → Int32 → Int32} (hn : n ≤ 5) : rowSum X g (nI a) (evy n) f n = rsC (scC X g) n (fun _ => true) f a := by
  obtain ⟨e1, e2, e3⟩ := m_evy n (by omega)
  rw [e1, rowSum_rs e2 hn]
  exact rsC_congr (fun j hj => by rw [e3 j (by omega)]; simp [hj])
theorem rowSum_fr {K : List Nat} {X' : XT} {a set : Int32} {f : Int32 → Int32 → Int32} {n : Nat} (h : Fr K X X') (hK : 4 ∉ K) : rowSum X' g a set f n = rowSum X g a set f n := by
  unfold rowSum
  rw [h.2 4 hK]
theorem scC_fr {K : List Nat} {X' : XT} (h : Fr K X X') (hK : 4 ∉ K) : scC X' g = scC X g := by
  unfold scC
  rw [h.2 4 hK]
/-- the marks when all are alike -/
def K4 (X : XT) (g : Int32) (n a c : Nat) : Int32 := if c = 0 then rsC (scC X g) n (fun _ => true) dF a else if c = 1 then rsC (scC X g) n (fun _ => true) gF9 a else if c = 2 then -X.1 6 0 g (nI a) else lotMk X g (nI a)
theorem K4_fr {K : List Nat} {X' : XT} {n : Nat} (h : Fr K X X') (h4 : 4 ∉ K) (h6 : 6 ∉ K) (h7 : 7 ∉ K) (h2 : 2 ∉ K) : K4 X' g n = K4 X g n := by
  funext a c
  unfold K4 lotMk
  rw [scC_fr h h4, h.2 6 h6, h.2 7 h7, h.2 2 h2]
theorem mrow_xs {a z c : Nat} {v : Int32} (hz : z < 5) (ha : a < 5) (hc : c < 4) (q : Nat) (hq : q < 4) : mrow (xs X.1 11 0 (nI a) (nI c) v, X.2) z q = if z = a ∧ q = c then v else mrow X z q := by
  show (if 11 = 11 ∧ (0 : Int32) = 0 ∧ nI z = nI a ∧ nI q = nI c then v else X.1 11 0 (nI z) (nI q)) = _
  have e1 : nI z = nI a ↔ z = a := ⟨fun e => nI_inj (by omega) (by omega) e, fun e => by rw [e]⟩
  have e2 : nI q = nI c ↔ q = c := ⟨fun e => nI_inj (by omega) (by omega) e, fun e => by rw [e]⟩
  simp only [e1, e2, true_and]
  rfl
theorem mrow_xn {a z : Nat} {c v : Int32} (hz : z < 5) (ha : a < 5) (h : z ≠ a) : mrow (xs X.1 11 0 (nI a) c v, X.2) z = mrow X z := by
  funext q
  show (if 11 = 11 ∧ (0 : Int32) = 0 ∧ nI z = nI a ∧ nI q = c then v else X.1 11 0 (nI z) (nI q)) = _
  rw [if_neg (fun w => h (nI_inj (by omega) (by omega) w.2.2.1))]
  rfl
theorem s_markTied {s e n : Nat} {σ : Nat → Nat} (hN : X.1 2 0 g 5 = nI n) (hn : n ≤ 5) (hse : s ≤ e) (he : e ≤ n) (hinj : ∀ i j, i < n → j < n → σ i = σ j → i = j) (hO : OrdH X n σ) :
    ∃ Z, Ev sc (d + 2) 49 0 (ent 49 [vR 8 0 0, vR 2 0 g, vI (nI s), vI (nI e)]) [] X (.inl none) Z 0 ∧ Fr [11] X Z ∧ (∀ i, s ≤ i → i < e → ∀ c, c < 3 → mrow Z (σ i) c = k3 (scC X g) n (fun j => (mkM σ s (e - s)).testBit j) (σ i) c) ∧ ∀ z, z < 5 → (∀ i, s ≤ i → i < e → σ i ≠ z) → mrow Z z = mrow X z := by
  generalize hM : mkM σ s (e - s) = M
  have hM32 : M < 32 := by rw [← hM]; exact mkM_lt (fun i h1 h2 => by have := (hO i (by omega)).2; omega)
  have loop : ∀ p, p ≤ e → s ≤ p → ∀ (X1 : XT) (z : AV), Fr [11] X X1 → (∀ i, s ≤ i → i < p → ∀ c, c < 3 → mrow X1 (σ i) c = k3 (scC X g) n (fun j => M.testBit j) (σ i) c) → (∀ z, z < 5 → (∀ i, s ≤ i → i < p → σ i ≠ z) → mrow X1 z = mrow X z) →
      ∃ Z, Ev sc (d + 2) 49 2 [vR 8 0 0, vR 2 0 g, vI (nI s), vI (nI e), vI (nI M), vI (nI p), z] [] X1 (.inl none) Z 0 ∧ Fr [11] X Z ∧ (∀ i, s ≤ i → i < e → ∀ c, c < 3 → mrow Z (σ i) c = k3 (scC X g) n (fun j => M.testBit j) (σ i) c) ∧ ∀ z, z < 5 → (∀ i, s ≤ i → i < e → σ i ≠ z) → mrow Z z = mrow X z := by
    apply loop_up
    · intro _ X1 z hf h1 h2
      refine ⟨X1, ?_, hf, h1, h2⟩
      refine ev_seg rfl ?_
      simp only [TE, sxs, sx, ldI, ldA, stI, stA, inc, gtF, ptF, ldX, stX, ldR, ldL, stL, dp1, dp2, Tm, kS0, kS1, kS2, kS3, kS4, kS5, kS6, kS7, kS8, kS9, kS10, kS11, kS12, kS13, kS14, kS15, kS16, kS17, kS18, kS19, kS20, kS21, kS22, kS23, kS24, kS25, kS26, kS27, kS28, kS30, kS31, kS32, kS33, kS34, kS35, kS36, kS37, kS38, kS39, kS40, kS41, kS42, kS43, kS50, kS51, kS52, kS53, List.getElem?_cons_zero, List.getElem?_cons_succ, List.set_cons_zero, List.set_cons_succ, List.length_cons, List.length_nil, List.drop_succ_cons, List.drop_zero, List.cons_append, List.nil_append, Option.toList_some, Option.toList_none, cz, ci2, true_and, and_true, and_self, true_or, or_true, nI_1, Nat.reduceAdd, Nat.reduceLT]
      refine ⟨fun _ => ?_, fun h => absurd (nleI (Nat.le_refl _) (by omega)) h⟩
      refine ev_seg rfl ?_
      simp only [TE, sxs, sx, ldI, ldA, stI, stA, inc, gtF, ptF, ldX, stX, ldR, ldL, stL, dp1, dp2, Tm, kS0, kS1, kS2, kS3, kS4, kS5, kS6, kS7, kS8, kS9, kS10, kS11, kS12, kS13, kS14, kS15, kS16, kS17, kS18, kS19, kS20, kS21, kS22, kS23, kS24, kS25, kS26, kS27, kS28, kS30, kS31, kS32, kS33, kS34, kS35, kS36, kS37, kS38, kS39, kS40, kS41, kS42, kS43, kS50, kS51, kS52, kS53, List.getElem?_cons_zero, List.getElem?_cons_succ, List.set_cons_zero, List.set_cons_succ, List.length_cons, List.length_nil, List.drop_succ_cons, List.drop_zero, List.cons_append, List.nil_append, Option.toList_some, Option.toList_none, cz, ci2, true_and, and_true, and_self, true_or, or_true, nI_1, Nat.reduceAdd, Nat.reduceLT]
    · intro p hp ih hsp X1 z hf h1 h2
      obtain ⟨o1, o2⟩ := hO p (by omega)
      have v1 : vp_in (nI p) 5 := vpn (by omega) (by decide)
      have v2 : vp_in (nI (σ p)) 5 := vpn (by omega) (by decide)
      have c0 : vp_in 0 4 := vpn (j := 0) (by decide) (by decide)
      have c1 : vp_in 1 4 := vpn (j := 1) (by decide) (by decide)
      have c2 : vp_in 2 4 := vpn (j := 2) (by decide) (by decide)
      have r1 : X1.1 12 0 0 (nI p) = nI (σ p) := by rw [hf.at 12 (by decide)]; exact o1
      have rN : X1.1 2 0 g 5 = nI n := by rw [hf.at 2 (by decide)]; exact hN
      have i11 : 11 ∈ [11] := List.mem_singleton.mpr rfl
      generalize hX2 : ((xs X1.1 11 0 (nI (σ p)) 0 (rowSum X1 g (nI (σ p)) (nI M) pF n), X1.2) : XT) = X2
      have f2 : Fr [11] X1 X2 := by rw [← hX2]; exact Fr.xs _ _ _ _ _ i11
      have rN2 : X2.1 2 0 g 5 = nI n := by rw [f2.at 2 (by decide)]; exact rN
      generalize hX3 : ((xs X2.1 11 0 (nI (σ p)) 1 (rowSum X2 g (nI (σ p)) (nI M) dF n), X2.2) : XT) = X3
      have f3 : Fr [11] X2 X3 := by rw [← hX3]; exact Fr.xs _ _ _ _ _ i11
      have rN3 : X3.1 2 0 g 5 = nI n := by rw [f3.at 2 (by decide)]; exact rN2
      generalize hX4 : ((xs X3.1 11 0 (nI (σ p)) 2 (rowSum X3 g (nI (σ p)) (nI M) gF9 n), X3.2) : XT) = X4
      have f4 : Fr [11] X3 X4 := by rw [← hX4]; exact Fr.xs _ _ _ _ _ i11
      have hs : ∀ f, rowSum X g (nI (σ p)) (nI M) f n = rsC (scC X g) n (fun j => M.testBit j) f (σ p) := fun f => rowSum_rs hM32 hn
      have g1 : rowSum X1 g (nI (σ p)) (nI M) pF n = rsC (scC X g) n (fun j => M.testBit j) pF (σ p) := (rowSum_fr hf (by decide)).trans (hs _)
      have g2 : rowSum X2 g (nI (σ p)) (nI M) dF n = rsC (scC X g) n (fun j => M.testBit j) dF (σ p) := (rowSum_fr (hf.tr f2) (by decide)).trans (hs _)
      have g3 : rowSum X3 g (nI (σ p)) (nI M) gF9 n = rsC (scC X g) n (fun j => M.testBit j) gF9 (σ p) := (rowSum_fr ((hf.tr f2).tr f3) (by decide)).trans (hs _)
      have hrow : ∀ w, w < 5 → ∀ q, q < 4 → mrow X4 w q = if w = σ p ∧ q = 2 then rsC (scC X g) n (fun j => M.testBit j) gF9 (σ p) else if w = σ p ∧ q = 1 then rsC (scC X g) n (fun j => M.testBit j) dF (σ p) else if w = σ p ∧ q = 0 then rsC (scC X g) n (fun j => M.testBit j) pF (σ p) else mrow X1 w q := by
        intro w hw q hq
        rw [← hX4, g3]
        rw [show (2 : Int32) = nI 2 from rfl, mrow_xs hw (by omega) (by decide) q hq]
        rw [← hX3, g2]
        rw [show (1 : Int32) = nI 1 from rfl, mrow_xs hw (by omega) (by decide) q hq]
        rw [← hX2, g1]
        rw [show mrow (xs X1.1 11 0 (nI (σ p)) 0 (rsC (scC X g) n (fun j => M.testBit j) pF (σ p)), X1.2) w q = mrow (xs X1.1 11 0 (nI (σ p)) (nI 0) (rsC (scC X g) n (fun j => M.testBit j) pF (σ p)), X1.2) w q from rfl, mrow_xs hw (by omega) (by decide) q hq]
      have hrn : ∀ w, w < 5 → w ≠ σ p → mrow X4 w = mrow X1 w := by
        intro w hw hne
        rw [← hX4, mrow_xn hw (by omega) hne, ← hX3, mrow_xn hw (by omega) hne, ← hX2, mrow_xn hw (by omega) hne]
      obtain ⟨Z, a1, a2, a3, a4⟩ := ih (by omega) X4 (vI (nI (σ p))) (((hf.tr f2).tr f3).tr f4) (fun i b1 b2 c hc => by
        have hi5 := (hO i (by omega)).2
        by_cases hi : i = p
        · subst hi
          rw [hrow _ (by omega) c (by omega)]
          unfold k3
          rcases (show c = 0 ∨ c = 1 ∨ c = 2 by omega) with rfl | rfl | rfl <;> simp
        · rw [hrn _ (by omega) (fun w => hi (hinj i p (by omega) (by omega) w))]
          exact h1 i b1 (by omega) c hc) (fun z hz hne => by
        rw [hrn z hz (fun w => hne p hsp (by omega) w.symm)]
        exact h2 z hz (fun i b1 b2 => hne i b1 (by omega)))
      refine ⟨Z, ?_, a2, a3, a4⟩
      refine ev_seg rfl ?_
      simp only [TE, sxs, sx, ldI, ldA, stI, stA, inc, gtF, ptF, ldX, stX, ldR, ldL, stL, dp1, dp2, Tm, kS0, kS1, kS2, kS3, kS4, kS5, kS6, kS7, kS8, kS9, kS10, kS11, kS12, kS13, kS14, kS15, kS16, kS17, kS18, kS19, kS20, kS21, kS22, kS23, kS24, kS25, kS26, kS27, kS28, kS30, kS31, kS32, kS33, kS34, kS35, kS36, kS37, kS38, kS39, kS40, kS41, kS42, kS43, kS50, kS51, kS52, kS53, List.getElem?_cons_zero, List.getElem?_cons_succ, List.set_cons_zero, List.set_cons_succ, List.length_cons, List.length_nil, List.drop_succ_cons, List.drop_zero, List.cons_append, List.nil_append, Option.toList_some, Option.toList_none, cz, ci2, true_and, and_true, and_self, true_or, or_true, nI_1, Nat.reduceAdd, Nat.reduceLT]
      refine ⟨fun h => absurd h (nle hp (by omega)), fun _ => ?_⟩
      refine ev_seg rfl ?_
      simp only [TE, sxs, sx, ldI, ldA, stI, stA, inc, gtF, ptF, ldX, stX, ldR, ldL, stL, dp1, dp2, Tm, kS0, kS1, kS2, kS3, kS4, kS5, kS6, kS7, kS8, kS9, kS10, kS11, kS12, kS13, kS14, kS15, kS16, kS17, kS18, kS19, kS20, kS21, kS22, kS23, kS24, kS25, kS26, kS27, kS28, kS30, kS31, kS32, kS33, kS34, kS35, kS36, kS37, kS38, kS39, kS40, kS41, kS42, kS43, kS50, kS51, kS52, kS53, List.getElem?_cons_zero, List.getElem?_cons_succ, List.set_cons_zero, List.set_cons_succ, List.length_cons, List.length_nil, List.drop_succ_cons, List.drop_zero, List.cons_append, List.nil_append, Option.toList_some, Option.toList_none, cz, ci2, true_and, and_true, and_self, true_or, or_true, nI_1, Nat.reduceAdd, Nat.reduceLT, r1]
      refine ⟨(by first | assumption | (and_intros <;> first | assumption | trivial | decide)), cv3 rfl rfl (by first | exact rfl | exact trivial) (s_pointsFrom rN hn v2) ?_⟩
      refine ev_seg rfl ?_
      simp only [TE, sxs, sx, ldI, ldA, stI, stA, inc, gtF, ptF, ldX, stX, ldR, ldL, stL, dp1, dp2, Tm, kS0, kS1, kS2, kS3, kS4, kS5, kS6, kS7, kS8, kS9, kS10, kS11, kS12, kS13, kS14, kS15, kS16, kS17, kS18, kS19, kS20, kS21, kS22, kS23, kS24, kS25, kS26, kS27, kS28, kS30, kS31, kS32, kS33, kS34, kS35, kS36, kS37, kS38, kS39, kS40, kS41, kS42, kS43, kS50, kS51, kS52, kS53, List.getElem?_cons_zero, List.getElem?_cons_succ, List.set_cons_zero, List.set_cons_succ, List.length_cons, List.length_nil, List.drop_succ_cons, List.drop_zero, List.cons_append, List.nil_append, Option.toList_some, Option.toList_none, cz, ci2, true_and, and_true, and_self, true_or, or_true, nI_1, Nat.reduceAdd, Nat.reduceLT]
      refine cu4 rfl rfl (by first | exact rfl | exact trivial) (s_put9 v2 c0) ?_
      rw [hX2]
      refine ev_seg rfl ?_
      simp only [TE, sxs, sx, ldI, ldA, stI, stA, inc, gtF, ptF, ldX, stX, ldR, ldL, stL, dp1, dp2, Tm, kS0, kS1, kS2, kS3, kS4, kS5, kS6, kS7, kS8, kS9, kS10, kS11, kS12, kS13, kS14, kS15, kS16, kS17, kS18, kS19, kS20, kS21, kS22, kS23, kS24, kS25, kS26, kS27, kS28, kS30, kS31, kS32, kS33, kS34, kS35, kS36, kS37, kS38, kS39, kS40, kS41, kS42, kS43, kS50, kS51, kS52, kS53, List.getElem?_cons_zero, List.getElem?_cons_succ, List.set_cons_zero, List.set_cons_succ, List.length_cons, List.length_nil, List.drop_succ_cons, List.drop_zero, List.cons_append, List.nil_append, Option.toList_some, Option.toList_none, cz, ci2, true_and, and_true, and_self, true_or, or_true, nI_1, Nat.reduceAdd, Nat.reduceLT]
      refine cv3 rfl rfl (by first | exact rfl | exact trivial) (s_differenceFrom rN2 hn v2) ?_
      refine ev_seg rfl ?_
      simp only [TE, sxs, sx, ldI, ldA, stI, stA, inc, gtF, ptF, ldX, stX, ldR, ldL, stL, dp1, dp2, Tm, kS0, kS1, kS2, kS3, kS4, kS5, kS6, kS7, kS8, kS9, kS10, kS11, kS12, kS13, kS14, kS15, kS16, kS17, kS18, kS19, kS20, kS21, kS22, kS23, kS24, kS25, kS26, kS27, kS28, kS30, kS31, kS32, kS33, kS34, kS35, kS36, kS37, kS38, kS39, kS40, kS41, kS42, kS43, kS50, kS51, kS52, kS53, List.getElem?_cons_zero, List.getElem?_cons_succ, List.set_cons_zero, List.set_cons_succ, List.length_cons, List.length_nil, List.drop_succ_cons, List.drop_zero, List.cons_append, List.nil_append, Option.toList_some, Option.toList_none, cz, ci2, true_and, and_true, and_self, true_or, or_true, nI_1, Nat.reduceAdd, Nat.reduceLT]
      refine cu4 rfl rfl (by first | exact rfl | exact trivial) (s_put9 v2 c1) ?_
      rw [hX3]
      refine ev_seg rfl ?_
      simp only [TE, sxs, sx, ldI, ldA, stI, stA, inc, gtF, ptF, ldX, stX, ldR, ldL, stL, dp1, dp2, Tm, kS0, kS1, kS2, kS3, kS4, kS5, kS6, kS7, kS8, kS9, kS10, kS11, kS12, kS13, kS14, kS15, kS16, kS17, kS18, kS19, kS20, kS21, kS22, kS23, kS24, kS25, kS26, kS27, kS28, kS30, kS31, kS32, kS33, kS34, kS35, kS36, kS37, kS38, kS39, kS40, kS41, kS42, kS43, kS50, kS51, kS52, kS53, List.getElem?_cons_zero, List.getElem?_cons_succ, List.set_cons_zero, List.set_cons_succ, List.length_cons, List.length_nil, List.drop_succ_cons, List.drop_zero, List.cons_append, List.nil_append, Option.toList_some, Option.toList_none, cz, ci2, true_and, and_true, and_self, true_or, or_true, nI_1, Nat.reduceAdd, Nat.reduceLT]
      refine cv3 rfl rfl (by first | exact rfl | exact trivial) (s_goalsFrom rN3 hn v2) ?_
      refine ev_seg rfl ?_
      simp only [TE, sxs, sx, ldI, ldA, stI, stA, inc, gtF, ptF, ldX, stX, ldR, ldL, stL, dp1, dp2, Tm, kS0, kS1, kS2, kS3, kS4, kS5, kS6, kS7, kS8, kS9, kS10, kS11, kS12, kS13, kS14, kS15, kS16, kS17, kS18, kS19, kS20, kS21, kS22, kS23, kS24, kS25, kS26, kS27, kS28, kS30, kS31, kS32, kS33, kS34, kS35, kS36, kS37, kS38, kS39, kS40, kS41, kS42, kS43, kS50, kS51, kS52, kS53, List.getElem?_cons_zero, List.getElem?_cons_succ, List.set_cons_zero, List.set_cons_succ, List.length_cons, List.length_nil, List.drop_succ_cons, List.drop_zero, List.cons_append, List.nil_append, Option.toList_some, Option.toList_none, cz, ci2, true_and, and_true, and_self, true_or, or_true, nI_1, Nat.reduceAdd, Nat.reduceLT]
      refine cu4 rfl rfl (by first | exact rfl | exact trivial) (s_put9 v2 c2) ?_
      rw [hX4]
      refine ev_seg rfl ?_
      simp only [TE, sxs, sx, ldI, ldA, stI, stA, inc, gtF, ptF, ldX, stX, ldR, ldL, stL, dp1, dp2, Tm, kS0, kS1, kS2, kS3, kS4, kS5, kS6, kS7, kS8, kS9, kS10, kS11, kS12, kS13, kS14, kS15, kS16, kS17, kS18, kS19, kS20, kS21, kS22, kS23, kS24, kS25, kS26, kS27, kS28, kS30, kS31, kS32, kS33, kS34, kS35, kS36, kS37, kS38, kS39, kS40, kS41, kS42, kS43, kS50, kS51, kS52, kS53, List.getElem?_cons_zero, List.getElem?_cons_succ, List.set_cons_zero, List.set_cons_succ, List.length_cons, List.length_nil, List.drop_succ_cons, List.drop_zero, List.cons_append, List.nil_append, Option.toList_some, Option.toList_none, cz, ci2, true_and, and_true, and_self, true_or, or_true, nI_1, Nat.reduceAdd, Nat.reduceLT]
      exact a1
  obtain ⟨Z, a1, a2, a3, a4⟩ := loop s hse (Nat.le_refl _) X av0 (Fr.rf _ _) (fun i b1 b2 => absurd b2 (by omega)) (fun _ _ _ => rfl)
  refine ⟨Z, ?_, a2, a3, a4⟩
  rw [en49]
  refine ev_seg rfl ?_
  simp only [TE, sxs, sx, ldI, ldA, stI, stA, inc, gtF, ptF, ldX, stX, ldR, ldL, stL, dp1, dp2, Tm, kS0, kS1, kS2, kS3, kS4, kS5, kS6, kS7, kS8, kS9, kS10, kS11, kS12, kS13, kS14, kS15, kS16, kS17, kS18, kS19, kS20, kS21, kS22, kS23, kS24, kS25, kS26, kS27, kS28, kS30, kS31, kS32, kS33, kS34, kS35, kS36, kS37, kS38, kS39, kS40, kS41, kS42, kS43, kS50, kS51, kS52, kS53, List.getElem?_cons_zero, List.getElem?_cons_succ, List.set_cons_zero, List.set_cons_succ, List.length_cons, List.length_nil, List.drop_succ_cons, List.drop_zero, List.cons_append, List.nil_append, Option.toList_some, Option.toList_none, cz, ci2, true_and, and_true, and_self, true_or, or_true, nI_1, Nat.reduceAdd, Nat.reduceLT]
  refine cv3 rfl rfl (by first | exact rfl | exact trivial) (s_setOf hn hse he hO) ?_
  rw [hM]
  refine ev_seg rfl ?_
  simp only [TE, sxs, sx, ldI, ldA, stI, stA, inc, gtF, ptF, ldX, stX, ldR, ldL, stL, dp1, dp2, Tm, kS0, kS1, kS2, kS3, kS4, kS5, kS6, kS7, kS8, kS9, kS10, kS11, kS12, kS13, kS14, kS15, kS16, kS17, kS18, kS19, kS20, kS21, kS22, kS23, kS24, kS25, kS26, kS27, kS28, kS30, kS31, kS32, kS33, kS34, kS35, kS36, kS37, kS38, kS39, kS40, kS41, kS42, kS43, kS50, kS51, kS52, kS53, List.getElem?_cons_zero, List.getElem?_cons_succ, List.set_cons_zero, List.set_cons_succ, List.length_cons, List.length_nil, List.drop_succ_cons, List.drop_zero, List.cons_append, List.nil_append, Option.toList_some, Option.toList_none, cz, ci2, true_and, and_true, and_self, true_or, or_true, nI_1, Nat.reduceAdd, Nat.reduceLT]
  exact a1
theorem s_markAll {s e n : Nat} {σ : Nat → Nat} (hN : X.1 2 0 g 5 = nI n) (hn : n ≤ 5) (hse : s ≤ e) (he : e ≤ n) (hinj : ∀ i j, i < n → j < n → σ i = σ j → i = j) (hO : OrdH X n σ) :
    ∃ Z, Ev sc (d + 2) 50 0 (ent 50 [vR 8 0 0, vR 2 0 g, vI (nI s), vI (nI e)]) [] X (.inl none) Z 0 ∧ Fr [11] X Z ∧ (∀ i, s ≤ i → i < e → ∀ c, c < 4 → mrow Z (σ i) c = K4 X g n (σ i) c) ∧ ∀ z, z < 5 → (∀ i, s ≤ i → i < e → σ i ≠ z) → mrow Z z = mrow X z := by
  have loop : ∀ p, p ≤ e → s ≤ p → ∀ (X1 : XT) (z : AV), Fr [11] X X1 → (∀ i, s ≤ i → i < p → ∀ c, c < 4 → mrow X1 (σ i) c = K4 X g n (σ i) c) → (∀ z, z < 5 → (∀ i, s ≤ i → i < p → σ i ≠ z) → mrow X1 z = mrow X z) →
      ∃ Z, Ev sc (d + 2) 50 2 [vR 8 0 0, vR 2 0 g, vI (nI s), vI (nI e), vI (evy n), vI (nI p), z] [] X1 (.inl none) Z 0 ∧ Fr [11] X Z ∧ (∀ i, s ≤ i → i < e → ∀ c, c < 4 → mrow Z (σ i) c = K4 X g n (σ i) c) ∧ ∀ z, z < 5 → (∀ i, s ≤ i → i < e → σ i ≠ z) → mrow Z z = mrow X z := by
    apply loop_up
    · intro _ X1 z hf h1 h2
      refine ⟨X1, ?_, hf, h1, h2⟩
      refine ev_seg rfl ?_
      simp only [TE, sxs, sx, ldI, ldA, stI, stA, inc, gtF, ptF, ldX, stX, ldR, ldL, stL, dp1, dp2, Tm, kS0, kS1, kS2, kS3, kS4, kS5, kS6, kS7, kS8, kS9, kS10, kS11, kS12, kS13, kS14, kS15, kS16, kS17, kS18, kS19, kS20, kS21, kS22, kS23, kS24, kS25, kS26, kS27, kS28, kS30, kS31, kS32, kS33, kS34, kS35, kS36, kS37, kS38, kS39, kS40, kS41, kS42, kS43, kS50, kS51, kS52, kS53, List.getElem?_cons_zero, List.getElem?_cons_succ, List.set_cons_zero, List.set_cons_succ, List.length_cons, List.length_nil, List.drop_succ_cons, List.drop_zero, List.cons_append, List.nil_append, Option.toList_some, Option.toList_none, cz, ci2, true_and, and_true, and_self, true_or, or_true, nI_1, Nat.reduceAdd, Nat.reduceLT]
      refine ⟨fun _ => ?_, fun h => absurd (nleI (Nat.le_refl _) (by omega)) h⟩
      refine ev_seg rfl ?_
      simp only [TE, sxs, sx, ldI, ldA, stI, stA, inc, gtF, ptF, ldX, stX, ldR, ldL, stL, dp1, dp2, Tm, kS0, kS1, kS2, kS3, kS4, kS5, kS6, kS7, kS8, kS9, kS10, kS11, kS12, kS13, kS14, kS15, kS16, kS17, kS18, kS19, kS20, kS21, kS22, kS23, kS24, kS25, kS26, kS27, kS28, kS30, kS31, kS32, kS33, kS34, kS35, kS36, kS37, kS38, kS39, kS40, kS41, kS42, kS43, kS50, kS51, kS52, kS53, List.getElem?_cons_zero, List.getElem?_cons_succ, List.set_cons_zero, List.set_cons_succ, List.length_cons, List.length_nil, List.drop_succ_cons, List.drop_zero, List.cons_append, List.nil_append, Option.toList_some, Option.toList_none, cz, ci2, true_and, and_true, and_self, true_or, or_true, nI_1, Nat.reduceAdd, Nat.reduceLT]
    · intro p hp ih hsp X1 z hf h1 h2
      obtain ⟨o1, o2⟩ := hO p (by omega)
      have v1 : vp_in (nI p) 5 := vpn (by omega) (by decide)
      have v2 : vp_in (nI (σ p)) 5 := vpn (by omega) (by decide)
      have c0 : vp_in 0 4 := vpn (j := 0) (by decide) (by decide)
      have c1 : vp_in 1 4 := vpn (j := 1) (by decide) (by decide)
      have c2 : vp_in 2 4 := vpn (j := 2) (by decide) (by decide)
      have c3 : vp_in 3 4 := vpn (j := 3) (by decide) (by decide)
      have r1 : X1.1 12 0 0 (nI p) = nI (σ p) := by rw [hf.at 12 (by decide)]; exact o1
      have rN : X1.1 2 0 g 5 = nI n := by rw [hf.at 2 (by decide)]; exact hN
      have i11 : 11 ∈ [11] := List.mem_singleton.mpr rfl
      generalize hX2 : ((xs X1.1 11 0 (nI (σ p)) 0 (rowSum X1 g (nI (σ p)) (evy n) dF n), X1.2) : XT) = X2
      have f2 : Fr [11] X1 X2 := by rw [← hX2]; exact Fr.xs _ _ _ _ _ i11
      have rN2 : X2.1 2 0 g 5 = nI n := by rw [f2.at 2 (by decide)]; exact rN
      generalize hX3 : ((xs X2.1 11 0 (nI (σ p)) 1 (rowSum X2 g (nI (σ p)) (evy n) gF9 n), X2.2) : XT) = X3
      have f3 : Fr [11] X2 X3 := by rw [← hX3]; exact Fr.xs _ _ _ _ _ i11
      generalize hX4 : ((xs X3.1 11 0 (nI (σ p)) 2 (-X3.1 6 0 g (nI (σ p))), X3.2) : XT) = X4
      have f4 : Fr [11] X3 X4 := by rw [← hX4]; exact Fr.xs _ _ _ _ _ i11
      generalize hX5 : ((xs X4.1 11 0 (nI (σ p)) 3 (lotMk X4 g (nI (σ p))), X4.2) : XT) = X5
      have f5 : Fr [11] X4 X5 := by rw [← hX5]; exact Fr.xs _ _ _ _ _ i11
      have hs : ∀ f, rowSum X g (nI (σ p)) (evy n) f n = rsC (scC X g) n (fun _ => true) f (σ p) := fun f => rowSum_all hn
      have g1 : rowSum X1 g (nI (σ p)) (evy n) dF n = K4 X g n (σ p) 0 := ((rowSum_fr hf (by decide)).trans (hs _)).trans rfl
      have g2 : rowSum X2 g (nI (σ p)) (evy n) gF9 n = K4 X g n (σ p) 1 := ((rowSum_fr (hf.tr f2) (by decide)).trans (hs _)).trans rfl
      have g3 : -X3.1 6 0 g (nI (σ p)) = K4 X g n (σ p) 2 := by rw [((hf.tr f2).tr f3).at 6 (by decide)]; rfl
      have g4 : lotMk X4 g (nI (σ p)) = K4 X g n (σ p) 3 := by
        unfold lotMk
        rw [(((hf.tr f2).tr f3).tr f4).at 7 (by decide), (((hf.tr f2).tr f3).tr f4).at 2 (by decide)]
        rfl
      have hrow : ∀ w, w < 5 → ∀ q, q < 4 → mrow X5 w q = if w = σ p ∧ q = 3 then K4 X g n (σ p) 3 else if w = σ p ∧ q = 2 then K4 X g n (σ p) 2 else if w = σ p ∧ q = 1 then K4 X g n (σ p) 1 else if w = σ p ∧ q = 0 then K4 X g n (σ p) 0 else mrow X1 w q := by
        intro w hw q hq
        rw [← hX5, g4]
        rw [show (3 : Int32) = nI 3 from rfl, mrow_xs hw (by omega) (by decide) q hq]
        rw [← hX4, g3]
        rw [show (2 : Int32) = nI 2 from rfl, mrow_xs hw (by omega) (by decide) q hq]
        rw [← hX3, g2]
        rw [show (1 : Int32) = nI 1 from rfl, mrow_xs hw (by omega) (by decide) q hq]
        rw [← hX2, g1]
        rw [show mrow (xs X1.1 11 0 (nI (σ p)) 0 (K4 X g n (σ p) 0), X1.2) w q = mrow (xs X1.1 11 0 (nI (σ p)) (nI 0) (K4 X g n (σ p) 0), X1.2) w q from rfl, mrow_xs hw (by omega) (by decide) q hq]
      have hrn : ∀ w, w < 5 → w ≠ σ p → mrow X5 w = mrow X1 w := by
        intro w hw hne
        rw [← hX5, mrow_xn hw (by omega) hne, ← hX4, mrow_xn hw (by omega) hne, ← hX3, mrow_xn hw (by omega) hne, ← hX2, mrow_xn hw (by omega) hne]
      obtain ⟨Z, a1, a2, a3, a4⟩ := ih (by omega) X5 (vI (nI (σ p))) ((((hf.tr f2).tr f3).tr f4).tr f5) (fun i b1 b2 c hc => by
        have hi5 := (hO i (by omega)).2
        by_cases hi : i = p
        · subst hi
          rw [hrow _ (by omega) c (by omega)]
          rcases (show c = 0 ∨ c = 1 ∨ c = 2 ∨ c = 3 by omega) with rfl | rfl | rfl | rfl <;> simp
        · rw [hrn _ (by omega) (fun w => hi (hinj i p (by omega) (by omega) w))]
          exact h1 i b1 (by omega) c hc) (fun z hz hne => by
        rw [hrn z hz (fun w => hne p hsp (by omega) w.symm)]
        exact h2 z hz (fun i b1 b2 => hne i b1 (by omega)))
      refine ⟨Z, ?_, a2, a3, a4⟩
      refine ev_seg rfl ?_
      simp only [TE, sxs, sx, ldI, ldA, stI, stA, inc, gtF, ptF, ldX, stX, ldR, ldL, stL, dp1, dp2, Tm, kS0, kS1, kS2, kS3, kS4, kS5, kS6, kS7, kS8, kS9, kS10, kS11, kS12, kS13, kS14, kS15, kS16, kS17, kS18, kS19, kS20, kS21, kS22, kS23, kS24, kS25, kS26, kS27, kS28, kS30, kS31, kS32, kS33, kS34, kS35, kS36, kS37, kS38, kS39, kS40, kS41, kS42, kS43, kS50, kS51, kS52, kS53, List.getElem?_cons_zero, List.getElem?_cons_succ, List.set_cons_zero, List.set_cons_succ, List.length_cons, List.length_nil, List.drop_succ_cons, List.drop_zero, List.cons_append, List.nil_append, Option.toList_some, Option.toList_none, cz, ci2, true_and, and_true, and_self, true_or, or_true, nI_1, Nat.reduceAdd, Nat.reduceLT]
      refine ⟨fun h => absurd h (nle hp (by omega)), fun _ => ?_⟩
      refine ev_seg rfl ?_
      simp only [TE, sxs, sx, ldI, ldA, stI, stA, inc, gtF, ptF, ldX, stX, ldR, ldL, stL, dp1, dp2, Tm, kS0, kS1, kS2, kS3, kS4, kS5, kS6, kS7, kS8, kS9, kS10, kS11, kS12, kS13, kS14, kS15, kS16, kS17, kS18, kS19, kS20, kS21, kS22, kS23, kS24, kS25, kS26, kS27, kS28, kS30, kS31, kS32, kS33, kS34, kS35, kS36, kS37, kS38, kS39, kS40, kS41, kS42, kS43, kS50, kS51, kS52, kS53, List.getElem?_cons_zero, List.getElem?_cons_succ, List.set_cons_zero, List.set_cons_succ, List.length_cons, List.length_nil, List.drop_succ_cons, List.drop_zero, List.cons_append, List.nil_append, Option.toList_some, Option.toList_none, cz, ci2, true_and, and_true, and_self, true_or, or_true, nI_1, Nat.reduceAdd, Nat.reduceLT, r1]
      refine ⟨(by first | assumption | (and_intros <;> first | assumption | trivial | decide)), cv3 rfl rfl (by first | exact rfl | exact trivial) (s_differenceFrom rN hn v2) ?_⟩
      refine ev_seg rfl ?_
      simp only [TE, sxs, sx, ldI, ldA, stI, stA, inc, gtF, ptF, ldX, stX, ldR, ldL, stL, dp1, dp2, Tm, kS0, kS1, kS2, kS3, kS4, kS5, kS6, kS7, kS8, kS9, kS10, kS11, kS12, kS13, kS14, kS15, kS16, kS17, kS18, kS19, kS20, kS21, kS22, kS23, kS24, kS25, kS26, kS27, kS28, kS30, kS31, kS32, kS33, kS34, kS35, kS36, kS37, kS38, kS39, kS40, kS41, kS42, kS43, kS50, kS51, kS52, kS53, List.getElem?_cons_zero, List.getElem?_cons_succ, List.set_cons_zero, List.set_cons_succ, List.length_cons, List.length_nil, List.drop_succ_cons, List.drop_zero, List.cons_append, List.nil_append, Option.toList_some, Option.toList_none, cz, ci2, true_and, and_true, and_self, true_or, or_true, nI_1, Nat.reduceAdd, Nat.reduceLT]
      refine cu4 rfl rfl (by first | exact rfl | exact trivial) (s_put9 v2 c0) ?_
      rw [hX2]
      refine ev_seg rfl ?_
      simp only [TE, sxs, sx, ldI, ldA, stI, stA, inc, gtF, ptF, ldX, stX, ldR, ldL, stL, dp1, dp2, Tm, kS0, kS1, kS2, kS3, kS4, kS5, kS6, kS7, kS8, kS9, kS10, kS11, kS12, kS13, kS14, kS15, kS16, kS17, kS18, kS19, kS20, kS21, kS22, kS23, kS24, kS25, kS26, kS27, kS28, kS30, kS31, kS32, kS33, kS34, kS35, kS36, kS37, kS38, kS39, kS40, kS41, kS42, kS43, kS50, kS51, kS52, kS53, List.getElem?_cons_zero, List.getElem?_cons_succ, List.set_cons_zero, List.set_cons_succ, List.length_cons, List.length_nil, List.drop_succ_cons, List.drop_zero, List.cons_append, List.nil_append, Option.toList_some, Option.toList_none, cz, ci2, true_and, and_true, and_self, true_or, or_true, nI_1, Nat.reduceAdd, Nat.reduceLT]
      refine cv3 rfl rfl (by first | exact rfl | exact trivial) (s_goalsFrom rN2 hn v2) ?_
      refine ev_seg rfl ?_
      simp only [TE, sxs, sx, ldI, ldA, stI, stA, inc, gtF, ptF, ldX, stX, ldR, ldL, stL, dp1, dp2, Tm, kS0, kS1, kS2, kS3, kS4, kS5, kS6, kS7, kS8, kS9, kS10, kS11, kS12, kS13, kS14, kS15, kS16, kS17, kS18, kS19, kS20, kS21, kS22, kS23, kS24, kS25, kS26, kS27, kS28, kS30, kS31, kS32, kS33, kS34, kS35, kS36, kS37, kS38, kS39, kS40, kS41, kS42, kS43, kS50, kS51, kS52, kS53, List.getElem?_cons_zero, List.getElem?_cons_succ, List.set_cons_zero, List.set_cons_succ, List.length_cons, List.length_nil, List.drop_succ_cons, List.drop_zero, List.cons_append, List.nil_append, Option.toList_some, Option.toList_none, cz, ci2, true_and, and_true, and_self, true_or, or_true, nI_1, Nat.reduceAdd, Nat.reduceLT]
      refine cu4 rfl rfl (by first | exact rfl | exact trivial) (s_put9 v2 c1) ?_
      rw [hX3]
      refine ev_seg rfl ?_
      simp only [TE, sxs, sx, ldI, ldA, stI, stA, inc, gtF, ptF, ldX, stX, ldR, ldL, stL, dp1, dp2, Tm, kS0, kS1, kS2, kS3, kS4, kS5, kS6, kS7, kS8, kS9, kS10, kS11, kS12, kS13, kS14, kS15, kS16, kS17, kS18, kS19, kS20, kS21, kS22, kS23, kS24, kS25, kS26, kS27, kS28, kS30, kS31, kS32, kS33, kS34, kS35, kS36, kS37, kS38, kS39, kS40, kS41, kS42, kS43, kS50, kS51, kS52, kS53, List.getElem?_cons_zero, List.getElem?_cons_succ, List.set_cons_zero, List.set_cons_succ, List.length_cons, List.length_nil, List.drop_succ_cons, List.drop_zero, List.cons_append, List.nil_append, Option.toList_some, Option.toList_none, cz, ci2, true_and, and_true, and_self, true_or, or_true, nI_1, Nat.reduceAdd, Nat.reduceLT]
      refine cv2 rfl rfl (by first | exact rfl | exact trivial) (s_cardMark v2) ?_
      refine ev_seg rfl ?_
      simp only [TE, sxs, sx, ldI, ldA, stI, stA, inc, gtF, ptF, ldX, stX, ldR, ldL, stL, dp1, dp2, Tm, kS0, kS1, kS2, kS3, kS4, kS5, kS6, kS7, kS8, kS9, kS10, kS11, kS12, kS13, kS14, kS15, kS16, kS17, kS18, kS19, kS20, kS21, kS22, kS23, kS24, kS25, kS26, kS27, kS28, kS30, kS31, kS32, kS33, kS34, kS35, kS36, kS37, kS38, kS39, kS40, kS41, kS42, kS43, kS50, kS51, kS52, kS53, List.getElem?_cons_zero, List.getElem?_cons_succ, List.set_cons_zero, List.set_cons_succ, List.length_cons, List.length_nil, List.drop_succ_cons, List.drop_zero, List.cons_append, List.nil_append, Option.toList_some, Option.toList_none, cz, ci2, true_and, and_true, and_self, true_or, or_true, nI_1, Nat.reduceAdd, Nat.reduceLT]
      refine cu4 rfl rfl (by first | exact rfl | exact trivial) (s_put9 v2 c2) ?_
      rw [hX4]
      refine ev_seg rfl ?_
      simp only [TE, sxs, sx, ldI, ldA, stI, stA, inc, gtF, ptF, ldX, stX, ldR, ldL, stL, dp1, dp2, Tm, kS0, kS1, kS2, kS3, kS4, kS5, kS6, kS7, kS8, kS9, kS10, kS11, kS12, kS13, kS14, kS15, kS16, kS17, kS18, kS19, kS20, kS21, kS22, kS23, kS24, kS25, kS26, kS27, kS28, kS30, kS31, kS32, kS33, kS34, kS35, kS36, kS37, kS38, kS39, kS40, kS41, kS42, kS43, kS50, kS51, kS52, kS53, List.getElem?_cons_zero, List.getElem?_cons_succ, List.set_cons_zero, List.set_cons_succ, List.length_cons, List.length_nil, List.drop_succ_cons, List.drop_zero, List.cons_append, List.nil_append, Option.toList_some, Option.toList_none, cz, ci2, true_and, and_true, and_self, true_or, or_true, nI_1, Nat.reduceAdd, Nat.reduceLT]
      refine cv2 rfl rfl (by first | exact rfl | exact trivial) (s_lotMark v2) ?_
      refine ev_seg rfl ?_
      simp only [TE, sxs, sx, ldI, ldA, stI, stA, inc, gtF, ptF, ldX, stX, ldR, ldL, stL, dp1, dp2, Tm, kS0, kS1, kS2, kS3, kS4, kS5, kS6, kS7, kS8, kS9, kS10, kS11, kS12, kS13, kS14, kS15, kS16, kS17, kS18, kS19, kS20, kS21, kS22, kS23, kS24, kS25, kS26, kS27, kS28, kS30, kS31, kS32, kS33, kS34, kS35, kS36, kS37, kS38, kS39, kS40, kS41, kS42, kS43, kS50, kS51, kS52, kS53, List.getElem?_cons_zero, List.getElem?_cons_succ, List.set_cons_zero, List.set_cons_succ, List.length_cons, List.length_nil, List.drop_succ_cons, List.drop_zero, List.cons_append, List.nil_append, Option.toList_some, Option.toList_none, cz, ci2, true_and, and_true, and_self, true_or, or_true, nI_1, Nat.reduceAdd, Nat.reduceLT]
      refine cu4 rfl rfl (by first | exact rfl | exact trivial) (s_put9 v2 c3) ?_
      rw [hX5]
      refine ev_seg rfl ?_
      simp only [TE, sxs, sx, ldI, ldA, stI, stA, inc, gtF, ptF, ldX, stX, ldR, ldL, stL, dp1, dp2, Tm, kS0, kS1, kS2, kS3, kS4, kS5, kS6, kS7, kS8, kS9, kS10, kS11, kS12, kS13, kS14, kS15, kS16, kS17, kS18, kS19, kS20, kS21, kS22, kS23, kS24, kS25, kS26, kS27, kS28, kS30, kS31, kS32, kS33, kS34, kS35, kS36, kS37, kS38, kS39, kS40, kS41, kS42, kS43, kS50, kS51, kS52, kS53, List.getElem?_cons_zero, List.getElem?_cons_succ, List.set_cons_zero, List.set_cons_succ, List.length_cons, List.length_nil, List.drop_succ_cons, List.drop_zero, List.cons_append, List.nil_append, Option.toList_some, Option.toList_none, cz, ci2, true_and, and_true, and_self, true_or, or_true, nI_1, Nat.reduceAdd, Nat.reduceLT]
      exact a1
  obtain ⟨Z, a1, a2, a3, a4⟩ := loop s hse (Nat.le_refl _) X av0 (Fr.rf _ _) (fun i b1 b2 => absurd b2 (by omega)) (fun _ _ _ => rfl)
  refine ⟨Z, ?_, a2, a3, a4⟩
  rw [en50]
  refine ev_seg rfl ?_
  simp only [TE, sxs, sx, ldI, ldA, stI, stA, inc, gtF, ptF, ldX, stX, ldR, ldL, stL, dp1, dp2, Tm, kS0, kS1, kS2, kS3, kS4, kS5, kS6, kS7, kS8, kS9, kS10, kS11, kS12, kS13, kS14, kS15, kS16, kS17, kS18, kS19, kS20, kS21, kS22, kS23, kS24, kS25, kS26, kS27, kS28, kS30, kS31, kS32, kS33, kS34, kS35, kS36, kS37, kS38, kS39, kS40, kS41, kS42, kS43, kS50, kS51, kS52, kS53, List.getElem?_cons_zero, List.getElem?_cons_succ, List.set_cons_zero, List.set_cons_succ, List.length_cons, List.length_nil, List.drop_succ_cons, List.drop_zero, List.cons_append, List.nil_append, Option.toList_some, Option.toList_none, cz, ci2, true_and, and_true, and_self, true_or, or_true, nI_1, Nat.reduceAdd, Nat.reduceLT]
  refine cv1 rfl rfl (by first | exact rfl | exact trivial) (s_everyone) ?_
  refine ev_seg rfl ?_
  simp only [TE, sxs, sx, ldI, ldA, stI, stA, inc, gtF, ptF, ldX, stX, ldR, ldL, stL, dp1, dp2, Tm, kS0, kS1, kS2, kS3, kS4, kS5, kS6, kS7, kS8, kS9, kS10, kS11, kS12, kS13, kS14, kS15, kS16, kS17, kS18, kS19, kS20, kS21, kS22, kS23, kS24, kS25, kS26, kS27, kS28, kS30, kS31, kS32, kS33, kS34, kS35, kS36, kS37, kS38, kS39, kS40, kS41, kS42, kS43, kS50, kS51, kS52, kS53, List.getElem?_cons_zero, List.getElem?_cons_succ, List.set_cons_zero, List.set_cons_succ, List.length_cons, List.length_nil, List.drop_succ_cons, List.drop_zero, List.cons_append, List.nil_append, Option.toList_some, Option.toList_none, cz, ci2, true_and, and_true, and_self, true_or, or_true, nI_1, Nat.reduceAdd, Nat.reduceLT, hN]
  exact a1
theorem s_alikeE {s x e n m : Nat} (he : e ≤ n) (hn : n ≤ 5) (hx : e ≤ x) (hx9 : x < 100) : Ev sc (d + 1) 53 0 (ent 53 [vR 8 0 0, vI (nI s), vI (nI x), vI (nI e), vI (nI m)]) [] X (.inl (some (.inl 1))) X 0 := by
  rw [en53]
  refine ev_seg rfl ?_
  simp only [TE, sxs, sx, ldI, ldA, stI, stA, inc, gtF, ptF, ldX, stX, ldR, ldL, stL, dp1, dp2, Tm, kS0, kS1, kS2, kS3, kS4, kS5, kS6, kS7, kS8, kS9, kS10, kS11, kS12, kS13, kS14, kS15, kS16, kS17, kS18, kS19, kS20, kS21, kS22, kS23, kS24, kS25, kS26, kS27, kS28, kS30, kS31, kS32, kS33, kS34, kS35, kS36, kS37, kS38, kS39, kS40, kS41, kS42, kS43, kS50, kS51, kS52, kS53, List.getElem?_cons_zero, List.getElem?_cons_succ, List.set_cons_zero, List.set_cons_succ, List.length_cons, List.length_nil, List.drop_succ_cons, List.drop_zero, List.cons_append, List.nil_append, Option.toList_some, Option.toList_none, cz, ci2, true_and, and_true, and_self, true_or, or_true, nI_1, Nat.reduceAdd, Nat.reduceLT]
  refine ⟨fun _ => ?_, fun h => absurd (nleI hx (by omega)) h⟩
  refine ev_seg rfl ?_
  simp only [TE, sxs, sx, ldI, ldA, stI, stA, inc, gtF, ptF, ldX, stX, ldR, ldL, stL, dp1, dp2, Tm, kS0, kS1, kS2, kS3, kS4, kS5, kS6, kS7, kS8, kS9, kS10, kS11, kS12, kS13, kS14, kS15, kS16, kS17, kS18, kS19, kS20, kS21, kS22, kS23, kS24, kS25, kS26, kS27, kS28, kS30, kS31, kS32, kS33, kS34, kS35, kS36, kS37, kS38, kS39, kS40, kS41, kS42, kS43, kS50, kS51, kS52, kS53, List.getElem?_cons_zero, List.getElem?_cons_succ, List.set_cons_zero, List.set_cons_succ, List.length_cons, List.length_nil, List.drop_succ_cons, List.drop_zero, List.cons_append, List.nil_append, Option.toList_some, Option.toList_none, cz, ci2, true_and, and_true, and_self, true_or, or_true, nI_1, Nat.reduceAdd, Nat.reduceLT]
  refine ev_seg rfl ?_
  simp only [TE, sxs, sx, ldI, ldA, stI, stA, inc, gtF, ptF, ldX, stX, ldR, ldL, stL, dp1, dp2, Tm, kS0, kS1, kS2, kS3, kS4, kS5, kS6, kS7, kS8, kS9, kS10, kS11, kS12, kS13, kS14, kS15, kS16, kS17, kS18, kS19, kS20, kS21, kS22, kS23, kS24, kS25, kS26, kS27, kS28, kS30, kS31, kS32, kS33, kS34, kS35, kS36, kS37, kS38, kS39, kS40, kS41, kS42, kS43, kS50, kS51, kS52, kS53, List.getElem?_cons_zero, List.getElem?_cons_succ, List.set_cons_zero, List.set_cons_succ, List.length_cons, List.length_nil, List.drop_succ_cons, List.drop_zero, List.cons_append, List.nil_append, Option.toList_some, Option.toList_none, cz, ci2, true_and, and_true, and_self, true_or, or_true, nI_1, Nat.reduceAdd, Nat.reduceLT]
theorem s_alikeI {s x e n m : Nat} {σ : Nat → Nat} (he : e ≤ n) (hn : n ≤ 5) (hm : m ≤ 4) (hs : s < n) (hx : x < e) (hO : OrdH X n σ) : Ev sc (d + 1) 53 0 (ent 53 [vR 8 0 0, vI (nI s), vI (nI x), vI (nI e), vI (nI m)]) [] X (.inl (some (.inl (bI (fa (mrow X (σ s)) (mrow X (σ x)) m < m))))) X 0 := by
  rw [en53]
  obtain ⟨o1, o2⟩ := hO s hs
  obtain ⟨o3, o4⟩ := hO x (by omega)
  have v1 : vp_in (nI s) 5 := vpn (by omega) (by decide)
  have v2 : vp_in (nI x) 5 := vpn (by omega) (by decide)
  have w1 : vp_in (nI (σ s)) 5 := vpn (by omega) (by decide)
  have w2 : vp_in (nI (σ x)) 5 := vpn (by omega) (by decide)
  have hle := fa_le (mrow X (σ s)) (mrow X (σ x)) m
  have e0 : fa (fun c => X.1 11 0 (nI (σ s)) (nI c)) (fun c => X.1 11 0 (nI (σ x)) (nI c)) m = fa (mrow X (σ s)) (mrow X (σ x)) m := rfl
  refine ev_seg rfl ?_
  simp only [TE, sxs, sx, ldI, ldA, stI, stA, inc, gtF, ptF, ldX, stX, ldR, ldL, stL, dp1, dp2, Tm, kS0, kS1, kS2, kS3, kS4, kS5, kS6, kS7, kS8, kS9, kS10, kS11, kS12, kS13, kS14, kS15, kS16, kS17, kS18, kS19, kS20, kS21, kS22, kS23, kS24, kS25, kS26, kS27, kS28, kS30, kS31, kS32, kS33, kS34, kS35, kS36, kS37, kS38, kS39, kS40, kS41, kS42, kS43, kS50, kS51, kS52, kS53, List.getElem?_cons_zero, List.getElem?_cons_succ, List.set_cons_zero, List.set_cons_succ, List.length_cons, List.length_nil, List.drop_succ_cons, List.drop_zero, List.cons_append, List.nil_append, Option.toList_some, Option.toList_none, cz, ci2, true_and, and_true, and_self, true_or, or_true, nI_1, Nat.reduceAdd, Nat.reduceLT]
  refine ⟨fun h => absurd h (nle hx (by omega)), fun _ => ?_⟩
  refine ev_seg rfl ?_
  simp only [TE, sxs, sx, ldI, ldA, stI, stA, inc, gtF, ptF, ldX, stX, ldR, ldL, stL, dp1, dp2, Tm, kS0, kS1, kS2, kS3, kS4, kS5, kS6, kS7, kS8, kS9, kS10, kS11, kS12, kS13, kS14, kS15, kS16, kS17, kS18, kS19, kS20, kS21, kS22, kS23, kS24, kS25, kS26, kS27, kS28, kS30, kS31, kS32, kS33, kS34, kS35, kS36, kS37, kS38, kS39, kS40, kS41, kS42, kS43, kS50, kS51, kS52, kS53, List.getElem?_cons_zero, List.getElem?_cons_succ, List.set_cons_zero, List.set_cons_succ, List.length_cons, List.length_nil, List.drop_succ_cons, List.drop_zero, List.cons_append, List.nil_append, Option.toList_some, Option.toList_none, cz, ci2, true_and, and_true, and_self, true_or, or_true, nI_1, Nat.reduceAdd, Nat.reduceLT, o1, o3]
  refine ⟨(by first | assumption | (and_intros <;> first | assumption | trivial | decide)), cv4 rfl rfl (by first | exact rfl | exact trivial) (s_firstApart9 w1 w2 hm) ?_⟩
  refine ev_seg rfl ?_
  simp only [TE, sxs, sx, ldI, ldA, stI, stA, inc, gtF, ptF, ldX, stX, ldR, ldL, stL, dp1, dp2, Tm, kS0, kS1, kS2, kS3, kS4, kS5, kS6, kS7, kS8, kS9, kS10, kS11, kS12, kS13, kS14, kS15, kS16, kS17, kS18, kS19, kS20, kS21, kS22, kS23, kS24, kS25, kS26, kS27, kS28, kS30, kS31, kS32, kS33, kS34, kS35, kS36, kS37, kS38, kS39, kS40, kS41, kS42, kS43, kS50, kS51, kS52, kS53, List.getElem?_cons_zero, List.getElem?_cons_succ, List.set_cons_zero, List.set_cons_succ, List.length_cons, List.length_nil, List.drop_succ_cons, List.drop_zero, List.cons_append, List.nil_append, Option.toList_some, Option.toList_none, cz, ci2, true_and, and_true, and_self, true_or, or_true, nI_1, Nat.reduceAdd, Nat.reduceLT, e0]
  refine ⟨fun h => ?_, fun h => ?_⟩
  · rw [bI_f (fun q => nle q (by omega) h)]
    refine ev_seg rfl ?_
    simp only [TE, sxs, sx, ldI, ldA, stI, stA, inc, gtF, ptF, ldX, stX, ldR, ldL, stL, dp1, dp2, Tm, kS0, kS1, kS2, kS3, kS4, kS5, kS6, kS7, kS8, kS9, kS10, kS11, kS12, kS13, kS14, kS15, kS16, kS17, kS18, kS19, kS20, kS21, kS22, kS23, kS24, kS25, kS26, kS27, kS28, kS30, kS31, kS32, kS33, kS34, kS35, kS36, kS37, kS38, kS39, kS40, kS41, kS42, kS43, kS50, kS51, kS52, kS53, List.getElem?_cons_zero, List.getElem?_cons_succ, List.set_cons_zero, List.set_cons_succ, List.length_cons, List.length_nil, List.drop_succ_cons, List.drop_zero, List.cons_append, List.nil_append, Option.toList_some, Option.toList_none, cz, ci2, true_and, and_true, and_self, true_or, or_true, nI_1, Nat.reduceAdd, Nat.reduceLT]
    refine ev_seg rfl ?_
    simp only [TE, sxs, sx, ldI, ldA, stI, stA, inc, gtF, ptF, ldX, stX, ldR, ldL, stL, dp1, dp2, Tm, kS0, kS1, kS2, kS3, kS4, kS5, kS6, kS7, kS8, kS9, kS10, kS11, kS12, kS13, kS14, kS15, kS16, kS17, kS18, kS19, kS20, kS21, kS22, kS23, kS24, kS25, kS26, kS27, kS28, kS30, kS31, kS32, kS33, kS34, kS35, kS36, kS37, kS38, kS39, kS40, kS41, kS42, kS43, kS50, kS51, kS52, kS53, List.getElem?_cons_zero, List.getElem?_cons_succ, List.set_cons_zero, List.set_cons_succ, List.length_cons, List.length_nil, List.drop_succ_cons, List.drop_zero, List.cons_append, List.nil_append, Option.toList_some, Option.toList_none, cz, ci2, true_and, and_true, and_self, true_or, or_true, nI_1, Nat.reduceAdd, Nat.reduceLT]
  · rw [bI_t (by
      rcases Nat.lt_or_ge (fa (mrow X (σ s)) (mrow X (σ x)) m) m with q | q
      · exact q
      · exact absurd (nleI q (by omega)) h)]
    refine ev_seg rfl ?_
    simp only [TE, sxs, sx, ldI, ldA, stI, stA, inc, gtF, ptF, ldX, stX, ldR, ldL, stL, dp1, dp2, Tm, kS0, kS1, kS2, kS3, kS4, kS5, kS6, kS7, kS8, kS9, kS10, kS11, kS12, kS13, kS14, kS15, kS16, kS17, kS18, kS19, kS20, kS21, kS22, kS23, kS24, kS25, kS26, kS27, kS28, kS30, kS31, kS32, kS33, kS34, kS35, kS36, kS37, kS38, kS39, kS40, kS41, kS42, kS43, kS50, kS51, kS52, kS53, List.getElem?_cons_zero, List.getElem?_cons_succ, List.set_cons_zero, List.set_cons_succ, List.length_cons, List.length_nil, List.drop_succ_cons, List.drop_zero, List.cons_append, List.nil_append, Option.toList_some, Option.toList_none, cz, ci2, true_and, and_true, and_self, true_or, or_true, nI_1, Nat.reduceAdd, Nat.reduceLT]
    refine ev_seg rfl ?_
    simp only [TE, sxs, sx, ldI, ldA, stI, stA, inc, gtF, ptF, ldX, stX, ldR, ldL, stL, dp1, dp2, Tm, kS0, kS1, kS2, kS3, kS4, kS5, kS6, kS7, kS8, kS9, kS10, kS11, kS12, kS13, kS14, kS15, kS16, kS17, kS18, kS19, kS20, kS21, kS22, kS23, kS24, kS25, kS26, kS27, kS28, kS30, kS31, kS32, kS33, kS34, kS35, kS36, kS37, kS38, kS39, kS40, kS41, kS42, kS43, kS50, kS51, kS52, kS53, List.getElem?_cons_zero, List.getElem?_cons_succ, List.set_cons_zero, List.set_cons_succ, List.length_cons, List.length_nil, List.drop_succ_cons, List.drop_zero, List.cons_append, List.nil_append, Option.toList_some, Option.toList_none, cz, ci2, true_and, and_true, and_self, true_or, or_true, nI_1, Nat.reduceAdd, Nat.reduceLT]
end Mkg
end
section
/-! settling tied teams -/
section Stl
variable {sc : SC} {d : Nat} {g : Int32}
theorem kap_pos {K : Nat → Nat → Int32} {m s e fr n : Nat} {C : Nat → Bool} {σ : Nat → Nat} (he : e ≤ n) (hlt : ∀ i, i < n → σ i < n) (hinj : ∀ i j, i < n → j < n → σ i = σ j → i = j) (hC : ∀ z, z < n → (C z = true ↔ ∃ i, s ≤ i ∧ i < e ∧ σ i = z)) (hs : s ≤ fr) (hf : fr < e)
    (h1 : ∀ i, s ≤ i → i < fr → bet (K (σ i)) (K (σ fr)) m) (h2 : ∀ i, fr ≤ i → i < e → ¬ bet (K (σ i)) (K (σ fr)) m) : kap K m C n (σ fr) = fr - s := by
  unfold kap
  rw [← ct_perm (p := fun z => C z && betB (K z) (K (σ fr)) m) hlt hinj]
  have e1 : ct (fun i => C (σ i) && betB (K (σ i)) (K (σ fr)) m) n = ct (fun i => decide (s ≤ i) && decide (i < fr)) n := by
    apply ct_congr
    intro i hi
    by_cases hin : s ≤ i ∧ i < e
    · have hc : C (σ i) = true := (hC _ (hlt i hi)).mpr ⟨i, hin.1, hin.2, rfl⟩
      rw [hc, Bool.true_and]
      by_cases hif : i < fr
      · rw [betB_iff.mpr (h1 i hin.1 hif)]
        simp [hin.1, hif]
      · rw [betB_no (h2 i (by omega) hin.2)]
        simp [hif]
    · have hc : C (σ i) = false := by
        cases hc : C (σ i) with
        | false => rfl
        | true =>
          obtain ⟨j, a, b, c⟩ := (hC _ (hlt i hi)).mp hc
          have := hinj j i (by omega) hi c
          omega
      rw [hc, Bool.false_and]
      have : ¬ (s ≤ i ∧ i < fr) := by omega
      simp
      omega
  rw [e1, ct_rng hs (by omega)]
def GF (X : XT) (g : Int32) (n : Nat) (S : Nat → Nat → Int32) (K : Nat → Nat → Int32) : Prop := X.1 2 0 g 5 = nI n ∧ scC X g = S ∧ K4 X g n = K
theorem GF.fr {X X' : XT} {g : Int32} {n : Nat} {S K : Nat → Nat → Int32} (h : GF X g n S K) (hf : Fr [11, 12, 14] X X') : GF X' g n S K := ⟨by rw [hf.at 2 (by decide)]; exact h.1, by rw [scC_fr hf (by decide)]; exact h.2.1, by rw [K4_fr hf (by decide) (by decide) (by decide) (by decide)]; exact h.2.2⟩
theorem mrow_fr {K : List Nat} {X X' : XT} (h : Fr K X X') (hk : 11 ∉ K) (z : Nat) : mrow X' z = mrow X z := by
  funext c
  exact h.at 11 hk _ _ _
/-- what settling a stretch gives -/
def StP (sc : SC) (d : Nat) (g : Int32) (n : Nat) (S K : Nat → Nat → Int32) (f : Nat) : Prop := ∀ (s e dp : Nat) (C : Nat → Bool) (σ : Nat → Nat) (X : XT), s ≤ e → e ≤ n → e - s ≤ f → dp + (e - s) ≤ 5 → GF X g n S K → OrdH X n σ → (∀ i j, i < n → j < n → σ i = σ j → i = j) → (∀ z, z < n → (C z = true ↔ ∃ i, s ≤ i ∧ i < e ∧ σ i = z)) →
  ∃ (Z : XT) (τ : Nat → Nat), Ev sc (d + 5 + f) 48 0 (ent 48 [vR 8 0 0, vR 2 0 g, vI (nI s), vI (nI e), vI (nI dp)]) [] X (.inl none) Z 0 ∧ Fr [11, 12, 14] X Z ∧ OrdH Z n τ ∧ PS s e σ τ ∧ (∀ i, s ≤ i → i < e → i = s + POS S n K f C (τ i)) ∧
    (∀ i j, s ≤ i → i < e → s ≤ j → j < e → i ≠ j → RU Z (τ i) (τ j) = nI (RUL S n K f C (τ i) (τ j))) ∧ (∀ i j, i < n → j < n → i ≠ j → ¬ (s ≤ i ∧ i < e ∧ s ≤ j ∧ j < e) → RU Z (τ i) (τ j) = RU X (τ i) (τ j)) ∧ (∀ z, z < n → C z = false → mrow Z z = mrow X z)
theorem PS_C {s e n : Nat} {σ τ : Nat → Nat} {C : Nat → Bool} (h : PS s e σ τ) (hC : ∀ z, z < n → (C z = true ↔ ∃ i, s ≤ i ∧ i < e ∧ σ i = z)) : ∀ z, z < n → (C z = true ↔ ∃ i, s ≤ i ∧ i < e ∧ τ i = z) := by
  intro z hz
  rw [hC z hz]
  constructor
  · rintro ⟨i, a, b, rfl⟩
    obtain ⟨j, c1, c2, c3⟩ := h.2.2.1 i a b
    exact ⟨j, c1, c2, c3⟩
  · rintro ⟨i, a, b, rfl⟩
    obtain ⟨j, c1, c2, c3⟩ := h.2.1 i a b
    exact ⟨j, c1, c2, c3.symm⟩
theorem settle_runs {n f s e dp : Nat} {S K : Nat → Nat → Int32} {C : Nat → Bool} {X0 : XT} {σ0 : Nat → Nat} (IH : StP sc d g n S K f) (hn : n ≤ 5) (he : e ≤ n) (hsz : e - s ≤ f + 1) (hdp : dp + (e - s) ≤ 5) (hse : s < e) (hG0 : GF X0 g n S K) (hinj0 : ∀ i j, i < n → j < n → σ0 i = σ0 j → i = j) (hC0 : ∀ z, z < n → (C z = true ↔ ∃ i, s ≤ i ∧ i < e ∧ σ0 i = z)) (hAL : ALb S n C = false) :
    ∀ (q fr nx : Nat) (X : XT) (τ : Nat → Nat), nx + q = e + 1 → s ≤ fr → fr < nx → fr ≤ e → (nx = e + 1 → fr = e) → Fr [11, 12, 14] X0 X → OrdH X n τ → PS s e σ0 τ →
    (∀ i, fr ≤ i → i < e → ∀ c, c < 3 → mrow X (τ i) c = k3 S n C (τ i) c) →
    (∀ i j, s ≤ i → i < j → j < e → ¬ bet (k3 S n C (τ j)) (k3 S n C (τ i)) 3) →
    (∀ i, fr ≤ i → i < nx → i < e → fa (k3 S n C (τ fr)) (k3 S n C (τ i)) 3 = 3) →
    (∀ i j, s ≤ i → i < fr → fr ≤ j → j < e → ¬ fa (k3 S n C (τ i)) (k3 S n C (τ j)) 3 = 3) →
    (∀ i, s ≤ i → i < fr → i = s + POS S n K (f + 1) C (τ i)) →
    (∀ i j, s ≤ i → i < e → s ≤ j → j < e → i ≠ j → (i < fr ∨ j < fr) → RU X (τ i) (τ j) = nI (RUL S n K (f + 1) C (τ i) (τ j))) →
    (∀ i j, fr ≤ i → i < e → fr ≤ j → j < e → i ≠ j → fa (k3 S n C (τ i)) (k3 S n C (τ j)) 3 < 3 → RU X (τ i) (τ j) = nI (1 + fa (k3 S n C (τ i)) (k3 S n C (τ j)) 3)) →
    (∀ i j, i < n → j < n → i ≠ j → ¬ (s ≤ i ∧ i < e ∧ s ≤ j ∧ j < e) → RU X (τ i) (τ j) = RU X0 (τ i) (τ j)) →
    (∀ z, z < n → C z = false → mrow X z = mrow X0 z) →
    ∃ (Z : XT) (υ : Nat → Nat), Ev sc (d + 5 + (f + 1)) 48 11 [vR 8 0 0, vR 2 0 g, vI (nI s), vI (nI e), vI (nI dp), vI (nI fr), vI (nI nx)] [] X (.inl none) Z 0 ∧ Fr [11, 12, 14] X0 Z ∧ OrdH Z n υ ∧ PS s e σ0 υ ∧ (∀ i, s ≤ i → i < e → i = s + POS S n K (f + 1) C (υ i)) ∧
      (∀ i j, s ≤ i → i < e → s ≤ j → j < e → i ≠ j → RU Z (υ i) (υ j) = nI (RUL S n K (f + 1) C (υ i) (υ j))) ∧ (∀ i j, i < n → j < n → i ≠ j → ¬ (s ≤ i ∧ i < e ∧ s ≤ j ∧ j < e) → RU Z (υ i) (υ j) = RU X0 (υ i) (υ j)) ∧ (∀ z, z < n → C z = false → mrow Z z = mrow X0 z) := by
  intro q
  induction q with
  | zero =>
    intro fr nx X τ hq hs hfn hfe hend hf hO hP hb hc hd hE hF hF2 hg hh hm
    have hfr : fr = e := hend (by omega)
    refine ⟨X, τ, ?_, hf, hO, hP, fun i a b => hF i a (by omega), fun i j a b c1 c2 c3 => hF2 i j a b c1 c2 c3 (by omega), hh, hm⟩
    refine ev_seg rfl ?_
    simp only [TE, sxs, sx, ldI, ldA, stI, stA, inc, gtF, ptF, ldX, stX, ldR, ldL, stL, dp1, dp2, Tm, kS0, kS1, kS2, kS3, kS4, kS5, kS6, kS7, kS8, kS9, kS10, kS11, kS12, kS13, kS14, kS15, kS16, kS17, kS18, kS19, kS20, kS21, kS22, kS23, kS24, kS25, kS26, kS27, kS28, kS30, kS31, kS32, kS33, kS34, kS35, kS36, kS37, kS38, kS39, kS40, kS41, kS42, kS43, kS50, kS51, kS52, kS53, List.getElem?_cons_zero, List.getElem?_cons_succ, List.set_cons_zero, List.set_cons_succ, List.length_cons, List.length_nil, List.drop_succ_cons, List.drop_zero, List.cons_append, List.nil_append, Option.toList_some, Option.toList_none, cz, ci2, true_and, and_true, and_self, true_or, or_true, nI_1, Nat.reduceAdd, Nat.reduceLT]
    refine ⟨fun _ => ?_, fun h => absurd ?_ h⟩
    · refine ev_seg rfl ?_
      simp only [TE, sxs, sx, ldI, ldA, stI, stA, inc, gtF, ptF, ldX, stX, ldR, ldL, stL, dp1, dp2, Tm, kS0, kS1, kS2, kS3, kS4, kS5, kS6, kS7, kS8, kS9, kS10, kS11, kS12, kS13, kS14, kS15, kS16, kS17, kS18, kS19, kS20, kS21, kS22, kS23, kS24, kS25, kS26, kS27, kS28, kS30, kS31, kS32, kS33, kS34, kS35, kS36, kS37, kS38, kS39, kS40, kS41, kS42, kS43, kS50, kS51, kS52, kS53, List.getElem?_cons_zero, List.getElem?_cons_succ, List.set_cons_zero, List.set_cons_succ, List.length_cons, List.length_nil, List.drop_succ_cons, List.drop_zero, List.cons_append, List.nil_append, Option.toList_some, Option.toList_none, cz, ci2, true_and, and_true, and_self, true_or, or_true, nI_1, Nat.reduceAdd, Nat.reduceLT]
    · exact nI_lt (by omega) (by omega)
  | succ q ih =>
    intro fr nx X τ hq hs hfn hfe hend hf hO hP hb hc hd hE hF hF2 hg hh hm
    have hnx : nx ≤ e := by omega
    have hlt : ∀ i, i < n → τ i < n := fun i hi => (hO i hi).2
    have hinj := hP.2.2.2 n he hinj0
    have hC := PS_C hP hC0
    have hCi : ∀ i, s ≤ i → i < e → C (τ i) = true := fun i a b => (hC _ (hlt i (by omega))).mpr ⟨i, a, b, rfl⟩
    have hG := hG0.fr hf
    have hfe2 : fr < e := by omega
    -- keys that are alike
    have al_bet : ∀ {a a' b b' : Nat}, fa (k3 S n C a) (k3 S n C a') 3 = 3 → fa (k3 S n C b) (k3 S n C b') 3 = 3 → (bet (k3 S n C a) (k3 S n C b) 3 ↔ bet (k3 S n C a') (k3 S n C b') 3) := fun h1 h2 => bet_congr (fa_all.mp h1) (fa_all.mp h2)
    have al_fa : ∀ {a a' b b' : Nat}, fa (k3 S n C a) (k3 S n C a') 3 = 3 → fa (k3 S n C b) (k3 S n C b') 3 = 3 → fa (k3 S n C a) (k3 S n C b) 3 = fa (k3 S n C a') (k3 S n C b') 3 := fun h1 h2 => fa_congr (fa_all.mp h1) (fa_all.mp h2)
    have al_rf : ∀ a, fa (k3 S n C a) (k3 S n C a) 3 = 3 := fun a => fa_all.mpr (fun _ _ => rfl)
    have al_sy : ∀ {a b : Nat}, fa (k3 S n C a) (k3 S n C b) 3 = 3 → fa (k3 S n C b) (k3 S n C a) 3 = 3 := fun h => by rw [fa_comm]; exact h
    -- the run ends here, or goes on
    have hcase : (nx = e ∨ (nx < e ∧ fa (k3 S n C (τ fr)) (k3 S n C (τ nx)) 3 < 3)) ∨ (nx < e ∧ fa (k3 S n C (τ fr)) (k3 S n C (τ nx)) 3 = 3) := by
      rcases Nat.lt_or_ge nx e with w | w
      · have := fa_le (k3 S n C (τ fr)) (k3 S n C (τ nx)) 3
        rcases Nat.lt_or_ge (fa (k3 S n C (τ fr)) (k3 S n C (τ nx)) 3) 3 with w2 | w2
        · exact Or.inl (Or.inr ⟨w, w2⟩)
        · exact Or.inr ⟨w, by omega⟩
      · exact Or.inl (Or.inl (by omega))
    have hmk : ∀ i, fr ≤ i → i < e → fa (mrow X (τ fr)) (mrow X (τ i)) 3 = fa (k3 S n C (τ fr)) (k3 S n C (τ i)) 3 := fun i a b => fa_congr (hb fr (Nat.le_refl _) hfe2) (hb i a b)
    rcases hcase with hend2 | ⟨hnx2, hal⟩
    · -- settle the run
      have hrun : ∀ z, z < n → (alk S n C (τ fr) z = true ↔ ∃ i, fr ≤ i ∧ i < nx ∧ τ i = z) := by
        intro z hz
        unfold alk
        rw [Bool.and_eq_true, decide_eq_true_eq]
        constructor
        · rintro ⟨h1, h2⟩
          obtain ⟨i, a, b, rfl⟩ := (hC z hz).mp h1
          have hi1 : fr ≤ i := by
            rcases Nat.lt_or_ge i fr with w | w
            · exact absurd (al_sy h2) (hE i fr a w (Nat.le_refl _) hfe2)
            · exact w
          refine ⟨i, hi1, ?_, rfl⟩
          rcases Nat.lt_or_ge i nx with w | w
          · exact w
          · exfalso
            rcases hend2 with h3 | ⟨h3, h4⟩
            · omega
            · have hb1 : bet (k3 S n C (τ fr)) (k3 S n C (τ nx)) 3 := (bet_tot (by omega)).resolve_right (hc fr nx hs hfn h3)
              by_cases hin : i = nx
              · subst hin; omega
              · have := hc nx i (by omega) (by omega) b
                rw [al_bet (al_sy h2) (al_rf _)] at this
                exact this hb1
        · rintro ⟨i, a, b, rfl⟩
          exact ⟨hCi i (by omega) (by omega), hd i a b (by omega)⟩
      have hsmall : nx - fr < e - s := by
        rcases Nat.lt_or_ge (nx - fr) (e - s) with w | w
        · exact w
        · exfalso
          have h1 : fr = s := by omega
          have h2 : nx = e := by omega
          have : ALb S n C = true := ALb_iff.mpr (fun x z hx hz h3 h4 => by
            obtain ⟨i, a, b, rfl⟩ := (hC x hx).mp h3
            obtain ⟨j, a', b', rfl⟩ := (hC z hz).mp h4
            rw [al_fa (al_sy (hd i (by omega) (by omega) b)) (al_sy (hd j (by omega) (by omega) b'))]
            exact al_rf _)
          rw [hAL] at this
          cases this
      obtain ⟨Z1, υ, a1, a2, a3, a4, a5, a6, a7, a8⟩ := IH fr nx (dp + 1) (alk S n C (τ fr)) τ X (by omega) (by omega) (by omega) (by omega) hG hO hinj hrun
      -- places keep their keys
      have hkey : ∀ i, s ≤ i → i < e → fa (k3 S n C (υ i)) (k3 S n C (τ i)) 3 = 3 := by
        intro i a b
        by_cases hin : fr ≤ i ∧ i < nx
        · obtain ⟨j, b1, b2, b3⟩ := a4.2.1 i hin.1 hin.2
          rw [b3, al_fa (al_sy (hd j b1 b2 (by omega))) (al_sy (hd i hin.1 hin.2 b))]
          exact al_rf _
        · rw [a4.1 i (by omega)]
          exact al_rf _
      have hsame : ∀ i, (i < fr ∨ nx ≤ i) → υ i = τ i := a4.1
      have hrunk : ∀ i, fr ≤ i → i < nx → fa (k3 S n C (τ fr)) (k3 S n C (υ i)) 3 = 3 := by
        intro i a b
        obtain ⟨j, b1, b2, b3⟩ := a4.2.1 i a b
        rw [b3]
        exact hd j b1 b2 (by omega)
      have hdiff : ∀ i j, fr ≤ i → i < nx → nx ≤ j → j < e → ¬ fa (k3 S n C (τ i)) (k3 S n C (τ j)) 3 = 3 := by
        intro i j a b c1 c2 h
        have h9 : alk S n C (τ fr) (τ j) = true := by
          unfold alk
          rw [Bool.and_eq_true, decide_eq_true_eq]
          refine ⟨hCi j (by omega) c2, ?_⟩
          rw [al_fa (hd i a b (by omega)) (al_rf _)]
          exact h
        obtain ⟨i', b1, b2, b3⟩ := (hrun _ (hlt j (by omega))).mp h9
        have := hinj i' j (by omega) (by omega) b3
        omega
      have hkp : fr = s + kap (k3 S n C) 3 C n (τ fr) := by
        have h9 := kap_pos (K := k3 S n C) (m := 3) (C := C) (fr := fr) he hlt hinj hC hs hfe2 (fun i a b => (bet_tot (hE i fr a b (Nat.le_refl _) hfe2)).resolve_right (hc i fr a b hfe2)) (fun i a b => by
          by_cases hi : i = fr
          · rw [hi]; exact bet_irr _ _
          · exact hc fr i hs (by omega) b)
        omega
      have halk : ∀ i, fr ≤ i → i < nx → ∀ z, z < n → alk S n C (υ i) z = alk S n C (τ fr) z := by
        intro i a b z _
        unfold alk
        rw [al_fa (al_sy (hrunk i a b)) (al_rf z)]
      have hυ : ∀ i, s ≤ i → i < e → ∃ i', s ≤ i' ∧ i' < e ∧ υ i = τ i' ∧ ((fr ≤ i ∧ i < nx ∧ fr ≤ i' ∧ i' < nx) ∨ i' = i) := by
        intro i a b
        by_cases hin : fr ≤ i ∧ i < nx
        · obtain ⟨j, b1, b2, b3⟩ := a4.2.1 i hin.1 hin.2
          exact ⟨j, by omega, by omega, b3, Or.inl ⟨hin.1, hin.2, b1, b2⟩⟩
        · exact ⟨i, a, b, hsame i (by omega), Or.inr rfl⟩
      have hPS2 : PS s e σ0 υ := hP.tr (a4.mo hs (by omega))
      have hinj2 := hPS2.2.2.2 n he hinj0
      obtain ⟨Z, ω, b1, b2, b3, b4, b5, b6, b7, b8⟩ := ih nx (nx + 1) Z1 υ (by omega) (by omega) (by omega) hnx (fun _ => by omega) (hf.tr a2) a3 hPS2
        (fun i p1 p2 c p3 => by
          rw [hsame i (by omega)]
          have hno : alk S n C (τ fr) (τ i) = false := by
            cases h9 : alk S n C (τ fr) (τ i) with
            | false => rfl
            | true =>
              obtain ⟨i', q1, q2, q3⟩ := (hrun _ (hlt i (by omega))).mp h9
              have := hinj i' i (by omega) (by omega) q3
              omega
          rw [a8 _ (hlt i (by omega)) hno]
          exact hb i (by omega) p2 c p3)
        (fun i j p1 p2 p3 => by
          rw [al_bet (hkey j (by omega) p3) (hkey i p1 (by omega))]
          exact hc i j p1 p2 p3)
        (fun i p1 p2 p3 => by
          rw [show i = nx by omega]
          exact al_rf _)
        (fun i j p1 p2 p3 p4 => by
          rw [al_fa (hkey i p1 (by omega)) (hkey j (by omega) p4)]
          by_cases hif : i < fr
          · exact hE i j p1 hif (by omega) p4
          · exact hdiff i j (by omega) p2 p3 p4)
        (fun i p1 p2 => by
          by_cases hif : i < fr
          · rw [hsame i (by omega)]
            exact hF i p1 hif
          · have h9 := a5 i (by omega) p2
            have e1 : POS S n K (f + 1) C (υ i) = kap (k3 S n C) 3 C n (υ i) + POS S n K f (alk S n C (υ i)) (υ i) := by
              show (if ALb S n C = true then _ else _) = _
              rw [if_neg (by rw [hAL]; decide)]
            rw [e1, POS_congr f (halk i (by omega) p2) ((a3 i (by omega)).2), ← kap_eq (C := C) (n := n) (hrunk i (by omega) p2)]
            omega)
        (fun i j p1 p2 p3 p4 p5 p6 => by
          have hRUL : ∀ {a b : Nat}, fa (k3 S n C a) (k3 S n C b) 3 < 3 → RUL S n K (f + 1) C a b = 1 + fa (k3 S n C a) (k3 S n C b) 3 := fun h => if_pos h
          by_cases hboth : (fr ≤ i ∧ i < nx) ∧ (fr ≤ j ∧ j < nx)
          · rw [a6 i j hboth.1.1 hboth.1.2 hboth.2.1 hboth.2.2 p5]
            have e1 : RUL S n K (f + 1) C (υ i) (υ j) = RUL S n K f (alk S n C (υ i)) (υ i) (υ j) := by
              have h3 : fa (k3 S n C (υ i)) (k3 S n C (υ j)) 3 = 3 := by
                rw [al_fa (al_sy (hrunk i hboth.1.1 hboth.1.2)) (al_sy (hrunk j hboth.2.1 hboth.2.2))]
                exact al_rf _
              show (if _ then _ else if _ then _ else _) = _
              rw [if_neg (by omega), if_neg (by rw [hAL]; decide)]
            rw [e1, RUL_congr f (halk i hboth.1.1 hboth.1.2)]
          · rw [a7 i j (by omega) (by omega) p5 (by omega)]
            obtain ⟨i', q1, q2, q3, q4⟩ := hυ i p1 p2
            obtain ⟨j', r1, r2, r3, r4⟩ := hυ j p3 p4
            rw [q3, r3]
            have hne : i' ≠ j' := by omega
            by_cases hold : i' < fr ∨ j' < fr
            · exact hF2 i' j' q1 q2 r1 r2 hne hold
            · have h3 : fa (k3 S n C (τ i')) (k3 S n C (τ j')) 3 < 3 := by
                have := fa_le (k3 S n C (τ i')) (k3 S n C (τ j')) 3
                have h4 : ¬ fa (k3 S n C (τ i')) (k3 S n C (τ j')) 3 = 3 := by
                  by_cases hi2 : i' < nx
                  · exact hdiff i' j' (by omega) hi2 (by omega) r2
                  · rw [fa_comm]
                    exact hdiff j' i' (by omega) (by omega) (by omega) q2
                omega
              rw [hg i' j' (by omega) q2 (by omega) r2 hne h3, hRUL h3])
        (fun i j p1 p2 p3 p4 p5 p6 => by
          rw [a7 i j (by omega) (by omega) p5 (by omega)]
          rw [hsame i (by omega), hsame j (by omega)] at p6 ⊢
          exact hg i j (by omega) p2 (by omega) p4 p5 p6)
        (fun i j p1 p2 p3 p4 => by
          rw [a7 i j p1 p2 p3 (by omega)]
          by_cases hi : s ≤ i ∧ i < e
          · have hj : ¬ (s ≤ j ∧ j < e) := fun w => p4 ⟨hi.1, hi.2, w.1, w.2⟩
            obtain ⟨i', q1, q2, q3, q4⟩ := hυ i hi.1 hi.2
            rw [q3, hsame j (by omega)]
            exact hh i' j (by omega) p2 (by omega) (by omega)
          · by_cases hj : s ≤ j ∧ j < e
            · obtain ⟨j', q1, q2, q3, q4⟩ := hυ j hj.1 hj.2
              rw [q3, hsame i (by omega)]
              exact hh i j' p1 (by omega) (by omega) (by omega)
            · rw [hsame i (by omega), hsame j (by omega)]
              exact hh i j p1 p2 p3 p4)
        (fun z p1 p2 => by
          rw [a8 z p1 (by unfold alk; rw [p2]; rfl)]
          exact hm z p1 p2)
      refine ⟨Z, ω, ?_, b2, b3, b4, b5, b6, b7, b8⟩
      have hin : Ev sc (d + 5 + (f + 1)) 48 13 [vR 8 0 0, vR 2 0 g, vI (nI s), vI (nI e), vI (nI dp), vI (nI fr), vI (nI nx)] [vI 1] X (.inl none) Z 0 := by
        refine ev_seg rfl ?_
        simp only [TE, sxs, sx, ldI, ldA, stI, stA, inc, gtF, ptF, ldX, stX, ldR, ldL, stL, dp1, dp2, Tm, kS0, kS1, kS2, kS3, kS4, kS5, kS6, kS7, kS8, kS9, kS10, kS11, kS12, kS13, kS14, kS15, kS16, kS17, kS18, kS19, kS20, kS21, kS22, kS23, kS24, kS25, kS26, kS27, kS28, kS30, kS31, kS32, kS33, kS34, kS35, kS36, kS37, kS38, kS39, kS40, kS41, kS42, kS43, kS50, kS51, kS52, kS53, List.getElem?_cons_zero, List.getElem?_cons_succ, List.set_cons_zero, List.set_cons_succ, List.length_cons, List.length_nil, List.drop_succ_cons, List.drop_zero, List.cons_append, List.nil_append, Option.toList_some, Option.toList_none, cz, ci2, true_and, and_true, and_self, true_or, or_true, nI_1, Nat.reduceAdd, Nat.reduceLT]
        refine ⟨fun h => absurd h (by decide), fun _ => ?_⟩
        refine ev_seg rfl ?_
        simp only [TE, sxs, sx, ldI, ldA, stI, stA, inc, gtF, ptF, ldX, stX, ldR, ldL, stL, dp1, dp2, Tm, kS0, kS1, kS2, kS3, kS4, kS5, kS6, kS7, kS8, kS9, kS10, kS11, kS12, kS13, kS14, kS15, kS16, kS17, kS18, kS19, kS20, kS21, kS22, kS23, kS24, kS25, kS26, kS27, kS28, kS30, kS31, kS32, kS33, kS34, kS35, kS36, kS37, kS38, kS39, kS40, kS41, kS42, kS43, kS50, kS51, kS52, kS53, List.getElem?_cons_zero, List.getElem?_cons_succ, List.set_cons_zero, List.set_cons_succ, List.length_cons, List.length_nil, List.drop_succ_cons, List.drop_zero, List.cons_append, List.nil_append, Option.toList_some, Option.toList_none, cz, ci2, true_and, and_true, and_self, true_or, or_true, nI_1, Nat.reduceAdd, Nat.reduceLT]
        refine cu5 rfl rfl (by first | exact rfl | exact trivial) (a1) ?_
        refine ev_seg rfl ?_
        simp only [TE, sxs, sx, ldI, ldA, stI, stA, inc, gtF, ptF, ldX, stX, ldR, ldL, stL, dp1, dp2, Tm, kS0, kS1, kS2, kS3, kS4, kS5, kS6, kS7, kS8, kS9, kS10, kS11, kS12, kS13, kS14, kS15, kS16, kS17, kS18, kS19, kS20, kS21, kS22, kS23, kS24, kS25, kS26, kS27, kS28, kS30, kS31, kS32, kS33, kS34, kS35, kS36, kS37, kS38, kS39, kS40, kS41, kS42, kS43, kS50, kS51, kS52, kS53, List.getElem?_cons_zero, List.getElem?_cons_succ, List.set_cons_zero, List.set_cons_succ, List.length_cons, List.length_nil, List.drop_succ_cons, List.drop_zero, List.cons_append, List.nil_append, Option.toList_some, Option.toList_none, cz, ci2, true_and, and_true, and_self, true_or, or_true, nI_1, Nat.reduceAdd, Nat.reduceLT]
        refine ev_seg rfl ?_
        simp only [TE, sxs, sx, ldI, ldA, stI, stA, inc, gtF, ptF, ldX, stX, ldR, ldL, stL, dp1, dp2, Tm, kS0, kS1, kS2, kS3, kS4, kS5, kS6, kS7, kS8, kS9, kS10, kS11, kS12, kS13, kS14, kS15, kS16, kS17, kS18, kS19, kS20, kS21, kS22, kS23, kS24, kS25, kS26, kS27, kS28, kS30, kS31, kS32, kS33, kS34, kS35, kS36, kS37, kS38, kS39, kS40, kS41, kS42, kS43, kS50, kS51, kS52, kS53, List.getElem?_cons_zero, List.getElem?_cons_succ, List.set_cons_zero, List.set_cons_succ, List.length_cons, List.length_nil, List.drop_succ_cons, List.drop_zero, List.cons_append, List.nil_append, Option.toList_some, Option.toList_none, cz, ci2, true_and, and_true, and_self, true_or, or_true, nI_1, Nat.reduceAdd, Nat.reduceLT]
        exact b1
      refine ev_seg rfl ?_
      simp only [TE, sxs, sx, ldI, ldA, stI, stA, inc, gtF, ptF, ldX, stX, ldR, ldL, stL, dp1, dp2, Tm, kS0, kS1, kS2, kS3, kS4, kS5, kS6, kS7, kS8, kS9, kS10, kS11, kS12, kS13, kS14, kS15, kS16, kS17, kS18, kS19, kS20, kS21, kS22, kS23, kS24, kS25, kS26, kS27, kS28, kS30, kS31, kS32, kS33, kS34, kS35, kS36, kS37, kS38, kS39, kS40, kS41, kS42, kS43, kS50, kS51, kS52, kS53, List.getElem?_cons_zero, List.getElem?_cons_succ, List.set_cons_zero, List.set_cons_succ, List.length_cons, List.length_nil, List.drop_succ_cons, List.drop_zero, List.cons_append, List.nil_append, Option.toList_some, Option.toList_none, cz, ci2, true_and, and_true, and_self, true_or, or_true, nI_1, Nat.reduceAdd, Nat.reduceLT]
      refine ⟨fun h => absurd h (fun w => i_nlt (nleI hnx (by omega)) w), fun _ => ?_⟩
      refine ev_seg rfl ?_
      simp only [TE, sxs, sx, ldI, ldA, stI, stA, inc, gtF, ptF, ldX, stX, ldR, ldL, stL, dp1, dp2, Tm, kS0, kS1, kS2, kS3, kS4, kS5, kS6, kS7, kS8, kS9, kS10, kS11, kS12, kS13, kS14, kS15, kS16, kS17, kS18, kS19, kS20, kS21, kS22, kS23, kS24, kS25, kS26, kS27, kS28, kS30, kS31, kS32, kS33, kS34, kS35, kS36, kS37, kS38, kS39, kS40, kS41, kS42, kS43, kS50, kS51, kS52, kS53, List.getElem?_cons_zero, List.getElem?_cons_succ, List.set_cons_zero, List.set_cons_succ, List.length_cons, List.length_nil, List.drop_succ_cons, List.drop_zero, List.cons_append, List.nil_append, Option.toList_some, Option.toList_none, cz, ci2, true_and, and_true, and_self, true_or, or_true, nI_1, Nat.reduceAdd, Nat.reduceLT]
      rcases hend2 with h3 | ⟨h3, h4⟩
      · refine cv5 rfl rfl (by first | exact rfl | exact trivial) (Ev_d (d' := d + 5 + f) (s_alikeE (d := 0) he hn (by omega) (by omega)) (by omega)) ?_
        exact hin
      · refine cv5 rfl rfl (by first | exact rfl | exact trivial) (Ev_d (d' := d + 5 + f) (s_alikeI (d := 0) he hn (by decide) (by omega) h3 hO) (by omega)) ?_
        have h9 : fa (mrow X (τ fr)) (mrow X (τ nx)) 3 < 3 := by rw [hmk nx (by omega) h3]; exact h4
        rw [bI_t h9]
        exact hin
    · -- it goes on
      obtain ⟨Z, ω, b1, b2, b3, b4, b5, b6, b7, b8⟩ := ih fr (nx + 1) X τ (by omega) hs (by omega) hfe (fun w => by omega) hf hO hP hb hc (fun i p1 p2 p3 => by
        by_cases hi : i = nx
        · rw [hi]; exact hal
        · exact hd i p1 (by omega) p3) hE hF hF2 hg hh hm
      refine ⟨Z, ω, ?_, b2, b3, b4, b5, b6, b7, b8⟩
      refine ev_seg rfl ?_
      simp only [TE, sxs, sx, ldI, ldA, stI, stA, inc, gtF, ptF, ldX, stX, ldR, ldL, stL, dp1, dp2, Tm, kS0, kS1, kS2, kS3, kS4, kS5, kS6, kS7, kS8, kS9, kS10, kS11, kS12, kS13, kS14, kS15, kS16, kS17, kS18, kS19, kS20, kS21, kS22, kS23, kS24, kS25, kS26, kS27, kS28, kS30, kS31, kS32, kS33, kS34, kS35, kS36, kS37, kS38, kS39, kS40, kS41, kS42, kS43, kS50, kS51, kS52, kS53, List.getElem?_cons_zero, List.getElem?_cons_succ, List.set_cons_zero, List.set_cons_succ, List.length_cons, List.length_nil, List.drop_succ_cons, List.drop_zero, List.cons_append, List.nil_append, Option.toList_some, Option.toList_none, cz, ci2, true_and, and_true, and_self, true_or, or_true, nI_1, Nat.reduceAdd, Nat.reduceLT]
      refine ⟨fun h => absurd h (fun w => i_nlt (nleI hnx (by omega)) w), fun _ => ?_⟩
      refine ev_seg rfl ?_
      simp only [TE, sxs, sx, ldI, ldA, stI, stA, inc, gtF, ptF, ldX, stX, ldR, ldL, stL, dp1, dp2, Tm, kS0, kS1, kS2, kS3, kS4, kS5, kS6, kS7, kS8, kS9, kS10, kS11, kS12, kS13, kS14, kS15, kS16, kS17, kS18, kS19, kS20, kS21, kS22, kS23, kS24, kS25, kS26, kS27, kS28, kS30, kS31, kS32, kS33, kS34, kS35, kS36, kS37, kS38, kS39, kS40, kS41, kS42, kS43, kS50, kS51, kS52, kS53, List.getElem?_cons_zero, List.getElem?_cons_succ, List.set_cons_zero, List.set_cons_succ, List.length_cons, List.length_nil, List.drop_succ_cons, List.drop_zero, List.cons_append, List.nil_append, Option.toList_some, Option.toList_none, cz, ci2, true_and, and_true, and_self, true_or, or_true, nI_1, Nat.reduceAdd, Nat.reduceLT]
      refine cv5 rfl rfl (by first | exact rfl | exact trivial) (Ev_d (d' := d + 5 + f) (s_alikeI (d := 0) he hn (by decide) (by omega) hnx2 hO) (by omega)) ?_
      have h9 : ¬ fa (mrow X (τ fr)) (mrow X (τ nx)) 3 < 3 := by rw [hmk nx (by omega) hnx2, hal]; decide
      rw [bI_f h9]
      refine ev_seg rfl ?_
      simp only [TE, sxs, sx, ldI, ldA, stI, stA, inc, gtF, ptF, ldX, stX, ldR, ldL, stL, dp1, dp2, Tm, kS0, kS1, kS2, kS3, kS4, kS5, kS6, kS7, kS8, kS9, kS10, kS11, kS12, kS13, kS14, kS15, kS16, kS17, kS18, kS19, kS20, kS21, kS22, kS23, kS24, kS25, kS26, kS27, kS28, kS30, kS31, kS32, kS33, kS34, kS35, kS36, kS37, kS38, kS39, kS40, kS41, kS42, kS43, kS50, kS51, kS52, kS53, List.getElem?_cons_zero, List.getElem?_cons_succ, List.set_cons_zero, List.set_cons_succ, List.length_cons, List.length_nil, List.drop_succ_cons, List.drop_zero, List.cons_append, List.nil_append, Option.toList_some, Option.toList_none, cz, ci2, true_and, and_true, and_self, true_or, or_true, nI_1, Nat.reduceAdd, Nat.reduceLT]
      refine ⟨fun _ => ?_, fun h => absurd trivial h⟩
      refine ev_seg rfl ?_
      simp only [TE, sxs, sx, ldI, ldA, stI, stA, inc, gtF, ptF, ldX, stX, ldR, ldL, stL, dp1, dp2, Tm, kS0, kS1, kS2, kS3, kS4, kS5, kS6, kS7, kS8, kS9, kS10, kS11, kS12, kS13, kS14, kS15, kS16, kS17, kS18, kS19, kS20, kS21, kS22, kS23, kS24, kS25, kS26, kS27, kS28, kS30, kS31, kS32, kS33, kS34, kS35, kS36, kS37, kS38, kS39, kS40, kS41, kS42, kS43, kS50, kS51, kS52, kS53, List.getElem?_cons_zero, List.getElem?_cons_succ, List.set_cons_zero, List.set_cons_succ, List.length_cons, List.length_nil, List.drop_succ_cons, List.drop_zero, List.cons_append, List.nil_append, Option.toList_some, Option.toList_none, cz, ci2, true_and, and_true, and_self, true_or, or_true, nI_1, Nat.reduceAdd, Nat.reduceLT]
      exact b1
theorem s_settle {n : Nat} {S K : Nat → Nat → Int32} (hn : n ≤ 5) (hK : ∀ a b, a < n → b < n → a ≠ b → ¬ fa (K a) (K b) 4 = 4) : ∀ f, StP sc d g n S K f := by
  intro f
  induction f with
  | zero =>
    intro s e dp C σ X hse he hsz hdp hG hO hinj hC
    refine ⟨X, σ, ?_, Fr.rf _ _, hO, PS.rf _ _ _, fun i a b => absurd b (by omega), fun i j a b => absurd b (by omega), fun _ _ _ _ _ _ => rfl, fun _ _ _ => rfl⟩
    rw [en48]
    refine ev_seg rfl ?_
    simp only [TE, sxs, sx, ldI, ldA, stI, stA, inc, gtF, ptF, ldX, stX, ldR, ldL, stL, dp1, dp2, Tm, kS0, kS1, kS2, kS3, kS4, kS5, kS6, kS7, kS8, kS9, kS10, kS11, kS12, kS13, kS14, kS15, kS16, kS17, kS18, kS19, kS20, kS21, kS22, kS23, kS24, kS25, kS26, kS27, kS28, kS30, kS31, kS32, kS33, kS34, kS35, kS36, kS37, kS38, kS39, kS40, kS41, kS42, kS43, kS50, kS51, kS52, kS53, List.getElem?_cons_zero, List.getElem?_cons_succ, List.set_cons_zero, List.set_cons_succ, List.length_cons, List.length_nil, List.drop_succ_cons, List.drop_zero, List.cons_append, List.nil_append, Option.toList_some, Option.toList_none, cz, ci2, true_and, and_true, and_self, true_or, or_true, nI_1, Nat.reduceAdd, Nat.reduceLT, pk_sub hse]
    refine ⟨fun _ => ?_, fun h => absurd (nI_lt (a := e - s) (b := 2) (by omega) (by decide)) h⟩
    refine ev_seg rfl ?_
    simp only [TE, sxs, sx, ldI, ldA, stI, stA, inc, gtF, ptF, ldX, stX, ldR, ldL, stL, dp1, dp2, Tm, kS0, kS1, kS2, kS3, kS4, kS5, kS6, kS7, kS8, kS9, kS10, kS11, kS12, kS13, kS14, kS15, kS16, kS17, kS18, kS19, kS20, kS21, kS22, kS23, kS24, kS25, kS26, kS27, kS28, kS30, kS31, kS32, kS33, kS34, kS35, kS36, kS37, kS38, kS39, kS40, kS41, kS42, kS43, kS50, kS51, kS52, kS53, List.getElem?_cons_zero, List.getElem?_cons_succ, List.set_cons_zero, List.set_cons_succ, List.length_cons, List.length_nil, List.drop_succ_cons, List.drop_zero, List.cons_append, List.nil_append, Option.toList_some, Option.toList_none, cz, ci2, true_and, and_true, and_self, true_or, or_true, nI_1, Nat.reduceAdd, Nat.reduceLT]
  | succ f IH =>
    intro s e dp C σ X hse he hsz hdp hG hO hinj hC
    by_cases h2 : e - s < 2
    · refine ⟨X, σ, ?_, Fr.rf _ _, hO, PS.rf _ _ _, fun i a b => ?_, fun i j a b c1 c2 c3 => absurd c3 (by omega), fun _ _ _ _ _ _ => rfl, fun _ _ _ => rfl⟩
      · rw [en48]
        refine ev_seg rfl ?_
        simp only [TE, sxs, sx, ldI, ldA, stI, stA, inc, gtF, ptF, ldX, stX, ldR, ldL, stL, dp1, dp2, Tm, kS0, kS1, kS2, kS3, kS4, kS5, kS6, kS7, kS8, kS9, kS10, kS11, kS12, kS13, kS14, kS15, kS16, kS17, kS18, kS19, kS20, kS21, kS22, kS23, kS24, kS25, kS26, kS27, kS28, kS30, kS31, kS32, kS33, kS34, kS35, kS36, kS37, kS38, kS39, kS40, kS41, kS42, kS43, kS50, kS51, kS52, kS53, List.getElem?_cons_zero, List.getElem?_cons_succ, List.set_cons_zero, List.set_cons_succ, List.length_cons, List.length_nil, List.drop_succ_cons, List.drop_zero, List.cons_append, List.nil_append, Option.toList_some, Option.toList_none, cz, ci2, true_and, and_true, and_self, true_or, or_true, nI_1, Nat.reduceAdd, Nat.reduceLT, pk_sub hse]
        refine ⟨fun _ => ?_, fun h => absurd (nI_lt (a := e - s) (b := 2) (by omega) (by decide)) h⟩
        refine ev_seg rfl ?_
        simp only [TE, sxs, sx, ldI, ldA, stI, stA, inc, gtF, ptF, ldX, stX, ldR, ldL, stL, dp1, dp2, Tm, kS0, kS1, kS2, kS3, kS4, kS5, kS6, kS7, kS8, kS9, kS10, kS11, kS12, kS13, kS14, kS15, kS16, kS17, kS18, kS19, kS20, kS21, kS22, kS23, kS24, kS25, kS26, kS27, kS28, kS30, kS31, kS32, kS33, kS34, kS35, kS36, kS37, kS38, kS39, kS40, kS41, kS42, kS43, kS50, kS51, kS52, kS53, List.getElem?_cons_zero, List.getElem?_cons_succ, List.set_cons_zero, List.set_cons_succ, List.length_cons, List.length_nil, List.drop_succ_cons, List.drop_zero, List.cons_append, List.nil_append, Option.toList_some, Option.toList_none, cz, ci2, true_and, and_true, and_self, true_or, or_true, nI_1, Nat.reduceAdd, Nat.reduceLT]
      · rw [POS_one (fun z hz hc => by
          obtain ⟨j, p1, p2, rfl⟩ := (hC z hz).mp hc
          rw [show j = i by omega])]
        omega
    · -- the marks among the tied
      have hlt : ∀ i, i < n → σ i < n := fun i hi => (hO i hi).2
      obtain ⟨X1, a1, a2, a3, a4⟩ := s_markTied (sc := sc) (d := d + 5 + f - 2) hG.1 hn hse he hinj hO
      generalize hM : (fun j => (mkM σ s (e - s)).testBit j) = CM at a3
      have hCM : ∀ z, z < n → CM z = C z := by
        intro z hz
        have h1 : CM z = true ↔ C z = true := by
          rw [← hM, hC z hz]
          show (mkM σ s (e - s)).testBit z = true ↔ _
          rw [mkM_bit]
          constructor
          · rintro ⟨i, p1, p2, p3⟩; exact ⟨i, p1, by omega, p3⟩
          · rintro ⟨i, p1, p2, p3⟩; exact ⟨i, p1, by omega, p3⟩
        cases h2 : C z with
        | true => exact h1.mpr h2
        | false =>
          cases h3 : CM z with
          | false => rfl
          | true => rw [h1.mp h3] at h2; cases h2
      have hk3 : ∀ a c, k3 S n CM a c = k3 S n C a c := fun a c => k3_congr hCM a c
      have hO1 : OrdH X1 n σ := fun i hi => by
        obtain ⟨w1, w2⟩ := hO i hi
        exact ⟨by rw [a2.at 12 (by decide)]; exact w1, w2⟩
      obtain ⟨X2, τ, b1, b2, b3, b4, b5, b6⟩ := s_arrange (sc := sc) (d := d + 5 + f - 2) (X := X1) (m := 3) (fr := 1) hn (by omega : s < e) he (by decide) hinj hO1
      have hinj2 := b4.2.2.2 n he hinj
      have hC2 := PS_C b4 hC
      have hlt2 : ∀ i, i < n → τ i < n := fun i hi => (b3 i hi).2
      have hf2 : Fr [11, 12, 14] X X2 := (a2.mo (by decide)).tr (b2.mo (by decide))
      have hG2 := hG.fr hf2
      have hmk1 : ∀ i, s ≤ i → i < e → ∀ c, c < 3 → mrow X1 (τ i) c = k3 S n C (τ i) c := by
        intro i p1 p2 c hc
        obtain ⟨j, q1, q2, q3⟩ := b4.2.1 i p1 p2
        rw [q3, a3 j q1 q2 c hc, hG.2.1, hk3]
      have hmk2 : ∀ i, s ≤ i → i < e → ∀ c, c < 3 → mrow X2 (τ i) c = k3 S n C (τ i) c := by
        intro i p1 p2 c hc
        rw [mrow_fr b2 (by decide)]
        exact hmk1 i p1 p2 c hc
      have hfa : ∀ i j, s ≤ i → i < e → s ≤ j → j < e → fa (mrow X1 (τ i)) (mrow X1 (τ j)) 3 = fa (k3 S n C (τ i)) (k3 S n C (τ j)) 3 := fun i j p1 p2 p3 p4 => fa_congr (hmk1 i p1 p2) (hmk1 j p3 p4)
      have hsrt : ∀ i j, s ≤ i → i < j → j < e → ¬ bet (k3 S n C (τ j)) (k3 S n C (τ i)) 3 := by
        intro i j p1 p2 p3 w
        exact b5 i j p1 p2 p3 ((bet_congr (hmk1 j (by omega) p3) (hmk1 i p1 (by omega))).mpr w)
      have hout : ∀ z, z < n → C z = false → mrow X2 z = mrow X z := by
        intro z hz hc
        rw [mrow_fr b2 (by decide)]
        refine a4 z (by omega) (fun i p1 p2 p3 => ?_)
        have : C z = true := (hC z hz).mpr ⟨i, p1, p2, p3⟩
        rw [hc] at this
        cases this
      have hru1 : ∀ i j, i < n → j < n → i ≠ j → ¬ (s ≤ i ∧ i < e ∧ s ≤ j ∧ j < e) → RU X2 (τ i) (τ j) = RU X (τ i) (τ j) := by
        intro i j p1 p2 p3 p4
        rw [(b6 i j p1 p2 p3).2 (fun w => p4 ⟨w.1, w.2.1, w.2.2.1, w.2.2.2.1⟩)]
        exact a2.at 14 (by decide) _ _ _
      obtain ⟨o1, o2⟩ := b3 s (by omega)
      obtain ⟨o3, o4⟩ := b3 (e - 1) (by omega)
      have v1 : vp_in (nI s) 5 := vpn (by omega) (by decide)
      have v2 : vp_in (nI (e - 1)) 5 := vpn (by omega) (by decide)
      have w1 : vp_in (nI (τ s)) 5 := vpn (by omega) (by decide)
      have w2 : vp_in (nI (τ (e - 1))) 5 := vpn (by omega) (by decide)
      have e1 : nI e - 1 = nI (e - 1) := by
        have := pk_sub (a := e) (b := 1) (by omega)
        exact this
      have e0 : fa (fun c => X2.1 11 0 (nI (τ s)) (nI c)) (fun c => X2.1 11 0 (nI (τ (e - 1))) (nI c)) 3 = fa (k3 S n C (τ s)) (k3 S n C (τ (e - 1))) 3 := by
        show fa (mrow X2 (τ s)) (mrow X2 (τ (e - 1))) 3 = _
        exact fa_congr (hmk2 s (Nat.le_refl _) (by omega)) (hmk2 (e - 1) (by omega) (by omega))
      have hd9 : d + 5 + f - 2 + 2 = d + 5 + f := by omega
      rw [hd9] at a1 b1
      have fle := fa_le (k3 S n C (τ s)) (k3 S n C (τ (e - 1))) 3
      -- what the code does up to the comparison of the first and the last
      have pre : ∀ Z, Ev sc (d + 5 + (f + 1)) 48 6 [vR 8 0 0, vR 2 0 g, vI (nI s), vI (nI e), vI (nI dp), av0, av0] [vI (nI (fa (k3 S n C (τ s)) (k3 S n C (τ (e - 1))) 3))] X2 (.inl none) Z 0 → Ev sc (d + 5 + (f + 1)) 48 0 (ent 48 [vR 8 0 0, vR 2 0 g, vI (nI s), vI (nI e), vI (nI dp)]) [] X (.inl none) Z 0 := by
        intro Z hZ
        rw [en48]
        refine ev_seg rfl ?_
        simp only [TE, sxs, sx, ldI, ldA, stI, stA, inc, gtF, ptF, ldX, stX, ldR, ldL, stL, dp1, dp2, Tm, kS0, kS1, kS2, kS3, kS4, kS5, kS6, kS7, kS8, kS9, kS10, kS11, kS12, kS13, kS14, kS15, kS16, kS17, kS18, kS19, kS20, kS21, kS22, kS23, kS24, kS25, kS26, kS27, kS28, kS30, kS31, kS32, kS33, kS34, kS35, kS36, kS37, kS38, kS39, kS40, kS41, kS42, kS43, kS50, kS51, kS52, kS53, List.getElem?_cons_zero, List.getElem?_cons_succ, List.set_cons_zero, List.set_cons_succ, List.length_cons, List.length_nil, List.drop_succ_cons, List.drop_zero, List.cons_append, List.nil_append, Option.toList_some, Option.toList_none, cz, ci2, true_and, and_true, and_self, true_or, or_true, nI_1, Nat.reduceAdd, Nat.reduceLT, pk_sub hse]
        refine ⟨fun h => absurd h (fun w => i_nlt (nleI (by omega : 2 ≤ e - s) (by omega)) w), fun _ => ?_⟩
        refine ev_seg rfl ?_
        simp only [TE, sxs, sx, ldI, ldA, stI, stA, inc, gtF, ptF, ldX, stX, ldR, ldL, stL, dp1, dp2, Tm, kS0, kS1, kS2, kS3, kS4, kS5, kS6, kS7, kS8, kS9, kS10, kS11, kS12, kS13, kS14, kS15, kS16, kS17, kS18, kS19, kS20, kS21, kS22, kS23, kS24, kS25, kS26, kS27, kS28, kS30, kS31, kS32, kS33, kS34, kS35, kS36, kS37, kS38, kS39, kS40, kS41, kS42, kS43, kS50, kS51, kS52, kS53, List.getElem?_cons_zero, List.getElem?_cons_succ, List.set_cons_zero, List.set_cons_succ, List.length_cons, List.length_nil, List.drop_succ_cons, List.drop_zero, List.cons_append, List.nil_append, Option.toList_some, Option.toList_none, cz, ci2, true_and, and_true, and_self, true_or, or_true, nI_1, Nat.reduceAdd, Nat.reduceLT]
        refine ⟨fun _ => ?_, fun h => absurd (nI_lt (by omega : dp < 5) (by decide)) h⟩
        refine ev_seg rfl ?_
        simp only [TE, sxs, sx, ldI, ldA, stI, stA, inc, gtF, ptF, ldX, stX, ldR, ldL, stL, dp1, dp2, Tm, kS0, kS1, kS2, kS3, kS4, kS5, kS6, kS7, kS8, kS9, kS10, kS11, kS12, kS13, kS14, kS15, kS16, kS17, kS18, kS19, kS20, kS21, kS22, kS23, kS24, kS25, kS26, kS27, kS28, kS30, kS31, kS32, kS33, kS34, kS35, kS36, kS37, kS38, kS39, kS40, kS41, kS42, kS43, kS50, kS51, kS52, kS53, List.getElem?_cons_zero, List.getElem?_cons_succ, List.set_cons_zero, List.set_cons_succ, List.length_cons, List.length_nil, List.drop_succ_cons, List.drop_zero, List.cons_append, List.nil_append, Option.toList_some, Option.toList_none, cz, ci2, true_and, and_true, and_self, true_or, or_true, nI_1, Nat.reduceAdd, Nat.reduceLT]
        refine cu4 rfl rfl (by first | exact rfl | exact trivial) (a1) ?_
        refine ev_seg rfl ?_
        simp only [TE, sxs, sx, ldI, ldA, stI, stA, inc, gtF, ptF, ldX, stX, ldR, ldL, stL, dp1, dp2, Tm, kS0, kS1, kS2, kS3, kS4, kS5, kS6, kS7, kS8, kS9, kS10, kS11, kS12, kS13, kS14, kS15, kS16, kS17, kS18, kS19, kS20, kS21, kS22, kS23, kS24, kS25, kS26, kS27, kS28, kS30, kS31, kS32, kS33, kS34, kS35, kS36, kS37, kS38, kS39, kS40, kS41, kS42, kS43, kS50, kS51, kS52, kS53, List.getElem?_cons_zero, List.getElem?_cons_succ, List.set_cons_zero, List.set_cons_succ, List.length_cons, List.length_nil, List.drop_succ_cons, List.drop_zero, List.cons_append, List.nil_append, Option.toList_some, Option.toList_none, cz, ci2, true_and, and_true, and_self, true_or, or_true, nI_1, Nat.reduceAdd, Nat.reduceLT]
        refine cu5 rfl rfl (by first | exact rfl | exact trivial) (b1) ?_
        refine ev_seg rfl ?_
        simp only [TE, sxs, sx, ldI, ldA, stI, stA, inc, gtF, ptF, ldX, stX, ldR, ldL, stL, dp1, dp2, Tm, kS0, kS1, kS2, kS3, kS4, kS5, kS6, kS7, kS8, kS9, kS10, kS11, kS12, kS13, kS14, kS15, kS16, kS17, kS18, kS19, kS20, kS21, kS22, kS23, kS24, kS25, kS26, kS27, kS28, kS30, kS31, kS32, kS33, kS34, kS35, kS36, kS37, kS38, kS39, kS40, kS41, kS42, kS43, kS50, kS51, kS52, kS53, List.getElem?_cons_zero, List.getElem?_cons_succ, List.set_cons_zero, List.set_cons_succ, List.length_cons, List.length_nil, List.drop_succ_cons, List.drop_zero, List.cons_append, List.nil_append, Option.toList_some, Option.toList_none, cz, ci2, true_and, and_true, and_self, true_or, or_true, nI_1, Nat.reduceAdd, Nat.reduceLT, o1, e1, o3]
        refine ⟨(by first | assumption | (and_intros <;> first | assumption | trivial | decide)), cv4 rfl rfl (by first | exact rfl | exact trivial) (s_firstApart9 (m := 3) w1 w2 (by decide)) ?_⟩
        rw [e0]
        exact hZ
      by_cases hfl : fa (k3 S n C (τ s)) (k3 S n C (τ (e - 1))) 3 = 3
      · -- all alike
        have hAL : ALb S n C = true := by
          rw [ALb_iff]
          have key : ∀ i, s ≤ i → i < e → fa (k3 S n C (τ s)) (k3 S n C (τ i)) 3 = 3 := by
            intro i p1 p2
            refine Classical.byContradiction fun hne => ?_
            by_cases his : i = s
            · rw [his] at hne; exact hne (fa_all.mpr (fun _ _ => rfl))
            · have hb1 : bet (k3 S n C (τ s)) (k3 S n C (τ i)) 3 := (bet_tot hne).resolve_right (hsrt s i (Nat.le_refl _) (by omega) p2)
              by_cases hie : i = e - 1
              · rw [hie] at hne; exact hne hfl
              · have h5 := hsrt i (e - 1) p1 (by omega) (by omega)
                rw [bet_congr (f' := k3 S n C (τ s)) (g' := k3 S n C (τ i)) (fun c hc => (fa_all.mp hfl c hc).symm) (fun _ _ => rfl)] at h5
                exact h5 hb1
          intro x z hx hz h3 h4
          obtain ⟨i, p1, p2, rfl⟩ := (hC2 x hx).mp h3
          obtain ⟨j, q1, q2, rfl⟩ := (hC2 z hz).mp h4
          rw [fa_congr (f' := k3 S n C (τ s)) (g' := k3 S n C (τ s)) (fun c hc => (fa_all.mp (key i p1 p2) c hc).symm) (fun c hc => (fa_all.mp (key j q1 q2) c hc).symm)]
          exact fa_all.mpr (fun _ _ => rfl)
        obtain ⟨X3, c1, c2, c3, c4⟩ := s_markAll (sc := sc) (d := d + 5 + f - 2) hG2.1 hn hse he hinj2 b3
        have hO3 : OrdH X3 n τ := fun i hi => by
          obtain ⟨w1, w2⟩ := b3 i hi
          exact ⟨by rw [c2.at 12 (by decide)]; exact w1, w2⟩
        obtain ⟨X4, υ, d1, d2, d3, d4, d5, d6⟩ := s_arrange (sc := sc) (d := d + 5 + f - 2) (X := X3) (m := 4) (fr := 4) hn (by omega : s < e) he (by decide) hinj2 hO3
        rw [hd9] at c1 d1
        have hinj4 := d4.2.2.2 n he hinj2
        have hC4 := PS_C d4 hC2
        have hlt4 : ∀ i, i < n → υ i < n := fun i hi => (d3 i hi).2
        have hm4 : ∀ i, s ≤ i → i < e → ∀ c, c < 4 → mrow X3 (υ i) c = K (υ i) c := by
          intro i p1 p2 c hc
          obtain ⟨j, q1, q2, q3⟩ := d4.2.1 i p1 p2
          rw [q3, c3 j q1 q2 c hc, hG2.2.2]
        have hst : ∀ i j, s ≤ i → i < j → j < e → bet (K (υ i)) (K (υ j)) 4 := by
          intro i j p1 p2 p3
          have h5 : ¬ bet (K (υ j)) (K (υ i)) 4 := fun w => d5 i j p1 p2 p3 ((bet_congr (hm4 j (by omega) p3) (hm4 i p1 (by omega))).mpr w)
          exact (bet_tot (hK _ _ (hlt4 i (by omega)) (hlt4 j (by omega)) (fun w => by have := hinj4 i j (by omega) (by omega) w; omega))).resolve_right h5
        refine ⟨X4, υ, ?_, hf2.tr ((c2.mo (by decide)).tr (d2.mo (by decide))), d3, b4.tr d4, fun i p1 p2 => ?_, fun i j p1 p2 p3 p4 p5 => ?_, fun i j p1 p2 p3 p4 => ?_, fun z p1 p2 => ?_⟩
        · refine pre X4 ?_
          rw [hfl]
          refine ev_seg rfl ?_
          simp only [TE, sxs, sx, ldI, ldA, stI, stA, inc, gtF, ptF, ldX, stX, ldR, ldL, stL, dp1, dp2, Tm, kS0, kS1, kS2, kS3, kS4, kS5, kS6, kS7, kS8, kS9, kS10, kS11, kS12, kS13, kS14, kS15, kS16, kS17, kS18, kS19, kS20, kS21, kS22, kS23, kS24, kS25, kS26, kS27, kS28, kS30, kS31, kS32, kS33, kS34, kS35, kS36, kS37, kS38, kS39, kS40, kS41, kS42, kS43, kS50, kS51, kS52, kS53, List.getElem?_cons_zero, List.getElem?_cons_succ, List.set_cons_zero, List.set_cons_succ, List.length_cons, List.length_nil, List.drop_succ_cons, List.drop_zero, List.cons_append, List.nil_append, Option.toList_some, Option.toList_none, cz, ci2, true_and, and_true, and_self, true_or, or_true, nI_1, Nat.reduceAdd, Nat.reduceLT]
          refine ⟨fun h => absurd rfl h, fun _ => ?_⟩
          refine ev_seg rfl ?_
          simp only [TE, sxs, sx, ldI, ldA, stI, stA, inc, gtF, ptF, ldX, stX, ldR, ldL, stL, dp1, dp2, Tm, kS0, kS1, kS2, kS3, kS4, kS5, kS6, kS7, kS8, kS9, kS10, kS11, kS12, kS13, kS14, kS15, kS16, kS17, kS18, kS19, kS20, kS21, kS22, kS23, kS24, kS25, kS26, kS27, kS28, kS30, kS31, kS32, kS33, kS34, kS35, kS36, kS37, kS38, kS39, kS40, kS41, kS42, kS43, kS50, kS51, kS52, kS53, List.getElem?_cons_zero, List.getElem?_cons_succ, List.set_cons_zero, List.set_cons_succ, List.length_cons, List.length_nil, List.drop_succ_cons, List.drop_zero, List.cons_append, List.nil_append, Option.toList_some, Option.toList_none, cz, ci2, true_and, and_true, and_self, true_or, or_true, nI_1, Nat.reduceAdd, Nat.reduceLT]
          refine cu4 rfl rfl (by first | exact rfl | exact trivial) (c1) ?_
          refine ev_seg rfl ?_
          simp only [TE, sxs, sx, ldI, ldA, stI, stA, inc, gtF, ptF, ldX, stX, ldR, ldL, stL, dp1, dp2, Tm, kS0, kS1, kS2, kS3, kS4, kS5, kS6, kS7, kS8, kS9, kS10, kS11, kS12, kS13, kS14, kS15, kS16, kS17, kS18, kS19, kS20, kS21, kS22, kS23, kS24, kS25, kS26, kS27, kS28, kS30, kS31, kS32, kS33, kS34, kS35, kS36, kS37, kS38, kS39, kS40, kS41, kS42, kS43, kS50, kS51, kS52, kS53, List.getElem?_cons_zero, List.getElem?_cons_succ, List.set_cons_zero, List.set_cons_succ, List.length_cons, List.length_nil, List.drop_succ_cons, List.drop_zero, List.cons_append, List.nil_append, Option.toList_some, Option.toList_none, cz, ci2, true_and, and_true, and_self, true_or, or_true, nI_1, Nat.reduceAdd, Nat.reduceLT]
          refine cu5 rfl rfl (by first | exact rfl | exact trivial) (d1) ?_
          refine ev_seg rfl ?_
          simp only [TE, sxs, sx, ldI, ldA, stI, stA, inc, gtF, ptF, ldX, stX, ldR, ldL, stL, dp1, dp2, Tm, kS0, kS1, kS2, kS3, kS4, kS5, kS6, kS7, kS8, kS9, kS10, kS11, kS12, kS13, kS14, kS15, kS16, kS17, kS18, kS19, kS20, kS21, kS22, kS23, kS24, kS25, kS26, kS27, kS28, kS30, kS31, kS32, kS33, kS34, kS35, kS36, kS37, kS38, kS39, kS40, kS41, kS42, kS43, kS50, kS51, kS52, kS53, List.getElem?_cons_zero, List.getElem?_cons_succ, List.set_cons_zero, List.set_cons_succ, List.length_cons, List.length_nil, List.drop_succ_cons, List.drop_zero, List.cons_append, List.nil_append, Option.toList_some, Option.toList_none, cz, ci2, true_and, and_true, and_self, true_or, or_true, nI_1, Nat.reduceAdd, Nat.reduceLT]
        · have e9 : POS S n K (f + 1) C (υ i) = kap K 4 C n (υ i) := if_pos hAL
          rw [e9, kap_pos (fr := i) he hlt4 hinj4 hC4 p1 p2 (fun j q1 q2 => hst j i q1 q2 p2) (fun j q1 q2 => by
            by_cases hji : j = i
            · rw [hji]; exact bet_irr _ _
            · exact bet_asym (hst i j p1 (by omega) q2))]
          omega
        · have h3 : fa (k3 S n C (υ i)) (k3 S n C (υ j)) 3 = 3 := ALb_iff.mp hAL _ _ (hlt4 i (by omega)) (hlt4 j (by omega)) ((hC4 _ (hlt4 i (by omega))).mpr ⟨i, p1, p2, rfl⟩) ((hC4 _ (hlt4 j (by omega))).mpr ⟨j, p3, p4, rfl⟩)
          have e9 : RUL S n K (f + 1) C (υ i) (υ j) = 4 + fa (K (υ i)) (K (υ j)) 4 := by
            show (if _ then _ else if _ then _ else _) = _
            rw [if_neg (by omega), if_pos hAL]
          have h4 : fa (mrow X3 (υ i)) (mrow X3 (υ j)) 4 = fa (K (υ i)) (K (υ j)) 4 := fa_congr (hm4 i p1 p2) (hm4 j p3 p4)
          have h6 : fa (K (υ i)) (K (υ j)) 4 < 4 := by
            have := fa_le (K (υ i)) (K (υ j)) 4
            have := hK _ _ (hlt4 i (by omega)) (hlt4 j (by omega)) (fun w => p5 (hinj4 i j (by omega) (by omega) w))
            omega
          rw [e9, (d6 i j (by omega) (by omega) p5).1 ⟨p1, p2, p3, p4, by rw [h4]; exact h6⟩, h4]
        · rw [(d6 i j p1 p2 p3).2 (fun w => p4 ⟨w.1, w.2.1, w.2.2.1, w.2.2.2.1⟩)]
          show X3.1 14 0 _ _ = _
          rw [c2.at 14 (by decide)]
          by_cases hi : s ≤ i ∧ i < e
          · obtain ⟨i', q1, q2, q3⟩ := d4.2.1 i hi.1 hi.2
            rw [q3, d4.1 j (by omega)]
            exact hru1 i' j (by omega) p2 (by omega) (by omega)
          · by_cases hj : s ≤ j ∧ j < e
            · obtain ⟨j', q1, q2, q3⟩ := d4.2.1 j hj.1 hj.2
              rw [q3, d4.1 i (by omega)]
              exact hru1 i j' p1 (by omega) (by omega) (by omega)
            · rw [d4.1 i (by omega), d4.1 j (by omega)]
              exact hru1 i j p1 p2 p3 p4
        · rw [mrow_fr d2 (by decide), c4 z (by omega) (fun i q1 q2 q3 => by
            have : C z = true := (hC2 z p1).mpr ⟨i, q1, q2, q3⟩
            rw [p2] at this
            cases this)]
          exact hout z p1 p2
      · -- runs
        have hAL : ALb S n C = false := by
          cases h9 : ALb S n C with
          | false => rfl
          | true => exact absurd (ALb_iff.mp h9 _ _ o2 o4 ((hC2 _ o2).mpr ⟨s, Nat.le_refl _, by omega, rfl⟩) ((hC2 _ o4).mpr ⟨e - 1, by omega, by omega, rfl⟩)) hfl
        obtain ⟨Z, υ, g1, g2, g3, g4, g5, g6, g7, g8⟩ := settle_runs (σ0 := σ) (X0 := X) IH hn he hsz hdp (by omega) hG hinj hC hAL (e - s) s (s + 1) X2 τ (by omega) (Nat.le_refl _) (by omega) hse (fun w => by omega) hf2 b3 b4 hmk2 hsrt
          (fun i p1 p2 p3 => by rw [show i = s by omega]; exact fa_all.mpr (fun _ _ => rfl))
          (fun i j p1 p2 => absurd p2 (by omega)) (fun i p1 p2 => absurd p2 (by omega)) (fun i j p1 p2 p3 p4 p5 p6 => absurd p6 (by omega))
          (fun i j p1 p2 p3 p4 p5 p6 => by
            have h9 := hfa i j p1 p2 p3 p4
            rw [(b6 i j (by omega) (by omega) p5).1 ⟨p1, p2, p3, p4, by rw [h9]; exact p6⟩, h9])
          hru1 hout
        refine ⟨Z, υ, ?_, g2, g3, g4, g5, g6, g7, g8⟩
        refine pre Z ?_
        refine ev_seg rfl ?_
        simp only [TE, sxs, sx, ldI, ldA, stI, stA, inc, gtF, ptF, ldX, stX, ldR, ldL, stL, dp1, dp2, Tm, kS0, kS1, kS2, kS3, kS4, kS5, kS6, kS7, kS8, kS9, kS10, kS11, kS12, kS13, kS14, kS15, kS16, kS17, kS18, kS19, kS20, kS21, kS22, kS23, kS24, kS25, kS26, kS27, kS28, kS30, kS31, kS32, kS33, kS34, kS35, kS36, kS37, kS38, kS39, kS40, kS41, kS42, kS43, kS50, kS51, kS52, kS53, List.getElem?_cons_zero, List.getElem?_cons_succ, List.set_cons_zero, List.set_cons_succ, List.length_cons, List.length_nil, List.drop_succ_cons, List.drop_zero, List.cons_append, List.nil_append, Option.toList_some, Option.toList_none, cz, ci2, true_and, and_true, and_self, true_or, or_true, nI_1, Nat.reduceAdd, Nat.reduceLT]
        refine ⟨fun _ => ?_, fun h => absurd (nI_inj (by omega) (by decide) (Classical.not_not.mp h)) hfl⟩
        refine ev_seg rfl ?_
        simp only [TE, sxs, sx, ldI, ldA, stI, stA, inc, gtF, ptF, ldX, stX, ldR, ldL, stL, dp1, dp2, Tm, kS0, kS1, kS2, kS3, kS4, kS5, kS6, kS7, kS8, kS9, kS10, kS11, kS12, kS13, kS14, kS15, kS16, kS17, kS18, kS19, kS20, kS21, kS22, kS23, kS24, kS25, kS26, kS27, kS28, kS30, kS31, kS32, kS33, kS34, kS35, kS36, kS37, kS38, kS39, kS40, kS41, kS42, kS43, kS50, kS51, kS52, kS53, List.getElem?_cons_zero, List.getElem?_cons_succ, List.set_cons_zero, List.set_cons_succ, List.length_cons, List.length_nil, List.drop_succ_cons, List.drop_zero, List.cons_append, List.nil_append, Option.toList_some, Option.toList_none, cz, ci2, true_and, and_true, and_self, true_or, or_true, nI_1, Nat.reduceAdd, Nat.reduceLT]
        exact g1
end Stl
end
section
/-! the whole table of a group -/
section Drw
variable {sc : SC} {d : Nat} {g : Int32}
/-- teams with as many points -/
def alp (P : Nat → Int32) (a z : Nat) : Bool := decide (fa (fun _ => P a) (fun _ => P z) 1 = 1)
/-- the place of a team in its group; P: points, K: the marks that count when all of some tied are alike -/
def PT (S : Nat → Nat → Int32) (n : Nat) (K : Nat → Nat → Int32) (P : Nat → Int32) (a : Nat) : Nat := kap (fun z _ => P z) 1 (fun _ => true) n a + POS S n K 5 (alp P a) a
/-- the rule by which two teams are told apart -/
def RT (S : Nat → Nat → Int32) (n : Nat) (K : Nat → Nat → Int32) (P : Nat → Int32) (a b : Nat) : Nat := if fa (fun _ => P a) (fun _ => P b) 1 < 1 then 0 + fa (fun _ => P a) (fun _ => P b) 1 else RUL S n K 5 (alp P a) a b
theorem draw_runs {n : Nat} {S K : Nat → Nat → Int32} {P : Nat → Int32} {X0 : XT} {σ0 : Nat → Nat} (IH : StP sc d g n S K 5) (hn : n ≤ 5) (hG0 : GF X0 g n S K) (hinj0 : ∀ i j, i < n → j < n → σ0 i = σ0 j → i = j) (hC0 : ∀ z, z < n → ((fun _ => true : Nat → Bool) z = true ↔ ∃ i, 0 ≤ i ∧ i < n ∧ σ0 i = z)) :
    ∀ (q fr nx : Nat) (X : XT) (τ : Nat → Nat), nx + q = n + 1 → 0 ≤ fr → fr < nx → fr ≤ n → (nx = n + 1 → fr = n) → Fr [11, 12, 14] X0 X → OrdH X n τ → PS 0 n σ0 τ →
    (∀ i, fr ≤ i → i < n → ∀ c, c < 1 → mrow X (τ i) c = P (τ i)) →
    (∀ i j, 0 ≤ i → i < j → j < n → ¬ bet (fun _ => P (τ j)) (fun _ => P (τ i)) 1) →
    (∀ i, fr ≤ i → i < nx → i < n → fa (fun _ => P (τ fr)) (fun _ => P (τ i)) 1 = 1) →
    (∀ i j, 0 ≤ i → i < fr → fr ≤ j → j < n → ¬ fa (fun _ => P (τ i)) (fun _ => P (τ j)) 1 = 1) →
    (∀ i, 0 ≤ i → i < fr → i = 0 + PT S n K P (τ i)) →
    (∀ i j, 0 ≤ i → i < n → 0 ≤ j → j < n → i ≠ j → (i < fr ∨ j < fr) → RU X (τ i) (τ j) = nI (RT S n K P (τ i) (τ j))) →
    (∀ i j, fr ≤ i → i < n → fr ≤ j → j < n → i ≠ j → fa (fun _ => P (τ i)) (fun _ => P (τ j)) 1 < 1 → RU X (τ i) (τ j) = nI (0 + fa (fun _ => P (τ i)) (fun _ => P (τ j)) 1)) →
    ∃ (Z : XT) (υ : Nat → Nat), Ev sc (d + 11) 43 8 [vR 8 0 0, vR 2 0 g, vI (nI n), vI (nI fr), vI (nI nx)] [] X (.inl none) Z 0 ∧ Fr [11, 12, 14] X0 Z ∧ OrdH Z n υ ∧ PS 0 n σ0 υ ∧ (∀ i, 0 ≤ i → i < n → i = 0 + PT S n K P (υ i)) ∧
      (∀ i j, 0 ≤ i → i < n → 0 ≤ j → j < n → i ≠ j → RU Z (υ i) (υ j) = nI (RT S n K P (υ i) (υ j))) := by
  intro q
  induction q with
  | zero =>
    intro fr nx X τ hq hs hfn hfe hend hf hO hP hb hc hd hE hF hF2 hg
    have hfr : fr = n := hend (by omega)
    refine ⟨X, τ, ?_, hf, hO, hP, fun i a b => hF i a (by omega), fun i j a b c1 c2 c3 => hF2 i j a b c1 c2 c3 (by omega)⟩
    refine ev_seg rfl ?_
    simp only [TE, sxs, sx, ldI, ldA, stI, stA, inc, gtF, ptF, ldX, stX, ldR, ldL, stL, dp1, dp2, Tm, kS0, kS1, kS2, kS3, kS4, kS5, kS6, kS7, kS8, kS9, kS10, kS11, kS12, kS13, kS14, kS15, kS16, kS17, kS18, kS19, kS20, kS21, kS22, kS23, kS24, kS25, kS26, kS27, kS28, kS30, kS31, kS32, kS33, kS34, kS35, kS36, kS37, kS38, kS39, kS40, kS41, kS42, kS43, kS50, kS51, kS52, kS53, List.getElem?_cons_zero, List.getElem?_cons_succ, List.set_cons_zero, List.set_cons_succ, List.length_cons, List.length_nil, List.drop_succ_cons, List.drop_zero, List.cons_append, List.nil_append, Option.toList_some, Option.toList_none, cz, ci2, true_and, and_true, and_self, true_or, or_true, nI_1, Nat.reduceAdd, Nat.reduceLT]
    refine ⟨fun _ => ?_, fun h => absurd ?_ h⟩
    · refine ev_seg rfl ?_
      simp only [TE, sxs, sx, ldI, ldA, stI, stA, inc, gtF, ptF, ldX, stX, ldR, ldL, stL, dp1, dp2, Tm, kS0, kS1, kS2, kS3, kS4, kS5, kS6, kS7, kS8, kS9, kS10, kS11, kS12, kS13, kS14, kS15, kS16, kS17, kS18, kS19, kS20, kS21, kS22, kS23, kS24, kS25, kS26, kS27, kS28, kS30, kS31, kS32, kS33, kS34, kS35, kS36, kS37, kS38, kS39, kS40, kS41, kS42, kS43, kS50, kS51, kS52, kS53, List.getElem?_cons_zero, List.getElem?_cons_succ, List.set_cons_zero, List.set_cons_succ, List.length_cons, List.length_nil, List.drop_succ_cons, List.drop_zero, List.cons_append, List.nil_append, Option.toList_some, Option.toList_none, cz, ci2, true_and, and_true, and_self, true_or, or_true, nI_1, Nat.reduceAdd, Nat.reduceLT]
    · exact nI_lt (by omega) (by omega)
  | succ q ih =>
    intro fr nx X τ hq hs hfn hfe hend hf hO hP hb hc hd hE hF hF2 hg
    have hnx : nx ≤ n := by omega
    have hlt : ∀ i, i < n → τ i < n := fun i hi => (hO i hi).2
    have hinj := hP.2.2.2 n (Nat.le_refl n) hinj0
    have hC := PS_C hP hC0
    have hG := hG0.fr hf
    have hfe2 : fr < n := by omega
    -- keys that are alike
    have al_bet : ∀ {a a' b b' : Nat}, fa (fun _ => P a) (fun _ => P a') 1 = 1 → fa (fun _ => P b) (fun _ => P b') 1 = 1 → (bet (fun _ => P a) (fun _ => P b) 1 ↔ bet (fun _ => P a') (fun _ => P b') 1) := fun h1 h2 => bet_congr (fa_all.mp h1) (fa_all.mp h2)
    have al_fa : ∀ {a a' b b' : Nat}, fa (fun _ => P a) (fun _ => P a') 1 = 1 → fa (fun _ => P b) (fun _ => P b') 1 = 1 → fa (fun _ => P a) (fun _ => P b) 1 = fa (fun _ => P a') (fun _ => P b') 1 := fun h1 h2 => fa_congr (fa_all.mp h1) (fa_all.mp h2)
    have al_rf : ∀ a, fa (fun _ => P a) (fun _ => P a) 1 = 1 := fun a => fa_all.mpr (fun _ _ => rfl)
    have al_sy : ∀ {a b : Nat}, fa (fun _ => P a) (fun _ => P b) 1 = 1 → fa (fun _ => P b) (fun _ => P a) 1 = 1 := fun h => by rw [fa_comm]; exact h
    -- the run ends here, or goes on
    have hcase : (nx = n ∨ (nx < n ∧ fa (fun _ => P (τ fr)) (fun _ => P (τ nx)) 1 < 1)) ∨ (nx < n ∧ fa (fun _ => P (τ fr)) (fun _ => P (τ nx)) 1 = 1) := by
      rcases Nat.lt_or_ge nx n with w | w
      · have := fa_le (fun _ => P (τ fr)) (fun _ => P (τ nx)) 1
        rcases Nat.lt_or_ge (fa (fun _ => P (τ fr)) (fun _ => P (τ nx)) 1) 1 with w2 | w2
        · exact Or.inl (Or.inr ⟨w, w2⟩)
        · exact Or.inr ⟨w, by omega⟩
      · exact Or.inl (Or.inl (by omega))
    have hmk : ∀ i, fr ≤ i → i < n → fa (mrow X (τ fr)) (mrow X (τ i)) 1 = fa (fun _ => P (τ fr)) (fun _ => P (τ i)) 1 := fun i a b => fa_congr (hb fr (Nat.le_refl _) hfe2) (hb i a b)
    rcases hcase with hend2 | ⟨hnx2, hal⟩
    · -- settle the run
      have hrun : ∀ z, z < n → (alp P (τ fr) z = true ↔ ∃ i, fr ≤ i ∧ i < nx ∧ τ i = z) := by
        intro z hz
        unfold alp
        rw [decide_eq_true_eq]
        constructor
        · intro h2
          obtain ⟨i, a, b, rfl⟩ := (hC z hz).mp rfl
          have hi1 : fr ≤ i := by
            rcases Nat.lt_or_ge i fr with w | w
            · exact absurd (al_sy h2) (hE i fr a w (Nat.le_refl _) hfe2)
            · exact w
          refine ⟨i, hi1, ?_, rfl⟩
          rcases Nat.lt_or_ge i nx with w | w
          · exact w
          · exfalso
            rcases hend2 with h3 | ⟨h3, h4⟩
            · omega
            · have hb1 : bet (fun _ => P (τ fr)) (fun _ => P (τ nx)) 1 := (bet_tot (by omega)).resolve_right (hc fr nx hs hfn h3)
              by_cases hin : i = nx
              · subst hin; omega
              · have := hc nx i (by omega) (by omega) b
                rw [al_bet (al_sy h2) (al_rf _)] at this
                exact this hb1
        · rintro ⟨i, a, b, rfl⟩
          exact hd i a b (by omega)
      obtain ⟨Z1, υ, a1, a2, a3, a4, a5, a6, a7, a8⟩ := IH fr nx 0 (alp P (τ fr)) τ X (by omega) (by omega) (by omega) (by omega) hG hO hinj hrun
      -- places keep their keys
      have hkey : ∀ i, 0 ≤ i → i < n → fa (fun _ => P (υ i)) (fun _ => P (τ i)) 1 = 1 := by
        intro i a b
        by_cases hin : fr ≤ i ∧ i < nx
        · obtain ⟨j, b1, b2, b3⟩ := a4.2.1 i hin.1 hin.2
          rw [b3, al_fa (al_sy (hd j b1 b2 (by omega))) (al_sy (hd i hin.1 hin.2 b))]
          exact al_rf _
        · rw [a4.1 i (by omega)]
          exact al_rf _
      have hsame : ∀ i, (i < fr ∨ nx ≤ i) → υ i = τ i := a4.1
      have hrunk : ∀ i, fr ≤ i → i < nx → fa (fun _ => P (τ fr)) (fun _ => P (υ i)) 1 = 1 := by
        intro i a b
        obtain ⟨j, b1, b2, b3⟩ := a4.2.1 i a b
        rw [b3]
        exact hd j b1 b2 (by omega)
      have hdiff : ∀ i j, fr ≤ i → i < nx → nx ≤ j → j < n → ¬ fa (fun _ => P (τ i)) (fun _ => P (τ j)) 1 = 1 := by
        intro i j a b c1 c2 h
        have h9 : alp P (τ fr) (τ j) = true := by
          unfold alp
          rw [decide_eq_true_eq]
          rw [al_fa (hd i a b (by omega)) (al_rf _)]
          exact h
        obtain ⟨i', b1, b2, b3⟩ := (hrun _ (hlt j (by omega))).mp h9
        have := hinj i' j (by omega) (by omega) b3
        omega
      have hkp : fr = 0 + kap (fun z _ => P z) 1 (fun _ => true) n (τ fr) := by
        have h9 := kap_pos (K := fun z _ => P z) (m := 1) (C := fun _ => true) (fr := fr) (Nat.le_refl n) hlt hinj hC hs hfe2 (fun i a b => (bet_tot (hE i fr a b (Nat.le_refl _) hfe2)).resolve_right (hc i fr a b hfe2)) (fun i a b => by
          by_cases hi : i = fr
          · rw [hi]; exact bet_irr _ _
          · exact hc fr i hs (by omega) b)
        omega
      have halk : ∀ i, fr ≤ i → i < nx → ∀ z, z < n → alp P (υ i) z = alp P (τ fr) z := by
        intro i a b z _
        unfold alp
        rw [al_fa (al_sy (hrunk i a b)) (al_rf z)]
      have hυ : ∀ i, 0 ≤ i → i < n → ∃ i', 0 ≤ i' ∧ i' < n ∧ υ i = τ i' ∧ ((fr ≤ i ∧ i < nx ∧ fr ≤ i' ∧ i' < nx) ∨ i' = i) := by
        intro i a b
        by_cases hin : fr ≤ i ∧ i < nx
        · obtain ⟨j, b1, b2, b3⟩ := a4.2.1 i hin.1 hin.2
          exact ⟨j, by omega, by omega, b3, Or.inl ⟨hin.1, hin.2, b1, b2⟩⟩
        · exact ⟨i, a, b, hsame i (by omega), Or.inr rfl⟩
      have hPS2 : PS 0 n σ0 υ := hP.tr (a4.mo hs (by omega))
      have hinj2 := hPS2.2.2.2 n (Nat.le_refl n) hinj0
      obtain ⟨Z, ω, b1, b2, b3, b4, b5, b6⟩ := ih nx (nx + 1) Z1 υ (by omega) (by omega) (by omega) hnx (fun _ => by omega) (hf.tr a2) a3 hPS2
        (fun i p1 p2 c p3 => by
          rw [hsame i (by omega)]
          have hno : alp P (τ fr) (τ i) = false := by
            cases h9 : alp P (τ fr) (τ i) with
            | false => rfl
            | true =>
              obtain ⟨i', q1, q2, q3⟩ := (hrun _ (hlt i (by omega))).mp h9
              have := hinj i' i (by omega) (by omega) q3
              omega
          rw [a8 _ (hlt i (by omega)) hno]
          exact hb i (by omega) p2 c p3)
        (fun i j p1 p2 p3 => by
          rw [al_bet (hkey j (by omega) p3) (hkey i p1 (by omega))]
          exact hc i j p1 p2 p3)
        (fun i p1 p2 p3 => by
          rw [show i = nx by omega]
          exact al_rf _)
        (fun i j p1 p2 p3 p4 => by
          rw [al_fa (hkey i p1 (by omega)) (hkey j (by omega) p4)]
          by_cases hif : i < fr
          · exact hE i j p1 hif (by omega) p4
          · exact hdiff i j (by omega) p2 p3 p4)
        (fun i p1 p2 => by
          by_cases hif : i < fr
          · rw [hsame i (by omega)]
            exact hF i p1 hif
          · have h9 := a5 i (by omega) p2
            have e1 : PT S n K P (υ i) = kap (fun z _ => P z) 1 (fun _ => true) n (υ i) + POS S n K 5 (alp P (υ i)) (υ i) := rfl
            rw [e1, POS_congr 5 (halk i (by omega) p2) ((a3 i (by omega)).2), ← kap_eq (K := fun z _ => P z) (C := fun _ => true) (n := n) (hrunk i (by omega) p2)]
            omega)
        (fun i j p1 p2 p3 p4 p5 p6 => by
          have hRUL : ∀ {a b : Nat}, fa (fun _ => P a) (fun _ => P b) 1 < 1 → RT S n K P a b = 0 + fa (fun _ => P a) (fun _ => P b) 1 := fun h => if_pos h
          by_cases hboth : (fr ≤ i ∧ i < nx) ∧ (fr ≤ j ∧ j < nx)
          · rw [a6 i j hboth.1.1 hboth.1.2 hboth.2.1 hboth.2.2 p5]
            have e1 : RT S n K P (υ i) (υ j) = RUL S n K 5 (alp P (υ i)) (υ i) (υ j) := by
              have h3 : fa (fun _ => P (υ i)) (fun _ => P (υ j)) 1 = 1 := by
                rw [al_fa (al_sy (hrunk i hboth.1.1 hboth.1.2)) (al_sy (hrunk j hboth.2.1 hboth.2.2))]
                exact al_rf _
              show (if _ then _ else _) = _
              rw [if_neg (by omega)]
            rw [e1, RUL_congr 5 (halk i hboth.1.1 hboth.1.2)]
          · rw [a7 i j (by omega) (by omega) p5 (by omega)]
            obtain ⟨i', q1, q2, q3, q4⟩ := hυ i p1 p2
            obtain ⟨j', r1, r2, r3, r4⟩ := hυ j p3 p4
            rw [q3, r3]
            have hne : i' ≠ j' := by omega
            by_cases hold : i' < fr ∨ j' < fr
            · exact hF2 i' j' q1 q2 r1 r2 hne hold
            · have h3 : fa (fun _ => P (τ i')) (fun _ => P (τ j')) 1 < 1 := by
                have := fa_le (fun _ => P (τ i')) (fun _ => P (τ j')) 1
                have h4 : ¬ fa (fun _ => P (τ i')) (fun _ => P (τ j')) 1 = 1 := by
                  by_cases hi2 : i' < nx
                  · exact hdiff i' j' (by omega) hi2 (by omega) r2
                  · rw [fa_comm]
                    exact hdiff j' i' (by omega) (by omega) (by omega) q2
                omega
              rw [hg i' j' (by omega) q2 (by omega) r2 hne h3, hRUL h3])
        (fun i j p1 p2 p3 p4 p5 p6 => by
          rw [a7 i j (by omega) (by omega) p5 (by omega)]
          rw [hsame i (by omega), hsame j (by omega)] at p6 ⊢
          exact hg i j (by omega) p2 (by omega) p4 p5 p6)
      refine ⟨Z, ω, ?_, b2, b3, b4, b5, b6⟩
      have hin : Ev sc (d + 11) 43 10 [vR 8 0 0, vR 2 0 g, vI (nI n), vI (nI fr), vI (nI nx)] [vI 1] X (.inl none) Z 0 := by
        refine ev_seg rfl ?_
        simp only [TE, sxs, sx, ldI, ldA, stI, stA, inc, gtF, ptF, ldX, stX, ldR, ldL, stL, dp1, dp2, Tm, kS0, kS1, kS2, kS3, kS4, kS5, kS6, kS7, kS8, kS9, kS10, kS11, kS12, kS13, kS14, kS15, kS16, kS17, kS18, kS19, kS20, kS21, kS22, kS23, kS24, kS25, kS26, kS27, kS28, kS30, kS31, kS32, kS33, kS34, kS35, kS36, kS37, kS38, kS39, kS40, kS41, kS42, kS43, kS50, kS51, kS52, kS53, List.getElem?_cons_zero, List.getElem?_cons_succ, List.set_cons_zero, List.set_cons_succ, List.length_cons, List.length_nil, List.drop_succ_cons, List.drop_zero, List.cons_append, List.nil_append, Option.toList_some, Option.toList_none, cz, ci2, true_and, and_true, and_self, true_or, or_true, nI_1, Nat.reduceAdd, Nat.reduceLT]
        refine ⟨fun h => absurd h (by decide), fun _ => ?_⟩
        refine ev_seg rfl ?_
        simp only [TE, sxs, sx, ldI, ldA, stI, stA, inc, gtF, ptF, ldX, stX, ldR, ldL, stL, dp1, dp2, Tm, kS0, kS1, kS2, kS3, kS4, kS5, kS6, kS7, kS8, kS9, kS10, kS11, kS12, kS13, kS14, kS15, kS16, kS17, kS18, kS19, kS20, kS21, kS22, kS23, kS24, kS25, kS26, kS27, kS28, kS30, kS31, kS32, kS33, kS34, kS35, kS36, kS37, kS38, kS39, kS40, kS41, kS42, kS43, kS50, kS51, kS52, kS53, List.getElem?_cons_zero, List.getElem?_cons_succ, List.set_cons_zero, List.set_cons_succ, List.length_cons, List.length_nil, List.drop_succ_cons, List.drop_zero, List.cons_append, List.nil_append, Option.toList_some, Option.toList_none, cz, ci2, true_and, and_true, and_self, true_or, or_true, nI_1, Nat.reduceAdd, Nat.reduceLT]
        refine cu5 rfl rfl (by first | exact rfl | exact trivial) (a1) ?_
        refine ev_seg rfl ?_
        simp only [TE, sxs, sx, ldI, ldA, stI, stA, inc, gtF, ptF, ldX, stX, ldR, ldL, stL, dp1, dp2, Tm, kS0, kS1, kS2, kS3, kS4, kS5, kS6, kS7, kS8, kS9, kS10, kS11, kS12, kS13, kS14, kS15, kS16, kS17, kS18, kS19, kS20, kS21, kS22, kS23, kS24, kS25, kS26, kS27, kS28, kS30, kS31, kS32, kS33, kS34, kS35, kS36, kS37, kS38, kS39, kS40, kS41, kS42, kS43, kS50, kS51, kS52, kS53, List.getElem?_cons_zero, List.getElem?_cons_succ, List.set_cons_zero, List.set_cons_succ, List.length_cons, List.length_nil, List.drop_succ_cons, List.drop_zero, List.cons_append, List.nil_append, Option.toList_some, Option.toList_none, cz, ci2, true_and, and_true, and_self, true_or, or_true, nI_1, Nat.reduceAdd, Nat.reduceLT]
        refine ev_seg rfl ?_
        simp only [TE, sxs, sx, ldI, ldA, stI, stA, inc, gtF, ptF, ldX, stX, ldR, ldL, stL, dp1, dp2, Tm, kS0, kS1, kS2, kS3, kS4, kS5, kS6, kS7, kS8, kS9, kS10, kS11, kS12, kS13, kS14, kS15, kS16, kS17, kS18, kS19, kS20, kS21, kS22, kS23, kS24, kS25, kS26, kS27, kS28, kS30, kS31, kS32, kS33, kS34, kS35, kS36, kS37, kS38, kS39, kS40, kS41, kS42, kS43, kS50, kS51, kS52, kS53, List.getElem?_cons_zero, List.getElem?_cons_succ, List.set_cons_zero, List.set_cons_succ, List.length_cons, List.length_nil, List.drop_succ_cons, List.drop_zero, List.cons_append, List.nil_append, Option.toList_some, Option.toList_none, cz, ci2, true_and, and_true, and_self, true_or, or_true, nI_1, Nat.reduceAdd, Nat.reduceLT]
        exact b1
      refine ev_seg rfl ?_
      simp only [TE, sxs, sx, ldI, ldA, stI, stA, inc, gtF, ptF, ldX, stX, ldR, ldL, stL, dp1, dp2, Tm, kS0, kS1, kS2, kS3, kS4, kS5, kS6, kS7, kS8, kS9, kS10, kS11, kS12, kS13, kS14, kS15, kS16, kS17, kS18, kS19, kS20, kS21, kS22, kS23, kS24, kS25, kS26, kS27, kS28, kS30, kS31, kS32, kS33, kS34, kS35, kS36, kS37, kS38, kS39, kS40, kS41, kS42, kS43, kS50, kS51, kS52, kS53, List.getElem?_cons_zero, List.getElem?_cons_succ, List.set_cons_zero, List.set_cons_succ, List.length_cons, List.length_nil, List.drop_succ_cons, List.drop_zero, List.cons_append, List.nil_append, Option.toList_some, Option.toList_none, cz, ci2, true_and, and_true, and_self, true_or, or_true, nI_1, Nat.reduceAdd, Nat.reduceLT]
      refine ⟨fun h => absurd h (fun w => i_nlt (nleI hnx (by omega)) w), fun _ => ?_⟩
      refine ev_seg rfl ?_
      simp only [TE, sxs, sx, ldI, ldA, stI, stA, inc, gtF, ptF, ldX, stX, ldR, ldL, stL, dp1, dp2, Tm, kS0, kS1, kS2, kS3, kS4, kS5, kS6, kS7, kS8, kS9, kS10, kS11, kS12, kS13, kS14, kS15, kS16, kS17, kS18, kS19, kS20, kS21, kS22, kS23, kS24, kS25, kS26, kS27, kS28, kS30, kS31, kS32, kS33, kS34, kS35, kS36, kS37, kS38, kS39, kS40, kS41, kS42, kS43, kS50, kS51, kS52, kS53, List.getElem?_cons_zero, List.getElem?_cons_succ, List.set_cons_zero, List.set_cons_succ, List.length_cons, List.length_nil, List.drop_succ_cons, List.drop_zero, List.cons_append, List.nil_append, Option.toList_some, Option.toList_none, cz, ci2, true_and, and_true, and_self, true_or, or_true, nI_1, Nat.reduceAdd, Nat.reduceLT]
      rcases hend2 with h3 | ⟨h3, h4⟩
      · refine cv5 rfl rfl (by first | exact rfl | exact trivial) (Ev_d (d' := d + 10) (s_alikeE (d := 0) (Nat.le_refl n) hn (by omega) (by omega)) (by omega)) ?_
        exact hin
      · refine cv5 rfl rfl (by first | exact rfl | exact trivial) (Ev_d (d' := d + 10) (s_alikeI (d := 0) (Nat.le_refl n) hn (by decide) (by omega) h3 hO) (by omega)) ?_
        have h9 : fa (mrow X (τ fr)) (mrow X (τ nx)) 1 < 1 := by rw [hmk nx (by omega) h3]; exact h4
        rw [bI_t h9]
        exact hin
    · -- it goes on
      obtain ⟨Z, ω, b1, b2, b3, b4, b5, b6⟩ := ih fr (nx + 1) X τ (by omega) hs (by omega) hfe (fun w => by omega) hf hO hP hb hc (fun i p1 p2 p3 => by
        by_cases hi : i = nx
        · rw [hi]; exact hal
        · exact hd i p1 (by omega) p3) hE hF hF2 hg
      refine ⟨Z, ω, ?_, b2, b3, b4, b5, b6⟩
      refine ev_seg rfl ?_
      simp only [TE, sxs, sx, ldI, ldA, stI, stA, inc, gtF, ptF, ldX, stX, ldR, ldL, stL, dp1, dp2, Tm, kS0, kS1, kS2, kS3, kS4, kS5, kS6, kS7, kS8, kS9, kS10, kS11, kS12, kS13, kS14, kS15, kS16, kS17, kS18, kS19, kS20, kS21, kS22, kS23, kS24, kS25, kS26, kS27, kS28, kS30, kS31, kS32, kS33, kS34, kS35, kS36, kS37, kS38, kS39, kS40, kS41, kS42, kS43, kS50, kS51, kS52, kS53, List.getElem?_cons_zero, List.getElem?_cons_succ, List.set_cons_zero, List.set_cons_succ, List.length_cons, List.length_nil, List.drop_succ_cons, List.drop_zero, List.cons_append, List.nil_append, Option.toList_some, Option.toList_none, cz, ci2, true_and, and_true, and_self, true_or, or_true, nI_1, Nat.reduceAdd, Nat.reduceLT]
      refine ⟨fun h => absurd h (fun w => i_nlt (nleI hnx (by omega)) w), fun _ => ?_⟩
      refine ev_seg rfl ?_
      simp only [TE, sxs, sx, ldI, ldA, stI, stA, inc, gtF, ptF, ldX, stX, ldR, ldL, stL, dp1, dp2, Tm, kS0, kS1, kS2, kS3, kS4, kS5, kS6, kS7, kS8, kS9, kS10, kS11, kS12, kS13, kS14, kS15, kS16, kS17, kS18, kS19, kS20, kS21, kS22, kS23, kS24, kS25, kS26, kS27, kS28, kS30, kS31, kS32, kS33, kS34, kS35, kS36, kS37, kS38, kS39, kS40, kS41, kS42, kS43, kS50, kS51, kS52, kS53, List.getElem?_cons_zero, List.getElem?_cons_succ, List.set_cons_zero, List.set_cons_succ, List.length_cons, List.length_nil, List.drop_succ_cons, List.drop_zero, List.cons_append, List.nil_append, Option.toList_some, Option.toList_none, cz, ci2, true_and, and_true, and_self, true_or, or_true, nI_1, Nat.reduceAdd, Nat.reduceLT]
      refine cv5 rfl rfl (by first | exact rfl | exact trivial) (Ev_d (d' := d + 10) (s_alikeI (d := 0) (Nat.le_refl n) hn (by decide) (by omega) hnx2 hO) (by omega)) ?_
      have h9 : ¬ fa (mrow X (τ fr)) (mrow X (τ nx)) 1 < 1 := by rw [hmk nx (by omega) hnx2, hal]; decide
      rw [bI_f h9]
      refine ev_seg rfl ?_
      simp only [TE, sxs, sx, ldI, ldA, stI, stA, inc, gtF, ptF, ldX, stX, ldR, ldL, stL, dp1, dp2, Tm, kS0, kS1, kS2, kS3, kS4, kS5, kS6, kS7, kS8, kS9, kS10, kS11, kS12, kS13, kS14, kS15, kS16, kS17, kS18, kS19, kS20, kS21, kS22, kS23, kS24, kS25, kS26, kS27, kS28, kS30, kS31, kS32, kS33, kS34, kS35, kS36, kS37, kS38, kS39, kS40, kS41, kS42, kS43, kS50, kS51, kS52, kS53, List.getElem?_cons_zero, List.getElem?_cons_succ, List.set_cons_zero, List.set_cons_succ, List.length_cons, List.length_nil, List.drop_succ_cons, List.drop_zero, List.cons_append, List.nil_append, Option.toList_some, Option.toList_none, cz, ci2, true_and, and_true, and_self, true_or, or_true, nI_1, Nat.reduceAdd, Nat.reduceLT]
      refine ⟨fun _ => ?_, fun h => absurd trivial h⟩
      refine ev_seg rfl ?_
      simp only [TE, sxs, sx, ldI, ldA, stI, stA, inc, gtF, ptF, ldX, stX, ldR, ldL, stL, dp1, dp2, Tm, kS0, kS1, kS2, kS3, kS4, kS5, kS6, kS7, kS8, kS9, kS10, kS11, kS12, kS13, kS14, kS15, kS16, kS17, kS18, kS19, kS20, kS21, kS22, kS23, kS24, kS25, kS26, kS27, kS28, kS30, kS31, kS32, kS33, kS34, kS35, kS36, kS37, kS38, kS39, kS40, kS41, kS42, kS43, kS50, kS51, kS52, kS53, List.getElem?_cons_zero, List.getElem?_cons_succ, List.set_cons_zero, List.set_cons_succ, List.length_cons, List.length_nil, List.drop_succ_cons, List.drop_zero, List.cons_append, List.nil_append, Option.toList_some, Option.toList_none, cz, ci2, true_and, and_true, and_self, true_or, or_true, nI_1, Nat.reduceAdd, Nat.reduceLT]
      exact b1

theorem s_draw {n : Nat} {S K : Nat → Nat → Int32} {P : Nat → Int32} {X : XT} (hn : n ≤ 5) (hn1 : 1 ≤ n) (hG : GF X g n S K) (hK : ∀ a b, a < n → b < n → a ≠ b → ¬ fa (K a) (K b) 4 = 4) (hPz : ∀ z, z < n → P z = rsC S n (fun _ => true) pF z - X.1 5 0 g (nI z)) :
    ∃ (Z : XT) (τ : Nat → Nat), Ev sc (d + 11) 43 0 (ent 43 [vR 8 0 0, vR 2 0 g]) [] X (.inl none) Z 0 ∧ Fr [11, 12, 14] X Z ∧ OrdH Z n τ ∧ (∀ i j, i < n → j < n → τ i = τ j → i = j) ∧ (∀ i, i < n → i = PT S n K P (τ i)) ∧
      (∀ i j, i < n → j < n → i ≠ j → RU Z (τ i) (τ j) = nI (RT S n K P (τ i) (τ j))) := by
  have post : ∀ X1 : XT, Fr [11, 12, 14] X X1 → OrdH X1 n id → (∀ i, i < n → mrow X1 i 0 = P i) → ∃ (Z : XT) (τ : Nat → Nat), Ev sc (d + 11) 43 2 [vR 8 0 0, vR 2 0 g, vI (nI n), vI (nI n), av0] [] X1 (.inl none) Z 0 ∧ Fr [11, 12, 14] X Z ∧ OrdH Z n τ ∧ (∀ i j, i < n → j < n → τ i = τ j → i = j) ∧ (∀ i, i < n → i = PT S n K P (τ i)) ∧
      (∀ i j, i < n → j < n → i ≠ j → RU Z (τ i) (τ j) = nI (RT S n K P (τ i) (τ j))) := by
    intro X1 hf1 hO1 hm1
    obtain ⟨X2, τ, b1, b2, b3, b4, b5, b6⟩ := s_arrange (sc := sc) (d := d + 8) (X := X1) (s := 0) (e := n) (m := 1) (fr := 0) hn (by omega) (Nat.le_refl n) (by decide) (fun i j _ _ h => h) hO1
    have hG2 := (hG.fr hf1).fr (b2.mo (by decide))
    have hm2 : ∀ i, i < n → ∀ c, c < 1 → mrow X2 (τ i) c = P (τ i) := by
      intro i hi c hc
      rw [mrow_fr b2 (by decide), show c = 0 by omega]
      exact hm1 _ (b3 i hi).2
    have hm21 : ∀ i, i < n → ∀ c, c < 1 → mrow X1 (τ i) c = P (τ i) := by
      intro i hi c hc
      rw [show c = 0 by omega]
      exact hm1 _ (b3 i hi).2
    have hinj2 := b4.2.2.2 n (Nat.le_refl n) (fun i j _ _ h => h)
    have hC2 : ∀ z, z < n → ((fun _ => true : Nat → Bool) z = true ↔ ∃ i, 0 ≤ i ∧ i < n ∧ τ i = z) := PS_C (C := fun _ => true) b4 (fun z hz => ⟨fun _ => ⟨z, Nat.zero_le _, hz, rfl⟩, fun _ => rfl⟩)
    have hfa : ∀ i j, i < n → j < n → fa (mrow X1 (τ i)) (mrow X1 (τ j)) 1 = fa (fun _ => P (τ i)) (fun _ => P (τ j)) 1 := fun i j hi hj => fa_congr (hm21 i hi) (hm21 j hj)
    obtain ⟨Z, υ, g1, g2, g3, g4, g5, g6⟩ := draw_runs (σ0 := τ) (X0 := X2) (P := P) (s_settle (sc := sc) (d := d) hn hK 5) hn hG2 hinj2 hC2 n 0 1 X2 τ (by omega) (Nat.le_refl _) (by omega) (by omega) (fun w => by omega) (Fr.rf _ _) b3 (PS.rf _ _ _)
      (fun i _ hi => hm2 i hi)
      (fun i j _ p2 p3 w => b5 i j (Nat.zero_le _) p2 p3 ((bet_congr (hm21 j p3) (hm21 i (by omega))).mpr w))
      (fun i _ p2 p3 => by rw [show i = 0 by omega]; exact fa_all.mpr (fun _ _ => rfl))
      (fun i j _ p2 => absurd p2 (by omega)) (fun i _ p2 => absurd p2 (by omega)) (fun i j _ p2 _ p4 _ p6 => absurd p6 (by omega))
      (fun i j _ p2 _ p4 p5 p6 => by
        have h9 := hfa i j p2 p4
        rw [(b6 i j p2 p4 p5).1 ⟨Nat.zero_le _, p2, Nat.zero_le _, p4, by rw [h9]; exact p6⟩, h9])
    refine ⟨Z, υ, ?_, hf1.tr ((b2.mo (by decide)).tr g2), g3, g4.2.2.2 n (Nat.le_refl n) hinj2, fun i hi => ?_, fun i j hi hj hne => g6 i j (Nat.zero_le _) hi (Nat.zero_le _) hj hne⟩
    · refine ev_seg rfl ?_
      simp only [TE, sxs, sx, ldI, ldA, stI, stA, inc, gtF, ptF, ldX, stX, ldR, ldL, stL, dp1, dp2, Tm, kS0, kS1, kS2, kS3, kS4, kS5, kS6, kS7, kS8, kS9, kS10, kS11, kS12, kS13, kS14, kS15, kS16, kS17, kS18, kS19, kS20, kS21, kS22, kS23, kS24, kS25, kS26, kS27, kS28, kS30, kS31, kS32, kS33, kS34, kS35, kS36, kS37, kS38, kS39, kS40, kS41, kS42, kS43, kS50, kS51, kS52, kS53, List.getElem?_cons_zero, List.getElem?_cons_succ, List.set_cons_zero, List.set_cons_succ, List.length_cons, List.length_nil, List.drop_succ_cons, List.drop_zero, List.cons_append, List.nil_append, Option.toList_some, Option.toList_none, cz, ci2, true_and, and_true, and_self, true_or, or_true, nI_1, Nat.reduceAdd, Nat.reduceLT]
      refine ⟨fun _ => ?_, fun h => absurd (nleI (Nat.le_refl _) (by omega)) h⟩
      refine ev_seg rfl ?_
      simp only [TE, sxs, sx, ldI, ldA, stI, stA, inc, gtF, ptF, ldX, stX, ldR, ldL, stL, dp1, dp2, Tm, kS0, kS1, kS2, kS3, kS4, kS5, kS6, kS7, kS8, kS9, kS10, kS11, kS12, kS13, kS14, kS15, kS16, kS17, kS18, kS19, kS20, kS21, kS22, kS23, kS24, kS25, kS26, kS27, kS28, kS30, kS31, kS32, kS33, kS34, kS35, kS36, kS37, kS38, kS39, kS40, kS41, kS42, kS43, kS50, kS51, kS52, kS53, List.getElem?_cons_zero, List.getElem?_cons_succ, List.set_cons_zero, List.set_cons_succ, List.length_cons, List.length_nil, List.drop_succ_cons, List.drop_zero, List.cons_append, List.nil_append, Option.toList_some, Option.toList_none, cz, ci2, true_and, and_true, and_self, true_or, or_true, nI_1, Nat.reduceAdd, Nat.reduceLT]
      refine cu5 rfl rfl (by first | exact rfl | exact trivial) (b1) ?_
      refine ev_seg rfl ?_
      simp only [TE, sxs, sx, ldI, ldA, stI, stA, inc, gtF, ptF, ldX, stX, ldR, ldL, stL, dp1, dp2, Tm, kS0, kS1, kS2, kS3, kS4, kS5, kS6, kS7, kS8, kS9, kS10, kS11, kS12, kS13, kS14, kS15, kS16, kS17, kS18, kS19, kS20, kS21, kS22, kS23, kS24, kS25, kS26, kS27, kS28, kS30, kS31, kS32, kS33, kS34, kS35, kS36, kS37, kS38, kS39, kS40, kS41, kS42, kS43, kS50, kS51, kS52, kS53, List.getElem?_cons_zero, List.getElem?_cons_succ, List.set_cons_zero, List.set_cons_succ, List.length_cons, List.length_nil, List.drop_succ_cons, List.drop_zero, List.cons_append, List.nil_append, Option.toList_some, Option.toList_none, cz, ci2, true_and, and_true, and_self, true_or, or_true, nI_1, Nat.reduceAdd, Nat.reduceLT]
      exact g1
    · have := g5 i (Nat.zero_le _) hi
      omega
  have loop : ∀ p, p ≤ n → ∀ X1 : XT, Fr [11, 12, 14] X X1 → (∀ i, i < p → X1.1 12 0 0 (nI i) = nI i) → (∀ i, i < p → mrow X1 i 0 = P i) → ∃ (Z : XT) (τ : Nat → Nat), Ev sc (d + 11) 43 2 [vR 8 0 0, vR 2 0 g, vI (nI n), vI (nI p), av0] [] X1 (.inl none) Z 0 ∧ Fr [11, 12, 14] X Z ∧ OrdH Z n τ ∧ (∀ i j, i < n → j < n → τ i = τ j → i = j) ∧ (∀ i, i < n → i = PT S n K P (τ i)) ∧
      (∀ i j, i < n → j < n → i ≠ j → RU Z (τ i) (τ j) = nI (RT S n K P (τ i) (τ j))) := by
    apply loop_up
    · intro X1 hf h1 h2
      exact post X1 hf (fun i hi => ⟨h1 i hi, hi⟩) h2
    · intro p hp ih X1 hf h1 h2
      have v1 : vp_in (nI p) 5 := vpn (by omega) (by decide)
      have c0 : vp_in 0 4 := vpn (j := 0) (by decide) (by decide)
      generalize hX2 : ((xs X1.1 12 0 0 (nI p) (nI p), X1.2) : XT) = X2
      have f2 : Fr [11, 12, 14] X1 X2 := by rw [← hX2]; exact Fr.xs _ _ _ _ _ (by decide)
      have f2' : Fr [12] X1 X2 := by rw [← hX2]; exact Fr.xs _ _ _ _ _ (by decide)
      have rN : X2.1 2 0 g 5 = nI n := by rw [f2.at 2 (by decide), hf.at 2 (by decide)]; exact hG.1
      generalize hX3 : ((xs X2.1 11 0 (nI p) 0 (rowSum X2 g (nI p) (evy n) pF n - X2.1 5 0 g (nI p)), X2.2) : XT) = X3
      have f3 : Fr [11, 12, 14] X2 X3 := by rw [← hX3]; exact Fr.xs _ _ _ _ _ (by decide)
      have f3' : Fr [11] X2 X3 := by rw [← hX3]; exact Fr.xs _ _ _ _ _ (by decide)
      have hv : rowSum X2 g (nI p) (evy n) pF n - X2.1 5 0 g (nI p) = P p := by
        rw [rowSum_all hn, hPz p hp, scC_fr (hf.tr f2) (by decide), (hf.tr f2).at 5 (by decide), hG.2.1]
      obtain ⟨Z, τ, a1, a2⟩ := ih X3 ((hf.tr f2).tr f3) (fun i hi => by
        rw [f3'.at 12 (by decide), ← hX2]
        show xs X1.1 12 0 0 (nI p) (nI p) 12 0 0 (nI i) = nI i
        by_cases hip : i = p
        · rw [hip, xs_self]
        · rw [xs_nj _ _ _ _ _ (fun q => hip (nI_inj (by omega) (by omega) q))]
          exact h1 i (by omega)) (fun i hi => by
        rw [← hX3, hv]
        by_cases hip : i = p
        · rw [hip]
          exact xs_self _ _ _ _ _ _
        · rw [mrow_xn (by omega) (by omega) hip, mrow_fr f2' (by decide)]
          exact h2 i (by omega))
      refine ⟨Z, τ, ?_, a2⟩
      refine ev_seg rfl ?_
      simp only [TE, sxs, sx, ldI, ldA, stI, stA, inc, gtF, ptF, ldX, stX, ldR, ldL, stL, dp1, dp2, Tm, kS0, kS1, kS2, kS3, kS4, kS5, kS6, kS7, kS8, kS9, kS10, kS11, kS12, kS13, kS14, kS15, kS16, kS17, kS18, kS19, kS20, kS21, kS22, kS23, kS24, kS25, kS26, kS27, kS28, kS30, kS31, kS32, kS33, kS34, kS35, kS36, kS37, kS38, kS39, kS40, kS41, kS42, kS43, kS50, kS51, kS52, kS53, List.getElem?_cons_zero, List.getElem?_cons_succ, List.set_cons_zero, List.set_cons_succ, List.length_cons, List.length_nil, List.drop_succ_cons, List.drop_zero, List.cons_append, List.nil_append, Option.toList_some, Option.toList_none, cz, ci2, true_and, and_true, and_self, true_or, or_true, nI_1, Nat.reduceAdd, Nat.reduceLT]
      refine ⟨fun h => absurd h (nle hp (by omega)), fun _ => ?_⟩
      refine ev_seg rfl ?_
      simp only [TE, sxs, sx, ldI, ldA, stI, stA, inc, gtF, ptF, ldX, stX, ldR, ldL, stL, dp1, dp2, Tm, kS0, kS1, kS2, kS3, kS4, kS5, kS6, kS7, kS8, kS9, kS10, kS11, kS12, kS13, kS14, kS15, kS16, kS17, kS18, kS19, kS20, kS21, kS22, kS23, kS24, kS25, kS26, kS27, kS28, kS30, kS31, kS32, kS33, kS34, kS35, kS36, kS37, kS38, kS39, kS40, kS41, kS42, kS43, kS50, kS51, kS52, kS53, List.getElem?_cons_zero, List.getElem?_cons_succ, List.set_cons_zero, List.set_cons_succ, List.length_cons, List.length_nil, List.drop_succ_cons, List.drop_zero, List.cons_append, List.nil_append, Option.toList_some, Option.toList_none, cz, ci2, true_and, and_true, and_self, true_or, or_true, nI_1, Nat.reduceAdd, Nat.reduceLT]
      rw [hX2]
      refine ⟨(by first | assumption | (and_intros <;> first | assumption | trivial | decide)), cv2 rfl rfl (by first | exact rfl | exact trivial) (s_pointsOf rN hn v1) ?_⟩
      refine ev_seg rfl ?_
      simp only [TE, sxs, sx, ldI, ldA, stI, stA, inc, gtF, ptF, ldX, stX, ldR, ldL, stL, dp1, dp2, Tm, kS0, kS1, kS2, kS3, kS4, kS5, kS6, kS7, kS8, kS9, kS10, kS11, kS12, kS13, kS14, kS15, kS16, kS17, kS18, kS19, kS20, kS21, kS22, kS23, kS24, kS25, kS26, kS27, kS28, kS30, kS31, kS32, kS33, kS34, kS35, kS36, kS37, kS38, kS39, kS40, kS41, kS42, kS43, kS50, kS51, kS52, kS53, List.getElem?_cons_zero, List.getElem?_cons_succ, List.set_cons_zero, List.set_cons_succ, List.length_cons, List.length_nil, List.drop_succ_cons, List.drop_zero, List.cons_append, List.nil_append, Option.toList_some, Option.toList_none, cz, ci2, true_and, and_true, and_self, true_or, or_true, nI_1, Nat.reduceAdd, Nat.reduceLT]
      refine cu4 rfl rfl (by first | exact rfl | exact trivial) (s_put9 v1 c0) ?_
      rw [hX3]
      refine ev_seg rfl ?_
      simp only [TE, sxs, sx, ldI, ldA, stI, stA, inc, gtF, ptF, ldX, stX, ldR, ldL, stL, dp1, dp2, Tm, kS0, kS1, kS2, kS3, kS4, kS5, kS6, kS7, kS8, kS9, kS10, kS11, kS12, kS13, kS14, kS15, kS16, kS17, kS18, kS19, kS20, kS21, kS22, kS23, kS24, kS25, kS26, kS27, kS28, kS30, kS31, kS32, kS33, kS34, kS35, kS36, kS37, kS38, kS39, kS40, kS41, kS42, kS43, kS50, kS51, kS52, kS53, List.getElem?_cons_zero, List.getElem?_cons_succ, List.set_cons_zero, List.set_cons_succ, List.length_cons, List.length_nil, List.drop_succ_cons, List.drop_zero, List.cons_append, List.nil_append, Option.toList_some, Option.toList_none, cz, ci2, true_and, and_true, and_self, true_or, or_true, nI_1, Nat.reduceAdd, Nat.reduceLT]
      exact a1
  obtain ⟨Z, τ, a1, a2⟩ := loop 0 (Nat.zero_le _) X (Fr.rf _ _) (fun i hi => absurd hi (by omega)) (fun i hi => absurd hi (by omega))
  refine ⟨Z, τ, ?_, a2⟩
  rw [en43]
  refine ev_seg rfl ?_
  simp only [TE, sxs, sx, ldI, ldA, stI, stA, inc, gtF, ptF, ldX, stX, ldR, ldL, stL, dp1, dp2, Tm, kS0, kS1, kS2, kS3, kS4, kS5, kS6, kS7, kS8, kS9, kS10, kS11, kS12, kS13, kS14, kS15, kS16, kS17, kS18, kS19, kS20, kS21, kS22, kS23, kS24, kS25, kS26, kS27, kS28, kS30, kS31, kS32, kS33, kS34, kS35, kS36, kS37, kS38, kS39, kS40, kS41, kS42, kS43, kS50, kS51, kS52, kS53, List.getElem?_cons_zero, List.getElem?_cons_succ, List.set_cons_zero, List.set_cons_succ, List.length_cons, List.length_nil, List.drop_succ_cons, List.drop_zero, List.cons_append, List.nil_append, Option.toList_some, Option.toList_none, cz, ci2, true_and, and_true, and_self, true_or, or_true, nI_1, Nat.reduceAdd, Nat.reduceLT]
  refine cv1 rfl rfl (by first | exact rfl | exact trivial) (s_size) ?_
  rw [hG.1]
  refine ev_seg rfl ?_
  simp only [TE, sxs, sx, ldI, ldA, stI, stA, inc, gtF, ptF, ldX, stX, ldR, ldL, stL, dp1, dp2, Tm, kS0, kS1, kS2, kS3, kS4, kS5, kS6, kS7, kS8, kS9, kS10, kS11, kS12, kS13, kS14, kS15, kS16, kS17, kS18, kS19, kS20, kS21, kS22, kS23, kS24, kS25, kS26, kS27, kS28, kS30, kS31, kS32, kS33, kS34, kS35, kS36, kS37, kS38, kS39, kS40, kS41, kS42, kS43, kS50, kS51, kS52, kS53, List.getElem?_cons_zero, List.getElem?_cons_succ, List.set_cons_zero, List.set_cons_succ, List.length_cons, List.length_nil, List.drop_succ_cons, List.drop_zero, List.cons_append, List.nil_append, Option.toList_some, Option.toList_none, cz, ci2, true_and, and_true, and_self, true_or, or_true, nI_1, Nat.reduceAdd, Nat.reduceLT]
  exact a1
variable {X : XT}
theorem s_seatAt {p : Int32} (hp : vp_in p 5) : Ev sc d 44 0 (ent 44 [vR 8 0 0, vI p]) [] X (.inl (some (.inl (X.1 12 0 0 p)))) X 0 := by
  rw [en44]
  refine ev_seg rfl ?_
  simp only [TE, sxs, sx, ldI, ldA, stI, stA, inc, gtF, ptF, ldX, stX, ldR, ldL, stL, dp1, dp2, Tm, kS0, kS1, kS2, kS3, kS4, kS5, kS6, kS7, kS8, kS9, kS10, kS11, kS12, kS13, kS14, kS15, kS16, kS17, kS18, kS19, kS20, kS21, kS22, kS23, kS24, kS25, kS26, kS27, kS28, kS30, kS31, kS32, kS33, kS34, kS35, kS36, kS37, kS38, kS39, kS40, kS41, kS42, kS43, kS50, kS51, kS52, kS53, List.getElem?_cons_zero, List.getElem?_cons_succ, List.set_cons_zero, List.set_cons_succ, List.length_cons, List.length_nil, List.drop_succ_cons, List.drop_zero, List.cons_append, List.nil_append, Option.toList_some, Option.toList_none, cz, ci2, true_and, and_true, and_self, true_or, or_true, nI_1, Nat.reduceAdd, Nat.reduceLT]
  exact hp
theorem s_ruleBetween {a b : Int32} (ha : vp_in a 5) (hb : vp_in b 5) : Ev sc d 46 0 (ent 46 [vR 8 0 0, vI a, vI b]) [] X (.inl (some (.inl (X.1 14 0 a b)))) X 0 := by
  rw [en46]
  refine ev_seg rfl ?_
  simp only [TE, sxs, sx, ldI, ldA, stI, stA, inc, gtF, ptF, ldX, stX, ldR, ldL, stL, dp1, dp2, Tm, kS0, kS1, kS2, kS3, kS4, kS5, kS6, kS7, kS8, kS9, kS10, kS11, kS12, kS13, kS14, kS15, kS16, kS17, kS18, kS19, kS20, kS21, kS22, kS23, kS24, kS25, kS26, kS27, kS28, kS30, kS31, kS32, kS33, kS34, kS35, kS36, kS37, kS38, kS39, kS40, kS41, kS42, kS43, kS50, kS51, kS52, kS53, List.getElem?_cons_zero, List.getElem?_cons_succ, List.set_cons_zero, List.set_cons_succ, List.length_cons, List.length_nil, List.drop_succ_cons, List.drop_zero, List.cons_append, List.nil_append, Option.toList_some, Option.toList_none, cz, ci2, true_and, and_true, and_self, true_or, or_true, nI_1, Nat.reduceAdd, Nat.reduceLT]
  refine ⟨(by first | assumption | (and_intros <;> first | assumption | trivial | decide)), ?_⟩
  trivial
/-- the place of a seat, when an order holds it -/
theorem s_placeOf {n : Nat} {σ : Nat → Nat} (hn : n ≤ 5) (hO : OrdH X n σ) (hinj : ∀ i j, i < n → j < n → σ i = σ j → i = j) {p : Nat} (hp : p < n) : Ev sc d 45 0 (ent 45 [vR 8 0 0, vI (nI (σ p))]) [] X (.inl (some (.inl (nI p)))) X 0 := by
  have loop : ∀ q, q ≤ p → Ev sc d 45 1 [vR 8 0 0, vI (nI (σ p)), vI (nI q)] [] X (.inl (some (.inl (nI p)))) X 0 := by
    apply loop_up
    · have hv : vp_in (nI p) 5 := vpn (by omega) (by decide)
      refine ev_seg rfl ?_
      simp only [TE, sxs, sx, ldI, ldA, stI, stA, inc, gtF, ptF, ldX, stX, ldR, ldL, stL, dp1, dp2, Tm, kS0, kS1, kS2, kS3, kS4, kS5, kS6, kS7, kS8, kS9, kS10, kS11, kS12, kS13, kS14, kS15, kS16, kS17, kS18, kS19, kS20, kS21, kS22, kS23, kS24, kS25, kS26, kS27, kS28, kS30, kS31, kS32, kS33, kS34, kS35, kS36, kS37, kS38, kS39, kS40, kS41, kS42, kS43, kS50, kS51, kS52, kS53, List.getElem?_cons_zero, List.getElem?_cons_succ, List.set_cons_zero, List.set_cons_succ, List.length_cons, List.length_nil, List.drop_succ_cons, List.drop_zero, List.cons_append, List.nil_append, Option.toList_some, Option.toList_none, cz, ci2, true_and, and_true, and_self, true_or, or_true, nI_1, Nat.reduceAdd, Nat.reduceLT]
      refine ⟨fun _ => ?_, fun h => ?_⟩
      · refine ev_seg rfl ?_
        simp only [TE, sxs, sx, ldI, ldA, stI, stA, inc, gtF, ptF, ldX, stX, ldR, ldL, stL, dp1, dp2, Tm, kS0, kS1, kS2, kS3, kS4, kS5, kS6, kS7, kS8, kS9, kS10, kS11, kS12, kS13, kS14, kS15, kS16, kS17, kS18, kS19, kS20, kS21, kS22, kS23, kS24, kS25, kS26, kS27, kS28, kS30, kS31, kS32, kS33, kS34, kS35, kS36, kS37, kS38, kS39, kS40, kS41, kS42, kS43, kS50, kS51, kS52, kS53, List.getElem?_cons_zero, List.getElem?_cons_succ, List.set_cons_zero, List.set_cons_succ, List.length_cons, List.length_nil, List.drop_succ_cons, List.drop_zero, List.cons_append, List.nil_append, Option.toList_some, Option.toList_none, cz, ci2, true_and, and_true, and_self, true_or, or_true, nI_1, Nat.reduceAdd, Nat.reduceLT]
      · refine ev_seg rfl ?_
        simp only [TE, sxs, sx, ldI, ldA, stI, stA, inc, gtF, ptF, ldX, stX, ldR, ldL, stL, dp1, dp2, Tm, kS0, kS1, kS2, kS3, kS4, kS5, kS6, kS7, kS8, kS9, kS10, kS11, kS12, kS13, kS14, kS15, kS16, kS17, kS18, kS19, kS20, kS21, kS22, kS23, kS24, kS25, kS26, kS27, kS28, kS30, kS31, kS32, kS33, kS34, kS35, kS36, kS37, kS38, kS39, kS40, kS41, kS42, kS43, kS50, kS51, kS52, kS53, List.getElem?_cons_zero, List.getElem?_cons_succ, List.set_cons_zero, List.set_cons_succ, List.length_cons, List.length_nil, List.drop_succ_cons, List.drop_zero, List.cons_append, List.nil_append, Option.toList_some, Option.toList_none, cz, ci2, true_and, and_true, and_self, true_or, or_true, nI_1, Nat.reduceAdd, Nat.reduceLT, (hO p hp).1]
        refine ⟨(by first | assumption | (and_intros <;> first | assumption | trivial | decide)), fun _ => ?_, fun h => absurd trivial h⟩
        refine ev_seg rfl ?_
        simp only [TE, sxs, sx, ldI, ldA, stI, stA, inc, gtF, ptF, ldX, stX, ldR, ldL, stL, dp1, dp2, Tm, kS0, kS1, kS2, kS3, kS4, kS5, kS6, kS7, kS8, kS9, kS10, kS11, kS12, kS13, kS14, kS15, kS16, kS17, kS18, kS19, kS20, kS21, kS22, kS23, kS24, kS25, kS26, kS27, kS28, kS30, kS31, kS32, kS33, kS34, kS35, kS36, kS37, kS38, kS39, kS40, kS41, kS42, kS43, kS50, kS51, kS52, kS53, List.getElem?_cons_zero, List.getElem?_cons_succ, List.set_cons_zero, List.set_cons_succ, List.length_cons, List.length_nil, List.drop_succ_cons, List.drop_zero, List.cons_append, List.nil_append, Option.toList_some, Option.toList_none, cz, ci2, true_and, and_true, and_self, true_or, or_true, nI_1, Nat.reduceAdd, Nat.reduceLT]
    · intro q hq ih
      have hv : vp_in (nI q) 5 := vpn (by omega) (by decide)
      refine ev_seg rfl ?_
      simp only [TE, sxs, sx, ldI, ldA, stI, stA, inc, gtF, ptF, ldX, stX, ldR, ldL, stL, dp1, dp2, Tm, kS0, kS1, kS2, kS3, kS4, kS5, kS6, kS7, kS8, kS9, kS10, kS11, kS12, kS13, kS14, kS15, kS16, kS17, kS18, kS19, kS20, kS21, kS22, kS23, kS24, kS25, kS26, kS27, kS28, kS30, kS31, kS32, kS33, kS34, kS35, kS36, kS37, kS38, kS39, kS40, kS41, kS42, kS43, kS50, kS51, kS52, kS53, List.getElem?_cons_zero, List.getElem?_cons_succ, List.set_cons_zero, List.set_cons_succ, List.length_cons, List.length_nil, List.drop_succ_cons, List.drop_zero, List.cons_append, List.nil_append, Option.toList_some, Option.toList_none, cz, ci2, true_and, and_true, and_self, true_or, or_true, nI_1, Nat.reduceAdd, Nat.reduceLT]
      refine ⟨fun h => absurd h (nle (by omega : q < 4) (by decide)), fun _ => ?_⟩
      refine ev_seg rfl ?_
      simp only [TE, sxs, sx, ldI, ldA, stI, stA, inc, gtF, ptF, ldX, stX, ldR, ldL, stL, dp1, dp2, Tm, kS0, kS1, kS2, kS3, kS4, kS5, kS6, kS7, kS8, kS9, kS10, kS11, kS12, kS13, kS14, kS15, kS16, kS17, kS18, kS19, kS20, kS21, kS22, kS23, kS24, kS25, kS26, kS27, kS28, kS30, kS31, kS32, kS33, kS34, kS35, kS36, kS37, kS38, kS39, kS40, kS41, kS42, kS43, kS50, kS51, kS52, kS53, List.getElem?_cons_zero, List.getElem?_cons_succ, List.set_cons_zero, List.set_cons_succ, List.length_cons, List.length_nil, List.drop_succ_cons, List.drop_zero, List.cons_append, List.nil_append, Option.toList_some, Option.toList_none, cz, ci2, true_and, and_true, and_self, true_or, or_true, nI_1, Nat.reduceAdd, Nat.reduceLT, (hO q (by omega)).1]
      refine ⟨(by first | assumption | (and_intros <;> first | assumption | trivial | decide)), fun h => absurd (hinj q p (by omega) hp (nI_inj (by have := (hO q (by omega)).2; omega) (by have := (hO p hp).2; omega) h)) (by omega), fun _ => ?_⟩
      refine ev_seg rfl ?_
      simp only [TE, sxs, sx, ldI, ldA, stI, stA, inc, gtF, ptF, ldX, stX, ldR, ldL, stL, dp1, dp2, Tm, kS0, kS1, kS2, kS3, kS4, kS5, kS6, kS7, kS8, kS9, kS10, kS11, kS12, kS13, kS14, kS15, kS16, kS17, kS18, kS19, kS20, kS21, kS22, kS23, kS24, kS25, kS26, kS27, kS28, kS30, kS31, kS32, kS33, kS34, kS35, kS36, kS37, kS38, kS39, kS40, kS41, kS42, kS43, kS50, kS51, kS52, kS53, List.getElem?_cons_zero, List.getElem?_cons_succ, List.set_cons_zero, List.set_cons_succ, List.length_cons, List.length_nil, List.drop_succ_cons, List.drop_zero, List.cons_append, List.nil_append, Option.toList_some, Option.toList_none, cz, ci2, true_and, and_true, and_self, true_or, or_true, nI_1, Nat.reduceAdd, Nat.reduceLT]
      exact ih
  rw [en45]
  refine ev_seg rfl ?_
  simp only [TE, sxs, sx, ldI, ldA, stI, stA, inc, gtF, ptF, ldX, stX, ldR, ldL, stL, dp1, dp2, Tm, kS0, kS1, kS2, kS3, kS4, kS5, kS6, kS7, kS8, kS9, kS10, kS11, kS12, kS13, kS14, kS15, kS16, kS17, kS18, kS19, kS20, kS21, kS22, kS23, kS24, kS25, kS26, kS27, kS28, kS30, kS31, kS32, kS33, kS34, kS35, kS36, kS37, kS38, kS39, kS40, kS41, kS42, kS43, kS50, kS51, kS52, kS53, List.getElem?_cons_zero, List.getElem?_cons_succ, List.set_cons_zero, List.set_cons_succ, List.length_cons, List.length_nil, List.drop_succ_cons, List.drop_zero, List.cons_append, List.nil_append, Option.toList_some, Option.toList_none, cz, ci2, true_and, and_true, and_self, true_or, or_true, nI_1, Nat.reduceAdd, Nat.reduceLT]
  exact loop 0 (Nat.zero_le _)
end Drw
end
section
/-! the best thirds -/
section Thd
variable {sc : SC} {d : Nat} {g : Int32} {X : XT}
/-- a group that may be drawn -/
def GOK (X : XT) (g : Int32) (n : Nat) : Prop := X.1 2 0 g 5 = nI n ∧ 3 ≤ n ∧ n ≤ 5 ∧ ∀ a b, a < n → b < n → a ≠ b → ¬ fa (K4 X g n a) (K4 X g n b) 4 = 4
def PX (X : XT) (g : Int32) (n z : Nat) : Int32 := rsC (scC X g) n (fun _ => true) pF z - X.1 5 0 g (nI z)
/-- the place of a team -/
def PTX (X : XT) (g : Int32) (n : Nat) : Nat → Nat := PT (scC X g) n (K4 X g n) (PX X g n)
/-- the rule between two teams -/
def RTX (X : XT) (g : Int32) (n : Nat) : Nat → Nat → Nat := RT (scC X g) n (K4 X g n) (PX X g n)
theorem PX_fr {K : List Nat} {X' : XT} {n : Nat} (h : Fr K X X') (h4 : 4 ∉ K) (h5 : 5 ∉ K) : PX X' g n = PX X g n := by
  funext z
  unfold PX
  rw [scC_fr h h4, h.at 5 h5]
theorem GOK.fr {K : List Nat} {X' : XT} {n : Nat} (hG : GOK X g n) (h : Fr K X X') (h2 : 2 ∉ K) (h4 : 4 ∉ K) (h6 : 6 ∉ K) (h7 : 7 ∉ K) : GOK X' g n := by
  refine ⟨by rw [h.at 2 h2]; exact hG.1, hG.2.1, hG.2.2.1, ?_⟩
  rw [K4_fr h h4 h6 h7 h2]
  exact hG.2.2.2
theorem PTX_fr {K : List Nat} {X' : XT} {n : Nat} (h : Fr K X X') (h2 : 2 ∉ K) (h4 : 4 ∉ K) (h5 : 5 ∉ K) (h6 : 6 ∉ K) (h7 : 7 ∉ K) : PTX X' g n = PTX X g n := by
  unfold PTX
  rw [K4_fr h h4 h6 h7 h2, scC_fr h h4, PX_fr h h4 h5]
theorem RTX_fr {K : List Nat} {X' : XT} {n : Nat} (h : Fr K X X') (h2 : 2 ∉ K) (h4 : 4 ∉ K) (h5 : 5 ∉ K) (h6 : 6 ∉ K) (h7 : 7 ∉ K) : RTX X' g n = RTX X g n := by
  unfold RTX
  rw [K4_fr h h4 h6 h7 h2, scC_fr h h4, PX_fr h h4 h5]
/-- what drawing the table of a group gives -/
def DRW (X : XT) (g : Int32) (n : Nat) (Z : XT) (τ : Nat → Nat) : Prop := Fr [11, 12, 14] X Z ∧ OrdH Z n τ ∧ (∀ i j, i < n → j < n → τ i = τ j → i = j) ∧ (∀ i, i < n → i = PTX X g n (τ i)) ∧ (∀ i j, i < n → j < n → i ≠ j → RU Z (τ i) (τ j) = nI (RTX X g n (τ i) (τ j)))
theorem s_drawX {n : Nat} (hG : GOK X g n) : ∃ (Z : XT) (τ : Nat → Nat), Ev sc (d + 11) 43 0 (ent 43 [vR 8 0 0, vR 2 0 g]) [] X (.inl none) Z 0 ∧ DRW X g n Z τ := by
  obtain ⟨Z, τ, a1, a2, a3, a4, a5, a6⟩ := s_draw (sc := sc) (d := d) (S := scC X g) (K := K4 X g n) (P := PX X g n) hG.2.2.1 (by have := hG.2.1; omega) ⟨hG.1, rfl, rfl⟩ hG.2.2.2 (fun _ _ => rfl)
  exact ⟨Z, τ, a1, a2, a3, a4, a5, a6⟩
theorem DRW.onto {n : Nat} {Z : XT} {τ : Nat → Nat} (h : DRW X g n Z τ) {z : Nat} (hz : z < n) : ∃ i, i < n ∧ τ i = z ∧ PTX X g n z = i := by
  obtain ⟨i, a, b⟩ := fb_onto (f := τ) (fun i hi => (h.2.1 i hi).2) (fun i j p q w => by have := h.2.2.1 i j (by omega) q w; omega) hz
  have := h.2.2.2.1 i a
  rw [b] at this
  exact ⟨i, a, b, this.symm⟩
theorem DRW.lt {n : Nat} {Z : XT} {τ : Nat → Nat} (h : DRW X g n Z τ) {z : Nat} (hz : z < n) : PTX X g n z < n := by
  obtain ⟨i, a, b, c⟩ := h.onto hz
  omega
theorem DRW.at {n : Nat} {Z : XT} {τ : Nat → Nat} (h : DRW X g n Z τ) {z : Nat} (hz : z < n) : τ (PTX X g n z) = z := by
  obtain ⟨i, a, b, c⟩ := h.onto hz
  rw [c, b]
/-- the marks of a third; m: how many of the first count -/
def T5 (X : XT) (g : Int32) (n m t q : Nat) : Int32 := if q = 0 then rsC (scC X g) n (fun z => decide (PTX X g n z < m)) pF t - X.1 5 0 g (nI t) else if q = 1 then rsC (scC X g) n (fun z => decide (PTX X g n z < m)) dF t else if q = 2 then rsC (scC X g) n (fun z => decide (PTX X g n z < m)) gF9 t else if q = 3 then -X.1 6 0 g (nI t) else lotMk X g (nI t)
theorem T5_fr {K : List Nat} {X' : XT} {n m : Nat} (h : Fr K X X') (h2 : 2 ∉ K) (h4 : 4 ∉ K) (h5 : 5 ∉ K) (h6 : 6 ∉ K) (h7 : 7 ∉ K) : T5 X' g n m = T5 X g n m := by
  funext t q
  unfold T5 lotMk
  rw [PTX_fr h h2 h4 h5 h6 h7, scC_fr h h4, h.at 5 h5, h.at 6 h6, h.at 7 h7, h.at 2 h2]
def trow (X : XT) (g : Nat) : Nat → Int32 := fun c => X.1 18 0 (nI g) (nI c)
theorem trow_xs {a z c : Nat} {v : Int32} (hz : z < 6) (ha : a < 6) (hc : c < 5) (q : Nat) (hq : q < 5) : trow (xs X.1 18 0 (nI a) (nI c) v, X.2) z q = if z = a ∧ q = c then v else trow X z q := by
  show (if 18 = 18 ∧ (0 : Int32) = 0 ∧ nI z = nI a ∧ nI q = nI c then v else X.1 18 0 (nI z) (nI q)) = _
  have e1 : nI z = nI a ↔ z = a := ⟨fun e => nI_inj (by omega) (by omega) e, fun e => by rw [e]⟩
  have e2 : nI q = nI c ↔ q = c := ⟨fun e => nI_inj (by omega) (by omega) e, fun e => by rw [e]⟩
  simp only [e1, e2, true_and]
  rfl
theorem trow_fr {K : List Nat} {X' : XT} (h : Fr K X X') (hk : 18 ∉ K) (z : Nat) : trow X' z = trow X z := by
  funext c
  exact h.at 18 hk _ _ _
/-- the size of the smallest group -/
def mnS (nn : Nat → Nat) : Nat → Nat
  | 0 => 5
  | k + 1 => min (mnS nn k) (nn k)
theorem mnS_le (nn : Nat → Nat) : ∀ k, mnS nn k ≤ 5
  | 0 => Nat.le_refl _
  | k + 1 => Nat.le_trans (Nat.min_le_left _ _) (mnS_le nn k)
theorem mnS_at (nn : Nat → Nat) {i : Nat} : ∀ {k}, i < k → mnS nn k ≤ nn i
  | k + 1, h => by
    by_cases hi : i = k
    · rw [hi]; exact Nat.min_le_right _ _
    · exact Nat.le_trans (Nat.min_le_left _ _) (mnS_at nn (by omega))
theorem s_smallestSize {c : Nat} {nn : Nat → Nat} (hc : c ≤ 6) (hn : ∀ i, i < c → X.1 2 0 (nI i) 5 = nI (nn i) ∧ nn i ≤ 5) : Ev sc (d + 1) 57 0 (ent 57 [vR 1 0 0, vI (nI c)]) [] X (.inl (some (.inl (nI (mnS nn c))))) X 0 := by
  have loop : ∀ p, p ≤ c → Ev sc (d + 1) 57 1 [vR 1 0 0, vI (nI c), vI (nI (mnS nn p)), vI (nI p)] [] X (.inl (some (.inl (nI (mnS nn c))))) X 0 := by
    apply loop_up
    · refine ev_seg rfl ?_
      simp only [TE, sxs, sx, ldI, ldA, stI, stA, inc, gtF, ptF, ldX, stX, ldR, ldL, stL, dp1, dp2, Tm, kS0, kS1, kS2, kS3, kS4, kS5, kS6, kS7, kS8, kS9, kS10, kS11, kS12, kS13, kS14, kS15, kS16, kS17, kS18, kS19, kS20, kS21, kS22, kS23, kS24, kS25, kS26, kS27, kS28, kS30, kS31, kS32, kS33, kS34, kS35, kS36, kS37, kS38, kS39, kS40, kS41, kS42, kS43, kS50, kS51, kS52, kS53, List.getElem?_cons_zero, List.getElem?_cons_succ, List.set_cons_zero, List.set_cons_succ, List.length_cons, List.length_nil, List.drop_succ_cons, List.drop_zero, List.cons_append, List.nil_append, Option.toList_some, Option.toList_none, cz, ci2, true_and, and_true, and_self, true_or, or_true, nI_1, Nat.reduceAdd, Nat.reduceLT]
      refine ⟨fun _ => ?_, fun h => absurd (nleI (Nat.le_refl _) (by omega)) h⟩
      refine ev_seg rfl ?_
      simp only [TE, sxs, sx, ldI, ldA, stI, stA, inc, gtF, ptF, ldX, stX, ldR, ldL, stL, dp1, dp2, Tm, kS0, kS1, kS2, kS3, kS4, kS5, kS6, kS7, kS8, kS9, kS10, kS11, kS12, kS13, kS14, kS15, kS16, kS17, kS18, kS19, kS20, kS21, kS22, kS23, kS24, kS25, kS26, kS27, kS28, kS30, kS31, kS32, kS33, kS34, kS35, kS36, kS37, kS38, kS39, kS40, kS41, kS42, kS43, kS50, kS51, kS52, kS53, List.getElem?_cons_zero, List.getElem?_cons_succ, List.set_cons_zero, List.set_cons_succ, List.length_cons, List.length_nil, List.drop_succ_cons, List.drop_zero, List.cons_append, List.nil_append, Option.toList_some, Option.toList_none, cz, ci2, true_and, and_true, and_self, true_or, or_true, nI_1, Nat.reduceAdd, Nat.reduceLT]
    · intro p hp ih
      have hv : vp_in (nI p) 6 := vpn (by omega) (by decide)
      obtain ⟨h1, h2⟩ := hn p hp
      have hm := mnS_le nn p
      have e1 : (if nI (nn p) < nI (mnS nn p) then nI (nn p) else nI (mnS nn p)) = nI (mnS nn (p + 1)) := by
        show _ = nI (min (mnS nn p) (nn p))
        by_cases h : nn p < mnS nn p
        · rw [if_pos (nI_lt h (by omega)), Nat.min_eq_right (by omega)]
        · rw [if_neg (i_nlt (nleI (by omega) (by omega))), Nat.min_eq_left (by omega)]
      refine ev_seg rfl ?_
      simp only [TE, sxs, sx, ldI, ldA, stI, stA, inc, gtF, ptF, ldX, stX, ldR, ldL, stL, dp1, dp2, Tm, kS0, kS1, kS2, kS3, kS4, kS5, kS6, kS7, kS8, kS9, kS10, kS11, kS12, kS13, kS14, kS15, kS16, kS17, kS18, kS19, kS20, kS21, kS22, kS23, kS24, kS25, kS26, kS27, kS28, kS30, kS31, kS32, kS33, kS34, kS35, kS36, kS37, kS38, kS39, kS40, kS41, kS42, kS43, kS50, kS51, kS52, kS53, List.getElem?_cons_zero, List.getElem?_cons_succ, List.set_cons_zero, List.set_cons_succ, List.length_cons, List.length_nil, List.drop_succ_cons, List.drop_zero, List.cons_append, List.nil_append, Option.toList_some, Option.toList_none, cz, ci2, true_and, and_true, and_self, true_or, or_true, nI_1, Nat.reduceAdd, Nat.reduceLT]
      refine ⟨fun h => absurd h (nle hp (by omega)), fun _ => ?_⟩
      refine ev_seg rfl ?_
      simp only [TE, sxs, sx, ldI, ldA, stI, stA, inc, gtF, ptF, ldX, stX, ldR, ldL, stL, dp1, dp2, Tm, kS0, kS1, kS2, kS3, kS4, kS5, kS6, kS7, kS8, kS9, kS10, kS11, kS12, kS13, kS14, kS15, kS16, kS17, kS18, kS19, kS20, kS21, kS22, kS23, kS24, kS25, kS26, kS27, kS28, kS30, kS31, kS32, kS33, kS34, kS35, kS36, kS37, kS38, kS39, kS40, kS41, kS42, kS43, kS50, kS51, kS52, kS53, List.getElem?_cons_zero, List.getElem?_cons_succ, List.set_cons_zero, List.set_cons_succ, List.length_cons, List.length_nil, List.drop_succ_cons, List.drop_zero, List.cons_append, List.nil_append, Option.toList_some, Option.toList_none, cz, ci2, true_and, and_true, and_self, true_or, or_true, nI_1, Nat.reduceAdd, Nat.reduceLT]
      refine ⟨(by first | assumption | (and_intros <;> first | assumption | trivial | decide)), cv1 rfl rfl (by first | exact rfl | exact trivial) (s_size) ?_⟩
      rw [h1]
      refine ev_seg rfl ?_
      simp only [TE, sxs, sx, ldI, ldA, stI, stA, inc, gtF, ptF, ldX, stX, ldR, ldL, stL, dp1, dp2, Tm, kS0, kS1, kS2, kS3, kS4, kS5, kS6, kS7, kS8, kS9, kS10, kS11, kS12, kS13, kS14, kS15, kS16, kS17, kS18, kS19, kS20, kS21, kS22, kS23, kS24, kS25, kS26, kS27, kS28, kS30, kS31, kS32, kS33, kS34, kS35, kS36, kS37, kS38, kS39, kS40, kS41, kS42, kS43, kS50, kS51, kS52, kS53, List.getElem?_cons_zero, List.getElem?_cons_succ, List.set_cons_zero, List.set_cons_succ, List.length_cons, List.length_nil, List.drop_succ_cons, List.drop_zero, List.cons_append, List.nil_append, Option.toList_some, Option.toList_none, cz, ci2, true_and, and_true, and_self, true_or, or_true, nI_1, Nat.reduceAdd, Nat.reduceLT, e1]
      exact ⟨(by first | assumption | (and_intros <;> first | assumption | trivial | decide)), ih⟩
  rw [en57]
  refine ev_seg rfl ?_
  simp only [TE, sxs, sx, ldI, ldA, stI, stA, inc, gtF, ptF, ldX, stX, ldR, ldL, stL, dp1, dp2, Tm, kS0, kS1, kS2, kS3, kS4, kS5, kS6, kS7, kS8, kS9, kS10, kS11, kS12, kS13, kS14, kS15, kS16, kS17, kS18, kS19, kS20, kS21, kS22, kS23, kS24, kS25, kS26, kS27, kS28, kS30, kS31, kS32, kS33, kS34, kS35, kS36, kS37, kS38, kS39, kS40, kS41, kS42, kS43, kS50, kS51, kS52, kS53, List.getElem?_cons_zero, List.getElem?_cons_succ, List.set_cons_zero, List.set_cons_succ, List.length_cons, List.length_nil, List.drop_succ_cons, List.drop_zero, List.cons_append, List.nil_append, Option.toList_some, Option.toList_none, cz, ci2, true_and, and_true, and_self, true_or, or_true, nI_1, Nat.reduceAdd, Nat.reduceLT]
  exact loop 0 (Nat.zero_le _)
theorem s_pointsOfThird {a : Int32} (ha : vp_in a 6) : Ev sc (d + 1) 55 0 (ent 55 [vR 15 0 0, vI a]) [] X (.inl (some (.inl (X.1 18 0 a 0)))) X 0 := by
  have c0 : vp_in 0 5 := vpn (j := 0) (by decide) (by decide)
  rw [en55]
  refine ev_seg rfl ?_
  simp only [TE, sxs, sx, ldI, ldA, stI, stA, inc, gtF, ptF, ldX, stX, ldR, ldL, stL, dp1, dp2, Tm, kS0, kS1, kS2, kS3, kS4, kS5, kS6, kS7, kS8, kS9, kS10, kS11, kS12, kS13, kS14, kS15, kS16, kS17, kS18, kS19, kS20, kS21, kS22, kS23, kS24, kS25, kS26, kS27, kS28, kS30, kS31, kS32, kS33, kS34, kS35, kS36, kS37, kS38, kS39, kS40, kS41, kS42, kS43, kS50, kS51, kS52, kS53, List.getElem?_cons_zero, List.getElem?_cons_succ, List.set_cons_zero, List.set_cons_succ, List.length_cons, List.length_nil, List.drop_succ_cons, List.drop_zero, List.cons_append, List.nil_append, Option.toList_some, Option.toList_none, cz, ci2, true_and, and_true, and_self, true_or, or_true, nI_1, Nat.reduceAdd, Nat.reduceLT]
  refine cv3 rfl rfl (by first | exact rfl | exact trivial) (s_at16 ha c0) ?_
  refine ev_seg rfl ?_
  simp only [TE, sxs, sx, ldI, ldA, stI, stA, inc, gtF, ptF, ldX, stX, ldR, ldL, stL, dp1, dp2, Tm, kS0, kS1, kS2, kS3, kS4, kS5, kS6, kS7, kS8, kS9, kS10, kS11, kS12, kS13, kS14, kS15, kS16, kS17, kS18, kS19, kS20, kS21, kS22, kS23, kS24, kS25, kS26, kS27, kS28, kS30, kS31, kS32, kS33, kS34, kS35, kS36, kS37, kS38, kS39, kS40, kS41, kS42, kS43, kS50, kS51, kS52, kS53, List.getElem?_cons_zero, List.getElem?_cons_succ, List.set_cons_zero, List.set_cons_succ, List.length_cons, List.length_nil, List.drop_succ_cons, List.drop_zero, List.cons_append, List.nil_append, Option.toList_some, Option.toList_none, cz, ci2, true_and, and_true, and_self, true_or, or_true, nI_1, Nat.reduceAdd, Nat.reduceLT]
theorem s_isB16 {z t : Nat} (hz : z < 6) (ht : t < 6) : Ev sc (d + 1) 31 0 (ent 31 [vR 16 0 0, vI (nI z), vI (nI t), vI 5]) [] X (.inl (some (.inl (bI (betB (trow X z) (trow X t) 5 = true))))) X 0 := by
  haveI : Decidable (bet (fun c => X.1 18 0 (nI z) (nI c)) (fun c => X.1 18 0 (nI t) (nI c)) 5) := betD _ _ _
  have h := s_isBetter16 (sc := sc) (d := d) (X := X) (m := 5) (vpn hz (by decide)) (vpn ht (by decide)) (by decide)
  have e1 : bI (bet (fun c => X.1 18 0 (nI z) (nI c)) (fun c => X.1 18 0 (nI t) (nI c)) 5) = bI (betB (trow X z) (trow X t) 5 = true) := by
    by_cases hb : bet (trow X z) (trow X t) 5
    · rw [bI_t (show bet (fun c => X.1 18 0 (nI z) (nI c)) (fun c => X.1 18 0 (nI t) (nI c)) 5 from hb), bI_t (betB_iff.mpr hb)]
    · rw [bI_f (show ¬ bet (fun c => X.1 18 0 (nI z) (nI c)) (fun c => X.1 18 0 (nI t) (nI c)) 5 from hb), bI_f (by rw [betB_no hb]; decide)]
  rw [e1] at h
  exact h
/-- how many thirds are better -/
theorem s_betterThan {c t : Nat} (hc : c ≤ 6) (ht : t < 6) : Ev sc (d + 2) 56 0 (ent 56 [vR 15 0 0, vI (nI t), vI (nI c)]) [] X (.inl (some (.inl (nI (ct (fun z => betB (trow X z) (trow X t) 5) c))))) X 0 := by
  have loop : ∀ p, p ≤ c → Ev sc (d + 2) 56 1 [vR 15 0 0, vI (nI t), vI (nI c), vI (nI (ct (fun z => betB (trow X z) (trow X t) 5) p)), vI (nI p)] [] X (.inl (some (.inl (nI (ct (fun z => betB (trow X z) (trow X t) 5) c))))) X 0 := by
    apply loop_up
    · refine ev_seg rfl ?_
      simp only [TE, sxs, sx, ldI, ldA, stI, stA, inc, gtF, ptF, ldX, stX, ldR, ldL, stL, dp1, dp2, Tm, kS0, kS1, kS2, kS3, kS4, kS5, kS6, kS7, kS8, kS9, kS10, kS11, kS12, kS13, kS14, kS15, kS16, kS17, kS18, kS19, kS20, kS21, kS22, kS23, kS24, kS25, kS26, kS27, kS28, kS30, kS31, kS32, kS33, kS34, kS35, kS36, kS37, kS38, kS39, kS40, kS41, kS42, kS43, kS50, kS51, kS52, kS53, List.getElem?_cons_zero, List.getElem?_cons_succ, List.set_cons_zero, List.set_cons_succ, List.length_cons, List.length_nil, List.drop_succ_cons, List.drop_zero, List.cons_append, List.nil_append, Option.toList_some, Option.toList_none, cz, ci2, true_and, and_true, and_self, true_or, or_true, nI_1, Nat.reduceAdd, Nat.reduceLT]
      refine ⟨fun _ => ?_, fun h => absurd (nleI (Nat.le_refl _) (by omega)) h⟩
      refine ev_seg rfl ?_
      simp only [TE, sxs, sx, ldI, ldA, stI, stA, inc, gtF, ptF, ldX, stX, ldR, ldL, stL, dp1, dp2, Tm, kS0, kS1, kS2, kS3, kS4, kS5, kS6, kS7, kS8, kS9, kS10, kS11, kS12, kS13, kS14, kS15, kS16, kS17, kS18, kS19, kS20, kS21, kS22, kS23, kS24, kS25, kS26, kS27, kS28, kS30, kS31, kS32, kS33, kS34, kS35, kS36, kS37, kS38, kS39, kS40, kS41, kS42, kS43, kS50, kS51, kS52, kS53, List.getElem?_cons_zero, List.getElem?_cons_succ, List.set_cons_zero, List.set_cons_succ, List.length_cons, List.length_nil, List.drop_succ_cons, List.drop_zero, List.cons_append, List.nil_append, Option.toList_some, Option.toList_none, cz, ci2, true_and, and_true, and_self, true_or, or_true, nI_1, Nat.reduceAdd, Nat.reduceLT]
    · intro p hp ih
      refine ev_seg rfl ?_
      simp only [TE, sxs, sx, ldI, ldA, stI, stA, inc, gtF, ptF, ldX, stX, ldR, ldL, stL, dp1, dp2, Tm, kS0, kS1, kS2, kS3, kS4, kS5, kS6, kS7, kS8, kS9, kS10, kS11, kS12, kS13, kS14, kS15, kS16, kS17, kS18, kS19, kS20, kS21, kS22, kS23, kS24, kS25, kS26, kS27, kS28, kS30, kS31, kS32, kS33, kS34, kS35, kS36, kS37, kS38, kS39, kS40, kS41, kS42, kS43, kS50, kS51, kS52, kS53, List.getElem?_cons_zero, List.getElem?_cons_succ, List.set_cons_zero, List.set_cons_succ, List.length_cons, List.length_nil, List.drop_succ_cons, List.drop_zero, List.cons_append, List.nil_append, Option.toList_some, Option.toList_none, cz, ci2, true_and, and_true, and_self, true_or, or_true, nI_1, Nat.reduceAdd, Nat.reduceLT]
      refine ⟨fun h => absurd h (nle hp (by omega)), fun _ => ?_⟩
      refine ev_seg rfl ?_
      simp only [TE, sxs, sx, ldI, ldA, stI, stA, inc, gtF, ptF, ldX, stX, ldR, ldL, stL, dp1, dp2, Tm, kS0, kS1, kS2, kS3, kS4, kS5, kS6, kS7, kS8, kS9, kS10, kS11, kS12, kS13, kS14, kS15, kS16, kS17, kS18, kS19, kS20, kS21, kS22, kS23, kS24, kS25, kS26, kS27, kS28, kS30, kS31, kS32, kS33, kS34, kS35, kS36, kS37, kS38, kS39, kS40, kS41, kS42, kS43, kS50, kS51, kS52, kS53, List.getElem?_cons_zero, List.getElem?_cons_succ, List.set_cons_zero, List.set_cons_succ, List.length_cons, List.length_nil, List.drop_succ_cons, List.drop_zero, List.cons_append, List.nil_append, Option.toList_some, Option.toList_none, cz, ci2, true_and, and_true, and_self, true_or, or_true, nI_1, Nat.reduceAdd, Nat.reduceLT]
      refine cv4 rfl rfl (by first | exact rfl | exact trivial) (s_isB16 (by omega) ht) ?_
      cases hb : betB (trow X p) (trow X t) 5 with
      | true =>
        have e1 : ct (fun z => betB (trow X z) (trow X t) 5) (p + 1) = ct (fun z => betB (trow X z) (trow X t) 5) p + 1 := by
          show ct _ p + (if betB (trow X p) (trow X t) 5 = true then 1 else 0) = _
          rw [hb]
          rfl
        rw [e1] at ih
        rw [bI_t rfl]
        refine ev_seg rfl ?_
        simp only [TE, sxs, sx, ldI, ldA, stI, stA, inc, gtF, ptF, ldX, stX, ldR, ldL, stL, dp1, dp2, Tm, kS0, kS1, kS2, kS3, kS4, kS5, kS6, kS7, kS8, kS9, kS10, kS11, kS12, kS13, kS14, kS15, kS16, kS17, kS18, kS19, kS20, kS21, kS22, kS23, kS24, kS25, kS26, kS27, kS28, kS30, kS31, kS32, kS33, kS34, kS35, kS36, kS37, kS38, kS39, kS40, kS41, kS42, kS43, kS50, kS51, kS52, kS53, List.getElem?_cons_zero, List.getElem?_cons_succ, List.set_cons_zero, List.set_cons_succ, List.length_cons, List.length_nil, List.drop_succ_cons, List.drop_zero, List.cons_append, List.nil_append, Option.toList_some, Option.toList_none, cz, ci2, true_and, and_true, and_self, true_or, or_true, nI_1, Nat.reduceAdd, Nat.reduceLT]
        refine ⟨fun h => absurd h (by decide), fun _ => ?_⟩
        refine ev_seg rfl ?_
        simp only [TE, sxs, sx, ldI, ldA, stI, stA, inc, gtF, ptF, ldX, stX, ldR, ldL, stL, dp1, dp2, Tm, kS0, kS1, kS2, kS3, kS4, kS5, kS6, kS7, kS8, kS9, kS10, kS11, kS12, kS13, kS14, kS15, kS16, kS17, kS18, kS19, kS20, kS21, kS22, kS23, kS24, kS25, kS26, kS27, kS28, kS30, kS31, kS32, kS33, kS34, kS35, kS36, kS37, kS38, kS39, kS40, kS41, kS42, kS43, kS50, kS51, kS52, kS53, List.getElem?_cons_zero, List.getElem?_cons_succ, List.set_cons_zero, List.set_cons_succ, List.length_cons, List.length_nil, List.drop_succ_cons, List.drop_zero, List.cons_append, List.nil_append, Option.toList_some, Option.toList_none, cz, ci2, true_and, and_true, and_self, true_or, or_true, nI_1, Nat.reduceAdd, Nat.reduceLT]
        refine ev_seg rfl ?_
        simp only [TE, sxs, sx, ldI, ldA, stI, stA, inc, gtF, ptF, ldX, stX, ldR, ldL, stL, dp1, dp2, Tm, kS0, kS1, kS2, kS3, kS4, kS5, kS6, kS7, kS8, kS9, kS10, kS11, kS12, kS13, kS14, kS15, kS16, kS17, kS18, kS19, kS20, kS21, kS22, kS23, kS24, kS25, kS26, kS27, kS28, kS30, kS31, kS32, kS33, kS34, kS35, kS36, kS37, kS38, kS39, kS40, kS41, kS42, kS43, kS50, kS51, kS52, kS53, List.getElem?_cons_zero, List.getElem?_cons_succ, List.set_cons_zero, List.set_cons_succ, List.length_cons, List.length_nil, List.drop_succ_cons, List.drop_zero, List.cons_append, List.nil_append, Option.toList_some, Option.toList_none, cz, ci2, true_and, and_true, and_self, true_or, or_true, nI_1, Nat.reduceAdd, Nat.reduceLT]
        exact ih
      | false =>
        have e1 : ct (fun z => betB (trow X z) (trow X t) 5) (p + 1) = ct (fun z => betB (trow X z) (trow X t) 5) p := by
          show ct _ p + (if betB (trow X p) (trow X t) 5 = true then 1 else 0) = _
          rw [hb]
          rfl
        rw [e1] at ih
        rw [bI_f (by decide)]
        refine ev_seg rfl ?_
        simp only [TE, sxs, sx, ldI, ldA, stI, stA, inc, gtF, ptF, ldX, stX, ldR, ldL, stL, dp1, dp2, Tm, kS0, kS1, kS2, kS3, kS4, kS5, kS6, kS7, kS8, kS9, kS10, kS11, kS12, kS13, kS14, kS15, kS16, kS17, kS18, kS19, kS20, kS21, kS22, kS23, kS24, kS25, kS26, kS27, kS28, kS30, kS31, kS32, kS33, kS34, kS35, kS36, kS37, kS38, kS39, kS40, kS41, kS42, kS43, kS50, kS51, kS52, kS53, List.getElem?_cons_zero, List.getElem?_cons_succ, List.set_cons_zero, List.set_cons_succ, List.length_cons, List.length_nil, List.drop_succ_cons, List.drop_zero, List.cons_append, List.nil_append, Option.toList_some, Option.toList_none, cz, ci2, true_and, and_true, and_self, true_or, or_true, nI_1, Nat.reduceAdd, Nat.reduceLT]
        refine ⟨fun _ => ?_, fun h => absurd trivial h⟩
        refine ev_seg rfl ?_
        simp only [TE, sxs, sx, ldI, ldA, stI, stA, inc, gtF, ptF, ldX, stX, ldR, ldL, stL, dp1, dp2, Tm, kS0, kS1, kS2, kS3, kS4, kS5, kS6, kS7, kS8, kS9, kS10, kS11, kS12, kS13, kS14, kS15, kS16, kS17, kS18, kS19, kS20, kS21, kS22, kS23, kS24, kS25, kS26, kS27, kS28, kS30, kS31, kS32, kS33, kS34, kS35, kS36, kS37, kS38, kS39, kS40, kS41, kS42, kS43, kS50, kS51, kS52, kS53, List.getElem?_cons_zero, List.getElem?_cons_succ, List.set_cons_zero, List.set_cons_succ, List.length_cons, List.length_nil, List.drop_succ_cons, List.drop_zero, List.cons_append, List.nil_append, Option.toList_some, Option.toList_none, cz, ci2, true_and, and_true, and_self, true_or, or_true, nI_1, Nat.reduceAdd, Nat.reduceLT]
        exact ih
  rw [en56]
  refine ev_seg rfl ?_
  simp only [TE, sxs, sx, ldI, ldA, stI, stA, inc, gtF, ptF, ldX, stX, ldR, ldL, stL, dp1, dp2, Tm, kS0, kS1, kS2, kS3, kS4, kS5, kS6, kS7, kS8, kS9, kS10, kS11, kS12, kS13, kS14, kS15, kS16, kS17, kS18, kS19, kS20, kS21, kS22, kS23, kS24, kS25, kS26, kS27, kS28, kS30, kS31, kS32, kS33, kS34, kS35, kS36, kS37, kS38, kS39, kS40, kS41, kS42, kS43, kS50, kS51, kS52, kS53, List.getElem?_cons_zero, List.getElem?_cons_succ, List.set_cons_zero, List.set_cons_succ, List.length_cons, List.length_nil, List.drop_succ_cons, List.drop_zero, List.cons_append, List.nil_append, Option.toList_some, Option.toList_none, cz, ci2, true_and, and_true, and_self, true_or, or_true, nI_1, Nat.reduceAdd, Nat.reduceLT]
  exact loop 0 (Nat.zero_le _)
/-- the marks of all thirds -/
theorem s_measure {c : Nat} {nn : Nat → Nat} (hc : c ≤ 6) (hG : ∀ i, i < c → GOK X (nI i) (nn i)) : ∃ Z, Ev sc (d + 12) 54 0 (ent 54 [vR 15 0 0, vR 1 0 0, vI (nI c), vR 8 0 0]) [] X (.inl none) Z 0 ∧ Fr [11, 12, 14, 18] X Z ∧
    ∀ i, i < c → ∃ t, t < nn i ∧ PTX X (nI i) (nn i) t = 2 ∧ ∀ q, q < 5 → trow Z i q = T5 X (nI i) (nn i) (mnS nn c) t q := by
  have hm9 : mnS nn c ≤ 5 := mnS_le nn c
  have loop : ∀ p, p ≤ c → ∀ (X1 : XT) (z6 z7 z8 z9 : AV), Fr [11, 12, 14, 18] X X1 → (∀ i, i < p → ∃ t, t < nn i ∧ PTX X (nI i) (nn i) t = 2 ∧ ∀ q, q < 5 → trow X1 i q = T5 X (nI i) (nn i) (mnS nn c) t q) →
      ∃ Z, Ev sc (d + 12) 54 2 [vR 15 0 0, vR 1 0 0, vI (nI c), vR 8 0 0, vI (nI (mnS nn c)), vI (nI p), z6, z7, z8, z9] [] X1 (.inl none) Z 0 ∧ Fr [11, 12, 14, 18] X Z ∧
      ∀ i, i < c → ∃ t, t < nn i ∧ PTX X (nI i) (nn i) t = 2 ∧ ∀ q, q < 5 → trow Z i q = T5 X (nI i) (nn i) (mnS nn c) t q := by
    apply loop_up
    · intro X1 z6 z7 z8 z9 hf h1
      refine ⟨X1, ?_, hf, h1⟩
      refine ev_seg rfl ?_
      simp only [TE, sxs, sx, ldI, ldA, stI, stA, inc, gtF, ptF, ldX, stX, ldR, ldL, stL, dp1, dp2, Tm, kS0, kS1, kS2, kS3, kS4, kS5, kS6, kS7, kS8, kS9, kS10, kS11, kS12, kS13, kS14, kS15, kS16, kS17, kS18, kS19, kS20, kS21, kS22, kS23, kS24, kS25, kS26, kS27, kS28, kS30, kS31, kS32, kS33, kS34, kS35, kS36, kS37, kS38, kS39, kS40, kS41, kS42, kS43, kS50, kS51, kS52, kS53, List.getElem?_cons_zero, List.getElem?_cons_succ, List.set_cons_zero, List.set_cons_succ, List.length_cons, List.length_nil, List.drop_succ_cons, List.drop_zero, List.cons_append, List.nil_append, Option.toList_some, Option.toList_none, cz, ci2, true_and, and_true, and_self, true_or, or_true, nI_1, Nat.reduceAdd, Nat.reduceLT]
      refine ⟨fun _ => ?_, fun h => absurd (nleI (Nat.le_refl _) (by omega)) h⟩
      refine ev_seg rfl ?_
      simp only [TE, sxs, sx, ldI, ldA, stI, stA, inc, gtF, ptF, ldX, stX, ldR, ldL, stL, dp1, dp2, Tm, kS0, kS1, kS2, kS3, kS4, kS5, kS6, kS7, kS8, kS9, kS10, kS11, kS12, kS13, kS14, kS15, kS16, kS17, kS18, kS19, kS20, kS21, kS22, kS23, kS24, kS25, kS26, kS27, kS28, kS30, kS31, kS32, kS33, kS34, kS35, kS36, kS37, kS38, kS39, kS40, kS41, kS42, kS43, kS50, kS51, kS52, kS53, List.getElem?_cons_zero, List.getElem?_cons_succ, List.set_cons_zero, List.set_cons_succ, List.length_cons, List.length_nil, List.drop_succ_cons, List.drop_zero, List.cons_append, List.nil_append, Option.toList_some, Option.toList_none, cz, ci2, true_and, and_true, and_self, true_or, or_true, nI_1, Nat.reduceAdd, Nat.reduceLT]
    · intro p hp ih X1 z6 z7 z8 z9 hf h1
      have hG1 : GOK X1 (nI p) (nn p) := (hG p hp).fr hf (by decide) (by decide) (by decide) (by decide)
      have n3 := hG1.2.1
      have n5 := hG1.2.2.1
      have hmn := mnS_at nn hp
      obtain ⟨X2, τ, b1, b2⟩ := s_drawX (sc := sc) (d := d) hG1
      have hT : PTX X1 (nI p) (nn p) = PTX X (nI p) (nn p) := PTX_fr hf (by decide) (by decide) (by decide) (by decide) (by decide)
      have f2 : Fr [11, 12, 14, 18] X X2 := hf.tr (b2.1.mo (by decide))
      obtain ⟨o1, o2⟩ := b2.2.1 2 (by omega)
      have hpt : PTX X (nI p) (nn p) (τ 2) = 2 := by
        rw [← hT]
        exact (b2.2.2.2.1 2 (by omega)).symm
      have v1 : vp_in (nI p) 6 := vpn (by omega) (by decide)
      have vt : vp_in (nI (τ 2)) 5 := vpn (by omega) (by decide)
      have v2 : vp_in 2 5 := vpn (j := 2) (by decide) (by decide)
      have c0 : vp_in 0 5 := vpn (j := 0) (by decide) (by decide)
      have c1 : vp_in 1 5 := vpn (j := 1) (by decide) (by decide)
      have c3 : vp_in 3 5 := vpn (j := 3) (by decide) (by decide)
      have c4 : vp_in 4 5 := vpn (j := 4) (by decide) (by decide)
      have i18 : 18 ∈ [11, 12, 14, 18] := by decide
      have hM : mkM τ 0 (mnS nn c) < 32 := mkM_lt (fun i _ h => by have := (b2.2.1 i (by omega)).2; omega)
      have hrs : ∀ f, rowSum X2 (nI p) (nI (τ 2)) (nI (mkM τ 0 (mnS nn c - 0))) f (nn p) = rsC (scC X (nI p)) (nn p) (fun z => decide (PTX X (nI p) (nn p) z < mnS nn c)) f (τ 2) := by
        intro f
        rw [Nat.sub_zero, rowSum_rs hM n5, scC_fr f2 (by decide)]
        apply rsC_congr
        intro j hj
        rw [← hT, Bool.eq_iff_iff, mkM_bit, decide_eq_true_eq]
        constructor
        · rintro ⟨i, _, h3, rfl⟩
          rw [← b2.2.2.2.1 i (by omega)]
          omega
        · intro h
          exact ⟨_, Nat.zero_le _, by omega, b2.at hj⟩
      have rN : X2.1 2 0 (nI p) 5 = nI (nn p) := by rw [f2.at 2 (by decide)]; exact (hG p hp).1
      generalize hX3 : ((xs X2.1 18 0 (nI p) 0 (rowSum X2 (nI p) (nI (τ 2)) (nI (mkM τ 0 (mnS nn c - 0))) pF (nn p) - X2.1 5 0 (nI p) (nI (τ 2))), X2.2) : XT) = X3
      have f3 : Fr [18] X2 X3 := by rw [← hX3]; exact Fr.xs _ _ _ _ _ (List.mem_singleton.mpr rfl)
      have rN3 : X3.1 2 0 (nI p) 5 = nI (nn p) := by rw [f3.at 2 (by decide)]; exact rN
      generalize hX4 : ((xs X3.1 18 0 (nI p) 1 (rowSum X3 (nI p) (nI (τ 2)) (nI (mkM τ 0 (mnS nn c - 0))) dF (nn p)), X3.2) : XT) = X4
      have f4 : Fr [18] X3 X4 := by rw [← hX4]; exact Fr.xs _ _ _ _ _ (List.mem_singleton.mpr rfl)
      have rN4 : X4.1 2 0 (nI p) 5 = nI (nn p) := by rw [f4.at 2 (by decide)]; exact rN3
      generalize hX5 : ((xs X4.1 18 0 (nI p) 2 (rowSum X4 (nI p) (nI (τ 2)) (nI (mkM τ 0 (mnS nn c - 0))) gF9 (nn p)), X4.2) : XT) = X5
      have f5 : Fr [18] X4 X5 := by rw [← hX5]; exact Fr.xs _ _ _ _ _ (List.mem_singleton.mpr rfl)
      generalize hX6 : ((xs X5.1 18 0 (nI p) 3 (-X5.1 6 0 (nI p) (nI (τ 2))), X5.2) : XT) = X6
      have f6 : Fr [18] X5 X6 := by rw [← hX6]; exact Fr.xs _ _ _ _ _ (List.mem_singleton.mpr rfl)
      generalize hX7 : ((xs X6.1 18 0 (nI p) 4 (lotMk X6 (nI p) (nI (τ 2))), X6.2) : XT) = X7
      have f7 : Fr [18] X6 X7 := by rw [← hX7]; exact Fr.xs _ _ _ _ _ (List.mem_singleton.mpr rfl)
      have m18 : ∀ k, k ∈ [18] → k ∈ [11, 12, 14, 18] := by decide
      have g0 : rowSum X2 (nI p) (nI (τ 2)) (nI (mkM τ 0 (mnS nn c - 0))) pF (nn p) - X2.1 5 0 (nI p) (nI (τ 2)) = T5 X (nI p) (nn p) (mnS nn c) (τ 2) 0 := by
        rw [hrs, f2.at 5 (by decide)]; rfl
      have g1 : rowSum X3 (nI p) (nI (τ 2)) (nI (mkM τ 0 (mnS nn c - 0))) dF (nn p) = T5 X (nI p) (nn p) (mnS nn c) (τ 2) 1 := by
        rw [rowSum_fr f3 (by decide), hrs]; rfl
      have g2 : rowSum X4 (nI p) (nI (τ 2)) (nI (mkM τ 0 (mnS nn c - 0))) gF9 (nn p) = T5 X (nI p) (nn p) (mnS nn c) (τ 2) 2 := by
        rw [rowSum_fr (f3.tr f4) (by decide), hrs]; rfl
      have F5 : Fr [11, 12, 14, 18] X X5 := f2.tr (((f3.tr f4).tr f5).mo m18)
      have F6 : Fr [11, 12, 14, 18] X X6 := F5.tr (f6.mo m18)
      have F7 : Fr [11, 12, 14, 18] X X7 := F6.tr (f7.mo m18)
      have g3 : -X5.1 6 0 (nI p) (nI (τ 2)) = T5 X (nI p) (nn p) (mnS nn c) (τ 2) 3 := by rw [F5.at 6 (by decide)]; rfl
      have g4 : lotMk X6 (nI p) (nI (τ 2)) = T5 X (nI p) (nn p) (mnS nn c) (τ 2) 4 := by
        unfold lotMk
        rw [F6.at 7 (by decide), F6.at 2 (by decide)]; rfl
      have hrow : ∀ w, w < 6 → ∀ q, q < 5 → trow X7 w q = if w = p ∧ q = 4 then T5 X (nI p) (nn p) (mnS nn c) (τ 2) 4 else if w = p ∧ q = 3 then T5 X (nI p) (nn p) (mnS nn c) (τ 2) 3 else if w = p ∧ q = 2 then T5 X (nI p) (nn p) (mnS nn c) (τ 2) 2 else if w = p ∧ q = 1 then T5 X (nI p) (nn p) (mnS nn c) (τ 2) 1 else if w = p ∧ q = 0 then T5 X (nI p) (nn p) (mnS nn c) (τ 2) 0 else trow X1 w q := by
        intro w hw q hq
        rw [← hX7, g4, show (4 : Int32) = nI 4 from rfl, trow_xs hw (by omega) (by decide) q hq]
        rw [← hX6, g3, show (3 : Int32) = nI 3 from rfl, trow_xs hw (by omega) (by decide) q hq]
        rw [← hX5, g2, show (2 : Int32) = nI 2 from rfl, trow_xs hw (by omega) (by decide) q hq]
        rw [← hX4, g1, show (1 : Int32) = nI 1 from rfl, trow_xs hw (by omega) (by decide) q hq]
        rw [← hX3, g0, show trow (xs X2.1 18 0 (nI p) 0 (T5 X (nI p) (nn p) (mnS nn c) (τ 2) 0), X2.2) w q = trow (xs X2.1 18 0 (nI p) (nI 0) (T5 X (nI p) (nn p) (mnS nn c) (τ 2) 0), X2.2) w q from rfl, trow_xs hw (by omega) (by decide) q hq]
        rw [trow_fr b2.1 (by decide)]
      obtain ⟨Z, a1, a2, a3⟩ := ih X7 (vR 2 0 (nI p)) (vI (nI (τ 2))) (vI (nI (mkM τ 0 (mnS nn c - 0)))) (vI (rowSum X2 (nI p) (nI (τ 2)) (nI (mkM τ 0 (mnS nn c - 0))) pF (nn p))) F7 (fun i hi => by
        by_cases hip : i = p
        · refine ⟨τ 2, by rw [hip]; exact o2, by rw [hip]; exact hpt, fun q hq => ?_⟩
          rw [hip, hrow p (by omega) q hq]
          rcases (show q = 0 ∨ q = 1 ∨ q = 2 ∨ q = 3 ∨ q = 4 by omega) with rfl | rfl | rfl | rfl | rfl <;> simp
        · obtain ⟨t, e1, e2, e3⟩ := h1 i (by omega)
          refine ⟨t, e1, e2, fun q hq => ?_⟩
          rw [hrow i (by omega) q hq, if_neg (fun w => hip w.1), if_neg (fun w => hip w.1), if_neg (fun w => hip w.1), if_neg (fun w => hip w.1), if_neg (fun w => hip w.1)]
          exact e3 q hq)
      refine ⟨Z, ?_, a2, a3⟩
      refine ev_seg rfl ?_
      simp only [TE, sxs, sx, ldI, ldA, stI, stA, inc, gtF, ptF, ldX, stX, ldR, ldL, stL, dp1, dp2, Tm, kS0, kS1, kS2, kS3, kS4, kS5, kS6, kS7, kS8, kS9, kS10, kS11, kS12, kS13, kS14, kS15, kS16, kS17, kS18, kS19, kS20, kS21, kS22, kS23, kS24, kS25, kS26, kS27, kS28, kS30, kS31, kS32, kS33, kS34, kS35, kS36, kS37, kS38, kS39, kS40, kS41, kS42, kS43, kS50, kS51, kS52, kS53, List.getElem?_cons_zero, List.getElem?_cons_succ, List.set_cons_zero, List.set_cons_succ, List.length_cons, List.length_nil, List.drop_succ_cons, List.drop_zero, List.cons_append, List.nil_append, Option.toList_some, Option.toList_none, cz, ci2, true_and, and_true, and_self, true_or, or_true, nI_1, Nat.reduceAdd, Nat.reduceLT]
      refine ⟨fun h => absurd h (nle hp (by omega)), fun _ => ?_⟩
      refine ev_seg rfl ?_
      simp only [TE, sxs, sx, ldI, ldA, stI, stA, inc, gtF, ptF, ldX, stX, ldR, ldL, stL, dp1, dp2, Tm, kS0, kS1, kS2, kS3, kS4, kS5, kS6, kS7, kS8, kS9, kS10, kS11, kS12, kS13, kS14, kS15, kS16, kS17, kS18, kS19, kS20, kS21, kS22, kS23, kS24, kS25, kS26, kS27, kS28, kS30, kS31, kS32, kS33, kS34, kS35, kS36, kS37, kS38, kS39, kS40, kS41, kS42, kS43, kS50, kS51, kS52, kS53, List.getElem?_cons_zero, List.getElem?_cons_succ, List.set_cons_zero, List.set_cons_succ, List.length_cons, List.length_nil, List.drop_succ_cons, List.drop_zero, List.cons_append, List.nil_append, Option.toList_some, Option.toList_none, cz, ci2, true_and, and_true, and_self, true_or, or_true, nI_1, Nat.reduceAdd, Nat.reduceLT]
      refine ⟨(by first | assumption | (and_intros <;> first | assumption | trivial | decide)), cu2 rfl rfl (by first | exact rfl | exact trivial) (b1) ?_⟩
      refine ev_seg rfl ?_
      simp only [TE, sxs, sx, ldI, ldA, stI, stA, inc, gtF, ptF, ldX, stX, ldR, ldL, stL, dp1, dp2, Tm, kS0, kS1, kS2, kS3, kS4, kS5, kS6, kS7, kS8, kS9, kS10, kS11, kS12, kS13, kS14, kS15, kS16, kS17, kS18, kS19, kS20, kS21, kS22, kS23, kS24, kS25, kS26, kS27, kS28, kS30, kS31, kS32, kS33, kS34, kS35, kS36, kS37, kS38, kS39, kS40, kS41, kS42, kS43, kS50, kS51, kS52, kS53, List.getElem?_cons_zero, List.getElem?_cons_succ, List.set_cons_zero, List.set_cons_succ, List.length_cons, List.length_nil, List.drop_succ_cons, List.drop_zero, List.cons_append, List.nil_append, Option.toList_some, Option.toList_none, cz, ci2, true_and, and_true, and_self, true_or, or_true, nI_1, Nat.reduceAdd, Nat.reduceLT]
      refine cv2 rfl rfl (by first | exact rfl | exact trivial) (s_seatAt v2) ?_
      rw [show X2.1 12 0 0 2 = nI (τ 2) from o1]
      refine ev_seg rfl ?_
      simp only [TE, sxs, sx, ldI, ldA, stI, stA, inc, gtF, ptF, ldX, stX, ldR, ldL, stL, dp1, dp2, Tm, kS0, kS1, kS2, kS3, kS4, kS5, kS6, kS7, kS8, kS9, kS10, kS11, kS12, kS13, kS14, kS15, kS16, kS17, kS18, kS19, kS20, kS21, kS22, kS23, kS24, kS25, kS26, kS27, kS28, kS30, kS31, kS32, kS33, kS34, kS35, kS36, kS37, kS38, kS39, kS40, kS41, kS42, kS43, kS50, kS51, kS52, kS53, List.getElem?_cons_zero, List.getElem?_cons_succ, List.set_cons_zero, List.set_cons_succ, List.length_cons, List.length_nil, List.drop_succ_cons, List.drop_zero, List.cons_append, List.nil_append, Option.toList_some, Option.toList_none, cz, ci2, true_and, and_true, and_self, true_or, or_true, nI_1, Nat.reduceAdd, Nat.reduceLT]
      refine cv3 rfl rfl (by first | exact rfl | exact trivial) (s_setOf (s := 0) n5 (Nat.zero_le _) hmn b2.2.1) ?_
      refine ev_seg rfl ?_
      simp only [TE, sxs, sx, ldI, ldA, stI, stA, inc, gtF, ptF, ldX, stX, ldR, ldL, stL, dp1, dp2, Tm, kS0, kS1, kS2, kS3, kS4, kS5, kS6, kS7, kS8, kS9, kS10, kS11, kS12, kS13, kS14, kS15, kS16, kS17, kS18, kS19, kS20, kS21, kS22, kS23, kS24, kS25, kS26, kS27, kS28, kS30, kS31, kS32, kS33, kS34, kS35, kS36, kS37, kS38, kS39, kS40, kS41, kS42, kS43, kS50, kS51, kS52, kS53, List.getElem?_cons_zero, List.getElem?_cons_succ, List.set_cons_zero, List.set_cons_succ, List.length_cons, List.length_nil, List.drop_succ_cons, List.drop_zero, List.cons_append, List.nil_append, Option.toList_some, Option.toList_none, cz, ci2, true_and, and_true, and_self, true_or, or_true, nI_1, Nat.reduceAdd, Nat.reduceLT]
      refine cv3 rfl rfl (by first | exact rfl | exact trivial) (s_pointsFrom rN n5 vt) ?_
      refine ev_seg rfl ?_
      simp only [TE, sxs, sx, ldI, ldA, stI, stA, inc, gtF, ptF, ldX, stX, ldR, ldL, stL, dp1, dp2, Tm, kS0, kS1, kS2, kS3, kS4, kS5, kS6, kS7, kS8, kS9, kS10, kS11, kS12, kS13, kS14, kS15, kS16, kS17, kS18, kS19, kS20, kS21, kS22, kS23, kS24, kS25, kS26, kS27, kS28, kS30, kS31, kS32, kS33, kS34, kS35, kS36, kS37, kS38, kS39, kS40, kS41, kS42, kS43, kS50, kS51, kS52, kS53, List.getElem?_cons_zero, List.getElem?_cons_succ, List.set_cons_zero, List.set_cons_succ, List.length_cons, List.length_nil, List.drop_succ_cons, List.drop_zero, List.cons_append, List.nil_append, Option.toList_some, Option.toList_none, cz, ci2, true_and, and_true, and_self, true_or, or_true, nI_1, Nat.reduceAdd, Nat.reduceLT]
      refine cv2 rfl rfl (by first | exact rfl | exact trivial) (s_takenFrom vt) ?_
      refine ev_seg rfl ?_
      simp only [TE, sxs, sx, ldI, ldA, stI, stA, inc, gtF, ptF, ldX, stX, ldR, ldL, stL, dp1, dp2, Tm, kS0, kS1, kS2, kS3, kS4, kS5, kS6, kS7, kS8, kS9, kS10, kS11, kS12, kS13, kS14, kS15, kS16, kS17, kS18, kS19, kS20, kS21, kS22, kS23, kS24, kS25, kS26, kS27, kS28, kS30, kS31, kS32, kS33, kS34, kS35, kS36, kS37, kS38, kS39, kS40, kS41, kS42, kS43, kS50, kS51, kS52, kS53, List.getElem?_cons_zero, List.getElem?_cons_succ, List.set_cons_zero, List.set_cons_succ, List.length_cons, List.length_nil, List.drop_succ_cons, List.drop_zero, List.cons_append, List.nil_append, Option.toList_some, Option.toList_none, cz, ci2, true_and, and_true, and_self, true_or, or_true, nI_1, Nat.reduceAdd, Nat.reduceLT]
      refine cu4 rfl rfl (by first | exact rfl | exact trivial) (s_put16 v1 c0) ?_
      rw [hX3]
      refine ev_seg rfl ?_
      simp only [TE, sxs, sx, ldI, ldA, stI, stA, inc, gtF, ptF, ldX, stX, ldR, ldL, stL, dp1, dp2, Tm, kS0, kS1, kS2, kS3, kS4, kS5, kS6, kS7, kS8, kS9, kS10, kS11, kS12, kS13, kS14, kS15, kS16, kS17, kS18, kS19, kS20, kS21, kS22, kS23, kS24, kS25, kS26, kS27, kS28, kS30, kS31, kS32, kS33, kS34, kS35, kS36, kS37, kS38, kS39, kS40, kS41, kS42, kS43, kS50, kS51, kS52, kS53, List.getElem?_cons_zero, List.getElem?_cons_succ, List.set_cons_zero, List.set_cons_succ, List.length_cons, List.length_nil, List.drop_succ_cons, List.drop_zero, List.cons_append, List.nil_append, Option.toList_some, Option.toList_none, cz, ci2, true_and, and_true, and_self, true_or, or_true, nI_1, Nat.reduceAdd, Nat.reduceLT]
      refine cv3 rfl rfl (by first | exact rfl | exact trivial) (s_differenceFrom rN3 n5 vt) ?_
      refine ev_seg rfl ?_
      simp only [TE, sxs, sx, ldI, ldA, stI, stA, inc, gtF, ptF, ldX, stX, ldR, ldL, stL, dp1, dp2, Tm, kS0, kS1, kS2, kS3, kS4, kS5, kS6, kS7, kS8, kS9, kS10, kS11, kS12, kS13, kS14, kS15, kS16, kS17, kS18, kS19, kS20, kS21, kS22, kS23, kS24, kS25, kS26, kS27, kS28, kS30, kS31, kS32, kS33, kS34, kS35, kS36, kS37, kS38, kS39, kS40, kS41, kS42, kS43, kS50, kS51, kS52, kS53, List.getElem?_cons_zero, List.getElem?_cons_succ, List.set_cons_zero, List.set_cons_succ, List.length_cons, List.length_nil, List.drop_succ_cons, List.drop_zero, List.cons_append, List.nil_append, Option.toList_some, Option.toList_none, cz, ci2, true_and, and_true, and_self, true_or, or_true, nI_1, Nat.reduceAdd, Nat.reduceLT]
      refine cu4 rfl rfl (by first | exact rfl | exact trivial) (s_put16 v1 c1) ?_
      rw [hX4]
      refine ev_seg rfl ?_
      simp only [TE, sxs, sx, ldI, ldA, stI, stA, inc, gtF, ptF, ldX, stX, ldR, ldL, stL, dp1, dp2, Tm, kS0, kS1, kS2, kS3, kS4, kS5, kS6, kS7, kS8, kS9, kS10, kS11, kS12, kS13, kS14, kS15, kS16, kS17, kS18, kS19, kS20, kS21, kS22, kS23, kS24, kS25, kS26, kS27, kS28, kS30, kS31, kS32, kS33, kS34, kS35, kS36, kS37, kS38, kS39, kS40, kS41, kS42, kS43, kS50, kS51, kS52, kS53, List.getElem?_cons_zero, List.getElem?_cons_succ, List.set_cons_zero, List.set_cons_succ, List.length_cons, List.length_nil, List.drop_succ_cons, List.drop_zero, List.cons_append, List.nil_append, Option.toList_some, Option.toList_none, cz, ci2, true_and, and_true, and_self, true_or, or_true, nI_1, Nat.reduceAdd, Nat.reduceLT]
      refine cv3 rfl rfl (by first | exact rfl | exact trivial) (s_goalsFrom rN4 n5 vt) ?_
      refine ev_seg rfl ?_
      simp only [TE, sxs, sx, ldI, ldA, stI, stA, inc, gtF, ptF, ldX, stX, ldR, ldL, stL, dp1, dp2, Tm, kS0, kS1, kS2, kS3, kS4, kS5, kS6, kS7, kS8, kS9, kS10, kS11, kS12, kS13, kS14, kS15, kS16, kS17, kS18, kS19, kS20, kS21, kS22, kS23, kS24, kS25, kS26, kS27, kS28, kS30, kS31, kS32, kS33, kS34, kS35, kS36, kS37, kS38, kS39, kS40, kS41, kS42, kS43, kS50, kS51, kS52, kS53, List.getElem?_cons_zero, List.getElem?_cons_succ, List.set_cons_zero, List.set_cons_succ, List.length_cons, List.length_nil, List.drop_succ_cons, List.drop_zero, List.cons_append, List.nil_append, Option.toList_some, Option.toList_none, cz, ci2, true_and, and_true, and_self, true_or, or_true, nI_1, Nat.reduceAdd, Nat.reduceLT]
      refine cu4 rfl rfl (by first | exact rfl | exact trivial) (s_put16 v1 v2) ?_
      rw [hX5]
      refine ev_seg rfl ?_
      simp only [TE, sxs, sx, ldI, ldA, stI, stA, inc, gtF, ptF, ldX, stX, ldR, ldL, stL, dp1, dp2, Tm, kS0, kS1, kS2, kS3, kS4, kS5, kS6, kS7, kS8, kS9, kS10, kS11, kS12, kS13, kS14, kS15, kS16, kS17, kS18, kS19, kS20, kS21, kS22, kS23, kS24, kS25, kS26, kS27, kS28, kS30, kS31, kS32, kS33, kS34, kS35, kS36, kS37, kS38, kS39, kS40, kS41, kS42, kS43, kS50, kS51, kS52, kS53, List.getElem?_cons_zero, List.getElem?_cons_succ, List.set_cons_zero, List.set_cons_succ, List.length_cons, List.length_nil, List.drop_succ_cons, List.drop_zero, List.cons_append, List.nil_append, Option.toList_some, Option.toList_none, cz, ci2, true_and, and_true, and_self, true_or, or_true, nI_1, Nat.reduceAdd, Nat.reduceLT]
      refine cv2 rfl rfl (by first | exact rfl | exact trivial) (s_cardMark vt) ?_
      refine ev_seg rfl ?_
      simp only [TE, sxs, sx, ldI, ldA, stI, stA, inc, gtF, ptF, ldX, stX, ldR, ldL, stL, dp1, dp2, Tm, kS0, kS1, kS2, kS3, kS4, kS5, kS6, kS7, kS8, kS9, kS10, kS11, kS12, kS13, kS14, kS15, kS16, kS17, kS18, kS19, kS20, kS21, kS22, kS23, kS24, kS25, kS26, kS27, kS28, kS30, kS31, kS32, kS33, kS34, kS35, kS36, kS37, kS38, kS39, kS40, kS41, kS42, kS43, kS50, kS51, kS52, kS53, List.getElem?_cons_zero, List.getElem?_cons_succ, List.set_cons_zero, List.set_cons_succ, List.length_cons, List.length_nil, List.drop_succ_cons, List.drop_zero, List.cons_append, List.nil_append, Option.toList_some, Option.toList_none, cz, ci2, true_and, and_true, and_self, true_or, or_true, nI_1, Nat.reduceAdd, Nat.reduceLT]
      refine cu4 rfl rfl (by first | exact rfl | exact trivial) (s_put16 v1 c3) ?_
      rw [hX6]
      refine ev_seg rfl ?_
      simp only [TE, sxs, sx, ldI, ldA, stI, stA, inc, gtF, ptF, ldX, stX, ldR, ldL, stL, dp1, dp2, Tm, kS0, kS1, kS2, kS3, kS4, kS5, kS6, kS7, kS8, kS9, kS10, kS11, kS12, kS13, kS14, kS15, kS16, kS17, kS18, kS19, kS20, kS21, kS22, kS23, kS24, kS25, kS26, kS27, kS28, kS30, kS31, kS32, kS33, kS34, kS35, kS36, kS37, kS38, kS39, kS40, kS41, kS42, kS43, kS50, kS51, kS52, kS53, List.getElem?_cons_zero, List.getElem?_cons_succ, List.set_cons_zero, List.set_cons_succ, List.length_cons, List.length_nil, List.drop_succ_cons, List.drop_zero, List.cons_append, List.nil_append, Option.toList_some, Option.toList_none, cz, ci2, true_and, and_true, and_self, true_or, or_true, nI_1, Nat.reduceAdd, Nat.reduceLT]
      refine cv2 rfl rfl (by first | exact rfl | exact trivial) (s_lotMark vt) ?_
      refine ev_seg rfl ?_
      simp only [TE, sxs, sx, ldI, ldA, stI, stA, inc, gtF, ptF, ldX, stX, ldR, ldL, stL, dp1, dp2, Tm, kS0, kS1, kS2, kS3, kS4, kS5, kS6, kS7, kS8, kS9, kS10, kS11, kS12, kS13, kS14, kS15, kS16, kS17, kS18, kS19, kS20, kS21, kS22, kS23, kS24, kS25, kS26, kS27, kS28, kS30, kS31, kS32, kS33, kS34, kS35, kS36, kS37, kS38, kS39, kS40, kS41, kS42, kS43, kS50, kS51, kS52, kS53, List.getElem?_cons_zero, List.getElem?_cons_succ, List.set_cons_zero, List.set_cons_succ, List.length_cons, List.length_nil, List.drop_succ_cons, List.drop_zero, List.cons_append, List.nil_append, Option.toList_some, Option.toList_none, cz, ci2, true_and, and_true, and_self, true_or, or_true, nI_1, Nat.reduceAdd, Nat.reduceLT]
      refine cu4 rfl rfl (by first | exact rfl | exact trivial) (s_put16 v1 c4) ?_
      rw [hX7]
      refine ev_seg rfl ?_
      simp only [TE, sxs, sx, ldI, ldA, stI, stA, inc, gtF, ptF, ldX, stX, ldR, ldL, stL, dp1, dp2, Tm, kS0, kS1, kS2, kS3, kS4, kS5, kS6, kS7, kS8, kS9, kS10, kS11, kS12, kS13, kS14, kS15, kS16, kS17, kS18, kS19, kS20, kS21, kS22, kS23, kS24, kS25, kS26, kS27, kS28, kS30, kS31, kS32, kS33, kS34, kS35, kS36, kS37, kS38, kS39, kS40, kS41, kS42, kS43, kS50, kS51, kS52, kS53, List.getElem?_cons_zero, List.getElem?_cons_succ, List.set_cons_zero, List.set_cons_succ, List.length_cons, List.length_nil, List.drop_succ_cons, List.drop_zero, List.cons_append, List.nil_append, Option.toList_some, Option.toList_none, cz, ci2, true_and, and_true, and_self, true_or, or_true, nI_1, Nat.reduceAdd, Nat.reduceLT]
      exact a1
  obtain ⟨Z, a1, a2, a3⟩ := loop 0 (Nat.zero_le _) X av0 av0 av0 av0 (Fr.rf _ _) (fun i hi => absurd hi (by omega))
  refine ⟨Z, ?_, a2, a3⟩
  rw [en54]
  refine ev_seg rfl ?_
  simp only [TE, sxs, sx, ldI, ldA, stI, stA, inc, gtF, ptF, ldX, stX, ldR, ldL, stL, dp1, dp2, Tm, kS0, kS1, kS2, kS3, kS4, kS5, kS6, kS7, kS8, kS9, kS10, kS11, kS12, kS13, kS14, kS15, kS16, kS17, kS18, kS19, kS20, kS21, kS22, kS23, kS24, kS25, kS26, kS27, kS28, kS30, kS31, kS32, kS33, kS34, kS35, kS36, kS37, kS38, kS39, kS40, kS41, kS42, kS43, kS50, kS51, kS52, kS53, List.getElem?_cons_zero, List.getElem?_cons_succ, List.set_cons_zero, List.set_cons_succ, List.length_cons, List.length_nil, List.drop_succ_cons, List.drop_zero, List.cons_append, List.nil_append, Option.toList_some, Option.toList_none, cz, ci2, true_and, and_true, and_self, true_or, or_true, nI_1, Nat.reduceAdd, Nat.reduceLT]
  refine cv2 rfl rfl (by first | exact rfl | exact trivial) (s_smallestSize hc (fun i hi => ⟨(hG i hi).1, (hG i hi).2.2.1⟩)) ?_
  refine ev_seg rfl ?_
  simp only [TE, sxs, sx, ldI, ldA, stI, stA, inc, gtF, ptF, ldX, stX, ldR, ldL, stL, dp1, dp2, Tm, kS0, kS1, kS2, kS3, kS4, kS5, kS6, kS7, kS8, kS9, kS10, kS11, kS12, kS13, kS14, kS15, kS16, kS17, kS18, kS19, kS20, kS21, kS22, kS23, kS24, kS25, kS26, kS27, kS28, kS30, kS31, kS32, kS33, kS34, kS35, kS36, kS37, kS38, kS39, kS40, kS41, kS42, kS43, kS50, kS51, kS52, kS53, List.getElem?_cons_zero, List.getElem?_cons_succ, List.set_cons_zero, List.set_cons_succ, List.length_cons, List.length_nil, List.drop_succ_cons, List.drop_zero, List.cons_append, List.nil_append, Option.toList_some, Option.toList_none, cz, ci2, true_and, and_true, and_self, true_or, or_true, nI_1, Nat.reduceAdd, Nat.reduceLT]
  exact a1
end Thd
end
section
/-! the matches that are left -/
/-- the pairs (l,u), (l,u+1), .. -/
def rowQ (l u : Nat) : Nat → List (Nat × Nat)
  | 0 => []
  | q + 1 => (l, u) :: rowQ l (u + 1) q
/-- all pairs from the row l on -/
def allQ (n l : Nat) : Nat → List (Nat × Nat)
  | 0 => []
  | q + 1 => rowQ l (l + 1) (n - (l + 1)) ++ allQ n (l + 1) q
/-- whether a match is one of a team, and left -/
def lfP (S : Nat → Nat → Int32) (seat : Int32) (own : Bool) (p : Nat × Nat) : Bool := (decide (nI p.1 = seat ∨ nI p.2 = seat) == own) && decide (S p.1 p.2 = -1)
theorem rowQ_len (l u : Nat) : ∀ q, (rowQ l u q).length = q
  | 0 => rfl
  | q + 1 => by rw [rowQ, List.length_cons, rowQ_len l (u + 1) q]
theorem rowQ_mem {l u : Nat} {p : Nat × Nat} : ∀ {q u}, p ∈ rowQ l u q → p.1 = l ∧ u ≤ p.2 ∧ p.2 < u + q
  | q + 1, u, h => by
    rw [rowQ, List.mem_cons] at h
    rcases h with rfl | h
    · exact ⟨rfl, Nat.le_refl _, by show u < u + (q + 1); omega⟩
    · have := rowQ_mem (u := u) h
      exact ⟨this.1, by omega, by omega⟩
theorem allQ_len5 : ∀ n, n ≤ 5 → (allQ n 0 n).length ≤ 10 := by decide +kernel
theorem allQ_mem {n : Nat} {p : Nat × Nat} : ∀ {q l}, l + q = n → p ∈ allQ n l q → l ≤ p.1 ∧ p.1 < p.2 ∧ p.2 < n
  | q + 1, l, hq, h => by
    rw [allQ, List.mem_append] at h
    rcases h with h | h
    · have := rowQ_mem (u := l + 1) h
      exact ⟨by omega, by omega, by omega⟩
    · have := allQ_mem (q := q) (l := l + 1) (by omega) h
      exact ⟨by omega, by omega, by omega⟩
/-- those left, the ones of a team behind the others -/
def lfO (S : Nat → Nat → Int32) (n : Nat) (seat : Int32) : List (Nat × Nat) := (allQ n 0 n).filter (lfP S seat false) ++ (allQ n 0 n).filter (lfP S seat true)
/-- those left -/
def lfA (S : Nat → Nat → Int32) (n : Nat) : List (Nat × Nat) := (allQ n 0 n).filter (fun p => decide (S p.1 p.2 = -1))
theorem flt_split (S : Nat → Nat → Int32) (seat : Int32) : ∀ L : List (Nat × Nat), (L.filter (lfP S seat false) ++ L.filter (lfP S seat true)).Perm (L.filter (fun p => decide (S p.1 p.2 = -1)))
  | [] => List.Perm.refl _
  | p :: L => by
    have ih := flt_split S seat L
    by_cases h : S p.1 p.2 = -1
    · rw [List.filter_cons (p := fun p : Nat × Nat => decide (S p.1 p.2 = -1)), if_pos (by rw [decide_eq_true_eq]; exact h)]
      by_cases h2 : nI p.1 = seat ∨ nI p.2 = seat
      · rw [List.filter_cons, List.filter_cons, if_neg (by unfold lfP; rw [decide_eq_true h2]; simp), if_pos (by unfold lfP; rw [decide_eq_true h2, decide_eq_true h]; rfl)]
        exact (List.perm_middle).trans (List.Perm.cons p ih)
      · rw [List.filter_cons, List.filter_cons, if_pos (by unfold lfP; rw [decide_eq_false h2, decide_eq_true h]; rfl), if_neg (by unfold lfP; rw [decide_eq_false h2]; simp)]
        exact List.Perm.cons p ih
    · have e1 : ∀ b, ¬ lfP S seat b p = true := fun b => by unfold lfP; rw [decide_eq_false h]; simp
      rw [List.filter_cons, List.filter_cons, if_neg (e1 _), if_neg (e1 _), List.filter_cons, if_neg (by rw [decide_eq_true_eq]; exact h)]
      exact ih
theorem lfO_perm (S : Nat → Nat → Int32) (n : Nat) (seat : Int32) : (lfO S n seat).Perm (lfA S n) := flt_split S seat _
theorem lfA_len {S : Nat → Nat → Int32} {n : Nat} (hn : n ≤ 5) : (lfA S n).length ≤ 10 := Nat.le_trans (List.length_filter_le _ _) (allQ_len5 n hn)
theorem lfO_len {S : Nat → Nat → Int32} {n : Nat} {seat : Int32} (hn : n ≤ 5) : (lfO S n seat).length ≤ 10 := by
  rw [(lfO_perm S n seat).length_eq]
  exact lfA_len hn
theorem lfO_all {S : Nat → Nat → Int32} {n : Nat} (hn : n ≤ 5) : lfO S n (-1) = lfA S n := by
  unfold lfO lfA
  have h0 : ∀ p, p ∈ allQ n 0 n → ¬ (nI p.1 = -1 ∨ nI p.2 = -1) := by
    intro p hp
    have := allQ_mem (q := n) (l := 0) (by omega) hp
    have hne : ∀ i, i < 5 → nI i ≠ -1 := by decide
    intro h
    rcases h with h | h
    · exact hne _ (by omega) h
    · exact hne _ (by omega) h
  have e1 : (allQ n 0 n).filter (lfP S (-1) true) = [] := by
    rw [List.filter_eq_nil_iff]
    intro p hp
    unfold lfP
    rw [decide_eq_false (h0 p hp)]
    simp
  rw [e1, List.append_nil]
  apply List.filter_congr
  intro p hp
  unfold lfP
  rw [decide_eq_false (h0 p hp)]
  simp
theorem lfA_mem {S : Nat → Nat → Int32} {n : Nat} {p : Nat × Nat} (h : p ∈ lfA S n) : p.1 < p.2 ∧ p.2 < n ∧ S p.1 p.2 = -1 := by
  unfold lfA at h
  rw [List.mem_filter, decide_eq_true_eq] at h
  have := allQ_mem (q := n) (l := 0) (by omega) h.1
  exact ⟨this.2.1, this.2.2, h.2⟩
theorem bI_xor {seat : Int32} {own : Bool} {p : Nat × Nat} : (bI (nI p.1 = seat ∨ nI p.2 = seat) = bI (own = true)) ↔ (decide (nI p.1 = seat ∨ nI p.2 = seat) == own) = true := by
  by_cases h : nI p.1 = seat ∨ nI p.2 = seat
  · rw [bI_t h, decide_eq_true h]
    cases own <;> decide
  · rw [bI_f h, decide_eq_false h]
    cases own <;> decide
section Lft20
variable {sc : SC} {d : Nat} {g : Int32} {X : XT}
/-- these matches are listed -/
def Lst20 (X : XT) (L : List (Nat × Nat)) : Prop := ∀ i, (h : i < L.length) → X.1 21 0 0 (nI i) = nI L[i].1 ∧ X.1 22 0 0 (nI i) = nI L[i].2
theorem Lst20.fr {K : List Nat} {X X' : XT} {L : List (Nat × Nat)} (h : Lst20 X L) (hf : Fr K X X') (h1 : 21 ∉ K) (h2 : 22 ∉ K) : Lst20 X' L := fun i hi => by
  rw [hf.at 21 h1, hf.at 22 h2]
  exact h i hi
theorem Lst20.push {L : List (Nat × Nat)} (h : Lst20 X L) (hl : L.length < 10) (a b : Nat) : Lst20 (xs (xs X.1 21 0 0 (nI L.length) (nI a)) 22 0 0 (nI L.length) (nI b), X.2) (L ++ [(a, b)]) := by
  intro i hi
  rw [List.length_append, List.length_singleton] at hi
  show xs (xs X.1 21 0 0 (nI L.length) (nI a)) 22 0 0 (nI L.length) (nI b) 21 0 0 (nI i) = _ ∧ xs (xs X.1 21 0 0 (nI L.length) (nI a)) 22 0 0 (nI L.length) (nI b) 22 0 0 (nI i) = _
  rw [show xs (xs X.1 21 0 0 (nI L.length) (nI a)) 22 0 0 (nI L.length) (nI b) 21 0 0 = xs X.1 21 0 0 (nI L.length) (nI a) 21 0 0 from xs_ne _ _ _ (by simp)]
  by_cases hi2 : i = L.length
  · subst hi2
    rw [xs_self, xs_self]
    simp
  · have hne : nI i ≠ nI L.length := fun q => hi2 (nI_inj (by omega) (by omega) q)
    rw [xs_nj _ _ _ _ _ hne, xs_nj _ _ _ _ _ hne, show xs X.1 21 0 0 (nI L.length) (nI a) 22 0 0 = X.1 22 0 0 from xs_ne _ _ _ (by simp), List.getElem_append_left (by omega)]
    exact h i (by omega)
theorem s_lowerOf20 {p : Int32} (hp : vp_in p 10) : Ev sc d 26 0 (ent 26 [vR 20 0 0, vI p]) [] X (.inl (some (.inl (X.1 21 0 0 p)))) X 0 := by
  rw [en26]
  refine ev_seg rfl ?_
  simp only [TE, sxs, sx, ldI, ldA, stI, stA, inc, gtF, ptF, ldX, stX, ldR, ldL, stL, dp1, dp2, Tm, kS0, kS1, kS2, kS3, kS4, kS5, kS6, kS7, kS8, kS9, kS10, kS11, kS12, kS13, kS14, kS15, kS16, kS17, kS18, kS19, kS20, kS21, kS22, kS23, kS24, kS25, kS26, kS27, kS28, kS30, kS31, kS32, kS33, kS34, kS35, kS36, kS37, kS38, kS39, kS40, kS41, kS42, kS43, kS50, kS51, kS52, kS53, List.getElem?_cons_zero, List.getElem?_cons_succ, List.set_cons_zero, List.set_cons_succ, List.length_cons, List.length_nil, List.drop_succ_cons, List.drop_zero, List.cons_append, List.nil_append, Option.toList_some, Option.toList_none, cz, ci2, true_and, and_true, and_self, true_or, or_true, nI_1, Nat.reduceAdd, Nat.reduceLT]
  exact hp
theorem s_upperOf20 {p : Int32} (hp : vp_in p 10) : Ev sc d 27 0 (ent 27 [vR 20 0 0, vI p]) [] X (.inl (some (.inl (X.1 22 0 0 p)))) X 0 := by
  rw [en27]
  refine ev_seg rfl ?_
  simp only [TE, sxs, sx, ldI, ldA, stI, stA, inc, gtF, ptF, ldX, stX, ldR, ldL, stL, dp1, dp2, Tm, kS0, kS1, kS2, kS3, kS4, kS5, kS6, kS7, kS8, kS9, kS10, kS11, kS12, kS13, kS14, kS15, kS16, kS17, kS18, kS19, kS20, kS21, kS22, kS23, kS24, kS25, kS26, kS27, kS28, kS30, kS31, kS32, kS33, kS34, kS35, kS36, kS37, kS38, kS39, kS40, kS41, kS42, kS43, kS50, kS51, kS52, kS53, List.getElem?_cons_zero, List.getElem?_cons_succ, List.set_cons_zero, List.set_cons_succ, List.length_cons, List.length_nil, List.drop_succ_cons, List.drop_zero, List.cons_append, List.nil_append, Option.toList_some, Option.toList_none, cz, ci2, true_and, and_true, and_self, true_or, or_true, nI_1, Nat.reduceAdd, Nat.reduceLT]
  exact hp
theorem add_row20 {n : Nat} {seat cb : Int32} {own : Bool} (hn5 : n ≤ 5) {l : Nat} (hl : l < n) : ∀ (q u : Nat) (X : XT) (L : List (Nat × Nat)) (z9 : AV), u + q = n → Lst20 X L → L.length + ((rowQ l u q).filter (lfP (scC X g) seat own)).length ≤ 10 →
    ∃ (X' : XT) (L' : List (Nat × Nat)) (z8 z9' : AV), Fr [21, 22] X X' ∧ Lst20 X' L' ∧ L' = L ++ (rowQ l u q).filter (lfP (scC X g) seat own) ∧
      ∀ o Z k, Ev sc (d + 1) 25 15 [vR 20 0 0, vR 2 0 g, vI seat, vI (bI (own = true)), vI cb, vI (nI L'.length), vI (nI n), vI (nI l), z8, z9'] [] X' o Z k → Ev sc (d + 1) 25 4 [vR 20 0 0, vR 2 0 g, vI seat, vI (bI (own = true)), vI cb, vI (nI L.length), vI (nI n), vI (nI l), vI (nI u), z9] [] X o Z k := by
  intro q
  induction q with
  | zero =>
    intro u X L z9 hq hL hlen
    refine ⟨X, L, vI (nI u), z9, Fr.rf _ _, hL, by simp [rowQ], fun o Z k h => ?_⟩
    refine ev_seg rfl ?_
    simp only [TE, sxs, sx, ldI, ldA, stI, stA, inc, gtF, ptF, ldX, stX, ldR, ldL, stL, dp1, dp2, Tm, kS0, kS1, kS2, kS3, kS4, kS5, kS6, kS7, kS8, kS9, kS10, kS11, kS12, kS13, kS14, kS15, kS16, kS17, kS18, kS19, kS20, kS21, kS22, kS23, kS24, kS25, kS26, kS27, kS28, kS30, kS31, kS32, kS33, kS34, kS35, kS36, kS37, kS38, kS39, kS40, kS41, kS42, kS43, kS50, kS51, kS52, kS53, List.getElem?_cons_zero, List.getElem?_cons_succ, List.set_cons_zero, List.set_cons_succ, List.length_cons, List.length_nil, List.drop_succ_cons, List.drop_zero, List.cons_append, List.nil_append, Option.toList_some, Option.toList_none, cz, ci2, true_and, and_true, and_self, true_or, or_true, nI_1, Nat.reduceAdd, Nat.reduceLT]
    refine ⟨fun _ => h, fun h => absurd (nleI (by omega) (by omega)) h⟩
  | succ q ih =>
    intro u X L z9 hq hL hlen
    have hv1 : vp_in (nI l) 5 := vpn (by omega) (by decide)
    have hv2 : vp_in (nI u) 5 := vpn (by omega) (by decide)
    have hof : ∀ o Z k, Ev sc (d + 1) 25 9 [vR 20 0 0, vR 2 0 g, vI seat, vI (bI (own = true)), vI cb, vI (nI L.length), vI (nI n), vI (nI l), vI (nI u), z9] [vI (bI (nI l = seat ∨ nI u = seat))] X o Z k → Ev sc (d + 1) 25 5 [vR 20 0 0, vR 2 0 g, vI seat, vI (bI (own = true)), vI cb, vI (nI L.length), vI (nI n), vI (nI l), vI (nI u), z9] [] X o Z k := by
      intro o Z k h
      refine ev_seg rfl ?_
      simp only [TE, sxs, sx, ldI, ldA, stI, stA, inc, gtF, ptF, ldX, stX, ldR, ldL, stL, dp1, dp2, Tm, kS0, kS1, kS2, kS3, kS4, kS5, kS6, kS7, kS8, kS9, kS10, kS11, kS12, kS13, kS14, kS15, kS16, kS17, kS18, kS19, kS20, kS21, kS22, kS23, kS24, kS25, kS26, kS27, kS28, kS30, kS31, kS32, kS33, kS34, kS35, kS36, kS37, kS38, kS39, kS40, kS41, kS42, kS43, kS50, kS51, kS52, kS53, List.getElem?_cons_zero, List.getElem?_cons_succ, List.set_cons_zero, List.set_cons_succ, List.length_cons, List.length_nil, List.drop_succ_cons, List.drop_zero, List.cons_append, List.nil_append, Option.toList_some, Option.toList_none, cz, ci2, true_and, and_true, and_self, true_or, or_true, nI_1, Nat.reduceAdd, Nat.reduceLT]
      refine ⟨fun h1 => ?_, fun h1 => ?_⟩
      · rw [bI_t (p := nI l = seat ∨ nI u = seat) (Or.inl h1)] at h
        refine ev_seg rfl ?_
        simp only [TE, sxs, sx, ldI, ldA, stI, stA, inc, gtF, ptF, ldX, stX, ldR, ldL, stL, dp1, dp2, Tm, kS0, kS1, kS2, kS3, kS4, kS5, kS6, kS7, kS8, kS9, kS10, kS11, kS12, kS13, kS14, kS15, kS16, kS17, kS18, kS19, kS20, kS21, kS22, kS23, kS24, kS25, kS26, kS27, kS28, kS30, kS31, kS32, kS33, kS34, kS35, kS36, kS37, kS38, kS39, kS40, kS41, kS42, kS43, kS50, kS51, kS52, kS53, List.getElem?_cons_zero, List.getElem?_cons_succ, List.set_cons_zero, List.set_cons_succ, List.length_cons, List.length_nil, List.drop_succ_cons, List.drop_zero, List.cons_append, List.nil_append, Option.toList_some, Option.toList_none, cz, ci2, true_and, and_true, and_self, true_or, or_true, nI_1, Nat.reduceAdd, Nat.reduceLT]
        exact h
      · refine ev_seg rfl ?_
        simp only [TE, sxs, sx, ldI, ldA, stI, stA, inc, gtF, ptF, ldX, stX, ldR, ldL, stL, dp1, dp2, Tm, kS0, kS1, kS2, kS3, kS4, kS5, kS6, kS7, kS8, kS9, kS10, kS11, kS12, kS13, kS14, kS15, kS16, kS17, kS18, kS19, kS20, kS21, kS22, kS23, kS24, kS25, kS26, kS27, kS28, kS30, kS31, kS32, kS33, kS34, kS35, kS36, kS37, kS38, kS39, kS40, kS41, kS42, kS43, kS50, kS51, kS52, kS53, List.getElem?_cons_zero, List.getElem?_cons_succ, List.set_cons_zero, List.set_cons_succ, List.length_cons, List.length_nil, List.drop_succ_cons, List.drop_zero, List.cons_append, List.nil_append, Option.toList_some, Option.toList_none, cz, ci2, true_and, and_true, and_self, true_or, or_true, nI_1, Nat.reduceAdd, Nat.reduceLT]
        refine ⟨fun h2 => ?_, fun h2 => ?_⟩
        · rw [bI_f (p := nI l = seat ∨ nI u = seat) (fun w => w.elim h1 h2)] at h
          refine ev_seg rfl ?_
          simp only [TE, sxs, sx, ldI, ldA, stI, stA, inc, gtF, ptF, ldX, stX, ldR, ldL, stL, dp1, dp2, Tm, kS0, kS1, kS2, kS3, kS4, kS5, kS6, kS7, kS8, kS9, kS10, kS11, kS12, kS13, kS14, kS15, kS16, kS17, kS18, kS19, kS20, kS21, kS22, kS23, kS24, kS25, kS26, kS27, kS28, kS30, kS31, kS32, kS33, kS34, kS35, kS36, kS37, kS38, kS39, kS40, kS41, kS42, kS43, kS50, kS51, kS52, kS53, List.getElem?_cons_zero, List.getElem?_cons_succ, List.set_cons_zero, List.set_cons_succ, List.length_cons, List.length_nil, List.drop_succ_cons, List.drop_zero, List.cons_append, List.nil_append, Option.toList_some, Option.toList_none, cz, ci2, true_and, and_true, and_self, true_or, or_true, nI_1, Nat.reduceAdd, Nat.reduceLT]
          exact h
        · rw [bI_t (p := nI l = seat ∨ nI u = seat) (Or.inr (Classical.not_not.mp h2))] at h
          refine ev_seg rfl ?_
          simp only [TE, sxs, sx, ldI, ldA, stI, stA, inc, gtF, ptF, ldX, stX, ldR, ldL, stL, dp1, dp2, Tm, kS0, kS1, kS2, kS3, kS4, kS5, kS6, kS7, kS8, kS9, kS10, kS11, kS12, kS13, kS14, kS15, kS16, kS17, kS18, kS19, kS20, kS21, kS22, kS23, kS24, kS25, kS26, kS27, kS28, kS30, kS31, kS32, kS33, kS34, kS35, kS36, kS37, kS38, kS39, kS40, kS41, kS42, kS43, kS50, kS51, kS52, kS53, List.getElem?_cons_zero, List.getElem?_cons_succ, List.set_cons_zero, List.set_cons_succ, List.length_cons, List.length_nil, List.drop_succ_cons, List.drop_zero, List.cons_append, List.nil_append, Option.toList_some, Option.toList_none, cz, ci2, true_and, and_true, and_self, true_or, or_true, nI_1, Nat.reduceAdd, Nat.reduceLT]
          exact h
    by_cases hin : lfP (scC X g) seat own (l, u) = true
    · rw [rowQ, List.filter_cons, if_pos hin, List.length_cons] at hlen
      have hv3 : vp_in (nI L.length) 10 := vpn (by omega) (by decide)
      unfold lfP at hin
      rw [Bool.and_eq_true, decide_eq_true_eq] at hin
      obtain ⟨h1, h2⟩ := hin
      have hb := bI_xor.mpr h1
      generalize hX2 : ((xs (xs X.1 21 0 0 (nI L.length) (nI l)) 22 0 0 (nI L.length) (nI u), X.2) : XT) = X2
      have f2 : Fr [21, 22] X X2 := by
        rw [← hX2]
        exact (Fr.xs X 0 0 (nI L.length) (nI l) (by decide : 21 ∈ [21, 22])).tr (Fr.xs (xs X.1 21 0 0 (nI L.length) (nI l), X.2) 0 0 (nI L.length) (nI u) (by decide : 22 ∈ [21, 22]))
      have hL2 : Lst20 X2 (L ++ [(l, u)]) := by
        rw [← hX2]
        exact hL.push (by omega) l u
      have hlen2 : (L ++ [(l, u)]).length = L.length + 1 := by simp
      obtain ⟨X', L', z8, z9', a1, a2, a3, a4⟩ := ih (u + 1) X2 (L ++ [(l, u)]) (vI (bI (nI l = seat ∨ nI u = seat))) (by omega) hL2 (by rw [scC_fr f2 (by decide), hlen2]; omega)
      refine ⟨X', L', z8, z9', f2.tr a1, a2, ?_, fun o Z k h => ?_⟩
      · rw [a3, scC_fr f2 (by decide), rowQ, List.filter_cons, if_pos (by unfold lfP; rw [Bool.and_eq_true, decide_eq_true_eq]; exact ⟨h1, h2⟩)]
        simp
      · have h4 := a4 o Z k h
        rw [hlen2] at h4
        refine ev_seg rfl ?_
        simp only [TE, sxs, sx, ldI, ldA, stI, stA, inc, gtF, ptF, ldX, stX, ldR, ldL, stL, dp1, dp2, Tm, kS0, kS1, kS2, kS3, kS4, kS5, kS6, kS7, kS8, kS9, kS10, kS11, kS12, kS13, kS14, kS15, kS16, kS17, kS18, kS19, kS20, kS21, kS22, kS23, kS24, kS25, kS26, kS27, kS28, kS30, kS31, kS32, kS33, kS34, kS35, kS36, kS37, kS38, kS39, kS40, kS41, kS42, kS43, kS50, kS51, kS52, kS53, List.getElem?_cons_zero, List.getElem?_cons_succ, List.set_cons_zero, List.set_cons_succ, List.length_cons, List.length_nil, List.drop_succ_cons, List.drop_zero, List.cons_append, List.nil_append, Option.toList_some, Option.toList_none, cz, ci2, true_and, and_true, and_self, true_or, or_true, nI_1, Nat.reduceAdd, Nat.reduceLT]
        refine ⟨fun h => absurd h (nle (by omega) (by omega)), fun _ => hof _ _ _ ?_⟩
        refine ev_seg rfl ?_
        simp only [TE, sxs, sx, ldI, ldA, stI, stA, inc, gtF, ptF, ldX, stX, ldR, ldL, stL, dp1, dp2, Tm, kS0, kS1, kS2, kS3, kS4, kS5, kS6, kS7, kS8, kS9, kS10, kS11, kS12, kS13, kS14, kS15, kS16, kS17, kS18, kS19, kS20, kS21, kS22, kS23, kS24, kS25, kS26, kS27, kS28, kS30, kS31, kS32, kS33, kS34, kS35, kS36, kS37, kS38, kS39, kS40, kS41, kS42, kS43, kS50, kS51, kS52, kS53, List.getElem?_cons_zero, List.getElem?_cons_succ, List.set_cons_zero, List.set_cons_succ, List.length_cons, List.length_nil, List.drop_succ_cons, List.drop_zero, List.cons_append, List.nil_append, Option.toList_some, Option.toList_none, cz, ci2, true_and, and_true, and_self, true_or, or_true, nI_1, Nat.reduceAdd, Nat.reduceLT]
        refine ⟨fun h => absurd hb h, fun _ => ?_⟩
        refine ev_seg rfl ?_
        simp only [TE, sxs, sx, ldI, ldA, stI, stA, inc, gtF, ptF, ldX, stX, ldR, ldL, stL, dp1, dp2, Tm, kS0, kS1, kS2, kS3, kS4, kS5, kS6, kS7, kS8, kS9, kS10, kS11, kS12, kS13, kS14, kS15, kS16, kS17, kS18, kS19, kS20, kS21, kS22, kS23, kS24, kS25, kS26, kS27, kS28, kS30, kS31, kS32, kS33, kS34, kS35, kS36, kS37, kS38, kS39, kS40, kS41, kS42, kS43, kS50, kS51, kS52, kS53, List.getElem?_cons_zero, List.getElem?_cons_succ, List.set_cons_zero, List.set_cons_succ, List.length_cons, List.length_nil, List.drop_succ_cons, List.drop_zero, List.cons_append, List.nil_append, Option.toList_some, Option.toList_none, cz, ci2, true_and, and_true, and_self, true_or, or_true, nI_1, Nat.reduceAdd, Nat.reduceLT]
        refine ⟨fun h => absurd h (nle (by omega : L.length < 10) (by decide)), fun _ => ?_⟩
        refine ev_seg rfl ?_
        simp only [TE, sxs, sx, ldI, ldA, stI, stA, inc, gtF, ptF, ldX, stX, ldR, ldL, stL, dp1, dp2, Tm, kS0, kS1, kS2, kS3, kS4, kS5, kS6, kS7, kS8, kS9, kS10, kS11, kS12, kS13, kS14, kS15, kS16, kS17, kS18, kS19, kS20, kS21, kS22, kS23, kS24, kS25, kS26, kS27, kS28, kS30, kS31, kS32, kS33, kS34, kS35, kS36, kS37, kS38, kS39, kS40, kS41, kS42, kS43, kS50, kS51, kS52, kS53, List.getElem?_cons_zero, List.getElem?_cons_succ, List.set_cons_zero, List.set_cons_succ, List.length_cons, List.length_nil, List.drop_succ_cons, List.drop_zero, List.cons_append, List.nil_append, Option.toList_some, Option.toList_none, cz, ci2, true_and, and_true, and_self, true_or, or_true, nI_1, Nat.reduceAdd, Nat.reduceLT]
        refine cv3 rfl rfl (by first | exact rfl | exact trivial) (s_hasResult hv1 hv2) ?_
        rw [bI_f (p := ¬ X.1 4 g (nI l) (nI u) = -1) (fun w => w h2)]
        refine ev_seg rfl ?_
        simp only [TE, sxs, sx, ldI, ldA, stI, stA, inc, gtF, ptF, ldX, stX, ldR, ldL, stL, dp1, dp2, Tm, kS0, kS1, kS2, kS3, kS4, kS5, kS6, kS7, kS8, kS9, kS10, kS11, kS12, kS13, kS14, kS15, kS16, kS17, kS18, kS19, kS20, kS21, kS22, kS23, kS24, kS25, kS26, kS27, kS28, kS30, kS31, kS32, kS33, kS34, kS35, kS36, kS37, kS38, kS39, kS40, kS41, kS42, kS43, kS50, kS51, kS52, kS53, List.getElem?_cons_zero, List.getElem?_cons_succ, List.set_cons_zero, List.set_cons_succ, List.length_cons, List.length_nil, List.drop_succ_cons, List.drop_zero, List.cons_append, List.nil_append, Option.toList_some, Option.toList_none, cz, ci2, true_and, and_true, and_self, true_or, or_true, nI_1, Nat.reduceAdd, Nat.reduceLT]
        refine ⟨fun h => absurd trivial h, fun _ => ?_⟩
        refine ev_seg rfl ?_
        simp only [TE, sxs, sx, ldI, ldA, stI, stA, inc, gtF, ptF, ldX, stX, ldR, ldL, stL, dp1, dp2, Tm, kS0, kS1, kS2, kS3, kS4, kS5, kS6, kS7, kS8, kS9, kS10, kS11, kS12, kS13, kS14, kS15, kS16, kS17, kS18, kS19, kS20, kS21, kS22, kS23, kS24, kS25, kS26, kS27, kS28, kS30, kS31, kS32, kS33, kS34, kS35, kS36, kS37, kS38, kS39, kS40, kS41, kS42, kS43, kS50, kS51, kS52, kS53, List.getElem?_cons_zero, List.getElem?_cons_succ, List.set_cons_zero, List.set_cons_succ, List.length_cons, List.length_nil, List.drop_succ_cons, List.drop_zero, List.cons_append, List.nil_append, Option.toList_some, Option.toList_none, cz, ci2, true_and, and_true, and_self, true_or, or_true, nI_1, Nat.reduceAdd, Nat.reduceLT]
        rw [hX2]
        refine ⟨(by first | assumption | (and_intros <;> first | assumption | trivial | decide)), ?_⟩
        refine ev_seg rfl ?_
        simp only [TE, sxs, sx, ldI, ldA, stI, stA, inc, gtF, ptF, ldX, stX, ldR, ldL, stL, dp1, dp2, Tm, kS0, kS1, kS2, kS3, kS4, kS5, kS6, kS7, kS8, kS9, kS10, kS11, kS12, kS13, kS14, kS15, kS16, kS17, kS18, kS19, kS20, kS21, kS22, kS23, kS24, kS25, kS26, kS27, kS28, kS30, kS31, kS32, kS33, kS34, kS35, kS36, kS37, kS38, kS39, kS40, kS41, kS42, kS43, kS50, kS51, kS52, kS53, List.getElem?_cons_zero, List.getElem?_cons_succ, List.set_cons_zero, List.set_cons_succ, List.length_cons, List.length_nil, List.drop_succ_cons, List.drop_zero, List.cons_append, List.nil_append, Option.toList_some, Option.toList_none, cz, ci2, true_and, and_true, and_self, true_or, or_true, nI_1, Nat.reduceAdd, Nat.reduceLT]
        exact h4
    · rw [rowQ, List.filter_cons, if_neg hin] at hlen
      obtain ⟨X', L', z8, z9', a1, a2, a3, a4⟩ := ih (u + 1) X L (vI (bI (nI l = seat ∨ nI u = seat))) (by omega) hL hlen
      refine ⟨X', L', z8, z9', a1, a2, ?_, fun o Z k h => ?_⟩
      · rw [a3, rowQ, List.filter_cons, if_neg hin]
      · have h4 := a4 o Z k h
        have h5 : Ev sc (d + 1) 25 14 [vR 20 0 0, vR 2 0 g, vI seat, vI (bI (own = true)), vI cb, vI (nI L.length), vI (nI n), vI (nI l), vI (nI u), vI (bI (nI l = seat ∨ nI u = seat))] [] X o Z k := by
          refine ev_seg rfl ?_
          simp only [TE, sxs, sx, ldI, ldA, stI, stA, inc, gtF, ptF, ldX, stX, ldR, ldL, stL, dp1, dp2, Tm, kS0, kS1, kS2, kS3, kS4, kS5, kS6, kS7, kS8, kS9, kS10, kS11, kS12, kS13, kS14, kS15, kS16, kS17, kS18, kS19, kS20, kS21, kS22, kS23, kS24, kS25, kS26, kS27, kS28, kS30, kS31, kS32, kS33, kS34, kS35, kS36, kS37, kS38, kS39, kS40, kS41, kS42, kS43, kS50, kS51, kS52, kS53, List.getElem?_cons_zero, List.getElem?_cons_succ, List.set_cons_zero, List.set_cons_succ, List.length_cons, List.length_nil, List.drop_succ_cons, List.drop_zero, List.cons_append, List.nil_append, Option.toList_some, Option.toList_none, cz, ci2, true_and, and_true, and_self, true_or, or_true, nI_1, Nat.reduceAdd, Nat.reduceLT]
          exact h4
        refine ev_seg rfl ?_
        simp only [TE, sxs, sx, ldI, ldA, stI, stA, inc, gtF, ptF, ldX, stX, ldR, ldL, stL, dp1, dp2, Tm, kS0, kS1, kS2, kS3, kS4, kS5, kS6, kS7, kS8, kS9, kS10, kS11, kS12, kS13, kS14, kS15, kS16, kS17, kS18, kS19, kS20, kS21, kS22, kS23, kS24, kS25, kS26, kS27, kS28, kS30, kS31, kS32, kS33, kS34, kS35, kS36, kS37, kS38, kS39, kS40, kS41, kS42, kS43, kS50, kS51, kS52, kS53, List.getElem?_cons_zero, List.getElem?_cons_succ, List.set_cons_zero, List.set_cons_succ, List.length_cons, List.length_nil, List.drop_succ_cons, List.drop_zero, List.cons_append, List.nil_append, Option.toList_some, Option.toList_none, cz, ci2, true_and, and_true, and_self, true_or, or_true, nI_1, Nat.reduceAdd, Nat.reduceLT]
        refine ⟨fun h => absurd h (nle (by omega) (by omega)), fun _ => hof _ _ _ ?_⟩
        refine ev_seg rfl ?_
        simp only [TE, sxs, sx, ldI, ldA, stI, stA, inc, gtF, ptF, ldX, stX, ldR, ldL, stL, dp1, dp2, Tm, kS0, kS1, kS2, kS3, kS4, kS5, kS6, kS7, kS8, kS9, kS10, kS11, kS12, kS13, kS14, kS15, kS16, kS17, kS18, kS19, kS20, kS21, kS22, kS23, kS24, kS25, kS26, kS27, kS28, kS30, kS31, kS32, kS33, kS34, kS35, kS36, kS37, kS38, kS39, kS40, kS41, kS42, kS43, kS50, kS51, kS52, kS53, List.getElem?_cons_zero, List.getElem?_cons_succ, List.set_cons_zero, List.set_cons_succ, List.length_cons, List.length_nil, List.drop_succ_cons, List.drop_zero, List.cons_append, List.nil_append, Option.toList_some, Option.toList_none, cz, ci2, true_and, and_true, and_self, true_or, or_true, nI_1, Nat.reduceAdd, Nat.reduceLT]
        refine ⟨fun _ => h5, fun hb => ?_⟩
        refine ev_seg rfl ?_
        simp only [TE, sxs, sx, ldI, ldA, stI, stA, inc, gtF, ptF, ldX, stX, ldR, ldL, stL, dp1, dp2, Tm, kS0, kS1, kS2, kS3, kS4, kS5, kS6, kS7, kS8, kS9, kS10, kS11, kS12, kS13, kS14, kS15, kS16, kS17, kS18, kS19, kS20, kS21, kS22, kS23, kS24, kS25, kS26, kS27, kS28, kS30, kS31, kS32, kS33, kS34, kS35, kS36, kS37, kS38, kS39, kS40, kS41, kS42, kS43, kS50, kS51, kS52, kS53, List.getElem?_cons_zero, List.getElem?_cons_succ, List.set_cons_zero, List.set_cons_succ, List.length_cons, List.length_nil, List.drop_succ_cons, List.drop_zero, List.cons_append, List.nil_append, Option.toList_some, Option.toList_none, cz, ci2, true_and, and_true, and_self, true_or, or_true, nI_1, Nat.reduceAdd, Nat.reduceLT]
        refine ⟨fun _ => h5, fun _ => ?_⟩
        refine ev_seg rfl ?_
        simp only [TE, sxs, sx, ldI, ldA, stI, stA, inc, gtF, ptF, ldX, stX, ldR, ldL, stL, dp1, dp2, Tm, kS0, kS1, kS2, kS3, kS4, kS5, kS6, kS7, kS8, kS9, kS10, kS11, kS12, kS13, kS14, kS15, kS16, kS17, kS18, kS19, kS20, kS21, kS22, kS23, kS24, kS25, kS26, kS27, kS28, kS30, kS31, kS32, kS33, kS34, kS35, kS36, kS37, kS38, kS39, kS40, kS41, kS42, kS43, kS50, kS51, kS52, kS53, List.getElem?_cons_zero, List.getElem?_cons_succ, List.set_cons_zero, List.set_cons_succ, List.length_cons, List.length_nil, List.drop_succ_cons, List.drop_zero, List.cons_append, List.nil_append, Option.toList_some, Option.toList_none, cz, ci2, true_and, and_true, and_self, true_or, or_true, nI_1, Nat.reduceAdd, Nat.reduceLT]
        refine cv3 rfl rfl (by first | exact rfl | exact trivial) (s_hasResult hv1 hv2) ?_
        have hres : ¬ X.1 4 g (nI l) (nI u) = -1 := fun w => hin (by
          unfold lfP
          rw [Bool.and_eq_true, decide_eq_true_eq]
          exact ⟨bI_xor.mp (Classical.not_not.mp hb), w⟩)
        rw [bI_t (p := ¬ X.1 4 g (nI l) (nI u) = -1) hres]
        refine ev_seg rfl ?_
        simp only [TE, sxs, sx, ldI, ldA, stI, stA, inc, gtF, ptF, ldX, stX, ldR, ldL, stL, dp1, dp2, Tm, kS0, kS1, kS2, kS3, kS4, kS5, kS6, kS7, kS8, kS9, kS10, kS11, kS12, kS13, kS14, kS15, kS16, kS17, kS18, kS19, kS20, kS21, kS22, kS23, kS24, kS25, kS26, kS27, kS28, kS30, kS31, kS32, kS33, kS34, kS35, kS36, kS37, kS38, kS39, kS40, kS41, kS42, kS43, kS50, kS51, kS52, kS53, List.getElem?_cons_zero, List.getElem?_cons_succ, List.set_cons_zero, List.set_cons_succ, List.length_cons, List.length_nil, List.drop_succ_cons, List.drop_zero, List.cons_append, List.nil_append, Option.toList_some, Option.toList_none, cz, ci2, true_and, and_true, and_self, true_or, or_true, nI_1, Nat.reduceAdd, Nat.reduceLT]
        refine ⟨fun _ => h5, fun h => absurd (by decide) h⟩
theorem s_add20 {n : Nat} {seat : Int32} {own : Bool} {L : List (Nat × Nat)} (hN : X.1 2 0 g 5 = nI n) (hn5 : n ≤ 5) (hL : Lst20 X L) (hlen : L.length + ((allQ n 0 n).filter (lfP (scC X g) seat own)).length ≤ 10) :
    ∃ (Z : XT) (L' : List (Nat × Nat)), Ev sc (d + 1) 25 0 (ent 25 [vR 20 0 0, vR 2 0 g, vI seat, vI (bI (own = true)), vI (nI L.length)]) [] X (.inl (some (.inl (nI L'.length)))) Z 0 ∧ Fr [21, 22] X Z ∧ Lst20 Z L' ∧ L' = L ++ (allQ n 0 n).filter (lfP (scC X g) seat own) := by
  have loop : ∀ (q l : Nat) (X1 : XT) (L1 : List (Nat × Nat)) (z8 z9 : AV), l + q = n → Fr [21, 22] X X1 → Lst20 X1 L1 → L1.length + ((allQ n l q).filter (lfP (scC X g) seat own)).length ≤ 10 →
      ∃ (Z : XT) (L' : List (Nat × Nat)), Ev sc (d + 1) 25 2 [vR 20 0 0, vR 2 0 g, vI seat, vI (bI (own = true)), vI (nI L.length), vI (nI L1.length), vI (nI n), vI (nI l), z8, z9] [] X1 (.inl (some (.inl (nI L'.length)))) Z 0 ∧ Fr [21, 22] X Z ∧ Lst20 Z L' ∧ L' = L1 ++ (allQ n l q).filter (lfP (scC X g) seat own) := by
    intro q
    induction q with
    | zero =>
      intro l X1 L1 z8 z9 hq hf hL1 hlen1
      refine ⟨X1, L1, ?_, hf, hL1, by simp [allQ]⟩
      refine ev_seg rfl ?_
      simp only [TE, sxs, sx, ldI, ldA, stI, stA, inc, gtF, ptF, ldX, stX, ldR, ldL, stL, dp1, dp2, Tm, kS0, kS1, kS2, kS3, kS4, kS5, kS6, kS7, kS8, kS9, kS10, kS11, kS12, kS13, kS14, kS15, kS16, kS17, kS18, kS19, kS20, kS21, kS22, kS23, kS24, kS25, kS26, kS27, kS28, kS30, kS31, kS32, kS33, kS34, kS35, kS36, kS37, kS38, kS39, kS40, kS41, kS42, kS43, kS50, kS51, kS52, kS53, List.getElem?_cons_zero, List.getElem?_cons_succ, List.set_cons_zero, List.set_cons_succ, List.length_cons, List.length_nil, List.drop_succ_cons, List.drop_zero, List.cons_append, List.nil_append, Option.toList_some, Option.toList_none, cz, ci2, true_and, and_true, and_self, true_or, or_true, nI_1, Nat.reduceAdd, Nat.reduceLT]
      refine ⟨fun _ => ?_, fun h => absurd (nleI (by omega) (by omega)) h⟩
      refine ev_seg rfl ?_
      simp only [TE, sxs, sx, ldI, ldA, stI, stA, inc, gtF, ptF, ldX, stX, ldR, ldL, stL, dp1, dp2, Tm, kS0, kS1, kS2, kS3, kS4, kS5, kS6, kS7, kS8, kS9, kS10, kS11, kS12, kS13, kS14, kS15, kS16, kS17, kS18, kS19, kS20, kS21, kS22, kS23, kS24, kS25, kS26, kS27, kS28, kS30, kS31, kS32, kS33, kS34, kS35, kS36, kS37, kS38, kS39, kS40, kS41, kS42, kS43, kS50, kS51, kS52, kS53, List.getElem?_cons_zero, List.getElem?_cons_succ, List.set_cons_zero, List.set_cons_succ, List.length_cons, List.length_nil, List.drop_succ_cons, List.drop_zero, List.cons_append, List.nil_append, Option.toList_some, Option.toList_none, cz, ci2, true_and, and_true, and_self, true_or, or_true, nI_1, Nat.reduceAdd, Nat.reduceLT]
    | succ q ih =>
      intro l X1 L1 z8 z9 hq hf hL1 hlen1
      rw [allQ, List.filter_append, List.length_append] at hlen1
      have e1 := scC_fr (g := g) hf (by decide)
      obtain ⟨X', L', y8, y9, a1, a2, a3, a4⟩ := add_row20 (sc := sc) (d := d) (g := g) (seat := seat) (cb := nI L.length) (own := own) hn5 (l := l) (by omega) (n - (l + 1)) (l + 1) X1 L1 z9 (by omega) hL1 (by rw [e1]; omega)
      rw [e1] at a3
      obtain ⟨Z, L2, b1, b2, b3, b4⟩ := ih (l + 1) X' L' y8 y9 (by omega) (hf.tr a1) a2 (by rw [a3, List.length_append]; omega)
      refine ⟨Z, L2, ?_, b2, b3, ?_⟩
      · refine ev_seg rfl ?_
        simp only [TE, sxs, sx, ldI, ldA, stI, stA, inc, gtF, ptF, ldX, stX, ldR, ldL, stL, dp1, dp2, Tm, kS0, kS1, kS2, kS3, kS4, kS5, kS6, kS7, kS8, kS9, kS10, kS11, kS12, kS13, kS14, kS15, kS16, kS17, kS18, kS19, kS20, kS21, kS22, kS23, kS24, kS25, kS26, kS27, kS28, kS30, kS31, kS32, kS33, kS34, kS35, kS36, kS37, kS38, kS39, kS40, kS41, kS42, kS43, kS50, kS51, kS52, kS53, List.getElem?_cons_zero, List.getElem?_cons_succ, List.set_cons_zero, List.set_cons_succ, List.length_cons, List.length_nil, List.drop_succ_cons, List.drop_zero, List.cons_append, List.nil_append, Option.toList_some, Option.toList_none, cz, ci2, true_and, and_true, and_self, true_or, or_true, nI_1, Nat.reduceAdd, Nat.reduceLT]
        refine ⟨fun h => absurd h (nle (by omega) (by omega)), fun _ => ?_⟩
        refine ev_seg rfl ?_
        simp only [TE, sxs, sx, ldI, ldA, stI, stA, inc, gtF, ptF, ldX, stX, ldR, ldL, stL, dp1, dp2, Tm, kS0, kS1, kS2, kS3, kS4, kS5, kS6, kS7, kS8, kS9, kS10, kS11, kS12, kS13, kS14, kS15, kS16, kS17, kS18, kS19, kS20, kS21, kS22, kS23, kS24, kS25, kS26, kS27, kS28, kS30, kS31, kS32, kS33, kS34, kS35, kS36, kS37, kS38, kS39, kS40, kS41, kS42, kS43, kS50, kS51, kS52, kS53, List.getElem?_cons_zero, List.getElem?_cons_succ, List.set_cons_zero, List.set_cons_succ, List.length_cons, List.length_nil, List.drop_succ_cons, List.drop_zero, List.cons_append, List.nil_append, Option.toList_some, Option.toList_none, cz, ci2, true_and, and_true, and_self, true_or, or_true, nI_1, Nat.reduceAdd, Nat.reduceLT]
        refine a4 _ _ _ ?_
        refine ev_seg rfl ?_
        simp only [TE, sxs, sx, ldI, ldA, stI, stA, inc, gtF, ptF, ldX, stX, ldR, ldL, stL, dp1, dp2, Tm, kS0, kS1, kS2, kS3, kS4, kS5, kS6, kS7, kS8, kS9, kS10, kS11, kS12, kS13, kS14, kS15, kS16, kS17, kS18, kS19, kS20, kS21, kS22, kS23, kS24, kS25, kS26, kS27, kS28, kS30, kS31, kS32, kS33, kS34, kS35, kS36, kS37, kS38, kS39, kS40, kS41, kS42, kS43, kS50, kS51, kS52, kS53, List.getElem?_cons_zero, List.getElem?_cons_succ, List.set_cons_zero, List.set_cons_succ, List.length_cons, List.length_nil, List.drop_succ_cons, List.drop_zero, List.cons_append, List.nil_append, Option.toList_some, Option.toList_none, cz, ci2, true_and, and_true, and_self, true_or, or_true, nI_1, Nat.reduceAdd, Nat.reduceLT]
        exact b1
      · rw [b4, a3, allQ, List.filter_append, List.append_assoc]
  obtain ⟨Z, L', b1, b2, b3, b4⟩ := loop n 0 X L av0 av0 (by omega) (Fr.rf _ _) hL hlen
  refine ⟨Z, L', ?_, b2, b3, b4⟩
  rw [en25]
  refine ev_seg rfl ?_
  simp only [TE, sxs, sx, ldI, ldA, stI, stA, inc, gtF, ptF, ldX, stX, ldR, ldL, stL, dp1, dp2, Tm, kS0, kS1, kS2, kS3, kS4, kS5, kS6, kS7, kS8, kS9, kS10, kS11, kS12, kS13, kS14, kS15, kS16, kS17, kS18, kS19, kS20, kS21, kS22, kS23, kS24, kS25, kS26, kS27, kS28, kS30, kS31, kS32, kS33, kS34, kS35, kS36, kS37, kS38, kS39, kS40, kS41, kS42, kS43, kS50, kS51, kS52, kS53, List.getElem?_cons_zero, List.getElem?_cons_succ, List.set_cons_zero, List.set_cons_succ, List.length_cons, List.length_nil, List.drop_succ_cons, List.drop_zero, List.cons_append, List.nil_append, Option.toList_some, Option.toList_none, cz, ci2, true_and, and_true, and_self, true_or, or_true, nI_1, Nat.reduceAdd, Nat.reduceLT]
  refine cv1 rfl rfl (by first | exact rfl | exact trivial) (s_size) ?_
  rw [hN]
  refine ev_seg rfl ?_
  simp only [TE, sxs, sx, ldI, ldA, stI, stA, inc, gtF, ptF, ldX, stX, ldR, ldL, stL, dp1, dp2, Tm, kS0, kS1, kS2, kS3, kS4, kS5, kS6, kS7, kS8, kS9, kS10, kS11, kS12, kS13, kS14, kS15, kS16, kS17, kS18, kS19, kS20, kS21, kS22, kS23, kS24, kS25, kS26, kS27, kS28, kS30, kS31, kS32, kS33, kS34, kS35, kS36, kS37, kS38, kS39, kS40, kS41, kS42, kS43, kS50, kS51, kS52, kS53, List.getElem?_cons_zero, List.getElem?_cons_succ, List.set_cons_zero, List.set_cons_succ, List.length_cons, List.length_nil, List.drop_succ_cons, List.drop_zero, List.cons_append, List.nil_append, Option.toList_some, Option.toList_none, cz, ci2, true_and, and_true, and_self, true_or, or_true, nI_1, Nat.reduceAdd, Nat.reduceLT]
  exact b1
/-- the matches, those of one team behind the others -/
theorem s_listOwnLast20 {n : Nat} {seat : Int32} (hN : X.1 2 0 g 5 = nI n) (hn5 : n ≤ 5) :
    ∃ (Z : XT) (L : List (Nat × Nat)), Ev sc (d + 2) 24 0 (ent 24 [vR 20 0 0, vR 2 0 g, vI seat]) [] X (.inl (some (.inl (nI L.length)))) Z 0 ∧ Fr [21, 22] X Z ∧ Lst20 Z L ∧ L = lfO (scC X g) n seat := by
  have hlen := lfO_len (S := scC X g) (seat := seat) hn5
  unfold lfO at hlen
  rw [List.length_append] at hlen
  obtain ⟨X1, L1, a1, a2, a3, a4⟩ := s_add20 (sc := sc) (d := d) (g := g) (X := X) (seat := seat) (own := false) (L := []) hN hn5 (fun i hi => absurd hi (by simp)) (by rw [List.length_nil]; omega)
  rw [List.nil_append] at a4
  have e1 := scC_fr (g := g) a2 (by decide)
  obtain ⟨X2, L2, b1, b2, b3, b4⟩ := s_add20 (sc := sc) (d := d) (g := g) (X := X1) (seat := seat) (own := true) (L := L1) (by rw [a2.at 2 (by decide)]; exact hN) hn5 a3 (by rw [a4, e1]; omega)
  rw [e1, a4] at b4
  refine ⟨X2, L2, ?_, a2.tr b2, b3, b4⟩
  rw [en24]
  refine ev_seg rfl ?_
  simp only [TE, sxs, sx, ldI, ldA, stI, stA, inc, gtF, ptF, ldX, stX, ldR, ldL, stL, dp1, dp2, Tm, kS0, kS1, kS2, kS3, kS4, kS5, kS6, kS7, kS8, kS9, kS10, kS11, kS12, kS13, kS14, kS15, kS16, kS17, kS18, kS19, kS20, kS21, kS22, kS23, kS24, kS25, kS26, kS27, kS28, kS30, kS31, kS32, kS33, kS34, kS35, kS36, kS37, kS38, kS39, kS40, kS41, kS42, kS43, kS50, kS51, kS52, kS53, List.getElem?_cons_zero, List.getElem?_cons_succ, List.set_cons_zero, List.set_cons_succ, List.length_cons, List.length_nil, List.drop_succ_cons, List.drop_zero, List.cons_append, List.nil_append, Option.toList_some, Option.toList_none, cz, ci2, true_and, and_true, and_self, true_or, or_true, nI_1, Nat.reduceAdd, Nat.reduceLT]
  refine cv5 rfl rfl (by first | exact rfl | exact trivial) (a1) ?_
  refine ev_seg rfl ?_
  simp only [TE, sxs, sx, ldI, ldA, stI, stA, inc, gtF, ptF, ldX, stX, ldR, ldL, stL, dp1, dp2, Tm, kS0, kS1, kS2, kS3, kS4, kS5, kS6, kS7, kS8, kS9, kS10, kS11, kS12, kS13, kS14, kS15, kS16, kS17, kS18, kS19, kS20, kS21, kS22, kS23, kS24, kS25, kS26, kS27, kS28, kS30, kS31, kS32, kS33, kS34, kS35, kS36, kS37, kS38, kS39, kS40, kS41, kS42, kS43, kS50, kS51, kS52, kS53, List.getElem?_cons_zero, List.getElem?_cons_succ, List.set_cons_zero, List.set_cons_succ, List.length_cons, List.length_nil, List.drop_succ_cons, List.drop_zero, List.cons_append, List.nil_append, Option.toList_some, Option.toList_none, cz, ci2, true_and, and_true, and_self, true_or, or_true, nI_1, Nat.reduceAdd, Nat.reduceLT]
  refine cv5 rfl rfl (by first | exact rfl | exact trivial) (b1) ?_
  refine ev_seg rfl ?_
  simp only [TE, sxs, sx, ldI, ldA, stI, stA, inc, gtF, ptF, ldX, stX, ldR, ldL, stL, dp1, dp2, Tm, kS0, kS1, kS2, kS3, kS4, kS5, kS6, kS7, kS8, kS9, kS10, kS11, kS12, kS13, kS14, kS15, kS16, kS17, kS18, kS19, kS20, kS21, kS22, kS23, kS24, kS25, kS26, kS27, kS28, kS30, kS31, kS32, kS33, kS34, kS35, kS36, kS37, kS38, kS39, kS40, kS41, kS42, kS43, kS50, kS51, kS52, kS53, List.getElem?_cons_zero, List.getElem?_cons_succ, List.set_cons_zero, List.set_cons_succ, List.length_cons, List.length_nil, List.drop_succ_cons, List.drop_zero, List.cons_append, List.nil_append, Option.toList_some, Option.toList_none, cz, ci2, true_and, and_true, and_self, true_or, or_true, nI_1, Nat.reduceAdd, Nat.reduceLT]
/-- the matches by their numbers -/
theorem s_list20 {n : Nat} (hN : X.1 2 0 g 5 = nI n) (hn5 : n ≤ 5) :
    ∃ (Z : XT) (L : List (Nat × Nat)), Ev sc (d + 3) 23 0 (ent 23 [vR 20 0 0, vR 2 0 g]) [] X (.inl (some (.inl (nI L.length)))) Z 0 ∧ Fr [21, 22] X Z ∧ Lst20 Z L ∧ L = lfA (scC X g) n := by
  obtain ⟨Z, L, a1, a2, a3, a4⟩ := s_listOwnLast20 (sc := sc) (d := d) (seat := -1) hN hn5
  refine ⟨Z, L, ?_, a2, a3, a4.trans (lfO_all hn5)⟩
  rw [en23]
  refine ev_seg rfl ?_
  simp only [TE, sxs, sx, ldI, ldA, stI, stA, inc, gtF, ptF, ldX, stX, ldR, ldL, stL, dp1, dp2, Tm, kS0, kS1, kS2, kS3, kS4, kS5, kS6, kS7, kS8, kS9, kS10, kS11, kS12, kS13, kS14, kS15, kS16, kS17, kS18, kS19, kS20, kS21, kS22, kS23, kS24, kS25, kS26, kS27, kS28, kS30, kS31, kS32, kS33, kS34, kS35, kS36, kS37, kS38, kS39, kS40, kS41, kS42, kS43, kS50, kS51, kS52, kS53, List.getElem?_cons_zero, List.getElem?_cons_succ, List.set_cons_zero, List.set_cons_succ, List.length_cons, List.length_nil, List.drop_succ_cons, List.drop_zero, List.cons_append, List.nil_append, Option.toList_some, Option.toList_none, cz, ci2, true_and, and_true, and_self, true_or, or_true, nI_1, Nat.reduceAdd, Nat.reduceLT]
  refine cv3 rfl rfl (by first | exact rfl | exact trivial) (a1) ?_
  refine ev_seg rfl ?_
  simp only [TE, sxs, sx, ldI, ldA, stI, stA, inc, gtF, ptF, ldX, stX, ldR, ldL, stL, dp1, dp2, Tm, kS0, kS1, kS2, kS3, kS4, kS5, kS6, kS7, kS8, kS9, kS10, kS11, kS12, kS13, kS14, kS15, kS16, kS17, kS18, kS19, kS20, kS21, kS22, kS23, kS24, kS25, kS26, kS27, kS28, kS30, kS31, kS32, kS33, kS34, kS35, kS36, kS37, kS38, kS39, kS40, kS41, kS42, kS43, kS50, kS51, kS52, kS53, List.getElem?_cons_zero, List.getElem?_cons_succ, List.set_cons_zero, List.set_cons_succ, List.length_cons, List.length_nil, List.drop_succ_cons, List.drop_zero, List.cons_append, List.nil_append, Option.toList_some, Option.toList_none, cz, ci2, true_and, and_true, and_self, true_or, or_true, nI_1, Nat.reduceAdd, Nat.reduceLT]
end Lft20
section Lft26
variable {sc : SC} {d : Nat} {g : Int32} {X : XT}
/-- these matches are listed -/
def Lst26 (X : XT) (L : List (Nat × Nat)) : Prop := ∀ i, (h : i < L.length) → X.1 27 0 0 (nI i) = nI L[i].1 ∧ X.1 28 0 0 (nI i) = nI L[i].2
theorem Lst26.fr {K : List Nat} {X X' : XT} {L : List (Nat × Nat)} (h : Lst26 X L) (hf : Fr K X X') (h1 : 27 ∉ K) (h2 : 28 ∉ K) : Lst26 X' L := fun i hi => by
  rw [hf.at 27 h1, hf.at 28 h2]
  exact h i hi
theorem Lst26.push {L : List (Nat × Nat)} (h : Lst26 X L) (hl : L.length < 10) (a b : Nat) : Lst26 (xs (xs X.1 27 0 0 (nI L.length) (nI a)) 28 0 0 (nI L.length) (nI b), X.2) (L ++ [(a, b)]) := by
  intro i hi
  rw [List.length_append, List.length_singleton] at hi
  show xs (xs X.1 27 0 0 (nI L.length) (nI a)) 28 0 0 (nI L.length) (nI b) 27 0 0 (nI i) = _ ∧ xs (xs X.1 27 0 0 (nI L.length) (nI a)) 28 0 0 (nI L.length) (nI b) 28 0 0 (nI i) = _
  rw [show xs (xs X.1 27 0 0 (nI L.length) (nI a)) 28 0 0 (nI L.length) (nI b) 27 0 0 = xs X.1 27 0 0 (nI L.length) (nI a) 27 0 0 from xs_ne _ _ _ (by simp)]
  by_cases hi2 : i = L.length
  · subst hi2
    rw [xs_self, xs_self]
    simp
  · have hne : nI i ≠ nI L.length := fun q => hi2 (nI_inj (by omega) (by omega) q)
    rw [xs_nj _ _ _ _ _ hne, xs_nj _ _ _ _ _ hne, show xs X.1 27 0 0 (nI L.length) (nI a) 28 0 0 = X.1 28 0 0 from xs_ne _ _ _ (by simp), List.getElem_append_left (by omega)]
    exact h i (by omega)
theorem s_lowerOf26 {p : Int32} (hp : vp_in p 10) : Ev sc d 26 0 (ent 26 [vR 26 0 0, vI p]) [] X (.inl (some (.inl (X.1 27 0 0 p)))) X 0 := by
  rw [en26]
  refine ev_seg rfl ?_
  simp only [TE, sxs, sx, ldI, ldA, stI, stA, inc, gtF, ptF, ldX, stX, ldR, ldL, stL, dp1, dp2, Tm, kS0, kS1, kS2, kS3, kS4, kS5, kS6, kS7, kS8, kS9, kS10, kS11, kS12, kS13, kS14, kS15, kS16, kS17, kS18, kS19, kS20, kS21, kS22, kS23, kS24, kS25, kS26, kS27, kS28, kS30, kS31, kS32, kS33, kS34, kS35, kS36, kS37, kS38, kS39, kS40, kS41, kS42, kS43, kS50, kS51, kS52, kS53, List.getElem?_cons_zero, List.getElem?_cons_succ, List.set_cons_zero, List.set_cons_succ, List.length_cons, List.length_nil, List.drop_succ_cons, List.drop_zero, List.cons_append, List.nil_append, Option.toList_some, Option.toList_none, cz, ci2, true_and, and_true, and_self, true_or, or_true, nI_1, Nat.reduceAdd, Nat.reduceLT]
  exact hp
theorem s_upperOf26 {p : Int32} (hp : vp_in p 10) : Ev sc d 27 0 (ent 27 [vR 26 0 0, vI p]) [] X (.inl (some (.inl (X.1 28 0 0 p)))) X 0 := by
  rw [en27]
  refine ev_seg rfl ?_
  simp only [TE, sxs, sx, ldI, ldA, stI, stA, inc, gtF, ptF, ldX, stX, ldR, ldL, stL, dp1, dp2, Tm, kS0, kS1, kS2, kS3, kS4, kS5, kS6, kS7, kS8, kS9, kS10, kS11, kS12, kS13, kS14, kS15, kS16, kS17, kS18, kS19, kS20, kS21, kS22, kS23, kS24, kS25, kS26, kS27, kS28, kS30, kS31, kS32, kS33, kS34, kS35, kS36, kS37, kS38, kS39, kS40, kS41, kS42, kS43, kS50, kS51, kS52, kS53, List.getElem?_cons_zero, List.getElem?_cons_succ, List.set_cons_zero, List.set_cons_succ, List.length_cons, List.length_nil, List.drop_succ_cons, List.drop_zero, List.cons_append, List.nil_append, Option.toList_some, Option.toList_none, cz, ci2, true_and, and_true, and_self, true_or, or_true, nI_1, Nat.reduceAdd, Nat.reduceLT]
  exact hp
theorem add_row26 {n : Nat} {seat cb : Int32} {own : Bool} (hn5 : n ≤ 5) {l : Nat} (hl : l < n) : ∀ (q u : Nat) (X : XT) (L : List (Nat × Nat)) (z9 : AV), u + q = n → Lst26 X L → L.length + ((rowQ l u q).filter (lfP (scC X g) seat own)).length ≤ 10 →
    ∃ (X' : XT) (L' : List (Nat × Nat)) (z8 z9' : AV), Fr [27, 28] X X' ∧ Lst26 X' L' ∧ L' = L ++ (rowQ l u q).filter (lfP (scC X g) seat own) ∧
      ∀ o Z k, Ev sc (d + 1) 25 15 [vR 26 0 0, vR 2 0 g, vI seat, vI (bI (own = true)), vI cb, vI (nI L'.length), vI (nI n), vI (nI l), z8, z9'] [] X' o Z k → Ev sc (d + 1) 25 4 [vR 26 0 0, vR 2 0 g, vI seat, vI (bI (own = true)), vI cb, vI (nI L.length), vI (nI n), vI (nI l), vI (nI u), z9] [] X o Z k := by
  intro q
  induction q with
  | zero =>
    intro u X L z9 hq hL hlen
    refine ⟨X, L, vI (nI u), z9, Fr.rf _ _, hL, by simp [rowQ], fun o Z k h => ?_⟩
    refine ev_seg rfl ?_
    simp only [TE, sxs, sx, ldI, ldA, stI, stA, inc, gtF, ptF, ldX, stX, ldR, ldL, stL, dp1, dp2, Tm, kS0, kS1, kS2, kS3, kS4, kS5, kS6, kS7, kS8, kS9, kS10, kS11, kS12, kS13, kS14, kS15, kS16, kS17, kS18, kS19, kS20, kS21, kS22, kS23, kS24, kS25, kS26, kS27, kS28, kS30, kS31, kS32, kS33, kS34, kS35, kS36, kS37, kS38, kS39, kS40, kS41, kS42, kS43, kS50, kS51, kS52, kS53, List.getElem?_cons_zero, List.getElem?_cons_succ, List.set_cons_zero, List.set_cons_succ, List.length_cons, List.length_nil, List.drop_succ_cons, List.drop_zero, List.cons_append, List.nil_append, Option.toList_some, Option.toList_none, cz, ci2, true_and, and_true, and_self, true_or, or_true, nI_1, Nat.reduceAdd, Nat.reduceLT]
    refine ⟨fun _ => h, fun h => absurd (nleI (by omega) (by omega)) h⟩
  | succ q ih =>
    intro u X L z9 hq hL hlen
    have hv1 : vp_in (nI l) 5 := vpn (by omega) (by decide)
    have hv2 : vp_in (nI u) 5 := vpn (by omega) (by decide)
    have hof : ∀ o Z k, Ev sc (d + 1) 25 9 [vR 26 0 0, vR 2 0 g, vI seat, vI (bI (own = true)), vI cb, vI (nI L.length), vI (nI n), vI (nI l), vI (nI u), z9] [vI (bI (nI l = seat ∨ nI u = seat))] X o Z k → Ev sc (d + 1) 25 5 [vR 26 0 0, vR 2 0 g, vI seat, vI (bI (own = true)), vI cb, vI (nI L.length), vI (nI n), vI (nI l), vI (nI u), z9] [] X o Z k := by
      intro o Z k h
      refine ev_seg rfl ?_
      simp only [TE, sxs, sx, ldI, ldA, stI, stA, inc, gtF, ptF, ldX, stX, ldR, ldL, stL, dp1, dp2, Tm, kS0, kS1, kS2, kS3, kS4, kS5, kS6, kS7, kS8, kS9, kS10, kS11, kS12, kS13, kS14, kS15, kS16, kS17, kS18, kS19, kS20, kS21, kS22, kS23, kS24, kS25, kS26, kS27, kS28, kS30, kS31, kS32, kS33, kS34, kS35, kS36, kS37, kS38, kS39, kS40, kS41, kS42, kS43, kS50, kS51, kS52, kS53, List.getElem?_cons_zero, List.getElem?_cons_succ, List.set_cons_zero, List.set_cons_succ, List.length_cons, List.length_nil, List.drop_succ_cons, List.drop_zero, List.cons_append, List.nil_append, Option.toList_some, Option.toList_none, cz, ci2, true_and, and_true, and_self, true_or, or_true, nI_1, Nat.reduceAdd, Nat.reduceLT]
      refine ⟨fun h1 => ?_, fun h1 => ?_⟩
      · rw [bI_t (p := nI l = seat ∨ nI u = seat) (Or.inl h1)] at h
        refine ev_seg rfl ?_
        simp only [TE, sxs, sx, ldI, ldA, stI, stA, inc, gtF, ptF, ldX, stX, ldR, ldL, stL, dp1, dp2, Tm, kS0, kS1, kS2, kS3, kS4, kS5, kS6, kS7, kS8, kS9, kS10, kS11, kS12, kS13, kS14, kS15, kS16, kS17, kS18, kS19, kS20, kS21, kS22, kS23, kS24, kS25, kS26, kS27, kS28, kS30, kS31, kS32, kS33, kS34, kS35, kS36, kS37, kS38, kS39, kS40, kS41, kS42, kS43, kS50, kS51, kS52, kS53, List.getElem?_cons_zero, List.getElem?_cons_succ, List.set_cons_zero, List.set_cons_succ, List.length_cons, List.length_nil, List.drop_succ_cons, List.drop_zero, List.cons_append, List.nil_append, Option.toList_some, Option.toList_none, cz, ci2, true_and, and_true, and_self, true_or, or_true, nI_1, Nat.reduceAdd, Nat.reduceLT]
        exact h
      · refine ev_seg rfl ?_
        simp only [TE, sxs, sx, ldI, ldA, stI, stA, inc, gtF, ptF, ldX, stX, ldR, ldL, stL, dp1, dp2, Tm, kS0, kS1, kS2, kS3, kS4, kS5, kS6, kS7, kS8, kS9, kS10, kS11, kS12, kS13, kS14, kS15, kS16, kS17, kS18, kS19, kS20, kS21, kS22, kS23, kS24, kS25, kS26, kS27, kS28, kS30, kS31, kS32, kS33, kS34, kS35, kS36, kS37, kS38, kS39, kS40, kS41, kS42, kS43, kS50, kS51, kS52, kS53, List.getElem?_cons_zero, List.getElem?_cons_succ, List.set_cons_zero, List.set_cons_succ, List.length_cons, List.length_nil, List.drop_succ_cons, List.drop_zero, List.cons_append, List.nil_append, Option.toList_some, Option.toList_none, cz, ci2, true_and, and_true, and_self, true_or, or_true, nI_1, Nat.reduceAdd, Nat.reduceLT]
        refine ⟨fun h2 => ?_, fun h2 => ?_⟩
        · rw [bI_f (p := nI l = seat ∨ nI u = seat) (fun w => w.elim h1 h2)] at h
          refine ev_seg rfl ?_
          simp only [TE, sxs, sx, ldI, ldA, stI, stA, inc, gtF, ptF, ldX, stX, ldR, ldL, stL, dp1, dp2, Tm, kS0, kS1, kS2, kS3, kS4, kS5, kS6, kS7, kS8, kS9, kS10, kS11, kS12, kS13, kS14, kS15, kS16, kS17, kS18, kS19, kS20, kS21, kS22, kS23, kS24, kS25, kS26, kS27, kS28, kS30, kS31, kS32, kS33, kS34, kS35, kS36, kS37, kS38, kS39, kS40, kS41, kS42, kS43, kS50, kS51, kS52, kS53, List.getElem?_cons_zero, List.getElem?_cons_succ, List.set_cons_zero, List.set_cons_succ, List.length_cons, List.length_nil, List.drop_succ_cons, List.drop_zero, List.cons_append, List.nil_append, Option.toList_some, Option.toList_none, cz, ci2, true_and, and_true, and_self, true_or, or_true, nI_1, Nat.reduceAdd, Nat.reduceLT]
          exact h
        · rw [bI_t (p := nI l = seat ∨ nI u = seat) (Or.inr (Classical.not_not.mp h2))] at h
          refine ev_seg rfl ?_
          simp only [TE, sxs, sx, ldI, ldA, stI, stA, inc, gtF, ptF, ldX, stX, ldR, ldL, stL, dp1, dp2, Tm, kS0, kS1, kS2, kS3, kS4, kS5, kS6, kS7, kS8, kS9, kS10, kS11, kS12, kS13, kS14, kS15, kS16, kS17, kS18, kS19, kS20, kS21, kS22, kS23, kS24, kS25, kS26, kS27, kS28, kS30, kS31, kS32, kS33, kS34, kS35, kS36, kS37, kS38, kS39, kS40, kS41, kS42, kS43, kS50, kS51, kS52, kS53, List.getElem?_cons_zero, List.getElem?_cons_succ, List.set_cons_zero, List.set_cons_succ, List.length_cons, List.length_nil, List.drop_succ_cons, List.drop_zero, List.cons_append, List.nil_append, Option.toList_some, Option.toList_none, cz, ci2, true_and, and_true, and_self, true_or, or_true, nI_1, Nat.reduceAdd, Nat.reduceLT]
          exact h
    by_cases hin : lfP (scC X g) seat own (l, u) = true
    · rw [rowQ, List.filter_cons, if_pos hin, List.length_cons] at hlen
      have hv3 : vp_in (nI L.length) 10 := vpn (by omega) (by decide)
      unfold lfP at hin
      rw [Bool.and_eq_true, decide_eq_true_eq] at hin
      obtain ⟨h1, h2⟩ := hin
      have hb := bI_xor.mpr h1
      generalize hX2 : ((xs (xs X.1 27 0 0 (nI L.length) (nI l)) 28 0 0 (nI L.length) (nI u), X.2) : XT) = X2
      have f2 : Fr [27, 28] X X2 := by
        rw [← hX2]
        exact (Fr.xs X 0 0 (nI L.length) (nI l) (by decide : 27 ∈ [27, 28])).tr (Fr.xs (xs X.1 27 0 0 (nI L.length) (nI l), X.2) 0 0 (nI L.length) (nI u) (by decide : 28 ∈ [27, 28]))
      have hL2 : Lst26 X2 (L ++ [(l, u)]) := by
        rw [← hX2]
        exact hL.push (by omega) l u
      have hlen2 : (L ++ [(l, u)]).length = L.length + 1 := by simp
      obtain ⟨X', L', z8, z9', a1, a2, a3, a4⟩ := ih (u + 1) X2 (L ++ [(l, u)]) (vI (bI (nI l = seat ∨ nI u = seat))) (by omega) hL2 (by rw [scC_fr f2 (by decide), hlen2]; omega)
      refine ⟨X', L', z8, z9', f2.tr a1, a2, ?_, fun o Z k h => ?_⟩
      · rw [a3, scC_fr f2 (by decide), rowQ, List.filter_cons, if_pos (by unfold lfP; rw [Bool.and_eq_true, decide_eq_true_eq]; exact ⟨h1, h2⟩)]
        simp
      · have h4 := a4 o Z k h
        rw [hlen2] at h4
        refine ev_seg rfl ?_
        simp only [TE, sxs, sx, ldI, ldA, stI, stA, inc, gtF, ptF, ldX, stX, ldR, ldL, stL, dp1, dp2, Tm, kS0, kS1, kS2, kS3, kS4, kS5, kS6, kS7, kS8, kS9, kS10, kS11, kS12, kS13, kS14, kS15, kS16, kS17, kS18, kS19, kS20, kS21, kS22, kS23, kS24, kS25, kS26, kS27, kS28, kS30, kS31, kS32, kS33, kS34, kS35, kS36, kS37, kS38, kS39, kS40, kS41, kS42, kS43, kS50, kS51, kS52, kS53, List.getElem?_cons_zero, List.getElem?_cons_succ, List.set_cons_zero, List.set_cons_succ, List.length_cons, List.length_nil, List.drop_succ_cons, List.drop_zero, List.cons_append, List.nil_append, Option.toList_some, Option.toList_none, cz, ci2, true_and, and_true, and_self, true_or, or_true, nI_1, Nat.reduceAdd, Nat.reduceLT]
        refine ⟨fun h => absurd h (nle (by omega) (by omega)), fun _ => hof _ _ _ ?_⟩
        refine ev_seg rfl ?_
        simp only [TE, sxs, sx, ldI, ldA, stI, stA, inc, gtF, ptF, ldX, stX, ldR, ldL, stL, dp1, dp2, Tm, kS0, kS1, kS2, kS3, kS4, kS5, kS6, kS7, kS8, kS9, kS10, kS11, kS12, kS13, kS14, kS15, kS16, kS17, kS18, kS19, kS20, kS21, kS22, kS23, kS24, kS25, kS26, kS27, kS28, kS30, kS31, kS32, kS33, kS34, kS35, kS36, kS37, kS38, kS39, kS40, kS41, kS42, kS43, kS50, kS51, kS52, kS53, List.getElem?_cons_zero, List.getElem?_cons_succ, List.set_cons_zero, List.set_cons_succ, List.length_cons, List.length_nil, List.drop_succ_cons, List.drop_zero, List.cons_append, List.nil_append, Option.toList_some, Option.toList_none, cz, ci2, true_and, and_true, and_self, true_or, or_true, nI_1, Nat.reduceAdd, Nat.reduceLT]
        refine ⟨fun h => absurd hb h, fun _ => ?_⟩
        refine ev_seg rfl ?_
        simp only [TE, sxs, sx, ldI, ldA, stI, stA, inc, gtF, ptF, ldX, stX, ldR, ldL, stL, dp1, dp2, Tm, kS0, kS1, kS2, kS3, kS4, kS5, kS6, kS7, kS8, kS9, kS10, kS11, kS12, kS13, kS14, kS15, kS16, kS17, kS18, kS19, kS20, kS21, kS22, kS23, kS24, kS25, kS26, kS27, kS28, kS30, kS31, kS32, kS33, kS34, kS35, kS36, kS37, kS38, kS39, kS40, kS41, kS42, kS43, kS50, kS51, kS52, kS53, List.getElem?_cons_zero, List.getElem?_cons_succ, List.set_cons_zero, List.set_cons_succ, List.length_cons, List.length_nil, List.drop_succ_cons, List.drop_zero, List.cons_append, List.nil_append, Option.toList_some, Option.toList_none, cz, ci2, true_and, and_true, and_self, true_or, or_true, nI_1, Nat.reduceAdd, Nat.reduceLT]
        refine ⟨fun h => absurd h (nle (by omega : L.length < 10) (by decide)), fun _ => ?_⟩
        refine ev_seg rfl ?_
        simp only [TE, sxs, sx, ldI, ldA, stI, stA, inc, gtF, ptF, ldX, stX, ldR, ldL, stL, dp1, dp2, Tm, kS0, kS1, kS2, kS3, kS4, kS5, kS6, kS7, kS8, kS9, kS10, kS11, kS12, kS13, kS14, kS15, kS16, kS17, kS18, kS19, kS20, kS21, kS22, kS23, kS24, kS25, kS26, kS27, kS28, kS30, kS31, kS32, kS33, kS34, kS35, kS36, kS37, kS38, kS39, kS40, kS41, kS42, kS43, kS50, kS51, kS52, kS53, List.getElem?_cons_zero, List.getElem?_cons_succ, List.set_cons_zero, List.set_cons_succ, List.length_cons, List.length_nil, List.drop_succ_cons, List.drop_zero, List.cons_append, List.nil_append, Option.toList_some, Option.toList_none, cz, ci2, true_and, and_true, and_self, true_or, or_true, nI_1, Nat.reduceAdd, Nat.reduceLT]
        refine cv3 rfl rfl (by first | exact rfl | exact trivial) (s_hasResult hv1 hv2) ?_
        rw [bI_f (p := ¬ X.1 4 g (nI l) (nI u) = -1) (fun w => w h2)]
        refine ev_seg rfl ?_
        simp only [TE, sxs, sx, ldI, ldA, stI, stA, inc, gtF, ptF, ldX, stX, ldR, ldL, stL, dp1, dp2, Tm, kS0, kS1, kS2, kS3, kS4, kS5, kS6, kS7, kS8, kS9, kS10, kS11, kS12, kS13, kS14, kS15, kS16, kS17, kS18, kS19, kS20, kS21, kS22, kS23, kS24, kS25, kS26, kS27, kS28, kS30, kS31, kS32, kS33, kS34, kS35, kS36, kS37, kS38, kS39, kS40, kS41, kS42, kS43, kS50, kS51, kS52, kS53, List.getElem?_cons_zero, List.getElem?_cons_succ, List.set_cons_zero, List.set_cons_succ, List.length_cons, List.length_nil, List.drop_succ_cons, List.drop_zero, List.cons_append, List.nil_append, Option.toList_some, Option.toList_none, cz, ci2, true_and, and_true, and_self, true_or, or_true, nI_1, Nat.reduceAdd, Nat.reduceLT]
        refine ⟨fun h => absurd trivial h, fun _ => ?_⟩
        refine ev_seg rfl ?_
        simp only [TE, sxs, sx, ldI, ldA, stI, stA, inc, gtF, ptF, ldX, stX, ldR, ldL, stL, dp1, dp2, Tm, kS0, kS1, kS2, kS3, kS4, kS5, kS6, kS7, kS8, kS9, kS10, kS11, kS12, kS13, kS14, kS15, kS16, kS17, kS18, kS19, kS20, kS21, kS22, kS23, kS24, kS25, kS26, kS27, kS28, kS30, kS31, kS32, kS33, kS34, kS35, kS36, kS37, kS38, kS39, kS40, kS41, kS42, kS43, kS50, kS51, kS52, kS53, List.getElem?_cons_zero, List.getElem?_cons_succ, List.set_cons_zero, List.set_cons_succ, List.length_cons, List.length_nil, List.drop_succ_cons, List.drop_zero, List.cons_append, List.nil_append, Option.toList_some, Option.toList_none, cz, ci2, true_and, and_true, and_self, true_or, or_true, nI_1, Nat.reduceAdd, Nat.reduceLT]
        rw [hX2]
        refine ⟨(by first | assumption | (and_intros <;> first | assumption | trivial | decide)), ?_⟩
        refine ev_seg rfl ?_
        simp only [TE, sxs, sx, ldI, ldA, stI, stA, inc, gtF, ptF, ldX, stX, ldR, ldL, stL, dp1, dp2, Tm, kS0, kS1, kS2, kS3, kS4, kS5, kS6, kS7, kS8, kS9, kS10, kS11, kS12, kS13, kS14, kS15, kS16, kS17, kS18, kS19, kS20, kS21, kS22, kS23, kS24, kS25, kS26, kS27, kS28, kS30, kS31, kS32, kS33, kS34, kS35, kS36, kS37, kS38, kS39, kS40, kS41, kS42, kS43, kS50, kS51, kS52, kS53, List.getElem?_cons_zero, List.getElem?_cons_succ, List.set_cons_zero, List.set_cons_succ, List.length_cons, List.length_nil, List.drop_succ_cons, List.drop_zero, List.cons_append, List.nil_append, Option.toList_some, Option.toList_none, cz, ci2, true_and, and_true, and_self, true_or, or_true, nI_1, Nat.reduceAdd, Nat.reduceLT]
        exact h4
    · rw [rowQ, List.filter_cons, if_neg hin] at hlen
      obtain ⟨X', L', z8, z9', a1, a2, a3, a4⟩ := ih (u + 1) X L (vI (bI (nI l = seat ∨ nI u = seat))) (by omega) hL hlen
      refine ⟨X', L', z8, z9', a1, a2, ?_, fun o Z k h => ?_⟩
      · rw [a3, rowQ, List.filter_cons, if_neg hin]
      · have h4 := a4 o Z k h
        have h5 : Ev sc (d + 1) 25 14 [vR 26 0 0, vR 2 0 g, vI seat, vI (bI (own = true)), vI cb, vI (nI L.length), vI (nI n), vI (nI l), vI (nI u), vI (bI (nI l = seat ∨ nI u = seat))] [] X o Z k := by
          refine ev_seg rfl ?_
          simp only [TE, sxs, sx, ldI, ldA, stI, stA, inc, gtF, ptF, ldX, stX, ldR, ldL, stL, dp1, dp2, Tm, kS0, kS1, kS2, kS3, kS4, kS5, kS6, kS7, kS8, kS9, kS10, kS11, kS12, kS13, kS14, kS15, kS16, kS17, kS18, kS19, kS20, kS21, kS22, kS23, kS24, kS25, kS26, kS27, kS28, kS30, kS31, kS32, kS33, kS34, kS35, kS36, kS37, kS38, kS39, kS40, kS41, kS42, kS43, kS50, kS51, kS52, kS53, List.getElem?_cons_zero, List.getElem?_cons_succ, List.set_cons_zero, List.set_cons_succ, List.length_cons, List.length_nil, List.drop_succ_cons, List.drop_zero, List.cons_append, List.nil_append, Option.toList_some, Option.toList_none, cz, ci2, true_and, and_true, and_self, true_or, or_true, nI_1, Nat.reduceAdd, Nat.reduceLT]
          exact h4
        refine ev_seg rfl ?_
        simp only [TE, sxs, sx, ldI, ldA, stI, stA, inc, gtF, ptF, ldX, stX, ldR, ldL, stL, dp1, dp2, Tm, kS0, kS1, kS2, kS3, kS4, kS5, kS6, kS7, kS8, kS9, kS10, kS11, kS12, kS13, kS14, kS15, kS16, kS17, kS18, kS19, kS20, kS21, kS22, kS23, kS24, kS25, kS26, kS27, kS28, kS30, kS31, kS32, kS33, kS34, kS35, kS36, kS37, kS38, kS39, kS40, kS41, kS42, kS43, kS50, kS51, kS52, kS53, List.getElem?_cons_zero, List.getElem?_cons_succ, List.set_cons_zero, List.set_cons_succ, List.length_cons, List.length_nil, List.drop_succ_cons, List.drop_zero, List.cons_append, List.nil_append, Option.toList_some, Option.toList_none, cz, ci2, true_and, and_true, and_self, true_or, or_true, nI_1, Nat.reduceAdd, Nat.reduceLT]
        refine ⟨fun h => absurd h (nle (by omega) (by omega)), fun _ => hof _ _ _ ?_⟩
        refine ev_seg rfl ?_
        simp only [TE, sxs, sx, ldI, ldA, stI, stA, inc, gtF, ptF, ldX, stX, ldR, ldL, stL, dp1, dp2, Tm, kS0, kS1, kS2, kS3, kS4, kS5, kS6, kS7, kS8, kS9, kS10, kS11, kS12, kS13, kS14, kS15, kS16, kS17, kS18, kS19, kS20, kS21, kS22, kS23, kS24, kS25, kS26, kS27, kS28, kS30, kS31, kS32, kS33, kS34, kS35, kS36, kS37, kS38, kS39, kS40, kS41, kS42, kS43, kS50, kS51, kS52, kS53, List.getElem?_cons_zero, List.getElem?_cons_succ, List.set_cons_zero, List.set_cons_succ, List.length_cons, List.length_nil, List.drop_succ_cons, List.drop_zero, List.cons_append, List.nil_append, Option.toList_some, Option.toList_none, cz, ci2, true_and, and_true, and_self, true_or, or_true, nI_1, Nat.reduceAdd, Nat.reduceLT]
        refine ⟨fun _ => h5, fun hb => ?_⟩
        refine ev_seg rfl ?_
        simp only [TE, sxs, sx, ldI, ldA, stI, stA, inc, gtF, ptF, ldX, stX, ldR, ldL, stL, dp1, dp2, Tm, kS0, kS1, kS2, kS3, kS4, kS5, kS6, kS7, kS8, kS9, kS10, kS11, kS12, kS13, kS14, kS15, kS16, kS17, kS18, kS19, kS20, kS21, kS22, kS23, kS24, kS25, kS26, kS27, kS28, kS30, kS31, kS32, kS33, kS34, kS35, kS36, kS37, kS38, kS39, kS40, kS41, kS42, kS43, kS50, kS51, kS52, kS53, List.getElem?_cons_zero, List.getElem?_cons_succ, List.set_cons_zero, List.set_cons_succ, List.length_cons, List.length_nil, List.drop_succ_cons, List.drop_zero, List.cons_append, List.nil_append, Option.toList_some, Option.toList_none, cz, ci2, true_and, and_true, and_self, true_or, or_true, nI_1, Nat.reduceAdd, Nat.reduceLT]
        refine ⟨fun _ => h5, fun _ => ?_⟩
        refine ev_seg rfl ?_
        simp only [TE, sxs, sx, ldI, ldA, stI, stA, inc, gtF, ptF, ldX, stX, ldR, ldL, stL, dp1, dp2, Tm, kS0, kS1, kS2, kS3, kS4, kS5, kS6, kS7, kS8, kS9, kS10, kS11, kS12, kS13, kS14, kS15, kS16, kS17, kS18, kS19, kS20, kS21, kS22, kS23, kS24, kS25, kS26, kS27, kS28, kS30, kS31, kS32, kS33, kS34, kS35, kS36, kS37, kS38, kS39, kS40, kS41, kS42, kS43, kS50, kS51, kS52, kS53, List.getElem?_cons_zero, List.getElem?_cons_succ, List.set_cons_zero, List.set_cons_succ, List.length_cons, List.length_nil, List.drop_succ_cons, List.drop_zero, List.cons_append, List.nil_append, Option.toList_some, Option.toList_none, cz, ci2, true_and, and_true, and_self, true_or, or_true, nI_1, Nat.reduceAdd, Nat.reduceLT]
        refine cv3 rfl rfl (by first | exact rfl | exact trivial) (s_hasResult hv1 hv2) ?_
        have hres : ¬ X.1 4 g (nI l) (nI u) = -1 := fun w => hin (by
          unfold lfP
          rw [Bool.and_eq_true, decide_eq_true_eq]
          exact ⟨bI_xor.mp (Classical.not_not.mp hb), w⟩)
        rw [bI_t (p := ¬ X.1 4 g (nI l) (nI u) = -1) hres]
        refine ev_seg rfl ?_
        simp only [TE, sxs, sx, ldI, ldA, stI, stA, inc, gtF, ptF, ldX, stX, ldR, ldL, stL, dp1, dp2, Tm, kS0, kS1, kS2, kS3, kS4, kS5, kS6, kS7, kS8, kS9, kS10, kS11, kS12, kS13, kS14, kS15, kS16, kS17, kS18, kS19, kS20, kS21, kS22, kS23, kS24, kS25, kS26, kS27, kS28, kS30, kS31, kS32, kS33, kS34, kS35, kS36, kS37, kS38, kS39, kS40, kS41, kS42, kS43, kS50, kS51, kS52, kS53, List.getElem?_cons_zero, List.getElem?_cons_succ, List.set_cons_zero, List.set_cons_succ, List.length_cons, List.length_nil, List.drop_succ_cons, List.drop_zero, List.cons_append, List.nil_append, Option.toList_some, Option.toList_none, cz, ci2, true_and, and_true, and_self, true_or, or_true, nI_1, Nat.reduceAdd, Nat.reduceLT]
        refine ⟨fun _ => h5, fun h => absurd (by decide) h⟩
theorem s_add26 {n : Nat} {seat : Int32} {own : Bool} {L : List (Nat × Nat)} (hN : X.1 2 0 g 5 = nI n) (hn5 : n ≤ 5) (hL : Lst26 X L) (hlen : L.length + ((allQ n 0 n).filter (lfP (scC X g) seat own)).length ≤ 10) :
    ∃ (Z : XT) (L' : List (Nat × Nat)), Ev sc (d + 1) 25 0 (ent 25 [vR 26 0 0, vR 2 0 g, vI seat, vI (bI (own = true)), vI (nI L.length)]) [] X (.inl (some (.inl (nI L'.length)))) Z 0 ∧ Fr [27, 28] X Z ∧ Lst26 Z L' ∧ L' = L ++ (allQ n 0 n).filter (lfP (scC X g) seat own) := by
  have loop : ∀ (q l : Nat) (X1 : XT) (L1 : List (Nat × Nat)) (z8 z9 : AV), l + q = n → Fr [27, 28] X X1 → Lst26 X1 L1 → L1.length + ((allQ n l q).filter (lfP (scC X g) seat own)).length ≤ 10 →
      ∃ (Z : XT) (L' : List (Nat × Nat)), Ev sc (d + 1) 25 2 [vR 26 0 0, vR 2 0 g, vI seat, vI (bI (own = true)), vI (nI L.length), vI (nI L1.length), vI (nI n), vI (nI l), z8, z9] [] X1 (.inl (some (.inl (nI L'.length)))) Z 0 ∧ Fr [27, 28] X Z ∧ Lst26 Z L' ∧ L' = L1 ++ (allQ n l q).filter (lfP (scC X g) seat own) := by
    intro q
    induction q with
    | zero =>
      intro l X1 L1 z8 z9 hq hf hL1 hlen1
      refine ⟨X1, L1, ?_, hf, hL1, by simp [allQ]⟩
      refine ev_seg rfl ?_
      simp only [TE, sxs, sx, ldI, ldA, stI, stA, inc, gtF, ptF, ldX, stX, ldR, ldL, stL, dp1, dp2, Tm, kS0, kS1, kS2, kS3, kS4, kS5, kS6, kS7, kS8, kS9, kS10, kS11, kS12, kS13, kS14, kS15, kS16, kS17, kS18, kS19, kS20, kS21, kS22, kS23, kS24, kS25, kS26, kS27, kS28, kS30, kS31, kS32, kS33, kS34, kS35, kS36, kS37, kS38, kS39, kS40, kS41, kS42, kS43, kS50, kS51, kS52, kS53, List.getElem?_cons_zero, List.getElem?_cons_succ, List.set_cons_zero, List.set_cons_succ, List.length_cons, List.length_nil, List.drop_succ_cons, List.drop_zero, List.cons_append, List.nil_append, Option.toList_some, Option.toList_none, cz, ci2, true_and, and_true, and_self, true_or, or_true, nI_1, Nat.reduceAdd, Nat.reduceLT]
      refine ⟨fun _ => ?_, fun h => absurd (nleI (by omega) (by omega)) h⟩
      refine ev_seg rfl ?_
      simp only [TE, sxs, sx, ldI, ldA, stI, stA, inc, gtF, ptF, ldX, stX, ldR, ldL, stL, dp1, dp2, Tm, kS0, kS1, kS2, kS3, kS4, kS5, kS6, kS7, kS8, kS9, kS10, kS11, kS12, kS13, kS14, kS15, kS16, kS17, kS18, kS19, kS20, kS21, kS22, kS23, kS24, kS25, kS26, kS27, kS28, kS30, kS31, kS32, kS33, kS34, kS35, kS36, kS37, kS38, kS39, kS40, kS41, kS42, kS43, kS50, kS51, kS52, kS53, List.getElem?_cons_zero, List.getElem?_cons_succ, List.set_cons_zero, List.set_cons_succ, List.length_cons, List.length_nil, List.drop_succ_cons, List.drop_zero, List.cons_append, List.nil_append, Option.toList_some, Option.toList_none, cz, ci2, true_and, and_true, and_self, true_or, or_true, nI_1, Nat.reduceAdd, Nat.reduceLT]
    | succ q ih =>
      intro l X1 L1 z8 z9 hq hf hL1 hlen1
      rw [allQ, List.filter_append, List.length_append] at hlen1
      have e1 := scC_fr (g := g) hf (by decide)
      obtain ⟨X', L', y8, y9, a1, a2, a3, a4⟩ := add_row26 (sc := sc) (d := d) (g := g) (seat := seat) (cb := nI L.length) (own := own) hn5 (l := l) (by omega) (n - (l + 1)) (l + 1) X1 L1 z9 (by omega) hL1 (by rw [e1]; omega)
      rw [e1] at a3
      obtain ⟨Z, L2, b1, b2, b3, b4⟩ := ih (l + 1) X' L' y8 y9 (by omega) (hf.tr a1) a2 (by rw [a3, List.length_append]; omega)
      refine ⟨Z, L2, ?_, b2, b3, ?_⟩
      · refine ev_seg rfl ?_
        simp only [TE, sxs, sx, ldI, ldA, stI, stA, inc, gtF, ptF, ldX, stX, ldR, ldL, stL, dp1, dp2, Tm, kS0, kS1, kS2, kS3, kS4, kS5, kS6, kS7, kS8, kS9, kS10, kS11, kS12, kS13, kS14, kS15, kS16, kS17, kS18, kS19, kS20, kS21, kS22, kS23, kS24, kS25, kS26, kS27, kS28, kS30, kS31, kS32, kS33, kS34, kS35, kS36, kS37, kS38, kS39, kS40, kS41, kS42, kS43, kS50, kS51, kS52, kS53, List.getElem?_cons_zero, List.getElem?_cons_succ, List.set_cons_zero, List.set_cons_succ, List.length_cons, List.length_nil, List.drop_succ_cons, List.drop_zero, List.cons_append, List.nil_append, Option.toList_some, Option.toList_none, cz, ci2, true_and, and_true, and_self, true_or, or_true, nI_1, Nat.reduceAdd, Nat.reduceLT]
        refine ⟨fun h => absurd h (nle (by omega) (by omega)), fun _ => ?_⟩
        refine ev_seg rfl ?_
        simp only [TE, sxs, sx, ldI, ldA, stI, stA, inc, gtF, ptF, ldX, stX, ldR, ldL, stL, dp1, dp2, Tm, kS0, kS1, kS2, kS3, kS4, kS5, kS6, kS7, kS8, kS9, kS10, kS11, kS12, kS13, kS14, kS15, kS16, kS17, kS18, kS19, kS20, kS21, kS22, kS23, kS24, kS25, kS26, kS27, kS28, kS30, kS31, kS32, kS33, kS34, kS35, kS36, kS37, kS38, kS39, kS40, kS41, kS42, kS43, kS50, kS51, kS52, kS53, List.getElem?_cons_zero, List.getElem?_cons_succ, List.set_cons_zero, List.set_cons_succ, List.length_cons, List.length_nil, List.drop_succ_cons, List.drop_zero, List.cons_append, List.nil_append, Option.toList_some, Option.toList_none, cz, ci2, true_and, and_true, and_self, true_or, or_true, nI_1, Nat.reduceAdd, Nat.reduceLT]
        refine a4 _ _ _ ?_
        refine ev_seg rfl ?_
        simp only [TE, sxs, sx, ldI, ldA, stI, stA, inc, gtF, ptF, ldX, stX, ldR, ldL, stL, dp1, dp2, Tm, kS0, kS1, kS2, kS3, kS4, kS5, kS6, kS7, kS8, kS9, kS10, kS11, kS12, kS13, kS14, kS15, kS16, kS17, kS18, kS19, kS20, kS21, kS22, kS23, kS24, kS25, kS26, kS27, kS28, kS30, kS31, kS32, kS33, kS34, kS35, kS36, kS37, kS38, kS39, kS40, kS41, kS42, kS43, kS50, kS51, kS52, kS53, List.getElem?_cons_zero, List.getElem?_cons_succ, List.set_cons_zero, List.set_cons_succ, List.length_cons, List.length_nil, List.drop_succ_cons, List.drop_zero, List.cons_append, List.nil_append, Option.toList_some, Option.toList_none, cz, ci2, true_and, and_true, and_self, true_or, or_true, nI_1, Nat.reduceAdd, Nat.reduceLT]
        exact b1
      · rw [b4, a3, allQ, List.filter_append, List.append_assoc]
  obtain ⟨Z, L', b1, b2, b3, b4⟩ := loop n 0 X L av0 av0 (by omega) (Fr.rf _ _) hL hlen
  refine ⟨Z, L', ?_, b2, b3, b4⟩
  rw [en25]
  refine ev_seg rfl ?_
  simp only [TE, sxs, sx, ldI, ldA, stI, stA, inc, gtF, ptF, ldX, stX, ldR, ldL, stL, dp1, dp2, Tm, kS0, kS1, kS2, kS3, kS4, kS5, kS6, kS7, kS8, kS9, kS10, kS11, kS12, kS13, kS14, kS15, kS16, kS17, kS18, kS19, kS20, kS21, kS22, kS23, kS24, kS25, kS26, kS27, kS28, kS30, kS31, kS32, kS33, kS34, kS35, kS36, kS37, kS38, kS39, kS40, kS41, kS42, kS43, kS50, kS51, kS52, kS53, List.getElem?_cons_zero, List.getElem?_cons_succ, List.set_cons_zero, List.set_cons_succ, List.length_cons, List.length_nil, List.drop_succ_cons, List.drop_zero, List.cons_append, List.nil_append, Option.toList_some, Option.toList_none, cz, ci2, true_and, and_true, and_self, true_or, or_true, nI_1, Nat.reduceAdd, Nat.reduceLT]
  refine cv1 rfl rfl (by first | exact rfl | exact trivial) (s_size) ?_
  rw [hN]
  refine ev_seg rfl ?_
  simp only [TE, sxs, sx, ldI, ldA, stI, stA, inc, gtF, ptF, ldX, stX, ldR, ldL, stL, dp1, dp2, Tm, kS0, kS1, kS2, kS3, kS4, kS5, kS6, kS7, kS8, kS9, kS10, kS11, kS12, kS13, kS14, kS15, kS16, kS17, kS18, kS19, kS20, kS21, kS22, kS23, kS24, kS25, kS26, kS27, kS28, kS30, kS31, kS32, kS33, kS34, kS35, kS36, kS37, kS38, kS39, kS40, kS41, kS42, kS43, kS50, kS51, kS52, kS53, List.getElem?_cons_zero, List.getElem?_cons_succ, List.set_cons_zero, List.set_cons_succ, List.length_cons, List.length_nil, List.drop_succ_cons, List.drop_zero, List.cons_append, List.nil_append, Option.toList_some, Option.toList_none, cz, ci2, true_and, and_true, and_self, true_or, or_true, nI_1, Nat.reduceAdd, Nat.reduceLT]
  exact b1
/-- the matches, those of one team behind the others -/
theorem s_listOwnLast26 {n : Nat} {seat : Int32} (hN : X.1 2 0 g 5 = nI n) (hn5 : n ≤ 5) :
    ∃ (Z : XT) (L : List (Nat × Nat)), Ev sc (d + 2) 24 0 (ent 24 [vR 26 0 0, vR 2 0 g, vI seat]) [] X (.inl (some (.inl (nI L.length)))) Z 0 ∧ Fr [27, 28] X Z ∧ Lst26 Z L ∧ L = lfO (scC X g) n seat := by
  have hlen := lfO_len (S := scC X g) (seat := seat) hn5
  unfold lfO at hlen
  rw [List.length_append] at hlen
  obtain ⟨X1, L1, a1, a2, a3, a4⟩ := s_add26 (sc := sc) (d := d) (g := g) (X := X) (seat := seat) (own := false) (L := []) hN hn5 (fun i hi => absurd hi (by simp)) (by rw [List.length_nil]; omega)
  rw [List.nil_append] at a4
  have e1 := scC_fr (g := g) a2 (by decide)
  obtain ⟨X2, L2, b1, b2, b3, b4⟩ := s_add26 (sc := sc) (d := d) (g := g) (X := X1) (seat := seat) (own := true) (L := L1) (by rw [a2.at 2 (by decide)]; exact hN) hn5 a3 (by rw [a4, e1]; omega)
  rw [e1, a4] at b4
  refine ⟨X2, L2, ?_, a2.tr b2, b3, b4⟩
  rw [en24]
  refine ev_seg rfl ?_
  simp only [TE, sxs, sx, ldI, ldA, stI, stA, inc, gtF, ptF, ldX, stX, ldR, ldL, stL, dp1, dp2, Tm, kS0, kS1, kS2, kS3, kS4, kS5, kS6, kS7, kS8, kS9, kS10, kS11, kS12, kS13, kS14, kS15, kS16, kS17, kS18, kS19, kS20, kS21, kS22, kS23, kS24, kS25, kS26, kS27, kS28, kS30, kS31, kS32, kS33, kS34, kS35, kS36, kS37, kS38, kS39, kS40, kS41, kS42, kS43, kS50, kS51, kS52, kS53, List.getElem?_cons_zero, List.getElem?_cons_succ, List.set_cons_zero, List.set_cons_succ, List.length_cons, List.length_nil, List.drop_succ_cons, List.drop_zero, List.cons_append, List.nil_append, Option.toList_some, Option.toList_none, cz, ci2, true_and, and_true, and_self, true_or, or_true, nI_1, Nat.reduceAdd, Nat.reduceLT]
  refine cv5 rfl rfl (by first | exact rfl | exact trivial) (a1) ?_
  refine ev_seg rfl ?_
  simp only [TE, sxs, sx, ldI, ldA, stI, stA, inc, gtF, ptF, ldX, stX, ldR, ldL, stL, dp1, dp2, Tm, kS0, kS1, kS2, kS3, kS4, kS5, kS6, kS7, kS8, kS9, kS10, kS11, kS12, kS13, kS14, kS15, kS16, kS17, kS18, kS19, kS20, kS21, kS22, kS23, kS24, kS25, kS26, kS27, kS28, kS30, kS31, kS32, kS33, kS34, kS35, kS36, kS37, kS38, kS39, kS40, kS41, kS42, kS43, kS50, kS51, kS52, kS53, List.getElem?_cons_zero, List.getElem?_cons_succ, List.set_cons_zero, List.set_cons_succ, List.length_cons, List.length_nil, List.drop_succ_cons, List.drop_zero, List.cons_append, List.nil_append, Option.toList_some, Option.toList_none, cz, ci2, true_and, and_true, and_self, true_or, or_true, nI_1, Nat.reduceAdd, Nat.reduceLT]
  refine cv5 rfl rfl (by first | exact rfl | exact trivial) (b1) ?_
  refine ev_seg rfl ?_
  simp only [TE, sxs, sx, ldI, ldA, stI, stA, inc, gtF, ptF, ldX, stX, ldR, ldL, stL, dp1, dp2, Tm, kS0, kS1, kS2, kS3, kS4, kS5, kS6, kS7, kS8, kS9, kS10, kS11, kS12, kS13, kS14, kS15, kS16, kS17, kS18, kS19, kS20, kS21, kS22, kS23, kS24, kS25, kS26, kS27, kS28, kS30, kS31, kS32, kS33, kS34, kS35, kS36, kS37, kS38, kS39, kS40, kS41, kS42, kS43, kS50, kS51, kS52, kS53, List.getElem?_cons_zero, List.getElem?_cons_succ, List.set_cons_zero, List.set_cons_succ, List.length_cons, List.length_nil, List.drop_succ_cons, List.drop_zero, List.cons_append, List.nil_append, Option.toList_some, Option.toList_none, cz, ci2, true_and, and_true, and_self, true_or, or_true, nI_1, Nat.reduceAdd, Nat.reduceLT]
/-- the matches by their numbers -/
theorem s_list26 {n : Nat} (hN : X.1 2 0 g 5 = nI n) (hn5 : n ≤ 5) :
    ∃ (Z : XT) (L : List (Nat × Nat)), Ev sc (d + 3) 23 0 (ent 23 [vR 26 0 0, vR 2 0 g]) [] X (.inl (some (.inl (nI L.length)))) Z 0 ∧ Fr [27, 28] X Z ∧ Lst26 Z L ∧ L = lfA (scC X g) n := by
  obtain ⟨Z, L, a1, a2, a3, a4⟩ := s_listOwnLast26 (sc := sc) (d := d) (seat := -1) hN hn5
  refine ⟨Z, L, ?_, a2, a3, a4.trans (lfO_all hn5)⟩
  rw [en23]
  refine ev_seg rfl ?_
  simp only [TE, sxs, sx, ldI, ldA, stI, stA, inc, gtF, ptF, ldX, stX, ldR, ldL, stL, dp1, dp2, Tm, kS0, kS1, kS2, kS3, kS4, kS5, kS6, kS7, kS8, kS9, kS10, kS11, kS12, kS13, kS14, kS15, kS16, kS17, kS18, kS19, kS20, kS21, kS22, kS23, kS24, kS25, kS26, kS27, kS28, kS30, kS31, kS32, kS33, kS34, kS35, kS36, kS37, kS38, kS39, kS40, kS41, kS42, kS43, kS50, kS51, kS52, kS53, List.getElem?_cons_zero, List.getElem?_cons_succ, List.set_cons_zero, List.set_cons_succ, List.length_cons, List.length_nil, List.drop_succ_cons, List.drop_zero, List.cons_append, List.nil_append, Option.toList_some, Option.toList_none, cz, ci2, true_and, and_true, and_self, true_or, or_true, nI_1, Nat.reduceAdd, Nat.reduceLT]
  refine cv3 rfl rfl (by first | exact rfl | exact trivial) (a1) ?_
  refine ev_seg rfl ?_
  simp only [TE, sxs, sx, ldI, ldA, stI, stA, inc, gtF, ptF, ldX, stX, ldR, ldL, stL, dp1, dp2, Tm, kS0, kS1, kS2, kS3, kS4, kS5, kS6, kS7, kS8, kS9, kS10, kS11, kS12, kS13, kS14, kS15, kS16, kS17, kS18, kS19, kS20, kS21, kS22, kS23, kS24, kS25, kS26, kS27, kS28, kS30, kS31, kS32, kS33, kS34, kS35, kS36, kS37, kS38, kS39, kS40, kS41, kS42, kS43, kS50, kS51, kS52, kS53, List.getElem?_cons_zero, List.getElem?_cons_succ, List.set_cons_zero, List.set_cons_succ, List.length_cons, List.length_nil, List.drop_succ_cons, List.drop_zero, List.cons_append, List.nil_append, Option.toList_some, Option.toList_none, cz, ci2, true_and, and_true, and_self, true_or, or_true, nI_1, Nat.reduceAdd, Nat.reduceLT]
end Lft26
end
section
/-! THE CLAIM OUT OF ONE WALK OF THE LAW'S BODY. Your part is whole_start (and what it stands on); all else here is the same for every law, but numbers. -/
def R_law : String := "GroupTablesLaw"
def lw_P (b : Addr) (xs : List Int32) (args : Array Value) (s : State) : Prop := args = #[.ref b] ∧ s.IntsAt b xs ∧ xs.length ≤ 2560 ∧ (Jvm.Cond.and given_1 narrow_1).before args s = true
def lw_Q (_ : Array Value) (s : State) (o : Outcome) (t : State) : Prop := o = .returned (some (.int 1)) ∧ Framed s o t [] 655787 7128743
def lw_Z (below : List Frame) (a : Array Value) (s : State) : State → Prop := fun t => ∃ o, t.status = .running ∧ Ended t below o ∧ lw_Q a s o t
/-- the law's own end, with 1 on the stack, nothing written that was there before, its room as the claim has it -/
theorem lw_ret {p : Program} {l : Launch} {e : Env} {s : State} {m : MethodId} {below : List Frame} {meth : Method} {c : Code} {b : Nat} (hx : p.tables.exec = Jvm.exec) (hb : c.code = code) (hr : meth.sig.returnType = ret) (hlocks : meth.locks = false) {pc : Nat} {H : Heap} {ls : Array Slot} (hdg : decode code pc = .ok (.ireturn, 1)) : W p l e room_1 s m #[Value.ref b] below meth c H [] 655787 7128743 (lw_Z below #[Value.ref b] s) (F0 m pc ls [.int 1]) := by
  intro T hT X
  obtain ⟨fs, hret, hrun, hended, hW, hframe⟩ := X.leave (v := some (.int 1)) (hlocks := hlocks) (fun h => by rw [hr] at h; cases h)
  have hmeth' : T.vm.method? m = some meth := X.method'
  refine ⟨T.setFrames fs, ?_, .returned (some (.int 1)), hrun, hended, rfl, ⟨_, rfl⟩, hW, hframe⟩
  jvm_step X.here [X.here.top, hx, hb, hdg, hmeth', hr, ret, narrow_b1]
  (try refine ⟨rfl, ?_⟩); (try refine ⟨rfl, ?_⟩)
  first | (intro acts; rw [hret _ acts rfl rfl rfl]) | rw [hret _ _ rfl rfl rfl]
  exact Steps.refl _
/-- what holds at the law's entry: the machine, the code, the tables' words (any of lw_tbl by 'hts w (by decide +kernel)'), the script of L ints xs at the cell b, what the Statement gives of the start (any of its parts by flat_of_before) -/
def lw_At (p : Program) (s : State) (m : MethodId) (meth : Method) (c : Code) (b L : Nat) (xs : Nat → Int32) : Prop :=
  p.tables.exec = Jvm.exec ∧ c.code = code ∧ meth.sig.returnType = ret ∧ c.maxLocals = 7 ∧ s.vm.findClass R_law = some m.cls ∧ (∀ w ∈ lw_tbl, w.before #[Value.ref b] s = true) ∧ va_X b L xs s s.heap ∧ b < s.heap.size ∧ meth.locks = false ∧ (Jvm.Cond.and given_1 narrow_1).before #[Value.ref b] s = true
-- ===== YOUR PART BEGINS =====
/-- YOUR PART: from the entry, for every script of at most 2560 ints, the law comes to its end with true ('hflags': the launch's flags, for a law that throws: no stack traces) -/
theorem whole_start {p : Program} {e : Env} {s : State} {m : MethodId} {below : List Frame} {meth : Method} {c : Code} (l : Launch) (hflags : l.flags = flags0) {b L : Nat} {xs : Nat → Int32} (hL : L ≤ 2560) (C0 : lw_At p s m meth c b L xs) : W p l e room_1 s m #[Value.ref b] below meth c s.heap [] 0 0 (lw_Z below #[Value.ref b] s) (entryFrame m ([Value.ref b] : List Value).toArray 7) := by
  sorry
-- ===== YOUR PART ENDS =====
set_option maxHeartbeats 4000000 in
theorem lw_walk (l : Launch) (hflags : l.flags = flags0) (b : Addr) (xs : List Int32) : MetFree l x (headSpec (Jvm.Cond.code x code maxLocals ret :: tables_1) room_1) (lw_P b xs) (fun _ _ _ _ _ => True) lw_Q := by
  refine MetFree.of_bodyS (code := code) (maxLocals := maxLocals) (ret := ret) (by decide) ?_ ?_
  · intro args s m h hn
    obtain ⟨meth, c, h1, h2, h3, h4, h5, h6, -, -⟩ := Cond.code_spec hn (atoms_spec (ws := Jvm.Cond.code x code maxLocals ret :: tables_1) h _ List.mem_cons_self)
    exact ⟨meth, c, h1, h2, h3, h4, h5, h6⟩
  · intro p e s m args below meth c s₁ B hml0 hP _
    obtain ⟨rfl, hx, hbd, hgv⟩ := hP
    obtain ⟨scr, harrAt, hlist, hof, hsmall⟩ := hx
    obtain ⟨hcb, hkn, -, -⟩ := State.arrayAt?_spec harrAt
    have hown : s.vm.findClass R_law = some m.cls := findClass_of_methodNamed B.named
    have hts0 : ∀ c ∈ (Jvm.Cond.code x code maxLocals ret :: tables_1), c.before #[Value.ref b] s = true := atoms_spec (ws := Jvm.Cond.code x code maxLocals ret :: tables_1) B.pre
    have hts : ∀ w ∈ lw_tbl, w.before #[Value.ref b] s = true := k2_hts_sels lw_privs (fun w hw => hts0 w (List.mem_cons_of_mem _ hw)) lw_privs_ok
    have hml : c.maxLocals = 7 := B.maxLocals_eq (hts0 _ List.mem_cons_self)
    have X₀ : Stand p l e room_1 s m #[Value.ref b] below meth c s₁ [] 0 0 := Stand.of_body B
    have hh0 : s₁.heap = s.heap := by rw [B.state]; rfl
    have hsz : scr.slots.size = xs.length := by rw [← Array.length_toList, hlist, List.length_map]
    have hval : ∀ j : Nat, j < xs.length → scr.slots[j]? = some (.int (xs.getD j 0)) := fun j hj => by
      rw [← Array.getElem?_toList, hlist]
      simp [hj]
    have hbl : b < s.heap.size := (Array.getElem?_eq_some_iff.mp hcb).1
    have hX : va_X b xs.length (fun j => xs.getD j 0) s s.heap := ⟨scr, hcb, hof, hkn, hsz, hval⟩
    have K : W p l e room_1 s m #[Value.ref b] below meth c s₁.heap [] 0 0 (lw_Z below #[Value.ref b] s) (entryFrame m ([Value.ref b] : List Value).toArray 7) := by
      rw [hh0]
      exact whole_start l hflags hbd ⟨B.exec, B.bytes, B.returns, hml, hown, hts, hX, hbl, B.notSynchronized, hgv⟩
    obtain ⟨t, a1, o, b1, b2, b3⟩ := K s₁ rfl X₀
    exact ⟨t, o, a1, b1, b2, b3⟩
theorem lw_pre_spec {args : Array Value} {s : State} (h : (Jvm.Cond.and given_1 narrow_1).before args s = true) (hr : rest_1_c.before args s = true) : ∃ (b : Addr) (xs : List Int32), lw_P b xs args s := by
  have hs := flat_of_before _ h
  have hq := flat_of_before _ hr
  have hc : (Cond.count 1).before args s = true := hs _ (by decide +kernel)
  have harr : (Cond.arrayOf (.arg 0) .int).before args s = true := hs _ (by decide +kernel)
  have hle : (Cond.le (.length (.arg 0)) (.int 2560)).before args s = true := hs _ (by decide +kernel)
  have hlen : (Cond.isInt (.length (.arg 0))).before args s = true := hq _ (by decide +kernel)
  have hall : (Cond.all (.arg 0) (.isInt (.elem (.arg 0) (.index 0)))).before args s = true := hq _ (by decide +kernel)
  obtain ⟨b, xs, hb, hx⟩ := State.ints_of_pre rfl harr hlen hall
  have hsm : xs.length < 2 ^ 31 := hx.choose_spec.2.2.2
  have hev : (Term.length (.arg 0)).eval args s none [] s = some (.int xs.length.toInt32) := hx.length_eval hb
  have hv := Cond.le_ints hev (show (Term.int 2560).eval args s none [] s = some (.int 2560) from rfl)
  have hd : xs.length.toInt32 ≤ 2560 := by
    simpa [Cond.before, Cond.holds, hv] using hle
  have hN : xs.length ≤ 2560 := (Int32.ofNat_le_ofNat hsm (by decide)).mp (show Int32.ofNat xs.length ≤ Int32.ofNat 2560 from hd)
  exact ⟨b, xs, Cond.one_arg hc (show args[0]? = some (.ref b) from hb), hx, hN, h⟩
theorem lw_comes (l : Launch) (hflags : l.flags = flags0) : Comes l x (Jvm.Cond.code x code maxLocals ret :: tables_1) room_1 (fun tb e args s => Calls_1 tb e args s ∧ rest_1 tb e args s ∧ Pre_1 tb e args s)
    (fun _ _ args s o t => lw_Q args s o t) := by
  intro p e ha hc hk s m args below hf hfit hheap happ hpre
  obtain ⟨b, xs, hP⟩ := lw_pre_spec hpre.2.2 hpre.2.1
  obtain ⟨k, o, h1, h2, h3, hQ⟩ := lw_walk l hflags b xs p e ha hc hk s m args below hf ((Spec.applies_iff_loose hf).mp happ).1 hP trivial
  exact ⟨k, o, h1, h2, h3, hQ⟩
theorem lw_frame {s t : State} {o : Outcome} {args : Array Value} (h : Framed s o t [] 655787 7128743) :
    Framed s o t (fieldLocs frame_1_writes args s ++ arrayLocs frame_1_arrays args s ++ staticLocs frame_1_statics s) 655787 7128743 := h
theorem lw_limb (L : Cond) (hL : ∀ (args : Array Value) (s t : State), L.after args s (.returned (some (.int 1))) t = true) :
    ArmFor flags0 classFile x code maxLocals ret World_1 tables_1 room_1 Calls_1 rest_1 Pre_1
      (fun tb e a s o t => postC L tb e a s o t ∧ Framed s o t (fieldLocs frame_1_writes a s ++ arrayLocs frame_1_arrays a s ++ staticLocs frame_1_statics s) 655787 7128743) := by
  intro l hflags _ _ p e ha hc hk s m args below hf hfit hheap happ hpre
  obtain ⟨k, o, h1, h2, h3, rfl, hF⟩ := lw_comes l hflags p e ha hc hk s m args below hf hfit hheap happ hpre
  exact ⟨k, _, h1, h2, h3, hL args s _, lw_frame hF⟩
theorem i_vc : Claimed_1_1 ∧ Claimed_1_2 := ⟨lw_limb limb_1_1 (fun args s t => by simp [limb_1_1, Cond.after, Cond.holds, Cond.value]), lw_limb limb_1_2 (fun args s t => Cond.after_iff.mpr (by
  first | (rw [show limb_1_2 = Cond.eq .result (.int 1) from rfl, Cond.eq_ints (x := 1) (y := 1) rfl rfl]; simp; done) | (simp [limb_1_2, Cond.value, Term.eval]; done)))⟩
end
