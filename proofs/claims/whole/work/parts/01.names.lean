-- ===== PART A: goes FIRST, ahead of the names: the tables' words, and 'selects' of the private methods out of them =====
/-- a private method of a class that the tables say can be made, by its rows of tables_1 -/
def lw_okq (q : MethodName × Nat) : Prop := (q.1.cls ≠ "java/lang/invoke/MethodHandle" ∧ q.1.cls ≠ "java/lang/invoke/VarHandle") ∧ Cond.instantiable q.1.cls q.2 ∈ tables_1 ∧ Cond.privateMethod q.1 ∈ tables_1 ∧ Cond.instanceMethod q.1 ∈ tables_1
theorem lw_p0 : lw_okq (⟨"WhichDay", "shelfOf", "(I)LWhichDay$Shelf;"⟩, 6) := ⟨⟨by decide +kernel, by decide +kernel⟩, List.mem_of_getElem? (i := 17) (by decide +kernel), List.mem_of_getElem? (i := 200) (by decide +kernel), List.mem_of_getElem? (i := 201) (by decide +kernel)⟩
theorem lw_p1 : lw_okq (⟨"WhichDay", "readForm", "()I"⟩, 6) := ⟨⟨by decide +kernel, by decide +kernel⟩, List.mem_of_getElem? (i := 17) (by decide +kernel), List.mem_of_getElem? (i := 218) (by decide +kernel), List.mem_of_getElem? (i := 219) (by decide +kernel)⟩
theorem lw_p2 : lw_okq (⟨"WhichDay", "readSense", "(I)I"⟩, 6) := ⟨⟨by decide +kernel, by decide +kernel⟩, List.mem_of_getElem? (i := 17) (by decide +kernel), List.mem_of_getElem? (i := 261) (by decide +kernel), List.mem_of_getElem? (i := 262) (by decide +kernel)⟩
theorem lw_p3 : lw_okq (⟨"WhichDay", "makeAll", "(I)V"⟩, 6) := ⟨⟨by decide +kernel, by decide +kernel⟩, List.mem_of_getElem? (i := 17) (by decide +kernel), List.mem_of_getElem? (i := 272) (by decide +kernel), List.mem_of_getElem? (i := 273) (by decide +kernel)⟩
theorem lw_p4 : lw_okq (⟨"WhichDay", "dayTold", "(LWhichDay$Traveller;II)I"⟩, 6) := ⟨⟨by decide +kernel, by decide +kernel⟩, List.mem_of_getElem? (i := 17) (by decide +kernel), List.mem_of_getElem? (i := 462) (by decide +kernel), List.mem_of_getElem? (i := 463) (by decide +kernel)⟩
theorem lw_p5 : lw_okq (⟨"WhichDay", "nextChange", "(LWhichDay$Traveller;II)I"⟩, 6) := ⟨⟨by decide +kernel, by decide +kernel⟩, List.mem_of_getElem? (i := 17) (by decide +kernel), List.mem_of_getElem? (i := 510) (by decide +kernel), List.mem_of_getElem? (i := 511) (by decide +kernel)⟩
theorem lw_p6 : lw_okq (⟨"WhichDay", "evenTill", "(LWhichDay$Traveller;I)I"⟩, 6) := ⟨⟨by decide +kernel, by decide +kernel⟩, List.mem_of_getElem? (i := 17) (by decide +kernel), List.mem_of_getElem? (i := 514) (by decide +kernel), List.mem_of_getElem? (i := 515) (by decide +kernel)⟩
theorem lw_p7 : lw_okq (⟨"WhichDay", "roundsAt", "(LWhichDay$Traveller;I)I"⟩, 6) := ⟨⟨by decide +kernel, by decide +kernel⟩, List.mem_of_getElem? (i := 17) (by decide +kernel), List.mem_of_getElem? (i := 525) (by decide +kernel), List.mem_of_getElem? (i := 526) (by decide +kernel)⟩
theorem lw_p8 : lw_okq (⟨"WhichDay", "firstOther", "(LWhichDay$Traveller;III)I"⟩, 6) := ⟨⟨by decide +kernel, by decide +kernel⟩, List.mem_of_getElem? (i := 17) (by decide +kernel), List.mem_of_getElem? (i := 529) (by decide +kernel), List.mem_of_getElem? (i := 530) (by decide +kernel)⟩
theorem lw_p9 : lw_okq (⟨"WhichDay", "firstBroken", "(LWhichDay$Traveller;ILWhichDay$Shelf;I)I"⟩, 6) := ⟨⟨by decide +kernel, by decide +kernel⟩, List.mem_of_getElem? (i := 17) (by decide +kernel), List.mem_of_getElem? (i := 599) (by decide +kernel), List.mem_of_getElem? (i := 600) (by decide +kernel)⟩
theorem lw_p10 : lw_okq (⟨"WhichDay", "shiftOf", "(LWhichDay$Traveller;II)I"⟩, 6) := ⟨⟨by decide +kernel, by decide +kernel⟩, List.mem_of_getElem? (i := 17) (by decide +kernel), List.mem_of_getElem? (i := 620) (by decide +kernel), List.mem_of_getElem? (i := 621) (by decide +kernel)⟩
theorem lw_p11 : lw_okq (⟨"WhichDay", "leastPlan", "(LWhichDay$Traveller;LWhichDay$Shelf;I)I"⟩, 6) := ⟨⟨by decide +kernel, by decide +kernel⟩, List.mem_of_getElem? (i := 17) (by decide +kernel), List.mem_of_getElem? (i := 630) (by decide +kernel), List.mem_of_getElem? (i := 631) (by decide +kernel)⟩
theorem lw_p12 : lw_okq (⟨"java/lang/Throwable", "fillInStackTrace", "(I)Ljava/lang/Throwable;"⟩, 6) := ⟨⟨by decide +kernel, by decide +kernel⟩, List.mem_of_getElem? (i := 767) (by decide +kernel), List.mem_of_getElem? (i := 765) (by decide +kernel), List.mem_of_getElem? (i := 766) (by decide +kernel)⟩
theorem lw_p13 : lw_okq (⟨"WhichDayModel", "wrongRow", "(II)I"⟩, 23) := ⟨⟨by decide +kernel, by decide +kernel⟩, List.mem_of_getElem? (i := 838) (by decide +kernel), List.mem_of_getElem? (i := 923) (by decide +kernel), List.mem_of_getElem? (i := 924) (by decide +kernel)⟩
theorem lw_p14 : lw_okq (⟨"WhichDayModel", "readsStatement", "()Z"⟩, 23) := ⟨⟨by decide +kernel, by decide +kernel⟩, List.mem_of_getElem? (i := 838) (by decide +kernel), List.mem_of_getElem? (i := 934) (by decide +kernel), List.mem_of_getElem? (i := 935) (by decide +kernel)⟩
theorem lw_p15 : lw_okq (⟨"WhichDayModel", "here", "()I"⟩, 23) := ⟨⟨by decide +kernel, by decide +kernel⟩, List.mem_of_getElem? (i := 838) (by decide +kernel), List.mem_of_getElem? (i := 938) (by decide +kernel), List.mem_of_getElem? (i := 939) (by decide +kernel)⟩
def lw_privs_1 : List (MethodName × Nat) := [(⟨"WhichDay", "shelfOf", "(I)LWhichDay$Shelf;"⟩, 6), (⟨"WhichDay", "readForm", "()I"⟩, 6), (⟨"WhichDay", "readSense", "(I)I"⟩, 6), (⟨"WhichDay", "makeAll", "(I)V"⟩, 6), (⟨"WhichDay", "dayTold", "(LWhichDay$Traveller;II)I"⟩, 6), (⟨"WhichDay", "nextChange", "(LWhichDay$Traveller;II)I"⟩, 6), (⟨"WhichDay", "evenTill", "(LWhichDay$Traveller;I)I"⟩, 6), (⟨"WhichDay", "roundsAt", "(LWhichDay$Traveller;I)I"⟩, 6), (⟨"WhichDay", "firstOther", "(LWhichDay$Traveller;III)I"⟩, 6), (⟨"WhichDay", "firstBroken", "(LWhichDay$Traveller;ILWhichDay$Shelf;I)I"⟩, 6), (⟨"WhichDay", "shiftOf", "(LWhichDay$Traveller;II)I"⟩, 6), (⟨"WhichDay", "leastPlan", "(LWhichDay$Traveller;LWhichDay$Shelf;I)I"⟩, 6), (⟨"java/lang/Throwable", "fillInStackTrace", "(I)Ljava/lang/Throwable;"⟩, 6), (⟨"WhichDayModel", "wrongRow", "(II)I"⟩, 23), (⟨"WhichDayModel", "readsStatement", "()Z"⟩, 23), (⟨"WhichDayModel", "here", "()I"⟩, 23)]
theorem lw_r1 : ∀ q ∈ lw_privs_1, lw_okq q := List.forall_mem_cons.mpr ⟨lw_p0, List.forall_mem_cons.mpr ⟨lw_p1, List.forall_mem_cons.mpr ⟨lw_p2, List.forall_mem_cons.mpr ⟨lw_p3, List.forall_mem_cons.mpr ⟨lw_p4, List.forall_mem_cons.mpr ⟨lw_p5, List.forall_mem_cons.mpr ⟨lw_p6, List.forall_mem_cons.mpr ⟨lw_p7, List.forall_mem_cons.mpr ⟨lw_p8, List.forall_mem_cons.mpr ⟨lw_p9, List.forall_mem_cons.mpr ⟨lw_p10, List.forall_mem_cons.mpr ⟨lw_p11, List.forall_mem_cons.mpr ⟨lw_p12, List.forall_mem_cons.mpr ⟨lw_p13, List.forall_mem_cons.mpr ⟨lw_p14, List.forall_mem_cons.mpr ⟨lw_p15, fun _ h => absurd h List.not_mem_nil⟩⟩⟩⟩⟩⟩⟩⟩⟩⟩⟩⟩⟩⟩⟩⟩
theorem lw_p16 : lw_okq (⟨"WhichDayModel", "readsNumber", "()Z"⟩, 23) := ⟨⟨by decide +kernel, by decide +kernel⟩, List.mem_of_getElem? (i := 838) (by decide +kernel), List.mem_of_getElem? (i := 942) (by decide +kernel), List.mem_of_getElem? (i := 943) (by decide +kernel)⟩
theorem lw_p17 : lw_okq (⟨"WhichDayModel", "takes", "(I)Z"⟩, 23) := ⟨⟨by decide +kernel, by decide +kernel⟩, List.mem_of_getElem? (i := 838) (by decide +kernel), List.mem_of_getElem? (i := 948) (by decide +kernel), List.mem_of_getElem? (i := 949) (by decide +kernel)⟩
theorem lw_p18 : lw_okq (⟨"WhichDayModel", "comes", "(I)Z"⟩, 23) := ⟨⟨by decide +kernel, by decide +kernel⟩, List.mem_of_getElem? (i := 838) (by decide +kernel), List.mem_of_getElem? (i := 952) (by decide +kernel), List.mem_of_getElem? (i := 953) (by decide +kernel)⟩
theorem lw_p19 : lw_okq (⟨"WhichDayModel", "isPlace", "(I)Z"⟩, 23) := ⟨⟨by decide +kernel, by decide +kernel⟩, List.mem_of_getElem? (i := 838) (by decide +kernel), List.mem_of_getElem? (i := 960) (by decide +kernel), List.mem_of_getElem? (i := 961) (by decide +kernel)⟩
theorem lw_p20 : lw_okq (⟨"WhichDayModel", "get", "(II)I"⟩, 23) := ⟨⟨by decide +kernel, by decide +kernel⟩, List.mem_of_getElem? (i := 838) (by decide +kernel), List.mem_of_getElem? (i := 965) (by decide +kernel), List.mem_of_getElem? (i := 966) (by decide +kernel)⟩
theorem lw_p21 : lw_okq (⟨"WhichDayModel", "becomes", "(II)I"⟩, 23) := ⟨⟨by decide +kernel, by decide +kernel⟩, List.mem_of_getElem? (i := 838) (by decide +kernel), List.mem_of_getElem? (i := 979) (by decide +kernel), List.mem_of_getElem? (i := 980) (by decide +kernel)⟩
theorem lw_p22 : lw_okq (⟨"WhichDayModel", "dayIn", "(II)I"⟩, 23) := ⟨⟨by decide +kernel, by decide +kernel⟩, List.mem_of_getElem? (i := 838) (by decide +kernel), List.mem_of_getElem? (i := 996) (by decide +kernel), List.mem_of_getElem? (i := 997) (by decide +kernel)⟩
theorem lw_p23 : lw_okq (⟨"WhichDayModel", "eastOf", "(I)I"⟩, 23) := ⟨⟨by decide +kernel, by decide +kernel⟩, List.mem_of_getElem? (i := 838) (by decide +kernel), List.mem_of_getElem? (i := 1000) (by decide +kernel), List.mem_of_getElem? (i := 1001) (by decide +kernel)⟩
theorem lw_p24 : lw_okq (⟨"WhichDayModel", "isOne", "(I)Z"⟩, 23) := ⟨⟨by decide +kernel, by decide +kernel⟩, List.mem_of_getElem? (i := 838) (by decide +kernel), List.mem_of_getElem? (i := 1028) (by decide +kernel), List.mem_of_getElem? (i := 1029) (by decide +kernel)⟩
theorem lw_p25 : lw_okq (⟨"WhichDayModel", "tell", "(II)I"⟩, 23) := ⟨⟨by decide +kernel, by decide +kernel⟩, List.mem_of_getElem? (i := 838) (by decide +kernel), List.mem_of_getElem? (i := 1033) (by decide +kernel), List.mem_of_getElem? (i := 1034) (by decide +kernel)⟩
theorem lw_p26 : lw_okq (⟨"WhichDayModel", "endOf", "(II)I"⟩, 23) := ⟨⟨by decide +kernel, by decide +kernel⟩, List.mem_of_getElem? (i := 838) (by decide +kernel), List.mem_of_getElem? (i := 1037) (by decide +kernel), List.mem_of_getElem? (i := 1038) (by decide +kernel)⟩
theorem lw_p27 : lw_okq (⟨"WhichDayModel", "legOf", "(III)I"⟩, 23) := ⟨⟨by decide +kernel, by decide +kernel⟩, List.mem_of_getElem? (i := 838) (by decide +kernel), List.mem_of_getElem? (i := 1041) (by decide +kernel), List.mem_of_getElem? (i := 1042) (by decide +kernel)⟩
theorem lw_p28 : lw_okq (⟨"WhichDayModel", "findWhere", "(II)V"⟩, 23) := ⟨⟨by decide +kernel, by decide +kernel⟩, List.mem_of_getElem? (i := 838) (by decide +kernel), List.mem_of_getElem? (i := 1054) (by decide +kernel), List.mem_of_getElem? (i := 1055) (by decide +kernel)⟩
theorem lw_p29 : lw_okq (⟨"WhichDayModel", "dayNow", "(II)I"⟩, 23) := ⟨⟨by decide +kernel, by decide +kernel⟩, List.mem_of_getElem? (i := 838) (by decide +kernel), List.mem_of_getElem? (i := 1070) (by decide +kernel), List.mem_of_getElem? (i := 1071) (by decide +kernel)⟩
theorem lw_p30 : lw_okq (⟨"WhichDayModel", "dayAs", "(III)I"⟩, 23) := ⟨⟨by decide +kernel, by decide +kernel⟩, List.mem_of_getElem? (i := 838) (by decide +kernel), List.mem_of_getElem? (i := 1074) (by decide +kernel), List.mem_of_getElem? (i := 1075) (by decide +kernel)⟩
theorem lw_p31 : lw_okq (⟨"WhichDayModel", "seenDay", "(II)I"⟩, 23) := ⟨⟨by decide +kernel, by decide +kernel⟩, List.mem_of_getElem? (i := 838) (by decide +kernel), List.mem_of_getElem? (i := 1078) (by decide +kernel), List.mem_of_getElem? (i := 1079) (by decide +kernel)⟩
def lw_privs_2 : List (MethodName × Nat) := [(⟨"WhichDayModel", "readsNumber", "()Z"⟩, 23), (⟨"WhichDayModel", "takes", "(I)Z"⟩, 23), (⟨"WhichDayModel", "comes", "(I)Z"⟩, 23), (⟨"WhichDayModel", "isPlace", "(I)Z"⟩, 23), (⟨"WhichDayModel", "get", "(II)I"⟩, 23), (⟨"WhichDayModel", "becomes", "(II)I"⟩, 23), (⟨"WhichDayModel", "dayIn", "(II)I"⟩, 23), (⟨"WhichDayModel", "eastOf", "(I)I"⟩, 23), (⟨"WhichDayModel", "isOne", "(I)Z"⟩, 23), (⟨"WhichDayModel", "tell", "(II)I"⟩, 23), (⟨"WhichDayModel", "endOf", "(II)I"⟩, 23), (⟨"WhichDayModel", "legOf", "(III)I"⟩, 23), (⟨"WhichDayModel", "findWhere", "(II)V"⟩, 23), (⟨"WhichDayModel", "dayNow", "(II)I"⟩, 23), (⟨"WhichDayModel", "dayAs", "(III)I"⟩, 23), (⟨"WhichDayModel", "seenDay", "(II)I"⟩, 23)]
theorem lw_r2 : ∀ q ∈ lw_privs_2, lw_okq q := List.forall_mem_cons.mpr ⟨lw_p16, List.forall_mem_cons.mpr ⟨lw_p17, List.forall_mem_cons.mpr ⟨lw_p18, List.forall_mem_cons.mpr ⟨lw_p19, List.forall_mem_cons.mpr ⟨lw_p20, List.forall_mem_cons.mpr ⟨lw_p21, List.forall_mem_cons.mpr ⟨lw_p22, List.forall_mem_cons.mpr ⟨lw_p23, List.forall_mem_cons.mpr ⟨lw_p24, List.forall_mem_cons.mpr ⟨lw_p25, List.forall_mem_cons.mpr ⟨lw_p26, List.forall_mem_cons.mpr ⟨lw_p27, List.forall_mem_cons.mpr ⟨lw_p28, List.forall_mem_cons.mpr ⟨lw_p29, List.forall_mem_cons.mpr ⟨lw_p30, List.forall_mem_cons.mpr ⟨lw_p31, fun _ h => absurd h List.not_mem_nil⟩⟩⟩⟩⟩⟩⟩⟩⟩⟩⟩⟩⟩⟩⟩⟩
theorem lw_p32 : lw_okq (⟨"WhichDayModel", "eastNow", "(IZ)J"⟩, 23) := ⟨⟨by decide +kernel, by decide +kernel⟩, List.mem_of_getElem? (i := 838) (by decide +kernel), List.mem_of_getElem? (i := 1082) (by decide +kernel), List.mem_of_getElem? (i := 1083) (by decide +kernel)⟩
theorem lw_p33 : lw_okq (⟨"WhichDayModel", "hereDay", "(II)I"⟩, 23) := ⟨⟨by decide +kernel, by decide +kernel⟩, List.mem_of_getElem? (i := 838) (by decide +kernel), List.mem_of_getElem? (i := 1086) (by decide +kernel), List.mem_of_getElem? (i := 1087) (by decide +kernel)⟩
theorem lw_p34 : lw_okq (⟨"WhichDayModel", "changesTo", "(II)I"⟩, 23) := ⟨⟨by decide +kernel, by decide +kernel⟩, List.mem_of_getElem? (i := 838) (by decide +kernel), List.mem_of_getElem? (i := 1090) (by decide +kernel), List.mem_of_getElem? (i := 1091) (by decide +kernel)⟩
theorem lw_p35 : lw_okq (⟨"WhichDayModel", "roundsNow", "(I)I"⟩, 23) := ⟨⟨by decide +kernel, by decide +kernel⟩, List.mem_of_getElem? (i := 838) (by decide +kernel), List.mem_of_getElem? (i := 1094) (by decide +kernel), List.mem_of_getElem? (i := 1095) (by decide +kernel)⟩
theorem lw_p36 : lw_okq (⟨"WhichDayModel", "beginsOf", "(II)I"⟩, 23) := ⟨⟨by decide +kernel, by decide +kernel⟩, List.mem_of_getElem? (i := 838) (by decide +kernel), List.mem_of_getElem? (i := 1113) (by decide +kernel), List.mem_of_getElem? (i := 1114) (by decide +kernel)⟩
theorem lw_p37 : lw_okq (⟨"WhichDayModel", "wrongBy", "(II)I"⟩, 23) := ⟨⟨by decide +kernel, by decide +kernel⟩, List.mem_of_getElem? (i := 838) (by decide +kernel), List.mem_of_getElem? (i := 1146) (by decide +kernel), List.mem_of_getElem? (i := 1147) (by decide +kernel)⟩
theorem lw_p38 : lw_okq (⟨"WhichDayModel", "leastOf", "(I)I"⟩, 23) := ⟨⟨by decide +kernel, by decide +kernel⟩, List.mem_of_getElem? (i := 838) (by decide +kernel), List.mem_of_getElem? (i := 1163) (by decide +kernel), List.mem_of_getElem? (i := 1164) (by decide +kernel)⟩
theorem lw_p39 : lw_okq (⟨"WhichDayModel", "wrongKept", "(III)I"⟩, 23) := ⟨⟨by decide +kernel, by decide +kernel⟩, List.mem_of_getElem? (i := 838) (by decide +kernel), List.mem_of_getElem? (i := 1172) (by decide +kernel), List.mem_of_getElem? (i := 1173) (by decide +kernel)⟩
theorem lw_p40 : lw_okq (⟨"WhichDayModel", "keptOf", "(III)I"⟩, 23) := ⟨⟨by decide +kernel, by decide +kernel⟩, List.mem_of_getElem? (i := 838) (by decide +kernel), List.mem_of_getElem? (i := 1177) (by decide +kernel), List.mem_of_getElem? (i := 1178) (by decide +kernel)⟩
theorem lw_p41 : lw_okq (⟨"WhichDayModel", "wrongShelf", "(I)I"⟩, 23) := ⟨⟨by decide +kernel, by decide +kernel⟩, List.mem_of_getElem? (i := 838) (by decide +kernel), List.mem_of_getElem? (i := 1231) (by decide +kernel), List.mem_of_getElem? (i := 1232) (by decide +kernel)⟩
theorem lw_p42 : lw_okq (⟨"WhichDayModel", "held", "(II)I"⟩, 23) := ⟨⟨by decide +kernel, by decide +kernel⟩, List.mem_of_getElem? (i := 838) (by decide +kernel), List.mem_of_getElem? (i := 1235) (by decide +kernel), List.mem_of_getElem? (i := 1236) (by decide +kernel)⟩
def lw_privs_3 : List (MethodName × Nat) := [(⟨"WhichDayModel", "eastNow", "(IZ)J"⟩, 23), (⟨"WhichDayModel", "hereDay", "(II)I"⟩, 23), (⟨"WhichDayModel", "changesTo", "(II)I"⟩, 23), (⟨"WhichDayModel", "roundsNow", "(I)I"⟩, 23), (⟨"WhichDayModel", "beginsOf", "(II)I"⟩, 23), (⟨"WhichDayModel", "wrongBy", "(II)I"⟩, 23), (⟨"WhichDayModel", "leastOf", "(I)I"⟩, 23), (⟨"WhichDayModel", "wrongKept", "(III)I"⟩, 23), (⟨"WhichDayModel", "keptOf", "(III)I"⟩, 23), (⟨"WhichDayModel", "wrongShelf", "(I)I"⟩, 23), (⟨"WhichDayModel", "held", "(II)I"⟩, 23)]
theorem lw_r3 : ∀ q ∈ lw_privs_3, lw_okq q := List.forall_mem_cons.mpr ⟨lw_p32, List.forall_mem_cons.mpr ⟨lw_p33, List.forall_mem_cons.mpr ⟨lw_p34, List.forall_mem_cons.mpr ⟨lw_p35, List.forall_mem_cons.mpr ⟨lw_p36, List.forall_mem_cons.mpr ⟨lw_p37, List.forall_mem_cons.mpr ⟨lw_p38, List.forall_mem_cons.mpr ⟨lw_p39, List.forall_mem_cons.mpr ⟨lw_p40, List.forall_mem_cons.mpr ⟨lw_p41, List.forall_mem_cons.mpr ⟨lw_p42, fun _ h => absurd h List.not_mem_nil⟩⟩⟩⟩⟩⟩⟩⟩⟩⟩⟩
def lw_privs : List (MethodName × Nat) := lw_privs_1 ++ (lw_privs_2 ++ (lw_privs_3))
def lw_tbl : List Cond := k2_sels lw_privs ++ tables_1
theorem lw_privs_ok : ∀ q ∈ lw_privs, lw_okq q := by
  show ∀ q ∈ lw_privs_1 ++ (lw_privs_2 ++ (lw_privs_3)), lw_okq q
  exact List.forall_mem_append.mpr ⟨lw_r1, List.forall_mem_append.mpr ⟨lw_r2, lw_r3⟩⟩
-- ===== end of PART A; then your names; then what follows =====
def RX0 : String := "WhichDay$Reader"
def TX0 : u_T := fun k => match k with
  | 0 => ("WhichDay$Reader", "text", "LWhichDay$Shelf;", false)
  | 1 => ("WhichDay$Reader", "at", "I", false)
  | 2 => ("WhichDay$Reader", "letter", "I", false)
  | 3 => ("WhichDay$Reader", "letterAt", "I", false)
  | 4 => ("WhichDay$Reader", "first", "I", false)
  | 5 => ("WhichDay$Reader", "second", "I", false)
  | 6 => ("WhichDay$Reader", "third", "I", false)
  | 7 => ("WhichDay$Reader", "choice", "I", false)
  | _ => ("WhichDay$Reader", "number", "I", false)
def tyX0 : Nat → FieldType := fun k => match k with
  | 0 => .object "WhichDay$Shelf"
  | 1 => .int
  | 2 => .int
  | 3 => .int
  | 4 => .int
  | 5 => .int
  | 6 => .int
  | 7 => .int
  | _ => .int
theorem nmX0 : ∀ a, a < 9 → ∀ b, b < 9 → a ≠ b → (TX0 a).2.1 ≠ (TX0 b).2.1 := by decide +kernel
theorem tyX0_ok : ∀ k, k < 9 → parseFieldDescriptor (TX0 k).2.2.1 = some (tyX0 k) := by decide +kernel
abbrev cX0_init : ByteArray := prog_2_method_1_code
def yX0_init : MethodName := ⟨RX0, "<init>", "()V"⟩
abbrev cX0_open : ByteArray := prog_2_method_2_code
def yX0_open : MethodName := ⟨RX0, "open", "(LWhichDay$Shelf;)V"⟩
abbrev cX0_rewind : ByteArray := prog_2_method_3_code
def yX0_rewind : MethodName := ⟨RX0, "rewind", "()V"⟩
abbrev cX0_isAtEnd : ByteArray := prog_2_method_4_code
def yX0_isAtEnd : MethodName := ⟨RX0, "isAtEnd", "()Z"⟩
abbrev cX0_next : ByteArray := prog_2_method_5_code
def yX0_next : MethodName := ⟨RX0, "next", "()I"⟩
abbrev cX0_readStatement : ByteArray := prog_2_method_6_code
def yX0_readStatement : MethodName := ⟨RX0, "readStatement", "()Z"⟩
abbrev cX0_readTwoMore : ByteArray := prog_2_method_7_code
def yX0_readTwoMore : MethodName := ⟨RX0, "readTwoMore", "()Z"⟩
abbrev cX0_readChoice : ByteArray := prog_2_method_8_code
def yX0_readChoice : MethodName := ⟨RX0, "readChoice", "()V"⟩
abbrev cX0_readNumber : ByteArray := prog_2_method_9_code
def yX0_readNumber : MethodName := ⟨RX0, "readNumber", "()Z"⟩
abbrev cX0_pass : ByteArray := prog_2_method_10_code
def yX0_pass : MethodName := ⟨RX0, "pass", "(I)Z"⟩
abbrev cX0_isDigit : ByteArray := prog_2_method_11_code
def yX0_isDigit : MethodName := ⟨RX0, "isDigit", "(I)Z"⟩
abbrev cX0_makesSense : ByteArray := prog_2_method_12_code
def yX0_makesSense : MethodName := ⟨RX0, "makesSense", "(I)Z"⟩
def RX1 : String := "WhichDay$Shelf"
def TX1 : u_T := fun k => match k with
  | 0 => ("WhichDay$Shelf", "who", "LWhichDay$Traveller;", false)
  | 1 => ("WhichDay$Shelf", "hasRow", "Z", false)
  | 2 => ("WhichDay$Shelf", "sort", "I", false)
  | 3 => ("WhichDay$Shelf", "size", "I", false)
  | _ => ("WhichDay$Shelf", "elements", "[I", true)
def tyX1 : Nat → FieldType := fun k => match k with
  | 0 => .object "WhichDay$Traveller"
  | 1 => .boolean
  | 2 => .int
  | 3 => .int
  | _ => .array .int
theorem nmX1 : ∀ a, a < 5 → ∀ b, b < 5 → a ≠ b → (TX1 a).2.1 ≠ (TX1 b).2.1 := by decide +kernel
theorem tyX1_ok : ∀ k, k < 5 → parseFieldDescriptor (TX1 k).2.2.1 = some (tyX1 k) := by decide +kernel
abbrev cX1_init : ByteArray := prog_3_method_1_code
def yX1_init : MethodName := ⟨RX1, "<init>", "()V"⟩
abbrev cX1_isEmpty : ByteArray := prog_3_method_2_code
def yX1_isEmpty : MethodName := ⟨RX1, "isEmpty", "()Z"⟩
abbrev cX1_hold : ByteArray := prog_3_method_3_code
def yX1_hold : MethodName := ⟨RX1, "hold", "(LWhichDay$Traveller;)V"⟩
abbrev cX1_holdRow : ByteArray := prog_3_method_4_code
def yX1_holdRow : MethodName := ⟨RX1, "holdRow", "(II)V"⟩
abbrev cX1_hasElement : ByteArray := prog_3_method_5_code
def yX1_hasElement : MethodName := ⟨RX1, "hasElement", "(I)Z"⟩
abbrev cX1_hasSpan : ByteArray := prog_3_method_6_code
def yX1_hasSpan : MethodName := ⟨RX1, "hasSpan", "(II)Z"⟩
abbrev cX1_lowestBits : ByteArray := prog_3_method_7_code
def yX1_lowestBits : MethodName := ⟨RX1, "lowestBits", "(I)I"⟩
abbrev cX1_leastNumber : ByteArray := prog_3_method_8_code
def yX1_leastNumber : MethodName := ⟨RX1, "leastNumber", "()I"⟩
abbrev cX1_tellsPair : ByteArray := prog_3_method_9_code
def yX1_tellsPair : MethodName := ⟨RX1, "tellsPair", "(I)Z"⟩
def RX2 : String := "WhichDay$Spot"
def TX2 : u_T := fun k => match k with
  | 0 => ("WhichDay$Spot", "place", "I", false)
  | 1 => ("WhichDay$Spot", "leg", "I", false)
  | 2 => ("WhichDay$Spot", "came", "I", false)
  | 3 => ("WhichDay$Spot", "gone", "J", false)
  | 4 => ("WhichDay$Spot", "east", "J", false)
  | _ => ("WhichDay$Spot", "below", "J", false)
def tyX2 : Nat → FieldType := fun k => match k with
  | 0 => .int
  | 1 => .int
  | 2 => .int
  | 3 => .long
  | 4 => .long
  | _ => .long
theorem nmX2 : ∀ a, a < 6 → ∀ b, b < 6 → a ≠ b → (TX2 a).2.1 ≠ (TX2 b).2.1 := by decide +kernel
theorem tyX2_ok : ∀ k, k < 6 → parseFieldDescriptor (TX2 k).2.2.1 = some (tyX2 k) := by decide +kernel
abbrev cX2_init : ByteArray := prog_4_method_1_code
def yX2_init : MethodName := ⟨RX2, "<init>", "()V"⟩
abbrev cX2_setIn : ByteArray := prog_4_method_2_code
def yX2_setIn : MethodName := ⟨RX2, "setIn", "(I)V"⟩
abbrev cX2_setUnderWay : ByteArray := prog_4_method_3_code
def yX2_setUnderWay : MethodName := ⟨RX2, "setUnderWay", "(II)V"⟩
abbrev cX2_isUnderWay : ByteArray := prog_4_method_4_code
def yX2_isUnderWay : MethodName := ⟨RX2, "isUnderWay", "()Z"⟩
abbrev cX2_roundsDone : ByteArray := prog_4_method_5_code
def yX2_roundsDone : MethodName := ⟨RX2, "roundsDone", "()I"⟩
abbrev cX2_dayByMidnight : ByteArray := prog_4_method_6_code
def yX2_dayByMidnight : MethodName := ⟨RX2, "dayByMidnight", "(I)I"⟩
abbrev cX2_daysSeen : ByteArray := prog_4_method_7_code
def yX2_daysSeen : MethodName := ⟨RX2, "daysSeen", "(I)I"⟩
abbrev cX2_daysGone : ByteArray := prog_4_method_8_code
def yX2_daysGone : MethodName := ⟨RX2, "daysGone", "(I)I"⟩
def RX3 : String := "WhichDay$Traveller"
def TX3 : u_T := fun k => match k with
  | 0 => ("WhichDay$Traveller", "number", "I", false)
  | 1 => ("WhichDay$Traveller", "kind", "I", false)
  | 2 => ("WhichDay$Traveller", "home", "I", false)
  | 3 => ("WhichDay$Traveller", "stay", "I", false)
  | 4 => ("WhichDay$Traveller", "legs", "I", false)
  | 5 => ("WhichDay$Traveller", "eastward", "I", false)
  | 6 => ("WhichDay$Traveller", "to", "[I", true)
  | 7 => ("WhichDay$Traveller", "from", "[I", true)
  | 8 => ("WhichDay$Traveller", "end", "[I", true)
  | 9 => ("WhichDay$Traveller", "changes", "I", false)
  | 10 => ("WhichDay$Traveller", "changeAt", "[I", true)
  | _ => ("WhichDay$Traveller", "changeBy", "[I", true)
def tyX3 : Nat → FieldType := fun k => match k with
  | 0 => .int
  | 1 => .int
  | 2 => .int
  | 3 => .int
  | 4 => .int
  | 5 => .int
  | 6 => .array .int
  | 7 => .array .int
  | 8 => .array .int
  | 9 => .int
  | 10 => .array .int
  | _ => .array .int
theorem nmX3 : ∀ a, a < 12 → ∀ b, b < 12 → a ≠ b → (TX3 a).2.1 ≠ (TX3 b).2.1 := by decide +kernel
theorem tyX3_ok : ∀ k, k < 12 → parseFieldDescriptor (TX3 k).2.2.1 = some (tyX3 k) := by decide +kernel
abbrev cX3_init : ByteArray := prog_5_method_1_code
def yX3_init : MethodName := ⟨RX3, "<init>", "()V"⟩
abbrev cX3_lastEnd : ByteArray := prog_5_method_2_code
def yX3_lastEnd : MethodName := ⟨RX3, "lastEnd", "()I"⟩
abbrev cX3_addLeg : ByteArray := prog_5_method_3_code
def yX3_addLeg : MethodName := ⟨RX3, "addLeg", "(IZII)V"⟩
abbrev cX3_changedTill : ByteArray := prog_5_method_4_code
def yX3_changedTill : MethodName := ⟨RX3, "changedTill", "(I)I"⟩
abbrev cX3_isSettled : ByteArray := prog_5_method_5_code
def yX3_isSettled : MethodName := ⟨RX3, "isSettled", "(LWhichDay$Spot;I)Z"⟩
abbrev cX3_nextEvent : ByteArray := prog_5_method_6_code
def yX3_nextEvent : MethodName := ⟨RX3, "nextEvent", "(I)I"⟩
abbrev cX3_nearer : ByteArray := prog_5_method_7_code
def yX3_nearer : MethodName := ⟨RX3, "nearer", "(III)I"⟩
abbrev cX3_weightBy : ByteArray := prog_5_method_8_code
def yX3_weightBy : MethodName := ⟨RX3, "weightBy", "(I)I"⟩
abbrev cX3_take : ByteArray := prog_5_method_9_code
def yX3_take : MethodName := ⟨RX3, "take", "(LWhichDay$Traveller;)V"⟩
def RX4 : String := "WhichDay$World"
def TX4 : u_T := fun k => match k with
  | 0 => ("WhichDay$World", "places", "I", false)
  | 1 => ("WhichDay$World", "travellers", "I", false)
  | 2 => ("WhichDay$World", "lineAt", "I", false)
  | 3 => ("WhichDay$World", "degrees", "[I", true)
  | 4 => ("WhichDay$World", "rules", "[I", true)
  | 5 => ("WhichDay$World", "choices", "[I", true)
  | 6 => ("WhichDay$World", "people", "[I", true)
  | 7 => ("WhichDay$World", "trades", "[I", true)
  | _ => ("WhichDay$World", "crowd", "[LWhichDay$Traveller;", true)
def tyX4 : Nat → FieldType := fun k => match k with
  | 0 => .int
  | 1 => .int
  | 2 => .int
  | 3 => .array .int
  | 4 => .array .int
  | 5 => .array .int
  | 6 => .array .int
  | 7 => .array .int
  | _ => .array (.object "WhichDay$Traveller")
theorem nmX4 : ∀ a, a < 9 → ∀ b, b < 9 → a ≠ b → (TX4 a).2.1 ≠ (TX4 b).2.1 := by decide +kernel
theorem tyX4_ok : ∀ k, k < 9 → parseFieldDescriptor (TX4 k).2.2.1 = some (tyX4 k) := by decide +kernel
abbrev cX4_init : ByteArray := prog_6_method_1_code
def yX4_init : MethodName := ⟨RX4, "<init>", "()V"⟩
abbrev cX4_hasPlace : ByteArray := prog_6_method_2_code
def yX4_hasPlace : MethodName := ⟨RX4, "hasPlace", "(I)Z"⟩
abbrev cX4_travellerOf : ByteArray := prog_6_method_3_code
def yX4_travellerOf : MethodName := ⟨RX4, "travellerOf", "(I)LWhichDay$Traveller;"⟩
abbrev cX4_degreeOf : ByteArray := prog_6_method_4_code
def yX4_degreeOf : MethodName := ⟨RX4, "degreeOf", "(I)I"⟩
abbrev cX4_addPlace : ByteArray := prog_6_method_5_code
def yX4_addPlace : MethodName := ⟨RX4, "addPlace", "(IIII)V"⟩
abbrev cX4_setTrade : ByteArray := prog_6_method_6_code
def yX4_setTrade : MethodName := ⟨RX4, "setTrade", "(III)V"⟩
abbrev cX4_sunMinutes : ByteArray := prog_6_method_7_code
def yX4_sunMinutes : MethodName := ⟨RX4, "sunMinutes", "(III)I"⟩
abbrev cX4_dayIn : ByteArray := prog_6_method_8_code
def yX4_dayIn : MethodName := ⟨RX4, "dayIn", "(III)I"⟩
abbrev cX4_wrongWith : ByteArray := prog_6_method_9_code
def yX4_wrongWith : MethodName := ⟨RX4, "wrongWith", "(II)I"⟩
abbrev cX4_locate : ByteArray := prog_6_method_10_code
def yX4_locate : MethodName := ⟨RX4, "locate", "(LWhichDay$Traveller;IILWhichDay$Spot;)V"⟩
abbrev cX4_degreesOf : ByteArray := prog_6_method_11_code
def yX4_degreesOf : MethodName := ⟨RX4, "degreesOf", "(IIZ)I"⟩
abbrev cX4_allLegs : ByteArray := prog_6_method_12_code
def yX4_allLegs : MethodName := ⟨RX4, "allLegs", "()I"⟩
abbrev cX4_allPeople : ByteArray := prog_6_method_13_code
def yX4_allPeople : MethodName := ⟨RX4, "allPeople", "()I"⟩
abbrev cX4_tradingPairs : ByteArray := prog_6_method_14_code
def yX4_tradingPairs : MethodName := ⟨RX4, "tradingPairs", "()I"⟩
abbrev cX4_takeWorld : ByteArray := prog_6_method_15_code
def yX4_takeWorld : MethodName := ⟨RX4, "takeWorld", "(LWhichDay$World;)V"⟩
abbrev cX4_takeTravellers : ByteArray := prog_6_method_16_code
def yX4_takeTravellers : MethodName := ⟨RX4, "takeTravellers", "(LWhichDay$World;Z)V"⟩
def RX5 : String := "WhichDay"
def TX5 : u_T := fun k => match k with
  | 0 => ("WhichDay", "now", "LWhichDay$World;", true)
  | 1 => ("WhichDay", "then", "LWhichDay$World;", true)
  | 2 => ("WhichDay", "imageTaken", "Z", false)
  | 3 => ("WhichDay", "shelves", "[LWhichDay$Shelf;", true)
  | 4 => ("WhichDay", "spot", "LWhichDay$Spot;", true)
  | _ => ("WhichDay", "reader", "LWhichDay$Reader;", true)
def tyX5 : Nat → FieldType := fun k => match k with
  | 0 => .object "WhichDay$World"
  | 1 => .object "WhichDay$World"
  | 2 => .boolean
  | 3 => .array (.object "WhichDay$Shelf")
  | 4 => .object "WhichDay$Spot"
  | _ => .object "WhichDay$Reader"
theorem nmX5 : ∀ a, a < 6 → ∀ b, b < 6 → a ≠ b → (TX5 a).2.1 ≠ (TX5 b).2.1 := by decide +kernel
theorem tyX5_ok : ∀ k, k < 6 → parseFieldDescriptor (TX5 k).2.2.1 = some (tyX5 k) := by decide +kernel
abbrev cX5_init : ByteArray := prog_1_method_1_code
def yX5_init : MethodName := ⟨RX5, "<init>", "()V"⟩
abbrev cX5_world : ByteArray := prog_1_method_2_code
def yX5_world : MethodName := ⟨RX5, "world", "(I)I"⟩
abbrev cX5_place : ByteArray := prog_1_method_3_code
def yX5_place : MethodName := ⟨RX5, "place", "(II)I"⟩
abbrev cX5_trade : ByteArray := prog_1_method_4_code
def yX5_trade : MethodName := ⟨RX5, "trade", "(II)I"⟩
abbrev cX5_choose : ByteArray := prog_1_method_5_code
def yX5_choose : MethodName := ⟨RX5, "choose", "(II)I"⟩
abbrev cX5_line : ByteArray := prog_1_method_6_code
def yX5_line : MethodName := ⟨RX5, "line", "(I)I"⟩
abbrev cX5_dayOf : ByteArray := prog_1_method_7_code
def yX5_dayOf : MethodName := ⟨RX5, "dayOf", "(II)I"⟩
abbrev cX5_hourOf : ByteArray := prog_1_method_8_code
def yX5_hourOf : MethodName := ⟨RX5, "hourOf", "(II)I"⟩
abbrev cX5_traveller : ByteArray := prog_1_method_9_code
def yX5_traveller : MethodName := ⟨RX5, "traveller", "(III)I"⟩
abbrev cX5_leg : ByteArray := prog_1_method_10_code
def yX5_leg : MethodName := ⟨RX5, "leg", "(IIZII)I"⟩
abbrev cX5_captain : ByteArray := prog_1_method_11_code
def yX5_captain : MethodName := ⟨RX5, "captain", "(III)I"⟩
abbrev cX5_where : ByteArray := prog_1_method_12_code
def yX5_where : MethodName := ⟨RX5, "where", "(III)J"⟩
abbrev cX5_in : ByteArray := prog_1_method_13_code
def yX5_in : MethodName := ⟨RX5, "in", "(II)I"⟩
abbrev cX5_day : ByteArray := prog_1_method_14_code
def yX5_day : MethodName := ⟨RX5, "day", "(II)I"⟩
abbrev cX5_dayBy : ByteArray := prog_1_method_15_code
def yX5_dayBy : MethodName := ⟨RX5, "dayBy", "(III)I"⟩
abbrev cX5_gain : ByteArray := prog_1_method_16_code
def yX5_gain : MethodName := ⟨RX5, "gain", "(III)I"⟩
abbrev cX5_begins : ByteArray := prog_1_method_17_code
def yX5_begins : MethodName := ⟨RX5, "begins", "(II)I"⟩
abbrev cX5_longDay : ByteArray := prog_1_method_18_code
def yX5_longDay : MethodName := ⟨RX5, "longDay", "(II)I"⟩
abbrev cX5_often : ByteArray := prog_1_method_19_code
def yX5_often : MethodName := ⟨RX5, "often", "(III)I"⟩
abbrev cX5_duty : ByteArray := prog_1_method_20_code
def yX5_duty : MethodName := ⟨RX5, "duty", "(III)I"⟩
abbrev cX5_differ : ByteArray := prog_1_method_21_code
def yX5_differ : MethodName := ⟨RX5, "differ", "(III)I"⟩
abbrev cX5_agree : ByteArray := prog_1_method_22_code
def yX5_agree : MethodName := ⟨RX5, "agree", "(III)I"⟩
abbrev cX5_part : ByteArray := prog_1_method_23_code
def yX5_part : MethodName := ⟨RX5, "part", "(IIII)I"⟩
abbrev cX5_wrong : ByteArray := prog_1_method_24_code
def yX5_wrong : MethodName := ⟨RX5, "wrong", "(II)I"⟩
abbrev cX5_bestLine : ByteArray := prog_1_method_25_code
def yX5_bestLine : MethodName := ⟨RX5, "bestLine", "(II)I"⟩
abbrev cX5_moved : ByteArray := prog_1_method_26_code
def yX5_moved : MethodName := ⟨RX5, "moved", "(II)I"⟩
abbrev cX5_judge : ByteArray := prog_1_method_27_code
def yX5_judge : MethodName := ⟨RX5, "judge", "(IIII)I"⟩
abbrev cX5_kept : ByteArray := prog_1_method_28_code
def yX5_kept : MethodName := ⟨RX5, "kept", "(III)I"⟩
abbrev cX5_rounds : ByteArray := prog_1_method_29_code
def yX5_rounds : MethodName := ⟨RX5, "rounds", "(II)I"⟩
abbrev cX5_log : ByteArray := prog_1_method_30_code
def yX5_log : MethodName := ⟨RX5, "log", "(II)I"⟩
abbrev cX5_plan : ByteArray := prog_1_method_31_code
def yX5_plan : MethodName := ⟨RX5, "plan", "(III)I"⟩
abbrev cX5_image : ByteArray := prog_1_method_32_code
def yX5_image : MethodName := ⟨RX5, "image", "()I"⟩
abbrev cX5_restore : ByteArray := prog_1_method_33_code
def yX5_restore : MethodName := ⟨RX5, "restore", "()I"⟩
abbrev cX5_count : ByteArray := prog_1_method_34_code
def yX5_count : MethodName := ⟨RX5, "count", "(I)I"⟩
abbrev cX5_keep : ByteArray := prog_1_method_35_code
def yX5_keep : MethodName := ⟨RX5, "keep", "(III)I"⟩
abbrev cX5_row : ByteArray := prog_1_method_36_code
def yX5_row : MethodName := ⟨RX5, "row", "(III)I"⟩
abbrev cX5_put : ByteArray := prog_1_method_37_code
def yX5_put : MethodName := ⟨RX5, "put", "(III)I"⟩
abbrev cX5_element : ByteArray := prog_1_method_38_code
def yX5_element : MethodName := ⟨RX5, "element", "(II)J"⟩
abbrev cX5_copy : ByteArray := prog_1_method_39_code
def yX5_copy : MethodName := ⟨RX5, "copy", "(IIIII)I"⟩
abbrev cX5_weight : ByteArray := prog_1_method_40_code
def yX5_weight : MethodName := ⟨RX5, "weight", "(I)I"⟩
abbrev cX5_toss : ByteArray := prog_1_method_41_code
def yX5_toss : MethodName := ⟨RX5, "toss", "(I)I"⟩
abbrev cX5_isMinute : ByteArray := prog_1_method_42_code
def yX5_isMinute : MethodName := ⟨RX5, "isMinute", "(I)Z"⟩
abbrev cX5_isDegree : ByteArray := prog_1_method_43_code
def yX5_isDegree : MethodName := ⟨RX5, "isDegree", "(I)Z"⟩
abbrev cX5_isKind : ByteArray := prog_1_method_44_code
def yX5_isKind : MethodName := ⟨RX5, "isKind", "(I)Z"⟩
abbrev cX5_isRestDay : ByteArray := prog_1_method_45_code
def yX5_isRestDay : MethodName := ⟨RX5, "isRestDay", "(I)Z"⟩
abbrev cX5_minuteOrNone : ByteArray := prog_1_method_46_code
def yX5_minuteOrNone : MethodName := ⟨RX5, "minuteOrNone", "(I)I"⟩
abbrev cX5_commonDivisor : ByteArray := prog_1_method_47_code
def yX5_commonDivisor : MethodName := ⟨RX5, "commonDivisor", "(JJ)J"⟩
abbrev cX5_shelfOf : ByteArray := prog_1_method_48_code
def yX5_shelfOf : MethodName := ⟨RX5, "shelfOf", "(I)LWhichDay$Shelf;"⟩
abbrev cX5_refusalOfRow : ByteArray := prog_1_method_49_code
def yX5_refusalOfRow : MethodName := ⟨RX5, "refusalOfRow", "(LWhichDay$Shelf;)I"⟩
abbrev cX5_refusalOfSort : ByteArray := prog_1_method_50_code
def yX5_refusalOfSort : MethodName := ⟨RX5, "refusalOfSort", "(LWhichDay$Shelf;I)I"⟩
abbrev cX5_refusalOfTraveller : ByteArray := prog_1_method_51_code
def yX5_refusalOfTraveller : MethodName := ⟨RX5, "refusalOfTraveller", "(LWhichDay$Shelf;)I"⟩
abbrev cX5_refusalOfDuties : ByteArray := prog_1_method_52_code
def yX5_refusalOfDuties : MethodName := ⟨RX5, "refusalOfDuties", "(LWhichDay$Shelf;)I"⟩
abbrev cX5_isLog : ByteArray := prog_1_method_53_code
def yX5_isLog : MethodName := ⟨RX5, "isLog", "(LWhichDay$Shelf;)Z"⟩
abbrev cX5_shiftOf : ByteArray := prog_1_method_54_code
def yX5_shiftOf : MethodName := ⟨RX5, "shiftOf", "(LWhichDay$Traveller;II)I"⟩
abbrev cX5_throwFailure : ByteArray := prog_1_method_55_code
def yX5_throwFailure : MethodName := ⟨RX5, "throwFailure", "(LWhichDay$Traveller;)V"⟩
abbrev cX5_readForm : ByteArray := prog_1_method_56_code
def yX5_readForm : MethodName := ⟨RX5, "readForm", "()I"⟩
abbrev cX5_readSense : ByteArray := prog_1_method_57_code
def yX5_readSense : MethodName := ⟨RX5, "readSense", "(I)I"⟩
abbrev cX5_makeAll : ByteArray := prog_1_method_58_code
def yX5_makeAll : MethodName := ⟨RX5, "makeAll", "(I)V"⟩
abbrev cX5_roundsAt : ByteArray := prog_1_method_59_code
def yX5_roundsAt : MethodName := ⟨RX5, "roundsAt", "(LWhichDay$Traveller;I)I"⟩
abbrev cX5_dayTold : ByteArray := prog_1_method_60_code
def yX5_dayTold : MethodName := ⟨RX5, "dayTold", "(LWhichDay$Traveller;II)I"⟩
abbrev cX5_nextChange : ByteArray := prog_1_method_61_code
def yX5_nextChange : MethodName := ⟨RX5, "nextChange", "(LWhichDay$Traveller;II)I"⟩
abbrev cX5_evenTill : ByteArray := prog_1_method_62_code
def yX5_evenTill : MethodName := ⟨RX5, "evenTill", "(LWhichDay$Traveller;I)I"⟩
abbrev cX5_firstOther : ByteArray := prog_1_method_63_code
def yX5_firstOther : MethodName := ⟨RX5, "firstOther", "(LWhichDay$Traveller;III)I"⟩
abbrev cX5_firstBroken : ByteArray := prog_1_method_64_code
def yX5_firstBroken : MethodName := ⟨RX5, "firstBroken", "(LWhichDay$Traveller;ILWhichDay$Shelf;I)I"⟩
abbrev cX5_leastPlan : ByteArray := prog_1_method_65_code
def yX5_leastPlan : MethodName := ⟨RX5, "leastPlan", "(LWhichDay$Traveller;LWhichDay$Shelf;I)I"⟩
def RX6 : String := "WhichDayModel"
def TX6 : u_T := fun k => match k with
  | 0 => ("WhichDayModel", "s", "[I", true)
  | 1 => ("WhichDayModel", "image", "[I", true)
  | 2 => ("WhichDayModel", "kept", "[I", true)
  | 3 => ("WhichDayModel", "sort", "[I", true)
  | 4 => ("WhichDayModel", "size", "[I", true)
  | 5 => ("WhichDayModel", "element", "[I", true)
  | 6 => ("WhichDayModel", "keptOne", "[I", true)
  | 7 => ("WhichDayModel", "own", "[I", true)
  | 8 => ("WhichDayModel", "isOwn", "[Z", true)
  | 9 => ("WhichDayModel", "hasImage", "Z", false)
  | 10 => ("WhichDayModel", "thrown", "I", false)
  | 11 => ("WhichDayModel", "pos", "I", false)
  | 12 => ("WhichDayModel", "base", "I", false)
  | 13 => ("WhichDayModel", "end", "I", false)
  | 14 => ("WhichDayModel", "number", "I", false)
  | 15 => ("WhichDayModel", "told", "I", false)
  | 16 => ("WhichDayModel", "sign", "I", false)
  | 17 => ("WhichDayModel", "numbers", "[I", true)
  | 18 => ("WhichDayModel", "read", "[I", true)
  | 19 => ("WhichDayModel", "above", "J", false)
  | 20 => ("WhichDayModel", "below", "J", false)
  | 21 => ("WhichDayModel", "placeNow", "I", false)
  | _ => ("WhichDayModel", "since", "I", false)
def tyX6 : Nat → FieldType := fun k => match k with
  | 0 => .array .int
  | 1 => .array .int
  | 2 => .array .int
  | 3 => .array .int
  | 4 => .array .int
  | 5 => .array .int
  | 6 => .array .int
  | 7 => .array .int
  | 8 => .array .boolean
  | 9 => .boolean
  | 10 => .int
  | 11 => .int
  | 12 => .int
  | 13 => .int
  | 14 => .int
  | 15 => .int
  | 16 => .int
  | 17 => .array .int
  | 18 => .array .int
  | 19 => .long
  | 20 => .long
  | 21 => .int
  | _ => .int
theorem nmX6 : ∀ a, a < 23 → ∀ b, b < 23 → a ≠ b → (TX6 a).2.1 ≠ (TX6 b).2.1 := by decide +kernel
theorem tyX6_ok : ∀ k, k < 23 → parseFieldDescriptor (TX6 k).2.2.1 = some (tyX6 k) := by decide +kernel
abbrev cX6_init : ByteArray := prog_8_method_1_code
def yX6_init : MethodName := ⟨RX6, "<init>", "()V"⟩
abbrev cX6_thrown : ByteArray := prog_8_method_2_code
def yX6_thrown : MethodName := ⟨RX6, "thrown", "()I"⟩
abbrev cX6_isIn : ByteArray := prog_8_method_3_code
def yX6_isIn : MethodName := ⟨RX6, "isIn", "(JJJ)Z"⟩
abbrev cX6_isPlace : ByteArray := prog_8_method_4_code
def yX6_isPlace : MethodName := ⟨RX6, "isPlace", "(I)Z"⟩
abbrev cX6_isOne : ByteArray := prog_8_method_5_code
def yX6_isOne : MethodName := ⟨RX6, "isOne", "(I)Z"⟩
abbrev cX6_isMinute : ByteArray := prog_8_method_6_code
def yX6_isMinute : MethodName := ⟨RX6, "isMinute", "(J)Z"⟩
abbrev cX6_isShelf : ByteArray := prog_8_method_7_code
def yX6_isShelf : MethodName := ⟨RX6, "isShelf", "(I)Z"⟩
abbrev cX6_get : ByteArray := prog_8_method_8_code
def yX6_get : MethodName := ⟨RX6, "get", "(II)I"⟩
abbrev cX6_becomes : ByteArray := prog_8_method_9_code
def yX6_becomes : MethodName := ⟨RX6, "becomes", "(II)I"⟩
abbrev cX6_floor : ByteArray := prog_8_method_10_code
def yX6_floor : MethodName := ⟨RX6, "floor", "(JJ)J"⟩
abbrev cX6_here : ByteArray := prog_8_method_11_code
def yX6_here : MethodName := ⟨RX6, "here", "()I"⟩
abbrev cX6_takes : ByteArray := prog_8_method_12_code
def yX6_takes : MethodName := ⟨RX6, "takes", "(I)Z"⟩
abbrev cX6_readsNumber : ByteArray := prog_8_method_13_code
def yX6_readsNumber : MethodName := ⟨RX6, "readsNumber", "()Z"⟩
abbrev cX6_readsStatement : ByteArray := prog_8_method_14_code
def yX6_readsStatement : MethodName := ⟨RX6, "readsStatement", "()Z"⟩
abbrev cX6_comes : ByteArray := prog_8_method_15_code
def yX6_comes : MethodName := ⟨RX6, "comes", "(I)Z"⟩
abbrev cX6_wrongRow : ByteArray := prog_8_method_16_code
def yX6_wrongRow : MethodName := ⟨RX6, "wrongRow", "(II)I"⟩
abbrev cX6_world : ByteArray := prog_8_method_17_code
def yX6_world : MethodName := ⟨RX6, "world", "(I)I"⟩
abbrev cX6_place : ByteArray := prog_8_method_18_code
def yX6_place : MethodName := ⟨RX6, "place", "(II)I"⟩
abbrev cX6_trade : ByteArray := prog_8_method_19_code
def yX6_trade : MethodName := ⟨RX6, "trade", "(II)I"⟩
abbrev cX6_choose : ByteArray := prog_8_method_20_code
def yX6_choose : MethodName := ⟨RX6, "choose", "(II)I"⟩
abbrev cX6_line : ByteArray := prog_8_method_21_code
def yX6_line : MethodName := ⟨RX6, "line", "(I)I"⟩
abbrev cX6_eastOf : ByteArray := prog_8_method_22_code
def yX6_eastOf : MethodName := ⟨RX6, "eastOf", "(I)I"⟩
abbrev cX6_dayAt : ByteArray := prog_8_method_23_code
def yX6_dayAt : MethodName := ⟨RX6, "dayAt", "(JJII)I"⟩
abbrev cX6_dayIn : ByteArray := prog_8_method_24_code
def yX6_dayIn : MethodName := ⟨RX6, "dayIn", "(II)I"⟩
abbrev cX6_dayOf : ByteArray := prog_8_method_25_code
def yX6_dayOf : MethodName := ⟨RX6, "dayOf", "(II)I"⟩
abbrev cX6_hourOf : ByteArray := prog_8_method_26_code
def yX6_hourOf : MethodName := ⟨RX6, "hourOf", "(II)I"⟩
abbrev cX6_tell : ByteArray := prog_8_method_27_code
def yX6_tell : MethodName := ⟨RX6, "tell", "(II)I"⟩
abbrev cX6_traveller : ByteArray := prog_8_method_28_code
def yX6_traveller : MethodName := ⟨RX6, "traveller", "(III)I"⟩
abbrev cX6_legOf : ByteArray := prog_8_method_29_code
def yX6_legOf : MethodName := ⟨RX6, "legOf", "(III)I"⟩
abbrev cX6_endOf : ByteArray := prog_8_method_30_code
def yX6_endOf : MethodName := ⟨RX6, "endOf", "(II)I"⟩
abbrev cX6_leg : ByteArray := prog_8_method_31_code
def yX6_leg : MethodName := ⟨RX6, "leg", "(IIZII)I"⟩
abbrev cX6_captain : ByteArray := prog_8_method_32_code
def yX6_captain : MethodName := ⟨RX6, "captain", "(III)I"⟩
abbrev cX6_findWhere : ByteArray := prog_8_method_33_code
def yX6_findWhere : MethodName := ⟨RX6, "findWhere", "(II)V"⟩
abbrev cX6_eastNow : ByteArray := prog_8_method_34_code
def yX6_eastNow : MethodName := ⟨RX6, "eastNow", "(IZ)J"⟩
abbrev cX6_common : ByteArray := prog_8_method_35_code
def yX6_common : MethodName := ⟨RX6, "common", "(JJ)J"⟩
abbrev cX6_where : ByteArray := prog_8_method_36_code
def yX6_where : MethodName := ⟨RX6, "where", "(III)J"⟩
abbrev cX6_in : ByteArray := prog_8_method_37_code
def yX6_in : MethodName := ⟨RX6, "in", "(II)I"⟩
abbrev cX6_hereDay : ByteArray := prog_8_method_38_code
def yX6_hereDay : MethodName := ⟨RX6, "hereDay", "(II)I"⟩
abbrev cX6_seenDay : ByteArray := prog_8_method_39_code
def yX6_seenDay : MethodName := ⟨RX6, "seenDay", "(II)I"⟩
abbrev cX6_roundsNow : ByteArray := prog_8_method_40_code
def yX6_roundsNow : MethodName := ⟨RX6, "roundsNow", "(I)I"⟩
abbrev cX6_changesTo : ByteArray := prog_8_method_41_code
def yX6_changesTo : MethodName := ⟨RX6, "changesTo", "(II)I"⟩
abbrev cX6_dayAs : ByteArray := prog_8_method_42_code
def yX6_dayAs : MethodName := ⟨RX6, "dayAs", "(III)I"⟩
abbrev cX6_dayNow : ByteArray := prog_8_method_43_code
def yX6_dayNow : MethodName := ⟨RX6, "dayNow", "(II)I"⟩
abbrev cX6_day : ByteArray := prog_8_method_44_code
def yX6_day : MethodName := ⟨RX6, "day", "(II)I"⟩
abbrev cX6_isKind : ByteArray := prog_8_method_45_code
def yX6_isKind : MethodName := ⟨RX6, "isKind", "(I)Z"⟩
abbrev cX6_dayBy : ByteArray := prog_8_method_46_code
def yX6_dayBy : MethodName := ⟨RX6, "dayBy", "(III)I"⟩
abbrev cX6_gain : ByteArray := prog_8_method_47_code
def yX6_gain : MethodName := ⟨RX6, "gain", "(III)I"⟩
abbrev cX6_beginsOf : ByteArray := prog_8_method_48_code
def yX6_beginsOf : MethodName := ⟨RX6, "beginsOf", "(II)I"⟩
abbrev cX6_begins : ByteArray := prog_8_method_49_code
def yX6_begins : MethodName := ⟨RX6, "begins", "(II)I"⟩
abbrev cX6_longDay : ByteArray := prog_8_method_50_code
def yX6_longDay : MethodName := ⟨RX6, "longDay", "(II)I"⟩
abbrev cX6_often : ByteArray := prog_8_method_51_code
def yX6_often : MethodName := ⟨RX6, "often", "(III)I"⟩
abbrev cX6_duty : ByteArray := prog_8_method_52_code
def yX6_duty : MethodName := ⟨RX6, "duty", "(III)I"⟩
abbrev cX6_differ : ByteArray := prog_8_method_53_code
def yX6_differ : MethodName := ⟨RX6, "differ", "(III)I"⟩
abbrev cX6_agree : ByteArray := prog_8_method_54_code
def yX6_agree : MethodName := ⟨RX6, "agree", "(III)I"⟩
abbrev cX6_part : ByteArray := prog_8_method_55_code
def yX6_part : MethodName := ⟨RX6, "part", "(IIII)I"⟩
abbrev cX6_wrongBy : ByteArray := prog_8_method_56_code
def yX6_wrongBy : MethodName := ⟨RX6, "wrongBy", "(II)I"⟩
abbrev cX6_wrong : ByteArray := prog_8_method_57_code
def yX6_wrong : MethodName := ⟨RX6, "wrong", "(II)I"⟩
abbrev cX6_bestLine : ByteArray := prog_8_method_58_code
def yX6_bestLine : MethodName := ⟨RX6, "bestLine", "(II)I"⟩
abbrev cX6_moved : ByteArray := prog_8_method_59_code
def yX6_moved : MethodName := ⟨RX6, "moved", "(II)I"⟩
abbrev cX6_leastOf : ByteArray := prog_8_method_60_code
def yX6_leastOf : MethodName := ⟨RX6, "leastOf", "(I)I"⟩
abbrev cX6_judge : ByteArray := prog_8_method_61_code
def yX6_judge : MethodName := ⟨RX6, "judge", "(IIII)I"⟩
abbrev cX6_wrongKept : ByteArray := prog_8_method_62_code
def yX6_wrongKept : MethodName := ⟨RX6, "wrongKept", "(III)I"⟩
abbrev cX6_keptOf : ByteArray := prog_8_method_63_code
def yX6_keptOf : MethodName := ⟨RX6, "keptOf", "(III)I"⟩
abbrev cX6_kept : ByteArray := prog_8_method_64_code
def yX6_kept : MethodName := ⟨RX6, "kept", "(III)I"⟩
abbrev cX6_rounds : ByteArray := prog_8_method_65_code
def yX6_rounds : MethodName := ⟨RX6, "rounds", "(II)I"⟩
abbrev cX6_log : ByteArray := prog_8_method_66_code
def yX6_log : MethodName := ⟨RX6, "log", "(II)I"⟩
abbrev cX6_plan : ByteArray := prog_8_method_67_code
def yX6_plan : MethodName := ⟨RX6, "plan", "(III)I"⟩
abbrev cX6_image : ByteArray := prog_8_method_68_code
def yX6_image : MethodName := ⟨RX6, "image", "()I"⟩
abbrev cX6_restore : ByteArray := prog_8_method_69_code
def yX6_restore : MethodName := ⟨RX6, "restore", "()I"⟩
abbrev cX6_count : ByteArray := prog_8_method_70_code
def yX6_count : MethodName := ⟨RX6, "count", "(I)I"⟩
abbrev cX6_keep : ByteArray := prog_8_method_71_code
def yX6_keep : MethodName := ⟨RX6, "keep", "(III)I"⟩
abbrev cX6_row : ByteArray := prog_8_method_72_code
def yX6_row : MethodName := ⟨RX6, "row", "(III)I"⟩
abbrev cX6_put : ByteArray := prog_8_method_73_code
def yX6_put : MethodName := ⟨RX6, "put", "(III)I"⟩
abbrev cX6_element : ByteArray := prog_8_method_74_code
def yX6_element : MethodName := ⟨RX6, "element", "(II)J"⟩
abbrev cX6_copy : ByteArray := prog_8_method_75_code
def yX6_copy : MethodName := ⟨RX6, "copy", "(IIIII)I"⟩
abbrev cX6_wrongShelf : ByteArray := prog_8_method_76_code
def yX6_wrongShelf : MethodName := ⟨RX6, "wrongShelf", "(I)I"⟩
abbrev cX6_held : ByteArray := prog_8_method_77_code
def yX6_held : MethodName := ⟨RX6, "held", "(II)I"⟩
abbrev cX6_weight : ByteArray := prog_8_method_78_code
def yX6_weight : MethodName := ⟨RX6, "weight", "(I)I"⟩
abbrev cX6_toss : ByteArray := prog_8_method_79_code
def yX6_toss : MethodName := ⟨RX6, "toss", "(I)I"⟩
def RJ9 : String := "java/lang/Math"
def TJ9 : u_T := fun k => match k with
  | _ => ("", "", "", false)
def tyJ9 : Nat → FieldType := fun k => match k with
  | _ => .int
theorem nmJ9 : ∀ a, a < 0 → ∀ b, b < 0 → a ≠ b → (TJ9 a).2.1 ≠ (TJ9 b).2.1 := by decide +kernel
theorem tyJ9_ok : ∀ k, k < 0 → parseFieldDescriptor (TJ9 k).2.2.1 = some (tyJ9 k) := by decide +kernel
abbrev cJ9_floorDiv_7cf53 : ByteArray := prog_12_method_47_code
def yJ9_floorDiv_7cf53 : MethodName := ⟨RJ9, "floorDiv", "(II)I"⟩
abbrev cJ9_floorDiv_f86c9 : ByteArray := prog_12_method_49_code
def yJ9_floorDiv_f86c9 : MethodName := ⟨RJ9, "floorDiv", "(JJ)J"⟩
abbrev cJ9_floorMod_7cf53 : ByteArray := prog_12_method_50_code
def yJ9_floorMod_7cf53 : MethodName := ⟨RJ9, "floorMod", "(II)I"⟩
abbrev cJ9_floorMod_f86c9 : ByteArray := prog_12_method_52_code
def yJ9_floorMod_f86c9 : MethodName := ⟨RJ9, "floorMod", "(JJ)J"⟩
abbrev cJ9_min_7cf53 : ByteArray := prog_12_method_69_code
def yJ9_min_7cf53 : MethodName := ⟨RJ9, "min", "(II)I"⟩
def RJ0 : String := "java/lang/String"
def TJ0 : u_T := fun k => match k with
  | _ => ("", "", "", false)
def tyJ0 : Nat → FieldType := fun k => match k with
  | _ => .int
theorem nmJ0 : ∀ a, a < 0 → ∀ b, b < 0 → a ≠ b → (TJ0 a).2.1 ≠ (TJ0 b).2.1 := by decide +kernel
theorem tyJ0_ok : ∀ k, k < 0 → parseFieldDescriptor (TJ0 k).2.2.1 = some (tyJ0 k) := by decide +kernel
def RJ10 : String := "java/lang/System"
def TJ10 : u_T := fun k => match k with
  | _ => ("", "", "", false)
def tyJ10 : Nat → FieldType := fun k => match k with
  | _ => .int
theorem nmJ10 : ∀ a, a < 0 → ∀ b, b < 0 → a ≠ b → (TJ10 a).2.1 ≠ (TJ10 b).2.1 := by decide +kernel
theorem tyJ10_ok : ∀ k, k < 0 → parseFieldDescriptor (TJ10 k).2.2.1 = some (tyJ10 k) := by decide +kernel
def RL : String := "WhichDayLaw"
abbrev cL_element : ByteArray := method_3_code
def yL_element : MethodName := ⟨RL, "element", "(LWhichDay;II[J)I"⟩
abbrev cL_law : ByteArray := code
def yL_law : MethodName := ⟨RL, "law", "([I)Z"⟩
