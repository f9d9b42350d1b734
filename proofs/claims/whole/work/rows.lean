section
-- ===== PART A: goes FIRST, ahead of the names: the tables' words, and 'selects' of the private methods out of them =====
/-- a private method of a class that the tables say can be made, by its rows of tables_1 -/
def lw_okq (q : MethodName × Nat) : Prop := (q.1.cls ≠ "java/lang/invoke/MethodHandle" ∧ q.1.cls ≠ "java/lang/invoke/VarHandle") ∧ Cond.instantiable q.1.cls q.2 ∈ tables_1 ∧ Cond.privateMethod q.1 ∈ tables_1 ∧ Cond.instanceMethod q.1 ∈ tables_1
theorem lw_p0 : lw_okq (⟨"WhichDay", "shelfOf", "(I)LWhichDay$Shelf;"⟩, 6) := ⟨⟨by decide +kernel, by decide +kernel⟩, List.mem_of_getElem? (i := 17) (by decide +kernel), List.mem_of_getElem? (i := 200) (by decide +kernel), List.mem_of_getElem? (i := 201) (by decide +kernel)⟩
theorem lw_p1 : lw_okq (⟨"WhichDay", "readForm", "()I"⟩, 6) := ⟨⟨by decide +kernel, by decide +kernel⟩, List.mem_of_getElem? (i := 17) (by decide +kernel), List.mem_of_getElem? (i := 218) (by decide +kernel), List.mem_of_getElem? (i := 219) (by decide +kernel)⟩
theorem lw_p2 : lw_okq (⟨"WhichDay", "readSense", "(I)I"⟩, 6) := ⟨⟨by decide +kernel, by decide +kernel⟩, List.mem_of_getElem? (i := 17) (by decide +kernel), List.mem_of_getElem? (i := 261) (by decide +kernel), List.mem_of_getElem? (i := 262) (by decide +kernel)⟩
theorem lw_p3 : lw_okq (⟨"WhichDay", "makeAll", "(I)V"⟩, 6) := ⟨⟨by decide +kernel, by decide +kernel⟩, List.mem_of_getElem? (i := 17) (by decide +kernel), List.mem_of_getElem? (i := 272) (by decide +kernel), List.mem_of_getElem? (i := 273) (by decide +kernel)⟩
theorem lw_p4 : lw_okq (⟨"WhichDay", "dayTold", "(LWhichDay$Traveller;II)I"⟩, 6) := ⟨⟨by decide +kernel, by decide +kernel⟩, List.mem_of_getElem? (i := 17) (by decide +kernel), List.mem_of_getElem? (i := 462) (by decide +kernel), List.mem_of_getElem? (i := 463) (by decide +kernel)⟩
theorem lw_p5 : lw_okq (⟨"WhichDay", "nextChange", "(LWhichDay$Traveller;II)I"⟩, 6) := ⟨⟨by decide +kernel, by decide +kernel⟩, List.mem_of_getElem? (i := 17) (by decide +kernel), List.mem_of_getElem? (i := 510) (by decide +kernel), List.mem_of_getElem? (i := 511) (by decide +kernel)⟩
theorem lw_p6 : lw_okq (⟨"WhichDay", "evenTill", "(LWhichDay$Traveller;I)I"⟩, 6) := ⟨⟨by decide +kernel, by decide +kernel⟩, List.mem_of_getElem? (i := 17) (by decide +kernel), List.mem_of_getElem? (i := 514) (by decide +kernel), List.mem_of_getElem? (i := 515) (by decide +kernel)⟩
theorem lw_p7 : lw_okq (⟨"WhichDay", "roundsAt", "(LWhichDay$Traveller;I)I"⟩, 6) := ⟨⟨by decide +kernel, by decide +kernel⟩, List.mem_of_getElem? (i := 17) (by decide +kernel), List.mem_of_getElem? (i := 525) (by decide +kernel), List.mem_of_getElem? (i := 526) (by decide +kernel)⟩
theorem lw_p8 : lw_okq (⟨"WhichDay", "firstOther", "(LWhichDay$Traveller;III)I"⟩, 6) := ⟨⟨by decide +kernel, by decide +kernel⟩, List.mem_of_getElem? (i := 17) (by decide +kernel), List.mem_of_getElem? (i := 529) (by decide +kernel), List.mem_of_getElem? (i := 530) (by decide +kernel)⟩
theorem lw_p9 : lw_okq (⟨"WhichDay", "firstBroken", "(LWhichDay$Traveller;ILWhichDay$Shelf;I)I"⟩, 6) := ⟨⟨by decide +kernel, by decide +kernel⟩, List.mem_of_getElem? (i := 17) (by decide +kernel), List.mem_of_getElem? (i := 599) (by decide +kernel), List.mem_of_getElem? (i := 600) (by decide +kernel)⟩
theorem lw_p10 : lw_okq (⟨"WhichDay", "shiftOf", "(LWhichDay$Traveller;II)I"⟩, 6) := ⟨⟨by decide +kernel, by decide +kernel⟩, List.mem_of_getElem? (i := 17) (by decide +kernel), List.mem_of_getElem? (i := 620) (by decide +kernel), List.mem_of_getElem? (i := 621) (by decide +kernel)⟩
theorem lw_p11 : lw_okq (⟨"WhichDay", "leastPlan", "(LWhichDay$Traveller;LWhichDay$Shelf;I)I"⟩, 6) := ⟨⟨by decide +kernel, by decide +kernel⟩, List.mem_of_getElem? (i := 17) (by decide +kernel), List.mem_of_getElem? (i := 630) (by decide +kernel), List.mem_of_getElem? (i := 631) (by decide +kernel)⟩
theorem lw_p12 : lw_okq (⟨"java/lang/Throwable", "fillInStackTrace", "(I)Ljava/lang/Throwable;"⟩, 6) := ⟨⟨by decide +kernel, by decide +kernel⟩, List.mem_of_getElem? (i := 767) (by decide +kernel), List.mem_of_getElem? (i := 765) (by decide +kernel), List.mem_of_getElem? (i := 766) (by decide +kernel)⟩
theorem lw_p13 : lw_okq (⟨"WhichDayModel", "wrongRow", "(II)I"⟩, 23) := ⟨⟨by decide +kernel, by decide +kernel⟩, List.mem_of_getElem? (i := 838) (by decide +kernel), List.mem_of_getElem? (i := 923) (by decide +kernel), List.mem_of_getElem? (i := 924) (by decide +kernel)⟩
theorem lw_p14 : lw_okq (⟨"WhichDayModel", "readsStatement", "()Z"⟩, 23) := ⟨⟨by decide +kernel, by decide +kernel⟩, List.mem_of_getElem? (i := 838) (by decide +kernel), List.mem_of_getElem? (i := 934) (by decide +kernel), List.mem_of_getElem? (i := 935) (by decide +kernel)⟩
theorem lw_p15 : lw_okq (⟨"WhichDayModel", "here", "()I"⟩, 23) := ⟨⟨by decide +kernel, by decide +kernel⟩, List.mem_of_getElem? (i := 838) (by decide +kernel), List.mem_of_getElem? (i := 938) (by decide +kernel), List.mem_of_getElem? (i := 939) (by decide +kernel)⟩
def lw_privs_1 : List (MethodName × Nat) := [(⟨"WhichDay", "shelfOf", "(I)LWhichDay$Shelf;"⟩, 6), (⟨"WhichDay", "readForm", "()I"⟩, 6), (⟨"WhichDay", "readSense", "(I)I"⟩, 6), (⟨"WhichDay", "makeAll", "(I)V"⟩, 6), (⟨"WhichDay", "dayTold", "(LWhichDay$Traveller;II)I"⟩, 6), (⟨"WhichDay", "nextChange", "(LWhichDay$Traveller;II)I"⟩, 6), (⟨"WhichDay", "evenTill", "(LWhichDay$Traveller;I)I"⟩, 6), (⟨"WhichDay", "roundsAt", "(LWhichDay$Traveller;I)I"⟩, 6), (⟨"WhichDay", "firstOther", "(LWhichDay$Traveller;III)I"⟩, 6), (⟨"WhichDay", "firstBroken", "(LWhichDay$Traveller;ILWhichDay$Shelf;I)I"⟩, 6), (⟨"WhichDay", "shiftOf", "(LWhichDay$Traveller;II)I"⟩, 6), (⟨"WhichDay", "leastPlan", "(LWhichDay$Traveller;LWhichDay$Shelf;I)I"⟩, 6), (⟨"java/lang/Throwable", "fillInStackTrace", "(I)Ljava/lang/Throwable;"⟩, 6), (⟨"WhichDayModel", "wrongRow", "(II)I"⟩, 23), (⟨"WhichDayModel", "readsStatement", "()Z"⟩, 23), (⟨"WhichDayModel", "here", "()I"⟩, 23)]
theorem lw_r1 : ∀ q ∈ lw_privs_1, lw_okq q := List.forall_mem_cons.mpr ⟨lw_p0, List.forall_mem_cons.mpr ⟨lw_p1, List.forall_mem_cons.mpr ⟨lw_p2, List.forall_mem_cons.mpr ⟨lw_p3, List.forall_mem_cons.mpr ⟨lw_p4, List.forall_mem_cons.mpr ⟨lw_p5, List.forall_mem_cons.mpr ⟨lw_p6, List.forall_mem_cons.mpr ⟨lw_p7, List.forall_mem_cons.mpr ⟨lw_p8, List.forall_mem_cons.mpr ⟨lw_p9, List.forall_mem_cons.mpr ⟨lw_p10, List.forall_mem_cons.mpr ⟨lw_p11, List.forall_mem_cons.mpr ⟨lw_p12, List.forall_mem_cons.mpr ⟨lw_p13, List.forall_mem_cons.mpr ⟨lw_p14, List.forall_mem_cons.mpr ⟨lw_p15, fun _ h => absurd h List.not_mem_nil⟩⟩⟩⟩⟩⟩⟩⟩⟩⟩⟩⟩⟩⟩⟩⟩
theorem lw_p16 : lw_okq (⟨"WhichDayModel", "readsNumber", "()Z"⟩, 23) := ⟨⟨by decide +kernel, by decide +kernel⟩, List.mem_of_getElem? (i := 838) (by decide +kernel), List.mem_of_getElem? (i := 942) (by decide +kernel), List.mem_of_getElem? (i := 943) (by decide +kernel)⟩
theorem lw_p17 : lw_okq (⟨"WhichDayModel", "takes", "(I)Z"⟩, 23) := ⟨⟨by decide +kernel, by decide +kernel⟩, List.mem_of_getElem? (i := 838) (by decide +kernel), List.mem_of_getElem? (i := 948) (by decide +kernel), List.mem_of_getElem? (i := 949) (by decide +kernel)⟩
theorem lw_p18 : lw_okq (⟨"WhichDayModel", "comes", "(I)Z"⟩, 23) := ⟨⟨by decide +kernel, by decide +kernel⟩, List.mem_of_getElem? (i := 838) (by decide +kernel), List.mem_of_getElem? (i := 952) (by decide +kernel), List.mem_of_getElem? (i := 953) (by decide +kernel)⟩
theorem lw_p19 : lw_okq (⟨"WhichDayModel", "isPlace", "(I)Z"⟩, 23) := ⟨⟨by decide +kernel, by decide +kernel⟩, List.mem_of_getElem? (i := 838) (by decide +kernel), List.mem_of_getElem? (i := 960) (by decide +kernel), List.mem_of_getElem? (i := 961) (by decide +kernel)⟩
theorem lw_p20 : lw_okq (⟨"WhichDayModel", "get", "(II)I"⟩, 23) := ⟨⟨by decide +kernel, by decide +kernel⟩, List.mem_of_getElem? (i := 838) (by decide +kernel), List.mem_of_getElem? (i := 965) (by decide +kernel), List.mem_of_getElem? (i := 966) (by decide +kernel)⟩
theorem lw_p21 : lw_okq (⟨"WhichDayModel", "becomes", "(II)I"⟩, 23) := ⟨⟨by decide +kernel, by decide +kernel⟩, List.mem_of_getElem? (i := 838) (by decide +kernel), List.mem_of_getElem? (i := 979) (by decide +kernel), List.mem_of_getElem? (i := 980) (by decide +kernel)⟩
theorem lw_p22 : lw_okq (⟨"WhichDayModel", "dayIn", "(II)I"⟩, 23) := ⟨⟨by decide +kernel, by decide +kernel⟩, List.mem_of_getElem? (i := 838) (by decide +kernel), List.mem_of_getElem? (i := 996) (by decide +kernel), List.mem_of_getElem? (i := 997) (by decide +kernel)⟩
theorem lw_p23 : lw_okq (⟨"WhichDayModel", "eastOf", "(I)I"⟩, 23) := ⟨⟨by decide +kernel, by decide +kernel⟩, List.mem_of_getElem? (i := 838) (by decide +kernel), List.mem_of_getElem? (i := 1000) (by decide +kernel), List.mem_of_getElem? (i := 1001) (by decide +kernel)⟩
theorem lw_p24 : lw_okq (⟨"WhichDayModel", "isOne", "(I)Z"⟩, 23) := ⟨⟨by decide +kernel, by decide +kernel⟩, List.mem_of_getElem? (i := 838) (by decide +kernel), List.mem_of_getElem? (i := 1028) (by decide +kernel), List.mem_of_getElem? (i := 1029) (by decide +kernel)⟩
theorem lw_p25 : lw_okq (⟨"WhichDayModel", "tell", "(II)I"⟩, 23) := ⟨⟨by decide +kernel, by decide +kernel⟩, List.mem_of_getElem? (i := 838) (by decide +kernel), List.mem_of_getElem? (i := 1033) (by decide +kernel), List.mem_of_getElem? (i := 1034) (by decide +kernel)⟩
theorem lw_p26 : lw_okq (⟨"WhichDayModel", "endOf", "(II)I"⟩, 23) := ⟨⟨by decide +kernel, by decide +kernel⟩, List.mem_of_getElem? (i := 838) (by decide +kernel), List.mem_of_getElem? (i := 1037) (by decide +kernel), List.mem_of_getElem? (i := 1038) (by decide +kernel)⟩
theorem lw_p27 : lw_okq (⟨"WhichDayModel", "legOf", "(III)I"⟩, 23) := ⟨⟨by decide +kernel, by decide +kernel⟩, List.mem_of_getElem? (i := 838) (by decide +kernel), List.mem_of_getElem? (i := 1041) (by decide +kernel), List.mem_of_getElem? (i := 1042) (by decide +kernel)⟩
theorem lw_p28 : lw_okq (⟨"WhichDayModel", "findWhere", "(II)V"⟩, 23) := ⟨⟨by decide +kernel, by decide +kernel⟩, List.mem_of_getElem? (i := 838) (by decide +kernel), List.mem_of_getElem? (i := 1054) (by decide +kernel), List.mem_of_getElem? (i := 1055) (by decide +kernel)⟩
theorem lw_p29 : lw_okq (⟨"WhichDayModel", "dayNow", "(II)I"⟩, 23) := ⟨⟨by decide +kernel, by decide +kernel⟩, List.mem_of_getElem? (i := 838) (by decide +kernel), List.mem_of_getElem? (i := 1070) (by decide +kernel), List.mem_of_getElem? (i := 1071) (by decide +kernel)⟩
theorem lw_p30 : lw_okq (⟨"WhichDayModel", "dayAs", "(III)I"⟩, 23) := ⟨⟨by decide +kernel, by decide +kernel⟩, List.mem_of_getElem? (i := 838) (by decide +kernel), List.mem_of_getElem? (i := 1074) (by decide +kernel), List.mem_of_getElem? (i := 1075) (by decide +kernel)⟩
theorem lw_p31 : lw_okq (⟨"WhichDayModel", "seenDay", "(II)I"⟩, 23) := ⟨⟨by decide +kernel, by decide +kernel⟩, List.mem_of_getElem? (i := 838) (by decide +kernel), List.mem_of_getElem? (i := 1078) (by decide +kernel), List.mem_of_getElem? (i := 1079) (by decide +kernel)⟩
def lw_privs_2 : List (MethodName × Nat) := [(⟨"WhichDayModel", "readsNumber", "()Z"⟩, 23), (⟨"WhichDayModel", "takes", "(I)Z"⟩, 23), (⟨"WhichDayModel", "comes", "(I)Z"⟩, 23), (⟨"WhichDayModel", "isPlace", "(I)Z"⟩, 23), (⟨"WhichDayModel", "get", "(II)I"⟩, 23), (⟨"WhichDayModel", "becomes", "(II)I"⟩, 23), (⟨"WhichDayModel", "dayIn", "(II)I"⟩, 23), (⟨"WhichDayModel", "eastOf", "(I)I"⟩, 23), (⟨"WhichDayModel", "isOne", "(I)Z"⟩, 23), (⟨"WhichDayModel", "tell", "(II)I"⟩, 23), (⟨"WhichDayModel", "endOf", "(II)I"⟩, 23), (⟨"WhichDayModel", "legOf", "(III)I"⟩, 23), (⟨"WhichDayModel", "findWhere", "(II)V"⟩, 23), (⟨"WhichDayModel", "dayNow", "(II)I"⟩, 23), (⟨"WhichDayModel", "dayAs", "(III)I"⟩, 23), (⟨"WhichDayModel", "seenDay", "(II)I"⟩, 23)]
theorem lw_r2 : ∀ q ∈ lw_privs_2, lw_okq q := List.forall_mem_cons.mpr ⟨lw_p16, List.forall_mem_cons.mpr ⟨lw_p17, List.forall_mem_cons.mpr ⟨lw_p18, List.forall_mem_cons.mpr ⟨lw_p19, List.forall_mem_cons.mpr ⟨lw_p20, List.forall_mem_cons.mpr ⟨lw_p21, List.forall_mem_cons.mpr ⟨lw_p22, List.forall_mem_cons.mpr ⟨lw_p23, List.forall_mem_cons.mpr ⟨lw_p24, List.forall_mem_cons.mpr ⟨lw_p25, List.forall_mem_cons.mpr ⟨lw_p26, List.forall_mem_cons.mpr ⟨lw_p27, List.forall_mem_cons.mpr ⟨lw_p28, List.forall_mem_cons.mpr ⟨lw_p29, List.forall_mem_cons.mpr ⟨lw_p30, List.forall_mem_cons.mpr ⟨lw_p31, fun _ h => absurd h List.not_mem_nil⟩⟩⟩⟩⟩⟩⟩⟩⟩⟩⟩⟩⟩⟩⟩⟩
theorem lw_p32 : lw_okq (⟨"WhichDayModel", "eastNow", "(IZ)J"⟩, 23) := ⟨⟨by decide +kernel, by decide +kernel⟩, List.mem_of_getElem? (i := 838) (by decide +kernel), List.mem_of_getElem? (i := 1082) (by decide +kernel), List.mem_of_getElem? (i := 1083) (by decide +kernel)⟩
theorem lw_p33 : lw_okq (⟨"WhichDayModel", "hereDay", "(II)I"⟩, 23) := ⟨⟨by decide +kernel, by decide +kernel⟩, List.mem_of_getElem? (i := 838) (by decide +kernel), List.mem_of_getElem? (i := 1086) (by decide +kernel), List.mem_of_getElem? (i := 1087) (by decide +kernel)⟩
theorem lw_p34 : lw_okq (⟨"WhichDayModel", "changesTo", "(II)I"⟩, 23) := ⟨⟨by decide +kernel, by decide +kernel⟩, List.mem_of_getElem? (i := 838) (by decide +kernel), List.mem_of_getElem? (i := 1090) (by decide +kernel), List.mem_of_getElem? (i := 1091) (by decide +kernel)⟩
theorem lw_p35 : lw_okq (⟨"WhichDayModel", "roundsNow", "(I)I"⟩, 23) := ⟨⟨by decide +kernel, by decide +kernel⟩, List.mem_of_getElem? (i := 838) (by decide +kernel), List.mem_of_getElem? (i := 1094) (by decide +kernel), List.mem_of_getElem? (i := 1095) (by decide +kernel)⟩
theorem lw_p36 : lw_okq (⟨"WhichDayModel", "beginsOf", "(II)I"⟩, 23) := ⟨⟨by decide +kernel, by decide +kernel⟩, List.mem_of_getElem? (i := 838) (by decide +kernel), List.mem_of_getElem? (i := 1113) (by decide +kernel), List.mem_of_getElem? (i := 1114) (by decide +kernel)⟩
theorem lw_p37 : lw_okq (⟨"WhichDayModel", "wrongBy", "(II)I"⟩, 23) := ⟨⟨by decide +kernel, by decide +kernel⟩, List.mem_of_getElem? (i := 838) (by decide +kernel), List.mem_of_getElem? (i := 1146) (by decide +kernel), List.mem_of_getElem? (i := 1147) (by decide +kernel)⟩
theorem lw_p38 : lw_okq (⟨"WhichDayModel", "leastOf", "(I)I"⟩, 23) := ⟨⟨by decide +kernel, by decide +kernel⟩, List.mem_of_getElem? (i := 838) (by decide +kernel), List.mem_of_getElem? (i := 1163) (by decide +kernel), List.mem_of_getElem? (i := 1164) (by decide +kernel)⟩
theorem lw_p39 : lw_okq (⟨"WhichDayModel", "wrongKept", "(III)I"⟩, 23) := ⟨⟨by decide +kernel, by decide +kernel⟩, List.mem_of_getElem? (i := 838) (by decide +kernel), List.mem_of_getElem? (i := 1172) (by decide +kernel), List.mem_of_getElem? (i := 1173) (by decide +kernel)⟩
theorem lw_p40 : lw_okq (⟨"WhichDayModel", "keptOf", "(III)I"⟩, 23) := ⟨⟨by decide +kernel, by decide +kernel⟩, List.mem_of_getElem? (i := 838) (by decide +kernel), List.mem_of_getElem? (i := 1177) (by decide +kernel), List.mem_of_getElem? (i := 1178) (by decide +kernel)⟩
theorem lw_p41 : lw_okq (⟨"WhichDayModel", "wrongShelf", "(I)I"⟩, 23) := ⟨⟨by decide +kernel, by decide +kernel⟩, List.mem_of_getElem? (i := 838) (by decide +kernel), List.mem_of_getElem? (i := 1231) (by decide +kernel), List.mem_of_getElem? (i := 1232) (by decide +kernel)⟩
theorem lw_p42 : lw_okq (⟨"WhichDayModel", "held", "(II)I"⟩, 23) := ⟨⟨by decide +kernel, by decide +kernel⟩, List.mem_of_getElem? (i := 838) (by decide +kernel), List.mem_of_getElem? (i := 1235) (by decide +kernel), List.mem_of_getElem? (i := 1236) (by decide +kernel)⟩
def lw_privs_3 : List (MethodName × Nat) := [(⟨"WhichDayModel", "eastNow", "(IZ)J"⟩, 23), (⟨"WhichDayModel", "hereDay", "(II)I"⟩, 23), (⟨"WhichDayModel", "changesTo", "(II)I"⟩, 23), (⟨"WhichDayModel", "roundsNow", "(I)I"⟩, 23), (⟨"WhichDayModel", "beginsOf", "(II)I"⟩, 23), (⟨"WhichDayModel", "wrongBy", "(II)I"⟩, 23), (⟨"WhichDayModel", "leastOf", "(I)I"⟩, 23), (⟨"WhichDayModel", "wrongKept", "(III)I"⟩, 23), (⟨"WhichDayModel", "keptOf", "(III)I"⟩, 23), (⟨"WhichDayModel", "wrongShelf", "(I)I"⟩, 23), (⟨"WhichDayModel", "held", "(II)I"⟩, 23)]
theorem lw_r3 : ∀ q ∈ lw_privs_3, lw_okq q := List.forall_mem_cons.mpr ⟨lw_p32, List.forall_mem_cons.mpr ⟨lw_p33, List.forall_mem_cons.mpr ⟨lw_p34, List.forall_mem_cons.mpr ⟨lw_p35, List.forall_mem_cons.mpr ⟨lw_p36, List.forall_mem_cons.mpr ⟨lw_p37, List.forall_mem_cons.mpr ⟨lw_p38, List.forall_mem_cons.mpr ⟨lw_p39, List.forall_mem_cons.mpr ⟨lw_p40, List.forall_mem_cons.mpr ⟨lw_p41, List.forall_mem_cons.mpr ⟨lw_p42, fun _ h => absurd h List.not_mem_nil⟩⟩⟩⟩⟩⟩⟩⟩⟩⟩⟩
def lw_privs : List (MethodName × Nat) := lw_privs_1 ++ (lw_privs_2 ++ (lw_privs_3))
def lw_tbl : List Cond := k2_sels lw_privs ++ tables_1
theorem lw_privs_ok : ∀ q ∈ lw_privs, lw_okq q := by
  show ∀ q ∈ lw_privs_1 ++ (lw_privs_2 ++ (lw_privs_3)), lw_okq q
  exact List.forall_mem_append.mpr ⟨lw_r1, List.forall_mem_append.mpr ⟨lw_r2, lw_r3⟩⟩
-- ===== end of PART A; then your names; then what follows =====
def RX0 : String := "WhichDay$Reader"
def TX0 : u_T := fun k => match k with
  | 0 => ("WhichDay$Reader", "text", "LWhichDay$Shelf;", false)
  | 1 => ("WhichDay$Reader", "at", "I", false)
  | 2 => ("WhichDay$Reader", "letter", "I", false)
  | 3 => ("WhichDay$Reader", "letterAt", "I", false)
  | 4 => ("WhichDay$Reader", "first", "I", false)
  | 5 => ("WhichDay$Reader", "second", "I", false)
  | 6 => ("WhichDay$Reader", "third", "I", false)
  | 7 => ("WhichDay$Reader", "choice", "I", false)
  | _ => ("WhichDay$Reader", "number", "I", false)
def tyX0 : Nat → FieldType := fun k => match k with
  | 0 => .object "WhichDay$Shelf"
  | 1 => .int
  | 2 => .int
  | 3 => .int
  | 4 => .int
  | 5 => .int
  | 6 => .int
  | 7 => .int
  | _ => .int
theorem nmX0 : ∀ a, a < 9 → ∀ b, b < 9 → a ≠ b → (TX0 a).2.1 ≠ (TX0 b).2.1 := by decide +kernel
theorem tyX0_ok : ∀ k, k < 9 → parseFieldDescriptor (TX0 k).2.2.1 = some (tyX0 k) := by decide +kernel
abbrev cX0_init : ByteArray := prog_2_method_1_code
def yX0_init : MethodName := ⟨RX0, "<init>", "()V"⟩
abbrev cX0_open : ByteArray := prog_2_method_2_code
def yX0_open : MethodName := ⟨RX0, "open", "(LWhichDay$Shelf;)V"⟩
abbrev cX0_rewind : ByteArray := prog_2_method_3_code
def yX0_rewind : MethodName := ⟨RX0, "rewind", "()V"⟩
abbrev cX0_isAtEnd : ByteArray := prog_2_method_4_code
def yX0_isAtEnd : MethodName := ⟨RX0, "isAtEnd", "()Z"⟩
abbrev cX0_next : ByteArray := prog_2_method_5_code
def yX0_next : MethodName := ⟨RX0, "next", "()I"⟩
abbrev cX0_readStatement : ByteArray := prog_2_method_6_code
def yX0_readStatement : MethodName := ⟨RX0, "readStatement", "()Z"⟩
abbrev cX0_readTwoMore : ByteArray := prog_2_method_7_code
def yX0_readTwoMore : MethodName := ⟨RX0, "readTwoMore", "()Z"⟩
abbrev cX0_readChoice : ByteArray := prog_2_method_8_code
def yX0_readChoice : MethodName := ⟨RX0, "readChoice", "()V"⟩
abbrev cX0_readNumber : ByteArray := prog_2_method_9_code
def yX0_readNumber : MethodName := ⟨RX0, "readNumber", "()Z"⟩
abbrev cX0_pass : ByteArray := prog_2_method_10_code
def yX0_pass : MethodName := ⟨RX0, "pass", "(I)Z"⟩
abbrev cX0_isDigit : ByteArray := prog_2_method_11_code
def yX0_isDigit : MethodName := ⟨RX0, "isDigit", "(I)Z"⟩
abbrev cX0_makesSense : ByteArray := prog_2_method_12_code
def yX0_makesSense : MethodName := ⟨RX0, "makesSense", "(I)Z"⟩
def RX1 : String := "WhichDay$Shelf"
def TX1 : u_T := fun k => match k with
  | 0 => ("WhichDay$Shelf", "who", "LWhichDay$Traveller;", false)
  | 1 => ("WhichDay$Shelf", "hasRow", "Z", false)
  | 2 => ("WhichDay$Shelf", "sort", "I", false)
  | 3 => ("WhichDay$Shelf", "size", "I", false)
  | _ => ("WhichDay$Shelf", "elements", "[I", true)
def tyX1 : Nat → FieldType := fun k => match k with
  | 0 => .object "WhichDay$Traveller"
  | 1 => .boolean
  | 2 => .int
  | 3 => .int
  | _ => .array .int
theorem nmX1 : ∀ a, a < 5 → ∀ b, b < 5 → a ≠ b → (TX1 a).2.1 ≠ (TX1 b).2.1 := by decide +kernel
theorem tyX1_ok : ∀ k, k < 5 → parseFieldDescriptor (TX1 k).2.2.1 = some (tyX1 k) := by decide +kernel
abbrev cX1_init : ByteArray := prog_3_method_1_code
def yX1_init : MethodName := ⟨RX1, "<init>", "()V"⟩
abbrev cX1_isEmpty : ByteArray := prog_3_method_2_code
def yX1_isEmpty : MethodName := ⟨RX1, "isEmpty", "()Z"⟩
abbrev cX1_hold : ByteArray := prog_3_method_3_code
def yX1_hold : MethodName := ⟨RX1, "hold", "(LWhichDay$Traveller;)V"⟩
abbrev cX1_holdRow : ByteArray := prog_3_method_4_code
def yX1_holdRow : MethodName := ⟨RX1, "holdRow", "(II)V"⟩
abbrev cX1_hasElement : ByteArray := prog_3_method_5_code
def yX1_hasElement : MethodName := ⟨RX1, "hasElement", "(I)Z"⟩
abbrev cX1_hasSpan : ByteArray := prog_3_method_6_code
def yX1_hasSpan : MethodName := ⟨RX1, "hasSpan", "(II)Z"⟩
abbrev cX1_lowestBits : ByteArray := prog_3_method_7_code
def yX1_lowestBits : MethodName := ⟨RX1, "lowestBits", "(I)I"⟩
abbrev cX1_leastNumber : ByteArray := prog_3_method_8_code
def yX1_leastNumber : MethodName := ⟨RX1, "leastNumber", "()I"⟩
abbrev cX1_tellsPair : ByteArray := prog_3_method_9_code
def yX1_tellsPair : MethodName := ⟨RX1, "tellsPair", "(I)Z"⟩
def RX2 : String := "WhichDay$Spot"
def TX2 : u_T := fun k => match k with
  | 0 => ("WhichDay$Spot", "place", "I", false)
  | 1 => ("WhichDay$Spot", "leg", "I", false)
  | 2 => ("WhichDay$Spot", "came", "I", false)
  | 3 => ("WhichDay$Spot", "gone", "J", false)
  | 4 => ("WhichDay$Spot", "east", "J", false)
  | _ => ("WhichDay$Spot", "below", "J", false)
def tyX2 : Nat → FieldType := fun k => match k with
  | 0 => .int
  | 1 => .int
  | 2 => .int
  | 3 => .long
  | 4 => .long
  | _ => .long
theorem nmX2 : ∀ a, a < 6 → ∀ b, b < 6 → a ≠ b → (TX2 a).2.1 ≠ (TX2 b).2.1 := by decide +kernel
theorem tyX2_ok : ∀ k, k < 6 → parseFieldDescriptor (TX2 k).2.2.1 = some (tyX2 k) := by decide +kernel
abbrev cX2_init : ByteArray := prog_4_method_1_code
def yX2_init : MethodName := ⟨RX2, "<init>", "()V"⟩
abbrev cX2_setIn : ByteArray := prog_4_method_2_code
def yX2_setIn : MethodName := ⟨RX2, "setIn", "(I)V"⟩
abbrev cX2_setUnderWay : ByteArray := prog_4_method_3_code
def yX2_setUnderWay : MethodName := ⟨RX2, "setUnderWay", "(II)V"⟩
abbrev cX2_isUnderWay : ByteArray := prog_4_method_4_code
def yX2_isUnderWay : MethodName := ⟨RX2, "isUnderWay", "()Z"⟩
abbrev cX2_roundsDone : ByteArray := prog_4_method_5_code
def yX2_roundsDone : MethodName := ⟨RX2, "roundsDone", "()I"⟩
abbrev cX2_dayByMidnight : ByteArray := prog_4_method_6_code
def yX2_dayByMidnight : MethodName := ⟨RX2, "dayByMidnight", "(I)I"⟩
abbrev cX2_daysSeen : ByteArray := prog_4_method_7_code
def yX2_daysSeen : MethodName := ⟨RX2, "daysSeen", "(I)I"⟩
abbrev cX2_daysGone : ByteArray := prog_4_method_8_code
def yX2_daysGone : MethodName := ⟨RX2, "daysGone", "(I)I"⟩
def RX3 : String := "WhichDay$Traveller"
def TX3 : u_T := fun k => match k with
  | 0 => ("WhichDay$Traveller", "number", "I", false)
  | 1 => ("WhichDay$Traveller", "kind", "I", false)
  | 2 => ("WhichDay$Traveller", "home", "I", false)
  | 3 => ("WhichDay$Traveller", "stay", "I", false)
  | 4 => ("WhichDay$Traveller", "legs", "I", false)
  | 5 => ("WhichDay$Traveller", "eastward", "I", false)
  | 6 => ("WhichDay$Traveller", "to", "[I", true)
  | 7 => ("WhichDay$Traveller", "from", "[I", true)
  | 8 => ("WhichDay$Traveller", "end", "[I", true)
  | 9 => ("WhichDay$Traveller", "changes", "I", false)
  | 10 => ("WhichDay$Traveller", "changeAt", "[I", true)
  | _ => ("WhichDay$Traveller", "changeBy", "[I", true)
def tyX3 : Nat → FieldType := fun k => match k with
  | 0 => .int
  | 1 => .int
  | 2 => .int
  | 3 => .int
  | 4 => .int
  | 5 => .int
  | 6 => .array .int
  | 7 => .array .int
  | 8 => .array .int
  | 9 => .int
  | 10 => .array .int
  | _ => .array .int
theorem nmX3 : ∀ a, a < 12 → ∀ b, b < 12 → a ≠ b → (TX3 a).2.1 ≠ (TX3 b).2.1 := by decide +kernel
theorem tyX3_ok : ∀ k, k < 12 → parseFieldDescriptor (TX3 k).2.2.1 = some (tyX3 k) := by decide +kernel
abbrev cX3_init : ByteArray := prog_5_method_1_code
def yX3_init : MethodName := ⟨RX3, "<init>", "()V"⟩
abbrev cX3_lastEnd : ByteArray := prog_5_method_2_code
def yX3_lastEnd : MethodName := ⟨RX3, "lastEnd", "()I"⟩
abbrev cX3_addLeg : ByteArray := prog_5_method_3_code
def yX3_addLeg : MethodName := ⟨RX3, "addLeg", "(IZII)V"⟩
abbrev cX3_changedTill : ByteArray := prog_5_method_4_code
def yX3_changedTill : MethodName := ⟨RX3, "changedTill", "(I)I"⟩
abbrev cX3_isSettled : ByteArray := prog_5_method_5_code
def yX3_isSettled : MethodName := ⟨RX3, "isSettled", "(LWhichDay$Spot;I)Z"⟩
abbrev cX3_nextEvent : ByteArray := prog_5_method_6_code
def yX3_nextEvent : MethodName := ⟨RX3, "nextEvent", "(I)I"⟩
abbrev cX3_nearer : ByteArray := prog_5_method_7_code
def yX3_nearer : MethodName := ⟨RX3, "nearer", "(III)I"⟩
abbrev cX3_weightBy : ByteArray := prog_5_method_8_code
def yX3_weightBy : MethodName := ⟨RX3, "weightBy", "(I)I"⟩
abbrev cX3_take : ByteArray := prog_5_method_9_code
def yX3_take : MethodName := ⟨RX3, "take", "(LWhichDay$Traveller;)V"⟩
def RX4 : String := "WhichDay$World"
def TX4 : u_T := fun k => match k with
  | 0 => ("WhichDay$World", "places", "I", false)
  | 1 => ("WhichDay$World", "travellers", "I", false)
  | 2 => ("WhichDay$World", "lineAt", "I", false)
  | 3 => ("WhichDay$World", "degrees", "[I", true)
  | 4 => ("WhichDay$World", "rules", "[I", true)
  | 5 => ("WhichDay$World", "choices", "[I", true)
  | 6 => ("WhichDay$World", "people", "[I", true)
  | 7 => ("WhichDay$World", "trades", "[I", true)
  | _ => ("WhichDay$World", "crowd", "[LWhichDay$Traveller;", true)
def tyX4 : Nat → FieldType := fun k => match k with
  | 0 => .int
  | 1 => .int
  | 2 => .int
  | 3 => .array .int
  | 4 => .array .int
  | 5 => .array .int
  | 6 => .array .int
  | 7 => .array .int
  | _ => .array (.object "WhichDay$Traveller")
theorem nmX4 : ∀ a, a < 9 → ∀ b, b < 9 → a ≠ b → (TX4 a).2.1 ≠ (TX4 b).2.1 := by decide +kernel
theorem tyX4_ok : ∀ k, k < 9 → parseFieldDescriptor (TX4 k).2.2.1 = some (tyX4 k) := by decide +kernel
abbrev cX4_init : ByteArray := prog_6_method_1_code
def yX4_init : MethodName := ⟨RX4, "<init>", "()V"⟩
abbrev cX4_hasPlace : ByteArray := prog_6_method_2_code
def yX4_hasPlace : MethodName := ⟨RX4, "hasPlace", "(I)Z"⟩
abbrev cX4_travellerOf : ByteArray := prog_6_method_3_code
def yX4_travellerOf : MethodName := ⟨RX4, "travellerOf", "(I)LWhichDay$Traveller;"⟩
abbrev cX4_degreeOf : ByteArray := prog_6_method_4_code
def yX4_degreeOf : MethodName := ⟨RX4, "degreeOf", "(I)I"⟩
abbrev cX4_addPlace : ByteArray := prog_6_method_5_code
def yX4_addPlace : MethodName := ⟨RX4, "addPlace", "(IIII)V"⟩
abbrev cX4_setTrade : ByteArray := prog_6_method_6_code
def yX4_setTrade : MethodName := ⟨RX4, "setTrade", "(III)V"⟩
abbrev cX4_sunMinutes : ByteArray := prog_6_method_7_code
def yX4_sunMinutes : MethodName := ⟨RX4, "sunMinutes", "(III)I"⟩
abbrev cX4_dayIn : ByteArray := prog_6_method_8_code
def yX4_dayIn : MethodName := ⟨RX4, "dayIn", "(III)I"⟩
abbrev cX4_wrongWith : ByteArray := prog_6_method_9_code
def yX4_wrongWith : MethodName := ⟨RX4, "wrongWith", "(II)I"⟩
abbrev cX4_locate : ByteArray := prog_6_method_10_code
def yX4_locate : MethodName := ⟨RX4, "locate", "(LWhichDay$Traveller;IILWhichDay$Spot;)V"⟩
abbrev cX4_degreesOf : ByteArray := prog_6_method_11_code
def yX4_degreesOf : MethodName := ⟨RX4, "degreesOf", "(IIZ)I"⟩
abbrev cX4_allLegs : ByteArray := prog_6_method_12_code
def yX4_allLegs : MethodName := ⟨RX4, "allLegs", "()I"⟩
abbrev cX4_allPeople : ByteArray := prog_6_method_13_code
def yX4_allPeople : MethodName := ⟨RX4, "allPeople", "()I"⟩
abbrev cX4_tradingPairs : ByteArray := prog_6_method_14_code
def yX4_tradingPairs : MethodName := ⟨RX4, "tradingPairs", "()I"⟩
abbrev cX4_takeWorld : ByteArray := prog_6_method_15_code
def yX4_takeWorld : MethodName := ⟨RX4, "takeWorld", "(LWhichDay$World;)V"⟩
abbrev cX4_takeTravellers : ByteArray := prog_6_method_16_code
def yX4_takeTravellers : MethodName := ⟨RX4, "takeTravellers", "(LWhichDay$World;Z)V"⟩
def RX5 : String := "WhichDay"
def TX5 : u_T := fun k => match k with
  | 0 => ("WhichDay", "now", "LWhichDay$World;", true)
  | 1 => ("WhichDay", "then", "LWhichDay$World;", true)
  | 2 => ("WhichDay", "imageTaken", "Z", false)
  | 3 => ("WhichDay", "shelves", "[LWhichDay$Shelf;", true)
  | 4 => ("WhichDay", "spot", "LWhichDay$Spot;", true)
  | _ => ("WhichDay", "reader", "LWhichDay$Reader;", true)
def tyX5 : Nat → FieldType := fun k => match k with
  | 0 => .object "WhichDay$World"
  | 1 => .object "WhichDay$World"
  | 2 => .boolean
  | 3 => .array (.object "WhichDay$Shelf")
  | 4 => .object "WhichDay$Spot"
  | _ => .object "WhichDay$Reader"
theorem nmX5 : ∀ a, a < 6 → ∀ b, b < 6 → a ≠ b → (TX5 a).2.1 ≠ (TX5 b).2.1 := by decide +kernel
theorem tyX5_ok : ∀ k, k < 6 → parseFieldDescriptor (TX5 k).2.2.1 = some (tyX5 k) := by decide +kernel
abbrev cX5_init : ByteArray := prog_1_method_1_code
def yX5_init : MethodName := ⟨RX5, "<init>", "()V"⟩
abbrev cX5_world : ByteArray := prog_1_method_2_code
def yX5_world : MethodName := ⟨RX5, "world", "(I)I"⟩
abbrev cX5_place : ByteArray := prog_1_method_3_code
def yX5_place : MethodName := ⟨RX5, "place", "(II)I"⟩
abbrev cX5_trade : ByteArray := prog_1_method_4_code
def yX5_trade : MethodName := ⟨RX5, "trade", "(II)I"⟩
abbrev cX5_choose : ByteArray := prog_1_method_5_code
def yX5_choose : MethodName := ⟨RX5, "choose", "(II)I"⟩
abbrev cX5_line : ByteArray := prog_1_method_6_code
def yX5_line : MethodName := ⟨RX5, "line", "(I)I"⟩
abbrev cX5_dayOf : ByteArray := prog_1_method_7_code
def yX5_dayOf : MethodName := ⟨RX5, "dayOf", "(II)I"⟩
abbrev cX5_hourOf : ByteArray := prog_1_method_8_code
def yX5_hourOf : MethodName := ⟨RX5, "hourOf", "(II)I"⟩
abbrev cX5_traveller : ByteArray := prog_1_method_9_code
def yX5_traveller : MethodName := ⟨RX5, "traveller", "(III)I"⟩
abbrev cX5_leg : ByteArray := prog_1_method_10_code
def yX5_leg : MethodName := ⟨RX5, "leg", "(IIZII)I"⟩
abbrev cX5_captain : ByteArray := prog_1_method_11_code
def yX5_captain : MethodName := ⟨RX5, "captain", "(III)I"⟩
abbrev cX5_where : ByteArray := prog_1_method_12_code
def yX5_where : MethodName := ⟨RX5, "where", "(III)J"⟩
abbrev cX5_in : ByteArray := prog_1_method_13_code
def yX5_in : MethodName := ⟨RX5, "in", "(II)I"⟩
abbrev cX5_day : ByteArray := prog_1_method_14_code
def yX5_day : MethodName := ⟨RX5, "day", "(II)I"⟩
abbrev cX5_dayBy : ByteArray := prog_1_method_15_code
def yX5_dayBy : MethodName := ⟨RX5, "dayBy", "(III)I"⟩
abbrev cX5_gain : ByteArray := prog_1_method_16_code
def yX5_gain : MethodName := ⟨RX5, "gain", "(III)I"⟩
abbrev cX5_begins : ByteArray := prog_1_method_17_code
def yX5_begins : MethodName := ⟨RX5, "begins", "(II)I"⟩
abbrev cX5_longDay : ByteArray := prog_1_method_18_code
def yX5_longDay : MethodName := ⟨RX5, "longDay", "(II)I"⟩
abbrev cX5_often : ByteArray := prog_1_method_19_code
def yX5_often : MethodName := ⟨RX5, "often", "(III)I"⟩
abbrev cX5_duty : ByteArray := prog_1_method_20_code
def yX5_duty : MethodName := ⟨RX5, "duty", "(III)I"⟩
abbrev cX5_differ : ByteArray := prog_1_method_21_code
def yX5_differ : MethodName := ⟨RX5, "differ", "(III)I"⟩
abbrev cX5_agree : ByteArray := prog_1_method_22_code
def yX5_agree : MethodName := ⟨RX5, "agree", "(III)I"⟩
abbrev cX5_part : ByteArray := prog_1_method_23_code
def yX5_part : MethodName := ⟨RX5, "part", "(IIII)I"⟩
abbrev cX5_wrong : ByteArray := prog_1_method_24_code
def yX5_wrong : MethodName := ⟨RX5, "wrong", "(II)I"⟩
abbrev cX5_bestLine : ByteArray := prog_1_method_25_code
def yX5_bestLine : MethodName := ⟨RX5, "bestLine", "(II)I"⟩
abbrev cX5_moved : ByteArray := prog_1_method_26_code
def yX5_moved : MethodName := ⟨RX5, "moved", "(II)I"⟩
abbrev cX5_judge : ByteArray := prog_1_method_27_code
def yX5_judge : MethodName := ⟨RX5, "judge", "(IIII)I"⟩
abbrev cX5_kept : ByteArray := prog_1_method_28_code
def yX5_kept : MethodName := ⟨RX5, "kept", "(III)I"⟩
abbrev cX5_rounds : ByteArray := prog_1_method_29_code
def yX5_rounds : MethodName := ⟨RX5, "rounds", "(II)I"⟩
abbrev cX5_log : ByteArray := prog_1_method_30_code
def yX5_log : MethodName := ⟨RX5, "log", "(II)I"⟩
abbrev cX5_plan : ByteArray := prog_1_method_31_code
def yX5_plan : MethodName := ⟨RX5, "plan", "(III)I"⟩
abbrev cX5_image : ByteArray := prog_1_method_32_code
def yX5_image : MethodName := ⟨RX5, "image", "()I"⟩
abbrev cX5_restore : ByteArray := prog_1_method_33_code
def yX5_restore : MethodName := ⟨RX5, "restore", "()I"⟩
abbrev cX5_count : ByteArray := prog_1_method_34_code
def yX5_count : MethodName := ⟨RX5, "count", "(I)I"⟩
abbrev cX5_keep : ByteArray := prog_1_method_35_code
def yX5_keep : MethodName := ⟨RX5, "keep", "(III)I"⟩
abbrev cX5_row : ByteArray := prog_1_method_36_code
def yX5_row : MethodName := ⟨RX5, "row", "(III)I"⟩
abbrev cX5_put : ByteArray := prog_1_method_37_code
def yX5_put : MethodName := ⟨RX5, "put", "(III)I"⟩
abbrev cX5_element : ByteArray := prog_1_method_38_code
def yX5_element : MethodName := ⟨RX5, "element", "(II)J"⟩
abbrev cX5_copy : ByteArray := prog_1_method_39_code
def yX5_copy : MethodName := ⟨RX5, "copy", "(IIIII)I"⟩
abbrev cX5_weight : ByteArray := prog_1_method_40_code
def yX5_weight : MethodName := ⟨RX5, "weight", "(I)I"⟩
abbrev cX5_toss : ByteArray := prog_1_method_41_code
def yX5_toss : MethodName := ⟨RX5, "toss", "(I)I"⟩
abbrev cX5_isMinute : ByteArray := prog_1_method_42_code
def yX5_isMinute : MethodName := ⟨RX5, "isMinute", "(I)Z"⟩
abbrev cX5_isDegree : ByteArray := prog_1_method_43_code
def yX5_isDegree : MethodName := ⟨RX5, "isDegree", "(I)Z"⟩
abbrev cX5_isKind : ByteArray := prog_1_method_44_code
def yX5_isKind : MethodName := ⟨RX5, "isKind", "(I)Z"⟩
abbrev cX5_isRestDay : ByteArray := prog_1_method_45_code
def yX5_isRestDay : MethodName := ⟨RX5, "isRestDay", "(I)Z"⟩
abbrev cX5_minuteOrNone : ByteArray := prog_1_method_46_code
def yX5_minuteOrNone : MethodName := ⟨RX5, "minuteOrNone", "(I)I"⟩
abbrev cX5_commonDivisor : ByteArray := prog_1_method_47_code
def yX5_commonDivisor : MethodName := ⟨RX5, "commonDivisor", "(JJ)J"⟩
abbrev cX5_shelfOf : ByteArray := prog_1_method_48_code
def yX5_shelfOf : MethodName := ⟨RX5, "shelfOf", "(I)LWhichDay$Shelf;"⟩
abbrev cX5_refusalOfRow : ByteArray := prog_1_method_49_code
def yX5_refusalOfRow : MethodName := ⟨RX5, "refusalOfRow", "(LWhichDay$Shelf;)I"⟩
abbrev cX5_refusalOfSort : ByteArray := prog_1_method_50_code
def yX5_refusalOfSort : MethodName := ⟨RX5, "refusalOfSort", "(LWhichDay$Shelf;I)I"⟩
abbrev cX5_refusalOfTraveller : ByteArray := prog_1_method_51_code
def yX5_refusalOfTraveller : MethodName := ⟨RX5, "refusalOfTraveller", "(LWhichDay$Shelf;)I"⟩
abbrev cX5_refusalOfDuties : ByteArray := prog_1_method_52_code
def yX5_refusalOfDuties : MethodName := ⟨RX5, "refusalOfDuties", "(LWhichDay$Shelf;)I"⟩
abbrev cX5_isLog : ByteArray := prog_1_method_53_code
def yX5_isLog : MethodName := ⟨RX5, "isLog", "(LWhichDay$Shelf;)Z"⟩
abbrev cX5_shiftOf : ByteArray := prog_1_method_54_code
def yX5_shiftOf : MethodName := ⟨RX5, "shiftOf", "(LWhichDay$Traveller;II)I"⟩
abbrev cX5_throwFailure : ByteArray := prog_1_method_55_code
def yX5_throwFailure : MethodName := ⟨RX5, "throwFailure", "(LWhichDay$Traveller;)V"⟩
abbrev cX5_readForm : ByteArray := prog_1_method_56_code
def yX5_readForm : MethodName := ⟨RX5, "readForm", "()I"⟩
abbrev cX5_readSense : ByteArray := prog_1_method_57_code
def yX5_readSense : MethodName := ⟨RX5, "readSense", "(I)I"⟩
abbrev cX5_makeAll : ByteArray := prog_1_method_58_code
def yX5_makeAll : MethodName := ⟨RX5, "makeAll", "(I)V"⟩
abbrev cX5_roundsAt : ByteArray := prog_1_method_59_code
def yX5_roundsAt : MethodName := ⟨RX5, "roundsAt", "(LWhichDay$Traveller;I)I"⟩
abbrev cX5_dayTold : ByteArray := prog_1_method_60_code
def yX5_dayTold : MethodName := ⟨RX5, "dayTold", "(LWhichDay$Traveller;II)I"⟩
abbrev cX5_nextChange : ByteArray := prog_1_method_61_code
def yX5_nextChange : MethodName := ⟨RX5, "nextChange", "(LWhichDay$Traveller;II)I"⟩
abbrev cX5_evenTill : ByteArray := prog_1_method_62_code
def yX5_evenTill : MethodName := ⟨RX5, "evenTill", "(LWhichDay$Traveller;I)I"⟩
abbrev cX5_firstOther : ByteArray := prog_1_method_63_code
def yX5_firstOther : MethodName := ⟨RX5, "firstOther", "(LWhichDay$Traveller;III)I"⟩
abbrev cX5_firstBroken : ByteArray := prog_1_method_64_code
def yX5_firstBroken : MethodName := ⟨RX5, "firstBroken", "(LWhichDay$Traveller;ILWhichDay$Shelf;I)I"⟩
abbrev cX5_leastPlan : ByteArray := prog_1_method_65_code
def yX5_leastPlan : MethodName := ⟨RX5, "leastPlan", "(LWhichDay$Traveller;LWhichDay$Shelf;I)I"⟩
def RX6 : String := "WhichDayModel"
def TX6 : u_T := fun k => match k with
  | 0 => ("WhichDayModel", "s", "[I", true)
  | 1 => ("WhichDayModel", "image", "[I", true)
  | 2 => ("WhichDayModel", "kept", "[I", true)
  | 3 => ("WhichDayModel", "sort", "[I", true)
  | 4 => ("WhichDayModel", "size", "[I", true)
  | 5 => ("WhichDayModel", "element", "[I", true)
  | 6 => ("WhichDayModel", "keptOne", "[I", true)
  | 7 => ("WhichDayModel", "own", "[I", true)
  | 8 => ("WhichDayModel", "isOwn", "[Z", true)
  | 9 => ("WhichDayModel", "hasImage", "Z", false)
  | 10 => ("WhichDayModel", "thrown", "I", false)
  | 11 => ("WhichDayModel", "pos", "I", false)
  | 12 => ("WhichDayModel", "base", "I", false)
  | 13 => ("WhichDayModel", "end", "I", false)
  | 14 => ("WhichDayModel", "number", "I", false)
  | 15 => ("WhichDayModel", "told", "I", false)
  | 16 => ("WhichDayModel", "sign", "I", false)
  | 17 => ("WhichDayModel", "numbers", "[I", true)
  | 18 => ("WhichDayModel", "read", "[I", true)
  | 19 => ("WhichDayModel", "above", "J", false)
  | 20 => ("WhichDayModel", "below", "J", false)
  | 21 => ("WhichDayModel", "placeNow", "I", false)
  | _ => ("WhichDayModel", "since", "I", false)
def tyX6 : Nat → FieldType := fun k => match k with
  | 0 => .array .int
  | 1 => .array .int
  | 2 => .array .int
  | 3 => .array .int
  | 4 => .array .int
  | 5 => .array .int
  | 6 => .array .int
  | 7 => .array .int
  | 8 => .array .boolean
  | 9 => .boolean
  | 10 => .int
  | 11 => .int
  | 12 => .int
  | 13 => .int
  | 14 => .int
  | 15 => .int
  | 16 => .int
  | 17 => .array .int
  | 18 => .array .int
  | 19 => .long
  | 20 => .long
  | 21 => .int
  | _ => .int
theorem nmX6 : ∀ a, a < 23 → ∀ b, b < 23 → a ≠ b → (TX6 a).2.1 ≠ (TX6 b).2.1 := by decide +kernel
theorem tyX6_ok : ∀ k, k < 23 → parseFieldDescriptor (TX6 k).2.2.1 = some (tyX6 k) := by decide +kernel
abbrev cX6_init : ByteArray := prog_8_method_1_code
def yX6_init : MethodName := ⟨RX6, "<init>", "()V"⟩
abbrev cX6_thrown : ByteArray := prog_8_method_2_code
def yX6_thrown : MethodName := ⟨RX6, "thrown", "()I"⟩
abbrev cX6_isIn : ByteArray := prog_8_method_3_code
def yX6_isIn : MethodName := ⟨RX6, "isIn", "(JJJ)Z"⟩
abbrev cX6_isPlace : ByteArray := prog_8_method_4_code
def yX6_isPlace : MethodName := ⟨RX6, "isPlace", "(I)Z"⟩
abbrev cX6_isOne : ByteArray := prog_8_method_5_code
def yX6_isOne : MethodName := ⟨RX6, "isOne", "(I)Z"⟩
abbrev cX6_isMinute : ByteArray := prog_8_method_6_code
def yX6_isMinute : MethodName := ⟨RX6, "isMinute", "(J)Z"⟩
abbrev cX6_isShelf : ByteArray := prog_8_method_7_code
def yX6_isShelf : MethodName := ⟨RX6, "isShelf", "(I)Z"⟩
abbrev cX6_get : ByteArray := prog_8_method_8_code
def yX6_get : MethodName := ⟨RX6, "get", "(II)I"⟩
abbrev cX6_becomes : ByteArray := prog_8_method_9_code
def yX6_becomes : MethodName := ⟨RX6, "becomes", "(II)I"⟩
abbrev cX6_floor : ByteArray := prog_8_method_10_code
def yX6_floor : MethodName := ⟨RX6, "floor", "(JJ)J"⟩
abbrev cX6_here : ByteArray := prog_8_method_11_code
def yX6_here : MethodName := ⟨RX6, "here", "()I"⟩
abbrev cX6_takes : ByteArray := prog_8_method_12_code
def yX6_takes : MethodName := ⟨RX6, "takes", "(I)Z"⟩
abbrev cX6_readsNumber : ByteArray := prog_8_method_13_code
def yX6_readsNumber : MethodName := ⟨RX6, "readsNumber", "()Z"⟩
abbrev cX6_readsStatement : ByteArray := prog_8_method_14_code
def yX6_readsStatement : MethodName := ⟨RX6, "readsStatement", "()Z"⟩
abbrev cX6_comes : ByteArray := prog_8_method_15_code
def yX6_comes : MethodName := ⟨RX6, "comes", "(I)Z"⟩
abbrev cX6_wrongRow : ByteArray := prog_8_method_16_code
def yX6_wrongRow : MethodName := ⟨RX6, "wrongRow", "(II)I"⟩
abbrev cX6_world : ByteArray := prog_8_method_17_code
def yX6_world : MethodName := ⟨RX6, "world", "(I)I"⟩
abbrev cX6_place : ByteArray := prog_8_method_18_code
def yX6_place : MethodName := ⟨RX6, "place", "(II)I"⟩
abbrev cX6_trade : ByteArray := prog_8_method_19_code
def yX6_trade : MethodName := ⟨RX6, "trade", "(II)I"⟩
abbrev cX6_choose : ByteArray := prog_8_method_20_code
def yX6_choose : MethodName := ⟨RX6, "choose", "(II)I"⟩
abbrev cX6_line : ByteArray := prog_8_method_21_code
def yX6_line : MethodName := ⟨RX6, "line", "(I)I"⟩
abbrev cX6_eastOf : ByteArray := prog_8_method_22_code
def yX6_eastOf : MethodName := ⟨RX6, "eastOf", "(I)I"⟩
abbrev cX6_dayAt : ByteArray := prog_8_method_23_code
def yX6_dayAt : MethodName := ⟨RX6, "dayAt", "(JJII)I"⟩
abbrev cX6_dayIn : ByteArray := prog_8_method_24_code
def yX6_dayIn : MethodName := ⟨RX6, "dayIn", "(II)I"⟩
abbrev cX6_dayOf : ByteArray := prog_8_method_25_code
def yX6_dayOf : MethodName := ⟨RX6, "dayOf", "(II)I"⟩
abbrev cX6_hourOf : ByteArray := prog_8_method_26_code
def yX6_hourOf : MethodName := ⟨RX6, "hourOf", "(II)I"⟩
abbrev cX6_tell : ByteArray := prog_8_method_27_code
def yX6_tell : MethodName := ⟨RX6, "tell", "(II)I"⟩
abbrev cX6_traveller : ByteArray := prog_8_method_28_code
def yX6_traveller : MethodName := ⟨RX6, "traveller", "(III)I"⟩
abbrev cX6_legOf : ByteArray := prog_8_method_29_code
def yX6_legOf : MethodName := ⟨RX6, "legOf", "(III)I"⟩
abbrev cX6_endOf : ByteArray := prog_8_method_30_code
def yX6_endOf : MethodName := ⟨RX6, "endOf", "(II)I"⟩
abbrev cX6_leg : ByteArray := prog_8_method_31_code
def yX6_leg : MethodName := ⟨RX6, "leg", "(IIZII)I"⟩
abbrev cX6_captain : ByteArray := prog_8_method_32_code
def yX6_captain : MethodName := ⟨RX6, "captain", "(III)I"⟩
abbrev cX6_findWhere : ByteArray := prog_8_method_33_code
def yX6_findWhere : MethodName := ⟨RX6, "findWhere", "(II)V"⟩
abbrev cX6_eastNow : ByteArray := prog_8_method_34_code
def yX6_eastNow : MethodName := ⟨RX6, "eastNow", "(IZ)J"⟩
abbrev cX6_common : ByteArray := prog_8_method_35_code
def yX6_common : MethodName := ⟨RX6, "common", "(JJ)J"⟩
abbrev cX6_where : ByteArray := prog_8_method_36_code
def yX6_where : MethodName := ⟨RX6, "where", "(III)J"⟩
abbrev cX6_in : ByteArray := prog_8_method_37_code
def yX6_in : MethodName := ⟨RX6, "in", "(II)I"⟩
abbrev cX6_hereDay : ByteArray := prog_8_method_38_code
def yX6_hereDay : MethodName := ⟨RX6, "hereDay", "(II)I"⟩
abbrev cX6_seenDay : ByteArray := prog_8_method_39_code
def yX6_seenDay : MethodName := ⟨RX6, "seenDay", "(II)I"⟩
abbrev cX6_roundsNow : ByteArray := prog_8_method_40_code
def yX6_roundsNow : MethodName := ⟨RX6, "roundsNow", "(I)I"⟩
abbrev cX6_changesTo : ByteArray := prog_8_method_41_code
def yX6_changesTo : MethodName := ⟨RX6, "changesTo", "(II)I"⟩
abbrev cX6_dayAs : ByteArray := prog_8_method_42_code
def yX6_dayAs : MethodName := ⟨RX6, "dayAs", "(III)I"⟩
abbrev cX6_dayNow : ByteArray := prog_8_method_43_code
def yX6_dayNow : MethodName := ⟨RX6, "dayNow", "(II)I"⟩
abbrev cX6_day : ByteArray := prog_8_method_44_code
def yX6_day : MethodName := ⟨RX6, "day", "(II)I"⟩
abbrev cX6_isKind : ByteArray := prog_8_method_45_code
def yX6_isKind : MethodName := ⟨RX6, "isKind", "(I)Z"⟩
abbrev cX6_dayBy : ByteArray := prog_8_method_46_code
def yX6_dayBy : MethodName := ⟨RX6, "dayBy", "(III)I"⟩
abbrev cX6_gain : ByteArray := prog_8_method_47_code
def yX6_gain : MethodName := ⟨RX6, "gain", "(III)I"⟩
abbrev cX6_beginsOf : ByteArray := prog_8_method_48_code
def yX6_beginsOf : MethodName := ⟨RX6, "beginsOf", "(II)I"⟩
abbrev cX6_begins : ByteArray := prog_8_method_49_code
def yX6_begins : MethodName := ⟨RX6, "begins", "(II)I"⟩
abbrev cX6_longDay : ByteArray := prog_8_method_50_code
def yX6_longDay : MethodName := ⟨RX6, "longDay", "(II)I"⟩
abbrev cX6_often : ByteArray := prog_8_method_51_code
def yX6_often : MethodName := ⟨RX6, "often", "(III)I"⟩
abbrev cX6_duty : ByteArray := prog_8_method_52_code
def yX6_duty : MethodName := ⟨RX6, "duty", "(III)I"⟩
abbrev cX6_differ : ByteArray := prog_8_method_53_code
def yX6_differ : MethodName := ⟨RX6, "differ", "(III)I"⟩
abbrev cX6_agree : ByteArray := prog_8_method_54_code
def yX6_agree : MethodName := ⟨RX6, "agree", "(III)I"⟩
abbrev cX6_part : ByteArray := prog_8_method_55_code
def yX6_part : MethodName := ⟨RX6, "part", "(IIII)I"⟩
abbrev cX6_wrongBy : ByteArray := prog_8_method_56_code
def yX6_wrongBy : MethodName := ⟨RX6, "wrongBy", "(II)I"⟩
abbrev cX6_wrong : ByteArray := prog_8_method_57_code
def yX6_wrong : MethodName := ⟨RX6, "wrong", "(II)I"⟩
abbrev cX6_bestLine : ByteArray := prog_8_method_58_code
def yX6_bestLine : MethodName := ⟨RX6, "bestLine", "(II)I"⟩
abbrev cX6_moved : ByteArray := prog_8_method_59_code
def yX6_moved : MethodName := ⟨RX6, "moved", "(II)I"⟩
abbrev cX6_leastOf : ByteArray := prog_8_method_60_code
def yX6_leastOf : MethodName := ⟨RX6, "leastOf", "(I)I"⟩
abbrev cX6_judge : ByteArray := prog_8_method_61_code
def yX6_judge : MethodName := ⟨RX6, "judge", "(IIII)I"⟩
abbrev cX6_wrongKept : ByteArray := prog_8_method_62_code
def yX6_wrongKept : MethodName := ⟨RX6, "wrongKept", "(III)I"⟩
abbrev cX6_keptOf : ByteArray := prog_8_method_63_code
def yX6_keptOf : MethodName := ⟨RX6, "keptOf", "(III)I"⟩
abbrev cX6_kept : ByteArray := prog_8_method_64_code
def yX6_kept : MethodName := ⟨RX6, "kept", "(III)I"⟩
abbrev cX6_rounds : ByteArray := prog_8_method_65_code
def yX6_rounds : MethodName := ⟨RX6, "rounds", "(II)I"⟩
abbrev cX6_log : ByteArray := prog_8_method_66_code
def yX6_log : MethodName := ⟨RX6, "log", "(II)I"⟩
abbrev cX6_plan : ByteArray := prog_8_method_67_code
def yX6_plan : MethodName := ⟨RX6, "plan", "(III)I"⟩
abbrev cX6_image : ByteArray := prog_8_method_68_code
def yX6_image : MethodName := ⟨RX6, "image", "()I"⟩
abbrev cX6_restore : ByteArray := prog_8_method_69_code
def yX6_restore : MethodName := ⟨RX6, "restore", "()I"⟩
abbrev cX6_count : ByteArray := prog_8_method_70_code
def yX6_count : MethodName := ⟨RX6, "count", "(I)I"⟩
abbrev cX6_keep : ByteArray := prog_8_method_71_code
def yX6_keep : MethodName := ⟨RX6, "keep", "(III)I"⟩
abbrev cX6_row : ByteArray := prog_8_method_72_code
def yX6_row : MethodName := ⟨RX6, "row", "(III)I"⟩
abbrev cX6_put : ByteArray := prog_8_method_73_code
def yX6_put : MethodName := ⟨RX6, "put", "(III)I"⟩
abbrev cX6_element : ByteArray := prog_8_method_74_code
def yX6_element : MethodName := ⟨RX6, "element", "(II)J"⟩
abbrev cX6_copy : ByteArray := prog_8_method_75_code
def yX6_copy : MethodName := ⟨RX6, "copy", "(IIIII)I"⟩
abbrev cX6_wrongShelf : ByteArray := prog_8_method_76_code
def yX6_wrongShelf : MethodName := ⟨RX6, "wrongShelf", "(I)I"⟩
abbrev cX6_held : ByteArray := prog_8_method_77_code
def yX6_held : MethodName := ⟨RX6, "held", "(II)I"⟩
abbrev cX6_weight : ByteArray := prog_8_method_78_code
def yX6_weight : MethodName := ⟨RX6, "weight", "(I)I"⟩
abbrev cX6_toss : ByteArray := prog_8_method_79_code
def yX6_toss : MethodName := ⟨RX6, "toss", "(I)I"⟩
def RJ9 : String := "java/lang/Math"
def TJ9 : u_T := fun k => match k with
  | _ => ("", "", "", false)
def tyJ9 : Nat → FieldType := fun k => match k with
  | _ => .int
theorem nmJ9 : ∀ a, a < 0 → ∀ b, b < 0 → a ≠ b → (TJ9 a).2.1 ≠ (TJ9 b).2.1 := by decide +kernel
theorem tyJ9_ok : ∀ k, k < 0 → parseFieldDescriptor (TJ9 k).2.2.1 = some (tyJ9 k) := by decide +kernel
abbrev cJ9_floorDiv_7cf53 : ByteArray := prog_12_method_47_code
def yJ9_floorDiv_7cf53 : MethodName := ⟨RJ9, "floorDiv", "(II)I"⟩
abbrev cJ9_floorDiv_f86c9 : ByteArray := prog_12_method_49_code
def yJ9_floorDiv_f86c9 : MethodName := ⟨RJ9, "floorDiv", "(JJ)J"⟩
abbrev cJ9_floorMod_7cf53 : ByteArray := prog_12_method_50_code
def yJ9_floorMod_7cf53 : MethodName := ⟨RJ9, "floorMod", "(II)I"⟩
abbrev cJ9_floorMod_f86c9 : ByteArray := prog_12_method_52_code
def yJ9_floorMod_f86c9 : MethodName := ⟨RJ9, "floorMod", "(JJ)J"⟩
abbrev cJ9_min_7cf53 : ByteArray := prog_12_method_69_code
def yJ9_min_7cf53 : MethodName := ⟨RJ9, "min", "(II)I"⟩
def RJ0 : String := "java/lang/String"
def TJ0 : u_T := fun k => match k with
  | _ => ("", "", "", false)
def tyJ0 : Nat → FieldType := fun k => match k with
  | _ => .int
theorem nmJ0 : ∀ a, a < 0 → ∀ b, b < 0 → a ≠ b → (TJ0 a).2.1 ≠ (TJ0 b).2.1 := by decide +kernel
theorem tyJ0_ok : ∀ k, k < 0 → parseFieldDescriptor (TJ0 k).2.2.1 = some (tyJ0 k) := by decide +kernel
def RJ10 : String := "java/lang/System"
def TJ10 : u_T := fun k => match k with
  | _ => ("", "", "", false)
def tyJ10 : Nat → FieldType := fun k => match k with
  | _ => .int
theorem nmJ10 : ∀ a, a < 0 → ∀ b, b < 0 → a ≠ b → (TJ10 a).2.1 ≠ (TJ10 b).2.1 := by decide +kernel
theorem tyJ10_ok : ∀ k, k < 0 → parseFieldDescriptor (TJ10 k).2.2.1 = some (tyJ10 k) := by decide +kernel
def RL : String := "WhichDayLaw"
abbrev cL_element : ByteArray := method_3_code
def yL_element : MethodName := ⟨RL, "element", "(LWhichDay;II[J)I"⟩
abbrev cL_law : ByteArray := code
def yL_law : MethodName := ⟨RL, "law", "([I)Z"⟩
end
section
theorem dX0_init_0 : decode cX0_init 0 = .ok (.aload_n 0, 1) := by decide +kernel
theorem dX0_init_1 : decode cX0_init 1 = .ok (.invokespecial 3, 3) := by decide +kernel
theorem dX0_init_4 : decode cX0_init 4 = .ok (.aload_n 0, 1) := by decide +kernel
theorem dX0_init_5 : decode cX0_init 5 = .ok (.aconst_null, 1) := by decide +kernel
theorem dX0_init_6 : decode cX0_init 6 = .ok (.putfield 9, 3) := by decide +kernel
theorem dX0_init_9 : decode cX0_init 9 = .ok (.aload_n 0, 1) := by decide +kernel
theorem dX0_init_10 : decode cX0_init 10 = .ok (.iconst 0, 1) := by decide +kernel
theorem dX0_init_11 : decode cX0_init 11 = .ok (.putfield 15, 3) := by decide +kernel
theorem dX0_init_14 : decode cX0_init 14 = .ok (.aload_n 0, 1) := by decide +kernel
theorem dX0_init_15 : decode cX0_init 15 = .ok (.iconst 0, 1) := by decide +kernel
theorem dX0_init_16 : decode cX0_init 16 = .ok (.putfield 19, 3) := by decide +kernel
theorem dX0_init_19 : decode cX0_init 19 = .ok (.aload_n 0, 1) := by decide +kernel
theorem dX0_init_20 : decode cX0_init 20 = .ok (.iconst 0, 1) := by decide +kernel
theorem dX0_init_21 : decode cX0_init 21 = .ok (.putfield 22, 3) := by decide +kernel
theorem dX0_init_24 : decode cX0_init 24 = .ok (.aload_n 0, 1) := by decide +kernel
theorem dX0_init_25 : decode cX0_init 25 = .ok (.iconst 0, 1) := by decide +kernel
theorem dX0_init_26 : decode cX0_init 26 = .ok (.putfield 25, 3) := by decide +kernel
theorem dX0_init_29 : decode cX0_init 29 = .ok (.aload_n 0, 1) := by decide +kernel
theorem dX0_init_30 : decode cX0_init 30 = .ok (.iconst 0, 1) := by decide +kernel
theorem dX0_init_31 : decode cX0_init 31 = .ok (.putfield 28, 3) := by decide +kernel
theorem dX0_init_34 : decode cX0_init 34 = .ok (.aload_n 0, 1) := by decide +kernel
theorem dX0_init_35 : decode cX0_init 35 = .ok (.iconst 0, 1) := by decide +kernel
theorem dX0_init_36 : decode cX0_init 36 = .ok (.putfield 31, 3) := by decide +kernel
theorem dX0_init_39 : decode cX0_init 39 = .ok (.aload_n 0, 1) := by decide +kernel
theorem dX0_init_40 : decode cX0_init 40 = .ok (.iconst 0, 1) := by decide +kernel
theorem dX0_init_41 : decode cX0_init 41 = .ok (.putfield 34, 3) := by decide +kernel
theorem dX0_init_44 : decode cX0_init 44 = .ok (.aload_n 0, 1) := by decide +kernel
theorem dX0_init_45 : decode cX0_init 45 = .ok (.iconst 0, 1) := by decide +kernel
theorem dX0_init_46 : decode cX0_init 46 = .ok (.putfield 37, 3) := by decide +kernel
theorem dX0_init_49 : decode cX0_init 49 = .ok (.return_, 1) := by decide +kernel
theorem dX0_open_0 : decode cX0_open 0 = .ok (.aload_n 0, 1) := by decide +kernel
theorem dX0_open_1 : decode cX0_open 1 = .ok (.aload_n 1, 1) := by decide +kernel
theorem dX0_open_2 : decode cX0_open 2 = .ok (.putfield 9, 3) := by decide +kernel
theorem dX0_open_5 : decode cX0_open 5 = .ok (.return_, 1) := by decide +kernel
theorem dX0_rewind_0 : decode cX0_rewind 0 = .ok (.aload_n 0, 1) := by decide +kernel
theorem dX0_rewind_1 : decode cX0_rewind 1 = .ok (.iconst 0, 1) := by decide +kernel
theorem dX0_rewind_2 : decode cX0_rewind 2 = .ok (.putfield 15, 3) := by decide +kernel
theorem dX0_rewind_5 : decode cX0_rewind 5 = .ok (.return_, 1) := by decide +kernel
theorem dX0_isAtEnd_0 : decode cX0_isAtEnd 0 = .ok (.aload_n 0, 1) := by decide +kernel
theorem dX0_isAtEnd_1 : decode cX0_isAtEnd 1 = .ok (.getfield 9, 3) := by decide +kernel
theorem dX0_isAtEnd_4 : decode cX0_isAtEnd 4 = .ok (.ifnull 17, 3) := by decide +kernel
theorem dX0_isAtEnd_7 : decode cX0_isAtEnd 7 = .ok (.aload_n 0, 1) := by decide +kernel
theorem dX0_isAtEnd_8 : decode cX0_isAtEnd 8 = .ok (.getfield 15, 3) := by decide +kernel
theorem dX0_isAtEnd_11 : decode cX0_isAtEnd 11 = .ok (.aload_n 0, 1) := by decide +kernel
theorem dX0_isAtEnd_12 : decode cX0_isAtEnd 12 = .ok (.getfield 9, 3) := by decide +kernel
theorem dX0_isAtEnd_15 : decode cX0_isAtEnd 15 = .ok (.getfield 40, 3) := by decide +kernel
theorem dX0_isAtEnd_18 : decode cX0_isAtEnd 18 = .ok (.if_icmp .lt 7, 3) := by decide +kernel
theorem dX0_isAtEnd_21 : decode cX0_isAtEnd 21 = .ok (.iconst 1, 1) := by decide +kernel
theorem dX0_isAtEnd_22 : decode cX0_isAtEnd 22 = .ok (.goto 4, 3) := by decide +kernel
theorem dX0_isAtEnd_25 : decode cX0_isAtEnd 25 = .ok (.iconst 0, 1) := by decide +kernel
theorem dX0_isAtEnd_26 : decode cX0_isAtEnd 26 = .ok (.ireturn, 1) := by decide +kernel
theorem dX0_next_0 : decode cX0_next 0 = .ok (.aload_n 0, 1) := by decide +kernel
theorem dX0_next_1 : decode cX0_next 1 = .ok (.getfield 9, 3) := by decide +kernel
theorem dX0_next_4 : decode cX0_next 4 = .ok (.ifnull 32, 3) := by decide +kernel
theorem dX0_next_7 : decode cX0_next 7 = .ok (.aload_n 0, 1) := by decide +kernel
theorem dX0_next_8 : decode cX0_next 8 = .ok (.getfield 9, 3) := by decide +kernel
theorem dX0_next_11 : decode cX0_next 11 = .ok (.aload_n 0, 1) := by decide +kernel
theorem dX0_next_12 : decode cX0_next 12 = .ok (.getfield 15, 3) := by decide +kernel
theorem dX0_next_15 : decode cX0_next 15 = .ok (.invokevirtual 45, 3) := by decide +kernel
theorem dX0_next_18 : decode cX0_next 18 = .ok (.ifCond .eq 18, 3) := by decide +kernel
theorem dX0_next_21 : decode cX0_next 21 = .ok (.aload_n 0, 1) := by decide +kernel
theorem dX0_next_22 : decode cX0_next 22 = .ok (.getfield 9, 3) := by decide +kernel
theorem dX0_next_25 : decode cX0_next 25 = .ok (.getfield 49, 3) := by decide +kernel
theorem dX0_next_28 : decode cX0_next 28 = .ok (.aload_n 0, 1) := by decide +kernel
theorem dX0_next_29 : decode cX0_next 29 = .ok (.getfield 15, 3) := by decide +kernel
theorem dX0_next_32 : decode cX0_next 32 = .ok (.iaload, 1) := by decide +kernel
theorem dX0_next_33 : decode cX0_next 33 = .ok (.goto 4, 3) := by decide +kernel
theorem dX0_next_36 : decode cX0_next 36 = .ok (.iconst (-1), 1) := by decide +kernel
theorem dX0_next_37 : decode cX0_next 37 = .ok (.ireturn, 1) := by decide +kernel
theorem dX0_readStatement_0 : decode cX0_readStatement 0 = .ok (.aload_n 0, 1) := by decide +kernel
theorem dX0_readStatement_1 : decode cX0_readStatement 1 = .ok (.aload_n 0, 1) := by decide +kernel
theorem dX0_readStatement_2 : decode cX0_readStatement 2 = .ok (.getfield 15, 3) := by decide +kernel
theorem dX0_readStatement_5 : decode cX0_readStatement 5 = .ok (.putfield 22, 3) := by decide +kernel
theorem dX0_readStatement_8 : decode cX0_readStatement 8 = .ok (.aload_n 0, 1) := by decide +kernel
theorem dX0_readStatement_9 : decode cX0_readStatement 9 = .ok (.aload_n 0, 1) := by decide +kernel
theorem dX0_readStatement_10 : decode cX0_readStatement 10 = .ok (.invokevirtual 53, 3) := by decide +kernel
theorem dX0_readStatement_13 : decode cX0_readStatement 13 = .ok (.putfield 19, 3) := by decide +kernel
theorem dX0_readStatement_16 : decode cX0_readStatement 16 = .ok (.aload_n 0, 1) := by decide +kernel
theorem dX0_readStatement_17 : decode cX0_readStatement 17 = .ok (.getfield 19, 3) := by decide +kernel
theorem dX0_readStatement_20 : decode cX0_readStatement 20 = .ok (.bipush 112, 2) := by decide +kernel
theorem dX0_readStatement_22 : decode cX0_readStatement 22 = .ok (.if_icmp .eq 23, 3) := by decide +kernel
theorem dX0_readStatement_25 : decode cX0_readStatement 25 = .ok (.aload_n 0, 1) := by decide +kernel
theorem dX0_readStatement_26 : decode cX0_readStatement 26 = .ok (.getfield 19, 3) := by decide +kernel
theorem dX0_readStatement_29 : decode cX0_readStatement 29 = .ok (.bipush 108, 2) := by decide +kernel
theorem dX0_readStatement_31 : decode cX0_readStatement 31 = .ok (.if_icmp .eq 14, 3) := by decide +kernel
theorem dX0_readStatement_34 : decode cX0_readStatement 34 = .ok (.aload_n 0, 1) := by decide +kernel
theorem dX0_readStatement_35 : decode cX0_readStatement 35 = .ok (.getfield 19, 3) := by decide +kernel
theorem dX0_readStatement_38 : decode cX0_readStatement 38 = .ok (.bipush 119, 2) := by decide +kernel
theorem dX0_readStatement_40 : decode cX0_readStatement 40 = .ok (.if_icmp .eq 5, 3) := by decide +kernel
theorem dX0_readStatement_43 : decode cX0_readStatement 43 = .ok (.iconst 0, 1) := by decide +kernel
theorem dX0_readStatement_44 : decode cX0_readStatement 44 = .ok (.ireturn, 1) := by decide +kernel
theorem dX0_readStatement_45 : decode cX0_readStatement 45 = .ok (.aload_n 0, 1) := by decide +kernel
theorem dX0_readStatement_46 : decode cX0_readStatement 46 = .ok (.dup, 1) := by decide +kernel
theorem dX0_readStatement_47 : decode cX0_readStatement 47 = .ok (.getfield 15, 3) := by decide +kernel
theorem dX0_readStatement_50 : decode cX0_readStatement 50 = .ok (.iconst 1, 1) := by decide +kernel
theorem dX0_readStatement_51 : decode cX0_readStatement 51 = .ok (.iadd, 1) := by decide +kernel
theorem dX0_readStatement_52 : decode cX0_readStatement 52 = .ok (.putfield 15, 3) := by decide +kernel
theorem dX0_readStatement_55 : decode cX0_readStatement 55 = .ok (.aload_n 0, 1) := by decide +kernel
theorem dX0_readStatement_56 : decode cX0_readStatement 56 = .ok (.invokevirtual 57, 3) := by decide +kernel
theorem dX0_readStatement_59 : decode cX0_readStatement 59 = .ok (.ifCond .ne 5, 3) := by decide +kernel
theorem dX0_readStatement_62 : decode cX0_readStatement 62 = .ok (.iconst 0, 1) := by decide +kernel
theorem dX0_readStatement_63 : decode cX0_readStatement 63 = .ok (.ireturn, 1) := by decide +kernel
theorem dX0_readStatement_64 : decode cX0_readStatement 64 = .ok (.aload_n 0, 1) := by decide +kernel
theorem dX0_readStatement_65 : decode cX0_readStatement 65 = .ok (.aload_n 0, 1) := by decide +kernel
theorem dX0_readStatement_66 : decode cX0_readStatement 66 = .ok (.getfield 37, 3) := by decide +kernel
theorem dX0_readStatement_69 : decode cX0_readStatement 69 = .ok (.putfield 25, 3) := by decide +kernel
theorem dX0_readStatement_72 : decode cX0_readStatement 72 = .ok (.aload_n 0, 1) := by decide +kernel
theorem dX0_readStatement_73 : decode cX0_readStatement 73 = .ok (.getfield 19, 3) := by decide +kernel
theorem dX0_readStatement_76 : decode cX0_readStatement 76 = .ok (.bipush 108, 2) := by decide +kernel
theorem dX0_readStatement_78 : decode cX0_readStatement 78 = .ok (.if_icmp .eq 12, 3) := by decide +kernel
theorem dX0_readStatement_81 : decode cX0_readStatement 81 = .ok (.aload_n 0, 1) := by decide +kernel
theorem dX0_readStatement_82 : decode cX0_readStatement 82 = .ok (.invokevirtual 61, 3) := by decide +kernel
theorem dX0_readStatement_85 : decode cX0_readStatement 85 = .ok (.ifCond .ne 5, 3) := by decide +kernel
theorem dX0_readStatement_88 : decode cX0_readStatement 88 = .ok (.iconst 0, 1) := by decide +kernel
theorem dX0_readStatement_89 : decode cX0_readStatement 89 = .ok (.ireturn, 1) := by decide +kernel
theorem dX0_readStatement_90 : decode cX0_readStatement 90 = .ok (.aload_n 0, 1) := by decide +kernel
theorem dX0_readStatement_91 : decode cX0_readStatement 91 = .ok (.invokevirtual 64, 3) := by decide +kernel
theorem dX0_readStatement_94 : decode cX0_readStatement 94 = .ok (.aload_n 0, 1) := by decide +kernel
theorem dX0_readStatement_95 : decode cX0_readStatement 95 = .ok (.bipush 59, 2) := by decide +kernel
theorem dX0_readStatement_97 : decode cX0_readStatement 97 = .ok (.invokevirtual 67, 3) := by decide +kernel
theorem dX0_readStatement_100 : decode cX0_readStatement 100 = .ok (.ireturn, 1) := by decide +kernel
theorem dX0_readTwoMore_0 : decode cX0_readTwoMore 0 = .ok (.aload_n 0, 1) := by decide +kernel
theorem dX0_readTwoMore_1 : decode cX0_readTwoMore 1 = .ok (.bipush 32, 2) := by decide +kernel
theorem dX0_readTwoMore_3 : decode cX0_readTwoMore 3 = .ok (.invokevirtual 67, 3) := by decide +kernel
theorem dX0_readTwoMore_6 : decode cX0_readTwoMore 6 = .ok (.ifCond .eq 10, 3) := by decide +kernel
theorem dX0_readTwoMore_9 : decode cX0_readTwoMore 9 = .ok (.aload_n 0, 1) := by decide +kernel
theorem dX0_readTwoMore_10 : decode cX0_readTwoMore 10 = .ok (.invokevirtual 57, 3) := by decide +kernel
theorem dX0_readTwoMore_13 : decode cX0_readTwoMore 13 = .ok (.ifCond .ne 5, 3) := by decide +kernel
theorem dX0_readTwoMore_16 : decode cX0_readTwoMore 16 = .ok (.iconst 0, 1) := by decide +kernel
theorem dX0_readTwoMore_17 : decode cX0_readTwoMore 17 = .ok (.ireturn, 1) := by decide +kernel
theorem dX0_readTwoMore_18 : decode cX0_readTwoMore 18 = .ok (.aload_n 0, 1) := by decide +kernel
theorem dX0_readTwoMore_19 : decode cX0_readTwoMore 19 = .ok (.aload_n 0, 1) := by decide +kernel
theorem dX0_readTwoMore_20 : decode cX0_readTwoMore 20 = .ok (.getfield 37, 3) := by decide +kernel
theorem dX0_readTwoMore_23 : decode cX0_readTwoMore 23 = .ok (.putfield 28, 3) := by decide +kernel
theorem dX0_readTwoMore_26 : decode cX0_readTwoMore 26 = .ok (.aload_n 0, 1) := by decide +kernel
theorem dX0_readTwoMore_27 : decode cX0_readTwoMore 27 = .ok (.bipush 32, 2) := by decide +kernel
theorem dX0_readTwoMore_29 : decode cX0_readTwoMore 29 = .ok (.invokevirtual 67, 3) := by decide +kernel
theorem dX0_readTwoMore_32 : decode cX0_readTwoMore 32 = .ok (.ifCond .eq 10, 3) := by decide +kernel
theorem dX0_readTwoMore_35 : decode cX0_readTwoMore 35 = .ok (.aload_n 0, 1) := by decide +kernel
theorem dX0_readTwoMore_36 : decode cX0_readTwoMore 36 = .ok (.invokevirtual 57, 3) := by decide +kernel
theorem dX0_readTwoMore_39 : decode cX0_readTwoMore 39 = .ok (.ifCond .ne 5, 3) := by decide +kernel
theorem dX0_readTwoMore_42 : decode cX0_readTwoMore 42 = .ok (.iconst 0, 1) := by decide +kernel
theorem dX0_readTwoMore_43 : decode cX0_readTwoMore 43 = .ok (.ireturn, 1) := by decide +kernel
theorem dX0_readTwoMore_44 : decode cX0_readTwoMore 44 = .ok (.aload_n 0, 1) := by decide +kernel
theorem dX0_readTwoMore_45 : decode cX0_readTwoMore 45 = .ok (.aload_n 0, 1) := by decide +kernel
theorem dX0_readTwoMore_46 : decode cX0_readTwoMore 46 = .ok (.getfield 37, 3) := by decide +kernel
theorem dX0_readTwoMore_49 : decode cX0_readTwoMore 49 = .ok (.putfield 31, 3) := by decide +kernel
theorem dX0_readTwoMore_52 : decode cX0_readTwoMore 52 = .ok (.iconst 1, 1) := by decide +kernel
theorem dX0_readTwoMore_53 : decode cX0_readTwoMore 53 = .ok (.ireturn, 1) := by decide +kernel
theorem dX0_readChoice_0 : decode cX0_readChoice 0 = .ok (.aload_n 0, 1) := by decide +kernel
theorem dX0_readChoice_1 : decode cX0_readChoice 1 = .ok (.iconst 0, 1) := by decide +kernel
theorem dX0_readChoice_2 : decode cX0_readChoice 2 = .ok (.putfield 34, 3) := by decide +kernel
theorem dX0_readChoice_5 : decode cX0_readChoice 5 = .ok (.aload_n 0, 1) := by decide +kernel
theorem dX0_readChoice_6 : decode cX0_readChoice 6 = .ok (.getfield 19, 3) := by decide +kernel
theorem dX0_readChoice_9 : decode cX0_readChoice 9 = .ok (.bipush 112, 2) := by decide +kernel
theorem dX0_readChoice_11 : decode cX0_readChoice 11 = .ok (.if_icmp .eq 4, 3) := by decide +kernel
theorem dX0_readChoice_14 : decode cX0_readChoice 14 = .ok (.return_, 1) := by decide +kernel
theorem dX0_readChoice_15 : decode cX0_readChoice 15 = .ok (.aload_n 0, 1) := by decide +kernel
theorem dX0_readChoice_16 : decode cX0_readChoice 16 = .ok (.bipush 43, 2) := by decide +kernel
theorem dX0_readChoice_18 : decode cX0_readChoice 18 = .ok (.invokevirtual 67, 3) := by decide +kernel
theorem dX0_readChoice_21 : decode cX0_readChoice 21 = .ok (.ifCond .eq 11, 3) := by decide +kernel
theorem dX0_readChoice_24 : decode cX0_readChoice 24 = .ok (.aload_n 0, 1) := by decide +kernel
theorem dX0_readChoice_25 : decode cX0_readChoice 25 = .ok (.iconst 1, 1) := by decide +kernel
theorem dX0_readChoice_26 : decode cX0_readChoice 26 = .ok (.putfield 34, 3) := by decide +kernel
theorem dX0_readChoice_29 : decode cX0_readChoice 29 = .ok (.goto 17, 3) := by decide +kernel
theorem dX0_readChoice_32 : decode cX0_readChoice 32 = .ok (.aload_n 0, 1) := by decide +kernel
theorem dX0_readChoice_33 : decode cX0_readChoice 33 = .ok (.bipush 45, 2) := by decide +kernel
theorem dX0_readChoice_35 : decode cX0_readChoice 35 = .ok (.invokevirtual 67, 3) := by decide +kernel
theorem dX0_readChoice_38 : decode cX0_readChoice 38 = .ok (.ifCond .eq 8, 3) := by decide +kernel
theorem dX0_readChoice_41 : decode cX0_readChoice 41 = .ok (.aload_n 0, 1) := by decide +kernel
theorem dX0_readChoice_42 : decode cX0_readChoice 42 = .ok (.iconst (-1), 1) := by decide +kernel
theorem dX0_readChoice_43 : decode cX0_readChoice 43 = .ok (.putfield 34, 3) := by decide +kernel
theorem dX0_readChoice_46 : decode cX0_readChoice 46 = .ok (.return_, 1) := by decide +kernel
theorem dX0_readNumber_0 : decode cX0_readNumber 0 = .ok (.aload_n 0, 1) := by decide +kernel
theorem dX0_readNumber_1 : decode cX0_readNumber 1 = .ok (.invokevirtual 53, 3) := by decide +kernel
theorem dX0_readNumber_4 : decode cX0_readNumber 4 = .ok (.invokestatic 70, 3) := by decide +kernel
theorem dX0_readNumber_7 : decode cX0_readNumber 7 = .ok (.ifCond .ne 5, 3) := by decide +kernel
theorem dX0_readNumber_10 : decode cX0_readNumber 10 = .ok (.iconst 0, 1) := by decide +kernel
theorem dX0_readNumber_11 : decode cX0_readNumber 11 = .ok (.ireturn, 1) := by decide +kernel
theorem dX0_readNumber_12 : decode cX0_readNumber 12 = .ok (.aload_n 0, 1) := by decide +kernel
theorem dX0_readNumber_13 : decode cX0_readNumber 13 = .ok (.aload_n 0, 1) := by decide +kernel
theorem dX0_readNumber_14 : decode cX0_readNumber 14 = .ok (.invokevirtual 53, 3) := by decide +kernel
theorem dX0_readNumber_17 : decode cX0_readNumber 17 = .ok (.bipush 48, 2) := by decide +kernel
theorem dX0_readNumber_19 : decode cX0_readNumber 19 = .ok (.isub, 1) := by decide +kernel
theorem dX0_readNumber_20 : decode cX0_readNumber 20 = .ok (.putfield 37, 3) := by decide +kernel
theorem dX0_readNumber_23 : decode cX0_readNumber 23 = .ok (.aload_n 0, 1) := by decide +kernel
theorem dX0_readNumber_24 : decode cX0_readNumber 24 = .ok (.dup, 1) := by decide +kernel
theorem dX0_readNumber_25 : decode cX0_readNumber 25 = .ok (.getfield 15, 3) := by decide +kernel
theorem dX0_readNumber_28 : decode cX0_readNumber 28 = .ok (.iconst 1, 1) := by decide +kernel
theorem dX0_readNumber_29 : decode cX0_readNumber 29 = .ok (.iadd, 1) := by decide +kernel
theorem dX0_readNumber_30 : decode cX0_readNumber 30 = .ok (.putfield 15, 3) := by decide +kernel
theorem dX0_readNumber_33 : decode cX0_readNumber 33 = .ok (.iconst 1, 1) := by decide +kernel
theorem dX0_readNumber_34 : decode cX0_readNumber 34 = .ok (.istore_n 1, 1) := by decide +kernel
theorem dX0_readNumber_35 : decode cX0_readNumber 35 = .ok (.iload_n 1, 1) := by decide +kernel
theorem dX0_readNumber_36 : decode cX0_readNumber 36 = .ok (.iconst 3, 1) := by decide +kernel
theorem dX0_readNumber_37 : decode cX0_readNumber 37 = .ok (.if_icmp .ge 55, 3) := by decide +kernel
theorem dX0_readNumber_40 : decode cX0_readNumber 40 = .ok (.aload_n 0, 1) := by decide +kernel
theorem dX0_readNumber_41 : decode cX0_readNumber 41 = .ok (.getfield 37, 3) := by decide +kernel
theorem dX0_readNumber_44 : decode cX0_readNumber 44 = .ok (.ifCond .eq 48, 3) := by decide +kernel
theorem dX0_readNumber_47 : decode cX0_readNumber 47 = .ok (.aload_n 0, 1) := by decide +kernel
theorem dX0_readNumber_48 : decode cX0_readNumber 48 = .ok (.invokevirtual 53, 3) := by decide +kernel
theorem dX0_readNumber_51 : decode cX0_readNumber 51 = .ok (.invokestatic 70, 3) := by decide +kernel
theorem dX0_readNumber_54 : decode cX0_readNumber 54 = .ok (.ifCond .eq 38, 3) := by decide +kernel
theorem dX0_readNumber_57 : decode cX0_readNumber 57 = .ok (.aload_n 0, 1) := by decide +kernel
theorem dX0_readNumber_58 : decode cX0_readNumber 58 = .ok (.bipush 10, 2) := by decide +kernel
theorem dX0_readNumber_60 : decode cX0_readNumber 60 = .ok (.aload_n 0, 1) := by decide +kernel
theorem dX0_readNumber_61 : decode cX0_readNumber 61 = .ok (.getfield 37, 3) := by decide +kernel
theorem dX0_readNumber_64 : decode cX0_readNumber 64 = .ok (.imul, 1) := by decide +kernel
theorem dX0_readNumber_65 : decode cX0_readNumber 65 = .ok (.aload_n 0, 1) := by decide +kernel
theorem dX0_readNumber_66 : decode cX0_readNumber 66 = .ok (.invokevirtual 53, 3) := by decide +kernel
theorem dX0_readNumber_69 : decode cX0_readNumber 69 = .ok (.iadd, 1) := by decide +kernel
theorem dX0_readNumber_70 : decode cX0_readNumber 70 = .ok (.bipush 48, 2) := by decide +kernel
theorem dX0_readNumber_72 : decode cX0_readNumber 72 = .ok (.isub, 1) := by decide +kernel
theorem dX0_readNumber_73 : decode cX0_readNumber 73 = .ok (.putfield 37, 3) := by decide +kernel
theorem dX0_readNumber_76 : decode cX0_readNumber 76 = .ok (.aload_n 0, 1) := by decide +kernel
theorem dX0_readNumber_77 : decode cX0_readNumber 77 = .ok (.dup, 1) := by decide +kernel
theorem dX0_readNumber_78 : decode cX0_readNumber 78 = .ok (.getfield 15, 3) := by decide +kernel
theorem dX0_readNumber_81 : decode cX0_readNumber 81 = .ok (.iconst 1, 1) := by decide +kernel
theorem dX0_readNumber_82 : decode cX0_readNumber 82 = .ok (.iadd, 1) := by decide +kernel
theorem dX0_readNumber_83 : decode cX0_readNumber 83 = .ok (.putfield 15, 3) := by decide +kernel
theorem dX0_readNumber_86 : decode cX0_readNumber 86 = .ok (.iinc 1 1, 3) := by decide +kernel
theorem dX0_readNumber_89 : decode cX0_readNumber 89 = .ok (.goto (-54), 3) := by decide +kernel
theorem dX0_readNumber_92 : decode cX0_readNumber 92 = .ok (.iconst 1, 1) := by decide +kernel
theorem dX0_readNumber_93 : decode cX0_readNumber 93 = .ok (.ireturn, 1) := by decide +kernel
theorem dX0_pass_0 : decode cX0_pass 0 = .ok (.aload_n 0, 1) := by decide +kernel
theorem dX0_pass_1 : decode cX0_pass 1 = .ok (.invokevirtual 53, 3) := by decide +kernel
theorem dX0_pass_4 : decode cX0_pass 4 = .ok (.iload_n 1, 1) := by decide +kernel
theorem dX0_pass_5 : decode cX0_pass 5 = .ok (.if_icmp .eq 5, 3) := by decide +kernel
theorem dX0_pass_8 : decode cX0_pass 8 = .ok (.iconst 0, 1) := by decide +kernel
theorem dX0_pass_9 : decode cX0_pass 9 = .ok (.ireturn, 1) := by decide +kernel
theorem dX0_pass_10 : decode cX0_pass 10 = .ok (.aload_n 0, 1) := by decide +kernel
theorem dX0_pass_11 : decode cX0_pass 11 = .ok (.dup, 1) := by decide +kernel
theorem dX0_pass_12 : decode cX0_pass 12 = .ok (.getfield 15, 3) := by decide +kernel
theorem dX0_pass_15 : decode cX0_pass 15 = .ok (.iconst 1, 1) := by decide +kernel
theorem dX0_pass_16 : decode cX0_pass 16 = .ok (.iadd, 1) := by decide +kernel
theorem dX0_pass_17 : decode cX0_pass 17 = .ok (.putfield 15, 3) := by decide +kernel
theorem dX0_pass_20 : decode cX0_pass 20 = .ok (.iconst 1, 1) := by decide +kernel
theorem dX0_pass_21 : decode cX0_pass 21 = .ok (.ireturn, 1) := by decide +kernel
theorem dX0_isDigit_0 : decode cX0_isDigit 0 = .ok (.iload_n 0, 1) := by decide +kernel
theorem dX0_isDigit_1 : decode cX0_isDigit 1 = .ok (.bipush 48, 2) := by decide +kernel
theorem dX0_isDigit_3 : decode cX0_isDigit 3 = .ok (.if_icmp .lt 13, 3) := by decide +kernel
theorem dX0_isDigit_6 : decode cX0_isDigit 6 = .ok (.iload_n 0, 1) := by decide +kernel
theorem dX0_isDigit_7 : decode cX0_isDigit 7 = .ok (.bipush 57, 2) := by decide +kernel
theorem dX0_isDigit_9 : decode cX0_isDigit 9 = .ok (.if_icmp .gt 7, 3) := by decide +kernel
theorem dX0_isDigit_12 : decode cX0_isDigit 12 = .ok (.iconst 1, 1) := by decide +kernel
theorem dX0_isDigit_13 : decode cX0_isDigit 13 = .ok (.goto 4, 3) := by decide +kernel
theorem dX0_isDigit_16 : decode cX0_isDigit 16 = .ok (.iconst 0, 1) := by decide +kernel
theorem dX0_isDigit_17 : decode cX0_isDigit 17 = .ok (.ireturn, 1) := by decide +kernel
theorem dX0_makesSense_0 : decode cX0_makesSense 0 = .ok (.aload_n 0, 1) := by decide +kernel
theorem dX0_makesSense_1 : decode cX0_makesSense 1 = .ok (.getfield 19, 3) := by decide +kernel
theorem dX0_makesSense_4 : decode cX0_makesSense 4 = .ok (.bipush 112, 2) := by decide +kernel
theorem dX0_makesSense_6 : decode cX0_makesSense 6 = .ok (.if_icmp .ne 33, 3) := by decide +kernel
theorem dX0_makesSense_9 : decode cX0_makesSense 9 = .ok (.aload_n 0, 1) := by decide +kernel
theorem dX0_makesSense_10 : decode cX0_makesSense 10 = .ok (.getfield 25, 3) := by decide +kernel
theorem dX0_makesSense_13 : decode cX0_makesSense 13 = .ok (.invokestatic 73, 3) := by decide +kernel
theorem dX0_makesSense_16 : decode cX0_makesSense 16 = .ok (.ifCond .eq 21, 3) := by decide +kernel
theorem dX0_makesSense_19 : decode cX0_makesSense 19 = .ok (.aload_n 0, 1) := by decide +kernel
theorem dX0_makesSense_20 : decode cX0_makesSense 20 = .ok (.getfield 28, 3) := by decide +kernel
theorem dX0_makesSense_23 : decode cX0_makesSense 23 = .ok (.iconst 2, 1) := by decide +kernel
theorem dX0_makesSense_24 : decode cX0_makesSense 24 = .ok (.if_icmp .gt 13, 3) := by decide +kernel
theorem dX0_makesSense_27 : decode cX0_makesSense 27 = .ok (.iload_n 1, 1) := by decide +kernel
theorem dX0_makesSense_28 : decode cX0_makesSense 28 = .ok (.bipush 10, 2) := by decide +kernel
theorem dX0_makesSense_30 : decode cX0_makesSense 30 = .ok (.if_icmp .ge 7, 3) := by decide +kernel
theorem dX0_makesSense_33 : decode cX0_makesSense 33 = .ok (.iconst 1, 1) := by decide +kernel
theorem dX0_makesSense_34 : decode cX0_makesSense 34 = .ok (.goto 4, 3) := by decide +kernel
theorem dX0_makesSense_37 : decode cX0_makesSense 37 = .ok (.iconst 0, 1) := by decide +kernel
theorem dX0_makesSense_38 : decode cX0_makesSense 38 = .ok (.ireturn, 1) := by decide +kernel
theorem dX0_makesSense_39 : decode cX0_makesSense 39 = .ok (.aload_n 0, 1) := by decide +kernel
theorem dX0_makesSense_40 : decode cX0_makesSense 40 = .ok (.getfield 19, 3) := by decide +kernel
theorem dX0_makesSense_43 : decode cX0_makesSense 43 = .ok (.bipush 108, 2) := by decide +kernel
theorem dX0_makesSense_45 : decode cX0_makesSense 45 = .ok (.if_icmp .ne 11, 3) := by decide +kernel
theorem dX0_makesSense_48 : decode cX0_makesSense 48 = .ok (.aload_n 0, 1) := by decide +kernel
theorem dX0_makesSense_49 : decode cX0_makesSense 49 = .ok (.getfield 25, 3) := by decide +kernel
theorem dX0_makesSense_52 : decode cX0_makesSense 52 = .ok (.invokestatic 73, 3) := by decide +kernel
theorem dX0_makesSense_55 : decode cX0_makesSense 55 = .ok (.ireturn, 1) := by decide +kernel
theorem dX0_makesSense_56 : decode cX0_makesSense 56 = .ok (.aload_n 0, 1) := by decide +kernel
theorem dX0_makesSense_57 : decode cX0_makesSense 57 = .ok (.getfield 25, 3) := by decide +kernel
theorem dX0_makesSense_60 : decode cX0_makesSense 60 = .ok (.iload_n 1, 1) := by decide +kernel
theorem dX0_makesSense_61 : decode cX0_makesSense 61 = .ok (.if_icmp .ge 35, 3) := by decide +kernel
theorem dX0_makesSense_64 : decode cX0_makesSense 64 = .ok (.aload_n 0, 1) := by decide +kernel
theorem dX0_makesSense_65 : decode cX0_makesSense 65 = .ok (.getfield 28, 3) := by decide +kernel
theorem dX0_makesSense_68 : decode cX0_makesSense 68 = .ok (.iload_n 1, 1) := by decide +kernel
theorem dX0_makesSense_69 : decode cX0_makesSense 69 = .ok (.if_icmp .ge 27, 3) := by decide +kernel
theorem dX0_makesSense_72 : decode cX0_makesSense 72 = .ok (.aload_n 0, 1) := by decide +kernel
theorem dX0_makesSense_73 : decode cX0_makesSense 73 = .ok (.getfield 25, 3) := by decide +kernel
theorem dX0_makesSense_76 : decode cX0_makesSense 76 = .ok (.aload_n 0, 1) := by decide +kernel
theorem dX0_makesSense_77 : decode cX0_makesSense 77 = .ok (.getfield 28, 3) := by decide +kernel
theorem dX0_makesSense_80 : decode cX0_makesSense 80 = .ok (.if_icmp .eq 16, 3) := by decide +kernel
theorem dX0_makesSense_83 : decode cX0_makesSense 83 = .ok (.aload_n 0, 1) := by decide +kernel
theorem dX0_makesSense_84 : decode cX0_makesSense 84 = .ok (.getfield 31, 3) := by decide +kernel
theorem dX0_makesSense_87 : decode cX0_makesSense 87 = .ok (.bipush 99, 2) := by decide +kernel
theorem dX0_makesSense_89 : decode cX0_makesSense 89 = .ok (.if_icmp .gt 7, 3) := by decide +kernel
theorem dX0_makesSense_92 : decode cX0_makesSense 92 = .ok (.iconst 1, 1) := by decide +kernel
theorem dX0_makesSense_93 : decode cX0_makesSense 93 = .ok (.goto 4, 3) := by decide +kernel
theorem dX0_makesSense_96 : decode cX0_makesSense 96 = .ok (.iconst 0, 1) := by decide +kernel
theorem dX0_makesSense_97 : decode cX0_makesSense 97 = .ok (.ireturn, 1) := by decide +kernel
theorem dX1_init_0 : decode cX1_init 0 = .ok (.aload_n 0, 1) := by decide +kernel
theorem dX1_init_1 : decode cX1_init 1 = .ok (.invokespecial 3, 3) := by decide +kernel
theorem dX1_init_4 : decode cX1_init 4 = .ok (.aload_n 0, 1) := by decide +kernel
theorem dX1_init_5 : decode cX1_init 5 = .ok (.aconst_null, 1) := by decide +kernel
theorem dX1_init_6 : decode cX1_init 6 = .ok (.putfield 9, 3) := by decide +kernel
theorem dX1_init_9 : decode cX1_init 9 = .ok (.aload_n 0, 1) := by decide +kernel
theorem dX1_init_10 : decode cX1_init 10 = .ok (.iconst 0, 1) := by decide +kernel
theorem dX1_init_11 : decode cX1_init 11 = .ok (.putfield 15, 3) := by decide +kernel
theorem dX1_init_14 : decode cX1_init 14 = .ok (.aload_n 0, 1) := by decide +kernel
theorem dX1_init_15 : decode cX1_init 15 = .ok (.iconst 0, 1) := by decide +kernel
theorem dX1_init_16 : decode cX1_init 16 = .ok (.putfield 19, 3) := by decide +kernel
theorem dX1_init_19 : decode cX1_init 19 = .ok (.aload_n 0, 1) := by decide +kernel
theorem dX1_init_20 : decode cX1_init 20 = .ok (.iconst 0, 1) := by decide +kernel
theorem dX1_init_21 : decode cX1_init 21 = .ok (.putfield 23, 3) := by decide +kernel
theorem dX1_init_24 : decode cX1_init 24 = .ok (.aload_n 0, 1) := by decide +kernel
theorem dX1_init_25 : decode cX1_init 25 = .ok (.bipush 100, 2) := by decide +kernel
theorem dX1_init_27 : decode cX1_init 27 = .ok (.newarray .int, 2) := by decide +kernel
theorem dX1_init_29 : decode cX1_init 29 = .ok (.putfield 26, 3) := by decide +kernel
theorem dX1_init_32 : decode cX1_init 32 = .ok (.return_, 1) := by decide +kernel
theorem dX1_isEmpty_0 : decode cX1_isEmpty 0 = .ok (.aload_n 0, 1) := by decide +kernel
theorem dX1_isEmpty_1 : decode cX1_isEmpty 1 = .ok (.getfield 9, 3) := by decide +kernel
theorem dX1_isEmpty_4 : decode cX1_isEmpty 4 = .ok (.ifnonnull 14, 3) := by decide +kernel
theorem dX1_isEmpty_7 : decode cX1_isEmpty 7 = .ok (.aload_n 0, 1) := by decide +kernel
theorem dX1_isEmpty_8 : decode cX1_isEmpty 8 = .ok (.getfield 15, 3) := by decide +kernel
theorem dX1_isEmpty_11 : decode cX1_isEmpty 11 = .ok (.ifCond .ne 7, 3) := by decide +kernel
theorem dX1_isEmpty_14 : decode cX1_isEmpty 14 = .ok (.iconst 1, 1) := by decide +kernel
theorem dX1_isEmpty_15 : decode cX1_isEmpty 15 = .ok (.goto 4, 3) := by decide +kernel
theorem dX1_isEmpty_18 : decode cX1_isEmpty 18 = .ok (.iconst 0, 1) := by decide +kernel
theorem dX1_isEmpty_19 : decode cX1_isEmpty 19 = .ok (.ireturn, 1) := by decide +kernel
theorem dX1_hold_0 : decode cX1_hold 0 = .ok (.aload_n 0, 1) := by decide +kernel
theorem dX1_hold_1 : decode cX1_hold 1 = .ok (.aload_n 1, 1) := by decide +kernel
theorem dX1_hold_2 : decode cX1_hold 2 = .ok (.putfield 9, 3) := by decide +kernel
theorem dX1_hold_5 : decode cX1_hold 5 = .ok (.aload_n 0, 1) := by decide +kernel
theorem dX1_hold_6 : decode cX1_hold 6 = .ok (.iconst 0, 1) := by decide +kernel
theorem dX1_hold_7 : decode cX1_hold 7 = .ok (.putfield 15, 3) := by decide +kernel
theorem dX1_hold_10 : decode cX1_hold 10 = .ok (.return_, 1) := by decide +kernel
theorem dX1_holdRow_0 : decode cX1_holdRow 0 = .ok (.aload_n 0, 1) := by decide +kernel
theorem dX1_holdRow_1 : decode cX1_holdRow 1 = .ok (.aconst_null, 1) := by decide +kernel
theorem dX1_holdRow_2 : decode cX1_holdRow 2 = .ok (.putfield 9, 3) := by decide +kernel
theorem dX1_holdRow_5 : decode cX1_holdRow 5 = .ok (.aload_n 0, 1) := by decide +kernel
theorem dX1_holdRow_6 : decode cX1_holdRow 6 = .ok (.iconst 1, 1) := by decide +kernel
theorem dX1_holdRow_7 : decode cX1_holdRow 7 = .ok (.putfield 15, 3) := by decide +kernel
theorem dX1_holdRow_10 : decode cX1_holdRow 10 = .ok (.aload_n 0, 1) := by decide +kernel
theorem dX1_holdRow_11 : decode cX1_holdRow 11 = .ok (.iload_n 1, 1) := by decide +kernel
theorem dX1_holdRow_12 : decode cX1_holdRow 12 = .ok (.putfield 19, 3) := by decide +kernel
theorem dX1_holdRow_15 : decode cX1_holdRow 15 = .ok (.aload_n 0, 1) := by decide +kernel
theorem dX1_holdRow_16 : decode cX1_holdRow 16 = .ok (.iload_n 2, 1) := by decide +kernel
theorem dX1_holdRow_17 : decode cX1_holdRow 17 = .ok (.putfield 23, 3) := by decide +kernel
theorem dX1_holdRow_20 : decode cX1_holdRow 20 = .ok (.iconst 0, 1) := by decide +kernel
theorem dX1_holdRow_21 : decode cX1_holdRow 21 = .ok (.istore_n 3, 1) := by decide +kernel
theorem dX1_holdRow_22 : decode cX1_holdRow 22 = .ok (.iload_n 3, 1) := by decide +kernel
theorem dX1_holdRow_23 : decode cX1_holdRow 23 = .ok (.bipush 100, 2) := by decide +kernel
theorem dX1_holdRow_25 : decode cX1_holdRow 25 = .ok (.if_icmp .ge 16, 3) := by decide +kernel
theorem dX1_holdRow_28 : decode cX1_holdRow 28 = .ok (.aload_n 0, 1) := by decide +kernel
theorem dX1_holdRow_29 : decode cX1_holdRow 29 = .ok (.getfield 26, 3) := by decide +kernel
theorem dX1_holdRow_32 : decode cX1_holdRow 32 = .ok (.iload_n 3, 1) := by decide +kernel
theorem dX1_holdRow_33 : decode cX1_holdRow 33 = .ok (.iconst 0, 1) := by decide +kernel
theorem dX1_holdRow_34 : decode cX1_holdRow 34 = .ok (.iastore, 1) := by decide +kernel
theorem dX1_holdRow_35 : decode cX1_holdRow 35 = .ok (.iinc 3 1, 3) := by decide +kernel
theorem dX1_holdRow_38 : decode cX1_holdRow 38 = .ok (.goto (-16), 3) := by decide +kernel
theorem dX1_holdRow_41 : decode cX1_holdRow 41 = .ok (.return_, 1) := by decide +kernel
theorem dX1_hasElement_0 : decode cX1_hasElement 0 = .ok (.aload_n 0, 1) := by decide +kernel
theorem dX1_hasElement_1 : decode cX1_hasElement 1 = .ok (.getfield 15, 3) := by decide +kernel
theorem dX1_hasElement_4 : decode cX1_hasElement 4 = .ok (.ifCond .eq 19, 3) := by decide +kernel
theorem dX1_hasElement_7 : decode cX1_hasElement 7 = .ok (.iload_n 1, 1) := by decide +kernel
theorem dX1_hasElement_8 : decode cX1_hasElement 8 = .ok (.ifCond .lt 15, 3) := by decide +kernel
theorem dX1_hasElement_11 : decode cX1_hasElement 11 = .ok (.iload_n 1, 1) := by decide +kernel
theorem dX1_hasElement_12 : decode cX1_hasElement 12 = .ok (.aload_n 0, 1) := by decide +kernel
theorem dX1_hasElement_13 : decode cX1_hasElement 13 = .ok (.getfield 23, 3) := by decide +kernel
theorem dX1_hasElement_16 : decode cX1_hasElement 16 = .ok (.if_icmp .ge 7, 3) := by decide +kernel
theorem dX1_hasElement_19 : decode cX1_hasElement 19 = .ok (.iconst 1, 1) := by decide +kernel
theorem dX1_hasElement_20 : decode cX1_hasElement 20 = .ok (.goto 4, 3) := by decide +kernel
theorem dX1_hasElement_23 : decode cX1_hasElement 23 = .ok (.iconst 0, 1) := by decide +kernel
theorem dX1_hasElement_24 : decode cX1_hasElement 24 = .ok (.ireturn, 1) := by decide +kernel
theorem dX1_hasSpan_0 : decode cX1_hasSpan 0 = .ok (.aload_n 0, 1) := by decide +kernel
theorem dX1_hasSpan_1 : decode cX1_hasSpan 1 = .ok (.getfield 15, 3) := by decide +kernel
theorem dX1_hasSpan_4 : decode cX1_hasSpan 4 = .ok (.ifCond .eq 25, 3) := by decide +kernel
theorem dX1_hasSpan_7 : decode cX1_hasSpan 7 = .ok (.iload_n 1, 1) := by decide +kernel
theorem dX1_hasSpan_8 : decode cX1_hasSpan 8 = .ok (.ifCond .lt 21, 3) := by decide +kernel
theorem dX1_hasSpan_11 : decode cX1_hasSpan 11 = .ok (.iload_n 2, 1) := by decide +kernel
theorem dX1_hasSpan_12 : decode cX1_hasSpan 12 = .ok (.ifCond .lt 17, 3) := by decide +kernel
theorem dX1_hasSpan_15 : decode cX1_hasSpan 15 = .ok (.iload_n 2, 1) := by decide +kernel
theorem dX1_hasSpan_16 : decode cX1_hasSpan 16 = .ok (.aload_n 0, 1) := by decide +kernel
theorem dX1_hasSpan_17 : decode cX1_hasSpan 17 = .ok (.getfield 23, 3) := by decide +kernel
theorem dX1_hasSpan_20 : decode cX1_hasSpan 20 = .ok (.iload_n 1, 1) := by decide +kernel
theorem dX1_hasSpan_21 : decode cX1_hasSpan 21 = .ok (.isub, 1) := by decide +kernel
theorem dX1_hasSpan_22 : decode cX1_hasSpan 22 = .ok (.if_icmp .gt 7, 3) := by decide +kernel
theorem dX1_hasSpan_25 : decode cX1_hasSpan 25 = .ok (.iconst 1, 1) := by decide +kernel
theorem dX1_hasSpan_26 : decode cX1_hasSpan 26 = .ok (.goto 4, 3) := by decide +kernel
theorem dX1_hasSpan_29 : decode cX1_hasSpan 29 = .ok (.iconst 0, 1) := by decide +kernel
theorem dX1_hasSpan_30 : decode cX1_hasSpan 30 = .ok (.ireturn, 1) := by decide +kernel
theorem dX1_lowestBits_0 : decode cX1_lowestBits 0 = .ok (.aload_n 0, 1) := by decide +kernel
theorem dX1_lowestBits_1 : decode cX1_lowestBits 1 = .ok (.getfield 19, 3) := by decide +kernel
theorem dX1_lowestBits_4 : decode cX1_lowestBits 4 = .ok (.ifCond .ne 6, 3) := by decide +kernel
theorem dX1_lowestBits_7 : decode cX1_lowestBits 7 = .ok (.iload_n 1, 1) := by decide +kernel
theorem dX1_lowestBits_8 : decode cX1_lowestBits 8 = .ok (.i2b, 1) := by decide +kernel
theorem dX1_lowestBits_9 : decode cX1_lowestBits 9 = .ok (.ireturn, 1) := by decide +kernel
theorem dX1_lowestBits_10 : decode cX1_lowestBits 10 = .ok (.aload_n 0, 1) := by decide +kernel
theorem dX1_lowestBits_11 : decode cX1_lowestBits 11 = .ok (.getfield 19, 3) := by decide +kernel
theorem dX1_lowestBits_14 : decode cX1_lowestBits 14 = .ok (.iconst 1, 1) := by decide +kernel
theorem dX1_lowestBits_15 : decode cX1_lowestBits 15 = .ok (.if_icmp .ne 8, 3) := by decide +kernel
theorem dX1_lowestBits_18 : decode cX1_lowestBits 18 = .ok (.iload_n 1, 1) := by decide +kernel
theorem dX1_lowestBits_19 : decode cX1_lowestBits 19 = .ok (.i2s, 1) := by decide +kernel
theorem dX1_lowestBits_20 : decode cX1_lowestBits 20 = .ok (.goto 4, 3) := by decide +kernel
theorem dX1_lowestBits_23 : decode cX1_lowestBits 23 = .ok (.iload_n 1, 1) := by decide +kernel
theorem dX1_lowestBits_24 : decode cX1_lowestBits 24 = .ok (.ireturn, 1) := by decide +kernel
theorem dX1_leastNumber_0 : decode cX1_leastNumber 0 = .ok (.aload_n 0, 1) := by decide +kernel
theorem dX1_leastNumber_1 : decode cX1_leastNumber 1 = .ok (.getfield 19, 3) := by decide +kernel
theorem dX1_leastNumber_4 : decode cX1_leastNumber 4 = .ok (.ifCond .ne 6, 3) := by decide +kernel
theorem dX1_leastNumber_7 : decode cX1_leastNumber 7 = .ok (.bipush (-128), 2) := by decide +kernel
theorem dX1_leastNumber_9 : decode cX1_leastNumber 9 = .ok (.ireturn, 1) := by decide +kernel
theorem dX1_leastNumber_10 : decode cX1_leastNumber 10 = .ok (.aload_n 0, 1) := by decide +kernel
theorem dX1_leastNumber_11 : decode cX1_leastNumber 11 = .ok (.getfield 19, 3) := by decide +kernel
theorem dX1_leastNumber_14 : decode cX1_leastNumber 14 = .ok (.iconst 1, 1) := by decide +kernel
theorem dX1_leastNumber_15 : decode cX1_leastNumber 15 = .ok (.if_icmp .ne 9, 3) := by decide +kernel
theorem dX1_leastNumber_18 : decode cX1_leastNumber 18 = .ok (.sipush (-32768), 3) := by decide +kernel
theorem dX1_leastNumber_21 : decode cX1_leastNumber 21 = .ok (.goto 5, 3) := by decide +kernel
theorem dX1_leastNumber_24 : decode cX1_leastNumber 24 = .ok (.ldc 30, 2) := by decide +kernel
theorem dX1_leastNumber_26 : decode cX1_leastNumber 26 = .ok (.ireturn, 1) := by decide +kernel
theorem dX1_tellsPair_0 : decode cX1_tellsPair 0 = .ok (.aload_n 0, 1) := by decide +kernel
theorem dX1_tellsPair_1 : decode cX1_tellsPair 1 = .ok (.invokevirtual 31, 3) := by decide +kernel
theorem dX1_tellsPair_4 : decode cX1_tellsPair 4 = .ok (.istore_n 2, 1) := by decide +kernel
theorem dX1_tellsPair_5 : decode cX1_tellsPair 5 = .ok (.aload_n 0, 1) := by decide +kernel
theorem dX1_tellsPair_6 : decode cX1_tellsPair 6 = .ok (.iload_n 1, 1) := by decide +kernel
theorem dX1_tellsPair_7 : decode cX1_tellsPair 7 = .ok (.invokevirtual 35, 3) := by decide +kernel
theorem dX1_tellsPair_10 : decode cX1_tellsPair 10 = .ok (.ifCond .eq 39, 3) := by decide +kernel
theorem dX1_tellsPair_13 : decode cX1_tellsPair 13 = .ok (.aload_n 0, 1) := by decide +kernel
theorem dX1_tellsPair_14 : decode cX1_tellsPair 14 = .ok (.iload_n 1, 1) := by decide +kernel
theorem dX1_tellsPair_15 : decode cX1_tellsPair 15 = .ok (.iconst 1, 1) := by decide +kernel
theorem dX1_tellsPair_16 : decode cX1_tellsPair 16 = .ok (.iadd, 1) := by decide +kernel
theorem dX1_tellsPair_17 : decode cX1_tellsPair 17 = .ok (.invokevirtual 35, 3) := by decide +kernel
theorem dX1_tellsPair_20 : decode cX1_tellsPair 20 = .ok (.ifCond .eq 29, 3) := by decide +kernel
theorem dX1_tellsPair_23 : decode cX1_tellsPair 23 = .ok (.aload_n 0, 1) := by decide +kernel
theorem dX1_tellsPair_24 : decode cX1_tellsPair 24 = .ok (.getfield 26, 3) := by decide +kernel
theorem dX1_tellsPair_27 : decode cX1_tellsPair 27 = .ok (.iload_n 1, 1) := by decide +kernel
theorem dX1_tellsPair_28 : decode cX1_tellsPair 28 = .ok (.iaload, 1) := by decide +kernel
theorem dX1_tellsPair_29 : decode cX1_tellsPair 29 = .ok (.iload_n 2, 1) := by decide +kernel
theorem dX1_tellsPair_30 : decode cX1_tellsPair 30 = .ok (.if_icmp .eq 19, 3) := by decide +kernel
theorem dX1_tellsPair_33 : decode cX1_tellsPair 33 = .ok (.aload_n 0, 1) := by decide +kernel
theorem dX1_tellsPair_34 : decode cX1_tellsPair 34 = .ok (.getfield 26, 3) := by decide +kernel
theorem dX1_tellsPair_37 : decode cX1_tellsPair 37 = .ok (.iload_n 1, 1) := by decide +kernel
theorem dX1_tellsPair_38 : decode cX1_tellsPair 38 = .ok (.iconst 1, 1) := by decide +kernel
theorem dX1_tellsPair_39 : decode cX1_tellsPair 39 = .ok (.iadd, 1) := by decide +kernel
theorem dX1_tellsPair_40 : decode cX1_tellsPair 40 = .ok (.iaload, 1) := by decide +kernel
theorem dX1_tellsPair_41 : decode cX1_tellsPair 41 = .ok (.iload_n 2, 1) := by decide +kernel
theorem dX1_tellsPair_42 : decode cX1_tellsPair 42 = .ok (.if_icmp .eq 7, 3) := by decide +kernel
theorem dX1_tellsPair_45 : decode cX1_tellsPair 45 = .ok (.iconst 1, 1) := by decide +kernel
theorem dX1_tellsPair_46 : decode cX1_tellsPair 46 = .ok (.goto 4, 3) := by decide +kernel
theorem dX1_tellsPair_49 : decode cX1_tellsPair 49 = .ok (.iconst 0, 1) := by decide +kernel
theorem dX1_tellsPair_50 : decode cX1_tellsPair 50 = .ok (.ireturn, 1) := by decide +kernel
theorem dX2_init_0 : decode cX2_init 0 = .ok (.aload_n 0, 1) := by decide +kernel
theorem dX2_init_1 : decode cX2_init 1 = .ok (.invokespecial 3, 3) := by decide +kernel
theorem dX2_init_4 : decode cX2_init 4 = .ok (.aload_n 0, 1) := by decide +kernel
theorem dX2_init_5 : decode cX2_init 5 = .ok (.bipush (-4), 2) := by decide +kernel
theorem dX2_init_7 : decode cX2_init 7 = .ok (.putfield 9, 3) := by decide +kernel
theorem dX2_init_10 : decode cX2_init 10 = .ok (.aload_n 0, 1) := by decide +kernel
theorem dX2_init_11 : decode cX2_init 11 = .ok (.iconst 0, 1) := by decide +kernel
theorem dX2_init_12 : decode cX2_init 12 = .ok (.putfield 15, 3) := by decide +kernel
theorem dX2_init_15 : decode cX2_init 15 = .ok (.aload_n 0, 1) := by decide +kernel
theorem dX2_init_16 : decode cX2_init 16 = .ok (.iconst 0, 1) := by decide +kernel
theorem dX2_init_17 : decode cX2_init 17 = .ok (.putfield 18, 3) := by decide +kernel
theorem dX2_init_20 : decode cX2_init 20 = .ok (.aload_n 0, 1) := by decide +kernel
theorem dX2_init_21 : decode cX2_init 21 = .ok (.lconst 0, 1) := by decide +kernel
theorem dX2_init_22 : decode cX2_init 22 = .ok (.putfield 21, 3) := by decide +kernel
theorem dX2_init_25 : decode cX2_init 25 = .ok (.aload_n 0, 1) := by decide +kernel
theorem dX2_init_26 : decode cX2_init 26 = .ok (.lconst 0, 1) := by decide +kernel
theorem dX2_init_27 : decode cX2_init 27 = .ok (.putfield 25, 3) := by decide +kernel
theorem dX2_init_30 : decode cX2_init 30 = .ok (.aload_n 0, 1) := by decide +kernel
theorem dX2_init_31 : decode cX2_init 31 = .ok (.lconst 1, 1) := by decide +kernel
theorem dX2_init_32 : decode cX2_init 32 = .ok (.putfield 28, 3) := by decide +kernel
theorem dX2_init_35 : decode cX2_init 35 = .ok (.return_, 1) := by decide +kernel
theorem dX2_setIn_0 : decode cX2_setIn 0 = .ok (.aload_n 0, 1) := by decide +kernel
theorem dX2_setIn_1 : decode cX2_setIn 1 = .ok (.iload_n 1, 1) := by decide +kernel
theorem dX2_setIn_2 : decode cX2_setIn 2 = .ok (.putfield 9, 3) := by decide +kernel
theorem dX2_setIn_5 : decode cX2_setIn 5 = .ok (.aload_n 0, 1) := by decide +kernel
theorem dX2_setIn_6 : decode cX2_setIn 6 = .ok (.lconst 1, 1) := by decide +kernel
theorem dX2_setIn_7 : decode cX2_setIn 7 = .ok (.putfield 28, 3) := by decide +kernel
theorem dX2_setIn_10 : decode cX2_setIn 10 = .ok (.return_, 1) := by decide +kernel
theorem dX2_setUnderWay_0 : decode cX2_setUnderWay 0 = .ok (.aload_n 0, 1) := by decide +kernel
theorem dX2_setUnderWay_1 : decode cX2_setUnderWay 1 = .ok (.bipush (-4), 2) := by decide +kernel
theorem dX2_setUnderWay_3 : decode cX2_setUnderWay 3 = .ok (.putfield 9, 3) := by decide +kernel
theorem dX2_setUnderWay_6 : decode cX2_setUnderWay 6 = .ok (.aload_n 0, 1) := by decide +kernel
theorem dX2_setUnderWay_7 : decode cX2_setUnderWay 7 = .ok (.iload_n 1, 1) := by decide +kernel
theorem dX2_setUnderWay_8 : decode cX2_setUnderWay 8 = .ok (.putfield 15, 3) := by decide +kernel
theorem dX2_setUnderWay_11 : decode cX2_setUnderWay 11 = .ok (.aload_n 0, 1) := by decide +kernel
theorem dX2_setUnderWay_12 : decode cX2_setUnderWay 12 = .ok (.iload_n 2, 1) := by decide +kernel
theorem dX2_setUnderWay_13 : decode cX2_setUnderWay 13 = .ok (.ifCond .le 8, 3) := by decide +kernel
theorem dX2_setUnderWay_16 : decode cX2_setUnderWay 16 = .ok (.iload_n 2, 1) := by decide +kernel
theorem dX2_setUnderWay_17 : decode cX2_setUnderWay 17 = .ok (.i2l, 1) := by decide +kernel
theorem dX2_setUnderWay_18 : decode cX2_setUnderWay 18 = .ok (.goto 4, 3) := by decide +kernel
theorem dX2_setUnderWay_21 : decode cX2_setUnderWay 21 = .ok (.lconst 1, 1) := by decide +kernel
theorem dX2_setUnderWay_22 : decode cX2_setUnderWay 22 = .ok (.putfield 28, 3) := by decide +kernel
theorem dX2_setUnderWay_25 : decode cX2_setUnderWay 25 = .ok (.return_, 1) := by decide +kernel
theorem dX2_isUnderWay_0 : decode cX2_isUnderWay 0 = .ok (.aload_n 0, 1) := by decide +kernel
theorem dX2_isUnderWay_1 : decode cX2_isUnderWay 1 = .ok (.getfield 9, 3) := by decide +kernel
theorem dX2_isUnderWay_4 : decode cX2_isUnderWay 4 = .ok (.bipush (-4), 2) := by decide +kernel
theorem dX2_isUnderWay_6 : decode cX2_isUnderWay 6 = .ok (.if_icmp .ne 7, 3) := by decide +kernel
theorem dX2_isUnderWay_9 : decode cX2_isUnderWay 9 = .ok (.iconst 1, 1) := by decide +kernel
theorem dX2_isUnderWay_10 : decode cX2_isUnderWay 10 = .ok (.goto 4, 3) := by decide +kernel
theorem dX2_isUnderWay_13 : decode cX2_isUnderWay 13 = .ok (.iconst 0, 1) := by decide +kernel
theorem dX2_isUnderWay_14 : decode cX2_isUnderWay 14 = .ok (.ireturn, 1) := by decide +kernel
theorem dX2_roundsDone_0 : decode cX2_roundsDone 0 = .ok (.aload_n 0, 1) := by decide +kernel
theorem dX2_roundsDone_1 : decode cX2_roundsDone 1 = .ok (.getfield 25, 3) := by decide +kernel
theorem dX2_roundsDone_4 : decode cX2_roundsDone 4 = .ok (.ldc2_w 31, 3) := by decide +kernel
theorem dX2_roundsDone_7 : decode cX2_roundsDone 7 = .ok (.aload_n 0, 1) := by decide +kernel
theorem dX2_roundsDone_8 : decode cX2_roundsDone 8 = .ok (.getfield 28, 3) := by decide +kernel
theorem dX2_roundsDone_11 : decode cX2_roundsDone 11 = .ok (.lmul, 1) := by decide +kernel
theorem dX2_roundsDone_12 : decode cX2_roundsDone 12 = .ok (.invokestatic 33, 3) := by decide +kernel
theorem dX2_roundsDone_15 : decode cX2_roundsDone 15 = .ok (.l2i, 1) := by decide +kernel
theorem dX2_roundsDone_16 : decode cX2_roundsDone 16 = .ok (.ireturn, 1) := by decide +kernel
theorem dX2_dayByMidnight_0 : decode cX2_dayByMidnight 0 = .ok (.aload_n 0, 1) := by decide +kernel
theorem dX2_dayByMidnight_1 : decode cX2_dayByMidnight 1 = .ok (.iload_n 1, 1) := by decide +kernel
theorem dX2_dayByMidnight_2 : decode cX2_dayByMidnight 2 = .ok (.sipush 720, 3) := by decide +kernel
theorem dX2_dayByMidnight_5 : decode cX2_dayByMidnight 5 = .ok (.isub, 1) := by decide +kernel
theorem dX2_dayByMidnight_6 : decode cX2_dayByMidnight 6 = .ok (.invokevirtual 39, 3) := by decide +kernel
theorem dX2_dayByMidnight_9 : decode cX2_dayByMidnight 9 = .ok (.aload_n 0, 1) := by decide +kernel
theorem dX2_dayByMidnight_10 : decode cX2_dayByMidnight 10 = .ok (.invokevirtual 43, 3) := by decide +kernel
theorem dX2_dayByMidnight_13 : decode cX2_dayByMidnight 13 = .ok (.isub, 1) := by decide +kernel
theorem dX2_dayByMidnight_14 : decode cX2_dayByMidnight 14 = .ok (.ireturn, 1) := by decide +kernel
theorem dX2_daysSeen_0 : decode cX2_daysSeen 0 = .ok (.aload_n 0, 1) := by decide +kernel
theorem dX2_daysSeen_1 : decode cX2_daysSeen 1 = .ok (.iload_n 1, 1) := by decide +kernel
theorem dX2_daysSeen_2 : decode cX2_daysSeen 2 = .ok (.sipush 720, 3) := by decide +kernel
theorem dX2_daysSeen_5 : decode cX2_daysSeen 5 = .ok (.isub, 1) := by decide +kernel
theorem dX2_daysSeen_6 : decode cX2_daysSeen 6 = .ok (.sipush 360, 3) := by decide +kernel
theorem dX2_daysSeen_9 : decode cX2_daysSeen 9 = .ok (.iadd, 1) := by decide +kernel
theorem dX2_daysSeen_10 : decode cX2_daysSeen 10 = .ok (.invokevirtual 39, 3) := by decide +kernel
theorem dX2_daysSeen_13 : decode cX2_daysSeen 13 = .ok (.ireturn, 1) := by decide +kernel
theorem dX2_daysGone_0 : decode cX2_daysGone 0 = .ok (.iload_n 1, 1) := by decide +kernel
theorem dX2_daysGone_1 : decode cX2_daysGone 1 = .ok (.i2l, 1) := by decide +kernel
theorem dX2_daysGone_2 : decode cX2_daysGone 2 = .ok (.aload_n 0, 1) := by decide +kernel
theorem dX2_daysGone_3 : decode cX2_daysGone 3 = .ok (.getfield 28, 3) := by decide +kernel
theorem dX2_daysGone_6 : decode cX2_daysGone 6 = .ok (.lmul, 1) := by decide +kernel
theorem dX2_daysGone_7 : decode cX2_daysGone 7 = .ok (.ldc2_w 47, 3) := by decide +kernel
theorem dX2_daysGone_10 : decode cX2_daysGone 10 = .ok (.aload_n 0, 1) := by decide +kernel
theorem dX2_daysGone_11 : decode cX2_daysGone 11 = .ok (.getfield 25, 3) := by decide +kernel
theorem dX2_daysGone_14 : decode cX2_daysGone 14 = .ok (.lmul, 1) := by decide +kernel
theorem dX2_daysGone_15 : decode cX2_daysGone 15 = .ok (.ladd, 1) := by decide +kernel
theorem dX2_daysGone_16 : decode cX2_daysGone 16 = .ok (.ldc2_w 49, 3) := by decide +kernel
theorem dX2_daysGone_19 : decode cX2_daysGone 19 = .ok (.aload_n 0, 1) := by decide +kernel
theorem dX2_daysGone_20 : decode cX2_daysGone 20 = .ok (.getfield 28, 3) := by decide +kernel
theorem dX2_daysGone_23 : decode cX2_daysGone 23 = .ok (.lmul, 1) := by decide +kernel
theorem dX2_daysGone_24 : decode cX2_daysGone 24 = .ok (.invokestatic 33, 3) := by decide +kernel
theorem dX2_daysGone_27 : decode cX2_daysGone 27 = .ok (.l2i, 1) := by decide +kernel
theorem dX2_daysGone_28 : decode cX2_daysGone 28 = .ok (.ireturn, 1) := by decide +kernel
theorem dX3_init_0 : decode cX3_init 0 = .ok (.aload_n 0, 1) := by decide +kernel
theorem dX3_init_1 : decode cX3_init 1 = .ok (.invokespecial 3, 3) := by decide +kernel
theorem dX3_init_4 : decode cX3_init 4 = .ok (.aload_n 0, 1) := by decide +kernel
theorem dX3_init_5 : decode cX3_init 5 = .ok (.iconst 0, 1) := by decide +kernel
theorem dX3_init_6 : decode cX3_init 6 = .ok (.putfield 9, 3) := by decide +kernel
theorem dX3_init_9 : decode cX3_init 9 = .ok (.aload_n 0, 1) := by decide +kernel
theorem dX3_init_10 : decode cX3_init 10 = .ok (.iconst 0, 1) := by decide +kernel
theorem dX3_init_11 : decode cX3_init 11 = .ok (.putfield 15, 3) := by decide +kernel
theorem dX3_init_14 : decode cX3_init 14 = .ok (.aload_n 0, 1) := by decide +kernel
theorem dX3_init_15 : decode cX3_init 15 = .ok (.iconst 0, 1) := by decide +kernel
theorem dX3_init_16 : decode cX3_init 16 = .ok (.putfield 18, 3) := by decide +kernel
theorem dX3_init_19 : decode cX3_init 19 = .ok (.aload_n 0, 1) := by decide +kernel
theorem dX3_init_20 : decode cX3_init 20 = .ok (.iconst 0, 1) := by decide +kernel
theorem dX3_init_21 : decode cX3_init 21 = .ok (.putfield 21, 3) := by decide +kernel
theorem dX3_init_24 : decode cX3_init 24 = .ok (.aload_n 0, 1) := by decide +kernel
theorem dX3_init_25 : decode cX3_init 25 = .ok (.iconst 0, 1) := by decide +kernel
theorem dX3_init_26 : decode cX3_init 26 = .ok (.putfield 24, 3) := by decide +kernel
theorem dX3_init_29 : decode cX3_init 29 = .ok (.aload_n 0, 1) := by decide +kernel
theorem dX3_init_30 : decode cX3_init 30 = .ok (.iconst 0, 1) := by decide +kernel
theorem dX3_init_31 : decode cX3_init 31 = .ok (.putfield 27, 3) := by decide +kernel
theorem dX3_init_34 : decode cX3_init 34 = .ok (.aload_n 0, 1) := by decide +kernel
theorem dX3_init_35 : decode cX3_init 35 = .ok (.bipush 6, 2) := by decide +kernel
theorem dX3_init_37 : decode cX3_init 37 = .ok (.newarray .int, 2) := by decide +kernel
theorem dX3_init_39 : decode cX3_init 39 = .ok (.putfield 30, 3) := by decide +kernel
theorem dX3_init_42 : decode cX3_init 42 = .ok (.aload_n 0, 1) := by decide +kernel
theorem dX3_init_43 : decode cX3_init 43 = .ok (.bipush 6, 2) := by decide +kernel
theorem dX3_init_45 : decode cX3_init 45 = .ok (.newarray .int, 2) := by decide +kernel
theorem dX3_init_47 : decode cX3_init 47 = .ok (.putfield 34, 3) := by decide +kernel
theorem dX3_init_50 : decode cX3_init 50 = .ok (.aload_n 0, 1) := by decide +kernel
theorem dX3_init_51 : decode cX3_init 51 = .ok (.bipush 6, 2) := by decide +kernel
theorem dX3_init_53 : decode cX3_init 53 = .ok (.newarray .int, 2) := by decide +kernel
theorem dX3_init_55 : decode cX3_init 55 = .ok (.putfield 37, 3) := by decide +kernel
theorem dX3_init_58 : decode cX3_init 58 = .ok (.aload_n 0, 1) := by decide +kernel
theorem dX3_init_59 : decode cX3_init 59 = .ok (.iconst 0, 1) := by decide +kernel
theorem dX3_init_60 : decode cX3_init 60 = .ok (.putfield 40, 3) := by decide +kernel
theorem dX3_init_63 : decode cX3_init 63 = .ok (.aload_n 0, 1) := by decide +kernel
theorem dX3_init_64 : decode cX3_init 64 = .ok (.bipush 8, 2) := by decide +kernel
theorem dX3_init_66 : decode cX3_init 66 = .ok (.newarray .int, 2) := by decide +kernel
theorem dX3_init_68 : decode cX3_init 68 = .ok (.putfield 43, 3) := by decide +kernel
theorem dX3_init_71 : decode cX3_init 71 = .ok (.aload_n 0, 1) := by decide +kernel
theorem dX3_init_72 : decode cX3_init 72 = .ok (.bipush 8, 2) := by decide +kernel
theorem dX3_init_74 : decode cX3_init 74 = .ok (.newarray .int, 2) := by decide +kernel
theorem dX3_init_76 : decode cX3_init 76 = .ok (.putfield 46, 3) := by decide +kernel
theorem dX3_init_79 : decode cX3_init 79 = .ok (.return_, 1) := by decide +kernel
theorem dX3_lastEnd_0 : decode cX3_lastEnd 0 = .ok (.aload_n 0, 1) := by decide +kernel
theorem dX3_lastEnd_1 : decode cX3_lastEnd 1 = .ok (.getfield 24, 3) := by decide +kernel
theorem dX3_lastEnd_4 : decode cX3_lastEnd 4 = .ok (.ifCond .le 26, 3) := by decide +kernel
theorem dX3_lastEnd_7 : decode cX3_lastEnd 7 = .ok (.aload_n 0, 1) := by decide +kernel
theorem dX3_lastEnd_8 : decode cX3_lastEnd 8 = .ok (.getfield 24, 3) := by decide +kernel
theorem dX3_lastEnd_11 : decode cX3_lastEnd 11 = .ok (.bipush 6, 2) := by decide +kernel
theorem dX3_lastEnd_13 : decode cX3_lastEnd 13 = .ok (.if_icmp .gt 17, 3) := by decide +kernel
theorem dX3_lastEnd_16 : decode cX3_lastEnd 16 = .ok (.aload_n 0, 1) := by decide +kernel
theorem dX3_lastEnd_17 : decode cX3_lastEnd 17 = .ok (.getfield 37, 3) := by decide +kernel
theorem dX3_lastEnd_20 : decode cX3_lastEnd 20 = .ok (.aload_n 0, 1) := by decide +kernel
theorem dX3_lastEnd_21 : decode cX3_lastEnd 21 = .ok (.getfield 24, 3) := by decide +kernel
theorem dX3_lastEnd_24 : decode cX3_lastEnd 24 = .ok (.iconst 1, 1) := by decide +kernel
theorem dX3_lastEnd_25 : decode cX3_lastEnd 25 = .ok (.isub, 1) := by decide +kernel
theorem dX3_lastEnd_26 : decode cX3_lastEnd 26 = .ok (.iaload, 1) := by decide +kernel
theorem dX3_lastEnd_27 : decode cX3_lastEnd 27 = .ok (.goto 4, 3) := by decide +kernel
theorem dX3_lastEnd_30 : decode cX3_lastEnd 30 = .ok (.iconst 0, 1) := by decide +kernel
theorem dX3_lastEnd_31 : decode cX3_lastEnd 31 = .ok (.ireturn, 1) := by decide +kernel
theorem dX3_addLeg_0 : decode cX3_addLeg 0 = .ok (.aload_n 0, 1) := by decide +kernel
theorem dX3_addLeg_1 : decode cX3_addLeg 1 = .ok (.getfield 24, 3) := by decide +kernel
theorem dX3_addLeg_4 : decode cX3_addLeg 4 = .ok (.bipush 6, 2) := by decide +kernel
theorem dX3_addLeg_6 : decode cX3_addLeg 6 = .ok (.if_icmp .lt 4, 3) := by decide +kernel
theorem dX3_addLeg_9 : decode cX3_addLeg 9 = .ok (.return_, 1) := by decide +kernel
theorem dX3_addLeg_10 : decode cX3_addLeg 10 = .ok (.aload_n 0, 1) := by decide +kernel
theorem dX3_addLeg_11 : decode cX3_addLeg 11 = .ok (.getfield 30, 3) := by decide +kernel
theorem dX3_addLeg_14 : decode cX3_addLeg 14 = .ok (.aload_n 0, 1) := by decide +kernel
theorem dX3_addLeg_15 : decode cX3_addLeg 15 = .ok (.getfield 24, 3) := by decide +kernel
theorem dX3_addLeg_18 : decode cX3_addLeg 18 = .ok (.iload_n 1, 1) := by decide +kernel
theorem dX3_addLeg_19 : decode cX3_addLeg 19 = .ok (.iastore, 1) := by decide +kernel
theorem dX3_addLeg_20 : decode cX3_addLeg 20 = .ok (.aload_n 0, 1) := by decide +kernel
theorem dX3_addLeg_21 : decode cX3_addLeg 21 = .ok (.getfield 34, 3) := by decide +kernel
theorem dX3_addLeg_24 : decode cX3_addLeg 24 = .ok (.aload_n 0, 1) := by decide +kernel
theorem dX3_addLeg_25 : decode cX3_addLeg 25 = .ok (.getfield 24, 3) := by decide +kernel
theorem dX3_addLeg_28 : decode cX3_addLeg 28 = .ok (.iload_n 3, 1) := by decide +kernel
theorem dX3_addLeg_29 : decode cX3_addLeg 29 = .ok (.iastore, 1) := by decide +kernel
theorem dX3_addLeg_30 : decode cX3_addLeg 30 = .ok (.aload_n 0, 1) := by decide +kernel
theorem dX3_addLeg_31 : decode cX3_addLeg 31 = .ok (.getfield 37, 3) := by decide +kernel
theorem dX3_addLeg_34 : decode cX3_addLeg 34 = .ok (.aload_n 0, 1) := by decide +kernel
theorem dX3_addLeg_35 : decode cX3_addLeg 35 = .ok (.getfield 24, 3) := by decide +kernel
theorem dX3_addLeg_38 : decode cX3_addLeg 38 = .ok (.iload_n 3, 1) := by decide +kernel
theorem dX3_addLeg_39 : decode cX3_addLeg 39 = .ok (.iload 4, 2) := by decide +kernel
theorem dX3_addLeg_41 : decode cX3_addLeg 41 = .ok (.iadd, 1) := by decide +kernel
theorem dX3_addLeg_42 : decode cX3_addLeg 42 = .ok (.iastore, 1) := by decide +kernel
theorem dX3_addLeg_43 : decode cX3_addLeg 43 = .ok (.iload_n 2, 1) := by decide +kernel
theorem dX3_addLeg_44 : decode cX3_addLeg 44 = .ok (.ifCond .eq 18, 3) := by decide +kernel
theorem dX3_addLeg_47 : decode cX3_addLeg 47 = .ok (.aload_n 0, 1) := by decide +kernel
theorem dX3_addLeg_48 : decode cX3_addLeg 48 = .ok (.dup, 1) := by decide +kernel
theorem dX3_addLeg_49 : decode cX3_addLeg 49 = .ok (.getfield 27, 3) := by decide +kernel
theorem dX3_addLeg_52 : decode cX3_addLeg 52 = .ok (.iconst 1, 1) := by decide +kernel
theorem dX3_addLeg_53 : decode cX3_addLeg 53 = .ok (.aload_n 0, 1) := by decide +kernel
theorem dX3_addLeg_54 : decode cX3_addLeg 54 = .ok (.getfield 24, 3) := by decide +kernel
theorem dX3_addLeg_57 : decode cX3_addLeg 57 = .ok (.ishl, 1) := by decide +kernel
theorem dX3_addLeg_58 : decode cX3_addLeg 58 = .ok (.ior, 1) := by decide +kernel
theorem dX3_addLeg_59 : decode cX3_addLeg 59 = .ok (.putfield 27, 3) := by decide +kernel
theorem dX3_addLeg_62 : decode cX3_addLeg 62 = .ok (.aload_n 0, 1) := by decide +kernel
theorem dX3_addLeg_63 : decode cX3_addLeg 63 = .ok (.dup, 1) := by decide +kernel
theorem dX3_addLeg_64 : decode cX3_addLeg 64 = .ok (.getfield 24, 3) := by decide +kernel
theorem dX3_addLeg_67 : decode cX3_addLeg 67 = .ok (.iconst 1, 1) := by decide +kernel
theorem dX3_addLeg_68 : decode cX3_addLeg 68 = .ok (.iadd, 1) := by decide +kernel
theorem dX3_addLeg_69 : decode cX3_addLeg 69 = .ok (.putfield 24, 3) := by decide +kernel
theorem dX3_addLeg_72 : decode cX3_addLeg 72 = .ok (.return_, 1) := by decide +kernel
theorem dX3_changedTill_0 : decode cX3_changedTill 0 = .ok (.iconst 0, 1) := by decide +kernel
theorem dX3_changedTill_1 : decode cX3_changedTill 1 = .ok (.istore_n 2, 1) := by decide +kernel
theorem dX3_changedTill_2 : decode cX3_changedTill 2 = .ok (.iconst 0, 1) := by decide +kernel
theorem dX3_changedTill_3 : decode cX3_changedTill 3 = .ok (.istore_n 3, 1) := by decide +kernel
theorem dX3_changedTill_4 : decode cX3_changedTill 4 = .ok (.iload_n 3, 1) := by decide +kernel
theorem dX3_changedTill_5 : decode cX3_changedTill 5 = .ok (.aload_n 0, 1) := by decide +kernel
theorem dX3_changedTill_6 : decode cX3_changedTill 6 = .ok (.getfield 40, 3) := by decide +kernel
theorem dX3_changedTill_9 : decode cX3_changedTill 9 = .ok (.if_icmp .ge 28, 3) := by decide +kernel
theorem dX3_changedTill_12 : decode cX3_changedTill 12 = .ok (.aload_n 0, 1) := by decide +kernel
theorem dX3_changedTill_13 : decode cX3_changedTill 13 = .ok (.getfield 43, 3) := by decide +kernel
theorem dX3_changedTill_16 : decode cX3_changedTill 16 = .ok (.iload_n 3, 1) := by decide +kernel
theorem dX3_changedTill_17 : decode cX3_changedTill 17 = .ok (.iaload, 1) := by decide +kernel
theorem dX3_changedTill_18 : decode cX3_changedTill 18 = .ok (.iload_n 1, 1) := by decide +kernel
theorem dX3_changedTill_19 : decode cX3_changedTill 19 = .ok (.if_icmp .gt 12, 3) := by decide +kernel
theorem dX3_changedTill_22 : decode cX3_changedTill 22 = .ok (.iload_n 2, 1) := by decide +kernel
theorem dX3_changedTill_23 : decode cX3_changedTill 23 = .ok (.aload_n 0, 1) := by decide +kernel
theorem dX3_changedTill_24 : decode cX3_changedTill 24 = .ok (.getfield 46, 3) := by decide +kernel
theorem dX3_changedTill_27 : decode cX3_changedTill 27 = .ok (.iload_n 3, 1) := by decide +kernel
theorem dX3_changedTill_28 : decode cX3_changedTill 28 = .ok (.iaload, 1) := by decide +kernel
theorem dX3_changedTill_29 : decode cX3_changedTill 29 = .ok (.iadd, 1) := by decide +kernel
theorem dX3_changedTill_30 : decode cX3_changedTill 30 = .ok (.istore_n 2, 1) := by decide +kernel
theorem dX3_changedTill_31 : decode cX3_changedTill 31 = .ok (.iinc 3 1, 3) := by decide +kernel
theorem dX3_changedTill_34 : decode cX3_changedTill 34 = .ok (.goto (-30), 3) := by decide +kernel
theorem dX3_changedTill_37 : decode cX3_changedTill 37 = .ok (.iload_n 2, 1) := by decide +kernel
theorem dX3_changedTill_38 : decode cX3_changedTill 38 = .ok (.ireturn, 1) := by decide +kernel
theorem dX3_isSettled_0 : decode cX3_isSettled 0 = .ok (.aload_n 1, 1) := by decide +kernel
theorem dX3_isSettled_1 : decode cX3_isSettled 1 = .ok (.invokevirtual 49, 3) := by decide +kernel
theorem dX3_isSettled_4 : decode cX3_isSettled 4 = .ok (.ifCond .ne 35, 3) := by decide +kernel
theorem dX3_isSettled_7 : decode cX3_isSettled 7 = .ok (.aload_n 1, 1) := by decide +kernel
theorem dX3_isSettled_8 : decode cX3_isSettled 8 = .ok (.getfield 55, 3) := by decide +kernel
theorem dX3_isSettled_11 : decode cX3_isSettled 11 = .ok (.aload_n 0, 1) := by decide +kernel
theorem dX3_isSettled_12 : decode cX3_isSettled 12 = .ok (.getfield 18, 3) := by decide +kernel
theorem dX3_isSettled_15 : decode cX3_isSettled 15 = .ok (.if_icmp .eq 24, 3) := by decide +kernel
theorem dX3_isSettled_18 : decode cX3_isSettled 18 = .ok (.iload_n 2, 1) := by decide +kernel
theorem dX3_isSettled_19 : decode cX3_isSettled 19 = .ok (.aload_n 1, 1) := by decide +kernel
theorem dX3_isSettled_20 : decode cX3_isSettled 20 = .ok (.getfield 58, 3) := by decide +kernel
theorem dX3_isSettled_23 : decode cX3_isSettled 23 = .ok (.aload_n 0, 1) := by decide +kernel
theorem dX3_isSettled_24 : decode cX3_isSettled 24 = .ok (.getfield 21, 3) := by decide +kernel
theorem dX3_isSettled_27 : decode cX3_isSettled 27 = .ok (.sipush 1440, 3) := by decide +kernel
theorem dX3_isSettled_30 : decode cX3_isSettled 30 = .ok (.imul, 1) := by decide +kernel
theorem dX3_isSettled_31 : decode cX3_isSettled 31 = .ok (.iadd, 1) := by decide +kernel
theorem dX3_isSettled_32 : decode cX3_isSettled 32 = .ok (.if_icmp .lt 7, 3) := by decide +kernel
theorem dX3_isSettled_35 : decode cX3_isSettled 35 = .ok (.iconst 1, 1) := by decide +kernel
theorem dX3_isSettled_36 : decode cX3_isSettled 36 = .ok (.goto 4, 3) := by decide +kernel
theorem dX3_isSettled_39 : decode cX3_isSettled 39 = .ok (.iconst 0, 1) := by decide +kernel
theorem dX3_isSettled_40 : decode cX3_isSettled 40 = .ok (.ireturn, 1) := by decide +kernel
theorem dX3_nextEvent_0 : decode cX3_nextEvent 0 = .ok (.sipush 20000, 3) := by decide +kernel
theorem dX3_nextEvent_3 : decode cX3_nextEvent 3 = .ok (.istore_n 2, 1) := by decide +kernel
theorem dX3_nextEvent_4 : decode cX3_nextEvent 4 = .ok (.iconst 0, 1) := by decide +kernel
theorem dX3_nextEvent_5 : decode cX3_nextEvent 5 = .ok (.istore_n 3, 1) := by decide +kernel
theorem dX3_nextEvent_6 : decode cX3_nextEvent 6 = .ok (.iload_n 3, 1) := by decide +kernel
theorem dX3_nextEvent_7 : decode cX3_nextEvent 7 = .ok (.aload_n 0, 1) := by decide +kernel
theorem dX3_nextEvent_8 : decode cX3_nextEvent 8 = .ok (.getfield 24, 3) := by decide +kernel
theorem dX3_nextEvent_11 : decode cX3_nextEvent 11 = .ok (.if_icmp .ge 56, 3) := by decide +kernel
theorem dX3_nextEvent_14 : decode cX3_nextEvent 14 = .ok (.iload_n 2, 1) := by decide +kernel
theorem dX3_nextEvent_15 : decode cX3_nextEvent 15 = .ok (.aload_n 0, 1) := by decide +kernel
theorem dX3_nextEvent_16 : decode cX3_nextEvent 16 = .ok (.getfield 34, 3) := by decide +kernel
theorem dX3_nextEvent_19 : decode cX3_nextEvent 19 = .ok (.iload_n 3, 1) := by decide +kernel
theorem dX3_nextEvent_20 : decode cX3_nextEvent 20 = .ok (.iaload, 1) := by decide +kernel
theorem dX3_nextEvent_21 : decode cX3_nextEvent 21 = .ok (.iconst 1, 1) := by decide +kernel
theorem dX3_nextEvent_22 : decode cX3_nextEvent 22 = .ok (.iadd, 1) := by decide +kernel
theorem dX3_nextEvent_23 : decode cX3_nextEvent 23 = .ok (.iload_n 1, 1) := by decide +kernel
theorem dX3_nextEvent_24 : decode cX3_nextEvent 24 = .ok (.invokestatic 61, 3) := by decide +kernel
theorem dX3_nextEvent_27 : decode cX3_nextEvent 27 = .ok (.istore_n 2, 1) := by decide +kernel
theorem dX3_nextEvent_28 : decode cX3_nextEvent 28 = .ok (.iload_n 2, 1) := by decide +kernel
theorem dX3_nextEvent_29 : decode cX3_nextEvent 29 = .ok (.aload_n 0, 1) := by decide +kernel
theorem dX3_nextEvent_30 : decode cX3_nextEvent 30 = .ok (.getfield 37, 3) := by decide +kernel
theorem dX3_nextEvent_33 : decode cX3_nextEvent 33 = .ok (.iload_n 3, 1) := by decide +kernel
theorem dX3_nextEvent_34 : decode cX3_nextEvent 34 = .ok (.iaload, 1) := by decide +kernel
theorem dX3_nextEvent_35 : decode cX3_nextEvent 35 = .ok (.iload_n 1, 1) := by decide +kernel
theorem dX3_nextEvent_36 : decode cX3_nextEvent 36 = .ok (.invokestatic 61, 3) := by decide +kernel
theorem dX3_nextEvent_39 : decode cX3_nextEvent 39 = .ok (.istore_n 2, 1) := by decide +kernel
theorem dX3_nextEvent_40 : decode cX3_nextEvent 40 = .ok (.iload_n 2, 1) := by decide +kernel
theorem dX3_nextEvent_41 : decode cX3_nextEvent 41 = .ok (.aload_n 0, 1) := by decide +kernel
theorem dX3_nextEvent_42 : decode cX3_nextEvent 42 = .ok (.getfield 37, 3) := by decide +kernel
theorem dX3_nextEvent_45 : decode cX3_nextEvent 45 = .ok (.iload_n 3, 1) := by decide +kernel
theorem dX3_nextEvent_46 : decode cX3_nextEvent 46 = .ok (.iaload, 1) := by decide +kernel
theorem dX3_nextEvent_47 : decode cX3_nextEvent 47 = .ok (.aload_n 0, 1) := by decide +kernel
theorem dX3_nextEvent_48 : decode cX3_nextEvent 48 = .ok (.getfield 21, 3) := by decide +kernel
theorem dX3_nextEvent_51 : decode cX3_nextEvent 51 = .ok (.sipush 1440, 3) := by decide +kernel
theorem dX3_nextEvent_54 : decode cX3_nextEvent 54 = .ok (.imul, 1) := by decide +kernel
theorem dX3_nextEvent_55 : decode cX3_nextEvent 55 = .ok (.iadd, 1) := by decide +kernel
theorem dX3_nextEvent_56 : decode cX3_nextEvent 56 = .ok (.iload_n 1, 1) := by decide +kernel
theorem dX3_nextEvent_57 : decode cX3_nextEvent 57 = .ok (.invokestatic 61, 3) := by decide +kernel
theorem dX3_nextEvent_60 : decode cX3_nextEvent 60 = .ok (.istore_n 2, 1) := by decide +kernel
theorem dX3_nextEvent_61 : decode cX3_nextEvent 61 = .ok (.iinc 3 1, 3) := by decide +kernel
theorem dX3_nextEvent_64 : decode cX3_nextEvent 64 = .ok (.goto (-58), 3) := by decide +kernel
theorem dX3_nextEvent_67 : decode cX3_nextEvent 67 = .ok (.iconst 0, 1) := by decide +kernel
theorem dX3_nextEvent_68 : decode cX3_nextEvent 68 = .ok (.istore_n 3, 1) := by decide +kernel
theorem dX3_nextEvent_69 : decode cX3_nextEvent 69 = .ok (.iload_n 3, 1) := by decide +kernel
theorem dX3_nextEvent_70 : decode cX3_nextEvent 70 = .ok (.aload_n 0, 1) := by decide +kernel
theorem dX3_nextEvent_71 : decode cX3_nextEvent 71 = .ok (.getfield 40, 3) := by decide +kernel
theorem dX3_nextEvent_74 : decode cX3_nextEvent 74 = .ok (.if_icmp .ge 21, 3) := by decide +kernel
theorem dX3_nextEvent_77 : decode cX3_nextEvent 77 = .ok (.iload_n 2, 1) := by decide +kernel
theorem dX3_nextEvent_78 : decode cX3_nextEvent 78 = .ok (.aload_n 0, 1) := by decide +kernel
theorem dX3_nextEvent_79 : decode cX3_nextEvent 79 = .ok (.getfield 43, 3) := by decide +kernel
theorem dX3_nextEvent_82 : decode cX3_nextEvent 82 = .ok (.iload_n 3, 1) := by decide +kernel
theorem dX3_nextEvent_83 : decode cX3_nextEvent 83 = .ok (.iaload, 1) := by decide +kernel
theorem dX3_nextEvent_84 : decode cX3_nextEvent 84 = .ok (.iload_n 1, 1) := by decide +kernel
theorem dX3_nextEvent_85 : decode cX3_nextEvent 85 = .ok (.invokestatic 61, 3) := by decide +kernel
theorem dX3_nextEvent_88 : decode cX3_nextEvent 88 = .ok (.istore_n 2, 1) := by decide +kernel
theorem dX3_nextEvent_89 : decode cX3_nextEvent 89 = .ok (.iinc 3 1, 3) := by decide +kernel
theorem dX3_nextEvent_92 : decode cX3_nextEvent 92 = .ok (.goto (-23), 3) := by decide +kernel
theorem dX3_nextEvent_95 : decode cX3_nextEvent 95 = .ok (.iload_n 2, 1) := by decide +kernel
theorem dX3_nextEvent_96 : decode cX3_nextEvent 96 = .ok (.ireturn, 1) := by decide +kernel
theorem dX3_nearer_0 : decode cX3_nearer 0 = .ok (.iload_n 1, 1) := by decide +kernel
theorem dX3_nearer_1 : decode cX3_nearer 1 = .ok (.iload_n 2, 1) := by decide +kernel
theorem dX3_nearer_2 : decode cX3_nearer 2 = .ok (.if_icmp .le 12, 3) := by decide +kernel
theorem dX3_nearer_5 : decode cX3_nearer 5 = .ok (.iload_n 1, 1) := by decide +kernel
theorem dX3_nearer_6 : decode cX3_nearer 6 = .ok (.iload_n 0, 1) := by decide +kernel
theorem dX3_nearer_7 : decode cX3_nearer 7 = .ok (.if_icmp .ge 7, 3) := by decide +kernel
theorem dX3_nearer_10 : decode cX3_nearer 10 = .ok (.iload_n 1, 1) := by decide +kernel
theorem dX3_nearer_11 : decode cX3_nearer 11 = .ok (.goto 4, 3) := by decide +kernel
theorem dX3_nearer_14 : decode cX3_nearer 14 = .ok (.iload_n 0, 1) := by decide +kernel
theorem dX3_nearer_15 : decode cX3_nearer 15 = .ok (.ireturn, 1) := by decide +kernel
theorem dX3_weightBy_0 : decode cX3_weightBy 0 = .ok (.bipush 10, 2) := by decide +kernel
theorem dX3_weightBy_2 : decode cX3_weightBy 2 = .ok (.aload_n 0, 1) := by decide +kernel
theorem dX3_weightBy_3 : decode cX3_weightBy 3 = .ok (.getfield 24, 3) := by decide +kernel
theorem dX3_weightBy_6 : decode cX3_weightBy 6 = .ok (.iadd, 1) := by decide +kernel
theorem dX3_weightBy_7 : decode cX3_weightBy 7 = .ok (.istore_n 2, 1) := by decide +kernel
theorem dX3_weightBy_8 : decode cX3_weightBy 8 = .ok (.iload_n 1, 1) := by decide +kernel
theorem dX3_weightBy_9 : decode cX3_weightBy 9 = .ok (.tableswitch 92 1 7 #[43, 47, 51, 58, 67, 73, 82], 43) := by decide +kernel
theorem dX3_weightBy_52 : decode cX3_weightBy 52 = .ok (.iload_n 2, 1) := by decide +kernel
theorem dX3_weightBy_53 : decode cX3_weightBy 53 = .ok (.iconst 1, 1) := by decide +kernel
theorem dX3_weightBy_54 : decode cX3_weightBy 54 = .ok (.iadd, 1) := by decide +kernel
theorem dX3_weightBy_55 : decode cX3_weightBy 55 = .ok (.ireturn, 1) := by decide +kernel
theorem dX3_weightBy_56 : decode cX3_weightBy 56 = .ok (.iconst 2, 1) := by decide +kernel
theorem dX3_weightBy_57 : decode cX3_weightBy 57 = .ok (.iload_n 2, 1) := by decide +kernel
theorem dX3_weightBy_58 : decode cX3_weightBy 58 = .ok (.imul, 1) := by decide +kernel
theorem dX3_weightBy_59 : decode cX3_weightBy 59 = .ok (.ireturn, 1) := by decide +kernel
theorem dX3_weightBy_60 : decode cX3_weightBy 60 = .ok (.iload_n 2, 1) := by decide +kernel
theorem dX3_weightBy_61 : decode cX3_weightBy 61 = .ok (.aload_n 0, 1) := by decide +kernel
theorem dX3_weightBy_62 : decode cX3_weightBy 62 = .ok (.getfield 18, 3) := by decide +kernel
theorem dX3_weightBy_65 : decode cX3_weightBy 65 = .ok (.iadd, 1) := by decide +kernel
theorem dX3_weightBy_66 : decode cX3_weightBy 66 = .ok (.ireturn, 1) := by decide +kernel
theorem dX3_weightBy_67 : decode cX3_weightBy 67 = .ok (.iload_n 2, 1) := by decide +kernel
theorem dX3_weightBy_68 : decode cX3_weightBy 68 = .ok (.iconst 1, 1) := by decide +kernel
theorem dX3_weightBy_69 : decode cX3_weightBy 69 = .ok (.iadd, 1) := by decide +kernel
theorem dX3_weightBy_70 : decode cX3_weightBy 70 = .ok (.aload_n 0, 1) := by decide +kernel
theorem dX3_weightBy_71 : decode cX3_weightBy 71 = .ok (.getfield 40, 3) := by decide +kernel
theorem dX3_weightBy_74 : decode cX3_weightBy 74 = .ok (.iadd, 1) := by decide +kernel
theorem dX3_weightBy_75 : decode cX3_weightBy 75 = .ok (.ireturn, 1) := by decide +kernel
theorem dX3_weightBy_76 : decode cX3_weightBy 76 = .ok (.iconst 2, 1) := by decide +kernel
theorem dX3_weightBy_77 : decode cX3_weightBy 77 = .ok (.iload_n 2, 1) := by decide +kernel
theorem dX3_weightBy_78 : decode cX3_weightBy 78 = .ok (.iconst 1, 1) := by decide +kernel
theorem dX3_weightBy_79 : decode cX3_weightBy 79 = .ok (.iadd, 1) := by decide +kernel
theorem dX3_weightBy_80 : decode cX3_weightBy 80 = .ok (.imul, 1) := by decide +kernel
theorem dX3_weightBy_81 : decode cX3_weightBy 81 = .ok (.ireturn, 1) := by decide +kernel
theorem dX3_weightBy_82 : decode cX3_weightBy 82 = .ok (.iconst 2, 1) := by decide +kernel
theorem dX3_weightBy_83 : decode cX3_weightBy 83 = .ok (.iload_n 2, 1) := by decide +kernel
theorem dX3_weightBy_84 : decode cX3_weightBy 84 = .ok (.imul, 1) := by decide +kernel
theorem dX3_weightBy_85 : decode cX3_weightBy 85 = .ok (.aload_n 0, 1) := by decide +kernel
theorem dX3_weightBy_86 : decode cX3_weightBy 86 = .ok (.getfield 21, 3) := by decide +kernel
theorem dX3_weightBy_89 : decode cX3_weightBy 89 = .ok (.iadd, 1) := by decide +kernel
theorem dX3_weightBy_90 : decode cX3_weightBy 90 = .ok (.ireturn, 1) := by decide +kernel
theorem dX3_weightBy_91 : decode cX3_weightBy 91 = .ok (.iload_n 2, 1) := by decide +kernel
theorem dX3_weightBy_92 : decode cX3_weightBy 92 = .ok (.aload_n 0, 1) := by decide +kernel
theorem dX3_weightBy_93 : decode cX3_weightBy 93 = .ok (.getfield 18, 3) := by decide +kernel
theorem dX3_weightBy_96 : decode cX3_weightBy 96 = .ok (.iadd, 1) := by decide +kernel
theorem dX3_weightBy_97 : decode cX3_weightBy 97 = .ok (.bipush 100, 2) := by decide +kernel
theorem dX3_weightBy_99 : decode cX3_weightBy 99 = .ok (.iadd, 1) := by decide +kernel
theorem dX3_weightBy_100 : decode cX3_weightBy 100 = .ok (.ireturn, 1) := by decide +kernel
theorem dX3_weightBy_101 : decode cX3_weightBy 101 = .ok (.iload_n 2, 1) := by decide +kernel
theorem dX3_weightBy_102 : decode cX3_weightBy 102 = .ok (.ireturn, 1) := by decide +kernel
theorem dX3_take_0 : decode cX3_take 0 = .ok (.aload_n 0, 1) := by decide +kernel
theorem dX3_take_1 : decode cX3_take 1 = .ok (.aload_n 1, 1) := by decide +kernel
theorem dX3_take_2 : decode cX3_take 2 = .ok (.getfield 9, 3) := by decide +kernel
theorem dX3_take_5 : decode cX3_take 5 = .ok (.putfield 9, 3) := by decide +kernel
theorem dX3_take_8 : decode cX3_take 8 = .ok (.aload_n 0, 1) := by decide +kernel
theorem dX3_take_9 : decode cX3_take 9 = .ok (.aload_n 1, 1) := by decide +kernel
theorem dX3_take_10 : decode cX3_take 10 = .ok (.getfield 15, 3) := by decide +kernel
theorem dX3_take_13 : decode cX3_take 13 = .ok (.putfield 15, 3) := by decide +kernel
theorem dX3_take_16 : decode cX3_take 16 = .ok (.aload_n 0, 1) := by decide +kernel
theorem dX3_take_17 : decode cX3_take 17 = .ok (.aload_n 1, 1) := by decide +kernel
theorem dX3_take_18 : decode cX3_take 18 = .ok (.getfield 18, 3) := by decide +kernel
theorem dX3_take_21 : decode cX3_take 21 = .ok (.putfield 18, 3) := by decide +kernel
theorem dX3_take_24 : decode cX3_take 24 = .ok (.aload_n 0, 1) := by decide +kernel
theorem dX3_take_25 : decode cX3_take 25 = .ok (.aload_n 1, 1) := by decide +kernel
theorem dX3_take_26 : decode cX3_take 26 = .ok (.getfield 21, 3) := by decide +kernel
theorem dX3_take_29 : decode cX3_take 29 = .ok (.putfield 21, 3) := by decide +kernel
theorem dX3_take_32 : decode cX3_take 32 = .ok (.aload_n 0, 1) := by decide +kernel
theorem dX3_take_33 : decode cX3_take 33 = .ok (.aload_n 1, 1) := by decide +kernel
theorem dX3_take_34 : decode cX3_take 34 = .ok (.getfield 24, 3) := by decide +kernel
theorem dX3_take_37 : decode cX3_take 37 = .ok (.putfield 24, 3) := by decide +kernel
theorem dX3_take_40 : decode cX3_take 40 = .ok (.aload_n 0, 1) := by decide +kernel
theorem dX3_take_41 : decode cX3_take 41 = .ok (.aload_n 1, 1) := by decide +kernel
theorem dX3_take_42 : decode cX3_take 42 = .ok (.getfield 27, 3) := by decide +kernel
theorem dX3_take_45 : decode cX3_take 45 = .ok (.putfield 27, 3) := by decide +kernel
theorem dX3_take_48 : decode cX3_take 48 = .ok (.aload_n 0, 1) := by decide +kernel
theorem dX3_take_49 : decode cX3_take 49 = .ok (.aload_n 1, 1) := by decide +kernel
theorem dX3_take_50 : decode cX3_take 50 = .ok (.getfield 40, 3) := by decide +kernel
theorem dX3_take_53 : decode cX3_take 53 = .ok (.putfield 40, 3) := by decide +kernel
theorem dX3_take_56 : decode cX3_take 56 = .ok (.aload_n 1, 1) := by decide +kernel
theorem dX3_take_57 : decode cX3_take 57 = .ok (.getfield 30, 3) := by decide +kernel
theorem dX3_take_60 : decode cX3_take 60 = .ok (.iconst 0, 1) := by decide +kernel
theorem dX3_take_61 : decode cX3_take 61 = .ok (.aload_n 0, 1) := by decide +kernel
theorem dX3_take_62 : decode cX3_take 62 = .ok (.getfield 30, 3) := by decide +kernel
theorem dX3_take_65 : decode cX3_take 65 = .ok (.iconst 0, 1) := by decide +kernel
theorem dX3_take_66 : decode cX3_take 66 = .ok (.bipush 6, 2) := by decide +kernel
theorem dX3_take_68 : decode cX3_take 68 = .ok (.invokestatic 65, 3) := by decide +kernel
theorem dX3_take_71 : decode cX3_take 71 = .ok (.aload_n 1, 1) := by decide +kernel
theorem dX3_take_72 : decode cX3_take 72 = .ok (.getfield 34, 3) := by decide +kernel
theorem dX3_take_75 : decode cX3_take 75 = .ok (.iconst 0, 1) := by decide +kernel
theorem dX3_take_76 : decode cX3_take 76 = .ok (.aload_n 0, 1) := by decide +kernel
theorem dX3_take_77 : decode cX3_take 77 = .ok (.getfield 34, 3) := by decide +kernel
theorem dX3_take_80 : decode cX3_take 80 = .ok (.iconst 0, 1) := by decide +kernel
theorem dX3_take_81 : decode cX3_take 81 = .ok (.bipush 6, 2) := by decide +kernel
theorem dX3_take_83 : decode cX3_take 83 = .ok (.invokestatic 65, 3) := by decide +kernel
theorem dX3_take_86 : decode cX3_take 86 = .ok (.aload_n 1, 1) := by decide +kernel
theorem dX3_take_87 : decode cX3_take 87 = .ok (.getfield 37, 3) := by decide +kernel
theorem dX3_take_90 : decode cX3_take 90 = .ok (.iconst 0, 1) := by decide +kernel
theorem dX3_take_91 : decode cX3_take 91 = .ok (.aload_n 0, 1) := by decide +kernel
theorem dX3_take_92 : decode cX3_take 92 = .ok (.getfield 37, 3) := by decide +kernel
theorem dX3_take_95 : decode cX3_take 95 = .ok (.iconst 0, 1) := by decide +kernel
theorem dX3_take_96 : decode cX3_take 96 = .ok (.bipush 6, 2) := by decide +kernel
theorem dX3_take_98 : decode cX3_take 98 = .ok (.invokestatic 65, 3) := by decide +kernel
theorem dX3_take_101 : decode cX3_take 101 = .ok (.aload_n 1, 1) := by decide +kernel
theorem dX3_take_102 : decode cX3_take 102 = .ok (.getfield 43, 3) := by decide +kernel
theorem dX3_take_105 : decode cX3_take 105 = .ok (.iconst 0, 1) := by decide +kernel
theorem dX3_take_106 : decode cX3_take 106 = .ok (.aload_n 0, 1) := by decide +kernel
theorem dX3_take_107 : decode cX3_take 107 = .ok (.getfield 43, 3) := by decide +kernel
theorem dX3_take_110 : decode cX3_take 110 = .ok (.iconst 0, 1) := by decide +kernel
theorem dX3_take_111 : decode cX3_take 111 = .ok (.bipush 8, 2) := by decide +kernel
theorem dX3_take_113 : decode cX3_take 113 = .ok (.invokestatic 65, 3) := by decide +kernel
theorem dX3_take_116 : decode cX3_take 116 = .ok (.aload_n 1, 1) := by decide +kernel
theorem dX3_take_117 : decode cX3_take 117 = .ok (.getfield 46, 3) := by decide +kernel
theorem dX3_take_120 : decode cX3_take 120 = .ok (.iconst 0, 1) := by decide +kernel
theorem dX3_take_121 : decode cX3_take 121 = .ok (.aload_n 0, 1) := by decide +kernel
theorem dX3_take_122 : decode cX3_take 122 = .ok (.getfield 46, 3) := by decide +kernel
theorem dX3_take_125 : decode cX3_take 125 = .ok (.iconst 0, 1) := by decide +kernel
theorem dX3_take_126 : decode cX3_take 126 = .ok (.bipush 8, 2) := by decide +kernel
theorem dX3_take_128 : decode cX3_take 128 = .ok (.invokestatic 65, 3) := by decide +kernel
theorem dX3_take_131 : decode cX3_take 131 = .ok (.return_, 1) := by decide +kernel
theorem dX4_init_0 : decode cX4_init 0 = .ok (.aload_n 0, 1) := by decide +kernel
theorem dX4_init_1 : decode cX4_init 1 = .ok (.invokespecial 3, 3) := by decide +kernel
theorem dX4_init_4 : decode cX4_init 4 = .ok (.aload_n 0, 1) := by decide +kernel
theorem dX4_init_5 : decode cX4_init 5 = .ok (.iconst 0, 1) := by decide +kernel
theorem dX4_init_6 : decode cX4_init 6 = .ok (.putfield 9, 3) := by decide +kernel
theorem dX4_init_9 : decode cX4_init 9 = .ok (.aload_n 0, 1) := by decide +kernel
theorem dX4_init_10 : decode cX4_init 10 = .ok (.iconst 0, 1) := by decide +kernel
theorem dX4_init_11 : decode cX4_init 11 = .ok (.putfield 15, 3) := by decide +kernel
theorem dX4_init_14 : decode cX4_init 14 = .ok (.aload_n 0, 1) := by decide +kernel
theorem dX4_init_15 : decode cX4_init 15 = .ok (.sipush 180, 3) := by decide +kernel
theorem dX4_init_18 : decode cX4_init 18 = .ok (.putfield 18, 3) := by decide +kernel
theorem dX4_init_21 : decode cX4_init 21 = .ok (.aload_n 0, 1) := by decide +kernel
theorem dX4_init_22 : decode cX4_init 22 = .ok (.bipush 10, 2) := by decide +kernel
theorem dX4_init_24 : decode cX4_init 24 = .ok (.newarray .int, 2) := by decide +kernel
theorem dX4_init_26 : decode cX4_init 26 = .ok (.putfield 21, 3) := by decide +kernel
theorem dX4_init_29 : decode cX4_init 29 = .ok (.aload_n 0, 1) := by decide +kernel
theorem dX4_init_30 : decode cX4_init 30 = .ok (.bipush 10, 2) := by decide +kernel
theorem dX4_init_32 : decode cX4_init 32 = .ok (.newarray .int, 2) := by decide +kernel
theorem dX4_init_34 : decode cX4_init 34 = .ok (.putfield 25, 3) := by decide +kernel
theorem dX4_init_37 : decode cX4_init 37 = .ok (.aload_n 0, 1) := by decide +kernel
theorem dX4_init_38 : decode cX4_init 38 = .ok (.bipush 10, 2) := by decide +kernel
theorem dX4_init_40 : decode cX4_init 40 = .ok (.newarray .int, 2) := by decide +kernel
theorem dX4_init_42 : decode cX4_init 42 = .ok (.putfield 28, 3) := by decide +kernel
theorem dX4_init_45 : decode cX4_init 45 = .ok (.aload_n 0, 1) := by decide +kernel
theorem dX4_init_46 : decode cX4_init 46 = .ok (.bipush 10, 2) := by decide +kernel
theorem dX4_init_48 : decode cX4_init 48 = .ok (.newarray .int, 2) := by decide +kernel
theorem dX4_init_50 : decode cX4_init 50 = .ok (.putfield 31, 3) := by decide +kernel
theorem dX4_init_53 : decode cX4_init 53 = .ok (.aload_n 0, 1) := by decide +kernel
theorem dX4_init_54 : decode cX4_init 54 = .ok (.bipush 100, 2) := by decide +kernel
theorem dX4_init_56 : decode cX4_init 56 = .ok (.newarray .int, 2) := by decide +kernel
theorem dX4_init_58 : decode cX4_init 58 = .ok (.putfield 34, 3) := by decide +kernel
theorem dX4_init_61 : decode cX4_init 61 = .ok (.aload_n 0, 1) := by decide +kernel
theorem dX4_init_62 : decode cX4_init 62 = .ok (.bipush 8, 2) := by decide +kernel
theorem dX4_init_64 : decode cX4_init 64 = .ok (.anewarray 37, 3) := by decide +kernel
theorem dX4_init_67 : decode cX4_init 67 = .ok (.putfield 39, 3) := by decide +kernel
theorem dX4_init_70 : decode cX4_init 70 = .ok (.return_, 1) := by decide +kernel
theorem dX4_hasPlace_0 : decode cX4_hasPlace 0 = .ok (.iload_n 1, 1) := by decide +kernel
theorem dX4_hasPlace_1 : decode cX4_hasPlace 1 = .ok (.ifCond .lt 15, 3) := by decide +kernel
theorem dX4_hasPlace_4 : decode cX4_hasPlace 4 = .ok (.iload_n 1, 1) := by decide +kernel
theorem dX4_hasPlace_5 : decode cX4_hasPlace 5 = .ok (.aload_n 0, 1) := by decide +kernel
theorem dX4_hasPlace_6 : decode cX4_hasPlace 6 = .ok (.getfield 9, 3) := by decide +kernel
theorem dX4_hasPlace_9 : decode cX4_hasPlace 9 = .ok (.if_icmp .ge 7, 3) := by decide +kernel
theorem dX4_hasPlace_12 : decode cX4_hasPlace 12 = .ok (.iconst 1, 1) := by decide +kernel
theorem dX4_hasPlace_13 : decode cX4_hasPlace 13 = .ok (.goto 4, 3) := by decide +kernel
theorem dX4_hasPlace_16 : decode cX4_hasPlace 16 = .ok (.iconst 0, 1) := by decide +kernel
theorem dX4_hasPlace_17 : decode cX4_hasPlace 17 = .ok (.ireturn, 1) := by decide +kernel
theorem dX4_travellerOf_0 : decode cX4_travellerOf 0 = .ok (.iload_n 1, 1) := by decide +kernel
theorem dX4_travellerOf_1 : decode cX4_travellerOf 1 = .ok (.ifCond .lt 20, 3) := by decide +kernel
theorem dX4_travellerOf_4 : decode cX4_travellerOf 4 = .ok (.iload_n 1, 1) := by decide +kernel
theorem dX4_travellerOf_5 : decode cX4_travellerOf 5 = .ok (.aload_n 0, 1) := by decide +kernel
theorem dX4_travellerOf_6 : decode cX4_travellerOf 6 = .ok (.getfield 15, 3) := by decide +kernel
theorem dX4_travellerOf_9 : decode cX4_travellerOf 9 = .ok (.if_icmp .ge 12, 3) := by decide +kernel
theorem dX4_travellerOf_12 : decode cX4_travellerOf 12 = .ok (.aload_n 0, 1) := by decide +kernel
theorem dX4_travellerOf_13 : decode cX4_travellerOf 13 = .ok (.getfield 39, 3) := by decide +kernel
theorem dX4_travellerOf_16 : decode cX4_travellerOf 16 = .ok (.iload_n 1, 1) := by decide +kernel
theorem dX4_travellerOf_17 : decode cX4_travellerOf 17 = .ok (.aaload, 1) := by decide +kernel
theorem dX4_travellerOf_18 : decode cX4_travellerOf 18 = .ok (.goto 4, 3) := by decide +kernel
theorem dX4_travellerOf_21 : decode cX4_travellerOf 21 = .ok (.aconst_null, 1) := by decide +kernel
theorem dX4_travellerOf_22 : decode cX4_travellerOf 22 = .ok (.areturn, 1) := by decide +kernel
theorem dX4_degreeOf_0 : decode cX4_degreeOf 0 = .ok (.iload_n 1, 1) := by decide +kernel
theorem dX4_degreeOf_1 : decode cX4_degreeOf 1 = .ok (.ifCond .lt 20, 3) := by decide +kernel
theorem dX4_degreeOf_4 : decode cX4_degreeOf 4 = .ok (.iload_n 1, 1) := by decide +kernel
theorem dX4_degreeOf_5 : decode cX4_degreeOf 5 = .ok (.aload_n 0, 1) := by decide +kernel
theorem dX4_degreeOf_6 : decode cX4_degreeOf 6 = .ok (.getfield 9, 3) := by decide +kernel
theorem dX4_degreeOf_9 : decode cX4_degreeOf 9 = .ok (.if_icmp .ge 12, 3) := by decide +kernel
theorem dX4_degreeOf_12 : decode cX4_degreeOf 12 = .ok (.aload_n 0, 1) := by decide +kernel
theorem dX4_degreeOf_13 : decode cX4_degreeOf 13 = .ok (.getfield 21, 3) := by decide +kernel
theorem dX4_degreeOf_16 : decode cX4_degreeOf 16 = .ok (.iload_n 1, 1) := by decide +kernel
theorem dX4_degreeOf_17 : decode cX4_degreeOf 17 = .ok (.iaload, 1) := by decide +kernel
theorem dX4_degreeOf_18 : decode cX4_degreeOf 18 = .ok (.goto 4, 3) := by decide +kernel
theorem dX4_degreeOf_21 : decode cX4_degreeOf 21 = .ok (.iconst 0, 1) := by decide +kernel
theorem dX4_degreeOf_22 : decode cX4_degreeOf 22 = .ok (.ireturn, 1) := by decide +kernel
theorem dX4_addPlace_0 : decode cX4_addPlace 0 = .ok (.aload_n 0, 1) := by decide +kernel
theorem dX4_addPlace_1 : decode cX4_addPlace 1 = .ok (.getfield 9, 3) := by decide +kernel
theorem dX4_addPlace_4 : decode cX4_addPlace 4 = .ok (.bipush 10, 2) := by decide +kernel
theorem dX4_addPlace_6 : decode cX4_addPlace 6 = .ok (.if_icmp .lt 4, 3) := by decide +kernel
theorem dX4_addPlace_9 : decode cX4_addPlace 9 = .ok (.return_, 1) := by decide +kernel
theorem dX4_addPlace_10 : decode cX4_addPlace 10 = .ok (.aload_n 0, 1) := by decide +kernel
theorem dX4_addPlace_11 : decode cX4_addPlace 11 = .ok (.getfield 21, 3) := by decide +kernel
theorem dX4_addPlace_14 : decode cX4_addPlace 14 = .ok (.aload_n 0, 1) := by decide +kernel
theorem dX4_addPlace_15 : decode cX4_addPlace 15 = .ok (.getfield 9, 3) := by decide +kernel
theorem dX4_addPlace_18 : decode cX4_addPlace 18 = .ok (.iload_n 1, 1) := by decide +kernel
theorem dX4_addPlace_19 : decode cX4_addPlace 19 = .ok (.iastore, 1) := by decide +kernel
theorem dX4_addPlace_20 : decode cX4_addPlace 20 = .ok (.aload_n 0, 1) := by decide +kernel
theorem dX4_addPlace_21 : decode cX4_addPlace 21 = .ok (.getfield 25, 3) := by decide +kernel
theorem dX4_addPlace_24 : decode cX4_addPlace 24 = .ok (.aload_n 0, 1) := by decide +kernel
theorem dX4_addPlace_25 : decode cX4_addPlace 25 = .ok (.getfield 9, 3) := by decide +kernel
theorem dX4_addPlace_28 : decode cX4_addPlace 28 = .ok (.iload_n 2, 1) := by decide +kernel
theorem dX4_addPlace_29 : decode cX4_addPlace 29 = .ok (.iastore, 1) := by decide +kernel
theorem dX4_addPlace_30 : decode cX4_addPlace 30 = .ok (.aload_n 0, 1) := by decide +kernel
theorem dX4_addPlace_31 : decode cX4_addPlace 31 = .ok (.getfield 31, 3) := by decide +kernel
theorem dX4_addPlace_34 : decode cX4_addPlace 34 = .ok (.aload_n 0, 1) := by decide +kernel
theorem dX4_addPlace_35 : decode cX4_addPlace 35 = .ok (.getfield 9, 3) := by decide +kernel
theorem dX4_addPlace_38 : decode cX4_addPlace 38 = .ok (.iload_n 3, 1) := by decide +kernel
theorem dX4_addPlace_39 : decode cX4_addPlace 39 = .ok (.iastore, 1) := by decide +kernel
theorem dX4_addPlace_40 : decode cX4_addPlace 40 = .ok (.aload_n 0, 1) := by decide +kernel
theorem dX4_addPlace_41 : decode cX4_addPlace 41 = .ok (.getfield 28, 3) := by decide +kernel
theorem dX4_addPlace_44 : decode cX4_addPlace 44 = .ok (.aload_n 0, 1) := by decide +kernel
theorem dX4_addPlace_45 : decode cX4_addPlace 45 = .ok (.getfield 9, 3) := by decide +kernel
theorem dX4_addPlace_48 : decode cX4_addPlace 48 = .ok (.iload 4, 2) := by decide +kernel
theorem dX4_addPlace_50 : decode cX4_addPlace 50 = .ok (.iastore, 1) := by decide +kernel
theorem dX4_addPlace_51 : decode cX4_addPlace 51 = .ok (.aload_n 0, 1) := by decide +kernel
theorem dX4_addPlace_52 : decode cX4_addPlace 52 = .ok (.dup, 1) := by decide +kernel
theorem dX4_addPlace_53 : decode cX4_addPlace 53 = .ok (.getfield 9, 3) := by decide +kernel
theorem dX4_addPlace_56 : decode cX4_addPlace 56 = .ok (.iconst 1, 1) := by decide +kernel
theorem dX4_addPlace_57 : decode cX4_addPlace 57 = .ok (.iadd, 1) := by decide +kernel
theorem dX4_addPlace_58 : decode cX4_addPlace 58 = .ok (.putfield 9, 3) := by decide +kernel
theorem dX4_addPlace_61 : decode cX4_addPlace 61 = .ok (.return_, 1) := by decide +kernel
theorem dX4_setTrade_0 : decode cX4_setTrade 0 = .ok (.aload_n 0, 1) := by decide +kernel
theorem dX4_setTrade_1 : decode cX4_setTrade 1 = .ok (.iload_n 1, 1) := by decide +kernel
theorem dX4_setTrade_2 : decode cX4_setTrade 2 = .ok (.invokevirtual 43, 3) := by decide +kernel
theorem dX4_setTrade_5 : decode cX4_setTrade 5 = .ok (.ifCond .eq 35, 3) := by decide +kernel
theorem dX4_setTrade_8 : decode cX4_setTrade 8 = .ok (.aload_n 0, 1) := by decide +kernel
theorem dX4_setTrade_9 : decode cX4_setTrade 9 = .ok (.iload_n 2, 1) := by decide +kernel
theorem dX4_setTrade_10 : decode cX4_setTrade 10 = .ok (.invokevirtual 43, 3) := by decide +kernel
theorem dX4_setTrade_13 : decode cX4_setTrade 13 = .ok (.ifCond .eq 27, 3) := by decide +kernel
theorem dX4_setTrade_16 : decode cX4_setTrade 16 = .ok (.aload_n 0, 1) := by decide +kernel
theorem dX4_setTrade_17 : decode cX4_setTrade 17 = .ok (.getfield 34, 3) := by decide +kernel
theorem dX4_setTrade_20 : decode cX4_setTrade 20 = .ok (.iload_n 1, 1) := by decide +kernel
theorem dX4_setTrade_21 : decode cX4_setTrade 21 = .ok (.bipush 10, 2) := by decide +kernel
theorem dX4_setTrade_23 : decode cX4_setTrade 23 = .ok (.imul, 1) := by decide +kernel
theorem dX4_setTrade_24 : decode cX4_setTrade 24 = .ok (.iload_n 2, 1) := by decide +kernel
theorem dX4_setTrade_25 : decode cX4_setTrade 25 = .ok (.iadd, 1) := by decide +kernel
theorem dX4_setTrade_26 : decode cX4_setTrade 26 = .ok (.iload_n 3, 1) := by decide +kernel
theorem dX4_setTrade_27 : decode cX4_setTrade 27 = .ok (.iastore, 1) := by decide +kernel
theorem dX4_setTrade_28 : decode cX4_setTrade 28 = .ok (.aload_n 0, 1) := by decide +kernel
theorem dX4_setTrade_29 : decode cX4_setTrade 29 = .ok (.getfield 34, 3) := by decide +kernel
theorem dX4_setTrade_32 : decode cX4_setTrade 32 = .ok (.iload_n 2, 1) := by decide +kernel
theorem dX4_setTrade_33 : decode cX4_setTrade 33 = .ok (.bipush 10, 2) := by decide +kernel
theorem dX4_setTrade_35 : decode cX4_setTrade 35 = .ok (.imul, 1) := by decide +kernel
theorem dX4_setTrade_36 : decode cX4_setTrade 36 = .ok (.iload_n 1, 1) := by decide +kernel
theorem dX4_setTrade_37 : decode cX4_setTrade 37 = .ok (.iadd, 1) := by decide +kernel
theorem dX4_setTrade_38 : decode cX4_setTrade 38 = .ok (.iload_n 3, 1) := by decide +kernel
theorem dX4_setTrade_39 : decode cX4_setTrade 39 = .ok (.iastore, 1) := by decide +kernel
theorem dX4_setTrade_40 : decode cX4_setTrade 40 = .ok (.return_, 1) := by decide +kernel
theorem dX4_sunMinutes_0 : decode cX4_sunMinutes 0 = .ok (.iload_n 0, 1) := by decide +kernel
theorem dX4_sunMinutes_1 : decode cX4_sunMinutes 1 = .ok (.iload_n 2, 1) := by decide +kernel
theorem dX4_sunMinutes_2 : decode cX4_sunMinutes 2 = .ok (.isub, 1) := by decide +kernel
theorem dX4_sunMinutes_3 : decode cX4_sunMinutes 3 = .ok (.sipush 360, 3) := by decide +kernel
theorem dX4_sunMinutes_6 : decode cX4_sunMinutes 6 = .ok (.invokestatic 47, 3) := by decide +kernel
theorem dX4_sunMinutes_9 : decode cX4_sunMinutes 9 = .ok (.istore_n 3, 1) := by decide +kernel
theorem dX4_sunMinutes_10 : decode cX4_sunMinutes 10 = .ok (.iload_n 1, 1) := by decide +kernel
theorem dX4_sunMinutes_11 : decode cX4_sunMinutes 11 = .ok (.iconst 4, 1) := by decide +kernel
theorem dX4_sunMinutes_12 : decode cX4_sunMinutes 12 = .ok (.iload_n 3, 1) := by decide +kernel
theorem dX4_sunMinutes_13 : decode cX4_sunMinutes 13 = .ok (.imul, 1) := by decide +kernel
theorem dX4_sunMinutes_14 : decode cX4_sunMinutes 14 = .ok (.iadd, 1) := by decide +kernel
theorem dX4_sunMinutes_15 : decode cX4_sunMinutes 15 = .ok (.sipush 720, 3) := by decide +kernel
theorem dX4_sunMinutes_18 : decode cX4_sunMinutes 18 = .ok (.isub, 1) := by decide +kernel
theorem dX4_sunMinutes_19 : decode cX4_sunMinutes 19 = .ok (.ireturn, 1) := by decide +kernel
theorem dX4_dayIn_0 : decode cX4_dayIn 0 = .ok (.aload_n 0, 1) := by decide +kernel
theorem dX4_dayIn_1 : decode cX4_dayIn 1 = .ok (.iload_n 1, 1) := by decide +kernel
theorem dX4_dayIn_2 : decode cX4_dayIn 2 = .ok (.invokevirtual 43, 3) := by decide +kernel
theorem dX4_dayIn_5 : decode cX4_dayIn 5 = .ok (.ifCond .ne 5, 3) := by decide +kernel
theorem dX4_dayIn_8 : decode cX4_dayIn 8 = .ok (.iconst 0, 1) := by decide +kernel
theorem dX4_dayIn_9 : decode cX4_dayIn 9 = .ok (.ireturn, 1) := by decide +kernel
theorem dX4_dayIn_10 : decode cX4_dayIn 10 = .ok (.aload_n 0, 1) := by decide +kernel
theorem dX4_dayIn_11 : decode cX4_dayIn 11 = .ok (.getfield 21, 3) := by decide +kernel
theorem dX4_dayIn_14 : decode cX4_dayIn 14 = .ok (.iload_n 1, 1) := by decide +kernel
theorem dX4_dayIn_15 : decode cX4_dayIn 15 = .ok (.iaload, 1) := by decide +kernel
theorem dX4_dayIn_16 : decode cX4_dayIn 16 = .ok (.iload_n 2, 1) := by decide +kernel
theorem dX4_dayIn_17 : decode cX4_dayIn 17 = .ok (.iload_n 3, 1) := by decide +kernel
theorem dX4_dayIn_18 : decode cX4_dayIn 18 = .ok (.invokestatic 53, 3) := by decide +kernel
theorem dX4_dayIn_21 : decode cX4_dayIn 21 = .ok (.istore 4, 2) := by decide +kernel
theorem dX4_dayIn_23 : decode cX4_dayIn 23 = .ok (.aload_n 0, 1) := by decide +kernel
theorem dX4_dayIn_24 : decode cX4_dayIn 24 = .ok (.getfield 25, 3) := by decide +kernel
theorem dX4_dayIn_27 : decode cX4_dayIn 27 = .ok (.iload_n 1, 1) := by decide +kernel
theorem dX4_dayIn_28 : decode cX4_dayIn 28 = .ok (.iaload, 1) := by decide +kernel
theorem dX4_dayIn_29 : decode cX4_dayIn 29 = .ok (.iconst 1, 1) := by decide +kernel
theorem dX4_dayIn_30 : decode cX4_dayIn 30 = .ok (.if_icmp .ne 12, 3) := by decide +kernel
theorem dX4_dayIn_33 : decode cX4_dayIn 33 = .ok (.iinc 4 360, 6) := by decide +kernel
theorem dX4_dayIn_39 : decode cX4_dayIn 39 = .ok (.goto 19, 3) := by decide +kernel
theorem dX4_dayIn_42 : decode cX4_dayIn 42 = .ok (.aload_n 0, 1) := by decide +kernel
theorem dX4_dayIn_43 : decode cX4_dayIn 43 = .ok (.getfield 25, 3) := by decide +kernel
theorem dX4_dayIn_46 : decode cX4_dayIn 46 = .ok (.iload_n 1, 1) := by decide +kernel
theorem dX4_dayIn_47 : decode cX4_dayIn 47 = .ok (.iaload, 1) := by decide +kernel
theorem dX4_dayIn_48 : decode cX4_dayIn 48 = .ok (.iconst 2, 1) := by decide +kernel
theorem dX4_dayIn_49 : decode cX4_dayIn 49 = .ok (.if_icmp .ne 9, 3) := by decide +kernel
theorem dX4_dayIn_52 : decode cX4_dayIn 52 = .ok (.iinc 4 (-360), 6) := by decide +kernel
theorem dX4_dayIn_58 : decode cX4_dayIn 58 = .ok (.iload 4, 2) := by decide +kernel
theorem dX4_dayIn_60 : decode cX4_dayIn 60 = .ok (.sipush 1440, 3) := by decide +kernel
theorem dX4_dayIn_63 : decode cX4_dayIn 63 = .ok (.invokestatic 57, 3) := by decide +kernel
theorem dX4_dayIn_66 : decode cX4_dayIn 66 = .ok (.aload_n 0, 1) := by decide +kernel
theorem dX4_dayIn_67 : decode cX4_dayIn 67 = .ok (.getfield 28, 3) := by decide +kernel
theorem dX4_dayIn_70 : decode cX4_dayIn 70 = .ok (.iload_n 1, 1) := by decide +kernel
theorem dX4_dayIn_71 : decode cX4_dayIn 71 = .ok (.iaload, 1) := by decide +kernel
theorem dX4_dayIn_72 : decode cX4_dayIn 72 = .ok (.iadd, 1) := by decide +kernel
theorem dX4_dayIn_73 : decode cX4_dayIn 73 = .ok (.ireturn, 1) := by decide +kernel
theorem dX4_wrongWith_0 : decode cX4_wrongWith 0 = .ok (.iconst 0, 1) := by decide +kernel
theorem dX4_wrongWith_1 : decode cX4_wrongWith 1 = .ok (.istore_n 3, 1) := by decide +kernel
theorem dX4_wrongWith_2 : decode cX4_wrongWith 2 = .ok (.iconst 0, 1) := by decide +kernel
theorem dX4_wrongWith_3 : decode cX4_wrongWith 3 = .ok (.istore 4, 2) := by decide +kernel
theorem dX4_wrongWith_5 : decode cX4_wrongWith 5 = .ok (.iload 4, 2) := by decide +kernel
theorem dX4_wrongWith_7 : decode cX4_wrongWith 7 = .ok (.aload_n 0, 1) := by decide +kernel
theorem dX4_wrongWith_8 : decode cX4_wrongWith 8 = .ok (.getfield 9, 3) := by decide +kernel
theorem dX4_wrongWith_11 : decode cX4_wrongWith 11 = .ok (.if_icmp .ge 94, 3) := by decide +kernel
theorem dX4_wrongWith_14 : decode cX4_wrongWith 14 = .ok (.aload_n 0, 1) := by decide +kernel
theorem dX4_wrongWith_15 : decode cX4_wrongWith 15 = .ok (.iload 4, 2) := by decide +kernel
theorem dX4_wrongWith_17 : decode cX4_wrongWith 17 = .ok (.iload_n 2, 1) := by decide +kernel
theorem dX4_wrongWith_18 : decode cX4_wrongWith 18 = .ok (.iload_n 1, 1) := by decide +kernel
theorem dX4_wrongWith_19 : decode cX4_wrongWith 19 = .ok (.invokevirtual 60, 3) := by decide +kernel
theorem dX4_wrongWith_22 : decode cX4_wrongWith 22 = .ok (.istore 5, 2) := by decide +kernel
theorem dX4_wrongWith_24 : decode cX4_wrongWith 24 = .ok (.iload 4, 2) := by decide +kernel
theorem dX4_wrongWith_26 : decode cX4_wrongWith 26 = .ok (.iconst 1, 1) := by decide +kernel
theorem dX4_wrongWith_27 : decode cX4_wrongWith 27 = .ok (.iadd, 1) := by decide +kernel
theorem dX4_wrongWith_28 : decode cX4_wrongWith 28 = .ok (.istore 6, 2) := by decide +kernel
theorem dX4_wrongWith_30 : decode cX4_wrongWith 30 = .ok (.iload 6, 2) := by decide +kernel
theorem dX4_wrongWith_32 : decode cX4_wrongWith 32 = .ok (.aload_n 0, 1) := by decide +kernel
theorem dX4_wrongWith_33 : decode cX4_wrongWith 33 = .ok (.getfield 9, 3) := by decide +kernel
theorem dX4_wrongWith_36 : decode cX4_wrongWith 36 = .ok (.if_icmp .ge 63, 3) := by decide +kernel
theorem dX4_wrongWith_39 : decode cX4_wrongWith 39 = .ok (.aload_n 0, 1) := by decide +kernel
theorem dX4_wrongWith_40 : decode cX4_wrongWith 40 = .ok (.getfield 34, 3) := by decide +kernel
theorem dX4_wrongWith_43 : decode cX4_wrongWith 43 = .ok (.iload 4, 2) := by decide +kernel
theorem dX4_wrongWith_45 : decode cX4_wrongWith 45 = .ok (.bipush 10, 2) := by decide +kernel
theorem dX4_wrongWith_47 : decode cX4_wrongWith 47 = .ok (.imul, 1) := by decide +kernel
theorem dX4_wrongWith_48 : decode cX4_wrongWith 48 = .ok (.iload 6, 2) := by decide +kernel
theorem dX4_wrongWith_50 : decode cX4_wrongWith 50 = .ok (.iadd, 1) := by decide +kernel
theorem dX4_wrongWith_51 : decode cX4_wrongWith 51 = .ok (.iaload, 1) := by decide +kernel
theorem dX4_wrongWith_52 : decode cX4_wrongWith 52 = .ok (.istore 7, 2) := by decide +kernel
theorem dX4_wrongWith_54 : decode cX4_wrongWith 54 = .ok (.iload 7, 2) := by decide +kernel
theorem dX4_wrongWith_56 : decode cX4_wrongWith 56 = .ok (.ifCond .le 37, 3) := by decide +kernel
theorem dX4_wrongWith_59 : decode cX4_wrongWith 59 = .ok (.iload 5, 2) := by decide +kernel
theorem dX4_wrongWith_61 : decode cX4_wrongWith 61 = .ok (.aload_n 0, 1) := by decide +kernel
theorem dX4_wrongWith_62 : decode cX4_wrongWith 62 = .ok (.iload 6, 2) := by decide +kernel
theorem dX4_wrongWith_64 : decode cX4_wrongWith 64 = .ok (.iload_n 2, 1) := by decide +kernel
theorem dX4_wrongWith_65 : decode cX4_wrongWith 65 = .ok (.iload_n 1, 1) := by decide +kernel
theorem dX4_wrongWith_66 : decode cX4_wrongWith 66 = .ok (.invokevirtual 60, 3) := by decide +kernel
theorem dX4_wrongWith_69 : decode cX4_wrongWith 69 = .ok (.if_icmp .eq 24, 3) := by decide +kernel
theorem dX4_wrongWith_72 : decode cX4_wrongWith 72 = .ok (.iload_n 3, 1) := by decide +kernel
theorem dX4_wrongWith_73 : decode cX4_wrongWith 73 = .ok (.iload 7, 2) := by decide +kernel
theorem dX4_wrongWith_75 : decode cX4_wrongWith 75 = .ok (.aload_n 0, 1) := by decide +kernel
theorem dX4_wrongWith_76 : decode cX4_wrongWith 76 = .ok (.getfield 31, 3) := by decide +kernel
theorem dX4_wrongWith_79 : decode cX4_wrongWith 79 = .ok (.iload 4, 2) := by decide +kernel
theorem dX4_wrongWith_81 : decode cX4_wrongWith 81 = .ok (.iaload, 1) := by decide +kernel
theorem dX4_wrongWith_82 : decode cX4_wrongWith 82 = .ok (.aload_n 0, 1) := by decide +kernel
theorem dX4_wrongWith_83 : decode cX4_wrongWith 83 = .ok (.getfield 31, 3) := by decide +kernel
theorem dX4_wrongWith_86 : decode cX4_wrongWith 86 = .ok (.iload 6, 2) := by decide +kernel
theorem dX4_wrongWith_88 : decode cX4_wrongWith 88 = .ok (.iaload, 1) := by decide +kernel
theorem dX4_wrongWith_89 : decode cX4_wrongWith 89 = .ok (.iadd, 1) := by decide +kernel
theorem dX4_wrongWith_90 : decode cX4_wrongWith 90 = .ok (.imul, 1) := by decide +kernel
theorem dX4_wrongWith_91 : decode cX4_wrongWith 91 = .ok (.iadd, 1) := by decide +kernel
theorem dX4_wrongWith_92 : decode cX4_wrongWith 92 = .ok (.istore_n 3, 1) := by decide +kernel
theorem dX4_wrongWith_93 : decode cX4_wrongWith 93 = .ok (.iinc 6 1, 3) := by decide +kernel
theorem dX4_wrongWith_96 : decode cX4_wrongWith 96 = .ok (.goto (-66), 3) := by decide +kernel
theorem dX4_wrongWith_99 : decode cX4_wrongWith 99 = .ok (.iinc 4 1, 3) := by decide +kernel
theorem dX4_wrongWith_102 : decode cX4_wrongWith 102 = .ok (.goto (-97), 3) := by decide +kernel
theorem dX4_wrongWith_105 : decode cX4_wrongWith 105 = .ok (.iload_n 3, 1) := by decide +kernel
theorem dX4_wrongWith_106 : decode cX4_wrongWith 106 = .ok (.ireturn, 1) := by decide +kernel
theorem dX4_locate_0 : decode cX4_locate 0 = .ok (.aload_n 1, 1) := by decide +kernel
theorem dX4_locate_1 : decode cX4_locate 1 = .ok (.getfield 63, 3) := by decide +kernel
theorem dX4_locate_4 : decode cX4_locate 4 = .ok (.istore 5, 2) := by decide +kernel
theorem dX4_locate_6 : decode cX4_locate 6 = .ok (.iconst 0, 1) := by decide +kernel
theorem dX4_locate_7 : decode cX4_locate 7 = .ok (.istore 6, 2) := by decide +kernel
theorem dX4_locate_9 : decode cX4_locate 9 = .ok (.aload_n 0, 1) := by decide +kernel
theorem dX4_locate_10 : decode cX4_locate 10 = .ok (.iload 5, 2) := by decide +kernel
theorem dX4_locate_12 : decode cX4_locate 12 = .ok (.invokevirtual 66, 3) := by decide +kernel
theorem dX4_locate_15 : decode cX4_locate 15 = .ok (.aload_n 0, 1) := by decide +kernel
theorem dX4_locate_16 : decode cX4_locate 16 = .ok (.getfield 18, 3) := by decide +kernel
theorem dX4_locate_19 : decode cX4_locate 19 = .ok (.isub, 1) := by decide +kernel
theorem dX4_locate_20 : decode cX4_locate 20 = .ok (.sipush 360, 3) := by decide +kernel
theorem dX4_locate_23 : decode cX4_locate 23 = .ok (.invokestatic 47, 3) := by decide +kernel
theorem dX4_locate_26 : decode cX4_locate 26 = .ok (.istore 7, 2) := by decide +kernel
theorem dX4_locate_28 : decode cX4_locate 28 = .ok (.aload 4, 2) := by decide +kernel
theorem dX4_locate_30 : decode cX4_locate 30 = .ok (.iconst 0, 1) := by decide +kernel
theorem dX4_locate_31 : decode cX4_locate 31 = .ok (.putfield 70, 3) := by decide +kernel
theorem dX4_locate_34 : decode cX4_locate 34 = .ok (.iconst 0, 1) := by decide +kernel
theorem dX4_locate_35 : decode cX4_locate 35 = .ok (.istore 8, 2) := by decide +kernel
theorem dX4_locate_37 : decode cX4_locate 37 = .ok (.iload 8, 2) := by decide +kernel
theorem dX4_locate_39 : decode cX4_locate 39 = .ok (.aload_n 1, 1) := by decide +kernel
theorem dX4_locate_40 : decode cX4_locate 40 = .ok (.getfield 75, 3) := by decide +kernel
theorem dX4_locate_43 : decode cX4_locate 43 = .ok (.if_icmp .ge 160, 3) := by decide +kernel
theorem dX4_locate_46 : decode cX4_locate 46 = .ok (.iload_n 3, 1) := by decide +kernel
theorem dX4_locate_47 : decode cX4_locate 47 = .ok (.aload_n 1, 1) := by decide +kernel
theorem dX4_locate_48 : decode cX4_locate 48 = .ok (.getfield 78, 3) := by decide +kernel
theorem dX4_locate_51 : decode cX4_locate 51 = .ok (.iload 8, 2) := by decide +kernel
theorem dX4_locate_53 : decode cX4_locate 53 = .ok (.iaload, 1) := by decide +kernel
theorem dX4_locate_54 : decode cX4_locate 54 = .ok (.if_icmp .le 149, 3) := by decide +kernel
theorem dX4_locate_57 : decode cX4_locate 57 = .ok (.aload_n 0, 1) := by decide +kernel
theorem dX4_locate_58 : decode cX4_locate 58 = .ok (.iload 5, 2) := by decide +kernel
theorem dX4_locate_60 : decode cX4_locate 60 = .ok (.aload_n 1, 1) := by decide +kernel
theorem dX4_locate_61 : decode cX4_locate 61 = .ok (.getfield 81, 3) := by decide +kernel
theorem dX4_locate_64 : decode cX4_locate 64 = .ok (.iload 8, 2) := by decide +kernel
theorem dX4_locate_66 : decode cX4_locate 66 = .ok (.iaload, 1) := by decide +kernel
theorem dX4_locate_67 : decode cX4_locate 67 = .ok (.iload_n 2, 1) := by decide +kernel
theorem dX4_locate_68 : decode cX4_locate 68 = .ok (.iload 8, 2) := by decide +kernel
theorem dX4_locate_70 : decode cX4_locate 70 = .ok (.ishr, 1) := by decide +kernel
theorem dX4_locate_71 : decode cX4_locate 71 = .ok (.iconst 1, 1) := by decide +kernel
theorem dX4_locate_72 : decode cX4_locate 72 = .ok (.iand, 1) := by decide +kernel
theorem dX4_locate_73 : decode cX4_locate 73 = .ok (.ifCond .eq 7, 3) := by decide +kernel
theorem dX4_locate_76 : decode cX4_locate 76 = .ok (.iconst 1, 1) := by decide +kernel
theorem dX4_locate_77 : decode cX4_locate 77 = .ok (.goto 4, 3) := by decide +kernel
theorem dX4_locate_80 : decode cX4_locate 80 = .ok (.iconst 0, 1) := by decide +kernel
theorem dX4_locate_81 : decode cX4_locate 81 = .ok (.invokevirtual 84, 3) := by decide +kernel
theorem dX4_locate_84 : decode cX4_locate 84 = .ok (.istore 9, 2) := by decide +kernel
theorem dX4_locate_86 : decode cX4_locate 86 = .ok (.iload_n 3, 1) := by decide +kernel
theorem dX4_locate_87 : decode cX4_locate 87 = .ok (.aload_n 1, 1) := by decide +kernel
theorem dX4_locate_88 : decode cX4_locate 88 = .ok (.getfield 88, 3) := by decide +kernel
theorem dX4_locate_91 : decode cX4_locate 91 = .ok (.iload 8, 2) := by decide +kernel
theorem dX4_locate_93 : decode cX4_locate 93 = .ok (.iaload, 1) := by decide +kernel
theorem dX4_locate_94 : decode cX4_locate 94 = .ok (.if_icmp .ge 75, 3) := by decide +kernel
theorem dX4_locate_97 : decode cX4_locate 97 = .ok (.aload 4, 2) := by decide +kernel
theorem dX4_locate_99 : decode cX4_locate 99 = .ok (.iload 8, 2) := by decide +kernel
theorem dX4_locate_101 : decode cX4_locate 101 = .ok (.aload_n 1, 1) := by decide +kernel
theorem dX4_locate_102 : decode cX4_locate 102 = .ok (.getfield 88, 3) := by decide +kernel
theorem dX4_locate_105 : decode cX4_locate 105 = .ok (.iload 8, 2) := by decide +kernel
theorem dX4_locate_107 : decode cX4_locate 107 = .ok (.iaload, 1) := by decide +kernel
theorem dX4_locate_108 : decode cX4_locate 108 = .ok (.aload_n 1, 1) := by decide +kernel
theorem dX4_locate_109 : decode cX4_locate 109 = .ok (.getfield 78, 3) := by decide +kernel
theorem dX4_locate_112 : decode cX4_locate 112 = .ok (.iload 8, 2) := by decide +kernel
theorem dX4_locate_114 : decode cX4_locate 114 = .ok (.iaload, 1) := by decide +kernel
theorem dX4_locate_115 : decode cX4_locate 115 = .ok (.isub, 1) := by decide +kernel
theorem dX4_locate_116 : decode cX4_locate 116 = .ok (.invokevirtual 91, 3) := by decide +kernel
theorem dX4_locate_119 : decode cX4_locate 119 = .ok (.aload 4, 2) := by decide +kernel
theorem dX4_locate_121 : decode cX4_locate 121 = .ok (.iload 6, 2) := by decide +kernel
theorem dX4_locate_123 : decode cX4_locate 123 = .ok (.i2l, 1) := by decide +kernel
theorem dX4_locate_124 : decode cX4_locate 124 = .ok (.aload 4, 2) := by decide +kernel
theorem dX4_locate_126 : decode cX4_locate 126 = .ok (.getfield 95, 3) := by decide +kernel
theorem dX4_locate_129 : decode cX4_locate 129 = .ok (.lmul, 1) := by decide +kernel
theorem dX4_locate_130 : decode cX4_locate 130 = .ok (.iload 9, 2) := by decide +kernel
theorem dX4_locate_132 : decode cX4_locate 132 = .ok (.i2l, 1) := by decide +kernel
theorem dX4_locate_133 : decode cX4_locate 133 = .ok (.iload_n 3, 1) := by decide +kernel
theorem dX4_locate_134 : decode cX4_locate 134 = .ok (.aload_n 1, 1) := by decide +kernel
theorem dX4_locate_135 : decode cX4_locate 135 = .ok (.getfield 78, 3) := by decide +kernel
theorem dX4_locate_138 : decode cX4_locate 138 = .ok (.iload 8, 2) := by decide +kernel
theorem dX4_locate_140 : decode cX4_locate 140 = .ok (.iaload, 1) := by decide +kernel
theorem dX4_locate_141 : decode cX4_locate 141 = .ok (.isub, 1) := by decide +kernel
theorem dX4_locate_142 : decode cX4_locate 142 = .ok (.i2l, 1) := by decide +kernel
theorem dX4_locate_143 : decode cX4_locate 143 = .ok (.lmul, 1) := by decide +kernel
theorem dX4_locate_144 : decode cX4_locate 144 = .ok (.ladd, 1) := by decide +kernel
theorem dX4_locate_145 : decode cX4_locate 145 = .ok (.putfield 99, 3) := by decide +kernel
theorem dX4_locate_148 : decode cX4_locate 148 = .ok (.aload 4, 2) := by decide +kernel
theorem dX4_locate_150 : decode cX4_locate 150 = .ok (.iload 7, 2) := by decide +kernel
theorem dX4_locate_152 : decode cX4_locate 152 = .ok (.i2l, 1) := by decide +kernel
theorem dX4_locate_153 : decode cX4_locate 153 = .ok (.aload 4, 2) := by decide +kernel
theorem dX4_locate_155 : decode cX4_locate 155 = .ok (.getfield 95, 3) := by decide +kernel
theorem dX4_locate_158 : decode cX4_locate 158 = .ok (.lmul, 1) := by decide +kernel
theorem dX4_locate_159 : decode cX4_locate 159 = .ok (.aload 4, 2) := by decide +kernel
theorem dX4_locate_161 : decode cX4_locate 161 = .ok (.getfield 99, 3) := by decide +kernel
theorem dX4_locate_164 : decode cX4_locate 164 = .ok (.ladd, 1) := by decide +kernel
theorem dX4_locate_165 : decode cX4_locate 165 = .ok (.putfield 102, 3) := by decide +kernel
theorem dX4_locate_168 : decode cX4_locate 168 = .ok (.return_, 1) := by decide +kernel
theorem dX4_locate_169 : decode cX4_locate 169 = .ok (.iload 6, 2) := by decide +kernel
theorem dX4_locate_171 : decode cX4_locate 171 = .ok (.iload 9, 2) := by decide +kernel
theorem dX4_locate_173 : decode cX4_locate 173 = .ok (.iadd, 1) := by decide +kernel
theorem dX4_locate_174 : decode cX4_locate 174 = .ok (.istore 6, 2) := by decide +kernel
theorem dX4_locate_176 : decode cX4_locate 176 = .ok (.aload_n 1, 1) := by decide +kernel
theorem dX4_locate_177 : decode cX4_locate 177 = .ok (.getfield 81, 3) := by decide +kernel
theorem dX4_locate_180 : decode cX4_locate 180 = .ok (.iload 8, 2) := by decide +kernel
theorem dX4_locate_182 : decode cX4_locate 182 = .ok (.iaload, 1) := by decide +kernel
theorem dX4_locate_183 : decode cX4_locate 183 = .ok (.istore 5, 2) := by decide +kernel
theorem dX4_locate_185 : decode cX4_locate 185 = .ok (.aload 4, 2) := by decide +kernel
theorem dX4_locate_187 : decode cX4_locate 187 = .ok (.aload_n 1, 1) := by decide +kernel
theorem dX4_locate_188 : decode cX4_locate 188 = .ok (.getfield 88, 3) := by decide +kernel
theorem dX4_locate_191 : decode cX4_locate 191 = .ok (.iload 8, 2) := by decide +kernel
theorem dX4_locate_193 : decode cX4_locate 193 = .ok (.iaload, 1) := by decide +kernel
theorem dX4_locate_194 : decode cX4_locate 194 = .ok (.putfield 70, 3) := by decide +kernel
theorem dX4_locate_197 : decode cX4_locate 197 = .ok (.iinc 8 1, 3) := by decide +kernel
theorem dX4_locate_200 : decode cX4_locate 200 = .ok (.goto (-163), 3) := by decide +kernel
theorem dX4_locate_203 : decode cX4_locate 203 = .ok (.aload 4, 2) := by decide +kernel
theorem dX4_locate_205 : decode cX4_locate 205 = .ok (.iload 5, 2) := by decide +kernel
theorem dX4_locate_207 : decode cX4_locate 207 = .ok (.invokevirtual 105, 3) := by decide +kernel
theorem dX4_locate_210 : decode cX4_locate 210 = .ok (.aload 4, 2) := by decide +kernel
theorem dX4_locate_212 : decode cX4_locate 212 = .ok (.iload 6, 2) := by decide +kernel
theorem dX4_locate_214 : decode cX4_locate 214 = .ok (.i2l, 1) := by decide +kernel
theorem dX4_locate_215 : decode cX4_locate 215 = .ok (.putfield 99, 3) := by decide +kernel
theorem dX4_locate_218 : decode cX4_locate 218 = .ok (.aload 4, 2) := by decide +kernel
theorem dX4_locate_220 : decode cX4_locate 220 = .ok (.iload 7, 2) := by decide +kernel
theorem dX4_locate_222 : decode cX4_locate 222 = .ok (.iload 6, 2) := by decide +kernel
theorem dX4_locate_224 : decode cX4_locate 224 = .ok (.iadd, 1) := by decide +kernel
theorem dX4_locate_225 : decode cX4_locate 225 = .ok (.i2l, 1) := by decide +kernel
theorem dX4_locate_226 : decode cX4_locate 226 = .ok (.putfield 102, 3) := by decide +kernel
theorem dX4_locate_229 : decode cX4_locate 229 = .ok (.return_, 1) := by decide +kernel
theorem dX4_degreesOf_0 : decode cX4_degreesOf 0 = .ok (.aload_n 0, 1) := by decide +kernel
theorem dX4_degreesOf_1 : decode cX4_degreesOf 1 = .ok (.iload_n 2, 1) := by decide +kernel
theorem dX4_degreesOf_2 : decode cX4_degreesOf 2 = .ok (.invokevirtual 66, 3) := by decide +kernel
theorem dX4_degreesOf_5 : decode cX4_degreesOf 5 = .ok (.aload_n 0, 1) := by decide +kernel
theorem dX4_degreesOf_6 : decode cX4_degreesOf 6 = .ok (.iload_n 1, 1) := by decide +kernel
theorem dX4_degreesOf_7 : decode cX4_degreesOf 7 = .ok (.invokevirtual 66, 3) := by decide +kernel
theorem dX4_degreesOf_10 : decode cX4_degreesOf 10 = .ok (.isub, 1) := by decide +kernel
theorem dX4_degreesOf_11 : decode cX4_degreesOf 11 = .ok (.istore 4, 2) := by decide +kernel
theorem dX4_degreesOf_13 : decode cX4_degreesOf 13 = .ok (.iload_n 3, 1) := by decide +kernel
theorem dX4_degreesOf_14 : decode cX4_degreesOf 14 = .ok (.ifCond .eq 14, 3) := by decide +kernel
theorem dX4_degreesOf_17 : decode cX4_degreesOf 17 = .ok (.iload 4, 2) := by decide +kernel
theorem dX4_degreesOf_19 : decode cX4_degreesOf 19 = .ok (.sipush 360, 3) := by decide +kernel
theorem dX4_degreesOf_22 : decode cX4_degreesOf 22 = .ok (.invokestatic 47, 3) := by decide +kernel
theorem dX4_degreesOf_25 : decode cX4_degreesOf 25 = .ok (.goto 13, 3) := by decide +kernel
theorem dX4_degreesOf_28 : decode cX4_degreesOf 28 = .ok (.iload 4, 2) := by decide +kernel
theorem dX4_degreesOf_30 : decode cX4_degreesOf 30 = .ok (.ineg, 1) := by decide +kernel
theorem dX4_degreesOf_31 : decode cX4_degreesOf 31 = .ok (.sipush 360, 3) := by decide +kernel
theorem dX4_degreesOf_34 : decode cX4_degreesOf 34 = .ok (.invokestatic 47, 3) := by decide +kernel
theorem dX4_degreesOf_37 : decode cX4_degreesOf 37 = .ok (.ineg, 1) := by decide +kernel
theorem dX4_degreesOf_38 : decode cX4_degreesOf 38 = .ok (.ireturn, 1) := by decide +kernel
theorem dX4_allLegs_0 : decode cX4_allLegs 0 = .ok (.iconst 0, 1) := by decide +kernel
theorem dX4_allLegs_1 : decode cX4_allLegs 1 = .ok (.istore_n 1, 1) := by decide +kernel
theorem dX4_allLegs_2 : decode cX4_allLegs 2 = .ok (.iconst 0, 1) := by decide +kernel
theorem dX4_allLegs_3 : decode cX4_allLegs 3 = .ok (.istore_n 2, 1) := by decide +kernel
theorem dX4_allLegs_4 : decode cX4_allLegs 4 = .ok (.iload_n 2, 1) := by decide +kernel
theorem dX4_allLegs_5 : decode cX4_allLegs 5 = .ok (.aload_n 0, 1) := by decide +kernel
theorem dX4_allLegs_6 : decode cX4_allLegs 6 = .ok (.getfield 15, 3) := by decide +kernel
theorem dX4_allLegs_9 : decode cX4_allLegs 9 = .ok (.if_icmp .ge 31, 3) := by decide +kernel
theorem dX4_allLegs_12 : decode cX4_allLegs 12 = .ok (.aload_n 0, 1) := by decide +kernel
theorem dX4_allLegs_13 : decode cX4_allLegs 13 = .ok (.getfield 39, 3) := by decide +kernel
theorem dX4_allLegs_16 : decode cX4_allLegs 16 = .ok (.iload_n 2, 1) := by decide +kernel
theorem dX4_allLegs_17 : decode cX4_allLegs 17 = .ok (.aaload, 1) := by decide +kernel
theorem dX4_allLegs_18 : decode cX4_allLegs 18 = .ok (.astore_n 3, 1) := by decide +kernel
theorem dX4_allLegs_19 : decode cX4_allLegs 19 = .ok (.iload_n 1, 1) := by decide +kernel
theorem dX4_allLegs_20 : decode cX4_allLegs 20 = .ok (.aload_n 3, 1) := by decide +kernel
theorem dX4_allLegs_21 : decode cX4_allLegs 21 = .ok (.ifnonnull 7, 3) := by decide +kernel
theorem dX4_allLegs_24 : decode cX4_allLegs 24 = .ok (.iconst 0, 1) := by decide +kernel
theorem dX4_allLegs_25 : decode cX4_allLegs 25 = .ok (.goto 7, 3) := by decide +kernel
theorem dX4_allLegs_28 : decode cX4_allLegs 28 = .ok (.aload_n 3, 1) := by decide +kernel
theorem dX4_allLegs_29 : decode cX4_allLegs 29 = .ok (.getfield 75, 3) := by decide +kernel
theorem dX4_allLegs_32 : decode cX4_allLegs 32 = .ok (.iadd, 1) := by decide +kernel
theorem dX4_allLegs_33 : decode cX4_allLegs 33 = .ok (.istore_n 1, 1) := by decide +kernel
theorem dX4_allLegs_34 : decode cX4_allLegs 34 = .ok (.iinc 2 1, 3) := by decide +kernel
theorem dX4_allLegs_37 : decode cX4_allLegs 37 = .ok (.goto (-33), 3) := by decide +kernel
theorem dX4_allLegs_40 : decode cX4_allLegs 40 = .ok (.iload_n 1, 1) := by decide +kernel
theorem dX4_allLegs_41 : decode cX4_allLegs 41 = .ok (.ireturn, 1) := by decide +kernel
theorem dX4_allPeople_0 : decode cX4_allPeople 0 = .ok (.iconst 0, 1) := by decide +kernel
theorem dX4_allPeople_1 : decode cX4_allPeople 1 = .ok (.istore_n 1, 1) := by decide +kernel
theorem dX4_allPeople_2 : decode cX4_allPeople 2 = .ok (.iconst 0, 1) := by decide +kernel
theorem dX4_allPeople_3 : decode cX4_allPeople 3 = .ok (.istore_n 2, 1) := by decide +kernel
theorem dX4_allPeople_4 : decode cX4_allPeople 4 = .ok (.iload_n 2, 1) := by decide +kernel
theorem dX4_allPeople_5 : decode cX4_allPeople 5 = .ok (.aload_n 0, 1) := by decide +kernel
theorem dX4_allPeople_6 : decode cX4_allPeople 6 = .ok (.getfield 9, 3) := by decide +kernel
theorem dX4_allPeople_9 : decode cX4_allPeople 9 = .ok (.if_icmp .ge 18, 3) := by decide +kernel
theorem dX4_allPeople_12 : decode cX4_allPeople 12 = .ok (.iload_n 1, 1) := by decide +kernel
theorem dX4_allPeople_13 : decode cX4_allPeople 13 = .ok (.aload_n 0, 1) := by decide +kernel
theorem dX4_allPeople_14 : decode cX4_allPeople 14 = .ok (.getfield 31, 3) := by decide +kernel
theorem dX4_allPeople_17 : decode cX4_allPeople 17 = .ok (.iload_n 2, 1) := by decide +kernel
theorem dX4_allPeople_18 : decode cX4_allPeople 18 = .ok (.iaload, 1) := by decide +kernel
theorem dX4_allPeople_19 : decode cX4_allPeople 19 = .ok (.iadd, 1) := by decide +kernel
theorem dX4_allPeople_20 : decode cX4_allPeople 20 = .ok (.istore_n 1, 1) := by decide +kernel
theorem dX4_allPeople_21 : decode cX4_allPeople 21 = .ok (.iinc 2 1, 3) := by decide +kernel
theorem dX4_allPeople_24 : decode cX4_allPeople 24 = .ok (.goto (-20), 3) := by decide +kernel
theorem dX4_allPeople_27 : decode cX4_allPeople 27 = .ok (.iload_n 1, 1) := by decide +kernel
theorem dX4_allPeople_28 : decode cX4_allPeople 28 = .ok (.ireturn, 1) := by decide +kernel
theorem dX4_tradingPairs_0 : decode cX4_tradingPairs 0 = .ok (.iconst 0, 1) := by decide +kernel
theorem dX4_tradingPairs_1 : decode cX4_tradingPairs 1 = .ok (.istore_n 1, 1) := by decide +kernel
theorem dX4_tradingPairs_2 : decode cX4_tradingPairs 2 = .ok (.iconst 0, 1) := by decide +kernel
theorem dX4_tradingPairs_3 : decode cX4_tradingPairs 3 = .ok (.istore_n 2, 1) := by decide +kernel
theorem dX4_tradingPairs_4 : decode cX4_tradingPairs 4 = .ok (.iload_n 2, 1) := by decide +kernel
theorem dX4_tradingPairs_5 : decode cX4_tradingPairs 5 = .ok (.aload_n 0, 1) := by decide +kernel
theorem dX4_tradingPairs_6 : decode cX4_tradingPairs 6 = .ok (.getfield 9, 3) := by decide +kernel
theorem dX4_tradingPairs_9 : decode cX4_tradingPairs 9 = .ok (.if_icmp .ge 44, 3) := by decide +kernel
theorem dX4_tradingPairs_12 : decode cX4_tradingPairs 12 = .ok (.iload_n 2, 1) := by decide +kernel
theorem dX4_tradingPairs_13 : decode cX4_tradingPairs 13 = .ok (.iconst 1, 1) := by decide +kernel
theorem dX4_tradingPairs_14 : decode cX4_tradingPairs 14 = .ok (.iadd, 1) := by decide +kernel
theorem dX4_tradingPairs_15 : decode cX4_tradingPairs 15 = .ok (.istore_n 3, 1) := by decide +kernel
theorem dX4_tradingPairs_16 : decode cX4_tradingPairs 16 = .ok (.iload_n 3, 1) := by decide +kernel
theorem dX4_tradingPairs_17 : decode cX4_tradingPairs 17 = .ok (.aload_n 0, 1) := by decide +kernel
theorem dX4_tradingPairs_18 : decode cX4_tradingPairs 18 = .ok (.getfield 9, 3) := by decide +kernel
theorem dX4_tradingPairs_21 : decode cX4_tradingPairs 21 = .ok (.if_icmp .ge 26, 3) := by decide +kernel
theorem dX4_tradingPairs_24 : decode cX4_tradingPairs 24 = .ok (.aload_n 0, 1) := by decide +kernel
theorem dX4_tradingPairs_25 : decode cX4_tradingPairs 25 = .ok (.getfield 34, 3) := by decide +kernel
theorem dX4_tradingPairs_28 : decode cX4_tradingPairs 28 = .ok (.iload_n 2, 1) := by decide +kernel
theorem dX4_tradingPairs_29 : decode cX4_tradingPairs 29 = .ok (.bipush 10, 2) := by decide +kernel
theorem dX4_tradingPairs_31 : decode cX4_tradingPairs 31 = .ok (.imul, 1) := by decide +kernel
theorem dX4_tradingPairs_32 : decode cX4_tradingPairs 32 = .ok (.iload_n 3, 1) := by decide +kernel
theorem dX4_tradingPairs_33 : decode cX4_tradingPairs 33 = .ok (.iadd, 1) := by decide +kernel
theorem dX4_tradingPairs_34 : decode cX4_tradingPairs 34 = .ok (.iaload, 1) := by decide +kernel
theorem dX4_tradingPairs_35 : decode cX4_tradingPairs 35 = .ok (.ifCond .le 6, 3) := by decide +kernel
theorem dX4_tradingPairs_38 : decode cX4_tradingPairs 38 = .ok (.iinc 1 1, 3) := by decide +kernel
theorem dX4_tradingPairs_41 : decode cX4_tradingPairs 41 = .ok (.iinc 3 1, 3) := by decide +kernel
theorem dX4_tradingPairs_44 : decode cX4_tradingPairs 44 = .ok (.goto (-28), 3) := by decide +kernel
theorem dX4_tradingPairs_47 : decode cX4_tradingPairs 47 = .ok (.iinc 2 1, 3) := by decide +kernel
theorem dX4_tradingPairs_50 : decode cX4_tradingPairs 50 = .ok (.goto (-46), 3) := by decide +kernel
theorem dX4_tradingPairs_53 : decode cX4_tradingPairs 53 = .ok (.iload_n 1, 1) := by decide +kernel
theorem dX4_tradingPairs_54 : decode cX4_tradingPairs 54 = .ok (.ireturn, 1) := by decide +kernel
theorem dX4_takeWorld_0 : decode cX4_takeWorld 0 = .ok (.aload_n 0, 1) := by decide +kernel
theorem dX4_takeWorld_1 : decode cX4_takeWorld 1 = .ok (.aload_n 1, 1) := by decide +kernel
theorem dX4_takeWorld_2 : decode cX4_takeWorld 2 = .ok (.getfield 9, 3) := by decide +kernel
theorem dX4_takeWorld_5 : decode cX4_takeWorld 5 = .ok (.putfield 9, 3) := by decide +kernel
theorem dX4_takeWorld_8 : decode cX4_takeWorld 8 = .ok (.aload_n 0, 1) := by decide +kernel
theorem dX4_takeWorld_9 : decode cX4_takeWorld 9 = .ok (.aload_n 1, 1) := by decide +kernel
theorem dX4_takeWorld_10 : decode cX4_takeWorld 10 = .ok (.getfield 18, 3) := by decide +kernel
theorem dX4_takeWorld_13 : decode cX4_takeWorld 13 = .ok (.putfield 18, 3) := by decide +kernel
theorem dX4_takeWorld_16 : decode cX4_takeWorld 16 = .ok (.aload_n 1, 1) := by decide +kernel
theorem dX4_takeWorld_17 : decode cX4_takeWorld 17 = .ok (.getfield 21, 3) := by decide +kernel
theorem dX4_takeWorld_20 : decode cX4_takeWorld 20 = .ok (.iconst 0, 1) := by decide +kernel
theorem dX4_takeWorld_21 : decode cX4_takeWorld 21 = .ok (.aload_n 0, 1) := by decide +kernel
theorem dX4_takeWorld_22 : decode cX4_takeWorld 22 = .ok (.getfield 21, 3) := by decide +kernel
theorem dX4_takeWorld_25 : decode cX4_takeWorld 25 = .ok (.iconst 0, 1) := by decide +kernel
theorem dX4_takeWorld_26 : decode cX4_takeWorld 26 = .ok (.bipush 10, 2) := by decide +kernel
theorem dX4_takeWorld_28 : decode cX4_takeWorld 28 = .ok (.invokestatic 109, 3) := by decide +kernel
theorem dX4_takeWorld_31 : decode cX4_takeWorld 31 = .ok (.aload_n 1, 1) := by decide +kernel
theorem dX4_takeWorld_32 : decode cX4_takeWorld 32 = .ok (.getfield 25, 3) := by decide +kernel
theorem dX4_takeWorld_35 : decode cX4_takeWorld 35 = .ok (.iconst 0, 1) := by decide +kernel
theorem dX4_takeWorld_36 : decode cX4_takeWorld 36 = .ok (.aload_n 0, 1) := by decide +kernel
theorem dX4_takeWorld_37 : decode cX4_takeWorld 37 = .ok (.getfield 25, 3) := by decide +kernel
theorem dX4_takeWorld_40 : decode cX4_takeWorld 40 = .ok (.iconst 0, 1) := by decide +kernel
theorem dX4_takeWorld_41 : decode cX4_takeWorld 41 = .ok (.bipush 10, 2) := by decide +kernel
theorem dX4_takeWorld_43 : decode cX4_takeWorld 43 = .ok (.invokestatic 109, 3) := by decide +kernel
theorem dX4_takeWorld_46 : decode cX4_takeWorld 46 = .ok (.aload_n 1, 1) := by decide +kernel
theorem dX4_takeWorld_47 : decode cX4_takeWorld 47 = .ok (.getfield 28, 3) := by decide +kernel
theorem dX4_takeWorld_50 : decode cX4_takeWorld 50 = .ok (.iconst 0, 1) := by decide +kernel
theorem dX4_takeWorld_51 : decode cX4_takeWorld 51 = .ok (.aload_n 0, 1) := by decide +kernel
theorem dX4_takeWorld_52 : decode cX4_takeWorld 52 = .ok (.getfield 28, 3) := by decide +kernel
theorem dX4_takeWorld_55 : decode cX4_takeWorld 55 = .ok (.iconst 0, 1) := by decide +kernel
theorem dX4_takeWorld_56 : decode cX4_takeWorld 56 = .ok (.bipush 10, 2) := by decide +kernel
theorem dX4_takeWorld_58 : decode cX4_takeWorld 58 = .ok (.invokestatic 109, 3) := by decide +kernel
theorem dX4_takeWorld_61 : decode cX4_takeWorld 61 = .ok (.aload_n 1, 1) := by decide +kernel
theorem dX4_takeWorld_62 : decode cX4_takeWorld 62 = .ok (.getfield 31, 3) := by decide +kernel
theorem dX4_takeWorld_65 : decode cX4_takeWorld 65 = .ok (.iconst 0, 1) := by decide +kernel
theorem dX4_takeWorld_66 : decode cX4_takeWorld 66 = .ok (.aload_n 0, 1) := by decide +kernel
theorem dX4_takeWorld_67 : decode cX4_takeWorld 67 = .ok (.getfield 31, 3) := by decide +kernel
theorem dX4_takeWorld_70 : decode cX4_takeWorld 70 = .ok (.iconst 0, 1) := by decide +kernel
theorem dX4_takeWorld_71 : decode cX4_takeWorld 71 = .ok (.bipush 10, 2) := by decide +kernel
theorem dX4_takeWorld_73 : decode cX4_takeWorld 73 = .ok (.invokestatic 109, 3) := by decide +kernel
theorem dX4_takeWorld_76 : decode cX4_takeWorld 76 = .ok (.aload_n 1, 1) := by decide +kernel
theorem dX4_takeWorld_77 : decode cX4_takeWorld 77 = .ok (.getfield 34, 3) := by decide +kernel
theorem dX4_takeWorld_80 : decode cX4_takeWorld 80 = .ok (.iconst 0, 1) := by decide +kernel
theorem dX4_takeWorld_81 : decode cX4_takeWorld 81 = .ok (.aload_n 0, 1) := by decide +kernel
theorem dX4_takeWorld_82 : decode cX4_takeWorld 82 = .ok (.getfield 34, 3) := by decide +kernel
theorem dX4_takeWorld_85 : decode cX4_takeWorld 85 = .ok (.iconst 0, 1) := by decide +kernel
theorem dX4_takeWorld_86 : decode cX4_takeWorld 86 = .ok (.bipush 100, 2) := by decide +kernel
theorem dX4_takeWorld_88 : decode cX4_takeWorld 88 = .ok (.invokestatic 109, 3) := by decide +kernel
theorem dX4_takeWorld_91 : decode cX4_takeWorld 91 = .ok (.return_, 1) := by decide +kernel
theorem dX4_takeTravellers_0 : decode cX4_takeTravellers 0 = .ok (.aload_n 0, 1) := by decide +kernel
theorem dX4_takeTravellers_1 : decode cX4_takeTravellers 1 = .ok (.aload_n 1, 1) := by decide +kernel
theorem dX4_takeTravellers_2 : decode cX4_takeTravellers 2 = .ok (.getfield 15, 3) := by decide +kernel
theorem dX4_takeTravellers_5 : decode cX4_takeTravellers 5 = .ok (.putfield 15, 3) := by decide +kernel
theorem dX4_takeTravellers_8 : decode cX4_takeTravellers 8 = .ok (.iconst 0, 1) := by decide +kernel
theorem dX4_takeTravellers_9 : decode cX4_takeTravellers 9 = .ok (.istore_n 3, 1) := by decide +kernel
theorem dX4_takeTravellers_10 : decode cX4_takeTravellers 10 = .ok (.iload_n 3, 1) := by decide +kernel
theorem dX4_takeTravellers_11 : decode cX4_takeTravellers 11 = .ok (.aload_n 0, 1) := by decide +kernel
theorem dX4_takeTravellers_12 : decode cX4_takeTravellers 12 = .ok (.getfield 15, 3) := by decide +kernel
theorem dX4_takeTravellers_15 : decode cX4_takeTravellers 15 = .ok (.if_icmp .ge 63, 3) := by decide +kernel
theorem dX4_takeTravellers_18 : decode cX4_takeTravellers 18 = .ok (.aload_n 1, 1) := by decide +kernel
theorem dX4_takeTravellers_19 : decode cX4_takeTravellers 19 = .ok (.getfield 39, 3) := by decide +kernel
theorem dX4_takeTravellers_22 : decode cX4_takeTravellers 22 = .ok (.iload_n 3, 1) := by decide +kernel
theorem dX4_takeTravellers_23 : decode cX4_takeTravellers 23 = .ok (.aaload, 1) := by decide +kernel
theorem dX4_takeTravellers_24 : decode cX4_takeTravellers 24 = .ok (.astore 4, 2) := by decide +kernel
theorem dX4_takeTravellers_26 : decode cX4_takeTravellers 26 = .ok (.aload_n 0, 1) := by decide +kernel
theorem dX4_takeTravellers_27 : decode cX4_takeTravellers 27 = .ok (.getfield 39, 3) := by decide +kernel
theorem dX4_takeTravellers_30 : decode cX4_takeTravellers 30 = .ok (.iload_n 3, 1) := by decide +kernel
theorem dX4_takeTravellers_31 : decode cX4_takeTravellers 31 = .ok (.aaload, 1) := by decide +kernel
theorem dX4_takeTravellers_32 : decode cX4_takeTravellers 32 = .ok (.astore 5, 2) := by decide +kernel
theorem dX4_takeTravellers_34 : decode cX4_takeTravellers 34 = .ok (.iload_n 2, 1) := by decide +kernel
theorem dX4_takeTravellers_35 : decode cX4_takeTravellers 35 = .ok (.ifCond .ne 8, 3) := by decide +kernel
theorem dX4_takeTravellers_38 : decode cX4_takeTravellers 38 = .ok (.aload 5, 2) := by decide +kernel
theorem dX4_takeTravellers_40 : decode cX4_takeTravellers 40 = .ok (.ifnonnull 20, 3) := by decide +kernel
theorem dX4_takeTravellers_43 : decode cX4_takeTravellers 43 = .ok (.new 37, 3) := by decide +kernel
theorem dX4_takeTravellers_46 : decode cX4_takeTravellers 46 = .ok (.dup, 1) := by decide +kernel
theorem dX4_takeTravellers_47 : decode cX4_takeTravellers 47 = .ok (.invokespecial 115, 3) := by decide +kernel
theorem dX4_takeTravellers_50 : decode cX4_takeTravellers 50 = .ok (.astore 5, 2) := by decide +kernel
theorem dX4_takeTravellers_52 : decode cX4_takeTravellers 52 = .ok (.aload_n 0, 1) := by decide +kernel
theorem dX4_takeTravellers_53 : decode cX4_takeTravellers 53 = .ok (.getfield 39, 3) := by decide +kernel
theorem dX4_takeTravellers_56 : decode cX4_takeTravellers 56 = .ok (.iload_n 3, 1) := by decide +kernel
theorem dX4_takeTravellers_57 : decode cX4_takeTravellers 57 = .ok (.aload 5, 2) := by decide +kernel
theorem dX4_takeTravellers_59 : decode cX4_takeTravellers 59 = .ok (.aastore, 1) := by decide +kernel
theorem dX4_takeTravellers_60 : decode cX4_takeTravellers 60 = .ok (.aload 4, 2) := by decide +kernel
theorem dX4_takeTravellers_62 : decode cX4_takeTravellers 62 = .ok (.ifnull 10, 3) := by decide +kernel
theorem dX4_takeTravellers_65 : decode cX4_takeTravellers 65 = .ok (.aload 5, 2) := by decide +kernel
theorem dX4_takeTravellers_67 : decode cX4_takeTravellers 67 = .ok (.aload 4, 2) := by decide +kernel
theorem dX4_takeTravellers_69 : decode cX4_takeTravellers 69 = .ok (.invokevirtual 116, 3) := by decide +kernel
theorem dX4_takeTravellers_72 : decode cX4_takeTravellers 72 = .ok (.iinc 3 1, 3) := by decide +kernel
theorem dX4_takeTravellers_75 : decode cX4_takeTravellers 75 = .ok (.goto (-65), 3) := by decide +kernel
theorem dX4_takeTravellers_78 : decode cX4_takeTravellers 78 = .ok (.return_, 1) := by decide +kernel
theorem dX5_init_0 : decode cX5_init 0 = .ok (.aload_n 0, 1) := by decide +kernel
theorem dX5_init_1 : decode cX5_init 1 = .ok (.invokespecial 3, 3) := by decide +kernel
theorem dX5_init_4 : decode cX5_init 4 = .ok (.aload_n 0, 1) := by decide +kernel
theorem dX5_init_5 : decode cX5_init 5 = .ok (.new 9, 3) := by decide +kernel
theorem dX5_init_8 : decode cX5_init 8 = .ok (.dup, 1) := by decide +kernel
theorem dX5_init_9 : decode cX5_init 9 = .ok (.invokespecial 11, 3) := by decide +kernel
theorem dX5_init_12 : decode cX5_init 12 = .ok (.putfield 12, 3) := by decide +kernel
theorem dX5_init_15 : decode cX5_init 15 = .ok (.aload_n 0, 1) := by decide +kernel
theorem dX5_init_16 : decode cX5_init 16 = .ok (.new 9, 3) := by decide +kernel
theorem dX5_init_19 : decode cX5_init 19 = .ok (.dup, 1) := by decide +kernel
theorem dX5_init_20 : decode cX5_init 20 = .ok (.invokespecial 11, 3) := by decide +kernel
theorem dX5_init_23 : decode cX5_init 23 = .ok (.putfield 16, 3) := by decide +kernel
theorem dX5_init_26 : decode cX5_init 26 = .ok (.aload_n 0, 1) := by decide +kernel
theorem dX5_init_27 : decode cX5_init 27 = .ok (.iconst 0, 1) := by decide +kernel
theorem dX5_init_28 : decode cX5_init 28 = .ok (.putfield 19, 3) := by decide +kernel
theorem dX5_init_31 : decode cX5_init 31 = .ok (.aload_n 0, 1) := by decide +kernel
theorem dX5_init_32 : decode cX5_init 32 = .ok (.bipush 8, 2) := by decide +kernel
theorem dX5_init_34 : decode cX5_init 34 = .ok (.anewarray 23, 3) := by decide +kernel
theorem dX5_init_37 : decode cX5_init 37 = .ok (.putfield 25, 3) := by decide +kernel
theorem dX5_init_40 : decode cX5_init 40 = .ok (.aload_n 0, 1) := by decide +kernel
theorem dX5_init_41 : decode cX5_init 41 = .ok (.new 29, 3) := by decide +kernel
theorem dX5_init_44 : decode cX5_init 44 = .ok (.dup, 1) := by decide +kernel
theorem dX5_init_45 : decode cX5_init 45 = .ok (.invokespecial 31, 3) := by decide +kernel
theorem dX5_init_48 : decode cX5_init 48 = .ok (.putfield 32, 3) := by decide +kernel
theorem dX5_init_51 : decode cX5_init 51 = .ok (.aload_n 0, 1) := by decide +kernel
theorem dX5_init_52 : decode cX5_init 52 = .ok (.new 36, 3) := by decide +kernel
theorem dX5_init_55 : decode cX5_init 55 = .ok (.dup, 1) := by decide +kernel
theorem dX5_init_56 : decode cX5_init 56 = .ok (.invokespecial 38, 3) := by decide +kernel
theorem dX5_init_59 : decode cX5_init 59 = .ok (.putfield 39, 3) := by decide +kernel
theorem dX5_init_62 : decode cX5_init 62 = .ok (.iconst 0, 1) := by decide +kernel
theorem dX5_init_63 : decode cX5_init 63 = .ok (.istore_n 1, 1) := by decide +kernel
theorem dX5_init_64 : decode cX5_init 64 = .ok (.iload_n 1, 1) := by decide +kernel
theorem dX5_init_65 : decode cX5_init 65 = .ok (.bipush 8, 2) := by decide +kernel
theorem dX5_init_67 : decode cX5_init 67 = .ok (.if_icmp .ge 22, 3) := by decide +kernel
theorem dX5_init_70 : decode cX5_init 70 = .ok (.aload_n 0, 1) := by decide +kernel
theorem dX5_init_71 : decode cX5_init 71 = .ok (.getfield 25, 3) := by decide +kernel
theorem dX5_init_74 : decode cX5_init 74 = .ok (.iload_n 1, 1) := by decide +kernel
theorem dX5_init_75 : decode cX5_init 75 = .ok (.new 23, 3) := by decide +kernel
theorem dX5_init_78 : decode cX5_init 78 = .ok (.dup, 1) := by decide +kernel
theorem dX5_init_79 : decode cX5_init 79 = .ok (.invokespecial 43, 3) := by decide +kernel
theorem dX5_init_82 : decode cX5_init 82 = .ok (.aastore, 1) := by decide +kernel
theorem dX5_init_83 : decode cX5_init 83 = .ok (.iinc 1 1, 3) := by decide +kernel
theorem dX5_init_86 : decode cX5_init 86 = .ok (.goto (-22), 3) := by decide +kernel
theorem dX5_init_89 : decode cX5_init 89 = .ok (.return_, 1) := by decide +kernel
theorem dX5_world_0 : decode cX5_world 0 = .ok (.aload_n 0, 1) := by decide +kernel
theorem dX5_world_1 : decode cX5_world 1 = .ok (.iload_n 1, 1) := by decide +kernel
theorem dX5_world_2 : decode cX5_world 2 = .ok (.invokevirtual 44, 3) := by decide +kernel
theorem dX5_world_5 : decode cX5_world 5 = .ok (.astore_n 2, 1) := by decide +kernel
theorem dX5_world_6 : decode cX5_world 6 = .ok (.aload_n 2, 1) := by decide +kernel
theorem dX5_world_7 : decode cX5_world 7 = .ok (.ifnonnull 5, 3) := by decide +kernel
theorem dX5_world_10 : decode cX5_world 10 = .ok (.iconst (-1), 1) := by decide +kernel
theorem dX5_world_11 : decode cX5_world 11 = .ok (.ireturn, 1) := by decide +kernel
theorem dX5_world_12 : decode cX5_world 12 = .ok (.aload_n 2, 1) := by decide +kernel
theorem dX5_world_13 : decode cX5_world 13 = .ok (.iconst 0, 1) := by decide +kernel
theorem dX5_world_14 : decode cX5_world 14 = .ok (.invokestatic 48, 3) := by decide +kernel
theorem dX5_world_17 : decode cX5_world 17 = .ok (.istore_n 3, 1) := by decide +kernel
theorem dX5_world_18 : decode cX5_world 18 = .ok (.iload_n 3, 1) := by decide +kernel
theorem dX5_world_19 : decode cX5_world 19 = .ok (.ifCond .eq 5, 3) := by decide +kernel
theorem dX5_world_22 : decode cX5_world 22 = .ok (.iload_n 3, 1) := by decide +kernel
theorem dX5_world_23 : decode cX5_world 23 = .ok (.ireturn, 1) := by decide +kernel
theorem dX5_world_24 : decode cX5_world 24 = .ok (.aload_n 0, 1) := by decide +kernel
theorem dX5_world_25 : decode cX5_world 25 = .ok (.getfield 39, 3) := by decide +kernel
theorem dX5_world_28 : decode cX5_world 28 = .ok (.aload_n 2, 1) := by decide +kernel
theorem dX5_world_29 : decode cX5_world 29 = .ok (.invokevirtual 52, 3) := by decide +kernel
theorem dX5_world_32 : decode cX5_world 32 = .ok (.aload_n 0, 1) := by decide +kernel
theorem dX5_world_33 : decode cX5_world 33 = .ok (.invokevirtual 56, 3) := by decide +kernel
theorem dX5_world_36 : decode cX5_world 36 = .ok (.istore 4, 2) := by decide +kernel
theorem dX5_world_38 : decode cX5_world 38 = .ok (.iload 4, 2) := by decide +kernel
theorem dX5_world_40 : decode cX5_world 40 = .ok (.ifCond .ge 6, 3) := by decide +kernel
theorem dX5_world_43 : decode cX5_world 43 = .ok (.iload 4, 2) := by decide +kernel
theorem dX5_world_45 : decode cX5_world 45 = .ok (.ireturn, 1) := by decide +kernel
theorem dX5_world_46 : decode cX5_world 46 = .ok (.aload_n 0, 1) := by decide +kernel
theorem dX5_world_47 : decode cX5_world 47 = .ok (.iload 4, 2) := by decide +kernel
theorem dX5_world_49 : decode cX5_world 49 = .ok (.invokevirtual 60, 3) := by decide +kernel
theorem dX5_world_52 : decode cX5_world 52 = .ok (.istore 5, 2) := by decide +kernel
theorem dX5_world_54 : decode cX5_world 54 = .ok (.iload 5, 2) := by decide +kernel
theorem dX5_world_56 : decode cX5_world 56 = .ok (.ifCond .ge 6, 3) := by decide +kernel
theorem dX5_world_59 : decode cX5_world 59 = .ok (.iload 5, 2) := by decide +kernel
theorem dX5_world_61 : decode cX5_world 61 = .ok (.ireturn, 1) := by decide +kernel
theorem dX5_world_62 : decode cX5_world 62 = .ok (.aload_n 0, 1) := by decide +kernel
theorem dX5_world_63 : decode cX5_world 63 = .ok (.iload 4, 2) := by decide +kernel
theorem dX5_world_65 : decode cX5_world 65 = .ok (.invokevirtual 64, 3) := by decide +kernel
theorem dX5_world_68 : decode cX5_world 68 = .ok (.iload 4, 2) := by decide +kernel
theorem dX5_world_70 : decode cX5_world 70 = .ok (.ireturn, 1) := by decide +kernel
theorem dX5_place_0 : decode cX5_place 0 = .ok (.aload_n 0, 1) := by decide +kernel
theorem dX5_place_1 : decode cX5_place 1 = .ok (.getfield 12, 3) := by decide +kernel
theorem dX5_place_4 : decode cX5_place 4 = .ok (.iload_n 1, 1) := by decide +kernel
theorem dX5_place_5 : decode cX5_place 5 = .ok (.invokevirtual 68, 3) := by decide +kernel
theorem dX5_place_8 : decode cX5_place 8 = .ok (.ifCond .ne 6, 3) := by decide +kernel
theorem dX5_place_11 : decode cX5_place 11 = .ok (.ldc 72, 2) := by decide +kernel
theorem dX5_place_13 : decode cX5_place 13 = .ok (.ireturn, 1) := by decide +kernel
theorem dX5_place_14 : decode cX5_place 14 = .ok (.iload_n 2, 1) := by decide +kernel
theorem dX5_place_15 : decode cX5_place 15 = .ok (.tableswitch 69 0 3 #[29, 39, 49, 59], 29) := by decide +kernel
theorem dX5_place_44 : decode cX5_place 44 = .ok (.aload_n 0, 1) := by decide +kernel
theorem dX5_place_45 : decode cX5_place 45 = .ok (.getfield 12, 3) := by decide +kernel
theorem dX5_place_48 : decode cX5_place 48 = .ok (.getfield 73, 3) := by decide +kernel
theorem dX5_place_51 : decode cX5_place 51 = .ok (.iload_n 1, 1) := by decide +kernel
theorem dX5_place_52 : decode cX5_place 52 = .ok (.iaload, 1) := by decide +kernel
theorem dX5_place_53 : decode cX5_place 53 = .ok (.ireturn, 1) := by decide +kernel
theorem dX5_place_54 : decode cX5_place 54 = .ok (.aload_n 0, 1) := by decide +kernel
theorem dX5_place_55 : decode cX5_place 55 = .ok (.getfield 12, 3) := by decide +kernel
theorem dX5_place_58 : decode cX5_place 58 = .ok (.getfield 77, 3) := by decide +kernel
theorem dX5_place_61 : decode cX5_place 61 = .ok (.iload_n 1, 1) := by decide +kernel
theorem dX5_place_62 : decode cX5_place 62 = .ok (.iaload, 1) := by decide +kernel
theorem dX5_place_63 : decode cX5_place 63 = .ok (.ireturn, 1) := by decide +kernel
theorem dX5_place_64 : decode cX5_place 64 = .ok (.aload_n 0, 1) := by decide +kernel
theorem dX5_place_65 : decode cX5_place 65 = .ok (.getfield 12, 3) := by decide +kernel
theorem dX5_place_68 : decode cX5_place 68 = .ok (.getfield 80, 3) := by decide +kernel
theorem dX5_place_71 : decode cX5_place 71 = .ok (.iload_n 1, 1) := by decide +kernel
theorem dX5_place_72 : decode cX5_place 72 = .ok (.iaload, 1) := by decide +kernel
theorem dX5_place_73 : decode cX5_place 73 = .ok (.ireturn, 1) := by decide +kernel
theorem dX5_place_74 : decode cX5_place 74 = .ok (.aload_n 0, 1) := by decide +kernel
theorem dX5_place_75 : decode cX5_place 75 = .ok (.getfield 12, 3) := by decide +kernel
theorem dX5_place_78 : decode cX5_place 78 = .ok (.getfield 83, 3) := by decide +kernel
theorem dX5_place_81 : decode cX5_place 81 = .ok (.iload_n 1, 1) := by decide +kernel
theorem dX5_place_82 : decode cX5_place 82 = .ok (.iaload, 1) := by decide +kernel
theorem dX5_place_83 : decode cX5_place 83 = .ok (.ireturn, 1) := by decide +kernel
theorem dX5_place_84 : decode cX5_place 84 = .ok (.ldc 72, 2) := by decide +kernel
theorem dX5_place_86 : decode cX5_place 86 = .ok (.ireturn, 1) := by decide +kernel
theorem dX5_trade_0 : decode cX5_trade 0 = .ok (.aload_n 0, 1) := by decide +kernel
theorem dX5_trade_1 : decode cX5_trade 1 = .ok (.getfield 12, 3) := by decide +kernel
theorem dX5_trade_4 : decode cX5_trade 4 = .ok (.iload_n 1, 1) := by decide +kernel
theorem dX5_trade_5 : decode cX5_trade 5 = .ok (.invokevirtual 68, 3) := by decide +kernel
theorem dX5_trade_8 : decode cX5_trade 8 = .ok (.ifCond .eq 19, 3) := by decide +kernel
theorem dX5_trade_11 : decode cX5_trade 11 = .ok (.aload_n 0, 1) := by decide +kernel
theorem dX5_trade_12 : decode cX5_trade 12 = .ok (.getfield 12, 3) := by decide +kernel
theorem dX5_trade_15 : decode cX5_trade 15 = .ok (.iload_n 2, 1) := by decide +kernel
theorem dX5_trade_16 : decode cX5_trade 16 = .ok (.invokevirtual 68, 3) := by decide +kernel
theorem dX5_trade_19 : decode cX5_trade 19 = .ok (.ifCond .eq 8, 3) := by decide +kernel
theorem dX5_trade_22 : decode cX5_trade 22 = .ok (.iload_n 1, 1) := by decide +kernel
theorem dX5_trade_23 : decode cX5_trade 23 = .ok (.iload_n 2, 1) := by decide +kernel
theorem dX5_trade_24 : decode cX5_trade 24 = .ok (.if_icmp .ne 5, 3) := by decide +kernel
theorem dX5_trade_27 : decode cX5_trade 27 = .ok (.iconst (-1), 1) := by decide +kernel
theorem dX5_trade_28 : decode cX5_trade 28 = .ok (.ireturn, 1) := by decide +kernel
theorem dX5_trade_29 : decode cX5_trade 29 = .ok (.aload_n 0, 1) := by decide +kernel
theorem dX5_trade_30 : decode cX5_trade 30 = .ok (.getfield 12, 3) := by decide +kernel
theorem dX5_trade_33 : decode cX5_trade 33 = .ok (.getfield 86, 3) := by decide +kernel
theorem dX5_trade_36 : decode cX5_trade 36 = .ok (.iload_n 1, 1) := by decide +kernel
theorem dX5_trade_37 : decode cX5_trade 37 = .ok (.bipush 10, 2) := by decide +kernel
theorem dX5_trade_39 : decode cX5_trade 39 = .ok (.imul, 1) := by decide +kernel
theorem dX5_trade_40 : decode cX5_trade 40 = .ok (.iload_n 2, 1) := by decide +kernel
theorem dX5_trade_41 : decode cX5_trade 41 = .ok (.iadd, 1) := by decide +kernel
theorem dX5_trade_42 : decode cX5_trade 42 = .ok (.iaload, 1) := by decide +kernel
theorem dX5_trade_43 : decode cX5_trade 43 = .ok (.ireturn, 1) := by decide +kernel
theorem dX5_choose_0 : decode cX5_choose 0 = .ok (.aload_n 0, 1) := by decide +kernel
theorem dX5_choose_1 : decode cX5_choose 1 = .ok (.getfield 12, 3) := by decide +kernel
theorem dX5_choose_4 : decode cX5_choose 4 = .ok (.iload_n 1, 1) := by decide +kernel
theorem dX5_choose_5 : decode cX5_choose 5 = .ok (.invokevirtual 68, 3) := by decide +kernel
theorem dX5_choose_8 : decode cX5_choose 8 = .ok (.ifCond .eq 13, 3) := by decide +kernel
theorem dX5_choose_11 : decode cX5_choose 11 = .ok (.iload_n 2, 1) := by decide +kernel
theorem dX5_choose_12 : decode cX5_choose 12 = .ok (.iconst (-1), 1) := by decide +kernel
theorem dX5_choose_13 : decode cX5_choose 13 = .ok (.if_icmp .lt 8, 3) := by decide +kernel
theorem dX5_choose_16 : decode cX5_choose 16 = .ok (.iload_n 2, 1) := by decide +kernel
theorem dX5_choose_17 : decode cX5_choose 17 = .ok (.iconst 1, 1) := by decide +kernel
theorem dX5_choose_18 : decode cX5_choose 18 = .ok (.if_icmp .le 6, 3) := by decide +kernel
theorem dX5_choose_21 : decode cX5_choose 21 = .ok (.ldc 72, 2) := by decide +kernel
theorem dX5_choose_23 : decode cX5_choose 23 = .ok (.ireturn, 1) := by decide +kernel
theorem dX5_choose_24 : decode cX5_choose 24 = .ok (.aload_n 0, 1) := by decide +kernel
theorem dX5_choose_25 : decode cX5_choose 25 = .ok (.getfield 12, 3) := by decide +kernel
theorem dX5_choose_28 : decode cX5_choose 28 = .ok (.getfield 80, 3) := by decide +kernel
theorem dX5_choose_31 : decode cX5_choose 31 = .ok (.iload_n 1, 1) := by decide +kernel
theorem dX5_choose_32 : decode cX5_choose 32 = .ok (.iaload, 1) := by decide +kernel
theorem dX5_choose_33 : decode cX5_choose 33 = .ok (.istore_n 3, 1) := by decide +kernel
theorem dX5_choose_34 : decode cX5_choose 34 = .ok (.aload_n 0, 1) := by decide +kernel
theorem dX5_choose_35 : decode cX5_choose 35 = .ok (.getfield 12, 3) := by decide +kernel
theorem dX5_choose_38 : decode cX5_choose 38 = .ok (.getfield 80, 3) := by decide +kernel
theorem dX5_choose_41 : decode cX5_choose 41 = .ok (.iload_n 1, 1) := by decide +kernel
theorem dX5_choose_42 : decode cX5_choose 42 = .ok (.iload_n 2, 1) := by decide +kernel
theorem dX5_choose_43 : decode cX5_choose 43 = .ok (.iastore, 1) := by decide +kernel
theorem dX5_choose_44 : decode cX5_choose 44 = .ok (.iload_n 3, 1) := by decide +kernel
theorem dX5_choose_45 : decode cX5_choose 45 = .ok (.ireturn, 1) := by decide +kernel
theorem dX5_line_0 : decode cX5_line 0 = .ok (.iload_n 1, 1) := by decide +kernel
theorem dX5_line_1 : decode cX5_line 1 = .ok (.invokestatic 89, 3) := by decide +kernel
theorem dX5_line_4 : decode cX5_line 4 = .ok (.ifCond .ne 5, 3) := by decide +kernel
theorem dX5_line_7 : decode cX5_line 7 = .ok (.iconst (-1), 1) := by decide +kernel
theorem dX5_line_8 : decode cX5_line 8 = .ok (.ireturn, 1) := by decide +kernel
theorem dX5_line_9 : decode cX5_line 9 = .ok (.aload_n 0, 1) := by decide +kernel
theorem dX5_line_10 : decode cX5_line 10 = .ok (.getfield 12, 3) := by decide +kernel
theorem dX5_line_13 : decode cX5_line 13 = .ok (.getfield 92, 3) := by decide +kernel
theorem dX5_line_16 : decode cX5_line 16 = .ok (.istore_n 2, 1) := by decide +kernel
theorem dX5_line_17 : decode cX5_line 17 = .ok (.aload_n 0, 1) := by decide +kernel
theorem dX5_line_18 : decode cX5_line 18 = .ok (.getfield 12, 3) := by decide +kernel
theorem dX5_line_21 : decode cX5_line 21 = .ok (.iload_n 1, 1) := by decide +kernel
theorem dX5_line_22 : decode cX5_line 22 = .ok (.putfield 92, 3) := by decide +kernel
theorem dX5_line_25 : decode cX5_line 25 = .ok (.iload_n 2, 1) := by decide +kernel
theorem dX5_line_26 : decode cX5_line 26 = .ok (.ireturn, 1) := by decide +kernel
theorem dX5_dayOf_0 : decode cX5_dayOf 0 = .ok (.aload_n 0, 1) := by decide +kernel
theorem dX5_dayOf_1 : decode cX5_dayOf 1 = .ok (.getfield 12, 3) := by decide +kernel
theorem dX5_dayOf_4 : decode cX5_dayOf 4 = .ok (.iload_n 1, 1) := by decide +kernel
theorem dX5_dayOf_5 : decode cX5_dayOf 5 = .ok (.invokevirtual 68, 3) := by decide +kernel
theorem dX5_dayOf_8 : decode cX5_dayOf 8 = .ok (.ifCond .eq 10, 3) := by decide +kernel
theorem dX5_dayOf_11 : decode cX5_dayOf 11 = .ok (.iload_n 2, 1) := by decide +kernel
theorem dX5_dayOf_12 : decode cX5_dayOf 12 = .ok (.invokestatic 96, 3) := by decide +kernel
theorem dX5_dayOf_15 : decode cX5_dayOf 15 = .ok (.ifCond .ne 6, 3) := by decide +kernel
theorem dX5_dayOf_18 : decode cX5_dayOf 18 = .ok (.ldc 72, 2) := by decide +kernel
theorem dX5_dayOf_20 : decode cX5_dayOf 20 = .ok (.ireturn, 1) := by decide +kernel
theorem dX5_dayOf_21 : decode cX5_dayOf 21 = .ok (.aload_n 0, 1) := by decide +kernel
theorem dX5_dayOf_22 : decode cX5_dayOf 22 = .ok (.getfield 12, 3) := by decide +kernel
theorem dX5_dayOf_25 : decode cX5_dayOf 25 = .ok (.iload_n 1, 1) := by decide +kernel
theorem dX5_dayOf_26 : decode cX5_dayOf 26 = .ok (.iload_n 2, 1) := by decide +kernel
theorem dX5_dayOf_27 : decode cX5_dayOf 27 = .ok (.aload_n 0, 1) := by decide +kernel
theorem dX5_dayOf_28 : decode cX5_dayOf 28 = .ok (.getfield 12, 3) := by decide +kernel
theorem dX5_dayOf_31 : decode cX5_dayOf 31 = .ok (.getfield 92, 3) := by decide +kernel
theorem dX5_dayOf_34 : decode cX5_dayOf 34 = .ok (.invokevirtual 99, 3) := by decide +kernel
theorem dX5_dayOf_37 : decode cX5_dayOf 37 = .ok (.ireturn, 1) := by decide +kernel
theorem dX5_hourOf_0 : decode cX5_hourOf 0 = .ok (.aload_n 0, 1) := by decide +kernel
theorem dX5_hourOf_1 : decode cX5_hourOf 1 = .ok (.getfield 12, 3) := by decide +kernel
theorem dX5_hourOf_4 : decode cX5_hourOf 4 = .ok (.iload_n 1, 1) := by decide +kernel
theorem dX5_hourOf_5 : decode cX5_hourOf 5 = .ok (.invokevirtual 68, 3) := by decide +kernel
theorem dX5_hourOf_8 : decode cX5_hourOf 8 = .ok (.ifCond .eq 10, 3) := by decide +kernel
theorem dX5_hourOf_11 : decode cX5_hourOf 11 = .ok (.iload_n 2, 1) := by decide +kernel
theorem dX5_hourOf_12 : decode cX5_hourOf 12 = .ok (.invokestatic 96, 3) := by decide +kernel
theorem dX5_hourOf_15 : decode cX5_hourOf 15 = .ok (.ifCond .ne 5, 3) := by decide +kernel
theorem dX5_hourOf_18 : decode cX5_hourOf 18 = .ok (.iconst (-1), 1) := by decide +kernel
theorem dX5_hourOf_19 : decode cX5_hourOf 19 = .ok (.ireturn, 1) := by decide +kernel
theorem dX5_hourOf_20 : decode cX5_hourOf 20 = .ok (.aload_n 0, 1) := by decide +kernel
theorem dX5_hourOf_21 : decode cX5_hourOf 21 = .ok (.getfield 12, 3) := by decide +kernel
theorem dX5_hourOf_24 : decode cX5_hourOf 24 = .ok (.getfield 73, 3) := by decide +kernel
theorem dX5_hourOf_27 : decode cX5_hourOf 27 = .ok (.iload_n 1, 1) := by decide +kernel
theorem dX5_hourOf_28 : decode cX5_hourOf 28 = .ok (.iaload, 1) := by decide +kernel
theorem dX5_hourOf_29 : decode cX5_hourOf 29 = .ok (.iload_n 2, 1) := by decide +kernel
theorem dX5_hourOf_30 : decode cX5_hourOf 30 = .ok (.aload_n 0, 1) := by decide +kernel
theorem dX5_hourOf_31 : decode cX5_hourOf 31 = .ok (.getfield 12, 3) := by decide +kernel
theorem dX5_hourOf_34 : decode cX5_hourOf 34 = .ok (.getfield 92, 3) := by decide +kernel
theorem dX5_hourOf_37 : decode cX5_hourOf 37 = .ok (.invokestatic 103, 3) := by decide +kernel
theorem dX5_hourOf_40 : decode cX5_hourOf 40 = .ok (.sipush 1440, 3) := by decide +kernel
theorem dX5_hourOf_43 : decode cX5_hourOf 43 = .ok (.invokestatic 106, 3) := by decide +kernel
theorem dX5_hourOf_46 : decode cX5_hourOf 46 = .ok (.ireturn, 1) := by decide +kernel
theorem dX5_traveller_0 : decode cX5_traveller 0 = .ok (.iload_n 1, 1) := by decide +kernel
theorem dX5_traveller_1 : decode cX5_traveller 1 = .ok (.invokestatic 112, 3) := by decide +kernel
theorem dX5_traveller_4 : decode cX5_traveller 4 = .ok (.ifCond .eq 24, 3) := by decide +kernel
theorem dX5_traveller_7 : decode cX5_traveller 7 = .ok (.aload_n 0, 1) := by decide +kernel
theorem dX5_traveller_8 : decode cX5_traveller 8 = .ok (.getfield 12, 3) := by decide +kernel
theorem dX5_traveller_11 : decode cX5_traveller 11 = .ok (.iload_n 2, 1) := by decide +kernel
theorem dX5_traveller_12 : decode cX5_traveller 12 = .ok (.invokevirtual 68, 3) := by decide +kernel
theorem dX5_traveller_15 : decode cX5_traveller 15 = .ok (.ifCond .eq 13, 3) := by decide +kernel
theorem dX5_traveller_18 : decode cX5_traveller 18 = .ok (.iload_n 3, 1) := by decide +kernel
theorem dX5_traveller_19 : decode cX5_traveller 19 = .ok (.ifCond .lt 9, 3) := by decide +kernel
theorem dX5_traveller_22 : decode cX5_traveller 22 = .ok (.iload_n 3, 1) := by decide +kernel
theorem dX5_traveller_23 : decode cX5_traveller 23 = .ok (.bipush 30, 2) := by decide +kernel
theorem dX5_traveller_25 : decode cX5_traveller 25 = .ok (.if_icmp .le 5, 3) := by decide +kernel
theorem dX5_traveller_28 : decode cX5_traveller 28 = .ok (.iconst (-1), 1) := by decide +kernel
theorem dX5_traveller_29 : decode cX5_traveller 29 = .ok (.ireturn, 1) := by decide +kernel
theorem dX5_traveller_30 : decode cX5_traveller 30 = .ok (.aload_n 0, 1) := by decide +kernel
theorem dX5_traveller_31 : decode cX5_traveller 31 = .ok (.getfield 12, 3) := by decide +kernel
theorem dX5_traveller_34 : decode cX5_traveller 34 = .ok (.getfield 115, 3) := by decide +kernel
theorem dX5_traveller_37 : decode cX5_traveller 37 = .ok (.bipush 8, 2) := by decide +kernel
theorem dX5_traveller_39 : decode cX5_traveller 39 = .ok (.if_icmp .lt 6, 3) := by decide +kernel
theorem dX5_traveller_42 : decode cX5_traveller 42 = .ok (.bipush (-2), 2) := by decide +kernel
theorem dX5_traveller_44 : decode cX5_traveller 44 = .ok (.ireturn, 1) := by decide +kernel
theorem dX5_traveller_45 : decode cX5_traveller 45 = .ok (.new 118, 3) := by decide +kernel
theorem dX5_traveller_48 : decode cX5_traveller 48 = .ok (.dup, 1) := by decide +kernel
theorem dX5_traveller_49 : decode cX5_traveller 49 = .ok (.invokespecial 120, 3) := by decide +kernel
theorem dX5_traveller_52 : decode cX5_traveller 52 = .ok (.astore 4, 2) := by decide +kernel
theorem dX5_traveller_54 : decode cX5_traveller 54 = .ok (.aload 4, 2) := by decide +kernel
theorem dX5_traveller_56 : decode cX5_traveller 56 = .ok (.aload_n 0, 1) := by decide +kernel
theorem dX5_traveller_57 : decode cX5_traveller 57 = .ok (.getfield 12, 3) := by decide +kernel
theorem dX5_traveller_60 : decode cX5_traveller 60 = .ok (.getfield 115, 3) := by decide +kernel
theorem dX5_traveller_63 : decode cX5_traveller 63 = .ok (.putfield 121, 3) := by decide +kernel
theorem dX5_traveller_66 : decode cX5_traveller 66 = .ok (.aload 4, 2) := by decide +kernel
theorem dX5_traveller_68 : decode cX5_traveller 68 = .ok (.iload_n 1, 1) := by decide +kernel
theorem dX5_traveller_69 : decode cX5_traveller 69 = .ok (.putfield 124, 3) := by decide +kernel
theorem dX5_traveller_72 : decode cX5_traveller 72 = .ok (.aload 4, 2) := by decide +kernel
theorem dX5_traveller_74 : decode cX5_traveller 74 = .ok (.iload_n 2, 1) := by decide +kernel
theorem dX5_traveller_75 : decode cX5_traveller 75 = .ok (.putfield 127, 3) := by decide +kernel
theorem dX5_traveller_78 : decode cX5_traveller 78 = .ok (.aload 4, 2) := by decide +kernel
theorem dX5_traveller_80 : decode cX5_traveller 80 = .ok (.iload_n 3, 1) := by decide +kernel
theorem dX5_traveller_81 : decode cX5_traveller 81 = .ok (.putfield 130, 3) := by decide +kernel
theorem dX5_traveller_84 : decode cX5_traveller 84 = .ok (.aload_n 0, 1) := by decide +kernel
theorem dX5_traveller_85 : decode cX5_traveller 85 = .ok (.getfield 12, 3) := by decide +kernel
theorem dX5_traveller_88 : decode cX5_traveller 88 = .ok (.getfield 133, 3) := by decide +kernel
theorem dX5_traveller_91 : decode cX5_traveller 91 = .ok (.aload_n 0, 1) := by decide +kernel
theorem dX5_traveller_92 : decode cX5_traveller 92 = .ok (.getfield 12, 3) := by decide +kernel
theorem dX5_traveller_95 : decode cX5_traveller 95 = .ok (.getfield 115, 3) := by decide +kernel
theorem dX5_traveller_98 : decode cX5_traveller 98 = .ok (.aload 4, 2) := by decide +kernel
theorem dX5_traveller_100 : decode cX5_traveller 100 = .ok (.aastore, 1) := by decide +kernel
theorem dX5_traveller_101 : decode cX5_traveller 101 = .ok (.aload_n 0, 1) := by decide +kernel
theorem dX5_traveller_102 : decode cX5_traveller 102 = .ok (.getfield 12, 3) := by decide +kernel
theorem dX5_traveller_105 : decode cX5_traveller 105 = .ok (.dup, 1) := by decide +kernel
theorem dX5_traveller_106 : decode cX5_traveller 106 = .ok (.getfield 115, 3) := by decide +kernel
theorem dX5_traveller_109 : decode cX5_traveller 109 = .ok (.iconst 1, 1) := by decide +kernel
theorem dX5_traveller_110 : decode cX5_traveller 110 = .ok (.iadd, 1) := by decide +kernel
theorem dX5_traveller_111 : decode cX5_traveller 111 = .ok (.putfield 115, 3) := by decide +kernel
theorem dX5_traveller_114 : decode cX5_traveller 114 = .ok (.aload 4, 2) := by decide +kernel
theorem dX5_traveller_116 : decode cX5_traveller 116 = .ok (.getfield 121, 3) := by decide +kernel
theorem dX5_traveller_119 : decode cX5_traveller 119 = .ok (.ireturn, 1) := by decide +kernel
theorem dX5_leg_0 : decode cX5_leg 0 = .ok (.aload_n 0, 1) := by decide +kernel
theorem dX5_leg_1 : decode cX5_leg 1 = .ok (.getfield 12, 3) := by decide +kernel
theorem dX5_leg_4 : decode cX5_leg 4 = .ok (.iload_n 1, 1) := by decide +kernel
theorem dX5_leg_5 : decode cX5_leg 5 = .ok (.invokevirtual 137, 3) := by decide +kernel
theorem dX5_leg_8 : decode cX5_leg 8 = .ok (.astore 6, 2) := by decide +kernel
theorem dX5_leg_10 : decode cX5_leg 10 = .ok (.aload 6, 2) := by decide +kernel
theorem dX5_leg_12 : decode cX5_leg 12 = .ok (.ifnull 36, 3) := by decide +kernel
theorem dX5_leg_15 : decode cX5_leg 15 = .ok (.aload_n 0, 1) := by decide +kernel
theorem dX5_leg_16 : decode cX5_leg 16 = .ok (.getfield 12, 3) := by decide +kernel
theorem dX5_leg_19 : decode cX5_leg 19 = .ok (.iload_n 2, 1) := by decide +kernel
theorem dX5_leg_20 : decode cX5_leg 20 = .ok (.invokevirtual 68, 3) := by decide +kernel
theorem dX5_leg_23 : decode cX5_leg 23 = .ok (.ifCond .eq 25, 3) := by decide +kernel
theorem dX5_leg_26 : decode cX5_leg 26 = .ok (.iload 4, 2) := by decide +kernel
theorem dX5_leg_28 : decode cX5_leg 28 = .ok (.invokestatic 96, 3) := by decide +kernel
theorem dX5_leg_31 : decode cX5_leg 31 = .ok (.ifCond .eq 17, 3) := by decide +kernel
theorem dX5_leg_34 : decode cX5_leg 34 = .ok (.iload 5, 2) := by decide +kernel
theorem dX5_leg_36 : decode cX5_leg 36 = .ok (.iconst 1, 1) := by decide +kernel
theorem dX5_leg_37 : decode cX5_leg 37 = .ok (.if_icmp .lt 11, 3) := by decide +kernel
theorem dX5_leg_40 : decode cX5_leg 40 = .ok (.iload 5, 2) := by decide +kernel
theorem dX5_leg_42 : decode cX5_leg 42 = .ok (.sipush 200, 3) := by decide +kernel
theorem dX5_leg_45 : decode cX5_leg 45 = .ok (.if_icmp .le 5, 3) := by decide +kernel
theorem dX5_leg_48 : decode cX5_leg 48 = .ok (.iconst (-1), 1) := by decide +kernel
theorem dX5_leg_49 : decode cX5_leg 49 = .ok (.ireturn, 1) := by decide +kernel
theorem dX5_leg_50 : decode cX5_leg 50 = .ok (.aload 6, 2) := by decide +kernel
theorem dX5_leg_52 : decode cX5_leg 52 = .ok (.getfield 141, 3) := by decide +kernel
theorem dX5_leg_55 : decode cX5_leg 55 = .ok (.bipush 6, 2) := by decide +kernel
theorem dX5_leg_57 : decode cX5_leg 57 = .ok (.if_icmp .lt 6, 3) := by decide +kernel
theorem dX5_leg_60 : decode cX5_leg 60 = .ok (.bipush (-2), 2) := by decide +kernel
theorem dX5_leg_62 : decode cX5_leg 62 = .ok (.ireturn, 1) := by decide +kernel
theorem dX5_leg_63 : decode cX5_leg 63 = .ok (.iload 4, 2) := by decide +kernel
theorem dX5_leg_65 : decode cX5_leg 65 = .ok (.aload 6, 2) := by decide +kernel
theorem dX5_leg_67 : decode cX5_leg 67 = .ok (.invokevirtual 144, 3) := by decide +kernel
theorem dX5_leg_70 : decode cX5_leg 70 = .ok (.if_icmp .ge 6, 3) := by decide +kernel
theorem dX5_leg_73 : decode cX5_leg 73 = .ok (.bipush (-3), 2) := by decide +kernel
theorem dX5_leg_75 : decode cX5_leg 75 = .ok (.ireturn, 1) := by decide +kernel
theorem dX5_leg_76 : decode cX5_leg 76 = .ok (.aload 6, 2) := by decide +kernel
theorem dX5_leg_78 : decode cX5_leg 78 = .ok (.iload_n 2, 1) := by decide +kernel
theorem dX5_leg_79 : decode cX5_leg 79 = .ok (.iload_n 3, 1) := by decide +kernel
theorem dX5_leg_80 : decode cX5_leg 80 = .ok (.iload 4, 2) := by decide +kernel
theorem dX5_leg_82 : decode cX5_leg 82 = .ok (.iload 5, 2) := by decide +kernel
theorem dX5_leg_84 : decode cX5_leg 84 = .ok (.bipush 60, 2) := by decide +kernel
theorem dX5_leg_86 : decode cX5_leg 86 = .ok (.imul, 1) := by decide +kernel
theorem dX5_leg_87 : decode cX5_leg 87 = .ok (.invokevirtual 147, 3) := by decide +kernel
theorem dX5_leg_90 : decode cX5_leg 90 = .ok (.aload 6, 2) := by decide +kernel
theorem dX5_leg_92 : decode cX5_leg 92 = .ok (.getfield 141, 3) := by decide +kernel
theorem dX5_leg_95 : decode cX5_leg 95 = .ok (.ireturn, 1) := by decide +kernel
theorem dX5_captain_0 : decode cX5_captain 0 = .ok (.aload_n 0, 1) := by decide +kernel
theorem dX5_captain_1 : decode cX5_captain 1 = .ok (.getfield 12, 3) := by decide +kernel
theorem dX5_captain_4 : decode cX5_captain 4 = .ok (.iload_n 1, 1) := by decide +kernel
theorem dX5_captain_5 : decode cX5_captain 5 = .ok (.invokevirtual 137, 3) := by decide +kernel
theorem dX5_captain_8 : decode cX5_captain 8 = .ok (.astore 4, 2) := by decide +kernel
theorem dX5_captain_10 : decode cX5_captain 10 = .ok (.aload 4, 2) := by decide +kernel
theorem dX5_captain_12 : decode cX5_captain 12 = .ok (.ifnull 20, 3) := by decide +kernel
theorem dX5_captain_15 : decode cX5_captain 15 = .ok (.iload_n 2, 1) := by decide +kernel
theorem dX5_captain_16 : decode cX5_captain 16 = .ok (.invokestatic 96, 3) := by decide +kernel
theorem dX5_captain_19 : decode cX5_captain 19 = .ok (.ifCond .eq 13, 3) := by decide +kernel
theorem dX5_captain_22 : decode cX5_captain 22 = .ok (.iload_n 3, 1) := by decide +kernel
theorem dX5_captain_23 : decode cX5_captain 23 = .ok (.iconst 1, 1) := by decide +kernel
theorem dX5_captain_24 : decode cX5_captain 24 = .ok (.if_icmp .eq 10, 3) := by decide +kernel
theorem dX5_captain_27 : decode cX5_captain 27 = .ok (.iload_n 3, 1) := by decide +kernel
theorem dX5_captain_28 : decode cX5_captain 28 = .ok (.iconst (-1), 1) := by decide +kernel
theorem dX5_captain_29 : decode cX5_captain 29 = .ok (.if_icmp .eq 5, 3) := by decide +kernel
theorem dX5_captain_32 : decode cX5_captain 32 = .ok (.iconst (-1), 1) := by decide +kernel
theorem dX5_captain_33 : decode cX5_captain 33 = .ok (.ireturn, 1) := by decide +kernel
theorem dX5_captain_34 : decode cX5_captain 34 = .ok (.aload 4, 2) := by decide +kernel
theorem dX5_captain_36 : decode cX5_captain 36 = .ok (.getfield 151, 3) := by decide +kernel
theorem dX5_captain_39 : decode cX5_captain 39 = .ok (.bipush 8, 2) := by decide +kernel
theorem dX5_captain_41 : decode cX5_captain 41 = .ok (.if_icmp .lt 6, 3) := by decide +kernel
theorem dX5_captain_44 : decode cX5_captain 44 = .ok (.bipush (-2), 2) := by decide +kernel
theorem dX5_captain_46 : decode cX5_captain 46 = .ok (.ireturn, 1) := by decide +kernel
theorem dX5_captain_47 : decode cX5_captain 47 = .ok (.aload 4, 2) := by decide +kernel
theorem dX5_captain_49 : decode cX5_captain 49 = .ok (.getfield 124, 3) := by decide +kernel
theorem dX5_captain_52 : decode cX5_captain 52 = .ok (.iconst 4, 1) := by decide +kernel
theorem dX5_captain_53 : decode cX5_captain 53 = .ok (.if_icmp .eq 6, 3) := by decide +kernel
theorem dX5_captain_56 : decode cX5_captain 56 = .ok (.bipush (-3), 2) := by decide +kernel
theorem dX5_captain_58 : decode cX5_captain 58 = .ok (.ireturn, 1) := by decide +kernel
theorem dX5_captain_59 : decode cX5_captain 59 = .ok (.aload 4, 2) := by decide +kernel
theorem dX5_captain_61 : decode cX5_captain 61 = .ok (.getfield 154, 3) := by decide +kernel
theorem dX5_captain_64 : decode cX5_captain 64 = .ok (.aload 4, 2) := by decide +kernel
theorem dX5_captain_66 : decode cX5_captain 66 = .ok (.getfield 151, 3) := by decide +kernel
theorem dX5_captain_69 : decode cX5_captain 69 = .ok (.iload_n 2, 1) := by decide +kernel
theorem dX5_captain_70 : decode cX5_captain 70 = .ok (.iastore, 1) := by decide +kernel
theorem dX5_captain_71 : decode cX5_captain 71 = .ok (.aload 4, 2) := by decide +kernel
theorem dX5_captain_73 : decode cX5_captain 73 = .ok (.getfield 157, 3) := by decide +kernel
theorem dX5_captain_76 : decode cX5_captain 76 = .ok (.aload 4, 2) := by decide +kernel
theorem dX5_captain_78 : decode cX5_captain 78 = .ok (.getfield 151, 3) := by decide +kernel
theorem dX5_captain_81 : decode cX5_captain 81 = .ok (.iload_n 3, 1) := by decide +kernel
theorem dX5_captain_82 : decode cX5_captain 82 = .ok (.iastore, 1) := by decide +kernel
theorem dX5_captain_83 : decode cX5_captain 83 = .ok (.aload 4, 2) := by decide +kernel
theorem dX5_captain_85 : decode cX5_captain 85 = .ok (.dup, 1) := by decide +kernel
theorem dX5_captain_86 : decode cX5_captain 86 = .ok (.getfield 151, 3) := by decide +kernel
theorem dX5_captain_89 : decode cX5_captain 89 = .ok (.iconst 1, 1) := by decide +kernel
theorem dX5_captain_90 : decode cX5_captain 90 = .ok (.iadd, 1) := by decide +kernel
theorem dX5_captain_91 : decode cX5_captain 91 = .ok (.putfield 151, 3) := by decide +kernel
theorem dX5_captain_94 : decode cX5_captain 94 = .ok (.aload 4, 2) := by decide +kernel
theorem dX5_captain_96 : decode cX5_captain 96 = .ok (.getfield 151, 3) := by decide +kernel
theorem dX5_captain_99 : decode cX5_captain 99 = .ok (.ireturn, 1) := by decide +kernel
theorem dX5_where_0 : decode cX5_where 0 = .ok (.aload_n 0, 1) := by decide +kernel
theorem dX5_where_1 : decode cX5_where 1 = .ok (.getfield 12, 3) := by decide +kernel
theorem dX5_where_4 : decode cX5_where 4 = .ok (.iload_n 1, 1) := by decide +kernel
theorem dX5_where_5 : decode cX5_where 5 = .ok (.invokevirtual 137, 3) := by decide +kernel
theorem dX5_where_8 : decode cX5_where 8 = .ok (.astore 4, 2) := by decide +kernel
theorem dX5_where_10 : decode cX5_where 10 = .ok (.aload 4, 2) := by decide +kernel
theorem dX5_where_12 : decode cX5_where 12 = .ok (.ifnull 19, 3) := by decide +kernel
theorem dX5_where_15 : decode cX5_where 15 = .ok (.iload_n 2, 1) := by decide +kernel
theorem dX5_where_16 : decode cX5_where 16 = .ok (.invokestatic 96, 3) := by decide +kernel
theorem dX5_where_19 : decode cX5_where 19 = .ok (.ifCond .eq 12, 3) := by decide +kernel
theorem dX5_where_22 : decode cX5_where 22 = .ok (.iload_n 3, 1) := by decide +kernel
theorem dX5_where_23 : decode cX5_where 23 = .ok (.ifCond .lt 8, 3) := by decide +kernel
theorem dX5_where_26 : decode cX5_where 26 = .ok (.iload_n 3, 1) := by decide +kernel
theorem dX5_where_27 : decode cX5_where 27 = .ok (.iconst 1, 1) := by decide +kernel
theorem dX5_where_28 : decode cX5_where 28 = .ok (.if_icmp .le 7, 3) := by decide +kernel
theorem dX5_where_31 : decode cX5_where 31 = .ok (.ldc2_w 160, 3) := by decide +kernel
theorem dX5_where_34 : decode cX5_where 34 = .ok (.lreturn, 1) := by decide +kernel
theorem dX5_where_35 : decode cX5_where 35 = .ok (.aload_n 0, 1) := by decide +kernel
theorem dX5_where_36 : decode cX5_where 36 = .ok (.getfield 12, 3) := by decide +kernel
theorem dX5_where_39 : decode cX5_where 39 = .ok (.aload 4, 2) := by decide +kernel
theorem dX5_where_41 : decode cX5_where 41 = .ok (.aload 4, 2) := by decide +kernel
theorem dX5_where_43 : decode cX5_where 43 = .ok (.getfield 162, 3) := by decide +kernel
theorem dX5_where_46 : decode cX5_where 46 = .ok (.iload_n 2, 1) := by decide +kernel
theorem dX5_where_47 : decode cX5_where 47 = .ok (.aload_n 0, 1) := by decide +kernel
theorem dX5_where_48 : decode cX5_where 48 = .ok (.getfield 32, 3) := by decide +kernel
theorem dX5_where_51 : decode cX5_where 51 = .ok (.invokevirtual 165, 3) := by decide +kernel
theorem dX5_where_54 : decode cX5_where 54 = .ok (.aload_n 0, 1) := by decide +kernel
theorem dX5_where_55 : decode cX5_where 55 = .ok (.getfield 32, 3) := by decide +kernel
theorem dX5_where_58 : decode cX5_where 58 = .ok (.getfield 169, 3) := by decide +kernel
theorem dX5_where_61 : decode cX5_where 61 = .ok (.lstore 5, 2) := by decide +kernel
theorem dX5_where_63 : decode cX5_where 63 = .ok (.aload_n 0, 1) := by decide +kernel
theorem dX5_where_64 : decode cX5_where 64 = .ok (.getfield 12, 3) := by decide +kernel
theorem dX5_where_67 : decode cX5_where 67 = .ok (.aload 4, 2) := by decide +kernel
theorem dX5_where_69 : decode cX5_where 69 = .ok (.getfield 127, 3) := by decide +kernel
theorem dX5_where_72 : decode cX5_where 72 = .ok (.invokevirtual 173, 3) := by decide +kernel
theorem dX5_where_75 : decode cX5_where 75 = .ok (.i2l, 1) := by decide +kernel
theorem dX5_where_76 : decode cX5_where 76 = .ok (.lload 5, 2) := by decide +kernel
theorem dX5_where_78 : decode cX5_where 78 = .ok (.lmul, 1) := by decide +kernel
theorem dX5_where_79 : decode cX5_where 79 = .ok (.aload_n 0, 1) := by decide +kernel
theorem dX5_where_80 : decode cX5_where 80 = .ok (.getfield 32, 3) := by decide +kernel
theorem dX5_where_83 : decode cX5_where 83 = .ok (.getfield 176, 3) := by decide +kernel
theorem dX5_where_86 : decode cX5_where 86 = .ok (.ladd, 1) := by decide +kernel
theorem dX5_where_87 : decode cX5_where 87 = .ok (.ldc2_w 179, 3) := by decide +kernel
theorem dX5_where_90 : decode cX5_where 90 = .ok (.lload 5, 2) := by decide +kernel
theorem dX5_where_92 : decode cX5_where 92 = .ok (.lmul, 1) := by decide +kernel
theorem dX5_where_93 : decode cX5_where 93 = .ok (.invokestatic 181, 3) := by decide +kernel
theorem dX5_where_96 : decode cX5_where 96 = .ok (.lstore 7, 2) := by decide +kernel
theorem dX5_where_98 : decode cX5_where 98 = .ok (.lload 7, 2) := by decide +kernel
theorem dX5_where_100 : decode cX5_where 100 = .ok (.lload 5, 2) := by decide +kernel
theorem dX5_where_102 : decode cX5_where 102 = .ok (.invokestatic 184, 3) := by decide +kernel
theorem dX5_where_105 : decode cX5_where 105 = .ok (.lstore 9, 2) := by decide +kernel
theorem dX5_where_107 : decode cX5_where 107 = .ok (.iload_n 3, 1) := by decide +kernel
theorem dX5_where_108 : decode cX5_where 108 = .ok (.ifCond .ne 8, 3) := by decide +kernel
theorem dX5_where_111 : decode cX5_where 111 = .ok (.lload 7, 2) := by decide +kernel
theorem dX5_where_113 : decode cX5_where 113 = .ok (.goto 5, 3) := by decide +kernel
theorem dX5_where_116 : decode cX5_where 116 = .ok (.lload 5, 2) := by decide +kernel
theorem dX5_where_118 : decode cX5_where 118 = .ok (.lload 9, 2) := by decide +kernel
theorem dX5_where_120 : decode cX5_where 120 = .ok (.ldiv, 1) := by decide +kernel
theorem dX5_where_121 : decode cX5_where 121 = .ok (.lreturn, 1) := by decide +kernel
theorem dX5_in_0 : decode cX5_in 0 = .ok (.aload_n 0, 1) := by decide +kernel
theorem dX5_in_1 : decode cX5_in 1 = .ok (.getfield 12, 3) := by decide +kernel
theorem dX5_in_4 : decode cX5_in 4 = .ok (.iload_n 1, 1) := by decide +kernel
theorem dX5_in_5 : decode cX5_in 5 = .ok (.invokevirtual 137, 3) := by decide +kernel
theorem dX5_in_8 : decode cX5_in 8 = .ok (.astore_n 3, 1) := by decide +kernel
theorem dX5_in_9 : decode cX5_in 9 = .ok (.aload_n 3, 1) := by decide +kernel
theorem dX5_in_10 : decode cX5_in 10 = .ok (.ifnull 10, 3) := by decide +kernel
theorem dX5_in_13 : decode cX5_in 13 = .ok (.iload_n 2, 1) := by decide +kernel
theorem dX5_in_14 : decode cX5_in 14 = .ok (.invokestatic 96, 3) := by decide +kernel
theorem dX5_in_17 : decode cX5_in 17 = .ok (.ifCond .ne 5, 3) := by decide +kernel
theorem dX5_in_20 : decode cX5_in 20 = .ok (.iconst (-1), 1) := by decide +kernel
theorem dX5_in_21 : decode cX5_in 21 = .ok (.ireturn, 1) := by decide +kernel
theorem dX5_in_22 : decode cX5_in 22 = .ok (.aload_n 0, 1) := by decide +kernel
theorem dX5_in_23 : decode cX5_in 23 = .ok (.getfield 12, 3) := by decide +kernel
theorem dX5_in_26 : decode cX5_in 26 = .ok (.aload_n 3, 1) := by decide +kernel
theorem dX5_in_27 : decode cX5_in 27 = .ok (.aload_n 3, 1) := by decide +kernel
theorem dX5_in_28 : decode cX5_in 28 = .ok (.getfield 162, 3) := by decide +kernel
theorem dX5_in_31 : decode cX5_in 31 = .ok (.iload_n 2, 1) := by decide +kernel
theorem dX5_in_32 : decode cX5_in 32 = .ok (.aload_n 0, 1) := by decide +kernel
theorem dX5_in_33 : decode cX5_in 33 = .ok (.getfield 32, 3) := by decide +kernel
theorem dX5_in_36 : decode cX5_in 36 = .ok (.invokevirtual 165, 3) := by decide +kernel
theorem dX5_in_39 : decode cX5_in 39 = .ok (.aload_n 0, 1) := by decide +kernel
theorem dX5_in_40 : decode cX5_in 40 = .ok (.getfield 32, 3) := by decide +kernel
theorem dX5_in_43 : decode cX5_in 43 = .ok (.invokevirtual 187, 3) := by decide +kernel
theorem dX5_in_46 : decode cX5_in 46 = .ok (.ifCond .eq 8, 3) := by decide +kernel
theorem dX5_in_49 : decode cX5_in 49 = .ok (.bipush (-4), 2) := by decide +kernel
theorem dX5_in_51 : decode cX5_in 51 = .ok (.goto 10, 3) := by decide +kernel
theorem dX5_in_54 : decode cX5_in 54 = .ok (.aload_n 0, 1) := by decide +kernel
theorem dX5_in_55 : decode cX5_in 55 = .ok (.getfield 32, 3) := by decide +kernel
theorem dX5_in_58 : decode cX5_in 58 = .ok (.getfield 191, 3) := by decide +kernel
theorem dX5_in_61 : decode cX5_in 61 = .ok (.ireturn, 1) := by decide +kernel
theorem dX5_day_0 : decode cX5_day 0 = .ok (.aload_n 0, 1) := by decide +kernel
theorem dX5_day_1 : decode cX5_day 1 = .ok (.getfield 12, 3) := by decide +kernel
theorem dX5_day_4 : decode cX5_day 4 = .ok (.iload_n 1, 1) := by decide +kernel
theorem dX5_day_5 : decode cX5_day 5 = .ok (.invokevirtual 137, 3) := by decide +kernel
theorem dX5_day_8 : decode cX5_day 8 = .ok (.astore_n 3, 1) := by decide +kernel
theorem dX5_day_9 : decode cX5_day 9 = .ok (.aload_n 3, 1) := by decide +kernel
theorem dX5_day_10 : decode cX5_day 10 = .ok (.ifnull 10, 3) := by decide +kernel
theorem dX5_day_13 : decode cX5_day 13 = .ok (.iload_n 2, 1) := by decide +kernel
theorem dX5_day_14 : decode cX5_day 14 = .ok (.invokestatic 96, 3) := by decide +kernel
theorem dX5_day_17 : decode cX5_day 17 = .ok (.ifCond .ne 6, 3) := by decide +kernel
theorem dX5_day_20 : decode cX5_day 20 = .ok (.ldc 72, 2) := by decide +kernel
theorem dX5_day_22 : decode cX5_day 22 = .ok (.ireturn, 1) := by decide +kernel
theorem dX5_day_23 : decode cX5_day 23 = .ok (.aload_n 0, 1) := by decide +kernel
theorem dX5_day_24 : decode cX5_day 24 = .ok (.aload_n 3, 1) := by decide +kernel
theorem dX5_day_25 : decode cX5_day 25 = .ok (.aload_n 3, 1) := by decide +kernel
theorem dX5_day_26 : decode cX5_day 26 = .ok (.getfield 124, 3) := by decide +kernel
theorem dX5_day_29 : decode cX5_day 29 = .ok (.iload_n 2, 1) := by decide +kernel
theorem dX5_day_30 : decode cX5_day 30 = .ok (.invokevirtual 194, 3) := by decide +kernel
theorem dX5_day_33 : decode cX5_day 33 = .ok (.ireturn, 1) := by decide +kernel
theorem dX5_dayBy_0 : decode cX5_dayBy 0 = .ok (.aload_n 0, 1) := by decide +kernel
theorem dX5_dayBy_1 : decode cX5_dayBy 1 = .ok (.getfield 12, 3) := by decide +kernel
theorem dX5_dayBy_4 : decode cX5_dayBy 4 = .ok (.iload_n 1, 1) := by decide +kernel
theorem dX5_dayBy_5 : decode cX5_dayBy 5 = .ok (.invokevirtual 137, 3) := by decide +kernel
theorem dX5_dayBy_8 : decode cX5_dayBy 8 = .ok (.astore 4, 2) := by decide +kernel
theorem dX5_dayBy_10 : decode cX5_dayBy 10 = .ok (.aload 4, 2) := by decide +kernel
theorem dX5_dayBy_12 : decode cX5_dayBy 12 = .ok (.ifnull 17, 3) := by decide +kernel
theorem dX5_dayBy_15 : decode cX5_dayBy 15 = .ok (.iload_n 2, 1) := by decide +kernel
theorem dX5_dayBy_16 : decode cX5_dayBy 16 = .ok (.invokestatic 112, 3) := by decide +kernel
theorem dX5_dayBy_19 : decode cX5_dayBy 19 = .ok (.ifCond .eq 10, 3) := by decide +kernel
theorem dX5_dayBy_22 : decode cX5_dayBy 22 = .ok (.iload_n 3, 1) := by decide +kernel
theorem dX5_dayBy_23 : decode cX5_dayBy 23 = .ok (.invokestatic 96, 3) := by decide +kernel
theorem dX5_dayBy_26 : decode cX5_dayBy 26 = .ok (.ifCond .ne 6, 3) := by decide +kernel
theorem dX5_dayBy_29 : decode cX5_dayBy 29 = .ok (.ldc 72, 2) := by decide +kernel
theorem dX5_dayBy_31 : decode cX5_dayBy 31 = .ok (.ireturn, 1) := by decide +kernel
theorem dX5_dayBy_32 : decode cX5_dayBy 32 = .ok (.aload_n 0, 1) := by decide +kernel
theorem dX5_dayBy_33 : decode cX5_dayBy 33 = .ok (.aload 4, 2) := by decide +kernel
theorem dX5_dayBy_35 : decode cX5_dayBy 35 = .ok (.iload_n 2, 1) := by decide +kernel
theorem dX5_dayBy_36 : decode cX5_dayBy 36 = .ok (.iload_n 3, 1) := by decide +kernel
theorem dX5_dayBy_37 : decode cX5_dayBy 37 = .ok (.invokevirtual 194, 3) := by decide +kernel
theorem dX5_dayBy_40 : decode cX5_dayBy 40 = .ok (.ireturn, 1) := by decide +kernel
theorem dX5_gain_0 : decode cX5_gain 0 = .ok (.aload_n 0, 1) := by decide +kernel
theorem dX5_gain_1 : decode cX5_gain 1 = .ok (.getfield 12, 3) := by decide +kernel
theorem dX5_gain_4 : decode cX5_gain 4 = .ok (.iload_n 1, 1) := by decide +kernel
theorem dX5_gain_5 : decode cX5_gain 5 = .ok (.invokevirtual 137, 3) := by decide +kernel
theorem dX5_gain_8 : decode cX5_gain 8 = .ok (.astore 4, 2) := by decide +kernel
theorem dX5_gain_10 : decode cX5_gain 10 = .ok (.aload 4, 2) := by decide +kernel
theorem dX5_gain_12 : decode cX5_gain 12 = .ok (.ifnull 17, 3) := by decide +kernel
theorem dX5_gain_15 : decode cX5_gain 15 = .ok (.iload_n 2, 1) := by decide +kernel
theorem dX5_gain_16 : decode cX5_gain 16 = .ok (.invokestatic 112, 3) := by decide +kernel
theorem dX5_gain_19 : decode cX5_gain 19 = .ok (.ifCond .eq 10, 3) := by decide +kernel
theorem dX5_gain_22 : decode cX5_gain 22 = .ok (.iload_n 3, 1) := by decide +kernel
theorem dX5_gain_23 : decode cX5_gain 23 = .ok (.invokestatic 96, 3) := by decide +kernel
theorem dX5_gain_26 : decode cX5_gain 26 = .ok (.ifCond .ne 6, 3) := by decide +kernel
theorem dX5_gain_29 : decode cX5_gain 29 = .ok (.ldc 72, 2) := by decide +kernel
theorem dX5_gain_31 : decode cX5_gain 31 = .ok (.ireturn, 1) := by decide +kernel
theorem dX5_gain_32 : decode cX5_gain 32 = .ok (.aload_n 0, 1) := by decide +kernel
theorem dX5_gain_33 : decode cX5_gain 33 = .ok (.aload 4, 2) := by decide +kernel
theorem dX5_gain_35 : decode cX5_gain 35 = .ok (.iload_n 2, 1) := by decide +kernel
theorem dX5_gain_36 : decode cX5_gain 36 = .ok (.iload_n 3, 1) := by decide +kernel
theorem dX5_gain_37 : decode cX5_gain 37 = .ok (.invokevirtual 194, 3) := by decide +kernel
theorem dX5_gain_40 : decode cX5_gain 40 = .ok (.aload_n 0, 1) := by decide +kernel
theorem dX5_gain_41 : decode cX5_gain 41 = .ok (.aload 4, 2) := by decide +kernel
theorem dX5_gain_43 : decode cX5_gain 43 = .ok (.iconst 3, 1) := by decide +kernel
theorem dX5_gain_44 : decode cX5_gain 44 = .ok (.iload_n 3, 1) := by decide +kernel
theorem dX5_gain_45 : decode cX5_gain 45 = .ok (.invokevirtual 194, 3) := by decide +kernel
theorem dX5_gain_48 : decode cX5_gain 48 = .ok (.isub, 1) := by decide +kernel
theorem dX5_gain_49 : decode cX5_gain 49 = .ok (.ireturn, 1) := by decide +kernel
theorem dX5_begins_0 : decode cX5_begins 0 = .ok (.aload_n 0, 1) := by decide +kernel
theorem dX5_begins_1 : decode cX5_begins 1 = .ok (.getfield 12, 3) := by decide +kernel
theorem dX5_begins_4 : decode cX5_begins 4 = .ok (.iload_n 1, 1) := by decide +kernel
theorem dX5_begins_5 : decode cX5_begins 5 = .ok (.invokevirtual 137, 3) := by decide +kernel
theorem dX5_begins_8 : decode cX5_begins 8 = .ok (.astore_n 3, 1) := by decide +kernel
theorem dX5_begins_9 : decode cX5_begins 9 = .ok (.aload_n 3, 1) := by decide +kernel
theorem dX5_begins_10 : decode cX5_begins 10 = .ok (.ifnull 10, 3) := by decide +kernel
theorem dX5_begins_13 : decode cX5_begins 13 = .ok (.iload_n 2, 1) := by decide +kernel
theorem dX5_begins_14 : decode cX5_begins 14 = .ok (.invokestatic 96, 3) := by decide +kernel
theorem dX5_begins_17 : decode cX5_begins 17 = .ok (.ifCond .ne 5, 3) := by decide +kernel
theorem dX5_begins_20 : decode cX5_begins 20 = .ok (.iconst (-1), 1) := by decide +kernel
theorem dX5_begins_21 : decode cX5_begins 21 = .ok (.ireturn, 1) := by decide +kernel
theorem dX5_begins_22 : decode cX5_begins 22 = .ok (.aload_n 0, 1) := by decide +kernel
theorem dX5_begins_23 : decode cX5_begins 23 = .ok (.aload_n 3, 1) := by decide +kernel
theorem dX5_begins_24 : decode cX5_begins 24 = .ok (.aload_n 3, 1) := by decide +kernel
theorem dX5_begins_25 : decode cX5_begins 25 = .ok (.getfield 124, 3) := by decide +kernel
theorem dX5_begins_28 : decode cX5_begins 28 = .ok (.iload_n 2, 1) := by decide +kernel
theorem dX5_begins_29 : decode cX5_begins 29 = .ok (.invokevirtual 198, 3) := by decide +kernel
theorem dX5_begins_32 : decode cX5_begins 32 = .ok (.invokestatic 201, 3) := by decide +kernel
theorem dX5_begins_35 : decode cX5_begins 35 = .ok (.ireturn, 1) := by decide +kernel
theorem dX5_longDay_0 : decode cX5_longDay 0 = .ok (.aload_n 0, 1) := by decide +kernel
theorem dX5_longDay_1 : decode cX5_longDay 1 = .ok (.getfield 12, 3) := by decide +kernel
theorem dX5_longDay_4 : decode cX5_longDay 4 = .ok (.iload_n 1, 1) := by decide +kernel
theorem dX5_longDay_5 : decode cX5_longDay 5 = .ok (.invokevirtual 137, 3) := by decide +kernel
theorem dX5_longDay_8 : decode cX5_longDay 8 = .ok (.astore_n 3, 1) := by decide +kernel
theorem dX5_longDay_9 : decode cX5_longDay 9 = .ok (.aload_n 3, 1) := by decide +kernel
theorem dX5_longDay_10 : decode cX5_longDay 10 = .ok (.ifnull 10, 3) := by decide +kernel
theorem dX5_longDay_13 : decode cX5_longDay 13 = .ok (.iload_n 2, 1) := by decide +kernel
theorem dX5_longDay_14 : decode cX5_longDay 14 = .ok (.invokestatic 96, 3) := by decide +kernel
theorem dX5_longDay_17 : decode cX5_longDay 17 = .ok (.ifCond .ne 5, 3) := by decide +kernel
theorem dX5_longDay_20 : decode cX5_longDay 20 = .ok (.iconst (-1), 1) := by decide +kernel
theorem dX5_longDay_21 : decode cX5_longDay 21 = .ok (.ireturn, 1) := by decide +kernel
theorem dX5_longDay_22 : decode cX5_longDay 22 = .ok (.iconst 0, 1) := by decide +kernel
theorem dX5_longDay_23 : decode cX5_longDay 23 = .ok (.istore 4, 2) := by decide +kernel
theorem dX5_longDay_25 : decode cX5_longDay 25 = .ok (.aload_n 0, 1) := by decide +kernel
theorem dX5_longDay_26 : decode cX5_longDay 26 = .ok (.aload_n 3, 1) := by decide +kernel
theorem dX5_longDay_27 : decode cX5_longDay 27 = .ok (.aload_n 3, 1) := by decide +kernel
theorem dX5_longDay_28 : decode cX5_longDay 28 = .ok (.getfield 124, 3) := by decide +kernel
theorem dX5_longDay_31 : decode cX5_longDay 31 = .ok (.iload 4, 2) := by decide +kernel
theorem dX5_longDay_33 : decode cX5_longDay 33 = .ok (.invokevirtual 198, 3) := by decide +kernel
theorem dX5_longDay_36 : decode cX5_longDay 36 = .ok (.istore 5, 2) := by decide +kernel
theorem dX5_longDay_38 : decode cX5_longDay 38 = .ok (.iconst 0, 1) := by decide +kernel
theorem dX5_longDay_39 : decode cX5_longDay 39 = .ok (.istore 6, 2) := by decide +kernel
theorem dX5_longDay_41 : decode cX5_longDay 41 = .ok (.iload 6, 2) := by decide +kernel
theorem dX5_longDay_43 : decode cX5_longDay 43 = .ok (.sipush 19999, 3) := by decide +kernel
theorem dX5_longDay_46 : decode cX5_longDay 46 = .ok (.if_icmp .gt 32, 3) := by decide +kernel
theorem dX5_longDay_49 : decode cX5_longDay 49 = .ok (.iload 5, 2) := by decide +kernel
theorem dX5_longDay_51 : decode cX5_longDay 51 = .ok (.iload_n 2, 1) := by decide +kernel
theorem dX5_longDay_52 : decode cX5_longDay 52 = .ok (.if_icmp .gt 26, 3) := by decide +kernel
theorem dX5_longDay_55 : decode cX5_longDay 55 = .ok (.iload 5, 2) := by decide +kernel
theorem dX5_longDay_57 : decode cX5_longDay 57 = .ok (.istore 4, 2) := by decide +kernel
theorem dX5_longDay_59 : decode cX5_longDay 59 = .ok (.aload_n 0, 1) := by decide +kernel
theorem dX5_longDay_60 : decode cX5_longDay 60 = .ok (.aload_n 3, 1) := by decide +kernel
theorem dX5_longDay_61 : decode cX5_longDay 61 = .ok (.aload_n 3, 1) := by decide +kernel
theorem dX5_longDay_62 : decode cX5_longDay 62 = .ok (.getfield 124, 3) := by decide +kernel
theorem dX5_longDay_65 : decode cX5_longDay 65 = .ok (.iload 4, 2) := by decide +kernel
theorem dX5_longDay_67 : decode cX5_longDay 67 = .ok (.invokevirtual 198, 3) := by decide +kernel
theorem dX5_longDay_70 : decode cX5_longDay 70 = .ok (.istore 5, 2) := by decide +kernel
theorem dX5_longDay_72 : decode cX5_longDay 72 = .ok (.iinc 6 1, 3) := by decide +kernel
theorem dX5_longDay_75 : decode cX5_longDay 75 = .ok (.goto (-34), 3) := by decide +kernel
theorem dX5_longDay_78 : decode cX5_longDay 78 = .ok (.iload 5, 2) := by decide +kernel
theorem dX5_longDay_80 : decode cX5_longDay 80 = .ok (.sipush 19999, 3) := by decide +kernel
theorem dX5_longDay_83 : decode cX5_longDay 83 = .ok (.if_icmp .le 8, 3) := by decide +kernel
theorem dX5_longDay_86 : decode cX5_longDay 86 = .ok (.bipush (-4), 2) := by decide +kernel
theorem dX5_longDay_88 : decode cX5_longDay 88 = .ok (.goto 8, 3) := by decide +kernel
theorem dX5_longDay_91 : decode cX5_longDay 91 = .ok (.iload 5, 2) := by decide +kernel
theorem dX5_longDay_93 : decode cX5_longDay 93 = .ok (.iload 4, 2) := by decide +kernel
theorem dX5_longDay_95 : decode cX5_longDay 95 = .ok (.isub, 1) := by decide +kernel
theorem dX5_longDay_96 : decode cX5_longDay 96 = .ok (.ireturn, 1) := by decide +kernel
theorem dX5_often_0 : decode cX5_often 0 = .ok (.aload_n 0, 1) := by decide +kernel
theorem dX5_often_1 : decode cX5_often 1 = .ok (.getfield 12, 3) := by decide +kernel
theorem dX5_often_4 : decode cX5_often 4 = .ok (.iload_n 1, 1) := by decide +kernel
theorem dX5_often_5 : decode cX5_often 5 = .ok (.invokevirtual 137, 3) := by decide +kernel
theorem dX5_often_8 : decode cX5_often 8 = .ok (.astore 4, 2) := by decide +kernel
theorem dX5_often_10 : decode cX5_often 10 = .ok (.aload 4, 2) := by decide +kernel
theorem dX5_often_12 : decode cX5_often 12 = .ok (.ifnull 10, 3) := by decide +kernel
theorem dX5_often_15 : decode cX5_often 15 = .ok (.iload_n 3, 1) := by decide +kernel
theorem dX5_often_16 : decode cX5_often 16 = .ok (.invokestatic 96, 3) := by decide +kernel
theorem dX5_often_19 : decode cX5_often 19 = .ok (.ifCond .ne 5, 3) := by decide +kernel
theorem dX5_often_22 : decode cX5_often 22 = .ok (.iconst (-1), 1) := by decide +kernel
theorem dX5_often_23 : decode cX5_often 23 = .ok (.ireturn, 1) := by decide +kernel
theorem dX5_often_24 : decode cX5_often 24 = .ok (.iconst 0, 1) := by decide +kernel
theorem dX5_often_25 : decode cX5_often 25 = .ok (.istore 5, 2) := by decide +kernel
theorem dX5_often_27 : decode cX5_often 27 = .ok (.iconst 0, 1) := by decide +kernel
theorem dX5_often_28 : decode cX5_often 28 = .ok (.istore 6, 2) := by decide +kernel
theorem dX5_often_30 : decode cX5_often 30 = .ok (.iconst 0, 1) := by decide +kernel
theorem dX5_often_31 : decode cX5_often 31 = .ok (.istore 7, 2) := by decide +kernel
theorem dX5_often_33 : decode cX5_often 33 = .ok (.iload 7, 2) := by decide +kernel
theorem dX5_often_35 : decode cX5_often 35 = .ok (.sipush 19999, 3) := by decide +kernel
theorem dX5_often_38 : decode cX5_often 38 = .ok (.if_icmp .gt 50, 3) := by decide +kernel
theorem dX5_often_41 : decode cX5_often 41 = .ok (.iload 6, 2) := by decide +kernel
theorem dX5_often_43 : decode cX5_often 43 = .ok (.iload_n 3, 1) := by decide +kernel
theorem dX5_often_44 : decode cX5_often 44 = .ok (.if_icmp .gt 44, 3) := by decide +kernel
theorem dX5_often_47 : decode cX5_often 47 = .ok (.aload_n 0, 1) := by decide +kernel
theorem dX5_often_48 : decode cX5_often 48 = .ok (.aload 4, 2) := by decide +kernel
theorem dX5_often_50 : decode cX5_often 50 = .ok (.aload 4, 2) := by decide +kernel
theorem dX5_often_52 : decode cX5_often 52 = .ok (.getfield 124, 3) := by decide +kernel
theorem dX5_often_55 : decode cX5_often 55 = .ok (.iload 6, 2) := by decide +kernel
theorem dX5_often_57 : decode cX5_often 57 = .ok (.invokevirtual 194, 3) := by decide +kernel
theorem dX5_often_60 : decode cX5_often 60 = .ok (.iload_n 2, 1) := by decide +kernel
theorem dX5_often_61 : decode cX5_often 61 = .ok (.if_icmp .ne 6, 3) := by decide +kernel
theorem dX5_often_64 : decode cX5_often 64 = .ok (.iinc 5 1, 3) := by decide +kernel
theorem dX5_often_67 : decode cX5_often 67 = .ok (.aload_n 0, 1) := by decide +kernel
theorem dX5_often_68 : decode cX5_often 68 = .ok (.aload 4, 2) := by decide +kernel
theorem dX5_often_70 : decode cX5_often 70 = .ok (.aload 4, 2) := by decide +kernel
theorem dX5_often_72 : decode cX5_often 72 = .ok (.getfield 124, 3) := by decide +kernel
theorem dX5_often_75 : decode cX5_often 75 = .ok (.iload 6, 2) := by decide +kernel
theorem dX5_often_77 : decode cX5_often 77 = .ok (.invokevirtual 198, 3) := by decide +kernel
theorem dX5_often_80 : decode cX5_often 80 = .ok (.istore 6, 2) := by decide +kernel
theorem dX5_often_82 : decode cX5_often 82 = .ok (.iinc 7 1, 3) := by decide +kernel
theorem dX5_often_85 : decode cX5_often 85 = .ok (.goto (-52), 3) := by decide +kernel
theorem dX5_often_88 : decode cX5_often 88 = .ok (.iload 5, 2) := by decide +kernel
theorem dX5_often_90 : decode cX5_often 90 = .ok (.ireturn, 1) := by decide +kernel
theorem dX5_duty_0 : decode cX5_duty 0 = .ok (.aload_n 0, 1) := by decide +kernel
theorem dX5_duty_1 : decode cX5_duty 1 = .ok (.getfield 12, 3) := by decide +kernel
theorem dX5_duty_4 : decode cX5_duty 4 = .ok (.iload_n 1, 1) := by decide +kernel
theorem dX5_duty_5 : decode cX5_duty 5 = .ok (.invokevirtual 137, 3) := by decide +kernel
theorem dX5_duty_8 : decode cX5_duty 8 = .ok (.astore 4, 2) := by decide +kernel
theorem dX5_duty_10 : decode cX5_duty 10 = .ok (.aload 4, 2) := by decide +kernel
theorem dX5_duty_12 : decode cX5_duty 12 = .ok (.ifnull 20, 3) := by decide +kernel
theorem dX5_duty_15 : decode cX5_duty 15 = .ok (.iload_n 2, 1) := by decide +kernel
theorem dX5_duty_16 : decode cX5_duty 16 = .ok (.invokestatic 96, 3) := by decide +kernel
theorem dX5_duty_19 : decode cX5_duty 19 = .ok (.ifCond .eq 13, 3) := by decide +kernel
theorem dX5_duty_22 : decode cX5_duty 22 = .ok (.iload_n 3, 1) := by decide +kernel
theorem dX5_duty_23 : decode cX5_duty 23 = .ok (.ifCond .lt 9, 3) := by decide +kernel
theorem dX5_duty_26 : decode cX5_duty 26 = .ok (.iload_n 3, 1) := by decide +kernel
theorem dX5_duty_27 : decode cX5_duty 27 = .ok (.bipush 10, 2) := by decide +kernel
theorem dX5_duty_29 : decode cX5_duty 29 = .ok (.if_icmp .le 5, 3) := by decide +kernel
theorem dX5_duty_32 : decode cX5_duty 32 = .ok (.iconst (-1), 1) := by decide +kernel
theorem dX5_duty_33 : decode cX5_duty 33 = .ok (.ireturn, 1) := by decide +kernel
theorem dX5_duty_34 : decode cX5_duty 34 = .ok (.aload_n 0, 1) := by decide +kernel
theorem dX5_duty_35 : decode cX5_duty 35 = .ok (.aload 4, 2) := by decide +kernel
theorem dX5_duty_37 : decode cX5_duty 37 = .ok (.aload 4, 2) := by decide +kernel
theorem dX5_duty_39 : decode cX5_duty 39 = .ok (.getfield 124, 3) := by decide +kernel
theorem dX5_duty_42 : decode cX5_duty 42 = .ok (.iload_n 2, 1) := by decide +kernel
theorem dX5_duty_43 : decode cX5_duty 43 = .ok (.invokevirtual 194, 3) := by decide +kernel
theorem dX5_duty_46 : decode cX5_duty 46 = .ok (.iload_n 3, 1) := by decide +kernel
theorem dX5_duty_47 : decode cX5_duty 47 = .ok (.iadd, 1) := by decide +kernel
theorem dX5_duty_48 : decode cX5_duty 48 = .ok (.istore 5, 2) := by decide +kernel
theorem dX5_duty_50 : decode cX5_duty 50 = .ok (.iload_n 2, 1) := by decide +kernel
theorem dX5_duty_51 : decode cX5_duty 51 = .ok (.istore 6, 2) := by decide +kernel
theorem dX5_duty_53 : decode cX5_duty 53 = .ok (.iconst 0, 1) := by decide +kernel
theorem dX5_duty_54 : decode cX5_duty 54 = .ok (.istore 7, 2) := by decide +kernel
theorem dX5_duty_56 : decode cX5_duty 56 = .ok (.iload 7, 2) := by decide +kernel
theorem dX5_duty_58 : decode cX5_duty 58 = .ok (.sipush 19999, 3) := by decide +kernel
theorem dX5_duty_61 : decode cX5_duty 61 = .ok (.if_icmp .gt 53, 3) := by decide +kernel
theorem dX5_duty_64 : decode cX5_duty 64 = .ok (.iload 6, 2) := by decide +kernel
theorem dX5_duty_66 : decode cX5_duty 66 = .ok (.sipush 19999, 3) := by decide +kernel
theorem dX5_duty_69 : decode cX5_duty 69 = .ok (.if_icmp .gt 45, 3) := by decide +kernel
theorem dX5_duty_72 : decode cX5_duty 72 = .ok (.aload_n 0, 1) := by decide +kernel
theorem dX5_duty_73 : decode cX5_duty 73 = .ok (.aload 4, 2) := by decide +kernel
theorem dX5_duty_75 : decode cX5_duty 75 = .ok (.aload 4, 2) := by decide +kernel
theorem dX5_duty_77 : decode cX5_duty 77 = .ok (.getfield 124, 3) := by decide +kernel
theorem dX5_duty_80 : decode cX5_duty 80 = .ok (.iload 6, 2) := by decide +kernel
theorem dX5_duty_82 : decode cX5_duty 82 = .ok (.invokevirtual 194, 3) := by decide +kernel
theorem dX5_duty_85 : decode cX5_duty 85 = .ok (.iload 5, 2) := by decide +kernel
theorem dX5_duty_87 : decode cX5_duty 87 = .ok (.if_icmp .lt 6, 3) := by decide +kernel
theorem dX5_duty_90 : decode cX5_duty 90 = .ok (.iload 6, 2) := by decide +kernel
theorem dX5_duty_92 : decode cX5_duty 92 = .ok (.ireturn, 1) := by decide +kernel
theorem dX5_duty_93 : decode cX5_duty 93 = .ok (.aload_n 0, 1) := by decide +kernel
theorem dX5_duty_94 : decode cX5_duty 94 = .ok (.aload 4, 2) := by decide +kernel
theorem dX5_duty_96 : decode cX5_duty 96 = .ok (.aload 4, 2) := by decide +kernel
theorem dX5_duty_98 : decode cX5_duty 98 = .ok (.getfield 124, 3) := by decide +kernel
theorem dX5_duty_101 : decode cX5_duty 101 = .ok (.iload 6, 2) := by decide +kernel
theorem dX5_duty_103 : decode cX5_duty 103 = .ok (.invokevirtual 198, 3) := by decide +kernel
theorem dX5_duty_106 : decode cX5_duty 106 = .ok (.istore 6, 2) := by decide +kernel
theorem dX5_duty_108 : decode cX5_duty 108 = .ok (.iinc 7 1, 3) := by decide +kernel
theorem dX5_duty_111 : decode cX5_duty 111 = .ok (.goto (-55), 3) := by decide +kernel
theorem dX5_duty_114 : decode cX5_duty 114 = .ok (.bipush (-4), 2) := by decide +kernel
theorem dX5_duty_116 : decode cX5_duty 116 = .ok (.ireturn, 1) := by decide +kernel
theorem dX5_differ_0 : decode cX5_differ 0 = .ok (.aload_n 0, 1) := by decide +kernel
theorem dX5_differ_1 : decode cX5_differ 1 = .ok (.getfield 12, 3) := by decide +kernel
theorem dX5_differ_4 : decode cX5_differ 4 = .ok (.iload_n 1, 1) := by decide +kernel
theorem dX5_differ_5 : decode cX5_differ 5 = .ok (.invokevirtual 137, 3) := by decide +kernel
theorem dX5_differ_8 : decode cX5_differ 8 = .ok (.astore 4, 2) := by decide +kernel
theorem dX5_differ_10 : decode cX5_differ 10 = .ok (.aload_n 0, 1) := by decide +kernel
theorem dX5_differ_11 : decode cX5_differ 11 = .ok (.getfield 12, 3) := by decide +kernel
theorem dX5_differ_14 : decode cX5_differ 14 = .ok (.iload_n 2, 1) := by decide +kernel
theorem dX5_differ_15 : decode cX5_differ 15 = .ok (.invokevirtual 137, 3) := by decide +kernel
theorem dX5_differ_18 : decode cX5_differ 18 = .ok (.astore 5, 2) := by decide +kernel
theorem dX5_differ_20 : decode cX5_differ 20 = .ok (.aload 4, 2) := by decide +kernel
theorem dX5_differ_22 : decode cX5_differ 22 = .ok (.ifnull 15, 3) := by decide +kernel
theorem dX5_differ_25 : decode cX5_differ 25 = .ok (.aload 5, 2) := by decide +kernel
theorem dX5_differ_27 : decode cX5_differ 27 = .ok (.ifnull 10, 3) := by decide +kernel
theorem dX5_differ_30 : decode cX5_differ 30 = .ok (.iload_n 3, 1) := by decide +kernel
theorem dX5_differ_31 : decode cX5_differ 31 = .ok (.invokestatic 96, 3) := by decide +kernel
theorem dX5_differ_34 : decode cX5_differ 34 = .ok (.ifCond .ne 6, 3) := by decide +kernel
theorem dX5_differ_37 : decode cX5_differ 37 = .ok (.ldc 72, 2) := by decide +kernel
theorem dX5_differ_39 : decode cX5_differ 39 = .ok (.ireturn, 1) := by decide +kernel
theorem dX5_differ_40 : decode cX5_differ 40 = .ok (.aload_n 0, 1) := by decide +kernel
theorem dX5_differ_41 : decode cX5_differ 41 = .ok (.aload 4, 2) := by decide +kernel
theorem dX5_differ_43 : decode cX5_differ 43 = .ok (.aload 4, 2) := by decide +kernel
theorem dX5_differ_45 : decode cX5_differ 45 = .ok (.getfield 124, 3) := by decide +kernel
theorem dX5_differ_48 : decode cX5_differ 48 = .ok (.iload_n 3, 1) := by decide +kernel
theorem dX5_differ_49 : decode cX5_differ 49 = .ok (.invokevirtual 194, 3) := by decide +kernel
theorem dX5_differ_52 : decode cX5_differ 52 = .ok (.aload_n 0, 1) := by decide +kernel
theorem dX5_differ_53 : decode cX5_differ 53 = .ok (.aload 5, 2) := by decide +kernel
theorem dX5_differ_55 : decode cX5_differ 55 = .ok (.aload 5, 2) := by decide +kernel
theorem dX5_differ_57 : decode cX5_differ 57 = .ok (.getfield 124, 3) := by decide +kernel
theorem dX5_differ_60 : decode cX5_differ 60 = .ok (.iload_n 3, 1) := by decide +kernel
theorem dX5_differ_61 : decode cX5_differ 61 = .ok (.invokevirtual 194, 3) := by decide +kernel
theorem dX5_differ_64 : decode cX5_differ 64 = .ok (.isub, 1) := by decide +kernel
theorem dX5_differ_65 : decode cX5_differ 65 = .ok (.ireturn, 1) := by decide +kernel
theorem dX5_agree_0 : decode cX5_agree 0 = .ok (.aload_n 0, 1) := by decide +kernel
theorem dX5_agree_1 : decode cX5_agree 1 = .ok (.getfield 12, 3) := by decide +kernel
theorem dX5_agree_4 : decode cX5_agree 4 = .ok (.iload_n 1, 1) := by decide +kernel
theorem dX5_agree_5 : decode cX5_agree 5 = .ok (.invokevirtual 137, 3) := by decide +kernel
theorem dX5_agree_8 : decode cX5_agree 8 = .ok (.astore 4, 2) := by decide +kernel
theorem dX5_agree_10 : decode cX5_agree 10 = .ok (.aload_n 0, 1) := by decide +kernel
theorem dX5_agree_11 : decode cX5_agree 11 = .ok (.getfield 12, 3) := by decide +kernel
theorem dX5_agree_14 : decode cX5_agree 14 = .ok (.iload_n 2, 1) := by decide +kernel
theorem dX5_agree_15 : decode cX5_agree 15 = .ok (.invokevirtual 137, 3) := by decide +kernel
theorem dX5_agree_18 : decode cX5_agree 18 = .ok (.astore 5, 2) := by decide +kernel
theorem dX5_agree_20 : decode cX5_agree 20 = .ok (.aload 4, 2) := by decide +kernel
theorem dX5_agree_22 : decode cX5_agree 22 = .ok (.ifnull 15, 3) := by decide +kernel
theorem dX5_agree_25 : decode cX5_agree 25 = .ok (.aload 5, 2) := by decide +kernel
theorem dX5_agree_27 : decode cX5_agree 27 = .ok (.ifnull 10, 3) := by decide +kernel
theorem dX5_agree_30 : decode cX5_agree 30 = .ok (.iload_n 3, 1) := by decide +kernel
theorem dX5_agree_31 : decode cX5_agree 31 = .ok (.invokestatic 96, 3) := by decide +kernel
theorem dX5_agree_34 : decode cX5_agree 34 = .ok (.ifCond .ne 5, 3) := by decide +kernel
theorem dX5_agree_37 : decode cX5_agree 37 = .ok (.iconst (-1), 1) := by decide +kernel
theorem dX5_agree_38 : decode cX5_agree 38 = .ok (.ireturn, 1) := by decide +kernel
theorem dX5_agree_39 : decode cX5_agree 39 = .ok (.iload_n 3, 1) := by decide +kernel
theorem dX5_agree_40 : decode cX5_agree 40 = .ok (.istore 6, 2) := by decide +kernel
theorem dX5_agree_42 : decode cX5_agree 42 = .ok (.iconst 0, 1) := by decide +kernel
theorem dX5_agree_43 : decode cX5_agree 43 = .ok (.istore 7, 2) := by decide +kernel
theorem dX5_agree_45 : decode cX5_agree 45 = .ok (.iload 7, 2) := by decide +kernel
theorem dX5_agree_47 : decode cX5_agree 47 = .ok (.sipush 19999, 3) := by decide +kernel
theorem dX5_agree_50 : decode cX5_agree 50 = .ok (.if_icmp .gt 80, 3) := by decide +kernel
theorem dX5_agree_53 : decode cX5_agree 53 = .ok (.iload 6, 2) := by decide +kernel
theorem dX5_agree_55 : decode cX5_agree 55 = .ok (.sipush 19999, 3) := by decide +kernel
theorem dX5_agree_58 : decode cX5_agree 58 = .ok (.if_icmp .gt 72, 3) := by decide +kernel
theorem dX5_agree_61 : decode cX5_agree 61 = .ok (.aload_n 0, 1) := by decide +kernel
theorem dX5_agree_62 : decode cX5_agree 62 = .ok (.aload 4, 2) := by decide +kernel
theorem dX5_agree_64 : decode cX5_agree 64 = .ok (.aload 4, 2) := by decide +kernel
theorem dX5_agree_66 : decode cX5_agree 66 = .ok (.getfield 124, 3) := by decide +kernel
theorem dX5_agree_69 : decode cX5_agree 69 = .ok (.iload 6, 2) := by decide +kernel
theorem dX5_agree_71 : decode cX5_agree 71 = .ok (.invokevirtual 194, 3) := by decide +kernel
theorem dX5_agree_74 : decode cX5_agree 74 = .ok (.aload_n 0, 1) := by decide +kernel
theorem dX5_agree_75 : decode cX5_agree 75 = .ok (.aload 5, 2) := by decide +kernel
theorem dX5_agree_77 : decode cX5_agree 77 = .ok (.aload 5, 2) := by decide +kernel
theorem dX5_agree_79 : decode cX5_agree 79 = .ok (.getfield 124, 3) := by decide +kernel
theorem dX5_agree_82 : decode cX5_agree 82 = .ok (.iload 6, 2) := by decide +kernel
theorem dX5_agree_84 : decode cX5_agree 84 = .ok (.invokevirtual 194, 3) := by decide +kernel
theorem dX5_agree_87 : decode cX5_agree 87 = .ok (.if_icmp .ne 6, 3) := by decide +kernel
theorem dX5_agree_90 : decode cX5_agree 90 = .ok (.iload 6, 2) := by decide +kernel
theorem dX5_agree_92 : decode cX5_agree 92 = .ok (.ireturn, 1) := by decide +kernel
theorem dX5_agree_93 : decode cX5_agree 93 = .ok (.aload_n 0, 1) := by decide +kernel
theorem dX5_agree_94 : decode cX5_agree 94 = .ok (.aload 4, 2) := by decide +kernel
theorem dX5_agree_96 : decode cX5_agree 96 = .ok (.aload 4, 2) := by decide +kernel
theorem dX5_agree_98 : decode cX5_agree 98 = .ok (.getfield 124, 3) := by decide +kernel
theorem dX5_agree_101 : decode cX5_agree 101 = .ok (.iload 6, 2) := by decide +kernel
theorem dX5_agree_103 : decode cX5_agree 103 = .ok (.invokevirtual 198, 3) := by decide +kernel
theorem dX5_agree_106 : decode cX5_agree 106 = .ok (.aload_n 0, 1) := by decide +kernel
theorem dX5_agree_107 : decode cX5_agree 107 = .ok (.aload 5, 2) := by decide +kernel
theorem dX5_agree_109 : decode cX5_agree 109 = .ok (.aload 5, 2) := by decide +kernel
theorem dX5_agree_111 : decode cX5_agree 111 = .ok (.getfield 124, 3) := by decide +kernel
theorem dX5_agree_114 : decode cX5_agree 114 = .ok (.iload 6, 2) := by decide +kernel
theorem dX5_agree_116 : decode cX5_agree 116 = .ok (.invokevirtual 198, 3) := by decide +kernel
theorem dX5_agree_119 : decode cX5_agree 119 = .ok (.invokestatic 204, 3) := by decide +kernel
theorem dX5_agree_122 : decode cX5_agree 122 = .ok (.istore 6, 2) := by decide +kernel
theorem dX5_agree_124 : decode cX5_agree 124 = .ok (.iinc 7 1, 3) := by decide +kernel
theorem dX5_agree_127 : decode cX5_agree 127 = .ok (.goto (-82), 3) := by decide +kernel
theorem dX5_agree_130 : decode cX5_agree 130 = .ok (.bipush (-4), 2) := by decide +kernel
theorem dX5_agree_132 : decode cX5_agree 132 = .ok (.ireturn, 1) := by decide +kernel
theorem dX5_part_0 : decode cX5_part 0 = .ok (.aload_n 0, 1) := by decide +kernel
theorem dX5_part_1 : decode cX5_part 1 = .ok (.getfield 12, 3) := by decide +kernel
theorem dX5_part_4 : decode cX5_part 4 = .ok (.iload_n 1, 1) := by decide +kernel
theorem dX5_part_5 : decode cX5_part 5 = .ok (.invokevirtual 137, 3) := by decide +kernel
theorem dX5_part_8 : decode cX5_part 8 = .ok (.astore 5, 2) := by decide +kernel
theorem dX5_part_10 : decode cX5_part 10 = .ok (.aload 5, 2) := by decide +kernel
theorem dX5_part_12 : decode cX5_part 12 = .ok (.ifnull 30, 3) := by decide +kernel
theorem dX5_part_15 : decode cX5_part 15 = .ok (.iload_n 2, 1) := by decide +kernel
theorem dX5_part_16 : decode cX5_part 16 = .ok (.invokestatic 112, 3) := by decide +kernel
theorem dX5_part_19 : decode cX5_part 19 = .ok (.ifCond .eq 23, 3) := by decide +kernel
theorem dX5_part_22 : decode cX5_part 22 = .ok (.iload_n 3, 1) := by decide +kernel
theorem dX5_part_23 : decode cX5_part 23 = .ok (.invokestatic 112, 3) := by decide +kernel
theorem dX5_part_26 : decode cX5_part 26 = .ok (.ifCond .eq 16, 3) := by decide +kernel
theorem dX5_part_29 : decode cX5_part 29 = .ok (.iload_n 2, 1) := by decide +kernel
theorem dX5_part_30 : decode cX5_part 30 = .ok (.iload_n 3, 1) := by decide +kernel
theorem dX5_part_31 : decode cX5_part 31 = .ok (.if_icmp .eq 11, 3) := by decide +kernel
theorem dX5_part_34 : decode cX5_part 34 = .ok (.iload 4, 2) := by decide +kernel
theorem dX5_part_36 : decode cX5_part 36 = .ok (.invokestatic 96, 3) := by decide +kernel
theorem dX5_part_39 : decode cX5_part 39 = .ok (.ifCond .ne 5, 3) := by decide +kernel
theorem dX5_part_42 : decode cX5_part 42 = .ok (.iconst (-1), 1) := by decide +kernel
theorem dX5_part_43 : decode cX5_part 43 = .ok (.ireturn, 1) := by decide +kernel
theorem dX5_part_44 : decode cX5_part 44 = .ok (.iload 4, 2) := by decide +kernel
theorem dX5_part_46 : decode cX5_part 46 = .ok (.istore 6, 2) := by decide +kernel
theorem dX5_part_48 : decode cX5_part 48 = .ok (.iconst 0, 1) := by decide +kernel
theorem dX5_part_49 : decode cX5_part 49 = .ok (.istore 7, 2) := by decide +kernel
theorem dX5_part_51 : decode cX5_part 51 = .ok (.iload 7, 2) := by decide +kernel
theorem dX5_part_53 : decode cX5_part 53 = .ok (.sipush 19999, 3) := by decide +kernel
theorem dX5_part_56 : decode cX5_part 56 = .ok (.if_icmp .gt 64, 3) := by decide +kernel
theorem dX5_part_59 : decode cX5_part 59 = .ok (.iload 6, 2) := by decide +kernel
theorem dX5_part_61 : decode cX5_part 61 = .ok (.sipush 19999, 3) := by decide +kernel
theorem dX5_part_64 : decode cX5_part 64 = .ok (.if_icmp .gt 56, 3) := by decide +kernel
theorem dX5_part_67 : decode cX5_part 67 = .ok (.aload_n 0, 1) := by decide +kernel
theorem dX5_part_68 : decode cX5_part 68 = .ok (.aload 5, 2) := by decide +kernel
theorem dX5_part_70 : decode cX5_part 70 = .ok (.iload_n 2, 1) := by decide +kernel
theorem dX5_part_71 : decode cX5_part 71 = .ok (.iload 6, 2) := by decide +kernel
theorem dX5_part_73 : decode cX5_part 73 = .ok (.invokevirtual 194, 3) := by decide +kernel
theorem dX5_part_76 : decode cX5_part 76 = .ok (.aload_n 0, 1) := by decide +kernel
theorem dX5_part_77 : decode cX5_part 77 = .ok (.aload 5, 2) := by decide +kernel
theorem dX5_part_79 : decode cX5_part 79 = .ok (.iload_n 3, 1) := by decide +kernel
theorem dX5_part_80 : decode cX5_part 80 = .ok (.iload 6, 2) := by decide +kernel
theorem dX5_part_82 : decode cX5_part 82 = .ok (.invokevirtual 194, 3) := by decide +kernel
theorem dX5_part_85 : decode cX5_part 85 = .ok (.if_icmp .eq 6, 3) := by decide +kernel
theorem dX5_part_88 : decode cX5_part 88 = .ok (.iload 6, 2) := by decide +kernel
theorem dX5_part_90 : decode cX5_part 90 = .ok (.ireturn, 1) := by decide +kernel
theorem dX5_part_91 : decode cX5_part 91 = .ok (.aload_n 0, 1) := by decide +kernel
theorem dX5_part_92 : decode cX5_part 92 = .ok (.aload 5, 2) := by decide +kernel
theorem dX5_part_94 : decode cX5_part 94 = .ok (.iload_n 2, 1) := by decide +kernel
theorem dX5_part_95 : decode cX5_part 95 = .ok (.iload 6, 2) := by decide +kernel
theorem dX5_part_97 : decode cX5_part 97 = .ok (.invokevirtual 198, 3) := by decide +kernel
theorem dX5_part_100 : decode cX5_part 100 = .ok (.aload_n 0, 1) := by decide +kernel
theorem dX5_part_101 : decode cX5_part 101 = .ok (.aload 5, 2) := by decide +kernel
theorem dX5_part_103 : decode cX5_part 103 = .ok (.iload_n 3, 1) := by decide +kernel
theorem dX5_part_104 : decode cX5_part 104 = .ok (.iload 6, 2) := by decide +kernel
theorem dX5_part_106 : decode cX5_part 106 = .ok (.invokevirtual 198, 3) := by decide +kernel
theorem dX5_part_109 : decode cX5_part 109 = .ok (.invokestatic 204, 3) := by decide +kernel
theorem dX5_part_112 : decode cX5_part 112 = .ok (.istore 6, 2) := by decide +kernel
theorem dX5_part_114 : decode cX5_part 114 = .ok (.iinc 7 1, 3) := by decide +kernel
theorem dX5_part_117 : decode cX5_part 117 = .ok (.goto (-66), 3) := by decide +kernel
theorem dX5_part_120 : decode cX5_part 120 = .ok (.bipush (-4), 2) := by decide +kernel
theorem dX5_part_122 : decode cX5_part 122 = .ok (.ireturn, 1) := by decide +kernel
theorem dX5_wrong_0 : decode cX5_wrong 0 = .ok (.iload_n 1, 1) := by decide +kernel
theorem dX5_wrong_1 : decode cX5_wrong 1 = .ok (.invokestatic 89, 3) := by decide +kernel
theorem dX5_wrong_4 : decode cX5_wrong 4 = .ok (.ifCond .eq 10, 3) := by decide +kernel
theorem dX5_wrong_7 : decode cX5_wrong 7 = .ok (.iload_n 2, 1) := by decide +kernel
theorem dX5_wrong_8 : decode cX5_wrong 8 = .ok (.invokestatic 96, 3) := by decide +kernel
theorem dX5_wrong_11 : decode cX5_wrong 11 = .ok (.ifCond .ne 5, 3) := by decide +kernel
theorem dX5_wrong_14 : decode cX5_wrong 14 = .ok (.iconst (-1), 1) := by decide +kernel
theorem dX5_wrong_15 : decode cX5_wrong 15 = .ok (.ireturn, 1) := by decide +kernel
theorem dX5_wrong_16 : decode cX5_wrong 16 = .ok (.aload_n 0, 1) := by decide +kernel
theorem dX5_wrong_17 : decode cX5_wrong 17 = .ok (.getfield 12, 3) := by decide +kernel
theorem dX5_wrong_20 : decode cX5_wrong 20 = .ok (.iload_n 1, 1) := by decide +kernel
theorem dX5_wrong_21 : decode cX5_wrong 21 = .ok (.iload_n 2, 1) := by decide +kernel
theorem dX5_wrong_22 : decode cX5_wrong 22 = .ok (.invokevirtual 207, 3) := by decide +kernel
theorem dX5_wrong_25 : decode cX5_wrong 25 = .ok (.ireturn, 1) := by decide +kernel
theorem dX5_bestLine_0 : decode cX5_bestLine 0 = .ok (.iload_n 1, 1) := by decide +kernel
theorem dX5_bestLine_1 : decode cX5_bestLine 1 = .ok (.invokestatic 96, 3) := by decide +kernel
theorem dX5_bestLine_4 : decode cX5_bestLine 4 = .ok (.ifCond .eq 12, 3) := by decide +kernel
theorem dX5_bestLine_7 : decode cX5_bestLine 7 = .ok (.iload_n 2, 1) := by decide +kernel
theorem dX5_bestLine_8 : decode cX5_bestLine 8 = .ok (.ifCond .lt 8, 3) := by decide +kernel
theorem dX5_bestLine_11 : decode cX5_bestLine 11 = .ok (.iload_n 2, 1) := by decide +kernel
theorem dX5_bestLine_12 : decode cX5_bestLine 12 = .ok (.iconst 1, 1) := by decide +kernel
theorem dX5_bestLine_13 : decode cX5_bestLine 13 = .ok (.if_icmp .le 5, 3) := by decide +kernel
theorem dX5_bestLine_16 : decode cX5_bestLine 16 = .ok (.iconst (-1), 1) := by decide +kernel
theorem dX5_bestLine_17 : decode cX5_bestLine 17 = .ok (.ireturn, 1) := by decide +kernel
theorem dX5_bestLine_18 : decode cX5_bestLine 18 = .ok (.iconst 0, 1) := by decide +kernel
theorem dX5_bestLine_19 : decode cX5_bestLine 19 = .ok (.istore_n 3, 1) := by decide +kernel
theorem dX5_bestLine_20 : decode cX5_bestLine 20 = .ok (.aload_n 0, 1) := by decide +kernel
theorem dX5_bestLine_21 : decode cX5_bestLine 21 = .ok (.getfield 12, 3) := by decide +kernel
theorem dX5_bestLine_24 : decode cX5_bestLine 24 = .ok (.iconst 0, 1) := by decide +kernel
theorem dX5_bestLine_25 : decode cX5_bestLine 25 = .ok (.iload_n 1, 1) := by decide +kernel
theorem dX5_bestLine_26 : decode cX5_bestLine 26 = .ok (.invokevirtual 207, 3) := by decide +kernel
theorem dX5_bestLine_29 : decode cX5_bestLine 29 = .ok (.istore 4, 2) := by decide +kernel
theorem dX5_bestLine_31 : decode cX5_bestLine 31 = .ok (.bipush 15, 2) := by decide +kernel
theorem dX5_bestLine_33 : decode cX5_bestLine 33 = .ok (.istore 5, 2) := by decide +kernel
theorem dX5_bestLine_35 : decode cX5_bestLine 35 = .ok (.iload 5, 2) := by decide +kernel
theorem dX5_bestLine_37 : decode cX5_bestLine 37 = .ok (.sipush 360, 3) := by decide +kernel
theorem dX5_bestLine_40 : decode cX5_bestLine 40 = .ok (.if_icmp .ge 35, 3) := by decide +kernel
theorem dX5_bestLine_43 : decode cX5_bestLine 43 = .ok (.aload_n 0, 1) := by decide +kernel
theorem dX5_bestLine_44 : decode cX5_bestLine 44 = .ok (.getfield 12, 3) := by decide +kernel
theorem dX5_bestLine_47 : decode cX5_bestLine 47 = .ok (.iload 5, 2) := by decide +kernel
theorem dX5_bestLine_49 : decode cX5_bestLine 49 = .ok (.iload_n 1, 1) := by decide +kernel
theorem dX5_bestLine_50 : decode cX5_bestLine 50 = .ok (.invokevirtual 207, 3) := by decide +kernel
theorem dX5_bestLine_53 : decode cX5_bestLine 53 = .ok (.istore 6, 2) := by decide +kernel
theorem dX5_bestLine_55 : decode cX5_bestLine 55 = .ok (.iload 6, 2) := by decide +kernel
theorem dX5_bestLine_57 : decode cX5_bestLine 57 = .ok (.iload 4, 2) := by decide +kernel
theorem dX5_bestLine_59 : decode cX5_bestLine 59 = .ok (.if_icmp .ge 10, 3) := by decide +kernel
theorem dX5_bestLine_62 : decode cX5_bestLine 62 = .ok (.iload 5, 2) := by decide +kernel
theorem dX5_bestLine_64 : decode cX5_bestLine 64 = .ok (.istore_n 3, 1) := by decide +kernel
theorem dX5_bestLine_65 : decode cX5_bestLine 65 = .ok (.iload 6, 2) := by decide +kernel
theorem dX5_bestLine_67 : decode cX5_bestLine 67 = .ok (.istore 4, 2) := by decide +kernel
theorem dX5_bestLine_69 : decode cX5_bestLine 69 = .ok (.iinc 5 15, 3) := by decide +kernel
theorem dX5_bestLine_72 : decode cX5_bestLine 72 = .ok (.goto (-37), 3) := by decide +kernel
theorem dX5_bestLine_75 : decode cX5_bestLine 75 = .ok (.iload_n 2, 1) := by decide +kernel
theorem dX5_bestLine_76 : decode cX5_bestLine 76 = .ok (.ifCond .ne 7, 3) := by decide +kernel
theorem dX5_bestLine_79 : decode cX5_bestLine 79 = .ok (.iload_n 3, 1) := by decide +kernel
theorem dX5_bestLine_80 : decode cX5_bestLine 80 = .ok (.goto 5, 3) := by decide +kernel
theorem dX5_bestLine_83 : decode cX5_bestLine 83 = .ok (.iload 4, 2) := by decide +kernel
theorem dX5_bestLine_85 : decode cX5_bestLine 85 = .ok (.ireturn, 1) := by decide +kernel
theorem dX5_moved_0 : decode cX5_moved 0 = .ok (.iload_n 1, 1) := by decide +kernel
theorem dX5_moved_1 : decode cX5_moved 1 = .ok (.invokestatic 89, 3) := by decide +kernel
theorem dX5_moved_4 : decode cX5_moved 4 = .ok (.ifCond .eq 10, 3) := by decide +kernel
theorem dX5_moved_7 : decode cX5_moved 7 = .ok (.iload_n 2, 1) := by decide +kernel
theorem dX5_moved_8 : decode cX5_moved 8 = .ok (.invokestatic 96, 3) := by decide +kernel
theorem dX5_moved_11 : decode cX5_moved 11 = .ok (.ifCond .ne 5, 3) := by decide +kernel
theorem dX5_moved_14 : decode cX5_moved 14 = .ok (.iconst (-1), 1) := by decide +kernel
theorem dX5_moved_15 : decode cX5_moved 15 = .ok (.ireturn, 1) := by decide +kernel
theorem dX5_moved_16 : decode cX5_moved 16 = .ok (.iconst 0, 1) := by decide +kernel
theorem dX5_moved_17 : decode cX5_moved 17 = .ok (.istore_n 3, 1) := by decide +kernel
theorem dX5_moved_18 : decode cX5_moved 18 = .ok (.iconst 0, 1) := by decide +kernel
theorem dX5_moved_19 : decode cX5_moved 19 = .ok (.istore 4, 2) := by decide +kernel
theorem dX5_moved_21 : decode cX5_moved 21 = .ok (.iload 4, 2) := by decide +kernel
theorem dX5_moved_23 : decode cX5_moved 23 = .ok (.aload_n 0, 1) := by decide +kernel
theorem dX5_moved_24 : decode cX5_moved 24 = .ok (.getfield 12, 3) := by decide +kernel
theorem dX5_moved_27 : decode cX5_moved 27 = .ok (.getfield 210, 3) := by decide +kernel
theorem dX5_moved_30 : decode cX5_moved 30 = .ok (.if_icmp .ge 47, 3) := by decide +kernel
theorem dX5_moved_33 : decode cX5_moved 33 = .ok (.aload_n 0, 1) := by decide +kernel
theorem dX5_moved_34 : decode cX5_moved 34 = .ok (.getfield 12, 3) := by decide +kernel
theorem dX5_moved_37 : decode cX5_moved 37 = .ok (.iload 4, 2) := by decide +kernel
theorem dX5_moved_39 : decode cX5_moved 39 = .ok (.iload_n 2, 1) := by decide +kernel
theorem dX5_moved_40 : decode cX5_moved 40 = .ok (.iload_n 1, 1) := by decide +kernel
theorem dX5_moved_41 : decode cX5_moved 41 = .ok (.invokevirtual 99, 3) := by decide +kernel
theorem dX5_moved_44 : decode cX5_moved 44 = .ok (.aload_n 0, 1) := by decide +kernel
theorem dX5_moved_45 : decode cX5_moved 45 = .ok (.getfield 12, 3) := by decide +kernel
theorem dX5_moved_48 : decode cX5_moved 48 = .ok (.iload 4, 2) := by decide +kernel
theorem dX5_moved_50 : decode cX5_moved 50 = .ok (.iload_n 2, 1) := by decide +kernel
theorem dX5_moved_51 : decode cX5_moved 51 = .ok (.aload_n 0, 1) := by decide +kernel
theorem dX5_moved_52 : decode cX5_moved 52 = .ok (.getfield 12, 3) := by decide +kernel
theorem dX5_moved_55 : decode cX5_moved 55 = .ok (.getfield 92, 3) := by decide +kernel
theorem dX5_moved_58 : decode cX5_moved 58 = .ok (.invokevirtual 99, 3) := by decide +kernel
theorem dX5_moved_61 : decode cX5_moved 61 = .ok (.if_icmp .eq 10, 3) := by decide +kernel
theorem dX5_moved_64 : decode cX5_moved 64 = .ok (.iload_n 3, 1) := by decide +kernel
theorem dX5_moved_65 : decode cX5_moved 65 = .ok (.iconst 1, 1) := by decide +kernel
theorem dX5_moved_66 : decode cX5_moved 66 = .ok (.iload 4, 2) := by decide +kernel
theorem dX5_moved_68 : decode cX5_moved 68 = .ok (.ishl, 1) := by decide +kernel
theorem dX5_moved_69 : decode cX5_moved 69 = .ok (.ior, 1) := by decide +kernel
theorem dX5_moved_70 : decode cX5_moved 70 = .ok (.istore_n 3, 1) := by decide +kernel
theorem dX5_moved_71 : decode cX5_moved 71 = .ok (.iinc 4 1, 3) := by decide +kernel
theorem dX5_moved_74 : decode cX5_moved 74 = .ok (.goto (-53), 3) := by decide +kernel
theorem dX5_moved_77 : decode cX5_moved 77 = .ok (.iload_n 3, 1) := by decide +kernel
theorem dX5_moved_78 : decode cX5_moved 78 = .ok (.ireturn, 1) := by decide +kernel
theorem dX5_judge_0 : decode cX5_judge 0 = .ok (.aload_n 0, 1) := by decide +kernel
theorem dX5_judge_1 : decode cX5_judge 1 = .ok (.getfield 12, 3) := by decide +kernel
theorem dX5_judge_4 : decode cX5_judge 4 = .ok (.iload_n 1, 1) := by decide +kernel
theorem dX5_judge_5 : decode cX5_judge 5 = .ok (.invokevirtual 137, 3) := by decide +kernel
theorem dX5_judge_8 : decode cX5_judge 8 = .ok (.astore 5, 2) := by decide +kernel
theorem dX5_judge_10 : decode cX5_judge 10 = .ok (.aload_n 0, 1) := by decide +kernel
theorem dX5_judge_11 : decode cX5_judge 11 = .ok (.iload_n 2, 1) := by decide +kernel
theorem dX5_judge_12 : decode cX5_judge 12 = .ok (.invokevirtual 44, 3) := by decide +kernel
theorem dX5_judge_15 : decode cX5_judge 15 = .ok (.astore 6, 2) := by decide +kernel
theorem dX5_judge_17 : decode cX5_judge 17 = .ok (.aload 5, 2) := by decide +kernel
theorem dX5_judge_19 : decode cX5_judge 19 = .ok (.ifnull 29, 3) := by decide +kernel
theorem dX5_judge_22 : decode cX5_judge 22 = .ok (.aload 6, 2) := by decide +kernel
theorem dX5_judge_24 : decode cX5_judge 24 = .ok (.ifnull 24, 3) := by decide +kernel
theorem dX5_judge_27 : decode cX5_judge 27 = .ok (.iload_n 3, 1) := by decide +kernel
theorem dX5_judge_28 : decode cX5_judge 28 = .ok (.invokestatic 96, 3) := by decide +kernel
theorem dX5_judge_31 : decode cX5_judge 31 = .ok (.ifCond .eq 17, 3) := by decide +kernel
theorem dX5_judge_34 : decode cX5_judge 34 = .ok (.iload 4, 2) := by decide +kernel
theorem dX5_judge_36 : decode cX5_judge 36 = .ok (.iconst 1, 1) := by decide +kernel
theorem dX5_judge_37 : decode cX5_judge 37 = .ok (.if_icmp .lt 11, 3) := by decide +kernel
theorem dX5_judge_40 : decode cX5_judge 40 = .ok (.iload 4, 2) := by decide +kernel
theorem dX5_judge_42 : decode cX5_judge 42 = .ok (.sipush 9999, 3) := by decide +kernel
theorem dX5_judge_45 : decode cX5_judge 45 = .ok (.if_icmp .le 5, 3) := by decide +kernel
theorem dX5_judge_48 : decode cX5_judge 48 = .ok (.iconst (-1), 1) := by decide +kernel
theorem dX5_judge_49 : decode cX5_judge 49 = .ok (.ireturn, 1) := by decide +kernel
theorem dX5_judge_50 : decode cX5_judge 50 = .ok (.aload 6, 2) := by decide +kernel
theorem dX5_judge_52 : decode cX5_judge 52 = .ok (.getfield 213, 3) := by decide +kernel
theorem dX5_judge_55 : decode cX5_judge 55 = .ok (.ifCond .ne 9, 3) := by decide +kernel
theorem dX5_judge_58 : decode cX5_judge 58 = .ok (.aload 6, 2) := by decide +kernel
theorem dX5_judge_60 : decode cX5_judge 60 = .ok (.invokestatic 216, 3) := by decide +kernel
theorem dX5_judge_63 : decode cX5_judge 63 = .ok (.ireturn, 1) := by decide +kernel
theorem dX5_judge_64 : decode cX5_judge 64 = .ok (.aload 6, 2) := by decide +kernel
theorem dX5_judge_66 : decode cX5_judge 66 = .ok (.getfield 220, 3) := by decide +kernel
theorem dX5_judge_69 : decode cX5_judge 69 = .ok (.ifCond .le 23, 3) := by decide +kernel
theorem dX5_judge_72 : decode cX5_judge 72 = .ok (.iload_n 3, 1) := by decide +kernel
theorem dX5_judge_73 : decode cX5_judge 73 = .ok (.aload 6, 2) := by decide +kernel
theorem dX5_judge_75 : decode cX5_judge 75 = .ok (.getfield 220, 3) := by decide +kernel
theorem dX5_judge_78 : decode cX5_judge 78 = .ok (.iconst 1, 1) := by decide +kernel
theorem dX5_judge_79 : decode cX5_judge 79 = .ok (.isub, 1) := by decide +kernel
theorem dX5_judge_80 : decode cX5_judge 80 = .ok (.iload 4, 2) := by decide +kernel
theorem dX5_judge_82 : decode cX5_judge 82 = .ok (.imul, 1) := by decide +kernel
theorem dX5_judge_83 : decode cX5_judge 83 = .ok (.iadd, 1) := by decide +kernel
theorem dX5_judge_84 : decode cX5_judge 84 = .ok (.invokestatic 96, 3) := by decide +kernel
theorem dX5_judge_87 : decode cX5_judge 87 = .ok (.ifCond .ne 5, 3) := by decide +kernel
theorem dX5_judge_90 : decode cX5_judge 90 = .ok (.iconst (-1), 1) := by decide +kernel
theorem dX5_judge_91 : decode cX5_judge 91 = .ok (.ireturn, 1) := by decide +kernel
theorem dX5_judge_92 : decode cX5_judge 92 = .ok (.aload 6, 2) := by decide +kernel
theorem dX5_judge_94 : decode cX5_judge 94 = .ok (.invokevirtual 223, 3) := by decide +kernel
theorem dX5_judge_97 : decode cX5_judge 97 = .ok (.istore 7, 2) := by decide +kernel
theorem dX5_judge_99 : decode cX5_judge 99 = .ok (.iconst 0, 1) := by decide +kernel
theorem dX5_judge_100 : decode cX5_judge 100 = .ok (.istore 8, 2) := by decide +kernel
theorem dX5_judge_102 : decode cX5_judge 102 = .ok (.iload 8, 2) := by decide +kernel
theorem dX5_judge_104 : decode cX5_judge 104 = .ok (.aload 6, 2) := by decide +kernel
theorem dX5_judge_106 : decode cX5_judge 106 = .ok (.getfield 220, 3) := by decide +kernel
theorem dX5_judge_109 : decode cX5_judge 109 = .ok (.if_icmp .ge 52, 3) := by decide +kernel
theorem dX5_judge_112 : decode cX5_judge 112 = .ok (.aload 6, 2) := by decide +kernel
theorem dX5_judge_114 : decode cX5_judge 114 = .ok (.getfield 226, 3) := by decide +kernel
theorem dX5_judge_117 : decode cX5_judge 117 = .ok (.iload 8, 2) := by decide +kernel
theorem dX5_judge_119 : decode cX5_judge 119 = .ok (.iaload, 1) := by decide +kernel
theorem dX5_judge_120 : decode cX5_judge 120 = .ok (.istore 9, 2) := by decide +kernel
theorem dX5_judge_122 : decode cX5_judge 122 = .ok (.iload 9, 2) := by decide +kernel
theorem dX5_judge_124 : decode cX5_judge 124 = .ok (.iload 7, 2) := by decide +kernel
theorem dX5_judge_126 : decode cX5_judge 126 = .ok (.if_icmp .eq 29, 3) := by decide +kernel
theorem dX5_judge_129 : decode cX5_judge 129 = .ok (.iload 9, 2) := by decide +kernel
theorem dX5_judge_131 : decode cX5_judge 131 = .ok (.aload_n 0, 1) := by decide +kernel
theorem dX5_judge_132 : decode cX5_judge 132 = .ok (.aload 5, 2) := by decide +kernel
theorem dX5_judge_134 : decode cX5_judge 134 = .ok (.aload 5, 2) := by decide +kernel
theorem dX5_judge_136 : decode cX5_judge 136 = .ok (.getfield 124, 3) := by decide +kernel
theorem dX5_judge_139 : decode cX5_judge 139 = .ok (.iload_n 3, 1) := by decide +kernel
theorem dX5_judge_140 : decode cX5_judge 140 = .ok (.iload 8, 2) := by decide +kernel
theorem dX5_judge_142 : decode cX5_judge 142 = .ok (.iload 4, 2) := by decide +kernel
theorem dX5_judge_144 : decode cX5_judge 144 = .ok (.imul, 1) := by decide +kernel
theorem dX5_judge_145 : decode cX5_judge 145 = .ok (.iadd, 1) := by decide +kernel
theorem dX5_judge_146 : decode cX5_judge 146 = .ok (.invokevirtual 194, 3) := by decide +kernel
theorem dX5_judge_149 : decode cX5_judge 149 = .ok (.if_icmp .eq 6, 3) := by decide +kernel
theorem dX5_judge_152 : decode cX5_judge 152 = .ok (.iload 8, 2) := by decide +kernel
theorem dX5_judge_154 : decode cX5_judge 154 = .ok (.ireturn, 1) := by decide +kernel
theorem dX5_judge_155 : decode cX5_judge 155 = .ok (.iinc 8 1, 3) := by decide +kernel
theorem dX5_judge_158 : decode cX5_judge 158 = .ok (.goto (-56), 3) := by decide +kernel
theorem dX5_judge_161 : decode cX5_judge 161 = .ok (.bipush (-4), 2) := by decide +kernel
theorem dX5_judge_163 : decode cX5_judge 163 = .ok (.ireturn, 1) := by decide +kernel
theorem dX5_kept_0 : decode cX5_kept 0 = .ok (.aload_n 0, 1) := by decide +kernel
theorem dX5_kept_1 : decode cX5_kept 1 = .ok (.getfield 12, 3) := by decide +kernel
theorem dX5_kept_4 : decode cX5_kept 4 = .ok (.iload_n 1, 1) := by decide +kernel
theorem dX5_kept_5 : decode cX5_kept 5 = .ok (.invokevirtual 137, 3) := by decide +kernel
theorem dX5_kept_8 : decode cX5_kept 8 = .ok (.astore 4, 2) := by decide +kernel
theorem dX5_kept_10 : decode cX5_kept 10 = .ok (.aload_n 0, 1) := by decide +kernel
theorem dX5_kept_11 : decode cX5_kept 11 = .ok (.iload_n 2, 1) := by decide +kernel
theorem dX5_kept_12 : decode cX5_kept 12 = .ok (.invokevirtual 44, 3) := by decide +kernel
theorem dX5_kept_15 : decode cX5_kept 15 = .ok (.astore 5, 2) := by decide +kernel
theorem dX5_kept_17 : decode cX5_kept 17 = .ok (.aload 4, 2) := by decide +kernel
theorem dX5_kept_19 : decode cX5_kept 19 = .ok (.ifnull 15, 3) := by decide +kernel
theorem dX5_kept_22 : decode cX5_kept 22 = .ok (.aload 5, 2) := by decide +kernel
theorem dX5_kept_24 : decode cX5_kept 24 = .ok (.ifnull 10, 3) := by decide +kernel
theorem dX5_kept_27 : decode cX5_kept 27 = .ok (.iload_n 3, 1) := by decide +kernel
theorem dX5_kept_28 : decode cX5_kept 28 = .ok (.invokestatic 229, 3) := by decide +kernel
theorem dX5_kept_31 : decode cX5_kept 31 = .ok (.ifCond .ne 5, 3) := by decide +kernel
theorem dX5_kept_34 : decode cX5_kept 34 = .ok (.iconst (-1), 1) := by decide +kernel
theorem dX5_kept_35 : decode cX5_kept 35 = .ok (.ireturn, 1) := by decide +kernel
theorem dX5_kept_36 : decode cX5_kept 36 = .ok (.aload 5, 2) := by decide +kernel
theorem dX5_kept_38 : decode cX5_kept 38 = .ok (.invokestatic 232, 3) := by decide +kernel
theorem dX5_kept_41 : decode cX5_kept 41 = .ok (.istore 6, 2) := by decide +kernel
theorem dX5_kept_43 : decode cX5_kept 43 = .ok (.iload 6, 2) := by decide +kernel
theorem dX5_kept_45 : decode cX5_kept 45 = .ok (.ifCond .eq 6, 3) := by decide +kernel
theorem dX5_kept_48 : decode cX5_kept 48 = .ok (.iload 6, 2) := by decide +kernel
theorem dX5_kept_50 : decode cX5_kept 50 = .ok (.ireturn, 1) := by decide +kernel
theorem dX5_kept_51 : decode cX5_kept 51 = .ok (.aload_n 0, 1) := by decide +kernel
theorem dX5_kept_52 : decode cX5_kept 52 = .ok (.aload 4, 2) := by decide +kernel
theorem dX5_kept_54 : decode cX5_kept 54 = .ok (.aload 4, 2) := by decide +kernel
theorem dX5_kept_56 : decode cX5_kept 56 = .ok (.getfield 162, 3) := by decide +kernel
theorem dX5_kept_59 : decode cX5_kept 59 = .ok (.aload 5, 2) := by decide +kernel
theorem dX5_kept_61 : decode cX5_kept 61 = .ok (.iload_n 3, 1) := by decide +kernel
theorem dX5_kept_62 : decode cX5_kept 62 = .ok (.invokevirtual 235, 3) := by decide +kernel
theorem dX5_kept_65 : decode cX5_kept 65 = .ok (.ireturn, 1) := by decide +kernel
theorem dX5_rounds_0 : decode cX5_rounds 0 = .ok (.aload_n 0, 1) := by decide +kernel
theorem dX5_rounds_1 : decode cX5_rounds 1 = .ok (.getfield 12, 3) := by decide +kernel
theorem dX5_rounds_4 : decode cX5_rounds 4 = .ok (.iload_n 1, 1) := by decide +kernel
theorem dX5_rounds_5 : decode cX5_rounds 5 = .ok (.invokevirtual 137, 3) := by decide +kernel
theorem dX5_rounds_8 : decode cX5_rounds 8 = .ok (.astore_n 3, 1) := by decide +kernel
theorem dX5_rounds_9 : decode cX5_rounds 9 = .ok (.aload_n 3, 1) := by decide +kernel
theorem dX5_rounds_10 : decode cX5_rounds 10 = .ok (.ifnull 10, 3) := by decide +kernel
theorem dX5_rounds_13 : decode cX5_rounds 13 = .ok (.iload_n 2, 1) := by decide +kernel
theorem dX5_rounds_14 : decode cX5_rounds 14 = .ok (.invokestatic 96, 3) := by decide +kernel
theorem dX5_rounds_17 : decode cX5_rounds 17 = .ok (.ifCond .ne 6, 3) := by decide +kernel
theorem dX5_rounds_20 : decode cX5_rounds 20 = .ok (.ldc 72, 2) := by decide +kernel
theorem dX5_rounds_22 : decode cX5_rounds 22 = .ok (.ireturn, 1) := by decide +kernel
theorem dX5_rounds_23 : decode cX5_rounds 23 = .ok (.aload_n 0, 1) := by decide +kernel
theorem dX5_rounds_24 : decode cX5_rounds 24 = .ok (.aload_n 3, 1) := by decide +kernel
theorem dX5_rounds_25 : decode cX5_rounds 25 = .ok (.iload_n 2, 1) := by decide +kernel
theorem dX5_rounds_26 : decode cX5_rounds 26 = .ok (.invokevirtual 239, 3) := by decide +kernel
theorem dX5_rounds_29 : decode cX5_rounds 29 = .ok (.ireturn, 1) := by decide +kernel
theorem dX5_log_0 : decode cX5_log 0 = .ok (.aload_n 0, 1) := by decide +kernel
theorem dX5_log_1 : decode cX5_log 1 = .ok (.getfield 12, 3) := by decide +kernel
theorem dX5_log_4 : decode cX5_log 4 = .ok (.iload_n 1, 1) := by decide +kernel
theorem dX5_log_5 : decode cX5_log 5 = .ok (.invokevirtual 137, 3) := by decide +kernel
theorem dX5_log_8 : decode cX5_log 8 = .ok (.astore_n 3, 1) := by decide +kernel
theorem dX5_log_9 : decode cX5_log 9 = .ok (.aload_n 0, 1) := by decide +kernel
theorem dX5_log_10 : decode cX5_log 10 = .ok (.iload_n 2, 1) := by decide +kernel
theorem dX5_log_11 : decode cX5_log 11 = .ok (.invokevirtual 44, 3) := by decide +kernel
theorem dX5_log_14 : decode cX5_log 14 = .ok (.astore 4, 2) := by decide +kernel
theorem dX5_log_16 : decode cX5_log 16 = .ok (.aload_n 3, 1) := by decide +kernel
theorem dX5_log_17 : decode cX5_log 17 = .ok (.ifnull 8, 3) := by decide +kernel
theorem dX5_log_20 : decode cX5_log 20 = .ok (.aload 4, 2) := by decide +kernel
theorem dX5_log_22 : decode cX5_log 22 = .ok (.ifnonnull 5, 3) := by decide +kernel
theorem dX5_log_25 : decode cX5_log 25 = .ok (.iconst (-1), 1) := by decide +kernel
theorem dX5_log_26 : decode cX5_log 26 = .ok (.ireturn, 1) := by decide +kernel
theorem dX5_log_27 : decode cX5_log 27 = .ok (.aload 4, 2) := by decide +kernel
theorem dX5_log_29 : decode cX5_log 29 = .ok (.getfield 213, 3) := by decide +kernel
theorem dX5_log_32 : decode cX5_log 32 = .ok (.ifCond .ne 9, 3) := by decide +kernel
theorem dX5_log_35 : decode cX5_log 35 = .ok (.aload 4, 2) := by decide +kernel
theorem dX5_log_37 : decode cX5_log 37 = .ok (.invokestatic 216, 3) := by decide +kernel
theorem dX5_log_40 : decode cX5_log 40 = .ok (.ireturn, 1) := by decide +kernel
theorem dX5_log_41 : decode cX5_log 41 = .ok (.aload 4, 2) := by decide +kernel
theorem dX5_log_43 : decode cX5_log 43 = .ok (.invokestatic 243, 3) := by decide +kernel
theorem dX5_log_46 : decode cX5_log 46 = .ok (.ifCond .ne 6, 3) := by decide +kernel
theorem dX5_log_49 : decode cX5_log 49 = .ok (.bipush (-13), 2) := by decide +kernel
theorem dX5_log_51 : decode cX5_log 51 = .ok (.ireturn, 1) := by decide +kernel
theorem dX5_log_52 : decode cX5_log 52 = .ok (.bipush 127, 2) := by decide +kernel
theorem dX5_log_54 : decode cX5_log 54 = .ok (.istore 5, 2) := by decide +kernel
theorem dX5_log_56 : decode cX5_log 56 = .ok (.iconst 0, 1) := by decide +kernel
theorem dX5_log_57 : decode cX5_log 57 = .ok (.istore 6, 2) := by decide +kernel
theorem dX5_log_59 : decode cX5_log 59 = .ok (.iload 6, 2) := by decide +kernel
theorem dX5_log_61 : decode cX5_log 61 = .ok (.iconst 1, 1) := by decide +kernel
theorem dX5_log_62 : decode cX5_log 62 = .ok (.iadd, 1) := by decide +kernel
theorem dX5_log_63 : decode cX5_log 63 = .ok (.aload 4, 2) := by decide +kernel
theorem dX5_log_65 : decode cX5_log 65 = .ok (.getfield 220, 3) := by decide +kernel
theorem dX5_log_68 : decode cX5_log 68 = .ok (.if_icmp .ge 47, 3) := by decide +kernel
theorem dX5_log_71 : decode cX5_log 71 = .ok (.aload 4, 2) := by decide +kernel
theorem dX5_log_73 : decode cX5_log 73 = .ok (.iload 6, 2) := by decide +kernel
theorem dX5_log_75 : decode cX5_log 75 = .ok (.invokevirtual 247, 3) := by decide +kernel
theorem dX5_log_78 : decode cX5_log 78 = .ok (.ifCond .eq 31, 3) := by decide +kernel
theorem dX5_log_81 : decode cX5_log 81 = .ok (.iload 5, 2) := by decide +kernel
theorem dX5_log_83 : decode cX5_log 83 = .ok (.aload_n 0, 1) := by decide +kernel
theorem dX5_log_84 : decode cX5_log 84 = .ok (.aload_n 3, 1) := by decide +kernel
theorem dX5_log_85 : decode cX5_log 85 = .ok (.aload 4, 2) := by decide +kernel
theorem dX5_log_87 : decode cX5_log 87 = .ok (.getfield 226, 3) := by decide +kernel
theorem dX5_log_90 : decode cX5_log 90 = .ok (.iload 6, 2) := by decide +kernel
theorem dX5_log_92 : decode cX5_log 92 = .ok (.iaload, 1) := by decide +kernel
theorem dX5_log_93 : decode cX5_log 93 = .ok (.aload 4, 2) := by decide +kernel
theorem dX5_log_95 : decode cX5_log 95 = .ok (.getfield 226, 3) := by decide +kernel
theorem dX5_log_98 : decode cX5_log 98 = .ok (.iload 6, 2) := by decide +kernel
theorem dX5_log_100 : decode cX5_log 100 = .ok (.iconst 1, 1) := by decide +kernel
theorem dX5_log_101 : decode cX5_log 101 = .ok (.iadd, 1) := by decide +kernel
theorem dX5_log_102 : decode cX5_log 102 = .ok (.iaload, 1) := by decide +kernel
theorem dX5_log_103 : decode cX5_log 103 = .ok (.invokevirtual 250, 3) := by decide +kernel
theorem dX5_log_106 : decode cX5_log 106 = .ok (.iand, 1) := by decide +kernel
theorem dX5_log_107 : decode cX5_log 107 = .ok (.istore 5, 2) := by decide +kernel
theorem dX5_log_109 : decode cX5_log 109 = .ok (.iinc 6 2, 3) := by decide +kernel
theorem dX5_log_112 : decode cX5_log 112 = .ok (.goto (-53), 3) := by decide +kernel
theorem dX5_log_115 : decode cX5_log 115 = .ok (.iload 5, 2) := by decide +kernel
theorem dX5_log_117 : decode cX5_log 117 = .ok (.ireturn, 1) := by decide +kernel
theorem dX5_plan_0 : decode cX5_plan 0 = .ok (.aload_n 0, 1) := by decide +kernel
theorem dX5_plan_1 : decode cX5_plan 1 = .ok (.getfield 12, 3) := by decide +kernel
theorem dX5_plan_4 : decode cX5_plan 4 = .ok (.iload_n 1, 1) := by decide +kernel
theorem dX5_plan_5 : decode cX5_plan 5 = .ok (.invokevirtual 137, 3) := by decide +kernel
theorem dX5_plan_8 : decode cX5_plan 8 = .ok (.astore 4, 2) := by decide +kernel
theorem dX5_plan_10 : decode cX5_plan 10 = .ok (.aload_n 0, 1) := by decide +kernel
theorem dX5_plan_11 : decode cX5_plan 11 = .ok (.iload_n 2, 1) := by decide +kernel
theorem dX5_plan_12 : decode cX5_plan 12 = .ok (.invokevirtual 44, 3) := by decide +kernel
theorem dX5_plan_15 : decode cX5_plan 15 = .ok (.astore 5, 2) := by decide +kernel
theorem dX5_plan_17 : decode cX5_plan 17 = .ok (.aload 4, 2) := by decide +kernel
theorem dX5_plan_19 : decode cX5_plan 19 = .ok (.ifnull 15, 3) := by decide +kernel
theorem dX5_plan_22 : decode cX5_plan 22 = .ok (.aload 5, 2) := by decide +kernel
theorem dX5_plan_24 : decode cX5_plan 24 = .ok (.ifnull 10, 3) := by decide +kernel
theorem dX5_plan_27 : decode cX5_plan 27 = .ok (.iload_n 3, 1) := by decide +kernel
theorem dX5_plan_28 : decode cX5_plan 28 = .ok (.invokestatic 229, 3) := by decide +kernel
theorem dX5_plan_31 : decode cX5_plan 31 = .ok (.ifCond .ne 5, 3) := by decide +kernel
theorem dX5_plan_34 : decode cX5_plan 34 = .ok (.iconst (-1), 1) := by decide +kernel
theorem dX5_plan_35 : decode cX5_plan 35 = .ok (.ireturn, 1) := by decide +kernel
theorem dX5_plan_36 : decode cX5_plan 36 = .ok (.aload 5, 2) := by decide +kernel
theorem dX5_plan_38 : decode cX5_plan 38 = .ok (.invokestatic 232, 3) := by decide +kernel
theorem dX5_plan_41 : decode cX5_plan 41 = .ok (.istore 6, 2) := by decide +kernel
theorem dX5_plan_43 : decode cX5_plan 43 = .ok (.iload 6, 2) := by decide +kernel
theorem dX5_plan_45 : decode cX5_plan 45 = .ok (.ifCond .eq 6, 3) := by decide +kernel
theorem dX5_plan_48 : decode cX5_plan 48 = .ok (.iload 6, 2) := by decide +kernel
theorem dX5_plan_50 : decode cX5_plan 50 = .ok (.ireturn, 1) := by decide +kernel
theorem dX5_plan_51 : decode cX5_plan 51 = .ok (.aload_n 0, 1) := by decide +kernel
theorem dX5_plan_52 : decode cX5_plan 52 = .ok (.aload 4, 2) := by decide +kernel
theorem dX5_plan_54 : decode cX5_plan 54 = .ok (.aload 5, 2) := by decide +kernel
theorem dX5_plan_56 : decode cX5_plan 56 = .ok (.iload_n 3, 1) := by decide +kernel
theorem dX5_plan_57 : decode cX5_plan 57 = .ok (.invokevirtual 253, 3) := by decide +kernel
theorem dX5_plan_60 : decode cX5_plan 60 = .ok (.ireturn, 1) := by decide +kernel
theorem dX5_image_0 : decode cX5_image 0 = .ok (.aload_n 0, 1) := by decide +kernel
theorem dX5_image_1 : decode cX5_image 1 = .ok (.getfield 16, 3) := by decide +kernel
theorem dX5_image_4 : decode cX5_image 4 = .ok (.aload_n 0, 1) := by decide +kernel
theorem dX5_image_5 : decode cX5_image 5 = .ok (.getfield 12, 3) := by decide +kernel
theorem dX5_image_8 : decode cX5_image 8 = .ok (.invokevirtual 257, 3) := by decide +kernel
theorem dX5_image_11 : decode cX5_image 11 = .ok (.aload_n 0, 1) := by decide +kernel
theorem dX5_image_12 : decode cX5_image 12 = .ok (.getfield 16, 3) := by decide +kernel
theorem dX5_image_15 : decode cX5_image 15 = .ok (.aload_n 0, 1) := by decide +kernel
theorem dX5_image_16 : decode cX5_image 16 = .ok (.getfield 12, 3) := by decide +kernel
theorem dX5_image_19 : decode cX5_image 19 = .ok (.iconst 0, 1) := by decide +kernel
theorem dX5_image_20 : decode cX5_image 20 = .ok (.invokevirtual 261, 3) := by decide +kernel
theorem dX5_image_23 : decode cX5_image 23 = .ok (.aload_n 0, 1) := by decide +kernel
theorem dX5_image_24 : decode cX5_image 24 = .ok (.iconst 1, 1) := by decide +kernel
theorem dX5_image_25 : decode cX5_image 25 = .ok (.putfield 19, 3) := by decide +kernel
theorem dX5_image_28 : decode cX5_image 28 = .ok (.aload_n 0, 1) := by decide +kernel
theorem dX5_image_29 : decode cX5_image 29 = .ok (.getfield 16, 3) := by decide +kernel
theorem dX5_image_32 : decode cX5_image 32 = .ok (.getfield 115, 3) := by decide +kernel
theorem dX5_image_35 : decode cX5_image 35 = .ok (.ireturn, 1) := by decide +kernel
theorem dX5_restore_0 : decode cX5_restore 0 = .ok (.aload_n 0, 1) := by decide +kernel
theorem dX5_restore_1 : decode cX5_restore 1 = .ok (.getfield 19, 3) := by decide +kernel
theorem dX5_restore_4 : decode cX5_restore 4 = .ok (.ifCond .ne 6, 3) := by decide +kernel
theorem dX5_restore_7 : decode cX5_restore 7 = .ok (.bipush (-3), 2) := by decide +kernel
theorem dX5_restore_9 : decode cX5_restore 9 = .ok (.ireturn, 1) := by decide +kernel
theorem dX5_restore_10 : decode cX5_restore 10 = .ok (.aload_n 0, 1) := by decide +kernel
theorem dX5_restore_11 : decode cX5_restore 11 = .ok (.getfield 12, 3) := by decide +kernel
theorem dX5_restore_14 : decode cX5_restore 14 = .ok (.aload_n 0, 1) := by decide +kernel
theorem dX5_restore_15 : decode cX5_restore 15 = .ok (.getfield 16, 3) := by decide +kernel
theorem dX5_restore_18 : decode cX5_restore 18 = .ok (.invokevirtual 257, 3) := by decide +kernel
theorem dX5_restore_21 : decode cX5_restore 21 = .ok (.aload_n 0, 1) := by decide +kernel
theorem dX5_restore_22 : decode cX5_restore 22 = .ok (.getfield 12, 3) := by decide +kernel
theorem dX5_restore_25 : decode cX5_restore 25 = .ok (.aload_n 0, 1) := by decide +kernel
theorem dX5_restore_26 : decode cX5_restore 26 = .ok (.getfield 16, 3) := by decide +kernel
theorem dX5_restore_29 : decode cX5_restore 29 = .ok (.iconst 1, 1) := by decide +kernel
theorem dX5_restore_30 : decode cX5_restore 30 = .ok (.invokevirtual 261, 3) := by decide +kernel
theorem dX5_restore_33 : decode cX5_restore 33 = .ok (.aload_n 0, 1) := by decide +kernel
theorem dX5_restore_34 : decode cX5_restore 34 = .ok (.getfield 12, 3) := by decide +kernel
theorem dX5_restore_37 : decode cX5_restore 37 = .ok (.getfield 115, 3) := by decide +kernel
theorem dX5_restore_40 : decode cX5_restore 40 = .ok (.ireturn, 1) := by decide +kernel
theorem dX5_count_0 : decode cX5_count 0 = .ok (.iload_n 1, 1) := by decide +kernel
theorem dX5_count_1 : decode cX5_count 1 = .ok (.tableswitch 87 0 5 #[39, 47, 55, 63, 71, 79], 39) := by decide +kernel
theorem dX5_count_40 : decode cX5_count 40 = .ok (.aload_n 0, 1) := by decide +kernel
theorem dX5_count_41 : decode cX5_count 41 = .ok (.getfield 12, 3) := by decide +kernel
theorem dX5_count_44 : decode cX5_count 44 = .ok (.getfield 210, 3) := by decide +kernel
theorem dX5_count_47 : decode cX5_count 47 = .ok (.ireturn, 1) := by decide +kernel
theorem dX5_count_48 : decode cX5_count 48 = .ok (.aload_n 0, 1) := by decide +kernel
theorem dX5_count_49 : decode cX5_count 49 = .ok (.getfield 12, 3) := by decide +kernel
theorem dX5_count_52 : decode cX5_count 52 = .ok (.getfield 115, 3) := by decide +kernel
theorem dX5_count_55 : decode cX5_count 55 = .ok (.ireturn, 1) := by decide +kernel
theorem dX5_count_56 : decode cX5_count 56 = .ok (.aload_n 0, 1) := by decide +kernel
theorem dX5_count_57 : decode cX5_count 57 = .ok (.getfield 12, 3) := by decide +kernel
theorem dX5_count_60 : decode cX5_count 60 = .ok (.invokevirtual 265, 3) := by decide +kernel
theorem dX5_count_63 : decode cX5_count 63 = .ok (.ireturn, 1) := by decide +kernel
theorem dX5_count_64 : decode cX5_count 64 = .ok (.aload_n 0, 1) := by decide +kernel
theorem dX5_count_65 : decode cX5_count 65 = .ok (.getfield 12, 3) := by decide +kernel
theorem dX5_count_68 : decode cX5_count 68 = .ok (.getfield 92, 3) := by decide +kernel
theorem dX5_count_71 : decode cX5_count 71 = .ok (.ireturn, 1) := by decide +kernel
theorem dX5_count_72 : decode cX5_count 72 = .ok (.aload_n 0, 1) := by decide +kernel
theorem dX5_count_73 : decode cX5_count 73 = .ok (.getfield 12, 3) := by decide +kernel
theorem dX5_count_76 : decode cX5_count 76 = .ok (.invokevirtual 268, 3) := by decide +kernel
theorem dX5_count_79 : decode cX5_count 79 = .ok (.ireturn, 1) := by decide +kernel
theorem dX5_count_80 : decode cX5_count 80 = .ok (.aload_n 0, 1) := by decide +kernel
theorem dX5_count_81 : decode cX5_count 81 = .ok (.getfield 12, 3) := by decide +kernel
theorem dX5_count_84 : decode cX5_count 84 = .ok (.invokevirtual 271, 3) := by decide +kernel
theorem dX5_count_87 : decode cX5_count 87 = .ok (.ireturn, 1) := by decide +kernel
theorem dX5_count_88 : decode cX5_count 88 = .ok (.iconst (-1), 1) := by decide +kernel
theorem dX5_count_89 : decode cX5_count 89 = .ok (.ireturn, 1) := by decide +kernel
theorem dX5_keep_0 : decode cX5_keep 0 = .ok (.aload_n 0, 1) := by decide +kernel
theorem dX5_keep_1 : decode cX5_keep 1 = .ok (.iload_n 1, 1) := by decide +kernel
theorem dX5_keep_2 : decode cX5_keep 2 = .ok (.invokevirtual 44, 3) := by decide +kernel
theorem dX5_keep_5 : decode cX5_keep 5 = .ok (.astore 4, 2) := by decide +kernel
theorem dX5_keep_7 : decode cX5_keep 7 = .ok (.aload 4, 2) := by decide +kernel
theorem dX5_keep_9 : decode cX5_keep 9 = .ok (.ifnonnull 5, 3) := by decide +kernel
theorem dX5_keep_12 : decode cX5_keep 12 = .ok (.iconst (-1), 1) := by decide +kernel
theorem dX5_keep_13 : decode cX5_keep 13 = .ok (.ireturn, 1) := by decide +kernel
theorem dX5_keep_14 : decode cX5_keep 14 = .ok (.iload_n 2, 1) := by decide +kernel
theorem dX5_keep_15 : decode cX5_keep 15 = .ok (.ifCond .ne 11, 3) := by decide +kernel
theorem dX5_keep_18 : decode cX5_keep 18 = .ok (.aload 4, 2) := by decide +kernel
theorem dX5_keep_20 : decode cX5_keep 20 = .ok (.aconst_null, 1) := by decide +kernel
theorem dX5_keep_21 : decode cX5_keep 21 = .ok (.invokevirtual 274, 3) := by decide +kernel
theorem dX5_keep_24 : decode cX5_keep 24 = .ok (.iconst 0, 1) := by decide +kernel
theorem dX5_keep_25 : decode cX5_keep 25 = .ok (.ireturn, 1) := by decide +kernel
theorem dX5_keep_26 : decode cX5_keep 26 = .ok (.aload_n 0, 1) := by decide +kernel
theorem dX5_keep_27 : decode cX5_keep 27 = .ok (.getfield 12, 3) := by decide +kernel
theorem dX5_keep_30 : decode cX5_keep 30 = .ok (.iload_n 3, 1) := by decide +kernel
theorem dX5_keep_31 : decode cX5_keep 31 = .ok (.invokevirtual 137, 3) := by decide +kernel
theorem dX5_keep_34 : decode cX5_keep 34 = .ok (.astore 5, 2) := by decide +kernel
theorem dX5_keep_36 : decode cX5_keep 36 = .ok (.iload_n 2, 1) := by decide +kernel
theorem dX5_keep_37 : decode cX5_keep 37 = .ok (.iconst 1, 1) := by decide +kernel
theorem dX5_keep_38 : decode cX5_keep 38 = .ok (.if_icmp .ne 8, 3) := by decide +kernel
theorem dX5_keep_41 : decode cX5_keep 41 = .ok (.aload 5, 2) := by decide +kernel
theorem dX5_keep_43 : decode cX5_keep 43 = .ok (.ifnonnull 5, 3) := by decide +kernel
theorem dX5_keep_46 : decode cX5_keep 46 = .ok (.iconst (-1), 1) := by decide +kernel
theorem dX5_keep_47 : decode cX5_keep 47 = .ok (.ireturn, 1) := by decide +kernel
theorem dX5_keep_48 : decode cX5_keep 48 = .ok (.aload 4, 2) := by decide +kernel
theorem dX5_keep_50 : decode cX5_keep 50 = .ok (.aload 5, 2) := by decide +kernel
theorem dX5_keep_52 : decode cX5_keep 52 = .ok (.invokevirtual 274, 3) := by decide +kernel
theorem dX5_keep_55 : decode cX5_keep 55 = .ok (.iconst 0, 1) := by decide +kernel
theorem dX5_keep_56 : decode cX5_keep 56 = .ok (.ireturn, 1) := by decide +kernel
theorem dX5_row_0 : decode cX5_row 0 = .ok (.aload_n 0, 1) := by decide +kernel
theorem dX5_row_1 : decode cX5_row 1 = .ok (.iload_n 1, 1) := by decide +kernel
theorem dX5_row_2 : decode cX5_row 2 = .ok (.invokevirtual 44, 3) := by decide +kernel
theorem dX5_row_5 : decode cX5_row 5 = .ok (.astore 4, 2) := by decide +kernel
theorem dX5_row_7 : decode cX5_row 7 = .ok (.aload 4, 2) := by decide +kernel
theorem dX5_row_9 : decode cX5_row 9 = .ok (.ifnull 18, 3) := by decide +kernel
theorem dX5_row_12 : decode cX5_row 12 = .ok (.iload_n 2, 1) := by decide +kernel
theorem dX5_row_13 : decode cX5_row 13 = .ok (.ifCond .lt 14, 3) := by decide +kernel
theorem dX5_row_16 : decode cX5_row 16 = .ok (.iload_n 2, 1) := by decide +kernel
theorem dX5_row_17 : decode cX5_row 17 = .ok (.iconst 2, 1) := by decide +kernel
theorem dX5_row_18 : decode cX5_row 18 = .ok (.if_icmp .gt 9, 3) := by decide +kernel
theorem dX5_row_21 : decode cX5_row 21 = .ok (.iload_n 3, 1) := by decide +kernel
theorem dX5_row_22 : decode cX5_row 22 = .ok (.bipush 100, 2) := by decide +kernel
theorem dX5_row_24 : decode cX5_row 24 = .ok (.if_icmp .le 5, 3) := by decide +kernel
theorem dX5_row_27 : decode cX5_row 27 = .ok (.iconst (-1), 1) := by decide +kernel
theorem dX5_row_28 : decode cX5_row 28 = .ok (.ireturn, 1) := by decide +kernel
theorem dX5_row_29 : decode cX5_row 29 = .ok (.iload_n 3, 1) := by decide +kernel
theorem dX5_row_30 : decode cX5_row 30 = .ok (.ifCond .ge 6, 3) := by decide +kernel
theorem dX5_row_33 : decode cX5_row 33 = .ok (.bipush (-14), 2) := by decide +kernel
theorem dX5_row_35 : decode cX5_row 35 = .ok (.ireturn, 1) := by decide +kernel
theorem dX5_row_36 : decode cX5_row 36 = .ok (.aload 4, 2) := by decide +kernel
theorem dX5_row_38 : decode cX5_row 38 = .ok (.iload_n 2, 1) := by decide +kernel
theorem dX5_row_39 : decode cX5_row 39 = .ok (.iload_n 3, 1) := by decide +kernel
theorem dX5_row_40 : decode cX5_row 40 = .ok (.invokevirtual 278, 3) := by decide +kernel
theorem dX5_row_43 : decode cX5_row 43 = .ok (.iconst 0, 1) := by decide +kernel
theorem dX5_row_44 : decode cX5_row 44 = .ok (.ireturn, 1) := by decide +kernel
theorem dX5_put_0 : decode cX5_put 0 = .ok (.aload_n 0, 1) := by decide +kernel
theorem dX5_put_1 : decode cX5_put 1 = .ok (.iload_n 1, 1) := by decide +kernel
theorem dX5_put_2 : decode cX5_put 2 = .ok (.invokevirtual 44, 3) := by decide +kernel
theorem dX5_put_5 : decode cX5_put 5 = .ok (.astore 4, 2) := by decide +kernel
theorem dX5_put_7 : decode cX5_put 7 = .ok (.aload 4, 2) := by decide +kernel
theorem dX5_put_9 : decode cX5_put 9 = .ok (.ifnonnull 5, 3) := by decide +kernel
theorem dX5_put_12 : decode cX5_put 12 = .ok (.iconst (-1), 1) := by decide +kernel
theorem dX5_put_13 : decode cX5_put 13 = .ok (.ireturn, 1) := by decide +kernel
theorem dX5_put_14 : decode cX5_put 14 = .ok (.aload 4, 2) := by decide +kernel
theorem dX5_put_16 : decode cX5_put 16 = .ok (.getfield 213, 3) := by decide +kernel
theorem dX5_put_19 : decode cX5_put 19 = .ok (.ifCond .ne 9, 3) := by decide +kernel
theorem dX5_put_22 : decode cX5_put 22 = .ok (.aload 4, 2) := by decide +kernel
theorem dX5_put_24 : decode cX5_put 24 = .ok (.invokestatic 216, 3) := by decide +kernel
theorem dX5_put_27 : decode cX5_put 27 = .ok (.ireturn, 1) := by decide +kernel
theorem dX5_put_28 : decode cX5_put 28 = .ok (.aload 4, 2) := by decide +kernel
theorem dX5_put_30 : decode cX5_put 30 = .ok (.iload_n 2, 1) := by decide +kernel
theorem dX5_put_31 : decode cX5_put 31 = .ok (.invokevirtual 282, 3) := by decide +kernel
theorem dX5_put_34 : decode cX5_put 34 = .ok (.ifCond .ne 6, 3) := by decide +kernel
theorem dX5_put_37 : decode cX5_put 37 = .ok (.bipush (-13), 2) := by decide +kernel
theorem dX5_put_39 : decode cX5_put 39 = .ok (.ireturn, 1) := by decide +kernel
theorem dX5_put_40 : decode cX5_put 40 = .ok (.aload 4, 2) := by decide +kernel
theorem dX5_put_42 : decode cX5_put 42 = .ok (.getfield 226, 3) := by decide +kernel
theorem dX5_put_45 : decode cX5_put 45 = .ok (.iload_n 2, 1) := by decide +kernel
theorem dX5_put_46 : decode cX5_put 46 = .ok (.aload 4, 2) := by decide +kernel
theorem dX5_put_48 : decode cX5_put 48 = .ok (.iload_n 3, 1) := by decide +kernel
theorem dX5_put_49 : decode cX5_put 49 = .ok (.invokevirtual 285, 3) := by decide +kernel
theorem dX5_put_52 : decode cX5_put 52 = .ok (.iastore, 1) := by decide +kernel
theorem dX5_put_53 : decode cX5_put 53 = .ok (.iconst 0, 1) := by decide +kernel
theorem dX5_put_54 : decode cX5_put 54 = .ok (.ireturn, 1) := by decide +kernel
theorem dX5_element_0 : decode cX5_element 0 = .ok (.aload_n 0, 1) := by decide +kernel
theorem dX5_element_1 : decode cX5_element 1 = .ok (.iload_n 1, 1) := by decide +kernel
theorem dX5_element_2 : decode cX5_element 2 = .ok (.invokevirtual 44, 3) := by decide +kernel
theorem dX5_element_5 : decode cX5_element 5 = .ok (.astore_n 3, 1) := by decide +kernel
theorem dX5_element_6 : decode cX5_element 6 = .ok (.aload_n 3, 1) := by decide +kernel
theorem dX5_element_7 : decode cX5_element 7 = .ok (.ifnonnull 14, 3) := by decide +kernel
theorem dX5_element_10 : decode cX5_element 10 = .ok (.new 288, 3) := by decide +kernel
theorem dX5_element_13 : decode cX5_element 13 = .ok (.dup, 1) := by decide +kernel
theorem dX5_element_14 : decode cX5_element 14 = .ok (.ldc_w 290, 3) := by decide +kernel
theorem dX5_element_17 : decode cX5_element 17 = .ok (.invokespecial 292, 3) := by decide +kernel
theorem dX5_element_20 : decode cX5_element 20 = .ok (.athrow, 1) := by decide +kernel
theorem dX5_element_21 : decode cX5_element 21 = .ok (.aload_n 3, 1) := by decide +kernel
theorem dX5_element_22 : decode cX5_element 22 = .ok (.iload_n 2, 1) := by decide +kernel
theorem dX5_element_23 : decode cX5_element 23 = .ok (.invokevirtual 282, 3) := by decide +kernel
theorem dX5_element_26 : decode cX5_element 26 = .ok (.ifCond .ne 14, 3) := by decide +kernel
theorem dX5_element_29 : decode cX5_element 29 = .ok (.new 295, 3) := by decide +kernel
theorem dX5_element_32 : decode cX5_element 32 = .ok (.dup, 1) := by decide +kernel
theorem dX5_element_33 : decode cX5_element 33 = .ok (.ldc_w 297, 3) := by decide +kernel
theorem dX5_element_36 : decode cX5_element 36 = .ok (.invokespecial 299, 3) := by decide +kernel
theorem dX5_element_39 : decode cX5_element 39 = .ok (.athrow, 1) := by decide +kernel
theorem dX5_element_40 : decode cX5_element 40 = .ok (.aload_n 3, 1) := by decide +kernel
theorem dX5_element_41 : decode cX5_element 41 = .ok (.getfield 226, 3) := by decide +kernel
theorem dX5_element_44 : decode cX5_element 44 = .ok (.iload_n 2, 1) := by decide +kernel
theorem dX5_element_45 : decode cX5_element 45 = .ok (.iaload, 1) := by decide +kernel
theorem dX5_element_46 : decode cX5_element 46 = .ok (.i2l, 1) := by decide +kernel
theorem dX5_element_47 : decode cX5_element 47 = .ok (.lreturn, 1) := by decide +kernel
theorem dX5_copy_0 : decode cX5_copy 0 = .ok (.aload_n 0, 1) := by decide +kernel
theorem dX5_copy_1 : decode cX5_copy 1 = .ok (.iload_n 1, 1) := by decide +kernel
theorem dX5_copy_2 : decode cX5_copy 2 = .ok (.invokevirtual 44, 3) := by decide +kernel
theorem dX5_copy_5 : decode cX5_copy 5 = .ok (.astore 6, 2) := by decide +kernel
theorem dX5_copy_7 : decode cX5_copy 7 = .ok (.aload_n 0, 1) := by decide +kernel
theorem dX5_copy_8 : decode cX5_copy 8 = .ok (.iload_n 3, 1) := by decide +kernel
theorem dX5_copy_9 : decode cX5_copy 9 = .ok (.invokevirtual 44, 3) := by decide +kernel
theorem dX5_copy_12 : decode cX5_copy 12 = .ok (.astore 7, 2) := by decide +kernel
theorem dX5_copy_14 : decode cX5_copy 14 = .ok (.aload 6, 2) := by decide +kernel
theorem dX5_copy_16 : decode cX5_copy 16 = .ok (.ifnull 8, 3) := by decide +kernel
theorem dX5_copy_19 : decode cX5_copy 19 = .ok (.aload 7, 2) := by decide +kernel
theorem dX5_copy_21 : decode cX5_copy 21 = .ok (.ifnonnull 5, 3) := by decide +kernel
theorem dX5_copy_24 : decode cX5_copy 24 = .ok (.iconst (-1), 1) := by decide +kernel
theorem dX5_copy_25 : decode cX5_copy 25 = .ok (.ireturn, 1) := by decide +kernel
theorem dX5_copy_26 : decode cX5_copy 26 = .ok (.aload 6, 2) := by decide +kernel
theorem dX5_copy_28 : decode cX5_copy 28 = .ok (.invokevirtual 300, 3) := by decide +kernel
theorem dX5_copy_31 : decode cX5_copy 31 = .ok (.ifCond .ne 11, 3) := by decide +kernel
theorem dX5_copy_34 : decode cX5_copy 34 = .ok (.aload 7, 2) := by decide +kernel
theorem dX5_copy_36 : decode cX5_copy 36 = .ok (.invokevirtual 300, 3) := by decide +kernel
theorem dX5_copy_39 : decode cX5_copy 39 = .ok (.ifCond .eq 6, 3) := by decide +kernel
theorem dX5_copy_42 : decode cX5_copy 42 = .ok (.bipush (-11), 2) := by decide +kernel
theorem dX5_copy_44 : decode cX5_copy 44 = .ok (.ireturn, 1) := by decide +kernel
theorem dX5_copy_45 : decode cX5_copy 45 = .ok (.aload 6, 2) := by decide +kernel
theorem dX5_copy_47 : decode cX5_copy 47 = .ok (.getfield 213, 3) := by decide +kernel
theorem dX5_copy_50 : decode cX5_copy 50 = .ok (.ifCond .eq 24, 3) := by decide +kernel
theorem dX5_copy_53 : decode cX5_copy 53 = .ok (.aload 7, 2) := by decide +kernel
theorem dX5_copy_55 : decode cX5_copy 55 = .ok (.getfield 213, 3) := by decide +kernel
theorem dX5_copy_58 : decode cX5_copy 58 = .ok (.ifCond .eq 16, 3) := by decide +kernel
theorem dX5_copy_61 : decode cX5_copy 61 = .ok (.aload 6, 2) := by decide +kernel
theorem dX5_copy_63 : decode cX5_copy 63 = .ok (.getfield 303, 3) := by decide +kernel
theorem dX5_copy_66 : decode cX5_copy 66 = .ok (.aload 7, 2) := by decide +kernel
theorem dX5_copy_68 : decode cX5_copy 68 = .ok (.getfield 303, 3) := by decide +kernel
theorem dX5_copy_71 : decode cX5_copy 71 = .ok (.if_icmp .eq 6, 3) := by decide +kernel
theorem dX5_copy_74 : decode cX5_copy 74 = .ok (.bipush (-12), 2) := by decide +kernel
theorem dX5_copy_76 : decode cX5_copy 76 = .ok (.ireturn, 1) := by decide +kernel
theorem dX5_copy_77 : decode cX5_copy 77 = .ok (.aload 6, 2) := by decide +kernel
theorem dX5_copy_79 : decode cX5_copy 79 = .ok (.iload_n 2, 1) := by decide +kernel
theorem dX5_copy_80 : decode cX5_copy 80 = .ok (.iload 5, 2) := by decide +kernel
theorem dX5_copy_82 : decode cX5_copy 82 = .ok (.invokevirtual 306, 3) := by decide +kernel
theorem dX5_copy_85 : decode cX5_copy 85 = .ok (.ifCond .eq 15, 3) := by decide +kernel
theorem dX5_copy_88 : decode cX5_copy 88 = .ok (.aload 7, 2) := by decide +kernel
theorem dX5_copy_90 : decode cX5_copy 90 = .ok (.iload 4, 2) := by decide +kernel
theorem dX5_copy_92 : decode cX5_copy 92 = .ok (.iload 5, 2) := by decide +kernel
theorem dX5_copy_94 : decode cX5_copy 94 = .ok (.invokevirtual 306, 3) := by decide +kernel
theorem dX5_copy_97 : decode cX5_copy 97 = .ok (.ifCond .ne 6, 3) := by decide +kernel
theorem dX5_copy_100 : decode cX5_copy 100 = .ok (.bipush (-13), 2) := by decide +kernel
theorem dX5_copy_102 : decode cX5_copy 102 = .ok (.ireturn, 1) := by decide +kernel
theorem dX5_copy_103 : decode cX5_copy 103 = .ok (.aload 6, 2) := by decide +kernel
theorem dX5_copy_105 : decode cX5_copy 105 = .ok (.getfield 226, 3) := by decide +kernel
theorem dX5_copy_108 : decode cX5_copy 108 = .ok (.iload_n 2, 1) := by decide +kernel
theorem dX5_copy_109 : decode cX5_copy 109 = .ok (.aload 7, 2) := by decide +kernel
theorem dX5_copy_111 : decode cX5_copy 111 = .ok (.getfield 226, 3) := by decide +kernel
theorem dX5_copy_114 : decode cX5_copy 114 = .ok (.iload 4, 2) := by decide +kernel
theorem dX5_copy_116 : decode cX5_copy 116 = .ok (.iload 5, 2) := by decide +kernel
theorem dX5_copy_118 : decode cX5_copy 118 = .ok (.invokestatic 310, 3) := by decide +kernel
theorem dX5_copy_121 : decode cX5_copy 121 = .ok (.iload 5, 2) := by decide +kernel
theorem dX5_copy_123 : decode cX5_copy 123 = .ok (.ireturn, 1) := by decide +kernel
theorem dX5_weight_0 : decode cX5_weight 0 = .ok (.aload_n 0, 1) := by decide +kernel
theorem dX5_weight_1 : decode cX5_weight 1 = .ok (.iload_n 1, 1) := by decide +kernel
theorem dX5_weight_2 : decode cX5_weight 2 = .ok (.invokevirtual 44, 3) := by decide +kernel
theorem dX5_weight_5 : decode cX5_weight 5 = .ok (.astore_n 2, 1) := by decide +kernel
theorem dX5_weight_6 : decode cX5_weight 6 = .ok (.aload_n 2, 1) := by decide +kernel
theorem dX5_weight_7 : decode cX5_weight 7 = .ok (.ifnonnull 5, 3) := by decide +kernel
theorem dX5_weight_10 : decode cX5_weight 10 = .ok (.iconst (-1), 1) := by decide +kernel
theorem dX5_weight_11 : decode cX5_weight 11 = .ok (.ireturn, 1) := by decide +kernel
theorem dX5_weight_12 : decode cX5_weight 12 = .ok (.aload_n 2, 1) := by decide +kernel
theorem dX5_weight_13 : decode cX5_weight 13 = .ok (.getfield 316, 3) := by decide +kernel
theorem dX5_weight_16 : decode cX5_weight 16 = .ok (.ifnonnull 8, 3) := by decide +kernel
theorem dX5_weight_19 : decode cX5_weight 19 = .ok (.aload_n 2, 1) := by decide +kernel
theorem dX5_weight_20 : decode cX5_weight 20 = .ok (.invokestatic 320, 3) := by decide +kernel
theorem dX5_weight_23 : decode cX5_weight 23 = .ok (.ireturn, 1) := by decide +kernel
theorem dX5_weight_24 : decode cX5_weight 24 = .ok (.aload_n 2, 1) := by decide +kernel
theorem dX5_weight_25 : decode cX5_weight 25 = .ok (.getfield 316, 3) := by decide +kernel
theorem dX5_weight_28 : decode cX5_weight 28 = .ok (.aload_n 2, 1) := by decide +kernel
theorem dX5_weight_29 : decode cX5_weight 29 = .ok (.getfield 316, 3) := by decide +kernel
theorem dX5_weight_32 : decode cX5_weight 32 = .ok (.getfield 124, 3) := by decide +kernel
theorem dX5_weight_35 : decode cX5_weight 35 = .ok (.invokevirtual 323, 3) := by decide +kernel
theorem dX5_weight_38 : decode cX5_weight 38 = .ok (.ireturn, 1) := by decide +kernel
theorem dX5_toss_0 : decode cX5_toss 0 = .ok (.aload_n 0, 1) := by decide +kernel
theorem dX5_toss_1 : decode cX5_toss 1 = .ok (.iload_n 1, 1) := by decide +kernel
theorem dX5_toss_2 : decode cX5_toss 2 = .ok (.invokevirtual 44, 3) := by decide +kernel
theorem dX5_toss_5 : decode cX5_toss 5 = .ok (.astore_n 2, 1) := by decide +kernel
theorem dX5_toss_6 : decode cX5_toss 6 = .ok (.aload_n 2, 1) := by decide +kernel
theorem dX5_toss_7 : decode cX5_toss 7 = .ok (.ifnonnull 5, 3) := by decide +kernel
theorem dX5_toss_10 : decode cX5_toss 10 = .ok (.iconst (-1), 1) := by decide +kernel
theorem dX5_toss_11 : decode cX5_toss 11 = .ok (.ireturn, 1) := by decide +kernel
theorem dX5_toss_12 : decode cX5_toss 12 = .ok (.aload_n 2, 1) := by decide +kernel
theorem dX5_toss_13 : decode cX5_toss 13 = .ok (.getfield 316, 3) := by decide +kernel
theorem dX5_toss_16 : decode cX5_toss 16 = .ok (.astore_n 3, 1) := by decide +kernel
theorem dX5_toss_17 : decode cX5_toss 17 = .ok (.aload_n 3, 1) := by decide +kernel
theorem dX5_toss_18 : decode cX5_toss 18 = .ok (.ifnonnull 8, 3) := by decide +kernel
theorem dX5_toss_21 : decode cX5_toss 21 = .ok (.aload_n 2, 1) := by decide +kernel
theorem dX5_toss_22 : decode cX5_toss 22 = .ok (.invokestatic 320, 3) := by decide +kernel
theorem dX5_toss_25 : decode cX5_toss 25 = .ok (.ireturn, 1) := by decide +kernel
theorem dX5_toss_26 : decode cX5_toss 26 = .ok (.aload_n 3, 1) := by decide +kernel
theorem dX5_toss_27 : decode cX5_toss 27 = .ok (.invokestatic 326, 3) := by decide +kernel
theorem dX5_toss_30 : decode cX5_toss 30 = .ok (.goto 31, 3) := by decide +kernel
theorem dX5_toss_33 : decode cX5_toss 33 = .ok (.astore 4, 2) := by decide +kernel
theorem dX5_toss_35 : decode cX5_toss 35 = .ok (.aload_n 3, 1) := by decide +kernel
theorem dX5_toss_36 : decode cX5_toss 36 = .ok (.getfield 121, 3) := by decide +kernel
theorem dX5_toss_39 : decode cX5_toss 39 = .ok (.ireturn, 1) := by decide +kernel
theorem dX5_toss_40 : decode cX5_toss 40 = .ok (.astore 4, 2) := by decide +kernel
theorem dX5_toss_42 : decode cX5_toss 42 = .ok (.bipush 100, 2) := by decide +kernel
theorem dX5_toss_44 : decode cX5_toss 44 = .ok (.aload_n 3, 1) := by decide +kernel
theorem dX5_toss_45 : decode cX5_toss 45 = .ok (.getfield 121, 3) := by decide +kernel
theorem dX5_toss_48 : decode cX5_toss 48 = .ok (.iadd, 1) := by decide +kernel
theorem dX5_toss_49 : decode cX5_toss 49 = .ok (.ireturn, 1) := by decide +kernel
theorem dX5_toss_50 : decode cX5_toss 50 = .ok (.astore 4, 2) := by decide +kernel
theorem dX5_toss_52 : decode cX5_toss 52 = .ok (.sipush 200, 3) := by decide +kernel
theorem dX5_toss_55 : decode cX5_toss 55 = .ok (.aload_n 3, 1) := by decide +kernel
theorem dX5_toss_56 : decode cX5_toss 56 = .ok (.getfield 130, 3) := by decide +kernel
theorem dX5_toss_59 : decode cX5_toss 59 = .ok (.iadd, 1) := by decide +kernel
theorem dX5_toss_60 : decode cX5_toss 60 = .ok (.ireturn, 1) := by decide +kernel
theorem dX5_toss_61 : decode cX5_toss 61 = .ok (.bipush (-15), 2) := by decide +kernel
theorem dX5_toss_63 : decode cX5_toss 63 = .ok (.ireturn, 1) := by decide +kernel
theorem dX5_isMinute_0 : decode cX5_isMinute 0 = .ok (.iload_n 0, 1) := by decide +kernel
theorem dX5_isMinute_1 : decode cX5_isMinute 1 = .ok (.ifCond .lt 14, 3) := by decide +kernel
theorem dX5_isMinute_4 : decode cX5_isMinute 4 = .ok (.iload_n 0, 1) := by decide +kernel
theorem dX5_isMinute_5 : decode cX5_isMinute 5 = .ok (.sipush 19999, 3) := by decide +kernel
theorem dX5_isMinute_8 : decode cX5_isMinute 8 = .ok (.if_icmp .gt 7, 3) := by decide +kernel
theorem dX5_isMinute_11 : decode cX5_isMinute 11 = .ok (.iconst 1, 1) := by decide +kernel
theorem dX5_isMinute_12 : decode cX5_isMinute 12 = .ok (.goto 4, 3) := by decide +kernel
theorem dX5_isMinute_15 : decode cX5_isMinute 15 = .ok (.iconst 0, 1) := by decide +kernel
theorem dX5_isMinute_16 : decode cX5_isMinute 16 = .ok (.ireturn, 1) := by decide +kernel
theorem dX5_isDegree_0 : decode cX5_isDegree 0 = .ok (.iload_n 0, 1) := by decide +kernel
theorem dX5_isDegree_1 : decode cX5_isDegree 1 = .ok (.ifCond .lt 14, 3) := by decide +kernel
theorem dX5_isDegree_4 : decode cX5_isDegree 4 = .ok (.iload_n 0, 1) := by decide +kernel
theorem dX5_isDegree_5 : decode cX5_isDegree 5 = .ok (.sipush 360, 3) := by decide +kernel
theorem dX5_isDegree_8 : decode cX5_isDegree 8 = .ok (.if_icmp .ge 7, 3) := by decide +kernel
theorem dX5_isDegree_11 : decode cX5_isDegree 11 = .ok (.iconst 1, 1) := by decide +kernel
theorem dX5_isDegree_12 : decode cX5_isDegree 12 = .ok (.goto 4, 3) := by decide +kernel
theorem dX5_isDegree_15 : decode cX5_isDegree 15 = .ok (.iconst 0, 1) := by decide +kernel
theorem dX5_isDegree_16 : decode cX5_isDegree 16 = .ok (.ireturn, 1) := by decide +kernel
theorem dX5_isKind_0 : decode cX5_isKind 0 = .ok (.iload_n 0, 1) := by decide +kernel
theorem dX5_isKind_1 : decode cX5_isKind 1 = .ok (.ifCond .lt 13, 3) := by decide +kernel
theorem dX5_isKind_4 : decode cX5_isKind 4 = .ok (.iload_n 0, 1) := by decide +kernel
theorem dX5_isKind_5 : decode cX5_isKind 5 = .ok (.bipush 7, 2) := by decide +kernel
theorem dX5_isKind_7 : decode cX5_isKind 7 = .ok (.if_icmp .gt 7, 3) := by decide +kernel
theorem dX5_isKind_10 : decode cX5_isKind 10 = .ok (.iconst 1, 1) := by decide +kernel
theorem dX5_isKind_11 : decode cX5_isKind 11 = .ok (.goto 4, 3) := by decide +kernel
theorem dX5_isKind_14 : decode cX5_isKind 14 = .ok (.iconst 0, 1) := by decide +kernel
theorem dX5_isKind_15 : decode cX5_isKind 15 = .ok (.ireturn, 1) := by decide +kernel
theorem dX5_isRestDay_0 : decode cX5_isRestDay 0 = .ok (.iload_n 0, 1) := by decide +kernel
theorem dX5_isRestDay_1 : decode cX5_isRestDay 1 = .ok (.ifCond .lt 13, 3) := by decide +kernel
theorem dX5_isRestDay_4 : decode cX5_isRestDay 4 = .ok (.iload_n 0, 1) := by decide +kernel
theorem dX5_isRestDay_5 : decode cX5_isRestDay 5 = .ok (.bipush 6, 2) := by decide +kernel
theorem dX5_isRestDay_7 : decode cX5_isRestDay 7 = .ok (.if_icmp .gt 7, 3) := by decide +kernel
theorem dX5_isRestDay_10 : decode cX5_isRestDay 10 = .ok (.iconst 1, 1) := by decide +kernel
theorem dX5_isRestDay_11 : decode cX5_isRestDay 11 = .ok (.goto 4, 3) := by decide +kernel
theorem dX5_isRestDay_14 : decode cX5_isRestDay 14 = .ok (.iconst 0, 1) := by decide +kernel
theorem dX5_isRestDay_15 : decode cX5_isRestDay 15 = .ok (.ireturn, 1) := by decide +kernel
theorem dX5_minuteOrNone_0 : decode cX5_minuteOrNone 0 = .ok (.iload_n 0, 1) := by decide +kernel
theorem dX5_minuteOrNone_1 : decode cX5_minuteOrNone 1 = .ok (.sipush 19999, 3) := by decide +kernel
theorem dX5_minuteOrNone_4 : decode cX5_minuteOrNone 4 = .ok (.if_icmp .le 8, 3) := by decide +kernel
theorem dX5_minuteOrNone_7 : decode cX5_minuteOrNone 7 = .ok (.bipush (-4), 2) := by decide +kernel
theorem dX5_minuteOrNone_9 : decode cX5_minuteOrNone 9 = .ok (.goto 4, 3) := by decide +kernel
theorem dX5_minuteOrNone_12 : decode cX5_minuteOrNone 12 = .ok (.iload_n 0, 1) := by decide +kernel
theorem dX5_minuteOrNone_13 : decode cX5_minuteOrNone 13 = .ok (.ireturn, 1) := by decide +kernel
theorem dX5_commonDivisor_0 : decode cX5_commonDivisor 0 = .ok (.lload_n 2, 1) := by decide +kernel
theorem dX5_commonDivisor_1 : decode cX5_commonDivisor 1 = .ok (.lstore 4, 2) := by decide +kernel
theorem dX5_commonDivisor_3 : decode cX5_commonDivisor 3 = .ok (.lload_n 0, 1) := by decide +kernel
theorem dX5_commonDivisor_4 : decode cX5_commonDivisor 4 = .ok (.lstore 6, 2) := by decide +kernel
theorem dX5_commonDivisor_6 : decode cX5_commonDivisor 6 = .ok (.iconst 0, 1) := by decide +kernel
theorem dX5_commonDivisor_7 : decode cX5_commonDivisor 7 = .ok (.istore 8, 2) := by decide +kernel
theorem dX5_commonDivisor_9 : decode cX5_commonDivisor 9 = .ok (.iload 8, 2) := by decide +kernel
theorem dX5_commonDivisor_11 : decode cX5_commonDivisor 11 = .ok (.bipush 100, 2) := by decide +kernel
theorem dX5_commonDivisor_13 : decode cX5_commonDivisor 13 = .ok (.if_icmp .ge 31, 3) := by decide +kernel
theorem dX5_commonDivisor_16 : decode cX5_commonDivisor 16 = .ok (.lload 6, 2) := by decide +kernel
theorem dX5_commonDivisor_18 : decode cX5_commonDivisor 18 = .ok (.lconst 0, 1) := by decide +kernel
theorem dX5_commonDivisor_19 : decode cX5_commonDivisor 19 = .ok (.lcmp, 1) := by decide +kernel
theorem dX5_commonDivisor_20 : decode cX5_commonDivisor 20 = .ok (.ifCond .eq 24, 3) := by decide +kernel
theorem dX5_commonDivisor_23 : decode cX5_commonDivisor 23 = .ok (.lload 4, 2) := by decide +kernel
theorem dX5_commonDivisor_25 : decode cX5_commonDivisor 25 = .ok (.lload 6, 2) := by decide +kernel
theorem dX5_commonDivisor_27 : decode cX5_commonDivisor 27 = .ok (.lrem, 1) := by decide +kernel
theorem dX5_commonDivisor_28 : decode cX5_commonDivisor 28 = .ok (.lstore 9, 2) := by decide +kernel
theorem dX5_commonDivisor_30 : decode cX5_commonDivisor 30 = .ok (.lload 6, 2) := by decide +kernel
theorem dX5_commonDivisor_32 : decode cX5_commonDivisor 32 = .ok (.lstore 4, 2) := by decide +kernel
theorem dX5_commonDivisor_34 : decode cX5_commonDivisor 34 = .ok (.lload 9, 2) := by decide +kernel
theorem dX5_commonDivisor_36 : decode cX5_commonDivisor 36 = .ok (.lstore 6, 2) := by decide +kernel
theorem dX5_commonDivisor_38 : decode cX5_commonDivisor 38 = .ok (.iinc 8 1, 3) := by decide +kernel
theorem dX5_commonDivisor_41 : decode cX5_commonDivisor 41 = .ok (.goto (-32), 3) := by decide +kernel
theorem dX5_commonDivisor_44 : decode cX5_commonDivisor 44 = .ok (.lload 4, 2) := by decide +kernel
theorem dX5_commonDivisor_46 : decode cX5_commonDivisor 46 = .ok (.lconst 0, 1) := by decide +kernel
theorem dX5_commonDivisor_47 : decode cX5_commonDivisor 47 = .ok (.lcmp, 1) := by decide +kernel
theorem dX5_commonDivisor_48 : decode cX5_commonDivisor 48 = .ok (.ifCond .ne 7, 3) := by decide +kernel
theorem dX5_commonDivisor_51 : decode cX5_commonDivisor 51 = .ok (.lconst 1, 1) := by decide +kernel
theorem dX5_commonDivisor_52 : decode cX5_commonDivisor 52 = .ok (.goto 5, 3) := by decide +kernel
theorem dX5_commonDivisor_55 : decode cX5_commonDivisor 55 = .ok (.lload 4, 2) := by decide +kernel
theorem dX5_commonDivisor_57 : decode cX5_commonDivisor 57 = .ok (.lreturn, 1) := by decide +kernel
theorem dX5_shelfOf_0 : decode cX5_shelfOf 0 = .ok (.iload_n 1, 1) := by decide +kernel
theorem dX5_shelfOf_1 : decode cX5_shelfOf 1 = .ok (.ifCond .lt 18, 3) := by decide +kernel
theorem dX5_shelfOf_4 : decode cX5_shelfOf 4 = .ok (.iload_n 1, 1) := by decide +kernel
theorem dX5_shelfOf_5 : decode cX5_shelfOf 5 = .ok (.bipush 8, 2) := by decide +kernel
theorem dX5_shelfOf_7 : decode cX5_shelfOf 7 = .ok (.if_icmp .ge 12, 3) := by decide +kernel
theorem dX5_shelfOf_10 : decode cX5_shelfOf 10 = .ok (.aload_n 0, 1) := by decide +kernel
theorem dX5_shelfOf_11 : decode cX5_shelfOf 11 = .ok (.getfield 25, 3) := by decide +kernel
theorem dX5_shelfOf_14 : decode cX5_shelfOf 14 = .ok (.iload_n 1, 1) := by decide +kernel
theorem dX5_shelfOf_15 : decode cX5_shelfOf 15 = .ok (.aaload, 1) := by decide +kernel
theorem dX5_shelfOf_16 : decode cX5_shelfOf 16 = .ok (.goto 4, 3) := by decide +kernel
theorem dX5_shelfOf_19 : decode cX5_shelfOf 19 = .ok (.aconst_null, 1) := by decide +kernel
theorem dX5_shelfOf_20 : decode cX5_shelfOf 20 = .ok (.areturn, 1) := by decide +kernel
theorem dX5_refusalOfRow_0 : decode cX5_refusalOfRow 0 = .ok (.aload_n 0, 1) := by decide +kernel
theorem dX5_refusalOfRow_1 : decode cX5_refusalOfRow 1 = .ok (.getfield 213, 3) := by decide +kernel
theorem dX5_refusalOfRow_4 : decode cX5_refusalOfRow 4 = .ok (.ifCond .eq 5, 3) := by decide +kernel
theorem dX5_refusalOfRow_7 : decode cX5_refusalOfRow 7 = .ok (.iconst 0, 1) := by decide +kernel
theorem dX5_refusalOfRow_8 : decode cX5_refusalOfRow 8 = .ok (.ireturn, 1) := by decide +kernel
theorem dX5_refusalOfRow_9 : decode cX5_refusalOfRow 9 = .ok (.aload_n 0, 1) := by decide +kernel
theorem dX5_refusalOfRow_10 : decode cX5_refusalOfRow 10 = .ok (.invokevirtual 300, 3) := by decide +kernel
theorem dX5_refusalOfRow_13 : decode cX5_refusalOfRow 13 = .ok (.ifCond .eq 8, 3) := by decide +kernel
theorem dX5_refusalOfRow_16 : decode cX5_refusalOfRow 16 = .ok (.bipush (-11), 2) := by decide +kernel
theorem dX5_refusalOfRow_18 : decode cX5_refusalOfRow 18 = .ok (.goto 5, 3) := by decide +kernel
theorem dX5_refusalOfRow_21 : decode cX5_refusalOfRow 21 = .ok (.bipush (-12), 2) := by decide +kernel
theorem dX5_refusalOfRow_23 : decode cX5_refusalOfRow 23 = .ok (.ireturn, 1) := by decide +kernel
theorem dX5_refusalOfSort_0 : decode cX5_refusalOfSort 0 = .ok (.aload_n 0, 1) := by decide +kernel
theorem dX5_refusalOfSort_1 : decode cX5_refusalOfSort 1 = .ok (.getfield 213, 3) := by decide +kernel
theorem dX5_refusalOfSort_4 : decode cX5_refusalOfSort 4 = .ok (.ifCond .eq 14, 3) := by decide +kernel
theorem dX5_refusalOfSort_7 : decode cX5_refusalOfSort 7 = .ok (.aload_n 0, 1) := by decide +kernel
theorem dX5_refusalOfSort_8 : decode cX5_refusalOfSort 8 = .ok (.getfield 303, 3) := by decide +kernel
theorem dX5_refusalOfSort_11 : decode cX5_refusalOfSort 11 = .ok (.iload_n 1, 1) := by decide +kernel
theorem dX5_refusalOfSort_12 : decode cX5_refusalOfSort 12 = .ok (.if_icmp .eq 6, 3) := by decide +kernel
theorem dX5_refusalOfSort_15 : decode cX5_refusalOfSort 15 = .ok (.bipush (-12), 2) := by decide +kernel
theorem dX5_refusalOfSort_17 : decode cX5_refusalOfSort 17 = .ok (.ireturn, 1) := by decide +kernel
theorem dX5_refusalOfSort_18 : decode cX5_refusalOfSort 18 = .ok (.aload_n 0, 1) := by decide +kernel
theorem dX5_refusalOfSort_19 : decode cX5_refusalOfSort 19 = .ok (.invokestatic 216, 3) := by decide +kernel
theorem dX5_refusalOfSort_22 : decode cX5_refusalOfSort 22 = .ok (.ireturn, 1) := by decide +kernel
theorem dX5_refusalOfTraveller_0 : decode cX5_refusalOfTraveller 0 = .ok (.aload_n 0, 1) := by decide +kernel
theorem dX5_refusalOfTraveller_1 : decode cX5_refusalOfTraveller 1 = .ok (.invokevirtual 300, 3) := by decide +kernel
theorem dX5_refusalOfTraveller_4 : decode cX5_refusalOfTraveller 4 = .ok (.ifCond .eq 8, 3) := by decide +kernel
theorem dX5_refusalOfTraveller_7 : decode cX5_refusalOfTraveller 7 = .ok (.bipush (-11), 2) := by decide +kernel
theorem dX5_refusalOfTraveller_9 : decode cX5_refusalOfTraveller 9 = .ok (.goto 5, 3) := by decide +kernel
theorem dX5_refusalOfTraveller_12 : decode cX5_refusalOfTraveller 12 = .ok (.bipush (-12), 2) := by decide +kernel
theorem dX5_refusalOfTraveller_14 : decode cX5_refusalOfTraveller 14 = .ok (.ireturn, 1) := by decide +kernel
theorem dX5_refusalOfDuties_0 : decode cX5_refusalOfDuties 0 = .ok (.aload_n 0, 1) := by decide +kernel
theorem dX5_refusalOfDuties_1 : decode cX5_refusalOfDuties 1 = .ok (.iconst 2, 1) := by decide +kernel
theorem dX5_refusalOfDuties_2 : decode cX5_refusalOfDuties 2 = .ok (.invokestatic 48, 3) := by decide +kernel
theorem dX5_refusalOfDuties_5 : decode cX5_refusalOfDuties 5 = .ok (.istore_n 1, 1) := by decide +kernel
theorem dX5_refusalOfDuties_6 : decode cX5_refusalOfDuties 6 = .ok (.iload_n 1, 1) := by decide +kernel
theorem dX5_refusalOfDuties_7 : decode cX5_refusalOfDuties 7 = .ok (.ifCond .eq 5, 3) := by decide +kernel
theorem dX5_refusalOfDuties_10 : decode cX5_refusalOfDuties 10 = .ok (.iload_n 1, 1) := by decide +kernel
theorem dX5_refusalOfDuties_11 : decode cX5_refusalOfDuties 11 = .ok (.ireturn, 1) := by decide +kernel
theorem dX5_refusalOfDuties_12 : decode cX5_refusalOfDuties 12 = .ok (.iconst 0, 1) := by decide +kernel
theorem dX5_refusalOfDuties_13 : decode cX5_refusalOfDuties 13 = .ok (.istore_n 2, 1) := by decide +kernel
theorem dX5_refusalOfDuties_14 : decode cX5_refusalOfDuties 14 = .ok (.iload_n 2, 1) := by decide +kernel
theorem dX5_refusalOfDuties_15 : decode cX5_refusalOfDuties 15 = .ok (.aload_n 0, 1) := by decide +kernel
theorem dX5_refusalOfDuties_16 : decode cX5_refusalOfDuties 16 = .ok (.getfield 220, 3) := by decide +kernel
theorem dX5_refusalOfDuties_19 : decode cX5_refusalOfDuties 19 = .ok (.if_icmp .ge 24, 3) := by decide +kernel
theorem dX5_refusalOfDuties_22 : decode cX5_refusalOfDuties 22 = .ok (.aload_n 0, 1) := by decide +kernel
theorem dX5_refusalOfDuties_23 : decode cX5_refusalOfDuties 23 = .ok (.getfield 226, 3) := by decide +kernel
theorem dX5_refusalOfDuties_26 : decode cX5_refusalOfDuties 26 = .ok (.iload_n 2, 1) := by decide +kernel
theorem dX5_refusalOfDuties_27 : decode cX5_refusalOfDuties 27 = .ok (.iaload, 1) := by decide +kernel
theorem dX5_refusalOfDuties_28 : decode cX5_refusalOfDuties 28 = .ok (.invokestatic 96, 3) := by decide +kernel
theorem dX5_refusalOfDuties_31 : decode cX5_refusalOfDuties 31 = .ok (.ifCond .ne 6, 3) := by decide +kernel
theorem dX5_refusalOfDuties_34 : decode cX5_refusalOfDuties 34 = .ok (.bipush (-13), 2) := by decide +kernel
theorem dX5_refusalOfDuties_36 : decode cX5_refusalOfDuties 36 = .ok (.ireturn, 1) := by decide +kernel
theorem dX5_refusalOfDuties_37 : decode cX5_refusalOfDuties 37 = .ok (.iinc 2 1, 3) := by decide +kernel
theorem dX5_refusalOfDuties_40 : decode cX5_refusalOfDuties 40 = .ok (.goto (-26), 3) := by decide +kernel
theorem dX5_refusalOfDuties_43 : decode cX5_refusalOfDuties 43 = .ok (.iconst 0, 1) := by decide +kernel
theorem dX5_refusalOfDuties_44 : decode cX5_refusalOfDuties 44 = .ok (.ireturn, 1) := by decide +kernel
theorem dX5_isLog_0 : decode cX5_isLog 0 = .ok (.aload_n 0, 1) := by decide +kernel
theorem dX5_isLog_1 : decode cX5_isLog 1 = .ok (.getfield 220, 3) := by decide +kernel
theorem dX5_isLog_4 : decode cX5_isLog 4 = .ok (.iconst 2, 1) := by decide +kernel
theorem dX5_isLog_5 : decode cX5_isLog 5 = .ok (.irem, 1) := by decide +kernel
theorem dX5_isLog_6 : decode cX5_isLog 6 = .ok (.ifCond .eq 5, 3) := by decide +kernel
theorem dX5_isLog_9 : decode cX5_isLog 9 = .ok (.iconst 0, 1) := by decide +kernel
theorem dX5_isLog_10 : decode cX5_isLog 10 = .ok (.ireturn, 1) := by decide +kernel
theorem dX5_isLog_11 : decode cX5_isLog 11 = .ok (.iconst 0, 1) := by decide +kernel
theorem dX5_isLog_12 : decode cX5_isLog 12 = .ok (.istore_n 1, 1) := by decide +kernel
theorem dX5_isLog_13 : decode cX5_isLog 13 = .ok (.iload_n 1, 1) := by decide +kernel
theorem dX5_isLog_14 : decode cX5_isLog 14 = .ok (.iconst 1, 1) := by decide +kernel
theorem dX5_isLog_15 : decode cX5_isLog 15 = .ok (.iadd, 1) := by decide +kernel
theorem dX5_isLog_16 : decode cX5_isLog 16 = .ok (.aload_n 0, 1) := by decide +kernel
theorem dX5_isLog_17 : decode cX5_isLog 17 = .ok (.getfield 220, 3) := by decide +kernel
theorem dX5_isLog_20 : decode cX5_isLog 20 = .ok (.if_icmp .ge 31, 3) := by decide +kernel
theorem dX5_isLog_23 : decode cX5_isLog 23 = .ok (.aload_n 0, 1) := by decide +kernel
theorem dX5_isLog_24 : decode cX5_isLog 24 = .ok (.iload_n 1, 1) := by decide +kernel
theorem dX5_isLog_25 : decode cX5_isLog 25 = .ok (.invokevirtual 247, 3) := by decide +kernel
theorem dX5_isLog_28 : decode cX5_isLog 28 = .ok (.ifCond .eq 17, 3) := by decide +kernel
theorem dX5_isLog_31 : decode cX5_isLog 31 = .ok (.aload_n 0, 1) := by decide +kernel
theorem dX5_isLog_32 : decode cX5_isLog 32 = .ok (.getfield 226, 3) := by decide +kernel
theorem dX5_isLog_35 : decode cX5_isLog 35 = .ok (.iload_n 1, 1) := by decide +kernel
theorem dX5_isLog_36 : decode cX5_isLog 36 = .ok (.iaload, 1) := by decide +kernel
theorem dX5_isLog_37 : decode cX5_isLog 37 = .ok (.invokestatic 96, 3) := by decide +kernel
theorem dX5_isLog_40 : decode cX5_isLog 40 = .ok (.ifCond .ne 5, 3) := by decide +kernel
theorem dX5_isLog_43 : decode cX5_isLog 43 = .ok (.iconst 0, 1) := by decide +kernel
theorem dX5_isLog_44 : decode cX5_isLog 44 = .ok (.ireturn, 1) := by decide +kernel
theorem dX5_isLog_45 : decode cX5_isLog 45 = .ok (.iinc 1 2, 3) := by decide +kernel
theorem dX5_isLog_48 : decode cX5_isLog 48 = .ok (.goto (-35), 3) := by decide +kernel
theorem dX5_isLog_51 : decode cX5_isLog 51 = .ok (.iconst 1, 1) := by decide +kernel
theorem dX5_isLog_52 : decode cX5_isLog 52 = .ok (.ireturn, 1) := by decide +kernel
theorem dX5_shiftOf_0 : decode cX5_shiftOf 0 = .ok (.aload_n 0, 1) := by decide +kernel
theorem dX5_shiftOf_1 : decode cX5_shiftOf 1 = .ok (.aload_n 1, 1) := by decide +kernel
theorem dX5_shiftOf_2 : decode cX5_shiftOf 2 = .ok (.iconst 1, 1) := by decide +kernel
theorem dX5_shiftOf_3 : decode cX5_shiftOf 3 = .ok (.iload_n 2, 1) := by decide +kernel
theorem dX5_shiftOf_4 : decode cX5_shiftOf 4 = .ok (.invokevirtual 194, 3) := by decide +kernel
theorem dX5_shiftOf_7 : decode cX5_shiftOf 7 = .ok (.i2l, 1) := by decide +kernel
theorem dX5_shiftOf_8 : decode cX5_shiftOf 8 = .ok (.iload_n 3, 1) := by decide +kernel
theorem dX5_shiftOf_9 : decode cX5_shiftOf 9 = .ok (.i2l, 1) := by decide +kernel
theorem dX5_shiftOf_10 : decode cX5_shiftOf 10 = .ok (.lsub, 1) := by decide +kernel
theorem dX5_shiftOf_11 : decode cX5_shiftOf 11 = .ok (.lstore 4, 2) := by decide +kernel
theorem dX5_shiftOf_13 : decode cX5_shiftOf 13 = .ok (.lload 4, 2) := by decide +kernel
theorem dX5_shiftOf_15 : decode cX5_shiftOf 15 = .ok (.ldc2_w 331, 3) := by decide +kernel
theorem dX5_shiftOf_18 : decode cX5_shiftOf 18 = .ok (.lcmp, 1) := by decide +kernel
theorem dX5_shiftOf_19 : decode cX5_shiftOf 19 = .ok (.ifCond .lt 12, 3) := by decide +kernel
theorem dX5_shiftOf_22 : decode cX5_shiftOf 22 = .ok (.lload 4, 2) := by decide +kernel
theorem dX5_shiftOf_24 : decode cX5_shiftOf 24 = .ok (.ldc2_w 333, 3) := by decide +kernel
theorem dX5_shiftOf_27 : decode cX5_shiftOf 27 = .ok (.lcmp, 1) := by decide +kernel
theorem dX5_shiftOf_28 : decode cX5_shiftOf 28 = .ok (.ifCond .le 5, 3) := by decide +kernel
theorem dX5_shiftOf_31 : decode cX5_shiftOf 31 = .ok (.iconst 0, 1) := by decide +kernel
theorem dX5_shiftOf_32 : decode cX5_shiftOf 32 = .ok (.ireturn, 1) := by decide +kernel
theorem dX5_shiftOf_33 : decode cX5_shiftOf 33 = .ok (.iconst 1, 1) := by decide +kernel
theorem dX5_shiftOf_34 : decode cX5_shiftOf 34 = .ok (.lload 4, 2) := by decide +kernel
theorem dX5_shiftOf_36 : decode cX5_shiftOf 36 = .ok (.ldc2_w 333, 3) := by decide +kernel
theorem dX5_shiftOf_39 : decode cX5_shiftOf 39 = .ok (.ladd, 1) := by decide +kernel
theorem dX5_shiftOf_40 : decode cX5_shiftOf 40 = .ok (.l2i, 1) := by decide +kernel
theorem dX5_shiftOf_41 : decode cX5_shiftOf 41 = .ok (.ishl, 1) := by decide +kernel
theorem dX5_shiftOf_42 : decode cX5_shiftOf 42 = .ok (.ireturn, 1) := by decide +kernel
theorem dX5_throwFailure_0 : decode cX5_throwFailure 0 = .ok (.aload_n 0, 1) := by decide +kernel
theorem dX5_throwFailure_1 : decode cX5_throwFailure 1 = .ok (.getfield 141, 3) := by decide +kernel
theorem dX5_throwFailure_4 : decode cX5_throwFailure 4 = .ok (.ifCond .ne 4, 3) := by decide +kernel
theorem dX5_throwFailure_7 : decode cX5_throwFailure 7 = .ok (.return_, 1) := by decide +kernel
theorem dX5_throwFailure_8 : decode cX5_throwFailure 8 = .ok (.aload_n 0, 1) := by decide +kernel
theorem dX5_throwFailure_9 : decode cX5_throwFailure 9 = .ok (.getfield 124, 3) := by decide +kernel
theorem dX5_throwFailure_12 : decode cX5_throwFailure 12 = .ok (.tableswitch 59 3 7 #[36, 37, 59, 48, 36], 36) := by decide +kernel
theorem dX5_throwFailure_48 : decode cX5_throwFailure 48 = .ok (.return_, 1) := by decide +kernel
theorem dX5_throwFailure_49 : decode cX5_throwFailure 49 = .ok (.new 295, 3) := by decide +kernel
theorem dX5_throwFailure_52 : decode cX5_throwFailure 52 = .ok (.dup, 1) := by decide +kernel
theorem dX5_throwFailure_53 : decode cX5_throwFailure 53 = .ok (.ldc_w 335, 3) := by decide +kernel
theorem dX5_throwFailure_56 : decode cX5_throwFailure 56 = .ok (.invokespecial 299, 3) := by decide +kernel
theorem dX5_throwFailure_59 : decode cX5_throwFailure 59 = .ok (.athrow, 1) := by decide +kernel
theorem dX5_throwFailure_60 : decode cX5_throwFailure 60 = .ok (.new 288, 3) := by decide +kernel
theorem dX5_throwFailure_63 : decode cX5_throwFailure 63 = .ok (.dup, 1) := by decide +kernel
theorem dX5_throwFailure_64 : decode cX5_throwFailure 64 = .ok (.ldc_w 337, 3) := by decide +kernel
theorem dX5_throwFailure_67 : decode cX5_throwFailure 67 = .ok (.invokespecial 292, 3) := by decide +kernel
theorem dX5_throwFailure_70 : decode cX5_throwFailure 70 = .ok (.athrow, 1) := by decide +kernel
theorem dX5_throwFailure_71 : decode cX5_throwFailure 71 = .ok (.new 329, 3) := by decide +kernel
theorem dX5_throwFailure_74 : decode cX5_throwFailure 74 = .ok (.dup, 1) := by decide +kernel
theorem dX5_throwFailure_75 : decode cX5_throwFailure 75 = .ok (.ldc_w 339, 3) := by decide +kernel
theorem dX5_throwFailure_78 : decode cX5_throwFailure 78 = .ok (.invokespecial 341, 3) := by decide +kernel
theorem dX5_throwFailure_81 : decode cX5_throwFailure 81 = .ok (.athrow, 1) := by decide +kernel
theorem dX5_readForm_0 : decode cX5_readForm 0 = .ok (.aload_n 0, 1) := by decide +kernel
theorem dX5_readForm_1 : decode cX5_readForm 1 = .ok (.getfield 39, 3) := by decide +kernel
theorem dX5_readForm_4 : decode cX5_readForm 4 = .ok (.invokevirtual 342, 3) := by decide +kernel
theorem dX5_readForm_7 : decode cX5_readForm 7 = .ok (.iconst 1, 1) := by decide +kernel
theorem dX5_readForm_8 : decode cX5_readForm 8 = .ok (.istore_n 1, 1) := by decide +kernel
theorem dX5_readForm_9 : decode cX5_readForm 9 = .ok (.iload_n 1, 1) := by decide +kernel
theorem dX5_readForm_10 : decode cX5_readForm 10 = .ok (.bipush 100, 2) := by decide +kernel
theorem dX5_readForm_12 : decode cX5_readForm 12 = .ok (.if_icmp .gt 43, 3) := by decide +kernel
theorem dX5_readForm_15 : decode cX5_readForm 15 = .ok (.aload_n 0, 1) := by decide +kernel
theorem dX5_readForm_16 : decode cX5_readForm 16 = .ok (.getfield 39, 3) := by decide +kernel
theorem dX5_readForm_19 : decode cX5_readForm 19 = .ok (.invokevirtual 345, 3) := by decide +kernel
theorem dX5_readForm_22 : decode cX5_readForm 22 = .ok (.ifCond .ne 15, 3) := by decide +kernel
theorem dX5_readForm_25 : decode cX5_readForm 25 = .ok (.sipush (-1000), 3) := by decide +kernel
theorem dX5_readForm_28 : decode cX5_readForm 28 = .ok (.aload_n 0, 1) := by decide +kernel
theorem dX5_readForm_29 : decode cX5_readForm 29 = .ok (.getfield 39, 3) := by decide +kernel
theorem dX5_readForm_32 : decode cX5_readForm 32 = .ok (.getfield 348, 3) := by decide +kernel
theorem dX5_readForm_35 : decode cX5_readForm 35 = .ok (.isub, 1) := by decide +kernel
theorem dX5_readForm_36 : decode cX5_readForm 36 = .ok (.ireturn, 1) := by decide +kernel
theorem dX5_readForm_37 : decode cX5_readForm 37 = .ok (.aload_n 0, 1) := by decide +kernel
theorem dX5_readForm_38 : decode cX5_readForm 38 = .ok (.getfield 39, 3) := by decide +kernel
theorem dX5_readForm_41 : decode cX5_readForm 41 = .ok (.invokevirtual 351, 3) := by decide +kernel
theorem dX5_readForm_44 : decode cX5_readForm 44 = .ok (.ifCond .eq 5, 3) := by decide +kernel
theorem dX5_readForm_47 : decode cX5_readForm 47 = .ok (.iload_n 1, 1) := by decide +kernel
theorem dX5_readForm_48 : decode cX5_readForm 48 = .ok (.ireturn, 1) := by decide +kernel
theorem dX5_readForm_49 : decode cX5_readForm 49 = .ok (.iinc 1 1, 3) := by decide +kernel
theorem dX5_readForm_52 : decode cX5_readForm 52 = .ok (.goto (-43), 3) := by decide +kernel
theorem dX5_readForm_55 : decode cX5_readForm 55 = .ok (.sipush (-1000), 3) := by decide +kernel
theorem dX5_readForm_58 : decode cX5_readForm 58 = .ok (.aload_n 0, 1) := by decide +kernel
theorem dX5_readForm_59 : decode cX5_readForm 59 = .ok (.getfield 39, 3) := by decide +kernel
theorem dX5_readForm_62 : decode cX5_readForm 62 = .ok (.getfield 348, 3) := by decide +kernel
theorem dX5_readForm_65 : decode cX5_readForm 65 = .ok (.isub, 1) := by decide +kernel
theorem dX5_readForm_66 : decode cX5_readForm 66 = .ok (.ireturn, 1) := by decide +kernel
theorem dX5_readSense_0 : decode cX5_readSense 0 = .ok (.aload_n 0, 1) := by decide +kernel
theorem dX5_readSense_1 : decode cX5_readSense 1 = .ok (.getfield 39, 3) := by decide +kernel
theorem dX5_readSense_4 : decode cX5_readSense 4 = .ok (.invokevirtual 342, 3) := by decide +kernel
theorem dX5_readSense_7 : decode cX5_readSense 7 = .ok (.aload_n 0, 1) := by decide +kernel
theorem dX5_readSense_8 : decode cX5_readSense 8 = .ok (.getfield 12, 3) := by decide +kernel
theorem dX5_readSense_11 : decode cX5_readSense 11 = .ok (.getfield 210, 3) := by decide +kernel
theorem dX5_readSense_14 : decode cX5_readSense 14 = .ok (.istore_n 2, 1) := by decide +kernel
theorem dX5_readSense_15 : decode cX5_readSense 15 = .ok (.iconst 0, 1) := by decide +kernel
theorem dX5_readSense_16 : decode cX5_readSense 16 = .ok (.istore_n 3, 1) := by decide +kernel
theorem dX5_readSense_17 : decode cX5_readSense 17 = .ok (.iload_n 3, 1) := by decide +kernel
theorem dX5_readSense_18 : decode cX5_readSense 18 = .ok (.iload_n 1, 1) := by decide +kernel
theorem dX5_readSense_19 : decode cX5_readSense 19 = .ok (.if_icmp .ge 57, 3) := by decide +kernel
theorem dX5_readSense_22 : decode cX5_readSense 22 = .ok (.aload_n 0, 1) := by decide +kernel
theorem dX5_readSense_23 : decode cX5_readSense 23 = .ok (.getfield 39, 3) := by decide +kernel
theorem dX5_readSense_26 : decode cX5_readSense 26 = .ok (.invokevirtual 345, 3) := by decide +kernel
theorem dX5_readSense_29 : decode cX5_readSense 29 = .ok (.ifCond .eq 14, 3) := by decide +kernel
theorem dX5_readSense_32 : decode cX5_readSense 32 = .ok (.aload_n 0, 1) := by decide +kernel
theorem dX5_readSense_33 : decode cX5_readSense 33 = .ok (.getfield 39, 3) := by decide +kernel
theorem dX5_readSense_36 : decode cX5_readSense 36 = .ok (.iload_n 2, 1) := by decide +kernel
theorem dX5_readSense_37 : decode cX5_readSense 37 = .ok (.invokevirtual 354, 3) := by decide +kernel
theorem dX5_readSense_40 : decode cX5_readSense 40 = .ok (.ifCond .ne 15, 3) := by decide +kernel
theorem dX5_readSense_43 : decode cX5_readSense 43 = .ok (.sipush (-2000), 3) := by decide +kernel
theorem dX5_readSense_46 : decode cX5_readSense 46 = .ok (.aload_n 0, 1) := by decide +kernel
theorem dX5_readSense_47 : decode cX5_readSense 47 = .ok (.getfield 39, 3) := by decide +kernel
theorem dX5_readSense_50 : decode cX5_readSense 50 = .ok (.getfield 357, 3) := by decide +kernel
theorem dX5_readSense_53 : decode cX5_readSense 53 = .ok (.isub, 1) := by decide +kernel
theorem dX5_readSense_54 : decode cX5_readSense 54 = .ok (.ireturn, 1) := by decide +kernel
theorem dX5_readSense_55 : decode cX5_readSense 55 = .ok (.aload_n 0, 1) := by decide +kernel
theorem dX5_readSense_56 : decode cX5_readSense 56 = .ok (.getfield 39, 3) := by decide +kernel
theorem dX5_readSense_59 : decode cX5_readSense 59 = .ok (.getfield 360, 3) := by decide +kernel
theorem dX5_readSense_62 : decode cX5_readSense 62 = .ok (.bipush 112, 2) := by decide +kernel
theorem dX5_readSense_64 : decode cX5_readSense 64 = .ok (.if_icmp .ne 6, 3) := by decide +kernel
theorem dX5_readSense_67 : decode cX5_readSense 67 = .ok (.iinc 2 1, 3) := by decide +kernel
theorem dX5_readSense_70 : decode cX5_readSense 70 = .ok (.iinc 3 1, 3) := by decide +kernel
theorem dX5_readSense_73 : decode cX5_readSense 73 = .ok (.goto (-56), 3) := by decide +kernel
theorem dX5_readSense_76 : decode cX5_readSense 76 = .ok (.iconst 0, 1) := by decide +kernel
theorem dX5_readSense_77 : decode cX5_readSense 77 = .ok (.ireturn, 1) := by decide +kernel
theorem dX5_makeAll_0 : decode cX5_makeAll 0 = .ok (.aload_n 0, 1) := by decide +kernel
theorem dX5_makeAll_1 : decode cX5_makeAll 1 = .ok (.getfield 39, 3) := by decide +kernel
theorem dX5_makeAll_4 : decode cX5_makeAll 4 = .ok (.invokevirtual 342, 3) := by decide +kernel
theorem dX5_makeAll_7 : decode cX5_makeAll 7 = .ok (.iconst 0, 1) := by decide +kernel
theorem dX5_makeAll_8 : decode cX5_makeAll 8 = .ok (.istore_n 2, 1) := by decide +kernel
theorem dX5_makeAll_9 : decode cX5_makeAll 9 = .ok (.iload_n 2, 1) := by decide +kernel
theorem dX5_makeAll_10 : decode cX5_makeAll 10 = .ok (.iload_n 1, 1) := by decide +kernel
theorem dX5_makeAll_11 : decode cX5_makeAll 11 = .ok (.if_icmp .ge 124, 3) := by decide +kernel
theorem dX5_makeAll_14 : decode cX5_makeAll 14 = .ok (.aload_n 0, 1) := by decide +kernel
theorem dX5_makeAll_15 : decode cX5_makeAll 15 = .ok (.getfield 39, 3) := by decide +kernel
theorem dX5_makeAll_18 : decode cX5_makeAll 18 = .ok (.invokevirtual 345, 3) := by decide +kernel
theorem dX5_makeAll_21 : decode cX5_makeAll 21 = .ok (.pop, 1) := by decide +kernel
theorem dX5_makeAll_22 : decode cX5_makeAll 22 = .ok (.aload_n 0, 1) := by decide +kernel
theorem dX5_makeAll_23 : decode cX5_makeAll 23 = .ok (.getfield 39, 3) := by decide +kernel
theorem dX5_makeAll_26 : decode cX5_makeAll 26 = .ok (.getfield 360, 3) := by decide +kernel
theorem dX5_makeAll_29 : decode cX5_makeAll 29 = .ok (.bipush 112, 2) := by decide +kernel
theorem dX5_makeAll_31 : decode cX5_makeAll 31 = .ok (.if_icmp .ne 41, 3) := by decide +kernel
theorem dX5_makeAll_34 : decode cX5_makeAll 34 = .ok (.aload_n 0, 1) := by decide +kernel
theorem dX5_makeAll_35 : decode cX5_makeAll 35 = .ok (.getfield 12, 3) := by decide +kernel
theorem dX5_makeAll_38 : decode cX5_makeAll 38 = .ok (.aload_n 0, 1) := by decide +kernel
theorem dX5_makeAll_39 : decode cX5_makeAll 39 = .ok (.getfield 39, 3) := by decide +kernel
theorem dX5_makeAll_42 : decode cX5_makeAll 42 = .ok (.getfield 363, 3) := by decide +kernel
theorem dX5_makeAll_45 : decode cX5_makeAll 45 = .ok (.aload_n 0, 1) := by decide +kernel
theorem dX5_makeAll_46 : decode cX5_makeAll 46 = .ok (.getfield 39, 3) := by decide +kernel
theorem dX5_makeAll_49 : decode cX5_makeAll 49 = .ok (.getfield 366, 3) := by decide +kernel
theorem dX5_makeAll_52 : decode cX5_makeAll 52 = .ok (.aload_n 0, 1) := by decide +kernel
theorem dX5_makeAll_53 : decode cX5_makeAll 53 = .ok (.getfield 39, 3) := by decide +kernel
theorem dX5_makeAll_56 : decode cX5_makeAll 56 = .ok (.getfield 369, 3) := by decide +kernel
theorem dX5_makeAll_59 : decode cX5_makeAll 59 = .ok (.aload_n 0, 1) := by decide +kernel
theorem dX5_makeAll_60 : decode cX5_makeAll 60 = .ok (.getfield 39, 3) := by decide +kernel
theorem dX5_makeAll_63 : decode cX5_makeAll 63 = .ok (.getfield 372, 3) := by decide +kernel
theorem dX5_makeAll_66 : decode cX5_makeAll 66 = .ok (.invokevirtual 375, 3) := by decide +kernel
theorem dX5_makeAll_69 : decode cX5_makeAll 69 = .ok (.goto 60, 3) := by decide +kernel
theorem dX5_makeAll_72 : decode cX5_makeAll 72 = .ok (.aload_n 0, 1) := by decide +kernel
theorem dX5_makeAll_73 : decode cX5_makeAll 73 = .ok (.getfield 39, 3) := by decide +kernel
theorem dX5_makeAll_76 : decode cX5_makeAll 76 = .ok (.getfield 360, 3) := by decide +kernel
theorem dX5_makeAll_79 : decode cX5_makeAll 79 = .ok (.bipush 108, 2) := by decide +kernel
theorem dX5_makeAll_81 : decode cX5_makeAll 81 = .ok (.if_icmp .ne 20, 3) := by decide +kernel
theorem dX5_makeAll_84 : decode cX5_makeAll 84 = .ok (.aload_n 0, 1) := by decide +kernel
theorem dX5_makeAll_85 : decode cX5_makeAll 85 = .ok (.getfield 12, 3) := by decide +kernel
theorem dX5_makeAll_88 : decode cX5_makeAll 88 = .ok (.aload_n 0, 1) := by decide +kernel
theorem dX5_makeAll_89 : decode cX5_makeAll 89 = .ok (.getfield 39, 3) := by decide +kernel
theorem dX5_makeAll_92 : decode cX5_makeAll 92 = .ok (.getfield 363, 3) := by decide +kernel
theorem dX5_makeAll_95 : decode cX5_makeAll 95 = .ok (.putfield 92, 3) := by decide +kernel
theorem dX5_makeAll_98 : decode cX5_makeAll 98 = .ok (.goto 31, 3) := by decide +kernel
theorem dX5_makeAll_101 : decode cX5_makeAll 101 = .ok (.aload_n 0, 1) := by decide +kernel
theorem dX5_makeAll_102 : decode cX5_makeAll 102 = .ok (.getfield 12, 3) := by decide +kernel
theorem dX5_makeAll_105 : decode cX5_makeAll 105 = .ok (.aload_n 0, 1) := by decide +kernel
theorem dX5_makeAll_106 : decode cX5_makeAll 106 = .ok (.getfield 39, 3) := by decide +kernel
theorem dX5_makeAll_109 : decode cX5_makeAll 109 = .ok (.getfield 363, 3) := by decide +kernel
theorem dX5_makeAll_112 : decode cX5_makeAll 112 = .ok (.aload_n 0, 1) := by decide +kernel
theorem dX5_makeAll_113 : decode cX5_makeAll 113 = .ok (.getfield 39, 3) := by decide +kernel
theorem dX5_makeAll_116 : decode cX5_makeAll 116 = .ok (.getfield 366, 3) := by decide +kernel
theorem dX5_makeAll_119 : decode cX5_makeAll 119 = .ok (.aload_n 0, 1) := by decide +kernel
theorem dX5_makeAll_120 : decode cX5_makeAll 120 = .ok (.getfield 39, 3) := by decide +kernel
theorem dX5_makeAll_123 : decode cX5_makeAll 123 = .ok (.getfield 369, 3) := by decide +kernel
theorem dX5_makeAll_126 : decode cX5_makeAll 126 = .ok (.invokevirtual 379, 3) := by decide +kernel
theorem dX5_makeAll_129 : decode cX5_makeAll 129 = .ok (.iinc 2 1, 3) := by decide +kernel
theorem dX5_makeAll_132 : decode cX5_makeAll 132 = .ok (.goto (-123), 3) := by decide +kernel
theorem dX5_makeAll_135 : decode cX5_makeAll 135 = .ok (.return_, 1) := by decide +kernel
theorem dX5_roundsAt_0 : decode cX5_roundsAt 0 = .ok (.aload_n 0, 1) := by decide +kernel
theorem dX5_roundsAt_1 : decode cX5_roundsAt 1 = .ok (.getfield 12, 3) := by decide +kernel
theorem dX5_roundsAt_4 : decode cX5_roundsAt 4 = .ok (.aload_n 1, 1) := by decide +kernel
theorem dX5_roundsAt_5 : decode cX5_roundsAt 5 = .ok (.aload_n 1, 1) := by decide +kernel
theorem dX5_roundsAt_6 : decode cX5_roundsAt 6 = .ok (.getfield 162, 3) := by decide +kernel
theorem dX5_roundsAt_9 : decode cX5_roundsAt 9 = .ok (.iload_n 2, 1) := by decide +kernel
theorem dX5_roundsAt_10 : decode cX5_roundsAt 10 = .ok (.aload_n 0, 1) := by decide +kernel
theorem dX5_roundsAt_11 : decode cX5_roundsAt 11 = .ok (.getfield 32, 3) := by decide +kernel
theorem dX5_roundsAt_14 : decode cX5_roundsAt 14 = .ok (.invokevirtual 165, 3) := by decide +kernel
theorem dX5_roundsAt_17 : decode cX5_roundsAt 17 = .ok (.aload_n 0, 1) := by decide +kernel
theorem dX5_roundsAt_18 : decode cX5_roundsAt 18 = .ok (.getfield 32, 3) := by decide +kernel
theorem dX5_roundsAt_21 : decode cX5_roundsAt 21 = .ok (.invokevirtual 383, 3) := by decide +kernel
theorem dX5_roundsAt_24 : decode cX5_roundsAt 24 = .ok (.ireturn, 1) := by decide +kernel
theorem dX5_dayTold_0 : decode cX5_dayTold 0 = .ok (.aload_n 0, 1) := by decide +kernel
theorem dX5_dayTold_1 : decode cX5_dayTold 1 = .ok (.getfield 12, 3) := by decide +kernel
theorem dX5_dayTold_4 : decode cX5_dayTold 4 = .ok (.aload_n 1, 1) := by decide +kernel
theorem dX5_dayTold_5 : decode cX5_dayTold 5 = .ok (.aload_n 1, 1) := by decide +kernel
theorem dX5_dayTold_6 : decode cX5_dayTold 6 = .ok (.getfield 162, 3) := by decide +kernel
theorem dX5_dayTold_9 : decode cX5_dayTold 9 = .ok (.iload_n 3, 1) := by decide +kernel
theorem dX5_dayTold_10 : decode cX5_dayTold 10 = .ok (.aload_n 0, 1) := by decide +kernel
theorem dX5_dayTold_11 : decode cX5_dayTold 11 = .ok (.getfield 32, 3) := by decide +kernel
theorem dX5_dayTold_14 : decode cX5_dayTold 14 = .ok (.invokevirtual 165, 3) := by decide +kernel
theorem dX5_dayTold_17 : decode cX5_dayTold 17 = .ok (.iload_n 2, 1) := by decide +kernel
theorem dX5_dayTold_18 : decode cX5_dayTold 18 = .ok (.tableswitch 225 1 7 #[42, 51, 95, 115, 130, 147, 189], 42) := by decide +kernel
theorem dX5_dayTold_60 : decode cX5_dayTold 60 = .ok (.aload_n 0, 1) := by decide +kernel
theorem dX5_dayTold_61 : decode cX5_dayTold 61 = .ok (.getfield 32, 3) := by decide +kernel
theorem dX5_dayTold_64 : decode cX5_dayTold 64 = .ok (.iload_n 3, 1) := by decide +kernel
theorem dX5_dayTold_65 : decode cX5_dayTold 65 = .ok (.invokevirtual 386, 3) := by decide +kernel
theorem dX5_dayTold_68 : decode cX5_dayTold 68 = .ok (.ireturn, 1) := by decide +kernel
theorem dX5_dayTold_69 : decode cX5_dayTold 69 = .ok (.aload_n 0, 1) := by decide +kernel
theorem dX5_dayTold_70 : decode cX5_dayTold 70 = .ok (.getfield 32, 3) := by decide +kernel
theorem dX5_dayTold_73 : decode cX5_dayTold 73 = .ok (.invokevirtual 187, 3) := by decide +kernel
theorem dX5_dayTold_76 : decode cX5_dayTold 76 = .ok (.ifCond .eq 14, 3) := by decide +kernel
theorem dX5_dayTold_79 : decode cX5_dayTold 79 = .ok (.aload_n 0, 1) := by decide +kernel
theorem dX5_dayTold_80 : decode cX5_dayTold 80 = .ok (.getfield 32, 3) := by decide +kernel
theorem dX5_dayTold_83 : decode cX5_dayTold 83 = .ok (.iload_n 3, 1) := by decide +kernel
theorem dX5_dayTold_84 : decode cX5_dayTold 84 = .ok (.invokevirtual 389, 3) := by decide +kernel
theorem dX5_dayTold_87 : decode cX5_dayTold 87 = .ok (.goto 25, 3) := by decide +kernel
theorem dX5_dayTold_90 : decode cX5_dayTold 90 = .ok (.aload_n 0, 1) := by decide +kernel
theorem dX5_dayTold_91 : decode cX5_dayTold 91 = .ok (.getfield 12, 3) := by decide +kernel
theorem dX5_dayTold_94 : decode cX5_dayTold 94 = .ok (.aload_n 0, 1) := by decide +kernel
theorem dX5_dayTold_95 : decode cX5_dayTold 95 = .ok (.getfield 32, 3) := by decide +kernel
theorem dX5_dayTold_98 : decode cX5_dayTold 98 = .ok (.getfield 191, 3) := by decide +kernel
theorem dX5_dayTold_101 : decode cX5_dayTold 101 = .ok (.iload_n 3, 1) := by decide +kernel
theorem dX5_dayTold_102 : decode cX5_dayTold 102 = .ok (.aload_n 0, 1) := by decide +kernel
theorem dX5_dayTold_103 : decode cX5_dayTold 103 = .ok (.getfield 12, 3) := by decide +kernel
theorem dX5_dayTold_106 : decode cX5_dayTold 106 = .ok (.getfield 92, 3) := by decide +kernel
theorem dX5_dayTold_109 : decode cX5_dayTold 109 = .ok (.invokevirtual 99, 3) := by decide +kernel
theorem dX5_dayTold_112 : decode cX5_dayTold 112 = .ok (.ireturn, 1) := by decide +kernel
theorem dX5_dayTold_113 : decode cX5_dayTold 113 = .ok (.aload_n 0, 1) := by decide +kernel
theorem dX5_dayTold_114 : decode cX5_dayTold 114 = .ok (.getfield 12, 3) := by decide +kernel
theorem dX5_dayTold_117 : decode cX5_dayTold 117 = .ok (.aload_n 1, 1) := by decide +kernel
theorem dX5_dayTold_118 : decode cX5_dayTold 118 = .ok (.getfield 127, 3) := by decide +kernel
theorem dX5_dayTold_121 : decode cX5_dayTold 121 = .ok (.iload_n 3, 1) := by decide +kernel
theorem dX5_dayTold_122 : decode cX5_dayTold 122 = .ok (.aload_n 0, 1) := by decide +kernel
theorem dX5_dayTold_123 : decode cX5_dayTold 123 = .ok (.getfield 12, 3) := by decide +kernel
theorem dX5_dayTold_126 : decode cX5_dayTold 126 = .ok (.getfield 92, 3) := by decide +kernel
theorem dX5_dayTold_129 : decode cX5_dayTold 129 = .ok (.invokevirtual 99, 3) := by decide +kernel
theorem dX5_dayTold_132 : decode cX5_dayTold 132 = .ok (.ireturn, 1) := by decide +kernel
theorem dX5_dayTold_133 : decode cX5_dayTold 133 = .ok (.aload_n 0, 1) := by decide +kernel
theorem dX5_dayTold_134 : decode cX5_dayTold 134 = .ok (.getfield 32, 3) := by decide +kernel
theorem dX5_dayTold_137 : decode cX5_dayTold 137 = .ok (.iload_n 3, 1) := by decide +kernel
theorem dX5_dayTold_138 : decode cX5_dayTold 138 = .ok (.invokevirtual 386, 3) := by decide +kernel
theorem dX5_dayTold_141 : decode cX5_dayTold 141 = .ok (.aload_n 1, 1) := by decide +kernel
theorem dX5_dayTold_142 : decode cX5_dayTold 142 = .ok (.iload_n 3, 1) := by decide +kernel
theorem dX5_dayTold_143 : decode cX5_dayTold 143 = .ok (.invokevirtual 392, 3) := by decide +kernel
theorem dX5_dayTold_146 : decode cX5_dayTold 146 = .ok (.iadd, 1) := by decide +kernel
theorem dX5_dayTold_147 : decode cX5_dayTold 147 = .ok (.ireturn, 1) := by decide +kernel
theorem dX5_dayTold_148 : decode cX5_dayTold 148 = .ok (.aload_n 0, 1) := by decide +kernel
theorem dX5_dayTold_149 : decode cX5_dayTold 149 = .ok (.getfield 32, 3) := by decide +kernel
theorem dX5_dayTold_152 : decode cX5_dayTold 152 = .ok (.iload_n 3, 1) := by decide +kernel
theorem dX5_dayTold_153 : decode cX5_dayTold 153 = .ok (.invokevirtual 386, 3) := by decide +kernel
theorem dX5_dayTold_156 : decode cX5_dayTold 156 = .ok (.aload_n 0, 1) := by decide +kernel
theorem dX5_dayTold_157 : decode cX5_dayTold 157 = .ok (.getfield 32, 3) := by decide +kernel
theorem dX5_dayTold_160 : decode cX5_dayTold 160 = .ok (.invokevirtual 383, 3) := by decide +kernel
theorem dX5_dayTold_163 : decode cX5_dayTold 163 = .ok (.isub, 1) := by decide +kernel
theorem dX5_dayTold_164 : decode cX5_dayTold 164 = .ok (.ireturn, 1) := by decide +kernel
theorem dX5_dayTold_165 : decode cX5_dayTold 165 = .ok (.aload_n 0, 1) := by decide +kernel
theorem dX5_dayTold_166 : decode cX5_dayTold 166 = .ok (.getfield 12, 3) := by decide +kernel
theorem dX5_dayTold_169 : decode cX5_dayTold 169 = .ok (.aload_n 1, 1) := by decide +kernel
theorem dX5_dayTold_170 : decode cX5_dayTold 170 = .ok (.aload_n 0, 1) := by decide +kernel
theorem dX5_dayTold_171 : decode cX5_dayTold 171 = .ok (.getfield 32, 3) := by decide +kernel
theorem dX5_dayTold_174 : decode cX5_dayTold 174 = .ok (.iload_n 3, 1) := by decide +kernel
theorem dX5_dayTold_175 : decode cX5_dayTold 175 = .ok (.invokevirtual 395, 3) := by decide +kernel
theorem dX5_dayTold_178 : decode cX5_dayTold 178 = .ok (.ifCond .eq 13, 3) := by decide +kernel
theorem dX5_dayTold_181 : decode cX5_dayTold 181 = .ok (.aload_n 0, 1) := by decide +kernel
theorem dX5_dayTold_182 : decode cX5_dayTold 182 = .ok (.getfield 32, 3) := by decide +kernel
theorem dX5_dayTold_185 : decode cX5_dayTold 185 = .ok (.getfield 191, 3) := by decide +kernel
theorem dX5_dayTold_188 : decode cX5_dayTold 188 = .ok (.goto 7, 3) := by decide +kernel
theorem dX5_dayTold_191 : decode cX5_dayTold 191 = .ok (.aload_n 1, 1) := by decide +kernel
theorem dX5_dayTold_192 : decode cX5_dayTold 192 = .ok (.getfield 127, 3) := by decide +kernel
theorem dX5_dayTold_195 : decode cX5_dayTold 195 = .ok (.iload_n 3, 1) := by decide +kernel
theorem dX5_dayTold_196 : decode cX5_dayTold 196 = .ok (.aload_n 0, 1) := by decide +kernel
theorem dX5_dayTold_197 : decode cX5_dayTold 197 = .ok (.getfield 12, 3) := by decide +kernel
theorem dX5_dayTold_200 : decode cX5_dayTold 200 = .ok (.getfield 92, 3) := by decide +kernel
theorem dX5_dayTold_203 : decode cX5_dayTold 203 = .ok (.invokevirtual 99, 3) := by decide +kernel
theorem dX5_dayTold_206 : decode cX5_dayTold 206 = .ok (.ireturn, 1) := by decide +kernel
theorem dX5_dayTold_207 : decode cX5_dayTold 207 = .ok (.aload_n 0, 1) := by decide +kernel
theorem dX5_dayTold_208 : decode cX5_dayTold 208 = .ok (.getfield 12, 3) := by decide +kernel
theorem dX5_dayTold_211 : decode cX5_dayTold 211 = .ok (.aload_n 1, 1) := by decide +kernel
theorem dX5_dayTold_212 : decode cX5_dayTold 212 = .ok (.getfield 127, 3) := by decide +kernel
theorem dX5_dayTold_215 : decode cX5_dayTold 215 = .ok (.iload_n 3, 1) := by decide +kernel
theorem dX5_dayTold_216 : decode cX5_dayTold 216 = .ok (.aload_n 0, 1) := by decide +kernel
theorem dX5_dayTold_217 : decode cX5_dayTold 217 = .ok (.getfield 12, 3) := by decide +kernel
theorem dX5_dayTold_220 : decode cX5_dayTold 220 = .ok (.getfield 92, 3) := by decide +kernel
theorem dX5_dayTold_223 : decode cX5_dayTold 223 = .ok (.invokevirtual 99, 3) := by decide +kernel
theorem dX5_dayTold_226 : decode cX5_dayTold 226 = .ok (.aload_n 0, 1) := by decide +kernel
theorem dX5_dayTold_227 : decode cX5_dayTold 227 = .ok (.getfield 32, 3) := by decide +kernel
theorem dX5_dayTold_230 : decode cX5_dayTold 230 = .ok (.invokevirtual 187, 3) := by decide +kernel
theorem dX5_dayTold_233 : decode cX5_dayTold 233 = .ok (.ifCond .eq 7, 3) := by decide +kernel
theorem dX5_dayTold_236 : decode cX5_dayTold 236 = .ok (.iconst 1, 1) := by decide +kernel
theorem dX5_dayTold_237 : decode cX5_dayTold 237 = .ok (.goto 4, 3) := by decide +kernel
theorem dX5_dayTold_240 : decode cX5_dayTold 240 = .ok (.iconst 0, 1) := by decide +kernel
theorem dX5_dayTold_241 : decode cX5_dayTold 241 = .ok (.iadd, 1) := by decide +kernel
theorem dX5_dayTold_242 : decode cX5_dayTold 242 = .ok (.ireturn, 1) := by decide +kernel
theorem dX5_dayTold_243 : decode cX5_dayTold 243 = .ok (.aload_n 0, 1) := by decide +kernel
theorem dX5_dayTold_244 : decode cX5_dayTold 244 = .ok (.getfield 32, 3) := by decide +kernel
theorem dX5_dayTold_247 : decode cX5_dayTold 247 = .ok (.iload_n 3, 1) := by decide +kernel
theorem dX5_dayTold_248 : decode cX5_dayTold 248 = .ok (.invokevirtual 389, 3) := by decide +kernel
theorem dX5_dayTold_251 : decode cX5_dayTold 251 = .ok (.ireturn, 1) := by decide +kernel
theorem dX5_nextChange_0 : decode cX5_nextChange 0 = .ok (.aload_n 0, 1) := by decide +kernel
theorem dX5_nextChange_1 : decode cX5_nextChange 1 = .ok (.aload_n 1, 1) := by decide +kernel
theorem dX5_nextChange_2 : decode cX5_nextChange 2 = .ok (.iload_n 2, 1) := by decide +kernel
theorem dX5_nextChange_3 : decode cX5_nextChange 3 = .ok (.iload_n 3, 1) := by decide +kernel
theorem dX5_nextChange_4 : decode cX5_nextChange 4 = .ok (.invokevirtual 194, 3) := by decide +kernel
theorem dX5_nextChange_7 : decode cX5_nextChange 7 = .ok (.istore 4, 2) := by decide +kernel
theorem dX5_nextChange_9 : decode cX5_nextChange 9 = .ok (.iload_n 3, 1) := by decide +kernel
theorem dX5_nextChange_10 : decode cX5_nextChange 10 = .ok (.istore 5, 2) := by decide +kernel
theorem dX5_nextChange_12 : decode cX5_nextChange 12 = .ok (.iconst 0, 1) := by decide +kernel
theorem dX5_nextChange_13 : decode cX5_nextChange 13 = .ok (.istore 6, 2) := by decide +kernel
theorem dX5_nextChange_15 : decode cX5_nextChange 15 = .ok (.iload 6, 2) := by decide +kernel
theorem dX5_nextChange_17 : decode cX5_nextChange 17 = .ok (.sipush 19999, 3) := by decide +kernel
theorem dX5_nextChange_20 : decode cX5_nextChange 20 = .ok (.if_icmp .gt 80, 3) := by decide +kernel
theorem dX5_nextChange_23 : decode cX5_nextChange 23 = .ok (.iload 5, 2) := by decide +kernel
theorem dX5_nextChange_25 : decode cX5_nextChange 25 = .ok (.sipush 19999, 3) := by decide +kernel
theorem dX5_nextChange_28 : decode cX5_nextChange 28 = .ok (.if_icmp .gt 72, 3) := by decide +kernel
theorem dX5_nextChange_31 : decode cX5_nextChange 31 = .ok (.aload_n 0, 1) := by decide +kernel
theorem dX5_nextChange_32 : decode cX5_nextChange 32 = .ok (.aload_n 1, 1) := by decide +kernel
theorem dX5_nextChange_33 : decode cX5_nextChange 33 = .ok (.iload 5, 2) := by decide +kernel
theorem dX5_nextChange_35 : decode cX5_nextChange 35 = .ok (.invokevirtual 399, 3) := by decide +kernel
theorem dX5_nextChange_38 : decode cX5_nextChange 38 = .ok (.istore 7, 2) := by decide +kernel
theorem dX5_nextChange_40 : decode cX5_nextChange 40 = .ok (.aload_n 0, 1) := by decide +kernel
theorem dX5_nextChange_41 : decode cX5_nextChange 41 = .ok (.aload_n 1, 1) := by decide +kernel
theorem dX5_nextChange_42 : decode cX5_nextChange 42 = .ok (.iload_n 2, 1) := by decide +kernel
theorem dX5_nextChange_43 : decode cX5_nextChange 43 = .ok (.iload 7, 2) := by decide +kernel
theorem dX5_nextChange_45 : decode cX5_nextChange 45 = .ok (.invokevirtual 194, 3) := by decide +kernel
theorem dX5_nextChange_48 : decode cX5_nextChange 48 = .ok (.iload 4, 2) := by decide +kernel
theorem dX5_nextChange_50 : decode cX5_nextChange 50 = .ok (.if_icmp .eq 14, 3) := by decide +kernel
theorem dX5_nextChange_53 : decode cX5_nextChange 53 = .ok (.aload_n 0, 1) := by decide +kernel
theorem dX5_nextChange_54 : decode cX5_nextChange 54 = .ok (.aload_n 1, 1) := by decide +kernel
theorem dX5_nextChange_55 : decode cX5_nextChange 55 = .ok (.iload_n 2, 1) := by decide +kernel
theorem dX5_nextChange_56 : decode cX5_nextChange 56 = .ok (.iload 5, 2) := by decide +kernel
theorem dX5_nextChange_58 : decode cX5_nextChange 58 = .ok (.iload 7, 2) := by decide +kernel
theorem dX5_nextChange_60 : decode cX5_nextChange 60 = .ok (.invokevirtual 402, 3) := by decide +kernel
theorem dX5_nextChange_63 : decode cX5_nextChange 63 = .ok (.ireturn, 1) := by decide +kernel
theorem dX5_nextChange_64 : decode cX5_nextChange 64 = .ok (.iload 7, 2) := by decide +kernel
theorem dX5_nextChange_66 : decode cX5_nextChange 66 = .ok (.iconst 1, 1) := by decide +kernel
theorem dX5_nextChange_67 : decode cX5_nextChange 67 = .ok (.iadd, 1) := by decide +kernel
theorem dX5_nextChange_68 : decode cX5_nextChange 68 = .ok (.istore 5, 2) := by decide +kernel
theorem dX5_nextChange_70 : decode cX5_nextChange 70 = .ok (.iload 5, 2) := by decide +kernel
theorem dX5_nextChange_72 : decode cX5_nextChange 72 = .ok (.sipush 19999, 3) := by decide +kernel
theorem dX5_nextChange_75 : decode cX5_nextChange 75 = .ok (.if_icmp .gt 19, 3) := by decide +kernel
theorem dX5_nextChange_78 : decode cX5_nextChange 78 = .ok (.aload_n 0, 1) := by decide +kernel
theorem dX5_nextChange_79 : decode cX5_nextChange 79 = .ok (.aload_n 1, 1) := by decide +kernel
theorem dX5_nextChange_80 : decode cX5_nextChange 80 = .ok (.iload_n 2, 1) := by decide +kernel
theorem dX5_nextChange_81 : decode cX5_nextChange 81 = .ok (.iload 5, 2) := by decide +kernel
theorem dX5_nextChange_83 : decode cX5_nextChange 83 = .ok (.invokevirtual 194, 3) := by decide +kernel
theorem dX5_nextChange_86 : decode cX5_nextChange 86 = .ok (.iload 4, 2) := by decide +kernel
theorem dX5_nextChange_88 : decode cX5_nextChange 88 = .ok (.if_icmp .eq 6, 3) := by decide +kernel
theorem dX5_nextChange_91 : decode cX5_nextChange 91 = .ok (.iload 5, 2) := by decide +kernel
theorem dX5_nextChange_93 : decode cX5_nextChange 93 = .ok (.ireturn, 1) := by decide +kernel
theorem dX5_nextChange_94 : decode cX5_nextChange 94 = .ok (.iinc 6 1, 3) := by decide +kernel
theorem dX5_nextChange_97 : decode cX5_nextChange 97 = .ok (.goto (-82), 3) := by decide +kernel
theorem dX5_nextChange_100 : decode cX5_nextChange 100 = .ok (.sipush 20000, 3) := by decide +kernel
theorem dX5_nextChange_103 : decode cX5_nextChange 103 = .ok (.ireturn, 1) := by decide +kernel
theorem dX5_evenTill_0 : decode cX5_evenTill 0 = .ok (.aload_n 1, 1) := by decide +kernel
theorem dX5_evenTill_1 : decode cX5_evenTill 1 = .ok (.iload_n 2, 1) := by decide +kernel
theorem dX5_evenTill_2 : decode cX5_evenTill 2 = .ok (.invokevirtual 406, 3) := by decide +kernel
theorem dX5_evenTill_5 : decode cX5_evenTill 5 = .ok (.iconst 1, 1) := by decide +kernel
theorem dX5_evenTill_6 : decode cX5_evenTill 6 = .ok (.isub, 1) := by decide +kernel
theorem dX5_evenTill_7 : decode cX5_evenTill 7 = .ok (.istore_n 3, 1) := by decide +kernel
theorem dX5_evenTill_8 : decode cX5_evenTill 8 = .ok (.aload_n 0, 1) := by decide +kernel
theorem dX5_evenTill_9 : decode cX5_evenTill 9 = .ok (.aload_n 1, 1) := by decide +kernel
theorem dX5_evenTill_10 : decode cX5_evenTill 10 = .ok (.iload_n 2, 1) := by decide +kernel
theorem dX5_evenTill_11 : decode cX5_evenTill 11 = .ok (.invokevirtual 239, 3) := by decide +kernel
theorem dX5_evenTill_14 : decode cX5_evenTill 14 = .ok (.istore 4, 2) := by decide +kernel
theorem dX5_evenTill_16 : decode cX5_evenTill 16 = .ok (.aload_n 0, 1) := by decide +kernel
theorem dX5_evenTill_17 : decode cX5_evenTill 17 = .ok (.aload_n 1, 1) := by decide +kernel
theorem dX5_evenTill_18 : decode cX5_evenTill 18 = .ok (.iload_n 3, 1) := by decide +kernel
theorem dX5_evenTill_19 : decode cX5_evenTill 19 = .ok (.invokevirtual 239, 3) := by decide +kernel
theorem dX5_evenTill_22 : decode cX5_evenTill 22 = .ok (.iload 4, 2) := by decide +kernel
theorem dX5_evenTill_24 : decode cX5_evenTill 24 = .ok (.if_icmp .ne 5, 3) := by decide +kernel
theorem dX5_evenTill_27 : decode cX5_evenTill 27 = .ok (.iload_n 3, 1) := by decide +kernel
theorem dX5_evenTill_28 : decode cX5_evenTill 28 = .ok (.ireturn, 1) := by decide +kernel
theorem dX5_evenTill_29 : decode cX5_evenTill 29 = .ok (.iload_n 2, 1) := by decide +kernel
theorem dX5_evenTill_30 : decode cX5_evenTill 30 = .ok (.istore 5, 2) := by decide +kernel
theorem dX5_evenTill_32 : decode cX5_evenTill 32 = .ok (.iload_n 3, 1) := by decide +kernel
theorem dX5_evenTill_33 : decode cX5_evenTill 33 = .ok (.istore 6, 2) := by decide +kernel
theorem dX5_evenTill_35 : decode cX5_evenTill 35 = .ok (.iconst 0, 1) := by decide +kernel
theorem dX5_evenTill_36 : decode cX5_evenTill 36 = .ok (.istore 7, 2) := by decide +kernel
theorem dX5_evenTill_38 : decode cX5_evenTill 38 = .ok (.iload 7, 2) := by decide +kernel
theorem dX5_evenTill_40 : decode cX5_evenTill 40 = .ok (.bipush 16, 2) := by decide +kernel
theorem dX5_evenTill_42 : decode cX5_evenTill 42 = .ok (.if_icmp .ge 50, 3) := by decide +kernel
theorem dX5_evenTill_45 : decode cX5_evenTill 45 = .ok (.iload 6, 2) := by decide +kernel
theorem dX5_evenTill_47 : decode cX5_evenTill 47 = .ok (.iload 5, 2) := by decide +kernel
theorem dX5_evenTill_49 : decode cX5_evenTill 49 = .ok (.isub, 1) := by decide +kernel
theorem dX5_evenTill_50 : decode cX5_evenTill 50 = .ok (.iconst 1, 1) := by decide +kernel
theorem dX5_evenTill_51 : decode cX5_evenTill 51 = .ok (.if_icmp .le 41, 3) := by decide +kernel
theorem dX5_evenTill_54 : decode cX5_evenTill 54 = .ok (.iload 5, 2) := by decide +kernel
theorem dX5_evenTill_56 : decode cX5_evenTill 56 = .ok (.iload 6, 2) := by decide +kernel
theorem dX5_evenTill_58 : decode cX5_evenTill 58 = .ok (.iadd, 1) := by decide +kernel
theorem dX5_evenTill_59 : decode cX5_evenTill 59 = .ok (.iconst 2, 1) := by decide +kernel
theorem dX5_evenTill_60 : decode cX5_evenTill 60 = .ok (.idiv, 1) := by decide +kernel
theorem dX5_evenTill_61 : decode cX5_evenTill 61 = .ok (.istore 8, 2) := by decide +kernel
theorem dX5_evenTill_63 : decode cX5_evenTill 63 = .ok (.aload_n 0, 1) := by decide +kernel
theorem dX5_evenTill_64 : decode cX5_evenTill 64 = .ok (.aload_n 1, 1) := by decide +kernel
theorem dX5_evenTill_65 : decode cX5_evenTill 65 = .ok (.iload 8, 2) := by decide +kernel
theorem dX5_evenTill_67 : decode cX5_evenTill 67 = .ok (.invokevirtual 239, 3) := by decide +kernel
theorem dX5_evenTill_70 : decode cX5_evenTill 70 = .ok (.iload 4, 2) := by decide +kernel
theorem dX5_evenTill_72 : decode cX5_evenTill 72 = .ok (.if_icmp .ne 10, 3) := by decide +kernel
theorem dX5_evenTill_75 : decode cX5_evenTill 75 = .ok (.iload 8, 2) := by decide +kernel
theorem dX5_evenTill_77 : decode cX5_evenTill 77 = .ok (.istore 5, 2) := by decide +kernel
theorem dX5_evenTill_79 : decode cX5_evenTill 79 = .ok (.goto 7, 3) := by decide +kernel
theorem dX5_evenTill_82 : decode cX5_evenTill 82 = .ok (.iload 8, 2) := by decide +kernel
theorem dX5_evenTill_84 : decode cX5_evenTill 84 = .ok (.istore 6, 2) := by decide +kernel
theorem dX5_evenTill_86 : decode cX5_evenTill 86 = .ok (.iinc 7 1, 3) := by decide +kernel
theorem dX5_evenTill_89 : decode cX5_evenTill 89 = .ok (.goto (-51), 3) := by decide +kernel
theorem dX5_evenTill_92 : decode cX5_evenTill 92 = .ok (.iload 5, 2) := by decide +kernel
theorem dX5_evenTill_94 : decode cX5_evenTill 94 = .ok (.ireturn, 1) := by decide +kernel
theorem dX5_firstOther_0 : decode cX5_firstOther 0 = .ok (.aload_n 0, 1) := by decide +kernel
theorem dX5_firstOther_1 : decode cX5_firstOther 1 = .ok (.aload_n 1, 1) := by decide +kernel
theorem dX5_firstOther_2 : decode cX5_firstOther 2 = .ok (.iload_n 2, 1) := by decide +kernel
theorem dX5_firstOther_3 : decode cX5_firstOther 3 = .ok (.iload_n 3, 1) := by decide +kernel
theorem dX5_firstOther_4 : decode cX5_firstOther 4 = .ok (.invokevirtual 194, 3) := by decide +kernel
theorem dX5_firstOther_7 : decode cX5_firstOther 7 = .ok (.istore 5, 2) := by decide +kernel
theorem dX5_firstOther_9 : decode cX5_firstOther 9 = .ok (.iload_n 3, 1) := by decide +kernel
theorem dX5_firstOther_10 : decode cX5_firstOther 10 = .ok (.istore 6, 2) := by decide +kernel
theorem dX5_firstOther_12 : decode cX5_firstOther 12 = .ok (.iload 4, 2) := by decide +kernel
theorem dX5_firstOther_14 : decode cX5_firstOther 14 = .ok (.istore 7, 2) := by decide +kernel
theorem dX5_firstOther_16 : decode cX5_firstOther 16 = .ok (.iconst 0, 1) := by decide +kernel
theorem dX5_firstOther_17 : decode cX5_firstOther 17 = .ok (.istore 8, 2) := by decide +kernel
theorem dX5_firstOther_19 : decode cX5_firstOther 19 = .ok (.iload 8, 2) := by decide +kernel
theorem dX5_firstOther_21 : decode cX5_firstOther 21 = .ok (.bipush 16, 2) := by decide +kernel
theorem dX5_firstOther_23 : decode cX5_firstOther 23 = .ok (.if_icmp .ge 51, 3) := by decide +kernel
theorem dX5_firstOther_26 : decode cX5_firstOther 26 = .ok (.iload 7, 2) := by decide +kernel
theorem dX5_firstOther_28 : decode cX5_firstOther 28 = .ok (.iload 6, 2) := by decide +kernel
theorem dX5_firstOther_30 : decode cX5_firstOther 30 = .ok (.isub, 1) := by decide +kernel
theorem dX5_firstOther_31 : decode cX5_firstOther 31 = .ok (.iconst 1, 1) := by decide +kernel
theorem dX5_firstOther_32 : decode cX5_firstOther 32 = .ok (.if_icmp .le 42, 3) := by decide +kernel
theorem dX5_firstOther_35 : decode cX5_firstOther 35 = .ok (.iload 6, 2) := by decide +kernel
theorem dX5_firstOther_37 : decode cX5_firstOther 37 = .ok (.iload 7, 2) := by decide +kernel
theorem dX5_firstOther_39 : decode cX5_firstOther 39 = .ok (.iadd, 1) := by decide +kernel
theorem dX5_firstOther_40 : decode cX5_firstOther 40 = .ok (.iconst 2, 1) := by decide +kernel
theorem dX5_firstOther_41 : decode cX5_firstOther 41 = .ok (.idiv, 1) := by decide +kernel
theorem dX5_firstOther_42 : decode cX5_firstOther 42 = .ok (.istore 9, 2) := by decide +kernel
theorem dX5_firstOther_44 : decode cX5_firstOther 44 = .ok (.aload_n 0, 1) := by decide +kernel
theorem dX5_firstOther_45 : decode cX5_firstOther 45 = .ok (.aload_n 1, 1) := by decide +kernel
theorem dX5_firstOther_46 : decode cX5_firstOther 46 = .ok (.iload_n 2, 1) := by decide +kernel
theorem dX5_firstOther_47 : decode cX5_firstOther 47 = .ok (.iload 9, 2) := by decide +kernel
theorem dX5_firstOther_49 : decode cX5_firstOther 49 = .ok (.invokevirtual 194, 3) := by decide +kernel
theorem dX5_firstOther_52 : decode cX5_firstOther 52 = .ok (.iload 5, 2) := by decide +kernel
theorem dX5_firstOther_54 : decode cX5_firstOther 54 = .ok (.if_icmp .ne 10, 3) := by decide +kernel
theorem dX5_firstOther_57 : decode cX5_firstOther 57 = .ok (.iload 9, 2) := by decide +kernel
theorem dX5_firstOther_59 : decode cX5_firstOther 59 = .ok (.istore 6, 2) := by decide +kernel
theorem dX5_firstOther_61 : decode cX5_firstOther 61 = .ok (.goto 7, 3) := by decide +kernel
theorem dX5_firstOther_64 : decode cX5_firstOther 64 = .ok (.iload 9, 2) := by decide +kernel
theorem dX5_firstOther_66 : decode cX5_firstOther 66 = .ok (.istore 7, 2) := by decide +kernel
theorem dX5_firstOther_68 : decode cX5_firstOther 68 = .ok (.iinc 8 1, 3) := by decide +kernel
theorem dX5_firstOther_71 : decode cX5_firstOther 71 = .ok (.goto (-52), 3) := by decide +kernel
theorem dX5_firstOther_74 : decode cX5_firstOther 74 = .ok (.iload 7, 2) := by decide +kernel
theorem dX5_firstOther_76 : decode cX5_firstOther 76 = .ok (.ireturn, 1) := by decide +kernel
theorem dX5_firstBroken_0 : decode cX5_firstBroken 0 = .ok (.iconst 0, 1) := by decide +kernel
theorem dX5_firstBroken_1 : decode cX5_firstBroken 1 = .ok (.istore 5, 2) := by decide +kernel
theorem dX5_firstBroken_3 : decode cX5_firstBroken 3 = .ok (.iload 5, 2) := by decide +kernel
theorem dX5_firstBroken_5 : decode cX5_firstBroken 5 = .ok (.aload_n 3, 1) := by decide +kernel
theorem dX5_firstBroken_6 : decode cX5_firstBroken 6 = .ok (.getfield 220, 3) := by decide +kernel
theorem dX5_firstBroken_9 : decode cX5_firstBroken 9 = .ok (.if_icmp .ge 65, 3) := by decide +kernel
theorem dX5_firstBroken_12 : decode cX5_firstBroken 12 = .ok (.aload_n 3, 1) := by decide +kernel
theorem dX5_firstBroken_13 : decode cX5_firstBroken 13 = .ok (.getfield 226, 3) := by decide +kernel
theorem dX5_firstBroken_16 : decode cX5_firstBroken 16 = .ok (.iload 5, 2) := by decide +kernel
theorem dX5_firstBroken_18 : decode cX5_firstBroken 18 = .ok (.iaload, 1) := by decide +kernel
theorem dX5_firstBroken_19 : decode cX5_firstBroken 19 = .ok (.istore 6, 2) := by decide +kernel
theorem dX5_firstBroken_21 : decode cX5_firstBroken 21 = .ok (.aload_n 0, 1) := by decide +kernel
theorem dX5_firstBroken_22 : decode cX5_firstBroken 22 = .ok (.getfield 12, 3) := by decide +kernel
theorem dX5_firstBroken_25 : decode cX5_firstBroken 25 = .ok (.aload_n 1, 1) := by decide +kernel
theorem dX5_firstBroken_26 : decode cX5_firstBroken 26 = .ok (.iload_n 2, 1) := by decide +kernel
theorem dX5_firstBroken_27 : decode cX5_firstBroken 27 = .ok (.iload 6, 2) := by decide +kernel
theorem dX5_firstBroken_29 : decode cX5_firstBroken 29 = .ok (.aload_n 0, 1) := by decide +kernel
theorem dX5_firstBroken_30 : decode cX5_firstBroken 30 = .ok (.getfield 32, 3) := by decide +kernel
theorem dX5_firstBroken_33 : decode cX5_firstBroken 33 = .ok (.invokevirtual 165, 3) := by decide +kernel
theorem dX5_firstBroken_36 : decode cX5_firstBroken 36 = .ok (.aload_n 0, 1) := by decide +kernel
theorem dX5_firstBroken_37 : decode cX5_firstBroken 37 = .ok (.getfield 32, 3) := by decide +kernel
theorem dX5_firstBroken_40 : decode cX5_firstBroken 40 = .ok (.invokevirtual 187, 3) := by decide +kernel
theorem dX5_firstBroken_43 : decode cX5_firstBroken 43 = .ok (.ifCond .eq 25, 3) := by decide +kernel
theorem dX5_firstBroken_46 : decode cX5_firstBroken 46 = .ok (.aload_n 0, 1) := by decide +kernel
theorem dX5_firstBroken_47 : decode cX5_firstBroken 47 = .ok (.getfield 32, 3) := by decide +kernel
theorem dX5_firstBroken_50 : decode cX5_firstBroken 50 = .ok (.iload 6, 2) := by decide +kernel
theorem dX5_firstBroken_52 : decode cX5_firstBroken 52 = .ok (.invokevirtual 389, 3) := by decide +kernel
theorem dX5_firstBroken_55 : decode cX5_firstBroken 55 = .ok (.bipush 7, 2) := by decide +kernel
theorem dX5_firstBroken_57 : decode cX5_firstBroken 57 = .ok (.invokestatic 106, 3) := by decide +kernel
theorem dX5_firstBroken_60 : decode cX5_firstBroken 60 = .ok (.iload 4, 2) := by decide +kernel
theorem dX5_firstBroken_62 : decode cX5_firstBroken 62 = .ok (.if_icmp .ne 6, 3) := by decide +kernel
theorem dX5_firstBroken_65 : decode cX5_firstBroken 65 = .ok (.iload 5, 2) := by decide +kernel
theorem dX5_firstBroken_67 : decode cX5_firstBroken 67 = .ok (.ireturn, 1) := by decide +kernel
theorem dX5_firstBroken_68 : decode cX5_firstBroken 68 = .ok (.iinc 5 1, 3) := by decide +kernel
theorem dX5_firstBroken_71 : decode cX5_firstBroken 71 = .ok (.goto (-68), 3) := by decide +kernel
theorem dX5_firstBroken_74 : decode cX5_firstBroken 74 = .ok (.bipush (-4), 2) := by decide +kernel
theorem dX5_firstBroken_76 : decode cX5_firstBroken 76 = .ok (.ireturn, 1) := by decide +kernel
theorem dX5_leastPlan_0 : decode cX5_leastPlan 0 = .ok (.iconst 0, 1) := by decide +kernel
theorem dX5_leastPlan_1 : decode cX5_leastPlan 1 = .ok (.istore 4, 2) := by decide +kernel
theorem dX5_leastPlan_3 : decode cX5_leastPlan 3 = .ok (.iconst 0, 1) := by decide +kernel
theorem dX5_leastPlan_4 : decode cX5_leastPlan 4 = .ok (.istore 5, 2) := by decide +kernel
theorem dX5_leastPlan_6 : decode cX5_leastPlan 6 = .ok (.iload 5, 2) := by decide +kernel
theorem dX5_leastPlan_8 : decode cX5_leastPlan 8 = .ok (.bipush 6, 2) := by decide +kernel
theorem dX5_leastPlan_10 : decode cX5_leastPlan 10 = .ok (.if_icmp .gt 53, 3) := by decide +kernel
theorem dX5_leastPlan_13 : decode cX5_leastPlan 13 = .ok (.aload_n 0, 1) := by decide +kernel
theorem dX5_leastPlan_14 : decode cX5_leastPlan 14 = .ok (.aload_n 1, 1) := by decide +kernel
theorem dX5_leastPlan_15 : decode cX5_leastPlan 15 = .ok (.iload 4, 2) := by decide +kernel
theorem dX5_leastPlan_17 : decode cX5_leastPlan 17 = .ok (.aload_n 2, 1) := by decide +kernel
theorem dX5_leastPlan_18 : decode cX5_leastPlan 18 = .ok (.iload_n 3, 1) := by decide +kernel
theorem dX5_leastPlan_19 : decode cX5_leastPlan 19 = .ok (.invokevirtual 235, 3) := by decide +kernel
theorem dX5_leastPlan_22 : decode cX5_leastPlan 22 = .ok (.ifCond .ge 6, 3) := by decide +kernel
theorem dX5_leastPlan_25 : decode cX5_leastPlan 25 = .ok (.iload 4, 2) := by decide +kernel
theorem dX5_leastPlan_27 : decode cX5_leastPlan 27 = .ok (.ireturn, 1) := by decide +kernel
theorem dX5_leastPlan_28 : decode cX5_leastPlan 28 = .ok (.iconst 1, 1) := by decide +kernel
theorem dX5_leastPlan_29 : decode cX5_leastPlan 29 = .ok (.aload_n 0, 1) := by decide +kernel
theorem dX5_leastPlan_30 : decode cX5_leastPlan 30 = .ok (.getfield 32, 3) := by decide +kernel
theorem dX5_leastPlan_33 : decode cX5_leastPlan 33 = .ok (.getfield 409, 3) := by decide +kernel
theorem dX5_leastPlan_36 : decode cX5_leastPlan 36 = .ok (.ishl, 1) := by decide +kernel
theorem dX5_leastPlan_37 : decode cX5_leastPlan 37 = .ok (.istore 6, 2) := by decide +kernel
theorem dX5_leastPlan_39 : decode cX5_leastPlan 39 = .ok (.iload 4, 2) := by decide +kernel
theorem dX5_leastPlan_41 : decode cX5_leastPlan 41 = .ok (.iload 6, 2) := by decide +kernel
theorem dX5_leastPlan_43 : decode cX5_leastPlan 43 = .ok (.iand, 1) := by decide +kernel
theorem dX5_leastPlan_44 : decode cX5_leastPlan 44 = .ok (.ifCond .eq 6, 3) := by decide +kernel
theorem dX5_leastPlan_47 : decode cX5_leastPlan 47 = .ok (.bipush (-4), 2) := by decide +kernel
theorem dX5_leastPlan_49 : decode cX5_leastPlan 49 = .ok (.ireturn, 1) := by decide +kernel
theorem dX5_leastPlan_50 : decode cX5_leastPlan 50 = .ok (.iload 4, 2) := by decide +kernel
theorem dX5_leastPlan_52 : decode cX5_leastPlan 52 = .ok (.iload 6, 2) := by decide +kernel
theorem dX5_leastPlan_54 : decode cX5_leastPlan 54 = .ok (.ior, 1) := by decide +kernel
theorem dX5_leastPlan_55 : decode cX5_leastPlan 55 = .ok (.istore 4, 2) := by decide +kernel
theorem dX5_leastPlan_57 : decode cX5_leastPlan 57 = .ok (.iinc 5 1, 3) := by decide +kernel
theorem dX5_leastPlan_60 : decode cX5_leastPlan 60 = .ok (.goto (-54), 3) := by decide +kernel
theorem dX5_leastPlan_63 : decode cX5_leastPlan 63 = .ok (.bipush (-4), 2) := by decide +kernel
theorem dX5_leastPlan_65 : decode cX5_leastPlan 65 = .ok (.ireturn, 1) := by decide +kernel
theorem dJ9_floorDiv_7cf53_0 : decode cJ9_floorDiv_7cf53 0 = .ok (.iload_n 0, 1) := by decide +kernel
theorem dJ9_floorDiv_7cf53_1 : decode cJ9_floorDiv_7cf53 1 = .ok (.iload_n 1, 1) := by decide +kernel
theorem dJ9_floorDiv_7cf53_2 : decode cJ9_floorDiv_7cf53 2 = .ok (.idiv, 1) := by decide +kernel
theorem dJ9_floorDiv_7cf53_3 : decode cJ9_floorDiv_7cf53 3 = .ok (.istore_n 2, 1) := by decide +kernel
theorem dJ9_floorDiv_7cf53_4 : decode cJ9_floorDiv_7cf53 4 = .ok (.iload_n 0, 1) := by decide +kernel
theorem dJ9_floorDiv_7cf53_5 : decode cJ9_floorDiv_7cf53 5 = .ok (.iload_n 1, 1) := by decide +kernel
theorem dJ9_floorDiv_7cf53_6 : decode cJ9_floorDiv_7cf53 6 = .ok (.ixor, 1) := by decide +kernel
theorem dJ9_floorDiv_7cf53_7 : decode cJ9_floorDiv_7cf53 7 = .ok (.ifCond .ge 14, 3) := by decide +kernel
theorem dJ9_floorDiv_7cf53_10 : decode cJ9_floorDiv_7cf53 10 = .ok (.iload_n 2, 1) := by decide +kernel
theorem dJ9_floorDiv_7cf53_11 : decode cJ9_floorDiv_7cf53 11 = .ok (.iload_n 1, 1) := by decide +kernel
theorem dJ9_floorDiv_7cf53_12 : decode cJ9_floorDiv_7cf53 12 = .ok (.imul, 1) := by decide +kernel
theorem dJ9_floorDiv_7cf53_13 : decode cJ9_floorDiv_7cf53 13 = .ok (.iload_n 0, 1) := by decide +kernel
theorem dJ9_floorDiv_7cf53_14 : decode cJ9_floorDiv_7cf53 14 = .ok (.if_icmp .eq 7, 3) := by decide +kernel
theorem dJ9_floorDiv_7cf53_17 : decode cJ9_floorDiv_7cf53 17 = .ok (.iload_n 2, 1) := by decide +kernel
theorem dJ9_floorDiv_7cf53_18 : decode cJ9_floorDiv_7cf53 18 = .ok (.iconst 1, 1) := by decide +kernel
theorem dJ9_floorDiv_7cf53_19 : decode cJ9_floorDiv_7cf53 19 = .ok (.isub, 1) := by decide +kernel
theorem dJ9_floorDiv_7cf53_20 : decode cJ9_floorDiv_7cf53 20 = .ok (.ireturn, 1) := by decide +kernel
theorem dJ9_floorDiv_7cf53_21 : decode cJ9_floorDiv_7cf53 21 = .ok (.iload_n 2, 1) := by decide +kernel
theorem dJ9_floorDiv_7cf53_22 : decode cJ9_floorDiv_7cf53 22 = .ok (.ireturn, 1) := by decide +kernel
theorem dJ9_floorDiv_f86c9_0 : decode cJ9_floorDiv_f86c9 0 = .ok (.lload_n 0, 1) := by decide +kernel
theorem dJ9_floorDiv_f86c9_1 : decode cJ9_floorDiv_f86c9 1 = .ok (.lload_n 2, 1) := by decide +kernel
theorem dJ9_floorDiv_f86c9_2 : decode cJ9_floorDiv_f86c9 2 = .ok (.ldiv, 1) := by decide +kernel
theorem dJ9_floorDiv_f86c9_3 : decode cJ9_floorDiv_f86c9 3 = .ok (.lstore 4, 2) := by decide +kernel
theorem dJ9_floorDiv_f86c9_5 : decode cJ9_floorDiv_f86c9 5 = .ok (.lload_n 0, 1) := by decide +kernel
theorem dJ9_floorDiv_f86c9_6 : decode cJ9_floorDiv_f86c9 6 = .ok (.lload_n 2, 1) := by decide +kernel
theorem dJ9_floorDiv_f86c9_7 : decode cJ9_floorDiv_f86c9 7 = .ok (.lxor, 1) := by decide +kernel
theorem dJ9_floorDiv_f86c9_8 : decode cJ9_floorDiv_f86c9 8 = .ok (.lconst 0, 1) := by decide +kernel
theorem dJ9_floorDiv_f86c9_9 : decode cJ9_floorDiv_f86c9 9 = .ok (.lcmp, 1) := by decide +kernel
theorem dJ9_floorDiv_f86c9_10 : decode cJ9_floorDiv_f86c9 10 = .ok (.ifCond .ge 17, 3) := by decide +kernel
theorem dJ9_floorDiv_f86c9_13 : decode cJ9_floorDiv_f86c9 13 = .ok (.lload 4, 2) := by decide +kernel
theorem dJ9_floorDiv_f86c9_15 : decode cJ9_floorDiv_f86c9 15 = .ok (.lload_n 2, 1) := by decide +kernel
theorem dJ9_floorDiv_f86c9_16 : decode cJ9_floorDiv_f86c9 16 = .ok (.lmul, 1) := by decide +kernel
theorem dJ9_floorDiv_f86c9_17 : decode cJ9_floorDiv_f86c9 17 = .ok (.lload_n 0, 1) := by decide +kernel
theorem dJ9_floorDiv_f86c9_18 : decode cJ9_floorDiv_f86c9 18 = .ok (.lcmp, 1) := by decide +kernel
theorem dJ9_floorDiv_f86c9_19 : decode cJ9_floorDiv_f86c9 19 = .ok (.ifCond .eq 8, 3) := by decide +kernel
theorem dJ9_floorDiv_f86c9_22 : decode cJ9_floorDiv_f86c9 22 = .ok (.lload 4, 2) := by decide +kernel
theorem dJ9_floorDiv_f86c9_24 : decode cJ9_floorDiv_f86c9 24 = .ok (.lconst 1, 1) := by decide +kernel
theorem dJ9_floorDiv_f86c9_25 : decode cJ9_floorDiv_f86c9 25 = .ok (.lsub, 1) := by decide +kernel
theorem dJ9_floorDiv_f86c9_26 : decode cJ9_floorDiv_f86c9 26 = .ok (.lreturn, 1) := by decide +kernel
theorem dJ9_floorDiv_f86c9_27 : decode cJ9_floorDiv_f86c9 27 = .ok (.lload 4, 2) := by decide +kernel
theorem dJ9_floorDiv_f86c9_29 : decode cJ9_floorDiv_f86c9 29 = .ok (.lreturn, 1) := by decide +kernel
theorem dJ9_floorMod_7cf53_0 : decode cJ9_floorMod_7cf53 0 = .ok (.iload_n 0, 1) := by decide +kernel
theorem dJ9_floorMod_7cf53_1 : decode cJ9_floorMod_7cf53 1 = .ok (.iload_n 1, 1) := by decide +kernel
theorem dJ9_floorMod_7cf53_2 : decode cJ9_floorMod_7cf53 2 = .ok (.irem, 1) := by decide +kernel
theorem dJ9_floorMod_7cf53_3 : decode cJ9_floorMod_7cf53 3 = .ok (.istore_n 2, 1) := by decide +kernel
theorem dJ9_floorMod_7cf53_4 : decode cJ9_floorMod_7cf53 4 = .ok (.iload_n 0, 1) := by decide +kernel
theorem dJ9_floorMod_7cf53_5 : decode cJ9_floorMod_7cf53 5 = .ok (.iload_n 1, 1) := by decide +kernel
theorem dJ9_floorMod_7cf53_6 : decode cJ9_floorMod_7cf53 6 = .ok (.ixor, 1) := by decide +kernel
theorem dJ9_floorMod_7cf53_7 : decode cJ9_floorMod_7cf53 7 = .ok (.ifCond .ge 11, 3) := by decide +kernel
theorem dJ9_floorMod_7cf53_10 : decode cJ9_floorMod_7cf53 10 = .ok (.iload_n 2, 1) := by decide +kernel
theorem dJ9_floorMod_7cf53_11 : decode cJ9_floorMod_7cf53 11 = .ok (.ifCond .eq 7, 3) := by decide +kernel
theorem dJ9_floorMod_7cf53_14 : decode cJ9_floorMod_7cf53 14 = .ok (.iload_n 2, 1) := by decide +kernel
theorem dJ9_floorMod_7cf53_15 : decode cJ9_floorMod_7cf53 15 = .ok (.iload_n 1, 1) := by decide +kernel
theorem dJ9_floorMod_7cf53_16 : decode cJ9_floorMod_7cf53 16 = .ok (.iadd, 1) := by decide +kernel
theorem dJ9_floorMod_7cf53_17 : decode cJ9_floorMod_7cf53 17 = .ok (.ireturn, 1) := by decide +kernel
theorem dJ9_floorMod_7cf53_18 : decode cJ9_floorMod_7cf53 18 = .ok (.iload_n 2, 1) := by decide +kernel
theorem dJ9_floorMod_7cf53_19 : decode cJ9_floorMod_7cf53 19 = .ok (.ireturn, 1) := by decide +kernel
theorem dJ9_floorMod_f86c9_0 : decode cJ9_floorMod_f86c9 0 = .ok (.lload_n 0, 1) := by decide +kernel
theorem dJ9_floorMod_f86c9_1 : decode cJ9_floorMod_f86c9 1 = .ok (.lload_n 2, 1) := by decide +kernel
theorem dJ9_floorMod_f86c9_2 : decode cJ9_floorMod_f86c9 2 = .ok (.lrem, 1) := by decide +kernel
theorem dJ9_floorMod_f86c9_3 : decode cJ9_floorMod_f86c9 3 = .ok (.lstore 4, 2) := by decide +kernel
theorem dJ9_floorMod_f86c9_5 : decode cJ9_floorMod_f86c9 5 = .ok (.lload_n 0, 1) := by decide +kernel
theorem dJ9_floorMod_f86c9_6 : decode cJ9_floorMod_f86c9 6 = .ok (.lload_n 2, 1) := by decide +kernel
theorem dJ9_floorMod_f86c9_7 : decode cJ9_floorMod_f86c9 7 = .ok (.lxor, 1) := by decide +kernel
theorem dJ9_floorMod_f86c9_8 : decode cJ9_floorMod_f86c9 8 = .ok (.lconst 0, 1) := by decide +kernel
theorem dJ9_floorMod_f86c9_9 : decode cJ9_floorMod_f86c9 9 = .ok (.lcmp, 1) := by decide +kernel
theorem dJ9_floorMod_f86c9_10 : decode cJ9_floorMod_f86c9 10 = .ok (.ifCond .ge 15, 3) := by decide +kernel
theorem dJ9_floorMod_f86c9_13 : decode cJ9_floorMod_f86c9 13 = .ok (.lload 4, 2) := by decide +kernel
theorem dJ9_floorMod_f86c9_15 : decode cJ9_floorMod_f86c9 15 = .ok (.lconst 0, 1) := by decide +kernel
theorem dJ9_floorMod_f86c9_16 : decode cJ9_floorMod_f86c9 16 = .ok (.lcmp, 1) := by decide +kernel
theorem dJ9_floorMod_f86c9_17 : decode cJ9_floorMod_f86c9 17 = .ok (.ifCond .eq 8, 3) := by decide +kernel
theorem dJ9_floorMod_f86c9_20 : decode cJ9_floorMod_f86c9 20 = .ok (.lload 4, 2) := by decide +kernel
theorem dJ9_floorMod_f86c9_22 : decode cJ9_floorMod_f86c9 22 = .ok (.lload_n 2, 1) := by decide +kernel
theorem dJ9_floorMod_f86c9_23 : decode cJ9_floorMod_f86c9 23 = .ok (.ladd, 1) := by decide +kernel
theorem dJ9_floorMod_f86c9_24 : decode cJ9_floorMod_f86c9 24 = .ok (.lreturn, 1) := by decide +kernel
theorem dJ9_floorMod_f86c9_25 : decode cJ9_floorMod_f86c9 25 = .ok (.lload 4, 2) := by decide +kernel
theorem dJ9_floorMod_f86c9_27 : decode cJ9_floorMod_f86c9 27 = .ok (.lreturn, 1) := by decide +kernel
theorem dJ9_min_7cf53_0 : decode cJ9_min_7cf53 0 = .ok (.iload_n 0, 1) := by decide +kernel
theorem dJ9_min_7cf53_1 : decode cJ9_min_7cf53 1 = .ok (.iload_n 1, 1) := by decide +kernel
theorem dJ9_min_7cf53_2 : decode cJ9_min_7cf53 2 = .ok (.if_icmp .gt 7, 3) := by decide +kernel
theorem dJ9_min_7cf53_5 : decode cJ9_min_7cf53 5 = .ok (.iload_n 0, 1) := by decide +kernel
theorem dJ9_min_7cf53_6 : decode cJ9_min_7cf53 6 = .ok (.goto 4, 3) := by decide +kernel
theorem dJ9_min_7cf53_9 : decode cJ9_min_7cf53 9 = .ok (.iload_n 1, 1) := by decide +kernel
theorem dJ9_min_7cf53_10 : decode cJ9_min_7cf53 10 = .ok (.ireturn, 1) := by decide +kernel
end
section
theorem dX6_init_0 : decode cX6_init 0 = .ok (.aload_n 0, 1) := by decide +kernel
theorem dX6_init_1 : decode cX6_init 1 = .ok (.invokespecial 1, 3) := by decide +kernel
theorem dX6_init_4 : decode cX6_init 4 = .ok (.aload_n 0, 1) := by decide +kernel
theorem dX6_init_5 : decode cX6_init 5 = .ok (.sipush 503, 3) := by decide +kernel
theorem dX6_init_8 : decode cX6_init 8 = .ok (.newarray .int, 2) := by decide +kernel
theorem dX6_init_10 : decode cX6_init 10 = .ok (.putfield 9, 3) := by decide +kernel
theorem dX6_init_13 : decode cX6_init 13 = .ok (.aload_n 0, 1) := by decide +kernel
theorem dX6_init_14 : decode cX6_init 14 = .ok (.sipush 503, 3) := by decide +kernel
theorem dX6_init_17 : decode cX6_init 17 = .ok (.newarray .int, 2) := by decide +kernel
theorem dX6_init_19 : decode cX6_init 19 = .ok (.putfield 13, 3) := by decide +kernel
theorem dX6_init_22 : decode cX6_init 22 = .ok (.aload_n 0, 1) := by decide +kernel
theorem dX6_init_23 : decode cX6_init 23 = .ok (.bipush 8, 2) := by decide +kernel
theorem dX6_init_25 : decode cX6_init 25 = .ok (.newarray .int, 2) := by decide +kernel
theorem dX6_init_27 : decode cX6_init 27 = .ok (.putfield 16, 3) := by decide +kernel
theorem dX6_init_30 : decode cX6_init 30 = .ok (.aload_n 0, 1) := by decide +kernel
theorem dX6_init_31 : decode cX6_init 31 = .ok (.bipush 8, 2) := by decide +kernel
theorem dX6_init_33 : decode cX6_init 33 = .ok (.newarray .int, 2) := by decide +kernel
theorem dX6_init_35 : decode cX6_init 35 = .ok (.putfield 19, 3) := by decide +kernel
theorem dX6_init_38 : decode cX6_init 38 = .ok (.aload_n 0, 1) := by decide +kernel
theorem dX6_init_39 : decode cX6_init 39 = .ok (.bipush 8, 2) := by decide +kernel
theorem dX6_init_41 : decode cX6_init 41 = .ok (.newarray .int, 2) := by decide +kernel
theorem dX6_init_43 : decode cX6_init 43 = .ok (.putfield 22, 3) := by decide +kernel
theorem dX6_init_46 : decode cX6_init 46 = .ok (.aload_n 0, 1) := by decide +kernel
theorem dX6_init_47 : decode cX6_init 47 = .ok (.sipush 800, 3) := by decide +kernel
theorem dX6_init_50 : decode cX6_init 50 = .ok (.newarray .int, 2) := by decide +kernel
theorem dX6_init_52 : decode cX6_init 52 = .ok (.putfield 25, 3) := by decide +kernel
theorem dX6_init_55 : decode cX6_init 55 = .ok (.aload_n 0, 1) := by decide +kernel
theorem dX6_init_56 : decode cX6_init 56 = .ok (.bipush 8, 2) := by decide +kernel
theorem dX6_init_58 : decode cX6_init 58 = .ok (.newarray .int, 2) := by decide +kernel
theorem dX6_init_60 : decode cX6_init 60 = .ok (.putfield 28, 3) := by decide +kernel
theorem dX6_init_63 : decode cX6_init 63 = .ok (.aload_n 0, 1) := by decide +kernel
theorem dX6_init_64 : decode cX6_init 64 = .ok (.sipush 360, 3) := by decide +kernel
theorem dX6_init_67 : decode cX6_init 67 = .ok (.newarray .int, 2) := by decide +kernel
theorem dX6_init_69 : decode cX6_init 69 = .ok (.putfield 31, 3) := by decide +kernel
theorem dX6_init_72 : decode cX6_init 72 = .ok (.aload_n 0, 1) := by decide +kernel
theorem dX6_init_73 : decode cX6_init 73 = .ok (.bipush 8, 2) := by decide +kernel
theorem dX6_init_75 : decode cX6_init 75 = .ok (.newarray .boolean, 2) := by decide +kernel
theorem dX6_init_77 : decode cX6_init 77 = .ok (.putfield 34, 3) := by decide +kernel
theorem dX6_init_80 : decode cX6_init 80 = .ok (.aload_n 0, 1) := by decide +kernel
theorem dX6_init_81 : decode cX6_init 81 = .ok (.iconst 3, 1) := by decide +kernel
theorem dX6_init_82 : decode cX6_init 82 = .ok (.newarray .int, 2) := by decide +kernel
theorem dX6_init_84 : decode cX6_init 84 = .ok (.putfield 38, 3) := by decide +kernel
theorem dX6_init_87 : decode cX6_init 87 = .ok (.aload_n 0, 1) := by decide +kernel
theorem dX6_init_88 : decode cX6_init 88 = .ok (.sipush 503, 3) := by decide +kernel
theorem dX6_init_91 : decode cX6_init 91 = .ok (.newarray .int, 2) := by decide +kernel
theorem dX6_init_93 : decode cX6_init 93 = .ok (.putfield 41, 3) := by decide +kernel
theorem dX6_init_96 : decode cX6_init 96 = .ok (.aload_n 0, 1) := by decide +kernel
theorem dX6_init_97 : decode cX6_init 97 = .ok (.getfield 9, 3) := by decide +kernel
theorem dX6_init_100 : decode cX6_init 100 = .ok (.iconst 2, 1) := by decide +kernel
theorem dX6_init_101 : decode cX6_init 101 = .ok (.sipush 180, 3) := by decide +kernel
theorem dX6_init_104 : decode cX6_init 104 = .ok (.iastore, 1) := by decide +kernel
theorem dX6_init_105 : decode cX6_init 105 = .ok (.return_, 1) := by decide +kernel
theorem dX6_thrown_0 : decode cX6_thrown 0 = .ok (.aload_n 0, 1) := by decide +kernel
theorem dX6_thrown_1 : decode cX6_thrown 1 = .ok (.getfield 44, 3) := by decide +kernel
theorem dX6_thrown_4 : decode cX6_thrown 4 = .ok (.ireturn, 1) := by decide +kernel
theorem dX6_isIn_0 : decode cX6_isIn 0 = .ok (.lload_n 0, 1) := by decide +kernel
theorem dX6_isIn_1 : decode cX6_isIn 1 = .ok (.lload_n 2, 1) := by decide +kernel
theorem dX6_isIn_2 : decode cX6_isIn 2 = .ok (.lcmp, 1) := by decide +kernel
theorem dX6_isIn_3 : decode cX6_isIn 3 = .ok (.ifCond .lt 14, 3) := by decide +kernel
theorem dX6_isIn_6 : decode cX6_isIn 6 = .ok (.lload_n 0, 1) := by decide +kernel
theorem dX6_isIn_7 : decode cX6_isIn 7 = .ok (.lload 4, 2) := by decide +kernel
theorem dX6_isIn_9 : decode cX6_isIn 9 = .ok (.lcmp, 1) := by decide +kernel
theorem dX6_isIn_10 : decode cX6_isIn 10 = .ok (.ifCond .gt 7, 3) := by decide +kernel
theorem dX6_isIn_13 : decode cX6_isIn 13 = .ok (.iconst 1, 1) := by decide +kernel
theorem dX6_isIn_14 : decode cX6_isIn 14 = .ok (.goto 4, 3) := by decide +kernel
theorem dX6_isIn_17 : decode cX6_isIn 17 = .ok (.iconst 0, 1) := by decide +kernel
theorem dX6_isIn_18 : decode cX6_isIn 18 = .ok (.ireturn, 1) := by decide +kernel
theorem dX6_isPlace_0 : decode cX6_isPlace 0 = .ok (.iload_n 1, 1) := by decide +kernel
theorem dX6_isPlace_1 : decode cX6_isPlace 1 = .ok (.i2l, 1) := by decide +kernel
theorem dX6_isPlace_2 : decode cX6_isPlace 2 = .ok (.lconst 0, 1) := by decide +kernel
theorem dX6_isPlace_3 : decode cX6_isPlace 3 = .ok (.aload_n 0, 1) := by decide +kernel
theorem dX6_isPlace_4 : decode cX6_isPlace 4 = .ok (.getfield 9, 3) := by decide +kernel
theorem dX6_isPlace_7 : decode cX6_isPlace 7 = .ok (.iconst 0, 1) := by decide +kernel
theorem dX6_isPlace_8 : decode cX6_isPlace 8 = .ok (.iaload, 1) := by decide +kernel
theorem dX6_isPlace_9 : decode cX6_isPlace 9 = .ok (.iconst 1, 1) := by decide +kernel
theorem dX6_isPlace_10 : decode cX6_isPlace 10 = .ok (.isub, 1) := by decide +kernel
theorem dX6_isPlace_11 : decode cX6_isPlace 11 = .ok (.i2l, 1) := by decide +kernel
theorem dX6_isPlace_12 : decode cX6_isPlace 12 = .ok (.invokestatic 48, 3) := by decide +kernel
theorem dX6_isPlace_15 : decode cX6_isPlace 15 = .ok (.ireturn, 1) := by decide +kernel
theorem dX6_isOne_0 : decode cX6_isOne 0 = .ok (.iload_n 1, 1) := by decide +kernel
theorem dX6_isOne_1 : decode cX6_isOne 1 = .ok (.i2l, 1) := by decide +kernel
theorem dX6_isOne_2 : decode cX6_isOne 2 = .ok (.lconst 0, 1) := by decide +kernel
theorem dX6_isOne_3 : decode cX6_isOne 3 = .ok (.aload_n 0, 1) := by decide +kernel
theorem dX6_isOne_4 : decode cX6_isOne 4 = .ok (.getfield 9, 3) := by decide +kernel
theorem dX6_isOne_7 : decode cX6_isOne 7 = .ok (.iconst 1, 1) := by decide +kernel
theorem dX6_isOne_8 : decode cX6_isOne 8 = .ok (.iaload, 1) := by decide +kernel
theorem dX6_isOne_9 : decode cX6_isOne 9 = .ok (.iconst 1, 1) := by decide +kernel
theorem dX6_isOne_10 : decode cX6_isOne 10 = .ok (.isub, 1) := by decide +kernel
theorem dX6_isOne_11 : decode cX6_isOne 11 = .ok (.i2l, 1) := by decide +kernel
theorem dX6_isOne_12 : decode cX6_isOne 12 = .ok (.invokestatic 48, 3) := by decide +kernel
theorem dX6_isOne_15 : decode cX6_isOne 15 = .ok (.ireturn, 1) := by decide +kernel
theorem dX6_isMinute_0 : decode cX6_isMinute 0 = .ok (.lload_n 0, 1) := by decide +kernel
theorem dX6_isMinute_1 : decode cX6_isMinute 1 = .ok (.lconst 0, 1) := by decide +kernel
theorem dX6_isMinute_2 : decode cX6_isMinute 2 = .ok (.ldc2_w 52, 3) := by decide +kernel
theorem dX6_isMinute_5 : decode cX6_isMinute 5 = .ok (.invokestatic 48, 3) := by decide +kernel
theorem dX6_isMinute_8 : decode cX6_isMinute 8 = .ok (.ireturn, 1) := by decide +kernel
theorem dX6_isShelf_0 : decode cX6_isShelf 0 = .ok (.iload_n 0, 1) := by decide +kernel
theorem dX6_isShelf_1 : decode cX6_isShelf 1 = .ok (.i2l, 1) := by decide +kernel
theorem dX6_isShelf_2 : decode cX6_isShelf 2 = .ok (.lconst 0, 1) := by decide +kernel
theorem dX6_isShelf_3 : decode cX6_isShelf 3 = .ok (.ldc2_w 54, 3) := by decide +kernel
theorem dX6_isShelf_6 : decode cX6_isShelf 6 = .ok (.invokestatic 48, 3) := by decide +kernel
theorem dX6_isShelf_9 : decode cX6_isShelf 9 = .ok (.ireturn, 1) := by decide +kernel
theorem dX6_get_0 : decode cX6_get 0 = .ok (.aload_n 0, 1) := by decide +kernel
theorem dX6_get_1 : decode cX6_get 1 = .ok (.getfield 9, 3) := by decide +kernel
theorem dX6_get_4 : decode cX6_get 4 = .ok (.iconst 3, 1) := by decide +kernel
theorem dX6_get_5 : decode cX6_get 5 = .ok (.iconst 4, 1) := by decide +kernel
theorem dX6_get_6 : decode cX6_get 6 = .ok (.iload_n 1, 1) := by decide +kernel
theorem dX6_get_7 : decode cX6_get 7 = .ok (.imul, 1) := by decide +kernel
theorem dX6_get_8 : decode cX6_get 8 = .ok (.iadd, 1) := by decide +kernel
theorem dX6_get_9 : decode cX6_get 9 = .ok (.iload_n 2, 1) := by decide +kernel
theorem dX6_get_10 : decode cX6_get 10 = .ok (.iadd, 1) := by decide +kernel
theorem dX6_get_11 : decode cX6_get 11 = .ok (.iaload, 1) := by decide +kernel
theorem dX6_get_12 : decode cX6_get 12 = .ok (.ireturn, 1) := by decide +kernel
theorem dX6_becomes_0 : decode cX6_becomes 0 = .ok (.aload_n 0, 1) := by decide +kernel
theorem dX6_becomes_1 : decode cX6_becomes 1 = .ok (.getfield 9, 3) := by decide +kernel
theorem dX6_becomes_4 : decode cX6_becomes 4 = .ok (.iload_n 1, 1) := by decide +kernel
theorem dX6_becomes_5 : decode cX6_becomes 5 = .ok (.iaload, 1) := by decide +kernel
theorem dX6_becomes_6 : decode cX6_becomes 6 = .ok (.istore_n 3, 1) := by decide +kernel
theorem dX6_becomes_7 : decode cX6_becomes 7 = .ok (.aload_n 0, 1) := by decide +kernel
theorem dX6_becomes_8 : decode cX6_becomes 8 = .ok (.getfield 9, 3) := by decide +kernel
theorem dX6_becomes_11 : decode cX6_becomes 11 = .ok (.iload_n 1, 1) := by decide +kernel
theorem dX6_becomes_12 : decode cX6_becomes 12 = .ok (.iload_n 2, 1) := by decide +kernel
theorem dX6_becomes_13 : decode cX6_becomes 13 = .ok (.iastore, 1) := by decide +kernel
theorem dX6_becomes_14 : decode cX6_becomes 14 = .ok (.iload_n 3, 1) := by decide +kernel
theorem dX6_becomes_15 : decode cX6_becomes 15 = .ok (.ireturn, 1) := by decide +kernel
theorem dX6_floor_0 : decode cX6_floor 0 = .ok (.lload_n 0, 1) := by decide +kernel
theorem dX6_floor_1 : decode cX6_floor 1 = .ok (.lconst 0, 1) := by decide +kernel
theorem dX6_floor_2 : decode cX6_floor 2 = .ok (.lcmp, 1) := by decide +kernel
theorem dX6_floor_3 : decode cX6_floor 3 = .ok (.ifCond .lt 9, 3) := by decide +kernel
theorem dX6_floor_6 : decode cX6_floor 6 = .ok (.lload_n 0, 1) := by decide +kernel
theorem dX6_floor_7 : decode cX6_floor 7 = .ok (.lload_n 2, 1) := by decide +kernel
theorem dX6_floor_8 : decode cX6_floor 8 = .ok (.ldiv, 1) := by decide +kernel
theorem dX6_floor_9 : decode cX6_floor 9 = .ok (.goto 11, 3) := by decide +kernel
theorem dX6_floor_12 : decode cX6_floor 12 = .ok (.lload_n 2, 1) := by decide +kernel
theorem dX6_floor_13 : decode cX6_floor 13 = .ok (.lconst 1, 1) := by decide +kernel
theorem dX6_floor_14 : decode cX6_floor 14 = .ok (.lsub, 1) := by decide +kernel
theorem dX6_floor_15 : decode cX6_floor 15 = .ok (.lload_n 0, 1) := by decide +kernel
theorem dX6_floor_16 : decode cX6_floor 16 = .ok (.lsub, 1) := by decide +kernel
theorem dX6_floor_17 : decode cX6_floor 17 = .ok (.lload_n 2, 1) := by decide +kernel
theorem dX6_floor_18 : decode cX6_floor 18 = .ok (.ldiv, 1) := by decide +kernel
theorem dX6_floor_19 : decode cX6_floor 19 = .ok (.lneg, 1) := by decide +kernel
theorem dX6_floor_20 : decode cX6_floor 20 = .ok (.lreturn, 1) := by decide +kernel
theorem dX6_here_0 : decode cX6_here 0 = .ok (.aload_n 0, 1) := by decide +kernel
theorem dX6_here_1 : decode cX6_here 1 = .ok (.getfield 56, 3) := by decide +kernel
theorem dX6_here_4 : decode cX6_here 4 = .ok (.aload_n 0, 1) := by decide +kernel
theorem dX6_here_5 : decode cX6_here 5 = .ok (.getfield 59, 3) := by decide +kernel
theorem dX6_here_8 : decode cX6_here 8 = .ok (.if_icmp .ge 20, 3) := by decide +kernel
theorem dX6_here_11 : decode cX6_here 11 = .ok (.aload_n 0, 1) := by decide +kernel
theorem dX6_here_12 : decode cX6_here 12 = .ok (.getfield 25, 3) := by decide +kernel
theorem dX6_here_15 : decode cX6_here 15 = .ok (.aload_n 0, 1) := by decide +kernel
theorem dX6_here_16 : decode cX6_here 16 = .ok (.getfield 62, 3) := by decide +kernel
theorem dX6_here_19 : decode cX6_here 19 = .ok (.aload_n 0, 1) := by decide +kernel
theorem dX6_here_20 : decode cX6_here 20 = .ok (.getfield 56, 3) := by decide +kernel
theorem dX6_here_23 : decode cX6_here 23 = .ok (.iadd, 1) := by decide +kernel
theorem dX6_here_24 : decode cX6_here 24 = .ok (.iaload, 1) := by decide +kernel
theorem dX6_here_25 : decode cX6_here 25 = .ok (.goto 6, 3) := by decide +kernel
theorem dX6_here_28 : decode cX6_here 28 = .ok (.sipush (-1000), 3) := by decide +kernel
theorem dX6_here_31 : decode cX6_here 31 = .ok (.ireturn, 1) := by decide +kernel
theorem dX6_takes_0 : decode cX6_takes 0 = .ok (.aload_n 0, 1) := by decide +kernel
theorem dX6_takes_1 : decode cX6_takes 1 = .ok (.invokevirtual 65, 3) := by decide +kernel
theorem dX6_takes_4 : decode cX6_takes 4 = .ok (.iload_n 1, 1) := by decide +kernel
theorem dX6_takes_5 : decode cX6_takes 5 = .ok (.if_icmp .eq 5, 3) := by decide +kernel
theorem dX6_takes_8 : decode cX6_takes 8 = .ok (.iconst 0, 1) := by decide +kernel
theorem dX6_takes_9 : decode cX6_takes 9 = .ok (.ireturn, 1) := by decide +kernel
theorem dX6_takes_10 : decode cX6_takes 10 = .ok (.aload_n 0, 1) := by decide +kernel
theorem dX6_takes_11 : decode cX6_takes 11 = .ok (.dup, 1) := by decide +kernel
theorem dX6_takes_12 : decode cX6_takes 12 = .ok (.getfield 56, 3) := by decide +kernel
theorem dX6_takes_15 : decode cX6_takes 15 = .ok (.iconst 1, 1) := by decide +kernel
theorem dX6_takes_16 : decode cX6_takes 16 = .ok (.iadd, 1) := by decide +kernel
theorem dX6_takes_17 : decode cX6_takes 17 = .ok (.putfield 56, 3) := by decide +kernel
theorem dX6_takes_20 : decode cX6_takes 20 = .ok (.iconst 1, 1) := by decide +kernel
theorem dX6_takes_21 : decode cX6_takes 21 = .ok (.ireturn, 1) := by decide +kernel
theorem dX6_readsNumber_0 : decode cX6_readsNumber 0 = .ok (.aload_n 0, 1) := by decide +kernel
theorem dX6_readsNumber_1 : decode cX6_readsNumber 1 = .ok (.invokevirtual 65, 3) := by decide +kernel
theorem dX6_readsNumber_4 : decode cX6_readsNumber 4 = .ok (.i2l, 1) := by decide +kernel
theorem dX6_readsNumber_5 : decode cX6_readsNumber 5 = .ok (.ldc2_w 69, 3) := by decide +kernel
theorem dX6_readsNumber_8 : decode cX6_readsNumber 8 = .ok (.ldc2_w 71, 3) := by decide +kernel
theorem dX6_readsNumber_11 : decode cX6_readsNumber 11 = .ok (.invokestatic 48, 3) := by decide +kernel
theorem dX6_readsNumber_14 : decode cX6_readsNumber 14 = .ok (.ifCond .ne 5, 3) := by decide +kernel
theorem dX6_readsNumber_17 : decode cX6_readsNumber 17 = .ok (.iconst 0, 1) := by decide +kernel
theorem dX6_readsNumber_18 : decode cX6_readsNumber 18 = .ok (.ireturn, 1) := by decide +kernel
theorem dX6_readsNumber_19 : decode cX6_readsNumber 19 = .ok (.aload_n 0, 1) := by decide +kernel
theorem dX6_readsNumber_20 : decode cX6_readsNumber 20 = .ok (.aload_n 0, 1) := by decide +kernel
theorem dX6_readsNumber_21 : decode cX6_readsNumber 21 = .ok (.invokevirtual 65, 3) := by decide +kernel
theorem dX6_readsNumber_24 : decode cX6_readsNumber 24 = .ok (.bipush 48, 2) := by decide +kernel
theorem dX6_readsNumber_26 : decode cX6_readsNumber 26 = .ok (.isub, 1) := by decide +kernel
theorem dX6_readsNumber_27 : decode cX6_readsNumber 27 = .ok (.putfield 73, 3) := by decide +kernel
theorem dX6_readsNumber_30 : decode cX6_readsNumber 30 = .ok (.aload_n 0, 1) := by decide +kernel
theorem dX6_readsNumber_31 : decode cX6_readsNumber 31 = .ok (.dup, 1) := by decide +kernel
theorem dX6_readsNumber_32 : decode cX6_readsNumber 32 = .ok (.getfield 56, 3) := by decide +kernel
theorem dX6_readsNumber_35 : decode cX6_readsNumber 35 = .ok (.iconst 1, 1) := by decide +kernel
theorem dX6_readsNumber_36 : decode cX6_readsNumber 36 = .ok (.iadd, 1) := by decide +kernel
theorem dX6_readsNumber_37 : decode cX6_readsNumber 37 = .ok (.putfield 56, 3) := by decide +kernel
theorem dX6_readsNumber_40 : decode cX6_readsNumber 40 = .ok (.iconst 1, 1) := by decide +kernel
theorem dX6_readsNumber_41 : decode cX6_readsNumber 41 = .ok (.istore_n 1, 1) := by decide +kernel
theorem dX6_readsNumber_42 : decode cX6_readsNumber 42 = .ok (.iload_n 1, 1) := by decide +kernel
theorem dX6_readsNumber_43 : decode cX6_readsNumber 43 = .ok (.iconst 3, 1) := by decide +kernel
theorem dX6_readsNumber_44 : decode cX6_readsNumber 44 = .ok (.if_icmp .ge 62, 3) := by decide +kernel
theorem dX6_readsNumber_47 : decode cX6_readsNumber 47 = .ok (.aload_n 0, 1) := by decide +kernel
theorem dX6_readsNumber_48 : decode cX6_readsNumber 48 = .ok (.getfield 73, 3) := by decide +kernel
theorem dX6_readsNumber_51 : decode cX6_readsNumber 51 = .ok (.ifCond .le 55, 3) := by decide +kernel
theorem dX6_readsNumber_54 : decode cX6_readsNumber 54 = .ok (.aload_n 0, 1) := by decide +kernel
theorem dX6_readsNumber_55 : decode cX6_readsNumber 55 = .ok (.invokevirtual 65, 3) := by decide +kernel
theorem dX6_readsNumber_58 : decode cX6_readsNumber 58 = .ok (.i2l, 1) := by decide +kernel
theorem dX6_readsNumber_59 : decode cX6_readsNumber 59 = .ok (.ldc2_w 69, 3) := by decide +kernel
theorem dX6_readsNumber_62 : decode cX6_readsNumber 62 = .ok (.ldc2_w 71, 3) := by decide +kernel
theorem dX6_readsNumber_65 : decode cX6_readsNumber 65 = .ok (.invokestatic 48, 3) := by decide +kernel
theorem dX6_readsNumber_68 : decode cX6_readsNumber 68 = .ok (.ifCond .eq 38, 3) := by decide +kernel
theorem dX6_readsNumber_71 : decode cX6_readsNumber 71 = .ok (.aload_n 0, 1) := by decide +kernel
theorem dX6_readsNumber_72 : decode cX6_readsNumber 72 = .ok (.bipush 10, 2) := by decide +kernel
theorem dX6_readsNumber_74 : decode cX6_readsNumber 74 = .ok (.aload_n 0, 1) := by decide +kernel
theorem dX6_readsNumber_75 : decode cX6_readsNumber 75 = .ok (.getfield 73, 3) := by decide +kernel
theorem dX6_readsNumber_78 : decode cX6_readsNumber 78 = .ok (.imul, 1) := by decide +kernel
theorem dX6_readsNumber_79 : decode cX6_readsNumber 79 = .ok (.aload_n 0, 1) := by decide +kernel
theorem dX6_readsNumber_80 : decode cX6_readsNumber 80 = .ok (.invokevirtual 65, 3) := by decide +kernel
theorem dX6_readsNumber_83 : decode cX6_readsNumber 83 = .ok (.iadd, 1) := by decide +kernel
theorem dX6_readsNumber_84 : decode cX6_readsNumber 84 = .ok (.bipush 48, 2) := by decide +kernel
theorem dX6_readsNumber_86 : decode cX6_readsNumber 86 = .ok (.isub, 1) := by decide +kernel
theorem dX6_readsNumber_87 : decode cX6_readsNumber 87 = .ok (.putfield 73, 3) := by decide +kernel
theorem dX6_readsNumber_90 : decode cX6_readsNumber 90 = .ok (.aload_n 0, 1) := by decide +kernel
theorem dX6_readsNumber_91 : decode cX6_readsNumber 91 = .ok (.dup, 1) := by decide +kernel
theorem dX6_readsNumber_92 : decode cX6_readsNumber 92 = .ok (.getfield 56, 3) := by decide +kernel
theorem dX6_readsNumber_95 : decode cX6_readsNumber 95 = .ok (.iconst 1, 1) := by decide +kernel
theorem dX6_readsNumber_96 : decode cX6_readsNumber 96 = .ok (.iadd, 1) := by decide +kernel
theorem dX6_readsNumber_97 : decode cX6_readsNumber 97 = .ok (.putfield 56, 3) := by decide +kernel
theorem dX6_readsNumber_100 : decode cX6_readsNumber 100 = .ok (.iinc 1 1, 3) := by decide +kernel
theorem dX6_readsNumber_103 : decode cX6_readsNumber 103 = .ok (.goto (-61), 3) := by decide +kernel
theorem dX6_readsNumber_106 : decode cX6_readsNumber 106 = .ok (.aload_n 0, 1) := by decide +kernel
theorem dX6_readsNumber_107 : decode cX6_readsNumber 107 = .ok (.getfield 38, 3) := by decide +kernel
theorem dX6_readsNumber_110 : decode cX6_readsNumber 110 = .ok (.aload_n 0, 1) := by decide +kernel
theorem dX6_readsNumber_111 : decode cX6_readsNumber 111 = .ok (.getfield 76, 3) := by decide +kernel
theorem dX6_readsNumber_114 : decode cX6_readsNumber 114 = .ok (.aload_n 0, 1) := by decide +kernel
theorem dX6_readsNumber_115 : decode cX6_readsNumber 115 = .ok (.getfield 73, 3) := by decide +kernel
theorem dX6_readsNumber_118 : decode cX6_readsNumber 118 = .ok (.iastore, 1) := by decide +kernel
theorem dX6_readsNumber_119 : decode cX6_readsNumber 119 = .ok (.aload_n 0, 1) := by decide +kernel
theorem dX6_readsNumber_120 : decode cX6_readsNumber 120 = .ok (.dup, 1) := by decide +kernel
theorem dX6_readsNumber_121 : decode cX6_readsNumber 121 = .ok (.getfield 76, 3) := by decide +kernel
theorem dX6_readsNumber_124 : decode cX6_readsNumber 124 = .ok (.iconst 1, 1) := by decide +kernel
theorem dX6_readsNumber_125 : decode cX6_readsNumber 125 = .ok (.iadd, 1) := by decide +kernel
theorem dX6_readsNumber_126 : decode cX6_readsNumber 126 = .ok (.putfield 76, 3) := by decide +kernel
theorem dX6_readsNumber_129 : decode cX6_readsNumber 129 = .ok (.iconst 1, 1) := by decide +kernel
theorem dX6_readsNumber_130 : decode cX6_readsNumber 130 = .ok (.ireturn, 1) := by decide +kernel
theorem dX6_readsStatement_0 : decode cX6_readsStatement 0 = .ok (.aload_n 0, 1) := by decide +kernel
theorem dX6_readsStatement_1 : decode cX6_readsStatement 1 = .ok (.invokevirtual 65, 3) := by decide +kernel
theorem dX6_readsStatement_4 : decode cX6_readsStatement 4 = .ok (.istore_n 1, 1) := by decide +kernel
theorem dX6_readsStatement_5 : decode cX6_readsStatement 5 = .ok (.aload_n 0, 1) := by decide +kernel
theorem dX6_readsStatement_6 : decode cX6_readsStatement 6 = .ok (.iconst 0, 1) := by decide +kernel
theorem dX6_readsStatement_7 : decode cX6_readsStatement 7 = .ok (.putfield 76, 3) := by decide +kernel
theorem dX6_readsStatement_10 : decode cX6_readsStatement 10 = .ok (.aload_n 0, 1) := by decide +kernel
theorem dX6_readsStatement_11 : decode cX6_readsStatement 11 = .ok (.iconst 0, 1) := by decide +kernel
theorem dX6_readsStatement_12 : decode cX6_readsStatement 12 = .ok (.putfield 79, 3) := by decide +kernel
theorem dX6_readsStatement_15 : decode cX6_readsStatement 15 = .ok (.iload_n 1, 1) := by decide +kernel
theorem dX6_readsStatement_16 : decode cX6_readsStatement 16 = .ok (.bipush 112, 2) := by decide +kernel
theorem dX6_readsStatement_18 : decode cX6_readsStatement 18 = .ok (.if_icmp .eq 17, 3) := by decide +kernel
theorem dX6_readsStatement_21 : decode cX6_readsStatement 21 = .ok (.iload_n 1, 1) := by decide +kernel
theorem dX6_readsStatement_22 : decode cX6_readsStatement 22 = .ok (.bipush 108, 2) := by decide +kernel
theorem dX6_readsStatement_24 : decode cX6_readsStatement 24 = .ok (.if_icmp .eq 11, 3) := by decide +kernel
theorem dX6_readsStatement_27 : decode cX6_readsStatement 27 = .ok (.iload_n 1, 1) := by decide +kernel
theorem dX6_readsStatement_28 : decode cX6_readsStatement 28 = .ok (.bipush 119, 2) := by decide +kernel
theorem dX6_readsStatement_30 : decode cX6_readsStatement 30 = .ok (.if_icmp .eq 5, 3) := by decide +kernel
theorem dX6_readsStatement_33 : decode cX6_readsStatement 33 = .ok (.iconst 0, 1) := by decide +kernel
theorem dX6_readsStatement_34 : decode cX6_readsStatement 34 = .ok (.ireturn, 1) := by decide +kernel
theorem dX6_readsStatement_35 : decode cX6_readsStatement 35 = .ok (.aload_n 0, 1) := by decide +kernel
theorem dX6_readsStatement_36 : decode cX6_readsStatement 36 = .ok (.dup, 1) := by decide +kernel
theorem dX6_readsStatement_37 : decode cX6_readsStatement 37 = .ok (.getfield 56, 3) := by decide +kernel
theorem dX6_readsStatement_40 : decode cX6_readsStatement 40 = .ok (.iconst 1, 1) := by decide +kernel
theorem dX6_readsStatement_41 : decode cX6_readsStatement 41 = .ok (.iadd, 1) := by decide +kernel
theorem dX6_readsStatement_42 : decode cX6_readsStatement 42 = .ok (.putfield 56, 3) := by decide +kernel
theorem dX6_readsStatement_45 : decode cX6_readsStatement 45 = .ok (.aload_n 0, 1) := by decide +kernel
theorem dX6_readsStatement_46 : decode cX6_readsStatement 46 = .ok (.invokevirtual 82, 3) := by decide +kernel
theorem dX6_readsStatement_49 : decode cX6_readsStatement 49 = .ok (.ifCond .ne 5, 3) := by decide +kernel
theorem dX6_readsStatement_52 : decode cX6_readsStatement 52 = .ok (.iconst 0, 1) := by decide +kernel
theorem dX6_readsStatement_53 : decode cX6_readsStatement 53 = .ok (.ireturn, 1) := by decide +kernel
theorem dX6_readsStatement_54 : decode cX6_readsStatement 54 = .ok (.iload_n 1, 1) := by decide +kernel
theorem dX6_readsStatement_55 : decode cX6_readsStatement 55 = .ok (.bipush 108, 2) := by decide +kernel
theorem dX6_readsStatement_57 : decode cX6_readsStatement 57 = .ok (.if_icmp .ne 7, 3) := by decide +kernel
theorem dX6_readsStatement_60 : decode cX6_readsStatement 60 = .ok (.iconst 1, 1) := by decide +kernel
theorem dX6_readsStatement_61 : decode cX6_readsStatement 61 = .ok (.goto 4, 3) := by decide +kernel
theorem dX6_readsStatement_64 : decode cX6_readsStatement 64 = .ok (.iconst 3, 1) := by decide +kernel
theorem dX6_readsStatement_65 : decode cX6_readsStatement 65 = .ok (.istore_n 2, 1) := by decide +kernel
theorem dX6_readsStatement_66 : decode cX6_readsStatement 66 = .ok (.aload_n 0, 1) := by decide +kernel
theorem dX6_readsStatement_67 : decode cX6_readsStatement 67 = .ok (.getfield 76, 3) := by decide +kernel
theorem dX6_readsStatement_70 : decode cX6_readsStatement 70 = .ok (.iload_n 2, 1) := by decide +kernel
theorem dX6_readsStatement_71 : decode cX6_readsStatement 71 = .ok (.if_icmp .ge 21, 3) := by decide +kernel
theorem dX6_readsStatement_74 : decode cX6_readsStatement 74 = .ok (.aload_n 0, 1) := by decide +kernel
theorem dX6_readsStatement_75 : decode cX6_readsStatement 75 = .ok (.bipush 32, 2) := by decide +kernel
theorem dX6_readsStatement_77 : decode cX6_readsStatement 77 = .ok (.invokevirtual 86, 3) := by decide +kernel
theorem dX6_readsStatement_80 : decode cX6_readsStatement 80 = .ok (.ifCond .eq 10, 3) := by decide +kernel
theorem dX6_readsStatement_83 : decode cX6_readsStatement 83 = .ok (.aload_n 0, 1) := by decide +kernel
theorem dX6_readsStatement_84 : decode cX6_readsStatement 84 = .ok (.invokevirtual 82, 3) := by decide +kernel
theorem dX6_readsStatement_87 : decode cX6_readsStatement 87 = .ok (.ifCond .ne (-21), 3) := by decide +kernel
theorem dX6_readsStatement_90 : decode cX6_readsStatement 90 = .ok (.iconst 0, 1) := by decide +kernel
theorem dX6_readsStatement_91 : decode cX6_readsStatement 91 = .ok (.ireturn, 1) := by decide +kernel
theorem dX6_readsStatement_92 : decode cX6_readsStatement 92 = .ok (.iload_n 1, 1) := by decide +kernel
theorem dX6_readsStatement_93 : decode cX6_readsStatement 93 = .ok (.bipush 112, 2) := by decide +kernel
theorem dX6_readsStatement_95 : decode cX6_readsStatement 95 = .ok (.if_icmp .ne 49, 3) := by decide +kernel
theorem dX6_readsStatement_98 : decode cX6_readsStatement 98 = .ok (.aload_n 0, 1) := by decide +kernel
theorem dX6_readsStatement_99 : decode cX6_readsStatement 99 = .ok (.invokevirtual 65, 3) := by decide +kernel
theorem dX6_readsStatement_102 : decode cX6_readsStatement 102 = .ok (.bipush 43, 2) := by decide +kernel
theorem dX6_readsStatement_104 : decode cX6_readsStatement 104 = .ok (.if_icmp .eq 12, 3) := by decide +kernel
theorem dX6_readsStatement_107 : decode cX6_readsStatement 107 = .ok (.aload_n 0, 1) := by decide +kernel
theorem dX6_readsStatement_108 : decode cX6_readsStatement 108 = .ok (.invokevirtual 65, 3) := by decide +kernel
theorem dX6_readsStatement_111 : decode cX6_readsStatement 111 = .ok (.bipush 45, 2) := by decide +kernel
theorem dX6_readsStatement_113 : decode cX6_readsStatement 113 = .ok (.if_icmp .ne 31, 3) := by decide +kernel
theorem dX6_readsStatement_116 : decode cX6_readsStatement 116 = .ok (.aload_n 0, 1) := by decide +kernel
theorem dX6_readsStatement_117 : decode cX6_readsStatement 117 = .ok (.aload_n 0, 1) := by decide +kernel
theorem dX6_readsStatement_118 : decode cX6_readsStatement 118 = .ok (.invokevirtual 65, 3) := by decide +kernel
theorem dX6_readsStatement_121 : decode cX6_readsStatement 121 = .ok (.bipush 43, 2) := by decide +kernel
theorem dX6_readsStatement_123 : decode cX6_readsStatement 123 = .ok (.if_icmp .ne 7, 3) := by decide +kernel
theorem dX6_readsStatement_126 : decode cX6_readsStatement 126 = .ok (.iconst 1, 1) := by decide +kernel
theorem dX6_readsStatement_127 : decode cX6_readsStatement 127 = .ok (.goto 4, 3) := by decide +kernel
theorem dX6_readsStatement_130 : decode cX6_readsStatement 130 = .ok (.iconst (-1), 1) := by decide +kernel
theorem dX6_readsStatement_131 : decode cX6_readsStatement 131 = .ok (.putfield 79, 3) := by decide +kernel
theorem dX6_readsStatement_134 : decode cX6_readsStatement 134 = .ok (.aload_n 0, 1) := by decide +kernel
theorem dX6_readsStatement_135 : decode cX6_readsStatement 135 = .ok (.dup, 1) := by decide +kernel
theorem dX6_readsStatement_136 : decode cX6_readsStatement 136 = .ok (.getfield 56, 3) := by decide +kernel
theorem dX6_readsStatement_139 : decode cX6_readsStatement 139 = .ok (.iconst 1, 1) := by decide +kernel
theorem dX6_readsStatement_140 : decode cX6_readsStatement 140 = .ok (.iadd, 1) := by decide +kernel
theorem dX6_readsStatement_141 : decode cX6_readsStatement 141 = .ok (.putfield 56, 3) := by decide +kernel
theorem dX6_readsStatement_144 : decode cX6_readsStatement 144 = .ok (.aload_n 0, 1) := by decide +kernel
theorem dX6_readsStatement_145 : decode cX6_readsStatement 145 = .ok (.bipush 59, 2) := by decide +kernel
theorem dX6_readsStatement_147 : decode cX6_readsStatement 147 = .ok (.invokevirtual 86, 3) := by decide +kernel
theorem dX6_readsStatement_150 : decode cX6_readsStatement 150 = .ok (.ireturn, 1) := by decide +kernel
theorem dX6_comes_0 : decode cX6_comes 0 = .ok (.iload_n 1, 1) := by decide +kernel
theorem dX6_comes_1 : decode cX6_comes 1 = .ok (.bipush 108, 2) := by decide +kernel
theorem dX6_comes_3 : decode cX6_comes 3 = .ok (.if_icmp .ne 33, 3) := by decide +kernel
theorem dX6_comes_6 : decode cX6_comes 6 = .ok (.aload_n 0, 1) := by decide +kernel
theorem dX6_comes_7 : decode cX6_comes 7 = .ok (.getfield 41, 3) := by decide +kernel
theorem dX6_comes_10 : decode cX6_comes 10 = .ok (.iconst 2, 1) := by decide +kernel
theorem dX6_comes_11 : decode cX6_comes 11 = .ok (.aload_n 0, 1) := by decide +kernel
theorem dX6_comes_12 : decode cX6_comes 12 = .ok (.getfield 38, 3) := by decide +kernel
theorem dX6_comes_15 : decode cX6_comes 15 = .ok (.iconst 0, 1) := by decide +kernel
theorem dX6_comes_16 : decode cX6_comes 16 = .ok (.iaload, 1) := by decide +kernel
theorem dX6_comes_17 : decode cX6_comes 17 = .ok (.iastore, 1) := by decide +kernel
theorem dX6_comes_18 : decode cX6_comes 18 = .ok (.aload_n 0, 1) := by decide +kernel
theorem dX6_comes_19 : decode cX6_comes 19 = .ok (.getfield 38, 3) := by decide +kernel
theorem dX6_comes_22 : decode cX6_comes 22 = .ok (.iconst 0, 1) := by decide +kernel
theorem dX6_comes_23 : decode cX6_comes 23 = .ok (.iaload, 1) := by decide +kernel
theorem dX6_comes_24 : decode cX6_comes 24 = .ok (.sipush 360, 3) := by decide +kernel
theorem dX6_comes_27 : decode cX6_comes 27 = .ok (.if_icmp .ge 7, 3) := by decide +kernel
theorem dX6_comes_30 : decode cX6_comes 30 = .ok (.iconst 1, 1) := by decide +kernel
theorem dX6_comes_31 : decode cX6_comes 31 = .ok (.goto 4, 3) := by decide +kernel
theorem dX6_comes_34 : decode cX6_comes 34 = .ok (.iconst 0, 1) := by decide +kernel
theorem dX6_comes_35 : decode cX6_comes 35 = .ok (.ireturn, 1) := by decide +kernel
theorem dX6_comes_36 : decode cX6_comes 36 = .ok (.iload_n 1, 1) := by decide +kernel
theorem dX6_comes_37 : decode cX6_comes 37 = .ok (.bipush 112, 2) := by decide +kernel
theorem dX6_comes_39 : decode cX6_comes 39 = .ok (.if_icmp .ne 113, 3) := by decide +kernel
theorem dX6_comes_42 : decode cX6_comes 42 = .ok (.aload_n 0, 1) := by decide +kernel
theorem dX6_comes_43 : decode cX6_comes 43 = .ok (.getfield 41, 3) := by decide +kernel
theorem dX6_comes_46 : decode cX6_comes 46 = .ok (.iconst 0, 1) := by decide +kernel
theorem dX6_comes_47 : decode cX6_comes 47 = .ok (.iaload, 1) := by decide +kernel
theorem dX6_comes_48 : decode cX6_comes 48 = .ok (.bipush 10, 2) := by decide +kernel
theorem dX6_comes_50 : decode cX6_comes 50 = .ok (.if_icmp .eq 25, 3) := by decide +kernel
theorem dX6_comes_53 : decode cX6_comes 53 = .ok (.aload_n 0, 1) := by decide +kernel
theorem dX6_comes_54 : decode cX6_comes 54 = .ok (.getfield 38, 3) := by decide +kernel
theorem dX6_comes_57 : decode cX6_comes 57 = .ok (.iconst 0, 1) := by decide +kernel
theorem dX6_comes_58 : decode cX6_comes 58 = .ok (.iaload, 1) := by decide +kernel
theorem dX6_comes_59 : decode cX6_comes 59 = .ok (.sipush 359, 3) := by decide +kernel
theorem dX6_comes_62 : decode cX6_comes 62 = .ok (.if_icmp .gt 13, 3) := by decide +kernel
theorem dX6_comes_65 : decode cX6_comes 65 = .ok (.aload_n 0, 1) := by decide +kernel
theorem dX6_comes_66 : decode cX6_comes 66 = .ok (.getfield 38, 3) := by decide +kernel
theorem dX6_comes_69 : decode cX6_comes 69 = .ok (.iconst 1, 1) := by decide +kernel
theorem dX6_comes_70 : decode cX6_comes 70 = .ok (.iaload, 1) := by decide +kernel
theorem dX6_comes_71 : decode cX6_comes 71 = .ok (.iconst 2, 1) := by decide +kernel
theorem dX6_comes_72 : decode cX6_comes 72 = .ok (.if_icmp .le 5, 3) := by decide +kernel
theorem dX6_comes_75 : decode cX6_comes 75 = .ok (.iconst 0, 1) := by decide +kernel
theorem dX6_comes_76 : decode cX6_comes 76 = .ok (.ireturn, 1) := by decide +kernel
theorem dX6_comes_77 : decode cX6_comes 77 = .ok (.iconst 3, 1) := by decide +kernel
theorem dX6_comes_78 : decode cX6_comes 78 = .ok (.iconst 4, 1) := by decide +kernel
theorem dX6_comes_79 : decode cX6_comes 79 = .ok (.aload_n 0, 1) := by decide +kernel
theorem dX6_comes_80 : decode cX6_comes 80 = .ok (.getfield 41, 3) := by decide +kernel
theorem dX6_comes_83 : decode cX6_comes 83 = .ok (.iconst 0, 1) := by decide +kernel
theorem dX6_comes_84 : decode cX6_comes 84 = .ok (.iaload, 1) := by decide +kernel
theorem dX6_comes_85 : decode cX6_comes 85 = .ok (.imul, 1) := by decide +kernel
theorem dX6_comes_86 : decode cX6_comes 86 = .ok (.iadd, 1) := by decide +kernel
theorem dX6_comes_87 : decode cX6_comes 87 = .ok (.istore_n 2, 1) := by decide +kernel
theorem dX6_comes_88 : decode cX6_comes 88 = .ok (.aload_n 0, 1) := by decide +kernel
theorem dX6_comes_89 : decode cX6_comes 89 = .ok (.getfield 41, 3) := by decide +kernel
theorem dX6_comes_92 : decode cX6_comes 92 = .ok (.iload_n 2, 1) := by decide +kernel
theorem dX6_comes_93 : decode cX6_comes 93 = .ok (.aload_n 0, 1) := by decide +kernel
theorem dX6_comes_94 : decode cX6_comes 94 = .ok (.getfield 38, 3) := by decide +kernel
theorem dX6_comes_97 : decode cX6_comes 97 = .ok (.iconst 0, 1) := by decide +kernel
theorem dX6_comes_98 : decode cX6_comes 98 = .ok (.iaload, 1) := by decide +kernel
theorem dX6_comes_99 : decode cX6_comes 99 = .ok (.iastore, 1) := by decide +kernel
theorem dX6_comes_100 : decode cX6_comes 100 = .ok (.aload_n 0, 1) := by decide +kernel
theorem dX6_comes_101 : decode cX6_comes 101 = .ok (.getfield 41, 3) := by decide +kernel
theorem dX6_comes_104 : decode cX6_comes 104 = .ok (.iload_n 2, 1) := by decide +kernel
theorem dX6_comes_105 : decode cX6_comes 105 = .ok (.iconst 1, 1) := by decide +kernel
theorem dX6_comes_106 : decode cX6_comes 106 = .ok (.iadd, 1) := by decide +kernel
theorem dX6_comes_107 : decode cX6_comes 107 = .ok (.aload_n 0, 1) := by decide +kernel
theorem dX6_comes_108 : decode cX6_comes 108 = .ok (.getfield 38, 3) := by decide +kernel
theorem dX6_comes_111 : decode cX6_comes 111 = .ok (.iconst 1, 1) := by decide +kernel
theorem dX6_comes_112 : decode cX6_comes 112 = .ok (.iaload, 1) := by decide +kernel
theorem dX6_comes_113 : decode cX6_comes 113 = .ok (.iastore, 1) := by decide +kernel
theorem dX6_comes_114 : decode cX6_comes 114 = .ok (.aload_n 0, 1) := by decide +kernel
theorem dX6_comes_115 : decode cX6_comes 115 = .ok (.getfield 41, 3) := by decide +kernel
theorem dX6_comes_118 : decode cX6_comes 118 = .ok (.iload_n 2, 1) := by decide +kernel
theorem dX6_comes_119 : decode cX6_comes 119 = .ok (.iconst 2, 1) := by decide +kernel
theorem dX6_comes_120 : decode cX6_comes 120 = .ok (.iadd, 1) := by decide +kernel
theorem dX6_comes_121 : decode cX6_comes 121 = .ok (.aload_n 0, 1) := by decide +kernel
theorem dX6_comes_122 : decode cX6_comes 122 = .ok (.getfield 79, 3) := by decide +kernel
theorem dX6_comes_125 : decode cX6_comes 125 = .ok (.iastore, 1) := by decide +kernel
theorem dX6_comes_126 : decode cX6_comes 126 = .ok (.aload_n 0, 1) := by decide +kernel
theorem dX6_comes_127 : decode cX6_comes 127 = .ok (.getfield 41, 3) := by decide +kernel
theorem dX6_comes_130 : decode cX6_comes 130 = .ok (.iload_n 2, 1) := by decide +kernel
theorem dX6_comes_131 : decode cX6_comes 131 = .ok (.iconst 3, 1) := by decide +kernel
theorem dX6_comes_132 : decode cX6_comes 132 = .ok (.iadd, 1) := by decide +kernel
theorem dX6_comes_133 : decode cX6_comes 133 = .ok (.aload_n 0, 1) := by decide +kernel
theorem dX6_comes_134 : decode cX6_comes 134 = .ok (.getfield 38, 3) := by decide +kernel
theorem dX6_comes_137 : decode cX6_comes 137 = .ok (.iconst 2, 1) := by decide +kernel
theorem dX6_comes_138 : decode cX6_comes 138 = .ok (.iaload, 1) := by decide +kernel
theorem dX6_comes_139 : decode cX6_comes 139 = .ok (.iastore, 1) := by decide +kernel
theorem dX6_comes_140 : decode cX6_comes 140 = .ok (.aload_n 0, 1) := by decide +kernel
theorem dX6_comes_141 : decode cX6_comes 141 = .ok (.getfield 41, 3) := by decide +kernel
theorem dX6_comes_144 : decode cX6_comes 144 = .ok (.iconst 0, 1) := by decide +kernel
theorem dX6_comes_145 : decode cX6_comes 145 = .ok (.dup2, 1) := by decide +kernel
theorem dX6_comes_146 : decode cX6_comes 146 = .ok (.iaload, 1) := by decide +kernel
theorem dX6_comes_147 : decode cX6_comes 147 = .ok (.iconst 1, 1) := by decide +kernel
theorem dX6_comes_148 : decode cX6_comes 148 = .ok (.iadd, 1) := by decide +kernel
theorem dX6_comes_149 : decode cX6_comes 149 = .ok (.iastore, 1) := by decide +kernel
theorem dX6_comes_150 : decode cX6_comes 150 = .ok (.iconst 1, 1) := by decide +kernel
theorem dX6_comes_151 : decode cX6_comes 151 = .ok (.ireturn, 1) := by decide +kernel
theorem dX6_comes_152 : decode cX6_comes 152 = .ok (.aload_n 0, 1) := by decide +kernel
theorem dX6_comes_153 : decode cX6_comes 153 = .ok (.getfield 38, 3) := by decide +kernel
theorem dX6_comes_156 : decode cX6_comes 156 = .ok (.iconst 0, 1) := by decide +kernel
theorem dX6_comes_157 : decode cX6_comes 157 = .ok (.iaload, 1) := by decide +kernel
theorem dX6_comes_158 : decode cX6_comes 158 = .ok (.istore_n 2, 1) := by decide +kernel
theorem dX6_comes_159 : decode cX6_comes 159 = .ok (.aload_n 0, 1) := by decide +kernel
theorem dX6_comes_160 : decode cX6_comes 160 = .ok (.getfield 38, 3) := by decide +kernel
theorem dX6_comes_163 : decode cX6_comes 163 = .ok (.iconst 1, 1) := by decide +kernel
theorem dX6_comes_164 : decode cX6_comes 164 = .ok (.iaload, 1) := by decide +kernel
theorem dX6_comes_165 : decode cX6_comes 165 = .ok (.istore_n 3, 1) := by decide +kernel
theorem dX6_comes_166 : decode cX6_comes 166 = .ok (.iload_n 2, 1) := by decide +kernel
theorem dX6_comes_167 : decode cX6_comes 167 = .ok (.aload_n 0, 1) := by decide +kernel
theorem dX6_comes_168 : decode cX6_comes 168 = .ok (.getfield 41, 3) := by decide +kernel
theorem dX6_comes_171 : decode cX6_comes 171 = .ok (.iconst 0, 1) := by decide +kernel
theorem dX6_comes_172 : decode cX6_comes 172 = .ok (.iaload, 1) := by decide +kernel
theorem dX6_comes_173 : decode cX6_comes 173 = .ok (.if_icmp .ge 29, 3) := by decide +kernel
theorem dX6_comes_176 : decode cX6_comes 176 = .ok (.iload_n 3, 1) := by decide +kernel
theorem dX6_comes_177 : decode cX6_comes 177 = .ok (.aload_n 0, 1) := by decide +kernel
theorem dX6_comes_178 : decode cX6_comes 178 = .ok (.getfield 41, 3) := by decide +kernel
theorem dX6_comes_181 : decode cX6_comes 181 = .ok (.iconst 0, 1) := by decide +kernel
theorem dX6_comes_182 : decode cX6_comes 182 = .ok (.iaload, 1) := by decide +kernel
theorem dX6_comes_183 : decode cX6_comes 183 = .ok (.if_icmp .ge 19, 3) := by decide +kernel
theorem dX6_comes_186 : decode cX6_comes 186 = .ok (.iload_n 2, 1) := by decide +kernel
theorem dX6_comes_187 : decode cX6_comes 187 = .ok (.iload_n 3, 1) := by decide +kernel
theorem dX6_comes_188 : decode cX6_comes 188 = .ok (.if_icmp .eq 14, 3) := by decide +kernel
theorem dX6_comes_191 : decode cX6_comes 191 = .ok (.aload_n 0, 1) := by decide +kernel
theorem dX6_comes_192 : decode cX6_comes 192 = .ok (.getfield 38, 3) := by decide +kernel
theorem dX6_comes_195 : decode cX6_comes 195 = .ok (.iconst 2, 1) := by decide +kernel
theorem dX6_comes_196 : decode cX6_comes 196 = .ok (.iaload, 1) := by decide +kernel
theorem dX6_comes_197 : decode cX6_comes 197 = .ok (.bipush 99, 2) := by decide +kernel
theorem dX6_comes_199 : decode cX6_comes 199 = .ok (.if_icmp .le 5, 3) := by decide +kernel
theorem dX6_comes_202 : decode cX6_comes 202 = .ok (.iconst 0, 1) := by decide +kernel
theorem dX6_comes_203 : decode cX6_comes 203 = .ok (.ireturn, 1) := by decide +kernel
theorem dX6_comes_204 : decode cX6_comes 204 = .ok (.aload_n 0, 1) := by decide +kernel
theorem dX6_comes_205 : decode cX6_comes 205 = .ok (.getfield 41, 3) := by decide +kernel
theorem dX6_comes_208 : decode cX6_comes 208 = .ok (.bipush 43, 2) := by decide +kernel
theorem dX6_comes_210 : decode cX6_comes 210 = .ok (.bipush 10, 2) := by decide +kernel
theorem dX6_comes_212 : decode cX6_comes 212 = .ok (.iload_n 2, 1) := by decide +kernel
theorem dX6_comes_213 : decode cX6_comes 213 = .ok (.imul, 1) := by decide +kernel
theorem dX6_comes_214 : decode cX6_comes 214 = .ok (.iadd, 1) := by decide +kernel
theorem dX6_comes_215 : decode cX6_comes 215 = .ok (.iload_n 3, 1) := by decide +kernel
theorem dX6_comes_216 : decode cX6_comes 216 = .ok (.iadd, 1) := by decide +kernel
theorem dX6_comes_217 : decode cX6_comes 217 = .ok (.aload_n 0, 1) := by decide +kernel
theorem dX6_comes_218 : decode cX6_comes 218 = .ok (.getfield 38, 3) := by decide +kernel
theorem dX6_comes_221 : decode cX6_comes 221 = .ok (.iconst 2, 1) := by decide +kernel
theorem dX6_comes_222 : decode cX6_comes 222 = .ok (.iaload, 1) := by decide +kernel
theorem dX6_comes_223 : decode cX6_comes 223 = .ok (.iastore, 1) := by decide +kernel
theorem dX6_comes_224 : decode cX6_comes 224 = .ok (.aload_n 0, 1) := by decide +kernel
theorem dX6_comes_225 : decode cX6_comes 225 = .ok (.getfield 41, 3) := by decide +kernel
theorem dX6_comes_228 : decode cX6_comes 228 = .ok (.bipush 43, 2) := by decide +kernel
theorem dX6_comes_230 : decode cX6_comes 230 = .ok (.bipush 10, 2) := by decide +kernel
theorem dX6_comes_232 : decode cX6_comes 232 = .ok (.iload_n 3, 1) := by decide +kernel
theorem dX6_comes_233 : decode cX6_comes 233 = .ok (.imul, 1) := by decide +kernel
theorem dX6_comes_234 : decode cX6_comes 234 = .ok (.iadd, 1) := by decide +kernel
theorem dX6_comes_235 : decode cX6_comes 235 = .ok (.iload_n 2, 1) := by decide +kernel
theorem dX6_comes_236 : decode cX6_comes 236 = .ok (.iadd, 1) := by decide +kernel
theorem dX6_comes_237 : decode cX6_comes 237 = .ok (.aload_n 0, 1) := by decide +kernel
theorem dX6_comes_238 : decode cX6_comes 238 = .ok (.getfield 38, 3) := by decide +kernel
theorem dX6_comes_241 : decode cX6_comes 241 = .ok (.iconst 2, 1) := by decide +kernel
theorem dX6_comes_242 : decode cX6_comes 242 = .ok (.iaload, 1) := by decide +kernel
theorem dX6_comes_243 : decode cX6_comes 243 = .ok (.iastore, 1) := by decide +kernel
theorem dX6_comes_244 : decode cX6_comes 244 = .ok (.iconst 1, 1) := by decide +kernel
theorem dX6_comes_245 : decode cX6_comes 245 = .ok (.ireturn, 1) := by decide +kernel
theorem dX6_wrongRow_0 : decode cX6_wrongRow 0 = .ok (.iload_n 1, 1) := by decide +kernel
theorem dX6_wrongRow_1 : decode cX6_wrongRow 1 = .ok (.invokestatic 90, 3) := by decide +kernel
theorem dX6_wrongRow_4 : decode cX6_wrongRow 4 = .ok (.ifCond .ne 7, 3) := by decide +kernel
theorem dX6_wrongRow_7 : decode cX6_wrongRow 7 = .ok (.iconst (-1), 1) := by decide +kernel
theorem dX6_wrongRow_8 : decode cX6_wrongRow 8 = .ok (.goto 47, 3) := by decide +kernel
theorem dX6_wrongRow_11 : decode cX6_wrongRow 11 = .ok (.aload_n 0, 1) := by decide +kernel
theorem dX6_wrongRow_12 : decode cX6_wrongRow 12 = .ok (.getfield 16, 3) := by decide +kernel
theorem dX6_wrongRow_15 : decode cX6_wrongRow 15 = .ok (.iload_n 1, 1) := by decide +kernel
theorem dX6_wrongRow_16 : decode cX6_wrongRow 16 = .ok (.iaload, 1) := by decide +kernel
theorem dX6_wrongRow_17 : decode cX6_wrongRow 17 = .ok (.ifCond .ne 8, 3) := by decide +kernel
theorem dX6_wrongRow_20 : decode cX6_wrongRow 20 = .ok (.bipush (-11), 2) := by decide +kernel
theorem dX6_wrongRow_22 : decode cX6_wrongRow 22 = .ok (.goto 33, 3) := by decide +kernel
theorem dX6_wrongRow_25 : decode cX6_wrongRow 25 = .ok (.aload_n 0, 1) := by decide +kernel
theorem dX6_wrongRow_26 : decode cX6_wrongRow 26 = .ok (.getfield 16, 3) := by decide +kernel
theorem dX6_wrongRow_29 : decode cX6_wrongRow 29 = .ok (.iload_n 1, 1) := by decide +kernel
theorem dX6_wrongRow_30 : decode cX6_wrongRow 30 = .ok (.iaload, 1) := by decide +kernel
theorem dX6_wrongRow_31 : decode cX6_wrongRow 31 = .ok (.iconst 2, 1) := by decide +kernel
theorem dX6_wrongRow_32 : decode cX6_wrongRow 32 = .ok (.if_icmp .ne 17, 3) := by decide +kernel
theorem dX6_wrongRow_35 : decode cX6_wrongRow 35 = .ok (.iload_n 2, 1) := by decide +kernel
theorem dX6_wrongRow_36 : decode cX6_wrongRow 36 = .ok (.ifCond .lt 18, 3) := by decide +kernel
theorem dX6_wrongRow_39 : decode cX6_wrongRow 39 = .ok (.aload_n 0, 1) := by decide +kernel
theorem dX6_wrongRow_40 : decode cX6_wrongRow 40 = .ok (.getfield 19, 3) := by decide +kernel
theorem dX6_wrongRow_43 : decode cX6_wrongRow 43 = .ok (.iload_n 1, 1) := by decide +kernel
theorem dX6_wrongRow_44 : decode cX6_wrongRow 44 = .ok (.iaload, 1) := by decide +kernel
theorem dX6_wrongRow_45 : decode cX6_wrongRow 45 = .ok (.iload_n 2, 1) := by decide +kernel
theorem dX6_wrongRow_46 : decode cX6_wrongRow 46 = .ok (.if_icmp .eq 8, 3) := by decide +kernel
theorem dX6_wrongRow_49 : decode cX6_wrongRow 49 = .ok (.bipush (-12), 2) := by decide +kernel
theorem dX6_wrongRow_51 : decode cX6_wrongRow 51 = .ok (.goto 4, 3) := by decide +kernel
theorem dX6_wrongRow_54 : decode cX6_wrongRow 54 = .ok (.iconst 0, 1) := by decide +kernel
theorem dX6_wrongRow_55 : decode cX6_wrongRow 55 = .ok (.ireturn, 1) := by decide +kernel
theorem dX6_world_0 : decode cX6_world 0 = .ok (.aload_n 0, 1) := by decide +kernel
theorem dX6_world_1 : decode cX6_world 1 = .ok (.iload_n 1, 1) := by decide +kernel
theorem dX6_world_2 : decode cX6_world 2 = .ok (.iconst 0, 1) := by decide +kernel
theorem dX6_world_3 : decode cX6_world 3 = .ok (.invokevirtual 93, 3) := by decide +kernel
theorem dX6_world_6 : decode cX6_world 6 = .ok (.istore_n 2, 1) := by decide +kernel
theorem dX6_world_7 : decode cX6_world 7 = .ok (.iload_n 2, 1) := by decide +kernel
theorem dX6_world_8 : decode cX6_world 8 = .ok (.ifCond .eq 5, 3) := by decide +kernel
theorem dX6_world_11 : decode cX6_world 11 = .ok (.iload_n 2, 1) := by decide +kernel
theorem dX6_world_12 : decode cX6_world 12 = .ok (.ireturn, 1) := by decide +kernel
theorem dX6_world_13 : decode cX6_world 13 = .ok (.aload_n 0, 1) := by decide +kernel
theorem dX6_world_14 : decode cX6_world 14 = .ok (.bipush 100, 2) := by decide +kernel
theorem dX6_world_16 : decode cX6_world 16 = .ok (.iload_n 1, 1) := by decide +kernel
theorem dX6_world_17 : decode cX6_world 17 = .ok (.imul, 1) := by decide +kernel
theorem dX6_world_18 : decode cX6_world 18 = .ok (.putfield 62, 3) := by decide +kernel
theorem dX6_world_21 : decode cX6_world 21 = .ok (.aload_n 0, 1) := by decide +kernel
theorem dX6_world_22 : decode cX6_world 22 = .ok (.aload_n 0, 1) := by decide +kernel
theorem dX6_world_23 : decode cX6_world 23 = .ok (.getfield 22, 3) := by decide +kernel
theorem dX6_world_26 : decode cX6_world 26 = .ok (.iload_n 1, 1) := by decide +kernel
theorem dX6_world_27 : decode cX6_world 27 = .ok (.iaload, 1) := by decide +kernel
theorem dX6_world_28 : decode cX6_world 28 = .ok (.putfield 59, 3) := by decide +kernel
theorem dX6_world_31 : decode cX6_world 31 = .ok (.aload_n 0, 1) := by decide +kernel
theorem dX6_world_32 : decode cX6_world 32 = .ok (.iconst 0, 1) := by decide +kernel
theorem dX6_world_33 : decode cX6_world 33 = .ok (.putfield 56, 3) := by decide +kernel
theorem dX6_world_36 : decode cX6_world 36 = .ok (.iconst 0, 1) := by decide +kernel
theorem dX6_world_37 : decode cX6_world 37 = .ok (.istore_n 3, 1) := by decide +kernel
theorem dX6_world_38 : decode cX6_world 38 = .ok (.aload_n 0, 1) := by decide +kernel
theorem dX6_world_39 : decode cX6_world 39 = .ok (.invokevirtual 97, 3) := by decide +kernel
theorem dX6_world_42 : decode cX6_world 42 = .ok (.ifCond .ne 12, 3) := by decide +kernel
theorem dX6_world_45 : decode cX6_world 45 = .ok (.sipush (-1000), 3) := by decide +kernel
theorem dX6_world_48 : decode cX6_world 48 = .ok (.aload_n 0, 1) := by decide +kernel
theorem dX6_world_49 : decode cX6_world 49 = .ok (.getfield 56, 3) := by decide +kernel
theorem dX6_world_52 : decode cX6_world 52 = .ok (.isub, 1) := by decide +kernel
theorem dX6_world_53 : decode cX6_world 53 = .ok (.ireturn, 1) := by decide +kernel
theorem dX6_world_54 : decode cX6_world 54 = .ok (.iinc 3 1, 3) := by decide +kernel
theorem dX6_world_57 : decode cX6_world 57 = .ok (.aload_n 0, 1) := by decide +kernel
theorem dX6_world_58 : decode cX6_world 58 = .ok (.getfield 56, 3) := by decide +kernel
theorem dX6_world_61 : decode cX6_world 61 = .ok (.aload_n 0, 1) := by decide +kernel
theorem dX6_world_62 : decode cX6_world 62 = .ok (.getfield 59, 3) := by decide +kernel
theorem dX6_world_65 : decode cX6_world 65 = .ok (.if_icmp .lt (-27), 3) := by decide +kernel
theorem dX6_world_68 : decode cX6_world 68 = .ok (.iconst 0, 1) := by decide +kernel
theorem dX6_world_69 : decode cX6_world 69 = .ok (.istore 4, 2) := by decide +kernel
theorem dX6_world_71 : decode cX6_world 71 = .ok (.iload 4, 2) := by decide +kernel
theorem dX6_world_73 : decode cX6_world 73 = .ok (.sipush 503, 3) := by decide +kernel
theorem dX6_world_76 : decode cX6_world 76 = .ok (.if_icmp .ge 23, 3) := by decide +kernel
theorem dX6_world_79 : decode cX6_world 79 = .ok (.aload_n 0, 1) := by decide +kernel
theorem dX6_world_80 : decode cX6_world 80 = .ok (.getfield 41, 3) := by decide +kernel
theorem dX6_world_83 : decode cX6_world 83 = .ok (.iload 4, 2) := by decide +kernel
theorem dX6_world_85 : decode cX6_world 85 = .ok (.aload_n 0, 1) := by decide +kernel
theorem dX6_world_86 : decode cX6_world 86 = .ok (.getfield 9, 3) := by decide +kernel
theorem dX6_world_89 : decode cX6_world 89 = .ok (.iload 4, 2) := by decide +kernel
theorem dX6_world_91 : decode cX6_world 91 = .ok (.iaload, 1) := by decide +kernel
theorem dX6_world_92 : decode cX6_world 92 = .ok (.iastore, 1) := by decide +kernel
theorem dX6_world_93 : decode cX6_world 93 = .ok (.iinc 4 1, 3) := by decide +kernel
theorem dX6_world_96 : decode cX6_world 96 = .ok (.goto (-25), 3) := by decide +kernel
theorem dX6_world_99 : decode cX6_world 99 = .ok (.aload_n 0, 1) := by decide +kernel
theorem dX6_world_100 : decode cX6_world 100 = .ok (.iconst 0, 1) := by decide +kernel
theorem dX6_world_101 : decode cX6_world 101 = .ok (.putfield 56, 3) := by decide +kernel
theorem dX6_world_104 : decode cX6_world 104 = .ok (.aload_n 0, 1) := by decide +kernel
theorem dX6_world_105 : decode cX6_world 105 = .ok (.getfield 56, 3) := by decide +kernel
theorem dX6_world_108 : decode cX6_world 108 = .ok (.aload_n 0, 1) := by decide +kernel
theorem dX6_world_109 : decode cX6_world 109 = .ok (.getfield 59, 3) := by decide +kernel
theorem dX6_world_112 : decode cX6_world 112 = .ok (.if_icmp .ge 40, 3) := by decide +kernel
theorem dX6_world_115 : decode cX6_world 115 = .ok (.aload_n 0, 1) := by decide +kernel
theorem dX6_world_116 : decode cX6_world 116 = .ok (.getfield 56, 3) := by decide +kernel
theorem dX6_world_119 : decode cX6_world 119 = .ok (.istore 4, 2) := by decide +kernel
theorem dX6_world_121 : decode cX6_world 121 = .ok (.aload_n 0, 1) := by decide +kernel
theorem dX6_world_122 : decode cX6_world 122 = .ok (.invokevirtual 65, 3) := by decide +kernel
theorem dX6_world_125 : decode cX6_world 125 = .ok (.istore 5, 2) := by decide +kernel
theorem dX6_world_127 : decode cX6_world 127 = .ok (.aload_n 0, 1) := by decide +kernel
theorem dX6_world_128 : decode cX6_world 128 = .ok (.invokevirtual 97, 3) := by decide +kernel
theorem dX6_world_131 : decode cX6_world 131 = .ok (.istore 6, 2) := by decide +kernel
theorem dX6_world_133 : decode cX6_world 133 = .ok (.aload_n 0, 1) := by decide +kernel
theorem dX6_world_134 : decode cX6_world 134 = .ok (.iload 5, 2) := by decide +kernel
theorem dX6_world_136 : decode cX6_world 136 = .ok (.invokevirtual 100, 3) := by decide +kernel
theorem dX6_world_139 : decode cX6_world 139 = .ok (.ifCond .ne 10, 3) := by decide +kernel
theorem dX6_world_142 : decode cX6_world 142 = .ok (.sipush (-2000), 3) := by decide +kernel
theorem dX6_world_145 : decode cX6_world 145 = .ok (.iload 4, 2) := by decide +kernel
theorem dX6_world_147 : decode cX6_world 147 = .ok (.isub, 1) := by decide +kernel
theorem dX6_world_148 : decode cX6_world 148 = .ok (.ireturn, 1) := by decide +kernel
theorem dX6_world_149 : decode cX6_world 149 = .ok (.goto (-45), 3) := by decide +kernel
theorem dX6_world_152 : decode cX6_world 152 = .ok (.iconst 0, 1) := by decide +kernel
theorem dX6_world_153 : decode cX6_world 153 = .ok (.istore 4, 2) := by decide +kernel
theorem dX6_world_155 : decode cX6_world 155 = .ok (.iload 4, 2) := by decide +kernel
theorem dX6_world_157 : decode cX6_world 157 = .ok (.sipush 503, 3) := by decide +kernel
theorem dX6_world_160 : decode cX6_world 160 = .ok (.if_icmp .ge 23, 3) := by decide +kernel
theorem dX6_world_163 : decode cX6_world 163 = .ok (.aload_n 0, 1) := by decide +kernel
theorem dX6_world_164 : decode cX6_world 164 = .ok (.getfield 9, 3) := by decide +kernel
theorem dX6_world_167 : decode cX6_world 167 = .ok (.iload 4, 2) := by decide +kernel
theorem dX6_world_169 : decode cX6_world 169 = .ok (.aload_n 0, 1) := by decide +kernel
theorem dX6_world_170 : decode cX6_world 170 = .ok (.getfield 41, 3) := by decide +kernel
theorem dX6_world_173 : decode cX6_world 173 = .ok (.iload 4, 2) := by decide +kernel
theorem dX6_world_175 : decode cX6_world 175 = .ok (.iaload, 1) := by decide +kernel
theorem dX6_world_176 : decode cX6_world 176 = .ok (.iastore, 1) := by decide +kernel
theorem dX6_world_177 : decode cX6_world 177 = .ok (.iinc 4 1, 3) := by decide +kernel
theorem dX6_world_180 : decode cX6_world 180 = .ok (.goto (-25), 3) := by decide +kernel
theorem dX6_world_183 : decode cX6_world 183 = .ok (.iload_n 3, 1) := by decide +kernel
theorem dX6_world_184 : decode cX6_world 184 = .ok (.ireturn, 1) := by decide +kernel
theorem dX6_place_0 : decode cX6_place 0 = .ok (.aload_n 0, 1) := by decide +kernel
theorem dX6_place_1 : decode cX6_place 1 = .ok (.iload_n 1, 1) := by decide +kernel
theorem dX6_place_2 : decode cX6_place 2 = .ok (.invokevirtual 103, 3) := by decide +kernel
theorem dX6_place_5 : decode cX6_place 5 = .ok (.ifCond .eq 24, 3) := by decide +kernel
theorem dX6_place_8 : decode cX6_place 8 = .ok (.iload_n 2, 1) := by decide +kernel
theorem dX6_place_9 : decode cX6_place 9 = .ok (.i2l, 1) := by decide +kernel
theorem dX6_place_10 : decode cX6_place 10 = .ok (.lconst 0, 1) := by decide +kernel
theorem dX6_place_11 : decode cX6_place 11 = .ok (.ldc2_w 106, 3) := by decide +kernel
theorem dX6_place_14 : decode cX6_place 14 = .ok (.invokestatic 48, 3) := by decide +kernel
theorem dX6_place_17 : decode cX6_place 17 = .ok (.ifCond .eq 12, 3) := by decide +kernel
theorem dX6_place_20 : decode cX6_place 20 = .ok (.aload_n 0, 1) := by decide +kernel
theorem dX6_place_21 : decode cX6_place 21 = .ok (.iload_n 1, 1) := by decide +kernel
theorem dX6_place_22 : decode cX6_place 22 = .ok (.iload_n 2, 1) := by decide +kernel
theorem dX6_place_23 : decode cX6_place 23 = .ok (.invokevirtual 108, 3) := by decide +kernel
theorem dX6_place_26 : decode cX6_place 26 = .ok (.goto 5, 3) := by decide +kernel
theorem dX6_place_29 : decode cX6_place 29 = .ok (.ldc 111, 2) := by decide +kernel
theorem dX6_place_31 : decode cX6_place 31 = .ok (.ireturn, 1) := by decide +kernel
theorem dX6_trade_0 : decode cX6_trade 0 = .ok (.aload_n 0, 1) := by decide +kernel
theorem dX6_trade_1 : decode cX6_trade 1 = .ok (.iload_n 1, 1) := by decide +kernel
theorem dX6_trade_2 : decode cX6_trade 2 = .ok (.invokevirtual 103, 3) := by decide +kernel
theorem dX6_trade_5 : decode cX6_trade 5 = .ok (.ifCond .eq 33, 3) := by decide +kernel
theorem dX6_trade_8 : decode cX6_trade 8 = .ok (.aload_n 0, 1) := by decide +kernel
theorem dX6_trade_9 : decode cX6_trade 9 = .ok (.iload_n 2, 1) := by decide +kernel
theorem dX6_trade_10 : decode cX6_trade 10 = .ok (.invokevirtual 103, 3) := by decide +kernel
theorem dX6_trade_13 : decode cX6_trade 13 = .ok (.ifCond .eq 25, 3) := by decide +kernel
theorem dX6_trade_16 : decode cX6_trade 16 = .ok (.iload_n 1, 1) := by decide +kernel
theorem dX6_trade_17 : decode cX6_trade 17 = .ok (.iload_n 2, 1) := by decide +kernel
theorem dX6_trade_18 : decode cX6_trade 18 = .ok (.if_icmp .eq 20, 3) := by decide +kernel
theorem dX6_trade_21 : decode cX6_trade 21 = .ok (.aload_n 0, 1) := by decide +kernel
theorem dX6_trade_22 : decode cX6_trade 22 = .ok (.getfield 9, 3) := by decide +kernel
theorem dX6_trade_25 : decode cX6_trade 25 = .ok (.bipush 43, 2) := by decide +kernel
theorem dX6_trade_27 : decode cX6_trade 27 = .ok (.bipush 10, 2) := by decide +kernel
theorem dX6_trade_29 : decode cX6_trade 29 = .ok (.iload_n 1, 1) := by decide +kernel
theorem dX6_trade_30 : decode cX6_trade 30 = .ok (.imul, 1) := by decide +kernel
theorem dX6_trade_31 : decode cX6_trade 31 = .ok (.iadd, 1) := by decide +kernel
theorem dX6_trade_32 : decode cX6_trade 32 = .ok (.iload_n 2, 1) := by decide +kernel
theorem dX6_trade_33 : decode cX6_trade 33 = .ok (.iadd, 1) := by decide +kernel
theorem dX6_trade_34 : decode cX6_trade 34 = .ok (.iaload, 1) := by decide +kernel
theorem dX6_trade_35 : decode cX6_trade 35 = .ok (.goto 4, 3) := by decide +kernel
theorem dX6_trade_38 : decode cX6_trade 38 = .ok (.iconst (-1), 1) := by decide +kernel
theorem dX6_trade_39 : decode cX6_trade 39 = .ok (.ireturn, 1) := by decide +kernel
theorem dX6_choose_0 : decode cX6_choose 0 = .ok (.aload_n 0, 1) := by decide +kernel
theorem dX6_choose_1 : decode cX6_choose 1 = .ok (.iload_n 1, 1) := by decide +kernel
theorem dX6_choose_2 : decode cX6_choose 2 = .ok (.invokevirtual 103, 3) := by decide +kernel
theorem dX6_choose_5 : decode cX6_choose 5 = .ok (.ifCond .eq 30, 3) := by decide +kernel
theorem dX6_choose_8 : decode cX6_choose 8 = .ok (.iload_n 2, 1) := by decide +kernel
theorem dX6_choose_9 : decode cX6_choose 9 = .ok (.i2l, 1) := by decide +kernel
theorem dX6_choose_10 : decode cX6_choose 10 = .ok (.ldc2_w 112, 3) := by decide +kernel
theorem dX6_choose_13 : decode cX6_choose 13 = .ok (.lconst 1, 1) := by decide +kernel
theorem dX6_choose_14 : decode cX6_choose 14 = .ok (.invokestatic 48, 3) := by decide +kernel
theorem dX6_choose_17 : decode cX6_choose 17 = .ok (.ifCond .eq 18, 3) := by decide +kernel
theorem dX6_choose_20 : decode cX6_choose 20 = .ok (.aload_n 0, 1) := by decide +kernel
theorem dX6_choose_21 : decode cX6_choose 21 = .ok (.iconst 3, 1) := by decide +kernel
theorem dX6_choose_22 : decode cX6_choose 22 = .ok (.iconst 4, 1) := by decide +kernel
theorem dX6_choose_23 : decode cX6_choose 23 = .ok (.iload_n 1, 1) := by decide +kernel
theorem dX6_choose_24 : decode cX6_choose 24 = .ok (.imul, 1) := by decide +kernel
theorem dX6_choose_25 : decode cX6_choose 25 = .ok (.iadd, 1) := by decide +kernel
theorem dX6_choose_26 : decode cX6_choose 26 = .ok (.iconst 2, 1) := by decide +kernel
theorem dX6_choose_27 : decode cX6_choose 27 = .ok (.iadd, 1) := by decide +kernel
theorem dX6_choose_28 : decode cX6_choose 28 = .ok (.iload_n 2, 1) := by decide +kernel
theorem dX6_choose_29 : decode cX6_choose 29 = .ok (.invokevirtual 114, 3) := by decide +kernel
theorem dX6_choose_32 : decode cX6_choose 32 = .ok (.goto 5, 3) := by decide +kernel
theorem dX6_choose_35 : decode cX6_choose 35 = .ok (.ldc 111, 2) := by decide +kernel
theorem dX6_choose_37 : decode cX6_choose 37 = .ok (.ireturn, 1) := by decide +kernel
theorem dX6_line_0 : decode cX6_line 0 = .ok (.iload_n 1, 1) := by decide +kernel
theorem dX6_line_1 : decode cX6_line 1 = .ok (.i2l, 1) := by decide +kernel
theorem dX6_line_2 : decode cX6_line 2 = .ok (.lconst 0, 1) := by decide +kernel
theorem dX6_line_3 : decode cX6_line 3 = .ok (.ldc2_w 117, 3) := by decide +kernel
theorem dX6_line_6 : decode cX6_line 6 = .ok (.invokestatic 48, 3) := by decide +kernel
theorem dX6_line_9 : decode cX6_line 9 = .ok (.ifCond .eq 12, 3) := by decide +kernel
theorem dX6_line_12 : decode cX6_line 12 = .ok (.aload_n 0, 1) := by decide +kernel
theorem dX6_line_13 : decode cX6_line 13 = .ok (.iconst 2, 1) := by decide +kernel
theorem dX6_line_14 : decode cX6_line 14 = .ok (.iload_n 1, 1) := by decide +kernel
theorem dX6_line_15 : decode cX6_line 15 = .ok (.invokevirtual 114, 3) := by decide +kernel
theorem dX6_line_18 : decode cX6_line 18 = .ok (.goto 4, 3) := by decide +kernel
theorem dX6_line_21 : decode cX6_line 21 = .ok (.iconst (-1), 1) := by decide +kernel
theorem dX6_line_22 : decode cX6_line 22 = .ok (.ireturn, 1) := by decide +kernel
theorem dX6_eastOf_0 : decode cX6_eastOf 0 = .ok (.iload_n 1, 1) := by decide +kernel
theorem dX6_eastOf_1 : decode cX6_eastOf 1 = .ok (.aload_n 0, 1) := by decide +kernel
theorem dX6_eastOf_2 : decode cX6_eastOf 2 = .ok (.getfield 9, 3) := by decide +kernel
theorem dX6_eastOf_5 : decode cX6_eastOf 5 = .ok (.iconst 2, 1) := by decide +kernel
theorem dX6_eastOf_6 : decode cX6_eastOf 6 = .ok (.iaload, 1) := by decide +kernel
theorem dX6_eastOf_7 : decode cX6_eastOf 7 = .ok (.isub, 1) := by decide +kernel
theorem dX6_eastOf_8 : decode cX6_eastOf 8 = .ok (.istore_n 2, 1) := by decide +kernel
theorem dX6_eastOf_9 : decode cX6_eastOf 9 = .ok (.iload_n 2, 1) := by decide +kernel
theorem dX6_eastOf_10 : decode cX6_eastOf 10 = .ok (.ifCond .ge 11, 3) := by decide +kernel
theorem dX6_eastOf_13 : decode cX6_eastOf 13 = .ok (.iload_n 2, 1) := by decide +kernel
theorem dX6_eastOf_14 : decode cX6_eastOf 14 = .ok (.sipush 360, 3) := by decide +kernel
theorem dX6_eastOf_17 : decode cX6_eastOf 17 = .ok (.iadd, 1) := by decide +kernel
theorem dX6_eastOf_18 : decode cX6_eastOf 18 = .ok (.goto 4, 3) := by decide +kernel
theorem dX6_eastOf_21 : decode cX6_eastOf 21 = .ok (.iload_n 2, 1) := by decide +kernel
theorem dX6_eastOf_22 : decode cX6_eastOf 22 = .ok (.ireturn, 1) := by decide +kernel
theorem dX6_dayAt_0 : decode cX6_dayAt 0 = .ok (.iload 5, 2) := by decide +kernel
theorem dX6_dayAt_2 : decode cX6_dayAt 2 = .ok (.i2l, 1) := by decide +kernel
theorem dX6_dayAt_3 : decode cX6_dayAt 3 = .ok (.ldc2_w 119, 3) := by decide +kernel
theorem dX6_dayAt_6 : decode cX6_dayAt 6 = .ok (.lsub, 1) := by decide +kernel
theorem dX6_dayAt_7 : decode cX6_dayAt 7 = .ok (.iload 4, 2) := by decide +kernel
theorem dX6_dayAt_9 : decode cX6_dayAt 9 = .ok (.iconst 1, 1) := by decide +kernel
theorem dX6_dayAt_10 : decode cX6_dayAt 10 = .ok (.if_icmp .ne 9, 3) := by decide +kernel
theorem dX6_dayAt_13 : decode cX6_dayAt 13 = .ok (.ldc2_w 121, 3) := by decide +kernel
theorem dX6_dayAt_16 : decode cX6_dayAt 16 = .ok (.goto 16, 3) := by decide +kernel
theorem dX6_dayAt_19 : decode cX6_dayAt 19 = .ok (.iload 4, 2) := by decide +kernel
theorem dX6_dayAt_21 : decode cX6_dayAt 21 = .ok (.iconst 2, 1) := by decide +kernel
theorem dX6_dayAt_22 : decode cX6_dayAt 22 = .ok (.if_icmp .ne 9, 3) := by decide +kernel
theorem dX6_dayAt_25 : decode cX6_dayAt 25 = .ok (.ldc2_w 123, 3) := by decide +kernel
theorem dX6_dayAt_28 : decode cX6_dayAt 28 = .ok (.goto 4, 3) := by decide +kernel
theorem dX6_dayAt_31 : decode cX6_dayAt 31 = .ok (.lconst 0, 1) := by decide +kernel
theorem dX6_dayAt_32 : decode cX6_dayAt 32 = .ok (.ladd, 1) := by decide +kernel
theorem dX6_dayAt_33 : decode cX6_dayAt 33 = .ok (.lload_n 2, 1) := by decide +kernel
theorem dX6_dayAt_34 : decode cX6_dayAt 34 = .ok (.lmul, 1) := by decide +kernel
theorem dX6_dayAt_35 : decode cX6_dayAt 35 = .ok (.ldc2_w 125, 3) := by decide +kernel
theorem dX6_dayAt_38 : decode cX6_dayAt 38 = .ok (.lload_n 0, 1) := by decide +kernel
theorem dX6_dayAt_39 : decode cX6_dayAt 39 = .ok (.lmul, 1) := by decide +kernel
theorem dX6_dayAt_40 : decode cX6_dayAt 40 = .ok (.ladd, 1) := by decide +kernel
theorem dX6_dayAt_41 : decode cX6_dayAt 41 = .ok (.lstore 6, 2) := by decide +kernel
theorem dX6_dayAt_43 : decode cX6_dayAt 43 = .ok (.lload 6, 2) := by decide +kernel
theorem dX6_dayAt_45 : decode cX6_dayAt 45 = .ok (.ldc2_w 127, 3) := by decide +kernel
theorem dX6_dayAt_48 : decode cX6_dayAt 48 = .ok (.lload_n 2, 1) := by decide +kernel
theorem dX6_dayAt_49 : decode cX6_dayAt 49 = .ok (.lmul, 1) := by decide +kernel
theorem dX6_dayAt_50 : decode cX6_dayAt 50 = .ok (.invokestatic 129, 3) := by decide +kernel
theorem dX6_dayAt_53 : decode cX6_dayAt 53 = .ok (.l2i, 1) := by decide +kernel
theorem dX6_dayAt_54 : decode cX6_dayAt 54 = .ok (.ireturn, 1) := by decide +kernel
theorem dX6_dayIn_0 : decode cX6_dayIn 0 = .ok (.aload_n 0, 1) := by decide +kernel
theorem dX6_dayIn_1 : decode cX6_dayIn 1 = .ok (.aload_n 0, 1) := by decide +kernel
theorem dX6_dayIn_2 : decode cX6_dayIn 2 = .ok (.iload_n 1, 1) := by decide +kernel
theorem dX6_dayIn_3 : decode cX6_dayIn 3 = .ok (.iconst 0, 1) := by decide +kernel
theorem dX6_dayIn_4 : decode cX6_dayIn 4 = .ok (.invokevirtual 108, 3) := by decide +kernel
theorem dX6_dayIn_7 : decode cX6_dayIn 7 = .ok (.invokevirtual 133, 3) := by decide +kernel
theorem dX6_dayIn_10 : decode cX6_dayIn 10 = .ok (.i2l, 1) := by decide +kernel
theorem dX6_dayIn_11 : decode cX6_dayIn 11 = .ok (.lconst 1, 1) := by decide +kernel
theorem dX6_dayIn_12 : decode cX6_dayIn 12 = .ok (.aload_n 0, 1) := by decide +kernel
theorem dX6_dayIn_13 : decode cX6_dayIn 13 = .ok (.iload_n 1, 1) := by decide +kernel
theorem dX6_dayIn_14 : decode cX6_dayIn 14 = .ok (.iconst 1, 1) := by decide +kernel
theorem dX6_dayIn_15 : decode cX6_dayIn 15 = .ok (.invokevirtual 108, 3) := by decide +kernel
theorem dX6_dayIn_18 : decode cX6_dayIn 18 = .ok (.iload_n 2, 1) := by decide +kernel
theorem dX6_dayIn_19 : decode cX6_dayIn 19 = .ok (.invokestatic 137, 3) := by decide +kernel
theorem dX6_dayIn_22 : decode cX6_dayIn 22 = .ok (.aload_n 0, 1) := by decide +kernel
theorem dX6_dayIn_23 : decode cX6_dayIn 23 = .ok (.iload_n 1, 1) := by decide +kernel
theorem dX6_dayIn_24 : decode cX6_dayIn 24 = .ok (.iconst 2, 1) := by decide +kernel
theorem dX6_dayIn_25 : decode cX6_dayIn 25 = .ok (.invokevirtual 108, 3) := by decide +kernel
theorem dX6_dayIn_28 : decode cX6_dayIn 28 = .ok (.iadd, 1) := by decide +kernel
theorem dX6_dayIn_29 : decode cX6_dayIn 29 = .ok (.ireturn, 1) := by decide +kernel
theorem dX6_dayOf_0 : decode cX6_dayOf 0 = .ok (.aload_n 0, 1) := by decide +kernel
theorem dX6_dayOf_1 : decode cX6_dayOf 1 = .ok (.iload_n 1, 1) := by decide +kernel
theorem dX6_dayOf_2 : decode cX6_dayOf 2 = .ok (.invokevirtual 103, 3) := by decide +kernel
theorem dX6_dayOf_5 : decode cX6_dayOf 5 = .ok (.ifCond .eq 20, 3) := by decide +kernel
theorem dX6_dayOf_8 : decode cX6_dayOf 8 = .ok (.iload_n 2, 1) := by decide +kernel
theorem dX6_dayOf_9 : decode cX6_dayOf 9 = .ok (.i2l, 1) := by decide +kernel
theorem dX6_dayOf_10 : decode cX6_dayOf 10 = .ok (.invokestatic 141, 3) := by decide +kernel
theorem dX6_dayOf_13 : decode cX6_dayOf 13 = .ok (.ifCond .eq 12, 3) := by decide +kernel
theorem dX6_dayOf_16 : decode cX6_dayOf 16 = .ok (.aload_n 0, 1) := by decide +kernel
theorem dX6_dayOf_17 : decode cX6_dayOf 17 = .ok (.iload_n 1, 1) := by decide +kernel
theorem dX6_dayOf_18 : decode cX6_dayOf 18 = .ok (.iload_n 2, 1) := by decide +kernel
theorem dX6_dayOf_19 : decode cX6_dayOf 19 = .ok (.invokevirtual 145, 3) := by decide +kernel
theorem dX6_dayOf_22 : decode cX6_dayOf 22 = .ok (.goto 5, 3) := by decide +kernel
theorem dX6_dayOf_25 : decode cX6_dayOf 25 = .ok (.ldc 111, 2) := by decide +kernel
theorem dX6_dayOf_27 : decode cX6_dayOf 27 = .ok (.ireturn, 1) := by decide +kernel
theorem dX6_hourOf_0 : decode cX6_hourOf 0 = .ok (.aload_n 0, 1) := by decide +kernel
theorem dX6_hourOf_1 : decode cX6_hourOf 1 = .ok (.iload_n 1, 1) := by decide +kernel
theorem dX6_hourOf_2 : decode cX6_hourOf 2 = .ok (.invokevirtual 103, 3) := by decide +kernel
theorem dX6_hourOf_5 : decode cX6_hourOf 5 = .ok (.ifCond .eq 11, 3) := by decide +kernel
theorem dX6_hourOf_8 : decode cX6_hourOf 8 = .ok (.iload_n 2, 1) := by decide +kernel
theorem dX6_hourOf_9 : decode cX6_hourOf 9 = .ok (.i2l, 1) := by decide +kernel
theorem dX6_hourOf_10 : decode cX6_hourOf 10 = .ok (.invokestatic 141, 3) := by decide +kernel
theorem dX6_hourOf_13 : decode cX6_hourOf 13 = .ok (.ifCond .ne 5, 3) := by decide +kernel
theorem dX6_hourOf_16 : decode cX6_hourOf 16 = .ok (.iconst (-1), 1) := by decide +kernel
theorem dX6_hourOf_17 : decode cX6_hourOf 17 = .ok (.ireturn, 1) := by decide +kernel
theorem dX6_hourOf_18 : decode cX6_hourOf 18 = .ok (.iload_n 2, 1) := by decide +kernel
theorem dX6_hourOf_19 : decode cX6_hourOf 19 = .ok (.sipush 720, 3) := by decide +kernel
theorem dX6_hourOf_22 : decode cX6_hourOf 22 = .ok (.isub, 1) := by decide +kernel
theorem dX6_hourOf_23 : decode cX6_hourOf 23 = .ok (.iconst 4, 1) := by decide +kernel
theorem dX6_hourOf_24 : decode cX6_hourOf 24 = .ok (.aload_n 0, 1) := by decide +kernel
theorem dX6_hourOf_25 : decode cX6_hourOf 25 = .ok (.aload_n 0, 1) := by decide +kernel
theorem dX6_hourOf_26 : decode cX6_hourOf 26 = .ok (.iload_n 1, 1) := by decide +kernel
theorem dX6_hourOf_27 : decode cX6_hourOf 27 = .ok (.iconst 0, 1) := by decide +kernel
theorem dX6_hourOf_28 : decode cX6_hourOf 28 = .ok (.invokevirtual 108, 3) := by decide +kernel
theorem dX6_hourOf_31 : decode cX6_hourOf 31 = .ok (.invokevirtual 133, 3) := by decide +kernel
theorem dX6_hourOf_34 : decode cX6_hourOf 34 = .ok (.imul, 1) := by decide +kernel
theorem dX6_hourOf_35 : decode cX6_hourOf 35 = .ok (.iadd, 1) := by decide +kernel
theorem dX6_hourOf_36 : decode cX6_hourOf 36 = .ok (.istore_n 3, 1) := by decide +kernel
theorem dX6_hourOf_37 : decode cX6_hourOf 37 = .ok (.iload_n 3, 1) := by decide +kernel
theorem dX6_hourOf_38 : decode cX6_hourOf 38 = .ok (.i2l, 1) := by decide +kernel
theorem dX6_hourOf_39 : decode cX6_hourOf 39 = .ok (.ldc2_w 127, 3) := by decide +kernel
theorem dX6_hourOf_42 : decode cX6_hourOf 42 = .ok (.iload_n 3, 1) := by decide +kernel
theorem dX6_hourOf_43 : decode cX6_hourOf 43 = .ok (.i2l, 1) := by decide +kernel
theorem dX6_hourOf_44 : decode cX6_hourOf 44 = .ok (.ldc2_w 127, 3) := by decide +kernel
theorem dX6_hourOf_47 : decode cX6_hourOf 47 = .ok (.invokestatic 129, 3) := by decide +kernel
theorem dX6_hourOf_50 : decode cX6_hourOf 50 = .ok (.lmul, 1) := by decide +kernel
theorem dX6_hourOf_51 : decode cX6_hourOf 51 = .ok (.lsub, 1) := by decide +kernel
theorem dX6_hourOf_52 : decode cX6_hourOf 52 = .ok (.l2i, 1) := by decide +kernel
theorem dX6_hourOf_53 : decode cX6_hourOf 53 = .ok (.ireturn, 1) := by decide +kernel
theorem dX6_tell_0 : decode cX6_tell 0 = .ok (.aload_n 0, 1) := by decide +kernel
theorem dX6_tell_1 : decode cX6_tell 1 = .ok (.getfield 9, 3) := by decide +kernel
theorem dX6_tell_4 : decode cX6_tell 4 = .ok (.sipush 143, 3) := by decide +kernel
theorem dX6_tell_7 : decode cX6_tell 7 = .ok (.bipush 45, 2) := by decide +kernel
theorem dX6_tell_9 : decode cX6_tell 9 = .ok (.iload_n 1, 1) := by decide +kernel
theorem dX6_tell_10 : decode cX6_tell 10 = .ok (.imul, 1) := by decide +kernel
theorem dX6_tell_11 : decode cX6_tell 11 = .ok (.iadd, 1) := by decide +kernel
theorem dX6_tell_12 : decode cX6_tell 12 = .ok (.iload_n 2, 1) := by decide +kernel
theorem dX6_tell_13 : decode cX6_tell 13 = .ok (.iadd, 1) := by decide +kernel
theorem dX6_tell_14 : decode cX6_tell 14 = .ok (.iaload, 1) := by decide +kernel
theorem dX6_tell_15 : decode cX6_tell 15 = .ok (.ireturn, 1) := by decide +kernel
theorem dX6_traveller_0 : decode cX6_traveller 0 = .ok (.iload_n 1, 1) := by decide +kernel
theorem dX6_traveller_1 : decode cX6_traveller 1 = .ok (.i2l, 1) := by decide +kernel
theorem dX6_traveller_2 : decode cX6_traveller 2 = .ok (.lconst 0, 1) := by decide +kernel
theorem dX6_traveller_3 : decode cX6_traveller 3 = .ok (.ldc2_w 54, 3) := by decide +kernel
theorem dX6_traveller_6 : decode cX6_traveller 6 = .ok (.invokestatic 48, 3) := by decide +kernel
theorem dX6_traveller_9 : decode cX6_traveller 9 = .ok (.ifCond .eq 23, 3) := by decide +kernel
theorem dX6_traveller_12 : decode cX6_traveller 12 = .ok (.aload_n 0, 1) := by decide +kernel
theorem dX6_traveller_13 : decode cX6_traveller 13 = .ok (.iload_n 2, 1) := by decide +kernel
theorem dX6_traveller_14 : decode cX6_traveller 14 = .ok (.invokevirtual 103, 3) := by decide +kernel
theorem dX6_traveller_17 : decode cX6_traveller 17 = .ok (.ifCond .eq 15, 3) := by decide +kernel
theorem dX6_traveller_20 : decode cX6_traveller 20 = .ok (.iload_n 3, 1) := by decide +kernel
theorem dX6_traveller_21 : decode cX6_traveller 21 = .ok (.i2l, 1) := by decide +kernel
theorem dX6_traveller_22 : decode cX6_traveller 22 = .ok (.lconst 0, 1) := by decide +kernel
theorem dX6_traveller_23 : decode cX6_traveller 23 = .ok (.ldc2_w 148, 3) := by decide +kernel
theorem dX6_traveller_26 : decode cX6_traveller 26 = .ok (.invokestatic 48, 3) := by decide +kernel
theorem dX6_traveller_29 : decode cX6_traveller 29 = .ok (.ifCond .ne 5, 3) := by decide +kernel
theorem dX6_traveller_32 : decode cX6_traveller 32 = .ok (.iconst (-1), 1) := by decide +kernel
theorem dX6_traveller_33 : decode cX6_traveller 33 = .ok (.ireturn, 1) := by decide +kernel
theorem dX6_traveller_34 : decode cX6_traveller 34 = .ok (.aload_n 0, 1) := by decide +kernel
theorem dX6_traveller_35 : decode cX6_traveller 35 = .ok (.getfield 9, 3) := by decide +kernel
theorem dX6_traveller_38 : decode cX6_traveller 38 = .ok (.iconst 1, 1) := by decide +kernel
theorem dX6_traveller_39 : decode cX6_traveller 39 = .ok (.iaload, 1) := by decide +kernel
theorem dX6_traveller_40 : decode cX6_traveller 40 = .ok (.bipush 8, 2) := by decide +kernel
theorem dX6_traveller_42 : decode cX6_traveller 42 = .ok (.if_icmp .ne 6, 3) := by decide +kernel
theorem dX6_traveller_45 : decode cX6_traveller 45 = .ok (.bipush (-2), 2) := by decide +kernel
theorem dX6_traveller_47 : decode cX6_traveller 47 = .ok (.ireturn, 1) := by decide +kernel
theorem dX6_traveller_48 : decode cX6_traveller 48 = .ok (.sipush 143, 3) := by decide +kernel
theorem dX6_traveller_51 : decode cX6_traveller 51 = .ok (.bipush 45, 2) := by decide +kernel
theorem dX6_traveller_53 : decode cX6_traveller 53 = .ok (.aload_n 0, 1) := by decide +kernel
theorem dX6_traveller_54 : decode cX6_traveller 54 = .ok (.getfield 9, 3) := by decide +kernel
theorem dX6_traveller_57 : decode cX6_traveller 57 = .ok (.iconst 1, 1) := by decide +kernel
theorem dX6_traveller_58 : decode cX6_traveller 58 = .ok (.iaload, 1) := by decide +kernel
theorem dX6_traveller_59 : decode cX6_traveller 59 = .ok (.imul, 1) := by decide +kernel
theorem dX6_traveller_60 : decode cX6_traveller 60 = .ok (.iadd, 1) := by decide +kernel
theorem dX6_traveller_61 : decode cX6_traveller 61 = .ok (.istore 4, 2) := by decide +kernel
theorem dX6_traveller_63 : decode cX6_traveller 63 = .ok (.iconst 0, 1) := by decide +kernel
theorem dX6_traveller_64 : decode cX6_traveller 64 = .ok (.istore 5, 2) := by decide +kernel
theorem dX6_traveller_66 : decode cX6_traveller 66 = .ok (.iload 5, 2) := by decide +kernel
theorem dX6_traveller_68 : decode cX6_traveller 68 = .ok (.bipush 45, 2) := by decide +kernel
theorem dX6_traveller_70 : decode cX6_traveller 70 = .ok (.if_icmp .ge 20, 3) := by decide +kernel
theorem dX6_traveller_73 : decode cX6_traveller 73 = .ok (.aload_n 0, 1) := by decide +kernel
theorem dX6_traveller_74 : decode cX6_traveller 74 = .ok (.getfield 9, 3) := by decide +kernel
theorem dX6_traveller_77 : decode cX6_traveller 77 = .ok (.iload 4, 2) := by decide +kernel
theorem dX6_traveller_79 : decode cX6_traveller 79 = .ok (.iload 5, 2) := by decide +kernel
theorem dX6_traveller_81 : decode cX6_traveller 81 = .ok (.iadd, 1) := by decide +kernel
theorem dX6_traveller_82 : decode cX6_traveller 82 = .ok (.iconst 0, 1) := by decide +kernel
theorem dX6_traveller_83 : decode cX6_traveller 83 = .ok (.iastore, 1) := by decide +kernel
theorem dX6_traveller_84 : decode cX6_traveller 84 = .ok (.iinc 5 1, 3) := by decide +kernel
theorem dX6_traveller_87 : decode cX6_traveller 87 = .ok (.goto (-21), 3) := by decide +kernel
theorem dX6_traveller_90 : decode cX6_traveller 90 = .ok (.aload_n 0, 1) := by decide +kernel
theorem dX6_traveller_91 : decode cX6_traveller 91 = .ok (.getfield 9, 3) := by decide +kernel
theorem dX6_traveller_94 : decode cX6_traveller 94 = .ok (.iload 4, 2) := by decide +kernel
theorem dX6_traveller_96 : decode cX6_traveller 96 = .ok (.iload_n 1, 1) := by decide +kernel
theorem dX6_traveller_97 : decode cX6_traveller 97 = .ok (.iastore, 1) := by decide +kernel
theorem dX6_traveller_98 : decode cX6_traveller 98 = .ok (.aload_n 0, 1) := by decide +kernel
theorem dX6_traveller_99 : decode cX6_traveller 99 = .ok (.getfield 9, 3) := by decide +kernel
theorem dX6_traveller_102 : decode cX6_traveller 102 = .ok (.iload 4, 2) := by decide +kernel
theorem dX6_traveller_104 : decode cX6_traveller 104 = .ok (.iconst 1, 1) := by decide +kernel
theorem dX6_traveller_105 : decode cX6_traveller 105 = .ok (.iadd, 1) := by decide +kernel
theorem dX6_traveller_106 : decode cX6_traveller 106 = .ok (.iload_n 2, 1) := by decide +kernel
theorem dX6_traveller_107 : decode cX6_traveller 107 = .ok (.iastore, 1) := by decide +kernel
theorem dX6_traveller_108 : decode cX6_traveller 108 = .ok (.aload_n 0, 1) := by decide +kernel
theorem dX6_traveller_109 : decode cX6_traveller 109 = .ok (.getfield 9, 3) := by decide +kernel
theorem dX6_traveller_112 : decode cX6_traveller 112 = .ok (.iload 4, 2) := by decide +kernel
theorem dX6_traveller_114 : decode cX6_traveller 114 = .ok (.iconst 2, 1) := by decide +kernel
theorem dX6_traveller_115 : decode cX6_traveller 115 = .ok (.iadd, 1) := by decide +kernel
theorem dX6_traveller_116 : decode cX6_traveller 116 = .ok (.iload_n 3, 1) := by decide +kernel
theorem dX6_traveller_117 : decode cX6_traveller 117 = .ok (.iastore, 1) := by decide +kernel
theorem dX6_traveller_118 : decode cX6_traveller 118 = .ok (.aload_n 0, 1) := by decide +kernel
theorem dX6_traveller_119 : decode cX6_traveller 119 = .ok (.getfield 9, 3) := by decide +kernel
theorem dX6_traveller_122 : decode cX6_traveller 122 = .ok (.iconst 1, 1) := by decide +kernel
theorem dX6_traveller_123 : decode cX6_traveller 123 = .ok (.dup2, 1) := by decide +kernel
theorem dX6_traveller_124 : decode cX6_traveller 124 = .ok (.iaload, 1) := by decide +kernel
theorem dX6_traveller_125 : decode cX6_traveller 125 = .ok (.iconst 1, 1) := by decide +kernel
theorem dX6_traveller_126 : decode cX6_traveller 126 = .ok (.iadd, 1) := by decide +kernel
theorem dX6_traveller_127 : decode cX6_traveller 127 = .ok (.iastore, 1) := by decide +kernel
theorem dX6_traveller_128 : decode cX6_traveller 128 = .ok (.aload_n 0, 1) := by decide +kernel
theorem dX6_traveller_129 : decode cX6_traveller 129 = .ok (.getfield 9, 3) := by decide +kernel
theorem dX6_traveller_132 : decode cX6_traveller 132 = .ok (.iconst 1, 1) := by decide +kernel
theorem dX6_traveller_133 : decode cX6_traveller 133 = .ok (.iaload, 1) := by decide +kernel
theorem dX6_traveller_134 : decode cX6_traveller 134 = .ok (.iconst 1, 1) := by decide +kernel
theorem dX6_traveller_135 : decode cX6_traveller 135 = .ok (.isub, 1) := by decide +kernel
theorem dX6_traveller_136 : decode cX6_traveller 136 = .ok (.ireturn, 1) := by decide +kernel
theorem dX6_legOf_0 : decode cX6_legOf 0 = .ok (.aload_n 0, 1) := by decide +kernel
theorem dX6_legOf_1 : decode cX6_legOf 1 = .ok (.iload_n 1, 1) := by decide +kernel
theorem dX6_legOf_2 : decode cX6_legOf 2 = .ok (.iconst 4, 1) := by decide +kernel
theorem dX6_legOf_3 : decode cX6_legOf 3 = .ok (.iconst 4, 1) := by decide +kernel
theorem dX6_legOf_4 : decode cX6_legOf 4 = .ok (.iload_n 2, 1) := by decide +kernel
theorem dX6_legOf_5 : decode cX6_legOf 5 = .ok (.imul, 1) := by decide +kernel
theorem dX6_legOf_6 : decode cX6_legOf 6 = .ok (.iadd, 1) := by decide +kernel
theorem dX6_legOf_7 : decode cX6_legOf 7 = .ok (.iload_n 3, 1) := by decide +kernel
theorem dX6_legOf_8 : decode cX6_legOf 8 = .ok (.iadd, 1) := by decide +kernel
theorem dX6_legOf_9 : decode cX6_legOf 9 = .ok (.invokevirtual 150, 3) := by decide +kernel
theorem dX6_legOf_12 : decode cX6_legOf 12 = .ok (.ireturn, 1) := by decide +kernel
theorem dX6_endOf_0 : decode cX6_endOf 0 = .ok (.aload_n 0, 1) := by decide +kernel
theorem dX6_endOf_1 : decode cX6_endOf 1 = .ok (.iload_n 1, 1) := by decide +kernel
theorem dX6_endOf_2 : decode cX6_endOf 2 = .ok (.iload_n 2, 1) := by decide +kernel
theorem dX6_endOf_3 : decode cX6_endOf 3 = .ok (.iconst 2, 1) := by decide +kernel
theorem dX6_endOf_4 : decode cX6_endOf 4 = .ok (.invokevirtual 153, 3) := by decide +kernel
theorem dX6_endOf_7 : decode cX6_endOf 7 = .ok (.bipush 60, 2) := by decide +kernel
theorem dX6_endOf_9 : decode cX6_endOf 9 = .ok (.aload_n 0, 1) := by decide +kernel
theorem dX6_endOf_10 : decode cX6_endOf 10 = .ok (.iload_n 1, 1) := by decide +kernel
theorem dX6_endOf_11 : decode cX6_endOf 11 = .ok (.iload_n 2, 1) := by decide +kernel
theorem dX6_endOf_12 : decode cX6_endOf 12 = .ok (.iconst 3, 1) := by decide +kernel
theorem dX6_endOf_13 : decode cX6_endOf 13 = .ok (.invokevirtual 153, 3) := by decide +kernel
theorem dX6_endOf_16 : decode cX6_endOf 16 = .ok (.imul, 1) := by decide +kernel
theorem dX6_endOf_17 : decode cX6_endOf 17 = .ok (.iadd, 1) := by decide +kernel
theorem dX6_endOf_18 : decode cX6_endOf 18 = .ok (.ireturn, 1) := by decide +kernel
theorem dX6_leg_0 : decode cX6_leg 0 = .ok (.aload_n 0, 1) := by decide +kernel
theorem dX6_leg_1 : decode cX6_leg 1 = .ok (.iload_n 1, 1) := by decide +kernel
theorem dX6_leg_2 : decode cX6_leg 2 = .ok (.invokevirtual 157, 3) := by decide +kernel
theorem dX6_leg_5 : decode cX6_leg 5 = .ok (.ifCond .eq 33, 3) := by decide +kernel
theorem dX6_leg_8 : decode cX6_leg 8 = .ok (.aload_n 0, 1) := by decide +kernel
theorem dX6_leg_9 : decode cX6_leg 9 = .ok (.iload_n 2, 1) := by decide +kernel
theorem dX6_leg_10 : decode cX6_leg 10 = .ok (.invokevirtual 103, 3) := by decide +kernel
theorem dX6_leg_13 : decode cX6_leg 13 = .ok (.ifCond .eq 25, 3) := by decide +kernel
theorem dX6_leg_16 : decode cX6_leg 16 = .ok (.iload 4, 2) := by decide +kernel
theorem dX6_leg_18 : decode cX6_leg 18 = .ok (.i2l, 1) := by decide +kernel
theorem dX6_leg_19 : decode cX6_leg 19 = .ok (.invokestatic 141, 3) := by decide +kernel
theorem dX6_leg_22 : decode cX6_leg 22 = .ok (.ifCond .eq 16, 3) := by decide +kernel
theorem dX6_leg_25 : decode cX6_leg 25 = .ok (.iload 5, 2) := by decide +kernel
theorem dX6_leg_27 : decode cX6_leg 27 = .ok (.i2l, 1) := by decide +kernel
theorem dX6_leg_28 : decode cX6_leg 28 = .ok (.lconst 1, 1) := by decide +kernel
theorem dX6_leg_29 : decode cX6_leg 29 = .ok (.ldc2_w 160, 3) := by decide +kernel
theorem dX6_leg_32 : decode cX6_leg 32 = .ok (.invokestatic 48, 3) := by decide +kernel
theorem dX6_leg_35 : decode cX6_leg 35 = .ok (.ifCond .ne 5, 3) := by decide +kernel
theorem dX6_leg_38 : decode cX6_leg 38 = .ok (.iconst (-1), 1) := by decide +kernel
theorem dX6_leg_39 : decode cX6_leg 39 = .ok (.ireturn, 1) := by decide +kernel
theorem dX6_leg_40 : decode cX6_leg 40 = .ok (.aload_n 0, 1) := by decide +kernel
theorem dX6_leg_41 : decode cX6_leg 41 = .ok (.iload_n 1, 1) := by decide +kernel
theorem dX6_leg_42 : decode cX6_leg 42 = .ok (.iconst 3, 1) := by decide +kernel
theorem dX6_leg_43 : decode cX6_leg 43 = .ok (.invokevirtual 150, 3) := by decide +kernel
theorem dX6_leg_46 : decode cX6_leg 46 = .ok (.istore 6, 2) := by decide +kernel
theorem dX6_leg_48 : decode cX6_leg 48 = .ok (.iload 6, 2) := by decide +kernel
theorem dX6_leg_50 : decode cX6_leg 50 = .ok (.bipush 6, 2) := by decide +kernel
theorem dX6_leg_52 : decode cX6_leg 52 = .ok (.if_icmp .ne 6, 3) := by decide +kernel
theorem dX6_leg_55 : decode cX6_leg 55 = .ok (.bipush (-2), 2) := by decide +kernel
theorem dX6_leg_57 : decode cX6_leg 57 = .ok (.ireturn, 1) := by decide +kernel
theorem dX6_leg_58 : decode cX6_leg 58 = .ok (.iload 6, 2) := by decide +kernel
theorem dX6_leg_60 : decode cX6_leg 60 = .ok (.ifCond .le 20, 3) := by decide +kernel
theorem dX6_leg_63 : decode cX6_leg 63 = .ok (.iload 4, 2) := by decide +kernel
theorem dX6_leg_65 : decode cX6_leg 65 = .ok (.aload_n 0, 1) := by decide +kernel
theorem dX6_leg_66 : decode cX6_leg 66 = .ok (.iload_n 1, 1) := by decide +kernel
theorem dX6_leg_67 : decode cX6_leg 67 = .ok (.iload 6, 2) := by decide +kernel
theorem dX6_leg_69 : decode cX6_leg 69 = .ok (.iconst 1, 1) := by decide +kernel
theorem dX6_leg_70 : decode cX6_leg 70 = .ok (.isub, 1) := by decide +kernel
theorem dX6_leg_71 : decode cX6_leg 71 = .ok (.invokevirtual 162, 3) := by decide +kernel
theorem dX6_leg_74 : decode cX6_leg 74 = .ok (.if_icmp .ge 6, 3) := by decide +kernel
theorem dX6_leg_77 : decode cX6_leg 77 = .ok (.bipush (-3), 2) := by decide +kernel
theorem dX6_leg_79 : decode cX6_leg 79 = .ok (.ireturn, 1) := by decide +kernel
theorem dX6_leg_80 : decode cX6_leg 80 = .ok (.sipush 143, 3) := by decide +kernel
theorem dX6_leg_83 : decode cX6_leg 83 = .ok (.bipush 45, 2) := by decide +kernel
theorem dX6_leg_85 : decode cX6_leg 85 = .ok (.iload_n 1, 1) := by decide +kernel
theorem dX6_leg_86 : decode cX6_leg 86 = .ok (.imul, 1) := by decide +kernel
theorem dX6_leg_87 : decode cX6_leg 87 = .ok (.iadd, 1) := by decide +kernel
theorem dX6_leg_88 : decode cX6_leg 88 = .ok (.iconst 4, 1) := by decide +kernel
theorem dX6_leg_89 : decode cX6_leg 89 = .ok (.iadd, 1) := by decide +kernel
theorem dX6_leg_90 : decode cX6_leg 90 = .ok (.iconst 4, 1) := by decide +kernel
theorem dX6_leg_91 : decode cX6_leg 91 = .ok (.iload 6, 2) := by decide +kernel
theorem dX6_leg_93 : decode cX6_leg 93 = .ok (.imul, 1) := by decide +kernel
theorem dX6_leg_94 : decode cX6_leg 94 = .ok (.iadd, 1) := by decide +kernel
theorem dX6_leg_95 : decode cX6_leg 95 = .ok (.istore 7, 2) := by decide +kernel
theorem dX6_leg_97 : decode cX6_leg 97 = .ok (.aload_n 0, 1) := by decide +kernel
theorem dX6_leg_98 : decode cX6_leg 98 = .ok (.getfield 9, 3) := by decide +kernel
theorem dX6_leg_101 : decode cX6_leg 101 = .ok (.iload 7, 2) := by decide +kernel
theorem dX6_leg_103 : decode cX6_leg 103 = .ok (.iload_n 2, 1) := by decide +kernel
theorem dX6_leg_104 : decode cX6_leg 104 = .ok (.iastore, 1) := by decide +kernel
theorem dX6_leg_105 : decode cX6_leg 105 = .ok (.aload_n 0, 1) := by decide +kernel
theorem dX6_leg_106 : decode cX6_leg 106 = .ok (.getfield 9, 3) := by decide +kernel
theorem dX6_leg_109 : decode cX6_leg 109 = .ok (.iload 7, 2) := by decide +kernel
theorem dX6_leg_111 : decode cX6_leg 111 = .ok (.iconst 1, 1) := by decide +kernel
theorem dX6_leg_112 : decode cX6_leg 112 = .ok (.iadd, 1) := by decide +kernel
theorem dX6_leg_113 : decode cX6_leg 113 = .ok (.iload_n 3, 1) := by decide +kernel
theorem dX6_leg_114 : decode cX6_leg 114 = .ok (.ifCond .eq 7, 3) := by decide +kernel
theorem dX6_leg_117 : decode cX6_leg 117 = .ok (.iconst 1, 1) := by decide +kernel
theorem dX6_leg_118 : decode cX6_leg 118 = .ok (.goto 4, 3) := by decide +kernel
theorem dX6_leg_121 : decode cX6_leg 121 = .ok (.iconst 0, 1) := by decide +kernel
theorem dX6_leg_122 : decode cX6_leg 122 = .ok (.iastore, 1) := by decide +kernel
theorem dX6_leg_123 : decode cX6_leg 123 = .ok (.aload_n 0, 1) := by decide +kernel
theorem dX6_leg_124 : decode cX6_leg 124 = .ok (.getfield 9, 3) := by decide +kernel
theorem dX6_leg_127 : decode cX6_leg 127 = .ok (.iload 7, 2) := by decide +kernel
theorem dX6_leg_129 : decode cX6_leg 129 = .ok (.iconst 2, 1) := by decide +kernel
theorem dX6_leg_130 : decode cX6_leg 130 = .ok (.iadd, 1) := by decide +kernel
theorem dX6_leg_131 : decode cX6_leg 131 = .ok (.iload 4, 2) := by decide +kernel
theorem dX6_leg_133 : decode cX6_leg 133 = .ok (.iastore, 1) := by decide +kernel
theorem dX6_leg_134 : decode cX6_leg 134 = .ok (.aload_n 0, 1) := by decide +kernel
theorem dX6_leg_135 : decode cX6_leg 135 = .ok (.getfield 9, 3) := by decide +kernel
theorem dX6_leg_138 : decode cX6_leg 138 = .ok (.iload 7, 2) := by decide +kernel
theorem dX6_leg_140 : decode cX6_leg 140 = .ok (.iconst 3, 1) := by decide +kernel
theorem dX6_leg_141 : decode cX6_leg 141 = .ok (.iadd, 1) := by decide +kernel
theorem dX6_leg_142 : decode cX6_leg 142 = .ok (.iload 5, 2) := by decide +kernel
theorem dX6_leg_144 : decode cX6_leg 144 = .ok (.iastore, 1) := by decide +kernel
theorem dX6_leg_145 : decode cX6_leg 145 = .ok (.aload_n 0, 1) := by decide +kernel
theorem dX6_leg_146 : decode cX6_leg 146 = .ok (.getfield 9, 3) := by decide +kernel
theorem dX6_leg_149 : decode cX6_leg 149 = .ok (.sipush 143, 3) := by decide +kernel
theorem dX6_leg_152 : decode cX6_leg 152 = .ok (.bipush 45, 2) := by decide +kernel
theorem dX6_leg_154 : decode cX6_leg 154 = .ok (.iload_n 1, 1) := by decide +kernel
theorem dX6_leg_155 : decode cX6_leg 155 = .ok (.imul, 1) := by decide +kernel
theorem dX6_leg_156 : decode cX6_leg 156 = .ok (.iadd, 1) := by decide +kernel
theorem dX6_leg_157 : decode cX6_leg 157 = .ok (.iconst 3, 1) := by decide +kernel
theorem dX6_leg_158 : decode cX6_leg 158 = .ok (.iadd, 1) := by decide +kernel
theorem dX6_leg_159 : decode cX6_leg 159 = .ok (.dup2, 1) := by decide +kernel
theorem dX6_leg_160 : decode cX6_leg 160 = .ok (.iaload, 1) := by decide +kernel
theorem dX6_leg_161 : decode cX6_leg 161 = .ok (.iconst 1, 1) := by decide +kernel
theorem dX6_leg_162 : decode cX6_leg 162 = .ok (.iadd, 1) := by decide +kernel
theorem dX6_leg_163 : decode cX6_leg 163 = .ok (.iastore, 1) := by decide +kernel
theorem dX6_leg_164 : decode cX6_leg 164 = .ok (.iload 6, 2) := by decide +kernel
theorem dX6_leg_166 : decode cX6_leg 166 = .ok (.iconst 1, 1) := by decide +kernel
theorem dX6_leg_167 : decode cX6_leg 167 = .ok (.iadd, 1) := by decide +kernel
theorem dX6_leg_168 : decode cX6_leg 168 = .ok (.ireturn, 1) := by decide +kernel
theorem dX6_captain_0 : decode cX6_captain 0 = .ok (.aload_n 0, 1) := by decide +kernel
theorem dX6_captain_1 : decode cX6_captain 1 = .ok (.iload_n 1, 1) := by decide +kernel
theorem dX6_captain_2 : decode cX6_captain 2 = .ok (.invokevirtual 157, 3) := by decide +kernel
theorem dX6_captain_5 : decode cX6_captain 5 = .ok (.ifCond .eq 21, 3) := by decide +kernel
theorem dX6_captain_8 : decode cX6_captain 8 = .ok (.iload_n 2, 1) := by decide +kernel
theorem dX6_captain_9 : decode cX6_captain 9 = .ok (.i2l, 1) := by decide +kernel
theorem dX6_captain_10 : decode cX6_captain 10 = .ok (.invokestatic 141, 3) := by decide +kernel
theorem dX6_captain_13 : decode cX6_captain 13 = .ok (.ifCond .eq 13, 3) := by decide +kernel
theorem dX6_captain_16 : decode cX6_captain 16 = .ok (.iload_n 3, 1) := by decide +kernel
theorem dX6_captain_17 : decode cX6_captain 17 = .ok (.iconst 1, 1) := by decide +kernel
theorem dX6_captain_18 : decode cX6_captain 18 = .ok (.if_icmp .eq 10, 3) := by decide +kernel
theorem dX6_captain_21 : decode cX6_captain 21 = .ok (.iload_n 3, 1) := by decide +kernel
theorem dX6_captain_22 : decode cX6_captain 22 = .ok (.iconst (-1), 1) := by decide +kernel
theorem dX6_captain_23 : decode cX6_captain 23 = .ok (.if_icmp .eq 5, 3) := by decide +kernel
theorem dX6_captain_26 : decode cX6_captain 26 = .ok (.iconst (-1), 1) := by decide +kernel
theorem dX6_captain_27 : decode cX6_captain 27 = .ok (.ireturn, 1) := by decide +kernel
theorem dX6_captain_28 : decode cX6_captain 28 = .ok (.sipush 143, 3) := by decide +kernel
theorem dX6_captain_31 : decode cX6_captain 31 = .ok (.bipush 45, 2) := by decide +kernel
theorem dX6_captain_33 : decode cX6_captain 33 = .ok (.iload_n 1, 1) := by decide +kernel
theorem dX6_captain_34 : decode cX6_captain 34 = .ok (.imul, 1) := by decide +kernel
theorem dX6_captain_35 : decode cX6_captain 35 = .ok (.iadd, 1) := by decide +kernel
theorem dX6_captain_36 : decode cX6_captain 36 = .ok (.bipush 28, 2) := by decide +kernel
theorem dX6_captain_38 : decode cX6_captain 38 = .ok (.iadd, 1) := by decide +kernel
theorem dX6_captain_39 : decode cX6_captain 39 = .ok (.istore 4, 2) := by decide +kernel
theorem dX6_captain_41 : decode cX6_captain 41 = .ok (.aload_n 0, 1) := by decide +kernel
theorem dX6_captain_42 : decode cX6_captain 42 = .ok (.getfield 9, 3) := by decide +kernel
theorem dX6_captain_45 : decode cX6_captain 45 = .ok (.iload 4, 2) := by decide +kernel
theorem dX6_captain_47 : decode cX6_captain 47 = .ok (.iaload, 1) := by decide +kernel
theorem dX6_captain_48 : decode cX6_captain 48 = .ok (.bipush 8, 2) := by decide +kernel
theorem dX6_captain_50 : decode cX6_captain 50 = .ok (.if_icmp .ne 6, 3) := by decide +kernel
theorem dX6_captain_53 : decode cX6_captain 53 = .ok (.bipush (-2), 2) := by decide +kernel
theorem dX6_captain_55 : decode cX6_captain 55 = .ok (.ireturn, 1) := by decide +kernel
theorem dX6_captain_56 : decode cX6_captain 56 = .ok (.aload_n 0, 1) := by decide +kernel
theorem dX6_captain_57 : decode cX6_captain 57 = .ok (.iload_n 1, 1) := by decide +kernel
theorem dX6_captain_58 : decode cX6_captain 58 = .ok (.iconst 0, 1) := by decide +kernel
theorem dX6_captain_59 : decode cX6_captain 59 = .ok (.invokevirtual 150, 3) := by decide +kernel
theorem dX6_captain_62 : decode cX6_captain 62 = .ok (.iconst 4, 1) := by decide +kernel
theorem dX6_captain_63 : decode cX6_captain 63 = .ok (.if_icmp .eq 6, 3) := by decide +kernel
theorem dX6_captain_66 : decode cX6_captain 66 = .ok (.bipush (-3), 2) := by decide +kernel
theorem dX6_captain_68 : decode cX6_captain 68 = .ok (.ireturn, 1) := by decide +kernel
theorem dX6_captain_69 : decode cX6_captain 69 = .ok (.aload_n 0, 1) := by decide +kernel
theorem dX6_captain_70 : decode cX6_captain 70 = .ok (.getfield 9, 3) := by decide +kernel
theorem dX6_captain_73 : decode cX6_captain 73 = .ok (.iload 4, 2) := by decide +kernel
theorem dX6_captain_75 : decode cX6_captain 75 = .ok (.iconst 1, 1) := by decide +kernel
theorem dX6_captain_76 : decode cX6_captain 76 = .ok (.iadd, 1) := by decide +kernel
theorem dX6_captain_77 : decode cX6_captain 77 = .ok (.iconst 2, 1) := by decide +kernel
theorem dX6_captain_78 : decode cX6_captain 78 = .ok (.aload_n 0, 1) := by decide +kernel
theorem dX6_captain_79 : decode cX6_captain 79 = .ok (.getfield 9, 3) := by decide +kernel
theorem dX6_captain_82 : decode cX6_captain 82 = .ok (.iload 4, 2) := by decide +kernel
theorem dX6_captain_84 : decode cX6_captain 84 = .ok (.iaload, 1) := by decide +kernel
theorem dX6_captain_85 : decode cX6_captain 85 = .ok (.imul, 1) := by decide +kernel
theorem dX6_captain_86 : decode cX6_captain 86 = .ok (.iadd, 1) := by decide +kernel
theorem dX6_captain_87 : decode cX6_captain 87 = .ok (.iload_n 2, 1) := by decide +kernel
theorem dX6_captain_88 : decode cX6_captain 88 = .ok (.iastore, 1) := by decide +kernel
theorem dX6_captain_89 : decode cX6_captain 89 = .ok (.aload_n 0, 1) := by decide +kernel
theorem dX6_captain_90 : decode cX6_captain 90 = .ok (.getfield 9, 3) := by decide +kernel
theorem dX6_captain_93 : decode cX6_captain 93 = .ok (.iload 4, 2) := by decide +kernel
theorem dX6_captain_95 : decode cX6_captain 95 = .ok (.iconst 2, 1) := by decide +kernel
theorem dX6_captain_96 : decode cX6_captain 96 = .ok (.iadd, 1) := by decide +kernel
theorem dX6_captain_97 : decode cX6_captain 97 = .ok (.iconst 2, 1) := by decide +kernel
theorem dX6_captain_98 : decode cX6_captain 98 = .ok (.aload_n 0, 1) := by decide +kernel
theorem dX6_captain_99 : decode cX6_captain 99 = .ok (.getfield 9, 3) := by decide +kernel
theorem dX6_captain_102 : decode cX6_captain 102 = .ok (.iload 4, 2) := by decide +kernel
theorem dX6_captain_104 : decode cX6_captain 104 = .ok (.iaload, 1) := by decide +kernel
theorem dX6_captain_105 : decode cX6_captain 105 = .ok (.imul, 1) := by decide +kernel
theorem dX6_captain_106 : decode cX6_captain 106 = .ok (.iadd, 1) := by decide +kernel
theorem dX6_captain_107 : decode cX6_captain 107 = .ok (.iload_n 3, 1) := by decide +kernel
theorem dX6_captain_108 : decode cX6_captain 108 = .ok (.iastore, 1) := by decide +kernel
theorem dX6_captain_109 : decode cX6_captain 109 = .ok (.aload_n 0, 1) := by decide +kernel
theorem dX6_captain_110 : decode cX6_captain 110 = .ok (.getfield 9, 3) := by decide +kernel
theorem dX6_captain_113 : decode cX6_captain 113 = .ok (.iload 4, 2) := by decide +kernel
theorem dX6_captain_115 : decode cX6_captain 115 = .ok (.dup2, 1) := by decide +kernel
theorem dX6_captain_116 : decode cX6_captain 116 = .ok (.iaload, 1) := by decide +kernel
theorem dX6_captain_117 : decode cX6_captain 117 = .ok (.iconst 1, 1) := by decide +kernel
theorem dX6_captain_118 : decode cX6_captain 118 = .ok (.iadd, 1) := by decide +kernel
theorem dX6_captain_119 : decode cX6_captain 119 = .ok (.iastore, 1) := by decide +kernel
theorem dX6_captain_120 : decode cX6_captain 120 = .ok (.aload_n 0, 1) := by decide +kernel
theorem dX6_captain_121 : decode cX6_captain 121 = .ok (.getfield 9, 3) := by decide +kernel
theorem dX6_captain_124 : decode cX6_captain 124 = .ok (.iload 4, 2) := by decide +kernel
theorem dX6_captain_126 : decode cX6_captain 126 = .ok (.iaload, 1) := by decide +kernel
theorem dX6_captain_127 : decode cX6_captain 127 = .ok (.ireturn, 1) := by decide +kernel
theorem dX6_findWhere_0 : decode cX6_findWhere 0 = .ok (.aload_n 0, 1) := by decide +kernel
theorem dX6_findWhere_1 : decode cX6_findWhere 1 = .ok (.lconst 0, 1) := by decide +kernel
theorem dX6_findWhere_2 : decode cX6_findWhere 2 = .ok (.putfield 165, 3) := by decide +kernel
theorem dX6_findWhere_5 : decode cX6_findWhere 5 = .ok (.aload_n 0, 1) := by decide +kernel
theorem dX6_findWhere_6 : decode cX6_findWhere 6 = .ok (.lconst 1, 1) := by decide +kernel
theorem dX6_findWhere_7 : decode cX6_findWhere 7 = .ok (.putfield 169, 3) := by decide +kernel
theorem dX6_findWhere_10 : decode cX6_findWhere 10 = .ok (.aload_n 0, 1) := by decide +kernel
theorem dX6_findWhere_11 : decode cX6_findWhere 11 = .ok (.aload_n 0, 1) := by decide +kernel
theorem dX6_findWhere_12 : decode cX6_findWhere 12 = .ok (.iload_n 1, 1) := by decide +kernel
theorem dX6_findWhere_13 : decode cX6_findWhere 13 = .ok (.iconst 1, 1) := by decide +kernel
theorem dX6_findWhere_14 : decode cX6_findWhere 14 = .ok (.invokevirtual 150, 3) := by decide +kernel
theorem dX6_findWhere_17 : decode cX6_findWhere 17 = .ok (.putfield 172, 3) := by decide +kernel
theorem dX6_findWhere_20 : decode cX6_findWhere 20 = .ok (.aload_n 0, 1) := by decide +kernel
theorem dX6_findWhere_21 : decode cX6_findWhere 21 = .ok (.iconst 0, 1) := by decide +kernel
theorem dX6_findWhere_22 : decode cX6_findWhere 22 = .ok (.putfield 175, 3) := by decide +kernel
theorem dX6_findWhere_25 : decode cX6_findWhere 25 = .ok (.iconst 0, 1) := by decide +kernel
theorem dX6_findWhere_26 : decode cX6_findWhere 26 = .ok (.istore_n 3, 1) := by decide +kernel
theorem dX6_findWhere_27 : decode cX6_findWhere 27 = .ok (.iload_n 3, 1) := by decide +kernel
theorem dX6_findWhere_28 : decode cX6_findWhere 28 = .ok (.aload_n 0, 1) := by decide +kernel
theorem dX6_findWhere_29 : decode cX6_findWhere 29 = .ok (.iload_n 1, 1) := by decide +kernel
theorem dX6_findWhere_30 : decode cX6_findWhere 30 = .ok (.iconst 3, 1) := by decide +kernel
theorem dX6_findWhere_31 : decode cX6_findWhere 31 = .ok (.invokevirtual 150, 3) := by decide +kernel
theorem dX6_findWhere_34 : decode cX6_findWhere 34 = .ok (.if_icmp .ge 206, 3) := by decide +kernel
theorem dX6_findWhere_37 : decode cX6_findWhere 37 = .ok (.aload_n 0, 1) := by decide +kernel
theorem dX6_findWhere_38 : decode cX6_findWhere 38 = .ok (.iload_n 1, 1) := by decide +kernel
theorem dX6_findWhere_39 : decode cX6_findWhere 39 = .ok (.iload_n 3, 1) := by decide +kernel
theorem dX6_findWhere_40 : decode cX6_findWhere 40 = .ok (.iconst 2, 1) := by decide +kernel
theorem dX6_findWhere_41 : decode cX6_findWhere 41 = .ok (.invokevirtual 153, 3) := by decide +kernel
theorem dX6_findWhere_44 : decode cX6_findWhere 44 = .ok (.istore 4, 2) := by decide +kernel
theorem dX6_findWhere_46 : decode cX6_findWhere 46 = .ok (.iload_n 2, 1) := by decide +kernel
theorem dX6_findWhere_47 : decode cX6_findWhere 47 = .ok (.iload 4, 2) := by decide +kernel
theorem dX6_findWhere_49 : decode cX6_findWhere 49 = .ok (.if_icmp .gt 4, 3) := by decide +kernel
theorem dX6_findWhere_52 : decode cX6_findWhere 52 = .ok (.return_, 1) := by decide +kernel
theorem dX6_findWhere_53 : decode cX6_findWhere 53 = .ok (.aload_n 0, 1) := by decide +kernel
theorem dX6_findWhere_54 : decode cX6_findWhere 54 = .ok (.iload_n 1, 1) := by decide +kernel
theorem dX6_findWhere_55 : decode cX6_findWhere 55 = .ok (.iload_n 3, 1) := by decide +kernel
theorem dX6_findWhere_56 : decode cX6_findWhere 56 = .ok (.iconst 0, 1) := by decide +kernel
theorem dX6_findWhere_57 : decode cX6_findWhere 57 = .ok (.invokevirtual 153, 3) := by decide +kernel
theorem dX6_findWhere_60 : decode cX6_findWhere 60 = .ok (.istore 5, 2) := by decide +kernel
theorem dX6_findWhere_62 : decode cX6_findWhere 62 = .ok (.aload_n 0, 1) := by decide +kernel
theorem dX6_findWhere_63 : decode cX6_findWhere 63 = .ok (.iload 5, 2) := by decide +kernel
theorem dX6_findWhere_65 : decode cX6_findWhere 65 = .ok (.iconst 0, 1) := by decide +kernel
theorem dX6_findWhere_66 : decode cX6_findWhere 66 = .ok (.invokevirtual 108, 3) := by decide +kernel
theorem dX6_findWhere_69 : decode cX6_findWhere 69 = .ok (.aload_n 0, 1) := by decide +kernel
theorem dX6_findWhere_70 : decode cX6_findWhere 70 = .ok (.aload_n 0, 1) := by decide +kernel
theorem dX6_findWhere_71 : decode cX6_findWhere 71 = .ok (.getfield 172, 3) := by decide +kernel
theorem dX6_findWhere_74 : decode cX6_findWhere 74 = .ok (.iconst 0, 1) := by decide +kernel
theorem dX6_findWhere_75 : decode cX6_findWhere 75 = .ok (.invokevirtual 108, 3) := by decide +kernel
theorem dX6_findWhere_78 : decode cX6_findWhere 78 = .ok (.isub, 1) := by decide +kernel
theorem dX6_findWhere_79 : decode cX6_findWhere 79 = .ok (.istore 6, 2) := by decide +kernel
theorem dX6_findWhere_81 : decode cX6_findWhere 81 = .ok (.aload_n 0, 1) := by decide +kernel
theorem dX6_findWhere_82 : decode cX6_findWhere 82 = .ok (.iload_n 1, 1) := by decide +kernel
theorem dX6_findWhere_83 : decode cX6_findWhere 83 = .ok (.iload_n 3, 1) := by decide +kernel
theorem dX6_findWhere_84 : decode cX6_findWhere 84 = .ok (.iconst 1, 1) := by decide +kernel
theorem dX6_findWhere_85 : decode cX6_findWhere 85 = .ok (.invokevirtual 153, 3) := by decide +kernel
theorem dX6_findWhere_88 : decode cX6_findWhere 88 = .ok (.iconst 1, 1) := by decide +kernel
theorem dX6_findWhere_89 : decode cX6_findWhere 89 = .ok (.if_icmp .ne 7, 3) := by decide +kernel
theorem dX6_findWhere_92 : decode cX6_findWhere 92 = .ok (.iconst 1, 1) := by decide +kernel
theorem dX6_findWhere_93 : decode cX6_findWhere 93 = .ok (.goto 4, 3) := by decide +kernel
theorem dX6_findWhere_96 : decode cX6_findWhere 96 = .ok (.iconst 0, 1) := by decide +kernel
theorem dX6_findWhere_97 : decode cX6_findWhere 97 = .ok (.istore 7, 2) := by decide +kernel
theorem dX6_findWhere_99 : decode cX6_findWhere 99 = .ok (.iload 7, 2) := by decide +kernel
theorem dX6_findWhere_101 : decode cX6_findWhere 101 = .ok (.ifCond .eq 8, 3) := by decide +kernel
theorem dX6_findWhere_104 : decode cX6_findWhere 104 = .ok (.iload 6, 2) := by decide +kernel
theorem dX6_findWhere_106 : decode cX6_findWhere 106 = .ok (.goto 6, 3) := by decide +kernel
theorem dX6_findWhere_109 : decode cX6_findWhere 109 = .ok (.iload 6, 2) := by decide +kernel
theorem dX6_findWhere_111 : decode cX6_findWhere 111 = .ok (.ineg, 1) := by decide +kernel
theorem dX6_findWhere_112 : decode cX6_findWhere 112 = .ok (.istore 8, 2) := by decide +kernel
theorem dX6_findWhere_114 : decode cX6_findWhere 114 = .ok (.iload 8, 2) := by decide +kernel
theorem dX6_findWhere_116 : decode cX6_findWhere 116 = .ok (.ifCond .ge 12, 3) := by decide +kernel
theorem dX6_findWhere_119 : decode cX6_findWhere 119 = .ok (.iload 8, 2) := by decide +kernel
theorem dX6_findWhere_121 : decode cX6_findWhere 121 = .ok (.sipush 360, 3) := by decide +kernel
theorem dX6_findWhere_124 : decode cX6_findWhere 124 = .ok (.iadd, 1) := by decide +kernel
theorem dX6_findWhere_125 : decode cX6_findWhere 125 = .ok (.goto 5, 3) := by decide +kernel
theorem dX6_findWhere_128 : decode cX6_findWhere 128 = .ok (.iload 8, 2) := by decide +kernel
theorem dX6_findWhere_130 : decode cX6_findWhere 130 = .ok (.istore 8, 2) := by decide +kernel
theorem dX6_findWhere_132 : decode cX6_findWhere 132 = .ok (.iload 7, 2) := by decide +kernel
theorem dX6_findWhere_134 : decode cX6_findWhere 134 = .ok (.ifCond .eq 8, 3) := by decide +kernel
theorem dX6_findWhere_137 : decode cX6_findWhere 137 = .ok (.iload 8, 2) := by decide +kernel
theorem dX6_findWhere_139 : decode cX6_findWhere 139 = .ok (.goto 6, 3) := by decide +kernel
theorem dX6_findWhere_142 : decode cX6_findWhere 142 = .ok (.iload 8, 2) := by decide +kernel
theorem dX6_findWhere_144 : decode cX6_findWhere 144 = .ok (.ineg, 1) := by decide +kernel
theorem dX6_findWhere_145 : decode cX6_findWhere 145 = .ok (.istore 9, 2) := by decide +kernel
theorem dX6_findWhere_147 : decode cX6_findWhere 147 = .ok (.iload_n 2, 1) := by decide +kernel
theorem dX6_findWhere_148 : decode cX6_findWhere 148 = .ok (.aload_n 0, 1) := by decide +kernel
theorem dX6_findWhere_149 : decode cX6_findWhere 149 = .ok (.iload_n 1, 1) := by decide +kernel
theorem dX6_findWhere_150 : decode cX6_findWhere 150 = .ok (.iload_n 3, 1) := by decide +kernel
theorem dX6_findWhere_151 : decode cX6_findWhere 151 = .ok (.invokevirtual 162, 3) := by decide +kernel
theorem dX6_findWhere_154 : decode cX6_findWhere 154 = .ok (.if_icmp .lt 34, 3) := by decide +kernel
theorem dX6_findWhere_157 : decode cX6_findWhere 157 = .ok (.aload_n 0, 1) := by decide +kernel
theorem dX6_findWhere_158 : decode cX6_findWhere 158 = .ok (.dup, 1) := by decide +kernel
theorem dX6_findWhere_159 : decode cX6_findWhere 159 = .ok (.getfield 165, 3) := by decide +kernel
theorem dX6_findWhere_162 : decode cX6_findWhere 162 = .ok (.iload 9, 2) := by decide +kernel
theorem dX6_findWhere_164 : decode cX6_findWhere 164 = .ok (.i2l, 1) := by decide +kernel
theorem dX6_findWhere_165 : decode cX6_findWhere 165 = .ok (.ladd, 1) := by decide +kernel
theorem dX6_findWhere_166 : decode cX6_findWhere 166 = .ok (.putfield 165, 3) := by decide +kernel
theorem dX6_findWhere_169 : decode cX6_findWhere 169 = .ok (.aload_n 0, 1) := by decide +kernel
theorem dX6_findWhere_170 : decode cX6_findWhere 170 = .ok (.iload 5, 2) := by decide +kernel
theorem dX6_findWhere_172 : decode cX6_findWhere 172 = .ok (.putfield 172, 3) := by decide +kernel
theorem dX6_findWhere_175 : decode cX6_findWhere 175 = .ok (.aload_n 0, 1) := by decide +kernel
theorem dX6_findWhere_176 : decode cX6_findWhere 176 = .ok (.aload_n 0, 1) := by decide +kernel
theorem dX6_findWhere_177 : decode cX6_findWhere 177 = .ok (.iload_n 1, 1) := by decide +kernel
theorem dX6_findWhere_178 : decode cX6_findWhere 178 = .ok (.iload_n 3, 1) := by decide +kernel
theorem dX6_findWhere_179 : decode cX6_findWhere 179 = .ok (.invokevirtual 162, 3) := by decide +kernel
theorem dX6_findWhere_182 : decode cX6_findWhere 182 = .ok (.putfield 175, 3) := by decide +kernel
theorem dX6_findWhere_185 : decode cX6_findWhere 185 = .ok (.goto 49, 3) := by decide +kernel
theorem dX6_findWhere_188 : decode cX6_findWhere 188 = .ok (.aload_n 0, 1) := by decide +kernel
theorem dX6_findWhere_189 : decode cX6_findWhere 189 = .ok (.ldc2_w 178, 3) := by decide +kernel
theorem dX6_findWhere_192 : decode cX6_findWhere 192 = .ok (.aload_n 0, 1) := by decide +kernel
theorem dX6_findWhere_193 : decode cX6_findWhere 193 = .ok (.iload_n 1, 1) := by decide +kernel
theorem dX6_findWhere_194 : decode cX6_findWhere 194 = .ok (.iload_n 3, 1) := by decide +kernel
theorem dX6_findWhere_195 : decode cX6_findWhere 195 = .ok (.iconst 3, 1) := by decide +kernel
theorem dX6_findWhere_196 : decode cX6_findWhere 196 = .ok (.invokevirtual 153, 3) := by decide +kernel
theorem dX6_findWhere_199 : decode cX6_findWhere 199 = .ok (.i2l, 1) := by decide +kernel
theorem dX6_findWhere_200 : decode cX6_findWhere 200 = .ok (.lmul, 1) := by decide +kernel
theorem dX6_findWhere_201 : decode cX6_findWhere 201 = .ok (.putfield 169, 3) := by decide +kernel
theorem dX6_findWhere_204 : decode cX6_findWhere 204 = .ok (.aload_n 0, 1) := by decide +kernel
theorem dX6_findWhere_205 : decode cX6_findWhere 205 = .ok (.aload_n 0, 1) := by decide +kernel
theorem dX6_findWhere_206 : decode cX6_findWhere 206 = .ok (.getfield 165, 3) := by decide +kernel
theorem dX6_findWhere_209 : decode cX6_findWhere 209 = .ok (.aload_n 0, 1) := by decide +kernel
theorem dX6_findWhere_210 : decode cX6_findWhere 210 = .ok (.getfield 169, 3) := by decide +kernel
theorem dX6_findWhere_213 : decode cX6_findWhere 213 = .ok (.lmul, 1) := by decide +kernel
theorem dX6_findWhere_214 : decode cX6_findWhere 214 = .ok (.iload 9, 2) := by decide +kernel
theorem dX6_findWhere_216 : decode cX6_findWhere 216 = .ok (.i2l, 1) := by decide +kernel
theorem dX6_findWhere_217 : decode cX6_findWhere 217 = .ok (.iload_n 2, 1) := by decide +kernel
theorem dX6_findWhere_218 : decode cX6_findWhere 218 = .ok (.iload 4, 2) := by decide +kernel
theorem dX6_findWhere_220 : decode cX6_findWhere 220 = .ok (.isub, 1) := by decide +kernel
theorem dX6_findWhere_221 : decode cX6_findWhere 221 = .ok (.i2l, 1) := by decide +kernel
theorem dX6_findWhere_222 : decode cX6_findWhere 222 = .ok (.lmul, 1) := by decide +kernel
theorem dX6_findWhere_223 : decode cX6_findWhere 223 = .ok (.ladd, 1) := by decide +kernel
theorem dX6_findWhere_224 : decode cX6_findWhere 224 = .ok (.putfield 165, 3) := by decide +kernel
theorem dX6_findWhere_227 : decode cX6_findWhere 227 = .ok (.aload_n 0, 1) := by decide +kernel
theorem dX6_findWhere_228 : decode cX6_findWhere 228 = .ok (.bipush (-4), 2) := by decide +kernel
theorem dX6_findWhere_230 : decode cX6_findWhere 230 = .ok (.putfield 172, 3) := by decide +kernel
theorem dX6_findWhere_233 : decode cX6_findWhere 233 = .ok (.return_, 1) := by decide +kernel
theorem dX6_findWhere_234 : decode cX6_findWhere 234 = .ok (.iinc 3 1, 3) := by decide +kernel
theorem dX6_findWhere_237 : decode cX6_findWhere 237 = .ok (.goto (-210), 3) := by decide +kernel
theorem dX6_findWhere_240 : decode cX6_findWhere 240 = .ok (.return_, 1) := by decide +kernel
theorem dX6_eastNow_0 : decode cX6_eastNow 0 = .ok (.aload_n 0, 1) := by decide +kernel
theorem dX6_eastNow_1 : decode cX6_eastNow 1 = .ok (.aload_n 0, 1) := by decide +kernel
theorem dX6_eastNow_2 : decode cX6_eastNow 2 = .ok (.aload_n 0, 1) := by decide +kernel
theorem dX6_eastNow_3 : decode cX6_eastNow 3 = .ok (.iload_n 1, 1) := by decide +kernel
theorem dX6_eastNow_4 : decode cX6_eastNow 4 = .ok (.iconst 1, 1) := by decide +kernel
theorem dX6_eastNow_5 : decode cX6_eastNow 5 = .ok (.invokevirtual 150, 3) := by decide +kernel
theorem dX6_eastNow_8 : decode cX6_eastNow 8 = .ok (.iconst 0, 1) := by decide +kernel
theorem dX6_eastNow_9 : decode cX6_eastNow 9 = .ok (.invokevirtual 108, 3) := by decide +kernel
theorem dX6_eastNow_12 : decode cX6_eastNow 12 = .ok (.invokevirtual 133, 3) := by decide +kernel
theorem dX6_eastNow_15 : decode cX6_eastNow 15 = .ok (.i2l, 1) := by decide +kernel
theorem dX6_eastNow_16 : decode cX6_eastNow 16 = .ok (.aload_n 0, 1) := by decide +kernel
theorem dX6_eastNow_17 : decode cX6_eastNow 17 = .ok (.getfield 169, 3) := by decide +kernel
theorem dX6_eastNow_20 : decode cX6_eastNow 20 = .ok (.lmul, 1) := by decide +kernel
theorem dX6_eastNow_21 : decode cX6_eastNow 21 = .ok (.aload_n 0, 1) := by decide +kernel
theorem dX6_eastNow_22 : decode cX6_eastNow 22 = .ok (.getfield 165, 3) := by decide +kernel
theorem dX6_eastNow_25 : decode cX6_eastNow 25 = .ok (.ladd, 1) := by decide +kernel
theorem dX6_eastNow_26 : decode cX6_eastNow 26 = .ok (.lstore_n 3, 1) := by decide +kernel
theorem dX6_eastNow_27 : decode cX6_eastNow 27 = .ok (.iload_n 2, 1) := by decide +kernel
theorem dX6_eastNow_28 : decode cX6_eastNow 28 = .ok (.ifCond .eq 29, 3) := by decide +kernel
theorem dX6_eastNow_31 : decode cX6_eastNow 31 = .ok (.lload_n 3, 1) := by decide +kernel
theorem dX6_eastNow_32 : decode cX6_eastNow 32 = .ok (.ldc2_w 121, 3) := by decide +kernel
theorem dX6_eastNow_35 : decode cX6_eastNow 35 = .ok (.aload_n 0, 1) := by decide +kernel
theorem dX6_eastNow_36 : decode cX6_eastNow 36 = .ok (.getfield 169, 3) := by decide +kernel
theorem dX6_eastNow_39 : decode cX6_eastNow 39 = .ok (.lmul, 1) := by decide +kernel
theorem dX6_eastNow_40 : decode cX6_eastNow 40 = .ok (.lload_n 3, 1) := by decide +kernel
theorem dX6_eastNow_41 : decode cX6_eastNow 41 = .ok (.ldc2_w 121, 3) := by decide +kernel
theorem dX6_eastNow_44 : decode cX6_eastNow 44 = .ok (.aload_n 0, 1) := by decide +kernel
theorem dX6_eastNow_45 : decode cX6_eastNow 45 = .ok (.getfield 169, 3) := by decide +kernel
theorem dX6_eastNow_48 : decode cX6_eastNow 48 = .ok (.lmul, 1) := by decide +kernel
theorem dX6_eastNow_49 : decode cX6_eastNow 49 = .ok (.invokestatic 129, 3) := by decide +kernel
theorem dX6_eastNow_52 : decode cX6_eastNow 52 = .ok (.lmul, 1) := by decide +kernel
theorem dX6_eastNow_53 : decode cX6_eastNow 53 = .ok (.lsub, 1) := by decide +kernel
theorem dX6_eastNow_54 : decode cX6_eastNow 54 = .ok (.goto 4, 3) := by decide +kernel
theorem dX6_eastNow_57 : decode cX6_eastNow 57 = .ok (.lload_n 3, 1) := by decide +kernel
theorem dX6_eastNow_58 : decode cX6_eastNow 58 = .ok (.lreturn, 1) := by decide +kernel
theorem dX6_common_0 : decode cX6_common 0 = .ok (.lload_n 0, 1) := by decide +kernel
theorem dX6_common_1 : decode cX6_common 1 = .ok (.lstore 4, 2) := by decide +kernel
theorem dX6_common_3 : decode cX6_common 3 = .ok (.lload_n 2, 1) := by decide +kernel
theorem dX6_common_4 : decode cX6_common 4 = .ok (.lstore 6, 2) := by decide +kernel
theorem dX6_common_6 : decode cX6_common 6 = .ok (.lload 6, 2) := by decide +kernel
theorem dX6_common_8 : decode cX6_common 8 = .ok (.lconst 0, 1) := by decide +kernel
theorem dX6_common_9 : decode cX6_common 9 = .ok (.lcmp, 1) := by decide +kernel
theorem dX6_common_10 : decode cX6_common 10 = .ok (.ifCond .eq 21, 3) := by decide +kernel
theorem dX6_common_13 : decode cX6_common 13 = .ok (.lload 4, 2) := by decide +kernel
theorem dX6_common_15 : decode cX6_common 15 = .ok (.lload 6, 2) := by decide +kernel
theorem dX6_common_17 : decode cX6_common 17 = .ok (.lrem, 1) := by decide +kernel
theorem dX6_common_18 : decode cX6_common 18 = .ok (.lstore 8, 2) := by decide +kernel
theorem dX6_common_20 : decode cX6_common 20 = .ok (.lload 6, 2) := by decide +kernel
theorem dX6_common_22 : decode cX6_common 22 = .ok (.lstore 4, 2) := by decide +kernel
theorem dX6_common_24 : decode cX6_common 24 = .ok (.lload 8, 2) := by decide +kernel
theorem dX6_common_26 : decode cX6_common 26 = .ok (.lstore 6, 2) := by decide +kernel
theorem dX6_common_28 : decode cX6_common 28 = .ok (.goto (-22), 3) := by decide +kernel
theorem dX6_common_31 : decode cX6_common 31 = .ok (.lload 4, 2) := by decide +kernel
theorem dX6_common_33 : decode cX6_common 33 = .ok (.lreturn, 1) := by decide +kernel
theorem dX6_where_0 : decode cX6_where 0 = .ok (.aload_n 0, 1) := by decide +kernel
theorem dX6_where_1 : decode cX6_where 1 = .ok (.iload_n 1, 1) := by decide +kernel
theorem dX6_where_2 : decode cX6_where 2 = .ok (.invokevirtual 157, 3) := by decide +kernel
theorem dX6_where_5 : decode cX6_where 5 = .ok (.ifCond .eq 21, 3) := by decide +kernel
theorem dX6_where_8 : decode cX6_where 8 = .ok (.iload_n 2, 1) := by decide +kernel
theorem dX6_where_9 : decode cX6_where 9 = .ok (.i2l, 1) := by decide +kernel
theorem dX6_where_10 : decode cX6_where 10 = .ok (.invokestatic 141, 3) := by decide +kernel
theorem dX6_where_13 : decode cX6_where 13 = .ok (.ifCond .eq 13, 3) := by decide +kernel
theorem dX6_where_16 : decode cX6_where 16 = .ok (.iload_n 3, 1) := by decide +kernel
theorem dX6_where_17 : decode cX6_where 17 = .ok (.i2l, 1) := by decide +kernel
theorem dX6_where_18 : decode cX6_where 18 = .ok (.lconst 0, 1) := by decide +kernel
theorem dX6_where_19 : decode cX6_where 19 = .ok (.lconst 1, 1) := by decide +kernel
theorem dX6_where_20 : decode cX6_where 20 = .ok (.invokestatic 48, 3) := by decide +kernel
theorem dX6_where_23 : decode cX6_where 23 = .ok (.ifCond .ne 7, 3) := by decide +kernel
theorem dX6_where_26 : decode cX6_where 26 = .ok (.ldc2_w 180, 3) := by decide +kernel
theorem dX6_where_29 : decode cX6_where 29 = .ok (.lreturn, 1) := by decide +kernel
theorem dX6_where_30 : decode cX6_where 30 = .ok (.aload_n 0, 1) := by decide +kernel
theorem dX6_where_31 : decode cX6_where 31 = .ok (.iload_n 1, 1) := by decide +kernel
theorem dX6_where_32 : decode cX6_where 32 = .ok (.iload_n 2, 1) := by decide +kernel
theorem dX6_where_33 : decode cX6_where 33 = .ok (.invokevirtual 182, 3) := by decide +kernel
theorem dX6_where_36 : decode cX6_where 36 = .ok (.aload_n 0, 1) := by decide +kernel
theorem dX6_where_37 : decode cX6_where 37 = .ok (.aload_n 0, 1) := by decide +kernel
theorem dX6_where_38 : decode cX6_where 38 = .ok (.iload_n 1, 1) := by decide +kernel
theorem dX6_where_39 : decode cX6_where 39 = .ok (.iconst 1, 1) := by decide +kernel
theorem dX6_where_40 : decode cX6_where 40 = .ok (.invokevirtual 150, 3) := by decide +kernel
theorem dX6_where_43 : decode cX6_where 43 = .ok (.iconst 0, 1) := by decide +kernel
theorem dX6_where_44 : decode cX6_where 44 = .ok (.invokevirtual 108, 3) := by decide +kernel
theorem dX6_where_47 : decode cX6_where 47 = .ok (.i2l, 1) := by decide +kernel
theorem dX6_where_48 : decode cX6_where 48 = .ok (.aload_n 0, 1) := by decide +kernel
theorem dX6_where_49 : decode cX6_where 49 = .ok (.getfield 169, 3) := by decide +kernel
theorem dX6_where_52 : decode cX6_where 52 = .ok (.lmul, 1) := by decide +kernel
theorem dX6_where_53 : decode cX6_where 53 = .ok (.aload_n 0, 1) := by decide +kernel
theorem dX6_where_54 : decode cX6_where 54 = .ok (.getfield 165, 3) := by decide +kernel
theorem dX6_where_57 : decode cX6_where 57 = .ok (.ladd, 1) := by decide +kernel
theorem dX6_where_58 : decode cX6_where 58 = .ok (.lstore 4, 2) := by decide +kernel
theorem dX6_where_60 : decode cX6_where 60 = .ok (.lload 4, 2) := by decide +kernel
theorem dX6_where_62 : decode cX6_where 62 = .ok (.ldc2_w 121, 3) := by decide +kernel
theorem dX6_where_65 : decode cX6_where 65 = .ok (.aload_n 0, 1) := by decide +kernel
theorem dX6_where_66 : decode cX6_where 66 = .ok (.getfield 169, 3) := by decide +kernel
theorem dX6_where_69 : decode cX6_where 69 = .ok (.lmul, 1) := by decide +kernel
theorem dX6_where_70 : decode cX6_where 70 = .ok (.lload 4, 2) := by decide +kernel
theorem dX6_where_72 : decode cX6_where 72 = .ok (.ldc2_w 121, 3) := by decide +kernel
theorem dX6_where_75 : decode cX6_where 75 = .ok (.aload_n 0, 1) := by decide +kernel
theorem dX6_where_76 : decode cX6_where 76 = .ok (.getfield 169, 3) := by decide +kernel
theorem dX6_where_79 : decode cX6_where 79 = .ok (.lmul, 1) := by decide +kernel
theorem dX6_where_80 : decode cX6_where 80 = .ok (.invokestatic 129, 3) := by decide +kernel
theorem dX6_where_83 : decode cX6_where 83 = .ok (.lmul, 1) := by decide +kernel
theorem dX6_where_84 : decode cX6_where 84 = .ok (.lsub, 1) := by decide +kernel
theorem dX6_where_85 : decode cX6_where 85 = .ok (.lstore 4, 2) := by decide +kernel
theorem dX6_where_87 : decode cX6_where 87 = .ok (.lload 4, 2) := by decide +kernel
theorem dX6_where_89 : decode cX6_where 89 = .ok (.aload_n 0, 1) := by decide +kernel
theorem dX6_where_90 : decode cX6_where 90 = .ok (.getfield 169, 3) := by decide +kernel
theorem dX6_where_93 : decode cX6_where 93 = .ok (.invokestatic 186, 3) := by decide +kernel
theorem dX6_where_96 : decode cX6_where 96 = .ok (.lstore 6, 2) := by decide +kernel
theorem dX6_where_98 : decode cX6_where 98 = .ok (.iload_n 3, 1) := by decide +kernel
theorem dX6_where_99 : decode cX6_where 99 = .ok (.ifCond .ne 11, 3) := by decide +kernel
theorem dX6_where_102 : decode cX6_where 102 = .ok (.lload 4, 2) := by decide +kernel
theorem dX6_where_104 : decode cX6_where 104 = .ok (.lload 6, 2) := by decide +kernel
theorem dX6_where_106 : decode cX6_where 106 = .ok (.ldiv, 1) := by decide +kernel
theorem dX6_where_107 : decode cX6_where 107 = .ok (.goto 10, 3) := by decide +kernel
theorem dX6_where_110 : decode cX6_where 110 = .ok (.aload_n 0, 1) := by decide +kernel
theorem dX6_where_111 : decode cX6_where 111 = .ok (.getfield 169, 3) := by decide +kernel
theorem dX6_where_114 : decode cX6_where 114 = .ok (.lload 6, 2) := by decide +kernel
theorem dX6_where_116 : decode cX6_where 116 = .ok (.ldiv, 1) := by decide +kernel
theorem dX6_where_117 : decode cX6_where 117 = .ok (.lreturn, 1) := by decide +kernel
theorem dX6_in_0 : decode cX6_in 0 = .ok (.aload_n 0, 1) := by decide +kernel
theorem dX6_in_1 : decode cX6_in 1 = .ok (.iload_n 1, 1) := by decide +kernel
theorem dX6_in_2 : decode cX6_in 2 = .ok (.invokevirtual 157, 3) := by decide +kernel
theorem dX6_in_5 : decode cX6_in 5 = .ok (.ifCond .eq 11, 3) := by decide +kernel
theorem dX6_in_8 : decode cX6_in 8 = .ok (.iload_n 2, 1) := by decide +kernel
theorem dX6_in_9 : decode cX6_in 9 = .ok (.i2l, 1) := by decide +kernel
theorem dX6_in_10 : decode cX6_in 10 = .ok (.invokestatic 141, 3) := by decide +kernel
theorem dX6_in_13 : decode cX6_in 13 = .ok (.ifCond .ne 5, 3) := by decide +kernel
theorem dX6_in_16 : decode cX6_in 16 = .ok (.iconst (-1), 1) := by decide +kernel
theorem dX6_in_17 : decode cX6_in 17 = .ok (.ireturn, 1) := by decide +kernel
theorem dX6_in_18 : decode cX6_in 18 = .ok (.aload_n 0, 1) := by decide +kernel
theorem dX6_in_19 : decode cX6_in 19 = .ok (.iload_n 1, 1) := by decide +kernel
theorem dX6_in_20 : decode cX6_in 20 = .ok (.iload_n 2, 1) := by decide +kernel
theorem dX6_in_21 : decode cX6_in 21 = .ok (.invokevirtual 182, 3) := by decide +kernel
theorem dX6_in_24 : decode cX6_in 24 = .ok (.aload_n 0, 1) := by decide +kernel
theorem dX6_in_25 : decode cX6_in 25 = .ok (.getfield 172, 3) := by decide +kernel
theorem dX6_in_28 : decode cX6_in 28 = .ok (.ireturn, 1) := by decide +kernel
theorem dX6_hereDay_0 : decode cX6_hereDay 0 = .ok (.aload_n 0, 1) := by decide +kernel
theorem dX6_hereDay_1 : decode cX6_hereDay 1 = .ok (.getfield 172, 3) := by decide +kernel
theorem dX6_hereDay_4 : decode cX6_hereDay 4 = .ok (.ifCond .lt 15, 3) := by decide +kernel
theorem dX6_hereDay_7 : decode cX6_hereDay 7 = .ok (.aload_n 0, 1) := by decide +kernel
theorem dX6_hereDay_8 : decode cX6_hereDay 8 = .ok (.aload_n 0, 1) := by decide +kernel
theorem dX6_hereDay_9 : decode cX6_hereDay 9 = .ok (.getfield 172, 3) := by decide +kernel
theorem dX6_hereDay_12 : decode cX6_hereDay 12 = .ok (.iload_n 2, 1) := by decide +kernel
theorem dX6_hereDay_13 : decode cX6_hereDay 13 = .ok (.invokevirtual 145, 3) := by decide +kernel
theorem dX6_hereDay_16 : decode cX6_hereDay 16 = .ok (.goto 18, 3) := by decide +kernel
theorem dX6_hereDay_19 : decode cX6_hereDay 19 = .ok (.aload_n 0, 1) := by decide +kernel
theorem dX6_hereDay_20 : decode cX6_hereDay 20 = .ok (.iload_n 1, 1) := by decide +kernel
theorem dX6_hereDay_21 : decode cX6_hereDay 21 = .ok (.iconst 1, 1) := by decide +kernel
theorem dX6_hereDay_22 : decode cX6_hereDay 22 = .ok (.invokevirtual 189, 3) := by decide +kernel
theorem dX6_hereDay_25 : decode cX6_hereDay 25 = .ok (.aload_n 0, 1) := by decide +kernel
theorem dX6_hereDay_26 : decode cX6_hereDay 26 = .ok (.getfield 169, 3) := by decide +kernel
theorem dX6_hereDay_29 : decode cX6_hereDay 29 = .ok (.iconst 0, 1) := by decide +kernel
theorem dX6_hereDay_30 : decode cX6_hereDay 30 = .ok (.iload_n 2, 1) := by decide +kernel
theorem dX6_hereDay_31 : decode cX6_hereDay 31 = .ok (.invokestatic 137, 3) := by decide +kernel
theorem dX6_hereDay_34 : decode cX6_hereDay 34 = .ok (.ireturn, 1) := by decide +kernel
theorem dX6_seenDay_0 : decode cX6_seenDay 0 = .ok (.aload_n 0, 1) := by decide +kernel
theorem dX6_seenDay_1 : decode cX6_seenDay 1 = .ok (.iload_n 1, 1) := by decide +kernel
theorem dX6_seenDay_2 : decode cX6_seenDay 2 = .ok (.iconst 0, 1) := by decide +kernel
theorem dX6_seenDay_3 : decode cX6_seenDay 3 = .ok (.invokevirtual 189, 3) := by decide +kernel
theorem dX6_seenDay_6 : decode cX6_seenDay 6 = .ok (.aload_n 0, 1) := by decide +kernel
theorem dX6_seenDay_7 : decode cX6_seenDay 7 = .ok (.getfield 169, 3) := by decide +kernel
theorem dX6_seenDay_10 : decode cX6_seenDay 10 = .ok (.iconst 1, 1) := by decide +kernel
theorem dX6_seenDay_11 : decode cX6_seenDay 11 = .ok (.iload_n 2, 1) := by decide +kernel
theorem dX6_seenDay_12 : decode cX6_seenDay 12 = .ok (.invokestatic 137, 3) := by decide +kernel
theorem dX6_seenDay_15 : decode cX6_seenDay 15 = .ok (.ireturn, 1) := by decide +kernel
theorem dX6_roundsNow_0 : decode cX6_roundsNow 0 = .ok (.aload_n 0, 1) := by decide +kernel
theorem dX6_roundsNow_1 : decode cX6_roundsNow 1 = .ok (.iload_n 1, 1) := by decide +kernel
theorem dX6_roundsNow_2 : decode cX6_roundsNow 2 = .ok (.iconst 0, 1) := by decide +kernel
theorem dX6_roundsNow_3 : decode cX6_roundsNow 3 = .ok (.invokevirtual 189, 3) := by decide +kernel
theorem dX6_roundsNow_6 : decode cX6_roundsNow 6 = .ok (.ldc2_w 121, 3) := by decide +kernel
theorem dX6_roundsNow_9 : decode cX6_roundsNow 9 = .ok (.aload_n 0, 1) := by decide +kernel
theorem dX6_roundsNow_10 : decode cX6_roundsNow 10 = .ok (.getfield 169, 3) := by decide +kernel
theorem dX6_roundsNow_13 : decode cX6_roundsNow 13 = .ok (.lmul, 1) := by decide +kernel
theorem dX6_roundsNow_14 : decode cX6_roundsNow 14 = .ok (.invokestatic 129, 3) := by decide +kernel
theorem dX6_roundsNow_17 : decode cX6_roundsNow 17 = .ok (.l2i, 1) := by decide +kernel
theorem dX6_roundsNow_18 : decode cX6_roundsNow 18 = .ok (.ireturn, 1) := by decide +kernel
theorem dX6_changesTo_0 : decode cX6_changesTo 0 = .ok (.iconst 0, 1) := by decide +kernel
theorem dX6_changesTo_1 : decode cX6_changesTo 1 = .ok (.istore_n 3, 1) := by decide +kernel
theorem dX6_changesTo_2 : decode cX6_changesTo 2 = .ok (.iconst 0, 1) := by decide +kernel
theorem dX6_changesTo_3 : decode cX6_changesTo 3 = .ok (.istore 4, 2) := by decide +kernel
theorem dX6_changesTo_5 : decode cX6_changesTo 5 = .ok (.iload 4, 2) := by decide +kernel
theorem dX6_changesTo_7 : decode cX6_changesTo 7 = .ok (.aload_n 0, 1) := by decide +kernel
theorem dX6_changesTo_8 : decode cX6_changesTo 8 = .ok (.iload_n 1, 1) := by decide +kernel
theorem dX6_changesTo_9 : decode cX6_changesTo 9 = .ok (.bipush 28, 2) := by decide +kernel
theorem dX6_changesTo_11 : decode cX6_changesTo 11 = .ok (.invokevirtual 150, 3) := by decide +kernel
theorem dX6_changesTo_14 : decode cX6_changesTo 14 = .ok (.if_icmp .ge 44, 3) := by decide +kernel
theorem dX6_changesTo_17 : decode cX6_changesTo 17 = .ok (.iload_n 3, 1) := by decide +kernel
theorem dX6_changesTo_18 : decode cX6_changesTo 18 = .ok (.aload_n 0, 1) := by decide +kernel
theorem dX6_changesTo_19 : decode cX6_changesTo 19 = .ok (.iload_n 1, 1) := by decide +kernel
theorem dX6_changesTo_20 : decode cX6_changesTo 20 = .ok (.bipush 29, 2) := by decide +kernel
theorem dX6_changesTo_22 : decode cX6_changesTo 22 = .ok (.iconst 2, 1) := by decide +kernel
theorem dX6_changesTo_23 : decode cX6_changesTo 23 = .ok (.iload 4, 2) := by decide +kernel
theorem dX6_changesTo_25 : decode cX6_changesTo 25 = .ok (.imul, 1) := by decide +kernel
theorem dX6_changesTo_26 : decode cX6_changesTo 26 = .ok (.iadd, 1) := by decide +kernel
theorem dX6_changesTo_27 : decode cX6_changesTo 27 = .ok (.invokevirtual 150, 3) := by decide +kernel
theorem dX6_changesTo_30 : decode cX6_changesTo 30 = .ok (.iload_n 2, 1) := by decide +kernel
theorem dX6_changesTo_31 : decode cX6_changesTo 31 = .ok (.if_icmp .gt 18, 3) := by decide +kernel
theorem dX6_changesTo_34 : decode cX6_changesTo 34 = .ok (.aload_n 0, 1) := by decide +kernel
theorem dX6_changesTo_35 : decode cX6_changesTo 35 = .ok (.iload_n 1, 1) := by decide +kernel
theorem dX6_changesTo_36 : decode cX6_changesTo 36 = .ok (.bipush 30, 2) := by decide +kernel
theorem dX6_changesTo_38 : decode cX6_changesTo 38 = .ok (.iconst 2, 1) := by decide +kernel
theorem dX6_changesTo_39 : decode cX6_changesTo 39 = .ok (.iload 4, 2) := by decide +kernel
theorem dX6_changesTo_41 : decode cX6_changesTo 41 = .ok (.imul, 1) := by decide +kernel
theorem dX6_changesTo_42 : decode cX6_changesTo 42 = .ok (.iadd, 1) := by decide +kernel
theorem dX6_changesTo_43 : decode cX6_changesTo 43 = .ok (.invokevirtual 150, 3) := by decide +kernel
theorem dX6_changesTo_46 : decode cX6_changesTo 46 = .ok (.goto 4, 3) := by decide +kernel
theorem dX6_changesTo_49 : decode cX6_changesTo 49 = .ok (.iconst 0, 1) := by decide +kernel
theorem dX6_changesTo_50 : decode cX6_changesTo 50 = .ok (.iadd, 1) := by decide +kernel
theorem dX6_changesTo_51 : decode cX6_changesTo 51 = .ok (.istore_n 3, 1) := by decide +kernel
theorem dX6_changesTo_52 : decode cX6_changesTo 52 = .ok (.iinc 4 1, 3) := by decide +kernel
theorem dX6_changesTo_55 : decode cX6_changesTo 55 = .ok (.goto (-50), 3) := by decide +kernel
theorem dX6_changesTo_58 : decode cX6_changesTo 58 = .ok (.iload_n 3, 1) := by decide +kernel
theorem dX6_changesTo_59 : decode cX6_changesTo 59 = .ok (.ireturn, 1) := by decide +kernel
theorem dX6_dayAs_0 : decode cX6_dayAs 0 = .ok (.aload_n 0, 1) := by decide +kernel
theorem dX6_dayAs_1 : decode cX6_dayAs 1 = .ok (.iload_n 1, 1) := by decide +kernel
theorem dX6_dayAs_2 : decode cX6_dayAs 2 = .ok (.iload_n 3, 1) := by decide +kernel
theorem dX6_dayAs_3 : decode cX6_dayAs 3 = .ok (.invokevirtual 182, 3) := by decide +kernel
theorem dX6_dayAs_6 : decode cX6_dayAs 6 = .ok (.aload_n 0, 1) := by decide +kernel
theorem dX6_dayAs_7 : decode cX6_dayAs 7 = .ok (.iload_n 1, 1) := by decide +kernel
theorem dX6_dayAs_8 : decode cX6_dayAs 8 = .ok (.iconst 1, 1) := by decide +kernel
theorem dX6_dayAs_9 : decode cX6_dayAs 9 = .ok (.invokevirtual 150, 3) := by decide +kernel
theorem dX6_dayAs_12 : decode cX6_dayAs 12 = .ok (.istore 4, 2) := by decide +kernel
theorem dX6_dayAs_14 : decode cX6_dayAs 14 = .ok (.iload_n 2, 1) := by decide +kernel
theorem dX6_dayAs_15 : decode cX6_dayAs 15 = .ok (.tableswitch 163 1 7 #[41, 48, 55, 63, 77, 90, 142], 41) := by decide +kernel
theorem dX6_dayAs_56 : decode cX6_dayAs 56 = .ok (.aload_n 0, 1) := by decide +kernel
theorem dX6_dayAs_57 : decode cX6_dayAs 57 = .ok (.iload_n 1, 1) := by decide +kernel
theorem dX6_dayAs_58 : decode cX6_dayAs 58 = .ok (.iload_n 3, 1) := by decide +kernel
theorem dX6_dayAs_59 : decode cX6_dayAs 59 = .ok (.invokevirtual 193, 3) := by decide +kernel
theorem dX6_dayAs_62 : decode cX6_dayAs 62 = .ok (.ireturn, 1) := by decide +kernel
theorem dX6_dayAs_63 : decode cX6_dayAs 63 = .ok (.aload_n 0, 1) := by decide +kernel
theorem dX6_dayAs_64 : decode cX6_dayAs 64 = .ok (.iload_n 1, 1) := by decide +kernel
theorem dX6_dayAs_65 : decode cX6_dayAs 65 = .ok (.iload_n 3, 1) := by decide +kernel
theorem dX6_dayAs_66 : decode cX6_dayAs 66 = .ok (.invokevirtual 196, 3) := by decide +kernel
theorem dX6_dayAs_69 : decode cX6_dayAs 69 = .ok (.ireturn, 1) := by decide +kernel
theorem dX6_dayAs_70 : decode cX6_dayAs 70 = .ok (.aload_n 0, 1) := by decide +kernel
theorem dX6_dayAs_71 : decode cX6_dayAs 71 = .ok (.iload 4, 2) := by decide +kernel
theorem dX6_dayAs_73 : decode cX6_dayAs 73 = .ok (.iload_n 3, 1) := by decide +kernel
theorem dX6_dayAs_74 : decode cX6_dayAs 74 = .ok (.invokevirtual 145, 3) := by decide +kernel
theorem dX6_dayAs_77 : decode cX6_dayAs 77 = .ok (.ireturn, 1) := by decide +kernel
theorem dX6_dayAs_78 : decode cX6_dayAs 78 = .ok (.aload_n 0, 1) := by decide +kernel
theorem dX6_dayAs_79 : decode cX6_dayAs 79 = .ok (.iload_n 1, 1) := by decide +kernel
theorem dX6_dayAs_80 : decode cX6_dayAs 80 = .ok (.iload_n 3, 1) := by decide +kernel
theorem dX6_dayAs_81 : decode cX6_dayAs 81 = .ok (.invokevirtual 193, 3) := by decide +kernel
theorem dX6_dayAs_84 : decode cX6_dayAs 84 = .ok (.aload_n 0, 1) := by decide +kernel
theorem dX6_dayAs_85 : decode cX6_dayAs 85 = .ok (.iload_n 1, 1) := by decide +kernel
theorem dX6_dayAs_86 : decode cX6_dayAs 86 = .ok (.iload_n 3, 1) := by decide +kernel
theorem dX6_dayAs_87 : decode cX6_dayAs 87 = .ok (.invokevirtual 199, 3) := by decide +kernel
theorem dX6_dayAs_90 : decode cX6_dayAs 90 = .ok (.iadd, 1) := by decide +kernel
theorem dX6_dayAs_91 : decode cX6_dayAs 91 = .ok (.ireturn, 1) := by decide +kernel
theorem dX6_dayAs_92 : decode cX6_dayAs 92 = .ok (.aload_n 0, 1) := by decide +kernel
theorem dX6_dayAs_93 : decode cX6_dayAs 93 = .ok (.iload_n 1, 1) := by decide +kernel
theorem dX6_dayAs_94 : decode cX6_dayAs 94 = .ok (.iload_n 3, 1) := by decide +kernel
theorem dX6_dayAs_95 : decode cX6_dayAs 95 = .ok (.invokevirtual 193, 3) := by decide +kernel
theorem dX6_dayAs_98 : decode cX6_dayAs 98 = .ok (.aload_n 0, 1) := by decide +kernel
theorem dX6_dayAs_99 : decode cX6_dayAs 99 = .ok (.iload_n 1, 1) := by decide +kernel
theorem dX6_dayAs_100 : decode cX6_dayAs 100 = .ok (.invokevirtual 202, 3) := by decide +kernel
theorem dX6_dayAs_103 : decode cX6_dayAs 103 = .ok (.isub, 1) := by decide +kernel
theorem dX6_dayAs_104 : decode cX6_dayAs 104 = .ok (.ireturn, 1) := by decide +kernel
theorem dX6_dayAs_105 : decode cX6_dayAs 105 = .ok (.aload_n 0, 1) := by decide +kernel
theorem dX6_dayAs_106 : decode cX6_dayAs 106 = .ok (.getfield 172, 3) := by decide +kernel
theorem dX6_dayAs_109 : decode cX6_dayAs 109 = .ok (.ifCond .lt 40, 3) := by decide +kernel
theorem dX6_dayAs_112 : decode cX6_dayAs 112 = .ok (.aload_n 0, 1) := by decide +kernel
theorem dX6_dayAs_113 : decode cX6_dayAs 113 = .ok (.getfield 172, 3) := by decide +kernel
theorem dX6_dayAs_116 : decode cX6_dayAs 116 = .ok (.iload 4, 2) := by decide +kernel
theorem dX6_dayAs_118 : decode cX6_dayAs 118 = .ok (.if_icmp .eq 31, 3) := by decide +kernel
theorem dX6_dayAs_121 : decode cX6_dayAs 121 = .ok (.iload_n 3, 1) := by decide +kernel
theorem dX6_dayAs_122 : decode cX6_dayAs 122 = .ok (.aload_n 0, 1) := by decide +kernel
theorem dX6_dayAs_123 : decode cX6_dayAs 123 = .ok (.getfield 175, 3) := by decide +kernel
theorem dX6_dayAs_126 : decode cX6_dayAs 126 = .ok (.sipush 1440, 3) := by decide +kernel
theorem dX6_dayAs_129 : decode cX6_dayAs 129 = .ok (.aload_n 0, 1) := by decide +kernel
theorem dX6_dayAs_130 : decode cX6_dayAs 130 = .ok (.iload_n 1, 1) := by decide +kernel
theorem dX6_dayAs_131 : decode cX6_dayAs 131 = .ok (.iconst 2, 1) := by decide +kernel
theorem dX6_dayAs_132 : decode cX6_dayAs 132 = .ok (.invokevirtual 150, 3) := by decide +kernel
theorem dX6_dayAs_135 : decode cX6_dayAs 135 = .ok (.imul, 1) := by decide +kernel
theorem dX6_dayAs_136 : decode cX6_dayAs 136 = .ok (.iadd, 1) := by decide +kernel
theorem dX6_dayAs_137 : decode cX6_dayAs 137 = .ok (.if_icmp .lt 12, 3) := by decide +kernel
theorem dX6_dayAs_140 : decode cX6_dayAs 140 = .ok (.aload_n 0, 1) := by decide +kernel
theorem dX6_dayAs_141 : decode cX6_dayAs 141 = .ok (.iload_n 1, 1) := by decide +kernel
theorem dX6_dayAs_142 : decode cX6_dayAs 142 = .ok (.iload_n 3, 1) := by decide +kernel
theorem dX6_dayAs_143 : decode cX6_dayAs 143 = .ok (.invokevirtual 196, 3) := by decide +kernel
theorem dX6_dayAs_146 : decode cX6_dayAs 146 = .ok (.goto 10, 3) := by decide +kernel
theorem dX6_dayAs_149 : decode cX6_dayAs 149 = .ok (.aload_n 0, 1) := by decide +kernel
theorem dX6_dayAs_150 : decode cX6_dayAs 150 = .ok (.iload 4, 2) := by decide +kernel
theorem dX6_dayAs_152 : decode cX6_dayAs 152 = .ok (.iload_n 3, 1) := by decide +kernel
theorem dX6_dayAs_153 : decode cX6_dayAs 153 = .ok (.invokevirtual 145, 3) := by decide +kernel
theorem dX6_dayAs_156 : decode cX6_dayAs 156 = .ok (.ireturn, 1) := by decide +kernel
theorem dX6_dayAs_157 : decode cX6_dayAs 157 = .ok (.aload_n 0, 1) := by decide +kernel
theorem dX6_dayAs_158 : decode cX6_dayAs 158 = .ok (.iload 4, 2) := by decide +kernel
theorem dX6_dayAs_160 : decode cX6_dayAs 160 = .ok (.iload_n 3, 1) := by decide +kernel
theorem dX6_dayAs_161 : decode cX6_dayAs 161 = .ok (.invokevirtual 145, 3) := by decide +kernel
theorem dX6_dayAs_164 : decode cX6_dayAs 164 = .ok (.aload_n 0, 1) := by decide +kernel
theorem dX6_dayAs_165 : decode cX6_dayAs 165 = .ok (.getfield 172, 3) := by decide +kernel
theorem dX6_dayAs_168 : decode cX6_dayAs 168 = .ok (.ifCond .ge 7, 3) := by decide +kernel
theorem dX6_dayAs_171 : decode cX6_dayAs 171 = .ok (.iconst 1, 1) := by decide +kernel
theorem dX6_dayAs_172 : decode cX6_dayAs 172 = .ok (.goto 4, 3) := by decide +kernel
theorem dX6_dayAs_175 : decode cX6_dayAs 175 = .ok (.iconst 0, 1) := by decide +kernel
theorem dX6_dayAs_176 : decode cX6_dayAs 176 = .ok (.iadd, 1) := by decide +kernel
theorem dX6_dayAs_177 : decode cX6_dayAs 177 = .ok (.ireturn, 1) := by decide +kernel
theorem dX6_dayAs_178 : decode cX6_dayAs 178 = .ok (.aload_n 0, 1) := by decide +kernel
theorem dX6_dayAs_179 : decode cX6_dayAs 179 = .ok (.iload_n 1, 1) := by decide +kernel
theorem dX6_dayAs_180 : decode cX6_dayAs 180 = .ok (.iconst 1, 1) := by decide +kernel
theorem dX6_dayAs_181 : decode cX6_dayAs 181 = .ok (.invokevirtual 189, 3) := by decide +kernel
theorem dX6_dayAs_184 : decode cX6_dayAs 184 = .ok (.aload_n 0, 1) := by decide +kernel
theorem dX6_dayAs_185 : decode cX6_dayAs 185 = .ok (.getfield 169, 3) := by decide +kernel
theorem dX6_dayAs_188 : decode cX6_dayAs 188 = .ok (.iconst 0, 1) := by decide +kernel
theorem dX6_dayAs_189 : decode cX6_dayAs 189 = .ok (.iload_n 3, 1) := by decide +kernel
theorem dX6_dayAs_190 : decode cX6_dayAs 190 = .ok (.invokestatic 137, 3) := by decide +kernel
theorem dX6_dayAs_193 : decode cX6_dayAs 193 = .ok (.ireturn, 1) := by decide +kernel
theorem dX6_dayNow_0 : decode cX6_dayNow 0 = .ok (.aload_n 0, 1) := by decide +kernel
theorem dX6_dayNow_1 : decode cX6_dayNow 1 = .ok (.iload_n 1, 1) := by decide +kernel
theorem dX6_dayNow_2 : decode cX6_dayNow 2 = .ok (.aload_n 0, 1) := by decide +kernel
theorem dX6_dayNow_3 : decode cX6_dayNow 3 = .ok (.iload_n 1, 1) := by decide +kernel
theorem dX6_dayNow_4 : decode cX6_dayNow 4 = .ok (.iconst 0, 1) := by decide +kernel
theorem dX6_dayNow_5 : decode cX6_dayNow 5 = .ok (.invokevirtual 150, 3) := by decide +kernel
theorem dX6_dayNow_8 : decode cX6_dayNow 8 = .ok (.iload_n 2, 1) := by decide +kernel
theorem dX6_dayNow_9 : decode cX6_dayNow 9 = .ok (.invokevirtual 205, 3) := by decide +kernel
theorem dX6_dayNow_12 : decode cX6_dayNow 12 = .ok (.ireturn, 1) := by decide +kernel
theorem dX6_day_0 : decode cX6_day 0 = .ok (.aload_n 0, 1) := by decide +kernel
theorem dX6_day_1 : decode cX6_day 1 = .ok (.iload_n 1, 1) := by decide +kernel
theorem dX6_day_2 : decode cX6_day 2 = .ok (.invokevirtual 157, 3) := by decide +kernel
theorem dX6_day_5 : decode cX6_day 5 = .ok (.ifCond .eq 20, 3) := by decide +kernel
theorem dX6_day_8 : decode cX6_day 8 = .ok (.iload_n 2, 1) := by decide +kernel
theorem dX6_day_9 : decode cX6_day 9 = .ok (.i2l, 1) := by decide +kernel
theorem dX6_day_10 : decode cX6_day 10 = .ok (.invokestatic 141, 3) := by decide +kernel
theorem dX6_day_13 : decode cX6_day 13 = .ok (.ifCond .eq 12, 3) := by decide +kernel
theorem dX6_day_16 : decode cX6_day 16 = .ok (.aload_n 0, 1) := by decide +kernel
theorem dX6_day_17 : decode cX6_day 17 = .ok (.iload_n 1, 1) := by decide +kernel
theorem dX6_day_18 : decode cX6_day 18 = .ok (.iload_n 2, 1) := by decide +kernel
theorem dX6_day_19 : decode cX6_day 19 = .ok (.invokevirtual 208, 3) := by decide +kernel
theorem dX6_day_22 : decode cX6_day 22 = .ok (.goto 5, 3) := by decide +kernel
theorem dX6_day_25 : decode cX6_day 25 = .ok (.ldc 111, 2) := by decide +kernel
theorem dX6_day_27 : decode cX6_day 27 = .ok (.ireturn, 1) := by decide +kernel
theorem dX6_isKind_0 : decode cX6_isKind 0 = .ok (.iload_n 0, 1) := by decide +kernel
theorem dX6_isKind_1 : decode cX6_isKind 1 = .ok (.i2l, 1) := by decide +kernel
theorem dX6_isKind_2 : decode cX6_isKind 2 = .ok (.lconst 0, 1) := by decide +kernel
theorem dX6_isKind_3 : decode cX6_isKind 3 = .ok (.ldc2_w 54, 3) := by decide +kernel
theorem dX6_isKind_6 : decode cX6_isKind 6 = .ok (.invokestatic 48, 3) := by decide +kernel
theorem dX6_isKind_9 : decode cX6_isKind 9 = .ok (.ireturn, 1) := by decide +kernel
theorem dX6_dayBy_0 : decode cX6_dayBy 0 = .ok (.aload_n 0, 1) := by decide +kernel
theorem dX6_dayBy_1 : decode cX6_dayBy 1 = .ok (.iload_n 1, 1) := by decide +kernel
theorem dX6_dayBy_2 : decode cX6_dayBy 2 = .ok (.invokevirtual 157, 3) := by decide +kernel
theorem dX6_dayBy_5 : decode cX6_dayBy 5 = .ok (.ifCond .eq 28, 3) := by decide +kernel
theorem dX6_dayBy_8 : decode cX6_dayBy 8 = .ok (.iload_n 2, 1) := by decide +kernel
theorem dX6_dayBy_9 : decode cX6_dayBy 9 = .ok (.invokestatic 211, 3) := by decide +kernel
theorem dX6_dayBy_12 : decode cX6_dayBy 12 = .ok (.ifCond .eq 21, 3) := by decide +kernel
theorem dX6_dayBy_15 : decode cX6_dayBy 15 = .ok (.iload_n 3, 1) := by decide +kernel
theorem dX6_dayBy_16 : decode cX6_dayBy 16 = .ok (.i2l, 1) := by decide +kernel
theorem dX6_dayBy_17 : decode cX6_dayBy 17 = .ok (.invokestatic 141, 3) := by decide +kernel
theorem dX6_dayBy_20 : decode cX6_dayBy 20 = .ok (.ifCond .eq 13, 3) := by decide +kernel
theorem dX6_dayBy_23 : decode cX6_dayBy 23 = .ok (.aload_n 0, 1) := by decide +kernel
theorem dX6_dayBy_24 : decode cX6_dayBy 24 = .ok (.iload_n 1, 1) := by decide +kernel
theorem dX6_dayBy_25 : decode cX6_dayBy 25 = .ok (.iload_n 2, 1) := by decide +kernel
theorem dX6_dayBy_26 : decode cX6_dayBy 26 = .ok (.iload_n 3, 1) := by decide +kernel
theorem dX6_dayBy_27 : decode cX6_dayBy 27 = .ok (.invokevirtual 205, 3) := by decide +kernel
theorem dX6_dayBy_30 : decode cX6_dayBy 30 = .ok (.goto 5, 3) := by decide +kernel
theorem dX6_dayBy_33 : decode cX6_dayBy 33 = .ok (.ldc 111, 2) := by decide +kernel
theorem dX6_dayBy_35 : decode cX6_dayBy 35 = .ok (.ireturn, 1) := by decide +kernel
theorem dX6_gain_0 : decode cX6_gain 0 = .ok (.aload_n 0, 1) := by decide +kernel
theorem dX6_gain_1 : decode cX6_gain 1 = .ok (.iload_n 1, 1) := by decide +kernel
theorem dX6_gain_2 : decode cX6_gain 2 = .ok (.invokevirtual 157, 3) := by decide +kernel
theorem dX6_gain_5 : decode cX6_gain 5 = .ok (.ifCond .eq 40, 3) := by decide +kernel
theorem dX6_gain_8 : decode cX6_gain 8 = .ok (.iload_n 2, 1) := by decide +kernel
theorem dX6_gain_9 : decode cX6_gain 9 = .ok (.invokestatic 211, 3) := by decide +kernel
theorem dX6_gain_12 : decode cX6_gain 12 = .ok (.ifCond .eq 33, 3) := by decide +kernel
theorem dX6_gain_15 : decode cX6_gain 15 = .ok (.iload_n 3, 1) := by decide +kernel
theorem dX6_gain_16 : decode cX6_gain 16 = .ok (.i2l, 1) := by decide +kernel
theorem dX6_gain_17 : decode cX6_gain 17 = .ok (.invokestatic 141, 3) := by decide +kernel
theorem dX6_gain_20 : decode cX6_gain 20 = .ok (.ifCond .eq 25, 3) := by decide +kernel
theorem dX6_gain_23 : decode cX6_gain 23 = .ok (.aload_n 0, 1) := by decide +kernel
theorem dX6_gain_24 : decode cX6_gain 24 = .ok (.iload_n 1, 1) := by decide +kernel
theorem dX6_gain_25 : decode cX6_gain 25 = .ok (.iload_n 2, 1) := by decide +kernel
theorem dX6_gain_26 : decode cX6_gain 26 = .ok (.iload_n 3, 1) := by decide +kernel
theorem dX6_gain_27 : decode cX6_gain 27 = .ok (.invokevirtual 205, 3) := by decide +kernel
theorem dX6_gain_30 : decode cX6_gain 30 = .ok (.aload_n 0, 1) := by decide +kernel
theorem dX6_gain_31 : decode cX6_gain 31 = .ok (.aload_n 0, 1) := by decide +kernel
theorem dX6_gain_32 : decode cX6_gain 32 = .ok (.iload_n 1, 1) := by decide +kernel
theorem dX6_gain_33 : decode cX6_gain 33 = .ok (.iconst 1, 1) := by decide +kernel
theorem dX6_gain_34 : decode cX6_gain 34 = .ok (.invokevirtual 150, 3) := by decide +kernel
theorem dX6_gain_37 : decode cX6_gain 37 = .ok (.iload_n 3, 1) := by decide +kernel
theorem dX6_gain_38 : decode cX6_gain 38 = .ok (.invokevirtual 145, 3) := by decide +kernel
theorem dX6_gain_41 : decode cX6_gain 41 = .ok (.isub, 1) := by decide +kernel
theorem dX6_gain_42 : decode cX6_gain 42 = .ok (.goto 5, 3) := by decide +kernel
theorem dX6_gain_45 : decode cX6_gain 45 = .ok (.ldc 111, 2) := by decide +kernel
theorem dX6_gain_47 : decode cX6_gain 47 = .ok (.ireturn, 1) := by decide +kernel
theorem dX6_beginsOf_0 : decode cX6_beginsOf 0 = .ok (.aload_n 0, 1) := by decide +kernel
theorem dX6_beginsOf_1 : decode cX6_beginsOf 1 = .ok (.iload_n 1, 1) := by decide +kernel
theorem dX6_beginsOf_2 : decode cX6_beginsOf 2 = .ok (.iload_n 2, 1) := by decide +kernel
theorem dX6_beginsOf_3 : decode cX6_beginsOf 3 = .ok (.invokevirtual 208, 3) := by decide +kernel
theorem dX6_beginsOf_6 : decode cX6_beginsOf 6 = .ok (.istore_n 3, 1) := by decide +kernel
theorem dX6_beginsOf_7 : decode cX6_beginsOf 7 = .ok (.iload_n 2, 1) := by decide +kernel
theorem dX6_beginsOf_8 : decode cX6_beginsOf 8 = .ok (.iconst 1, 1) := by decide +kernel
theorem dX6_beginsOf_9 : decode cX6_beginsOf 9 = .ok (.iadd, 1) := by decide +kernel
theorem dX6_beginsOf_10 : decode cX6_beginsOf 10 = .ok (.istore 4, 2) := by decide +kernel
theorem dX6_beginsOf_12 : decode cX6_beginsOf 12 = .ok (.iload 4, 2) := by decide +kernel
theorem dX6_beginsOf_14 : decode cX6_beginsOf 14 = .ok (.sipush 19999, 3) := by decide +kernel
theorem dX6_beginsOf_17 : decode cX6_beginsOf 17 = .ok (.if_icmp .gt 23, 3) := by decide +kernel
theorem dX6_beginsOf_20 : decode cX6_beginsOf 20 = .ok (.aload_n 0, 1) := by decide +kernel
theorem dX6_beginsOf_21 : decode cX6_beginsOf 21 = .ok (.iload_n 1, 1) := by decide +kernel
theorem dX6_beginsOf_22 : decode cX6_beginsOf 22 = .ok (.iload 4, 2) := by decide +kernel
theorem dX6_beginsOf_24 : decode cX6_beginsOf 24 = .ok (.invokevirtual 208, 3) := by decide +kernel
theorem dX6_beginsOf_27 : decode cX6_beginsOf 27 = .ok (.iload_n 3, 1) := by decide +kernel
theorem dX6_beginsOf_28 : decode cX6_beginsOf 28 = .ok (.if_icmp .eq 6, 3) := by decide +kernel
theorem dX6_beginsOf_31 : decode cX6_beginsOf 31 = .ok (.iload 4, 2) := by decide +kernel
theorem dX6_beginsOf_33 : decode cX6_beginsOf 33 = .ok (.ireturn, 1) := by decide +kernel
theorem dX6_beginsOf_34 : decode cX6_beginsOf 34 = .ok (.iinc 4 1, 3) := by decide +kernel
theorem dX6_beginsOf_37 : decode cX6_beginsOf 37 = .ok (.goto (-25), 3) := by decide +kernel
theorem dX6_beginsOf_40 : decode cX6_beginsOf 40 = .ok (.bipush (-4), 2) := by decide +kernel
theorem dX6_beginsOf_42 : decode cX6_beginsOf 42 = .ok (.ireturn, 1) := by decide +kernel
theorem dX6_begins_0 : decode cX6_begins 0 = .ok (.aload_n 0, 1) := by decide +kernel
theorem dX6_begins_1 : decode cX6_begins 1 = .ok (.iload_n 1, 1) := by decide +kernel
theorem dX6_begins_2 : decode cX6_begins 2 = .ok (.invokevirtual 157, 3) := by decide +kernel
theorem dX6_begins_5 : decode cX6_begins 5 = .ok (.ifCond .eq 20, 3) := by decide +kernel
theorem dX6_begins_8 : decode cX6_begins 8 = .ok (.iload_n 2, 1) := by decide +kernel
theorem dX6_begins_9 : decode cX6_begins 9 = .ok (.i2l, 1) := by decide +kernel
theorem dX6_begins_10 : decode cX6_begins 10 = .ok (.invokestatic 141, 3) := by decide +kernel
theorem dX6_begins_13 : decode cX6_begins 13 = .ok (.ifCond .eq 12, 3) := by decide +kernel
theorem dX6_begins_16 : decode cX6_begins 16 = .ok (.aload_n 0, 1) := by decide +kernel
theorem dX6_begins_17 : decode cX6_begins 17 = .ok (.iload_n 1, 1) := by decide +kernel
theorem dX6_begins_18 : decode cX6_begins 18 = .ok (.iload_n 2, 1) := by decide +kernel
theorem dX6_begins_19 : decode cX6_begins 19 = .ok (.invokevirtual 214, 3) := by decide +kernel
theorem dX6_begins_22 : decode cX6_begins 22 = .ok (.goto 4, 3) := by decide +kernel
theorem dX6_begins_25 : decode cX6_begins 25 = .ok (.iconst (-1), 1) := by decide +kernel
theorem dX6_begins_26 : decode cX6_begins 26 = .ok (.ireturn, 1) := by decide +kernel
theorem dX6_longDay_0 : decode cX6_longDay 0 = .ok (.aload_n 0, 1) := by decide +kernel
theorem dX6_longDay_1 : decode cX6_longDay 1 = .ok (.iload_n 1, 1) := by decide +kernel
theorem dX6_longDay_2 : decode cX6_longDay 2 = .ok (.invokevirtual 157, 3) := by decide +kernel
theorem dX6_longDay_5 : decode cX6_longDay 5 = .ok (.ifCond .eq 11, 3) := by decide +kernel
theorem dX6_longDay_8 : decode cX6_longDay 8 = .ok (.iload_n 2, 1) := by decide +kernel
theorem dX6_longDay_9 : decode cX6_longDay 9 = .ok (.i2l, 1) := by decide +kernel
theorem dX6_longDay_10 : decode cX6_longDay 10 = .ok (.invokestatic 141, 3) := by decide +kernel
theorem dX6_longDay_13 : decode cX6_longDay 13 = .ok (.ifCond .ne 5, 3) := by decide +kernel
theorem dX6_longDay_16 : decode cX6_longDay 16 = .ok (.iconst (-1), 1) := by decide +kernel
theorem dX6_longDay_17 : decode cX6_longDay 17 = .ok (.ireturn, 1) := by decide +kernel
theorem dX6_longDay_18 : decode cX6_longDay 18 = .ok (.aload_n 0, 1) := by decide +kernel
theorem dX6_longDay_19 : decode cX6_longDay 19 = .ok (.iload_n 1, 1) := by decide +kernel
theorem dX6_longDay_20 : decode cX6_longDay 20 = .ok (.iload_n 2, 1) := by decide +kernel
theorem dX6_longDay_21 : decode cX6_longDay 21 = .ok (.invokevirtual 214, 3) := by decide +kernel
theorem dX6_longDay_24 : decode cX6_longDay 24 = .ok (.istore_n 3, 1) := by decide +kernel
theorem dX6_longDay_25 : decode cX6_longDay 25 = .ok (.iload_n 3, 1) := by decide +kernel
theorem dX6_longDay_26 : decode cX6_longDay 26 = .ok (.ifCond .ge 6, 3) := by decide +kernel
theorem dX6_longDay_29 : decode cX6_longDay 29 = .ok (.bipush (-4), 2) := by decide +kernel
theorem dX6_longDay_31 : decode cX6_longDay 31 = .ok (.ireturn, 1) := by decide +kernel
theorem dX6_longDay_32 : decode cX6_longDay 32 = .ok (.iload_n 2, 1) := by decide +kernel
theorem dX6_longDay_33 : decode cX6_longDay 33 = .ok (.istore 4, 2) := by decide +kernel
theorem dX6_longDay_35 : decode cX6_longDay 35 = .ok (.iload 4, 2) := by decide +kernel
theorem dX6_longDay_37 : decode cX6_longDay 37 = .ok (.ifCond .le 27, 3) := by decide +kernel
theorem dX6_longDay_40 : decode cX6_longDay 40 = .ok (.aload_n 0, 1) := by decide +kernel
theorem dX6_longDay_41 : decode cX6_longDay 41 = .ok (.iload_n 1, 1) := by decide +kernel
theorem dX6_longDay_42 : decode cX6_longDay 42 = .ok (.iload 4, 2) := by decide +kernel
theorem dX6_longDay_44 : decode cX6_longDay 44 = .ok (.iconst 1, 1) := by decide +kernel
theorem dX6_longDay_45 : decode cX6_longDay 45 = .ok (.isub, 1) := by decide +kernel
theorem dX6_longDay_46 : decode cX6_longDay 46 = .ok (.invokevirtual 208, 3) := by decide +kernel
theorem dX6_longDay_49 : decode cX6_longDay 49 = .ok (.aload_n 0, 1) := by decide +kernel
theorem dX6_longDay_50 : decode cX6_longDay 50 = .ok (.iload_n 1, 1) := by decide +kernel
theorem dX6_longDay_51 : decode cX6_longDay 51 = .ok (.iload_n 2, 1) := by decide +kernel
theorem dX6_longDay_52 : decode cX6_longDay 52 = .ok (.invokevirtual 208, 3) := by decide +kernel
theorem dX6_longDay_55 : decode cX6_longDay 55 = .ok (.if_icmp .ne 9, 3) := by decide +kernel
theorem dX6_longDay_58 : decode cX6_longDay 58 = .ok (.iinc 4 (-1), 3) := by decide +kernel
theorem dX6_longDay_61 : decode cX6_longDay 61 = .ok (.goto (-26), 3) := by decide +kernel
theorem dX6_longDay_64 : decode cX6_longDay 64 = .ok (.iload_n 3, 1) := by decide +kernel
theorem dX6_longDay_65 : decode cX6_longDay 65 = .ok (.iload 4, 2) := by decide +kernel
theorem dX6_longDay_67 : decode cX6_longDay 67 = .ok (.isub, 1) := by decide +kernel
theorem dX6_longDay_68 : decode cX6_longDay 68 = .ok (.ireturn, 1) := by decide +kernel
theorem dX6_often_0 : decode cX6_often 0 = .ok (.aload_n 0, 1) := by decide +kernel
theorem dX6_often_1 : decode cX6_often 1 = .ok (.iload_n 1, 1) := by decide +kernel
theorem dX6_often_2 : decode cX6_often 2 = .ok (.invokevirtual 157, 3) := by decide +kernel
theorem dX6_often_5 : decode cX6_often 5 = .ok (.ifCond .eq 11, 3) := by decide +kernel
theorem dX6_often_8 : decode cX6_often 8 = .ok (.iload_n 3, 1) := by decide +kernel
theorem dX6_often_9 : decode cX6_often 9 = .ok (.i2l, 1) := by decide +kernel
theorem dX6_often_10 : decode cX6_often 10 = .ok (.invokestatic 141, 3) := by decide +kernel
theorem dX6_often_13 : decode cX6_often 13 = .ok (.ifCond .ne 5, 3) := by decide +kernel
theorem dX6_often_16 : decode cX6_often 16 = .ok (.iconst (-1), 1) := by decide +kernel
theorem dX6_often_17 : decode cX6_often 17 = .ok (.ireturn, 1) := by decide +kernel
theorem dX6_often_18 : decode cX6_often 18 = .ok (.iconst 0, 1) := by decide +kernel
theorem dX6_often_19 : decode cX6_often 19 = .ok (.istore 4, 2) := by decide +kernel
theorem dX6_often_21 : decode cX6_often 21 = .ok (.iconst 0, 1) := by decide +kernel
theorem dX6_often_22 : decode cX6_often 22 = .ok (.istore 5, 2) := by decide +kernel
theorem dX6_often_24 : decode cX6_often 24 = .ok (.iconst 0, 1) := by decide +kernel
theorem dX6_often_25 : decode cX6_often 25 = .ok (.istore 6, 2) := by decide +kernel
theorem dX6_often_27 : decode cX6_often 27 = .ok (.iload 6, 2) := by decide +kernel
theorem dX6_often_29 : decode cX6_often 29 = .ok (.iload_n 3, 1) := by decide +kernel
theorem dX6_often_30 : decode cX6_often 30 = .ok (.if_icmp .gt 51, 3) := by decide +kernel
theorem dX6_often_33 : decode cX6_often 33 = .ok (.aload_n 0, 1) := by decide +kernel
theorem dX6_often_34 : decode cX6_often 34 = .ok (.iload_n 1, 1) := by decide +kernel
theorem dX6_often_35 : decode cX6_often 35 = .ok (.iload 6, 2) := by decide +kernel
theorem dX6_often_37 : decode cX6_often 37 = .ok (.invokevirtual 208, 3) := by decide +kernel
theorem dX6_often_40 : decode cX6_often 40 = .ok (.iload_n 2, 1) := by decide +kernel
theorem dX6_often_41 : decode cX6_often 41 = .ok (.if_icmp .ne 7, 3) := by decide +kernel
theorem dX6_often_44 : decode cX6_often 44 = .ok (.iconst 1, 1) := by decide +kernel
theorem dX6_often_45 : decode cX6_often 45 = .ok (.goto 4, 3) := by decide +kernel
theorem dX6_often_48 : decode cX6_often 48 = .ok (.iconst 0, 1) := by decide +kernel
theorem dX6_often_49 : decode cX6_often 49 = .ok (.istore 7, 2) := by decide +kernel
theorem dX6_often_51 : decode cX6_often 51 = .ok (.iload 4, 2) := by decide +kernel
theorem dX6_often_53 : decode cX6_often 53 = .ok (.iload 7, 2) := by decide +kernel
theorem dX6_often_55 : decode cX6_often 55 = .ok (.ifCond .eq 12, 3) := by decide +kernel
theorem dX6_often_58 : decode cX6_often 58 = .ok (.iload 5, 2) := by decide +kernel
theorem dX6_often_60 : decode cX6_often 60 = .ok (.ifCond .ne 7, 3) := by decide +kernel
theorem dX6_often_63 : decode cX6_often 63 = .ok (.iconst 1, 1) := by decide +kernel
theorem dX6_often_64 : decode cX6_often 64 = .ok (.goto 4, 3) := by decide +kernel
theorem dX6_often_67 : decode cX6_often 67 = .ok (.iconst 0, 1) := by decide +kernel
theorem dX6_often_68 : decode cX6_often 68 = .ok (.iadd, 1) := by decide +kernel
theorem dX6_often_69 : decode cX6_often 69 = .ok (.istore 4, 2) := by decide +kernel
theorem dX6_often_71 : decode cX6_often 71 = .ok (.iload 7, 2) := by decide +kernel
theorem dX6_often_73 : decode cX6_often 73 = .ok (.istore 5, 2) := by decide +kernel
theorem dX6_often_75 : decode cX6_often 75 = .ok (.iinc 6 1, 3) := by decide +kernel
theorem dX6_often_78 : decode cX6_often 78 = .ok (.goto (-51), 3) := by decide +kernel
theorem dX6_often_81 : decode cX6_often 81 = .ok (.iload 4, 2) := by decide +kernel
theorem dX6_often_83 : decode cX6_often 83 = .ok (.ireturn, 1) := by decide +kernel
theorem dX6_duty_0 : decode cX6_duty 0 = .ok (.aload_n 0, 1) := by decide +kernel
theorem dX6_duty_1 : decode cX6_duty 1 = .ok (.iload_n 1, 1) := by decide +kernel
theorem dX6_duty_2 : decode cX6_duty 2 = .ok (.invokevirtual 157, 3) := by decide +kernel
theorem dX6_duty_5 : decode cX6_duty 5 = .ok (.ifCond .eq 23, 3) := by decide +kernel
theorem dX6_duty_8 : decode cX6_duty 8 = .ok (.iload_n 2, 1) := by decide +kernel
theorem dX6_duty_9 : decode cX6_duty 9 = .ok (.i2l, 1) := by decide +kernel
theorem dX6_duty_10 : decode cX6_duty 10 = .ok (.invokestatic 141, 3) := by decide +kernel
theorem dX6_duty_13 : decode cX6_duty 13 = .ok (.ifCond .eq 15, 3) := by decide +kernel
theorem dX6_duty_16 : decode cX6_duty 16 = .ok (.iload_n 3, 1) := by decide +kernel
theorem dX6_duty_17 : decode cX6_duty 17 = .ok (.i2l, 1) := by decide +kernel
theorem dX6_duty_18 : decode cX6_duty 18 = .ok (.lconst 0, 1) := by decide +kernel
theorem dX6_duty_19 : decode cX6_duty 19 = .ok (.ldc2_w 217, 3) := by decide +kernel
theorem dX6_duty_22 : decode cX6_duty 22 = .ok (.invokestatic 48, 3) := by decide +kernel
theorem dX6_duty_25 : decode cX6_duty 25 = .ok (.ifCond .ne 5, 3) := by decide +kernel
theorem dX6_duty_28 : decode cX6_duty 28 = .ok (.iconst (-1), 1) := by decide +kernel
theorem dX6_duty_29 : decode cX6_duty 29 = .ok (.ireturn, 1) := by decide +kernel
theorem dX6_duty_30 : decode cX6_duty 30 = .ok (.aload_n 0, 1) := by decide +kernel
theorem dX6_duty_31 : decode cX6_duty 31 = .ok (.iload_n 1, 1) := by decide +kernel
theorem dX6_duty_32 : decode cX6_duty 32 = .ok (.iload_n 2, 1) := by decide +kernel
theorem dX6_duty_33 : decode cX6_duty 33 = .ok (.invokevirtual 208, 3) := by decide +kernel
theorem dX6_duty_36 : decode cX6_duty 36 = .ok (.iload_n 3, 1) := by decide +kernel
theorem dX6_duty_37 : decode cX6_duty 37 = .ok (.iadd, 1) := by decide +kernel
theorem dX6_duty_38 : decode cX6_duty 38 = .ok (.istore 4, 2) := by decide +kernel
theorem dX6_duty_40 : decode cX6_duty 40 = .ok (.iload_n 2, 1) := by decide +kernel
theorem dX6_duty_41 : decode cX6_duty 41 = .ok (.istore 5, 2) := by decide +kernel
theorem dX6_duty_43 : decode cX6_duty 43 = .ok (.iload 5, 2) := by decide +kernel
theorem dX6_duty_45 : decode cX6_duty 45 = .ok (.sipush 19999, 3) := by decide +kernel
theorem dX6_duty_48 : decode cX6_duty 48 = .ok (.if_icmp .gt 24, 3) := by decide +kernel
theorem dX6_duty_51 : decode cX6_duty 51 = .ok (.aload_n 0, 1) := by decide +kernel
theorem dX6_duty_52 : decode cX6_duty 52 = .ok (.iload_n 1, 1) := by decide +kernel
theorem dX6_duty_53 : decode cX6_duty 53 = .ok (.iload 5, 2) := by decide +kernel
theorem dX6_duty_55 : decode cX6_duty 55 = .ok (.invokevirtual 208, 3) := by decide +kernel
theorem dX6_duty_58 : decode cX6_duty 58 = .ok (.iload 4, 2) := by decide +kernel
theorem dX6_duty_60 : decode cX6_duty 60 = .ok (.if_icmp .lt 6, 3) := by decide +kernel
theorem dX6_duty_63 : decode cX6_duty 63 = .ok (.iload 5, 2) := by decide +kernel
theorem dX6_duty_65 : decode cX6_duty 65 = .ok (.ireturn, 1) := by decide +kernel
theorem dX6_duty_66 : decode cX6_duty 66 = .ok (.iinc 5 1, 3) := by decide +kernel
theorem dX6_duty_69 : decode cX6_duty 69 = .ok (.goto (-26), 3) := by decide +kernel
theorem dX6_duty_72 : decode cX6_duty 72 = .ok (.bipush (-4), 2) := by decide +kernel
theorem dX6_duty_74 : decode cX6_duty 74 = .ok (.ireturn, 1) := by decide +kernel
theorem dX6_differ_0 : decode cX6_differ 0 = .ok (.aload_n 0, 1) := by decide +kernel
theorem dX6_differ_1 : decode cX6_differ 1 = .ok (.iload_n 1, 1) := by decide +kernel
theorem dX6_differ_2 : decode cX6_differ 2 = .ok (.invokevirtual 157, 3) := by decide +kernel
theorem dX6_differ_5 : decode cX6_differ 5 = .ok (.ifCond .eq 35, 3) := by decide +kernel
theorem dX6_differ_8 : decode cX6_differ 8 = .ok (.aload_n 0, 1) := by decide +kernel
theorem dX6_differ_9 : decode cX6_differ 9 = .ok (.iload_n 2, 1) := by decide +kernel
theorem dX6_differ_10 : decode cX6_differ 10 = .ok (.invokevirtual 157, 3) := by decide +kernel
theorem dX6_differ_13 : decode cX6_differ 13 = .ok (.ifCond .eq 27, 3) := by decide +kernel
theorem dX6_differ_16 : decode cX6_differ 16 = .ok (.iload_n 3, 1) := by decide +kernel
theorem dX6_differ_17 : decode cX6_differ 17 = .ok (.i2l, 1) := by decide +kernel
theorem dX6_differ_18 : decode cX6_differ 18 = .ok (.invokestatic 141, 3) := by decide +kernel
theorem dX6_differ_21 : decode cX6_differ 21 = .ok (.ifCond .eq 19, 3) := by decide +kernel
theorem dX6_differ_24 : decode cX6_differ 24 = .ok (.aload_n 0, 1) := by decide +kernel
theorem dX6_differ_25 : decode cX6_differ 25 = .ok (.iload_n 1, 1) := by decide +kernel
theorem dX6_differ_26 : decode cX6_differ 26 = .ok (.iload_n 3, 1) := by decide +kernel
theorem dX6_differ_27 : decode cX6_differ 27 = .ok (.invokevirtual 208, 3) := by decide +kernel
theorem dX6_differ_30 : decode cX6_differ 30 = .ok (.aload_n 0, 1) := by decide +kernel
theorem dX6_differ_31 : decode cX6_differ 31 = .ok (.iload_n 2, 1) := by decide +kernel
theorem dX6_differ_32 : decode cX6_differ 32 = .ok (.iload_n 3, 1) := by decide +kernel
theorem dX6_differ_33 : decode cX6_differ 33 = .ok (.invokevirtual 208, 3) := by decide +kernel
theorem dX6_differ_36 : decode cX6_differ 36 = .ok (.isub, 1) := by decide +kernel
theorem dX6_differ_37 : decode cX6_differ 37 = .ok (.goto 5, 3) := by decide +kernel
theorem dX6_differ_40 : decode cX6_differ 40 = .ok (.ldc 111, 2) := by decide +kernel
theorem dX6_differ_42 : decode cX6_differ 42 = .ok (.ireturn, 1) := by decide +kernel
theorem dX6_agree_0 : decode cX6_agree 0 = .ok (.aload_n 0, 1) := by decide +kernel
theorem dX6_agree_1 : decode cX6_agree 1 = .ok (.iload_n 1, 1) := by decide +kernel
theorem dX6_agree_2 : decode cX6_agree 2 = .ok (.invokevirtual 157, 3) := by decide +kernel
theorem dX6_agree_5 : decode cX6_agree 5 = .ok (.ifCond .eq 19, 3) := by decide +kernel
theorem dX6_agree_8 : decode cX6_agree 8 = .ok (.aload_n 0, 1) := by decide +kernel
theorem dX6_agree_9 : decode cX6_agree 9 = .ok (.iload_n 2, 1) := by decide +kernel
theorem dX6_agree_10 : decode cX6_agree 10 = .ok (.invokevirtual 157, 3) := by decide +kernel
theorem dX6_agree_13 : decode cX6_agree 13 = .ok (.ifCond .eq 11, 3) := by decide +kernel
theorem dX6_agree_16 : decode cX6_agree 16 = .ok (.iload_n 3, 1) := by decide +kernel
theorem dX6_agree_17 : decode cX6_agree 17 = .ok (.i2l, 1) := by decide +kernel
theorem dX6_agree_18 : decode cX6_agree 18 = .ok (.invokestatic 141, 3) := by decide +kernel
theorem dX6_agree_21 : decode cX6_agree 21 = .ok (.ifCond .ne 5, 3) := by decide +kernel
theorem dX6_agree_24 : decode cX6_agree 24 = .ok (.iconst (-1), 1) := by decide +kernel
theorem dX6_agree_25 : decode cX6_agree 25 = .ok (.ireturn, 1) := by decide +kernel
theorem dX6_agree_26 : decode cX6_agree 26 = .ok (.iload_n 3, 1) := by decide +kernel
theorem dX6_agree_27 : decode cX6_agree 27 = .ok (.istore 4, 2) := by decide +kernel
theorem dX6_agree_29 : decode cX6_agree 29 = .ok (.iload 4, 2) := by decide +kernel
theorem dX6_agree_31 : decode cX6_agree 31 = .ok (.sipush 19999, 3) := by decide +kernel
theorem dX6_agree_34 : decode cX6_agree 34 = .ok (.if_icmp .gt 29, 3) := by decide +kernel
theorem dX6_agree_37 : decode cX6_agree 37 = .ok (.aload_n 0, 1) := by decide +kernel
theorem dX6_agree_38 : decode cX6_agree 38 = .ok (.iload_n 1, 1) := by decide +kernel
theorem dX6_agree_39 : decode cX6_agree 39 = .ok (.iload 4, 2) := by decide +kernel
theorem dX6_agree_41 : decode cX6_agree 41 = .ok (.invokevirtual 208, 3) := by decide +kernel
theorem dX6_agree_44 : decode cX6_agree 44 = .ok (.aload_n 0, 1) := by decide +kernel
theorem dX6_agree_45 : decode cX6_agree 45 = .ok (.iload_n 2, 1) := by decide +kernel
theorem dX6_agree_46 : decode cX6_agree 46 = .ok (.iload 4, 2) := by decide +kernel
theorem dX6_agree_48 : decode cX6_agree 48 = .ok (.invokevirtual 208, 3) := by decide +kernel
theorem dX6_agree_51 : decode cX6_agree 51 = .ok (.if_icmp .ne 6, 3) := by decide +kernel
theorem dX6_agree_54 : decode cX6_agree 54 = .ok (.iload 4, 2) := by decide +kernel
theorem dX6_agree_56 : decode cX6_agree 56 = .ok (.ireturn, 1) := by decide +kernel
theorem dX6_agree_57 : decode cX6_agree 57 = .ok (.iinc 4 1, 3) := by decide +kernel
theorem dX6_agree_60 : decode cX6_agree 60 = .ok (.goto (-31), 3) := by decide +kernel
theorem dX6_agree_63 : decode cX6_agree 63 = .ok (.bipush (-4), 2) := by decide +kernel
theorem dX6_agree_65 : decode cX6_agree 65 = .ok (.ireturn, 1) := by decide +kernel
theorem dX6_part_0 : decode cX6_part 0 = .ok (.aload_n 0, 1) := by decide +kernel
theorem dX6_part_1 : decode cX6_part 1 = .ok (.iload_n 1, 1) := by decide +kernel
theorem dX6_part_2 : decode cX6_part 2 = .ok (.invokevirtual 157, 3) := by decide +kernel
theorem dX6_part_5 : decode cX6_part 5 = .ok (.ifCond .eq 31, 3) := by decide +kernel
theorem dX6_part_8 : decode cX6_part 8 = .ok (.iload_n 2, 1) := by decide +kernel
theorem dX6_part_9 : decode cX6_part 9 = .ok (.invokestatic 211, 3) := by decide +kernel
theorem dX6_part_12 : decode cX6_part 12 = .ok (.ifCond .eq 24, 3) := by decide +kernel
theorem dX6_part_15 : decode cX6_part 15 = .ok (.iload_n 3, 1) := by decide +kernel
theorem dX6_part_16 : decode cX6_part 16 = .ok (.invokestatic 211, 3) := by decide +kernel
theorem dX6_part_19 : decode cX6_part 19 = .ok (.ifCond .eq 17, 3) := by decide +kernel
theorem dX6_part_22 : decode cX6_part 22 = .ok (.iload_n 2, 1) := by decide +kernel
theorem dX6_part_23 : decode cX6_part 23 = .ok (.iload_n 3, 1) := by decide +kernel
theorem dX6_part_24 : decode cX6_part 24 = .ok (.if_icmp .eq 12, 3) := by decide +kernel
theorem dX6_part_27 : decode cX6_part 27 = .ok (.iload 4, 2) := by decide +kernel
theorem dX6_part_29 : decode cX6_part 29 = .ok (.i2l, 1) := by decide +kernel
theorem dX6_part_30 : decode cX6_part 30 = .ok (.invokestatic 141, 3) := by decide +kernel
theorem dX6_part_33 : decode cX6_part 33 = .ok (.ifCond .ne 5, 3) := by decide +kernel
theorem dX6_part_36 : decode cX6_part 36 = .ok (.iconst (-1), 1) := by decide +kernel
theorem dX6_part_37 : decode cX6_part 37 = .ok (.ireturn, 1) := by decide +kernel
theorem dX6_part_38 : decode cX6_part 38 = .ok (.iload 4, 2) := by decide +kernel
theorem dX6_part_40 : decode cX6_part 40 = .ok (.istore 5, 2) := by decide +kernel
theorem dX6_part_42 : decode cX6_part 42 = .ok (.iload 5, 2) := by decide +kernel
theorem dX6_part_44 : decode cX6_part 44 = .ok (.sipush 19999, 3) := by decide +kernel
theorem dX6_part_47 : decode cX6_part 47 = .ok (.if_icmp .gt 31, 3) := by decide +kernel
theorem dX6_part_50 : decode cX6_part 50 = .ok (.aload_n 0, 1) := by decide +kernel
theorem dX6_part_51 : decode cX6_part 51 = .ok (.iload_n 1, 1) := by decide +kernel
theorem dX6_part_52 : decode cX6_part 52 = .ok (.iload_n 2, 1) := by decide +kernel
theorem dX6_part_53 : decode cX6_part 53 = .ok (.iload 5, 2) := by decide +kernel
theorem dX6_part_55 : decode cX6_part 55 = .ok (.invokevirtual 205, 3) := by decide +kernel
theorem dX6_part_58 : decode cX6_part 58 = .ok (.aload_n 0, 1) := by decide +kernel
theorem dX6_part_59 : decode cX6_part 59 = .ok (.iload_n 1, 1) := by decide +kernel
theorem dX6_part_60 : decode cX6_part 60 = .ok (.iload_n 3, 1) := by decide +kernel
theorem dX6_part_61 : decode cX6_part 61 = .ok (.iload 5, 2) := by decide +kernel
theorem dX6_part_63 : decode cX6_part 63 = .ok (.invokevirtual 205, 3) := by decide +kernel
theorem dX6_part_66 : decode cX6_part 66 = .ok (.if_icmp .eq 6, 3) := by decide +kernel
theorem dX6_part_69 : decode cX6_part 69 = .ok (.iload 5, 2) := by decide +kernel
theorem dX6_part_71 : decode cX6_part 71 = .ok (.ireturn, 1) := by decide +kernel
theorem dX6_part_72 : decode cX6_part 72 = .ok (.iinc 5 1, 3) := by decide +kernel
theorem dX6_part_75 : decode cX6_part 75 = .ok (.goto (-33), 3) := by decide +kernel
theorem dX6_part_78 : decode cX6_part 78 = .ok (.bipush (-4), 2) := by decide +kernel
theorem dX6_part_80 : decode cX6_part 80 = .ok (.ireturn, 1) := by decide +kernel
theorem dX6_wrongBy_0 : decode cX6_wrongBy 0 = .ok (.aload_n 0, 1) := by decide +kernel
theorem dX6_wrongBy_1 : decode cX6_wrongBy 1 = .ok (.iconst 2, 1) := by decide +kernel
theorem dX6_wrongBy_2 : decode cX6_wrongBy 2 = .ok (.iload_n 1, 1) := by decide +kernel
theorem dX6_wrongBy_3 : decode cX6_wrongBy 3 = .ok (.invokevirtual 114, 3) := by decide +kernel
theorem dX6_wrongBy_6 : decode cX6_wrongBy 6 = .ok (.istore_n 3, 1) := by decide +kernel
theorem dX6_wrongBy_7 : decode cX6_wrongBy 7 = .ok (.iconst 0, 1) := by decide +kernel
theorem dX6_wrongBy_8 : decode cX6_wrongBy 8 = .ok (.istore 4, 2) := by decide +kernel
theorem dX6_wrongBy_10 : decode cX6_wrongBy 10 = .ok (.iconst 0, 1) := by decide +kernel
theorem dX6_wrongBy_11 : decode cX6_wrongBy 11 = .ok (.istore 5, 2) := by decide +kernel
theorem dX6_wrongBy_13 : decode cX6_wrongBy 13 = .ok (.iload 5, 2) := by decide +kernel
theorem dX6_wrongBy_15 : decode cX6_wrongBy 15 = .ok (.aload_n 0, 1) := by decide +kernel
theorem dX6_wrongBy_16 : decode cX6_wrongBy 16 = .ok (.getfield 9, 3) := by decide +kernel
theorem dX6_wrongBy_19 : decode cX6_wrongBy 19 = .ok (.iconst 0, 1) := by decide +kernel
theorem dX6_wrongBy_20 : decode cX6_wrongBy 20 = .ok (.iaload, 1) := by decide +kernel
theorem dX6_wrongBy_21 : decode cX6_wrongBy 21 = .ok (.if_icmp .ge 83, 3) := by decide +kernel
theorem dX6_wrongBy_24 : decode cX6_wrongBy 24 = .ok (.iconst 0, 1) := by decide +kernel
theorem dX6_wrongBy_25 : decode cX6_wrongBy 25 = .ok (.istore 6, 2) := by decide +kernel
theorem dX6_wrongBy_27 : decode cX6_wrongBy 27 = .ok (.iload 6, 2) := by decide +kernel
theorem dX6_wrongBy_29 : decode cX6_wrongBy 29 = .ok (.iload 5, 2) := by decide +kernel
theorem dX6_wrongBy_31 : decode cX6_wrongBy 31 = .ok (.if_icmp .ge 67, 3) := by decide +kernel
theorem dX6_wrongBy_34 : decode cX6_wrongBy 34 = .ok (.iload 4, 2) := by decide +kernel
theorem dX6_wrongBy_36 : decode cX6_wrongBy 36 = .ok (.aload_n 0, 1) := by decide +kernel
theorem dX6_wrongBy_37 : decode cX6_wrongBy 37 = .ok (.iload 5, 2) := by decide +kernel
theorem dX6_wrongBy_39 : decode cX6_wrongBy 39 = .ok (.iload_n 2, 1) := by decide +kernel
theorem dX6_wrongBy_40 : decode cX6_wrongBy 40 = .ok (.invokevirtual 145, 3) := by decide +kernel
theorem dX6_wrongBy_43 : decode cX6_wrongBy 43 = .ok (.aload_n 0, 1) := by decide +kernel
theorem dX6_wrongBy_44 : decode cX6_wrongBy 44 = .ok (.iload 6, 2) := by decide +kernel
theorem dX6_wrongBy_46 : decode cX6_wrongBy 46 = .ok (.iload_n 2, 1) := by decide +kernel
theorem dX6_wrongBy_47 : decode cX6_wrongBy 47 = .ok (.invokevirtual 145, 3) := by decide +kernel
theorem dX6_wrongBy_50 : decode cX6_wrongBy 50 = .ok (.if_icmp .ne 7, 3) := by decide +kernel
theorem dX6_wrongBy_53 : decode cX6_wrongBy 53 = .ok (.iconst 0, 1) := by decide +kernel
theorem dX6_wrongBy_54 : decode cX6_wrongBy 54 = .ok (.goto 35, 3) := by decide +kernel
theorem dX6_wrongBy_57 : decode cX6_wrongBy 57 = .ok (.aload_n 0, 1) := by decide +kernel
theorem dX6_wrongBy_58 : decode cX6_wrongBy 58 = .ok (.getfield 9, 3) := by decide +kernel
theorem dX6_wrongBy_61 : decode cX6_wrongBy 61 = .ok (.bipush 43, 2) := by decide +kernel
theorem dX6_wrongBy_63 : decode cX6_wrongBy 63 = .ok (.bipush 10, 2) := by decide +kernel
theorem dX6_wrongBy_65 : decode cX6_wrongBy 65 = .ok (.iload 5, 2) := by decide +kernel
theorem dX6_wrongBy_67 : decode cX6_wrongBy 67 = .ok (.imul, 1) := by decide +kernel
theorem dX6_wrongBy_68 : decode cX6_wrongBy 68 = .ok (.iadd, 1) := by decide +kernel
theorem dX6_wrongBy_69 : decode cX6_wrongBy 69 = .ok (.iload 6, 2) := by decide +kernel
theorem dX6_wrongBy_71 : decode cX6_wrongBy 71 = .ok (.iadd, 1) := by decide +kernel
theorem dX6_wrongBy_72 : decode cX6_wrongBy 72 = .ok (.iaload, 1) := by decide +kernel
theorem dX6_wrongBy_73 : decode cX6_wrongBy 73 = .ok (.aload_n 0, 1) := by decide +kernel
theorem dX6_wrongBy_74 : decode cX6_wrongBy 74 = .ok (.iload 5, 2) := by decide +kernel
theorem dX6_wrongBy_76 : decode cX6_wrongBy 76 = .ok (.iconst 3, 1) := by decide +kernel
theorem dX6_wrongBy_77 : decode cX6_wrongBy 77 = .ok (.invokevirtual 108, 3) := by decide +kernel
theorem dX6_wrongBy_80 : decode cX6_wrongBy 80 = .ok (.aload_n 0, 1) := by decide +kernel
theorem dX6_wrongBy_81 : decode cX6_wrongBy 81 = .ok (.iload 6, 2) := by decide +kernel
theorem dX6_wrongBy_83 : decode cX6_wrongBy 83 = .ok (.iconst 3, 1) := by decide +kernel
theorem dX6_wrongBy_84 : decode cX6_wrongBy 84 = .ok (.invokevirtual 108, 3) := by decide +kernel
theorem dX6_wrongBy_87 : decode cX6_wrongBy 87 = .ok (.iadd, 1) := by decide +kernel
theorem dX6_wrongBy_88 : decode cX6_wrongBy 88 = .ok (.imul, 1) := by decide +kernel
theorem dX6_wrongBy_89 : decode cX6_wrongBy 89 = .ok (.iadd, 1) := by decide +kernel
theorem dX6_wrongBy_90 : decode cX6_wrongBy 90 = .ok (.istore 4, 2) := by decide +kernel
theorem dX6_wrongBy_92 : decode cX6_wrongBy 92 = .ok (.iinc 6 1, 3) := by decide +kernel
theorem dX6_wrongBy_95 : decode cX6_wrongBy 95 = .ok (.goto (-68), 3) := by decide +kernel
theorem dX6_wrongBy_98 : decode cX6_wrongBy 98 = .ok (.iinc 5 1, 3) := by decide +kernel
theorem dX6_wrongBy_101 : decode cX6_wrongBy 101 = .ok (.goto (-88), 3) := by decide +kernel
theorem dX6_wrongBy_104 : decode cX6_wrongBy 104 = .ok (.aload_n 0, 1) := by decide +kernel
theorem dX6_wrongBy_105 : decode cX6_wrongBy 105 = .ok (.getfield 9, 3) := by decide +kernel
theorem dX6_wrongBy_108 : decode cX6_wrongBy 108 = .ok (.iconst 2, 1) := by decide +kernel
theorem dX6_wrongBy_109 : decode cX6_wrongBy 109 = .ok (.iload_n 3, 1) := by decide +kernel
theorem dX6_wrongBy_110 : decode cX6_wrongBy 110 = .ok (.iastore, 1) := by decide +kernel
theorem dX6_wrongBy_111 : decode cX6_wrongBy 111 = .ok (.iload 4, 2) := by decide +kernel
theorem dX6_wrongBy_113 : decode cX6_wrongBy 113 = .ok (.ireturn, 1) := by decide +kernel
theorem dX6_wrong_0 : decode cX6_wrong 0 = .ok (.iload_n 1, 1) := by decide +kernel
theorem dX6_wrong_1 : decode cX6_wrong 1 = .ok (.i2l, 1) := by decide +kernel
theorem dX6_wrong_2 : decode cX6_wrong 2 = .ok (.lconst 0, 1) := by decide +kernel
theorem dX6_wrong_3 : decode cX6_wrong 3 = .ok (.ldc2_w 117, 3) := by decide +kernel
theorem dX6_wrong_6 : decode cX6_wrong 6 = .ok (.invokestatic 48, 3) := by decide +kernel
theorem dX6_wrong_9 : decode cX6_wrong 9 = .ok (.ifCond .eq 20, 3) := by decide +kernel
theorem dX6_wrong_12 : decode cX6_wrong 12 = .ok (.iload_n 2, 1) := by decide +kernel
theorem dX6_wrong_13 : decode cX6_wrong 13 = .ok (.i2l, 1) := by decide +kernel
theorem dX6_wrong_14 : decode cX6_wrong 14 = .ok (.invokestatic 141, 3) := by decide +kernel
theorem dX6_wrong_17 : decode cX6_wrong 17 = .ok (.ifCond .eq 12, 3) := by decide +kernel
theorem dX6_wrong_20 : decode cX6_wrong 20 = .ok (.aload_n 0, 1) := by decide +kernel
theorem dX6_wrong_21 : decode cX6_wrong 21 = .ok (.iload_n 1, 1) := by decide +kernel
theorem dX6_wrong_22 : decode cX6_wrong 22 = .ok (.iload_n 2, 1) := by decide +kernel
theorem dX6_wrong_23 : decode cX6_wrong 23 = .ok (.invokevirtual 219, 3) := by decide +kernel
theorem dX6_wrong_26 : decode cX6_wrong 26 = .ok (.goto 4, 3) := by decide +kernel
theorem dX6_wrong_29 : decode cX6_wrong 29 = .ok (.iconst (-1), 1) := by decide +kernel
theorem dX6_wrong_30 : decode cX6_wrong 30 = .ok (.ireturn, 1) := by decide +kernel
theorem dX6_bestLine_0 : decode cX6_bestLine 0 = .ok (.iload_n 1, 1) := by decide +kernel
theorem dX6_bestLine_1 : decode cX6_bestLine 1 = .ok (.i2l, 1) := by decide +kernel
theorem dX6_bestLine_2 : decode cX6_bestLine 2 = .ok (.invokestatic 141, 3) := by decide +kernel
theorem dX6_bestLine_5 : decode cX6_bestLine 5 = .ok (.ifCond .eq 13, 3) := by decide +kernel
theorem dX6_bestLine_8 : decode cX6_bestLine 8 = .ok (.iload_n 2, 1) := by decide +kernel
theorem dX6_bestLine_9 : decode cX6_bestLine 9 = .ok (.i2l, 1) := by decide +kernel
theorem dX6_bestLine_10 : decode cX6_bestLine 10 = .ok (.lconst 0, 1) := by decide +kernel
theorem dX6_bestLine_11 : decode cX6_bestLine 11 = .ok (.lconst 1, 1) := by decide +kernel
theorem dX6_bestLine_12 : decode cX6_bestLine 12 = .ok (.invokestatic 48, 3) := by decide +kernel
theorem dX6_bestLine_15 : decode cX6_bestLine 15 = .ok (.ifCond .ne 5, 3) := by decide +kernel
theorem dX6_bestLine_18 : decode cX6_bestLine 18 = .ok (.iconst (-1), 1) := by decide +kernel
theorem dX6_bestLine_19 : decode cX6_bestLine 19 = .ok (.ireturn, 1) := by decide +kernel
theorem dX6_bestLine_20 : decode cX6_bestLine 20 = .ok (.iconst 0, 1) := by decide +kernel
theorem dX6_bestLine_21 : decode cX6_bestLine 21 = .ok (.istore_n 3, 1) := by decide +kernel
theorem dX6_bestLine_22 : decode cX6_bestLine 22 = .ok (.bipush 15, 2) := by decide +kernel
theorem dX6_bestLine_24 : decode cX6_bestLine 24 = .ok (.istore 4, 2) := by decide +kernel
theorem dX6_bestLine_26 : decode cX6_bestLine 26 = .ok (.iload 4, 2) := by decide +kernel
theorem dX6_bestLine_28 : decode cX6_bestLine 28 = .ok (.sipush 360, 3) := by decide +kernel
theorem dX6_bestLine_31 : decode cX6_bestLine 31 = .ok (.if_icmp .ge 32, 3) := by decide +kernel
theorem dX6_bestLine_34 : decode cX6_bestLine 34 = .ok (.aload_n 0, 1) := by decide +kernel
theorem dX6_bestLine_35 : decode cX6_bestLine 35 = .ok (.iload 4, 2) := by decide +kernel
theorem dX6_bestLine_37 : decode cX6_bestLine 37 = .ok (.iload_n 1, 1) := by decide +kernel
theorem dX6_bestLine_38 : decode cX6_bestLine 38 = .ok (.invokevirtual 219, 3) := by decide +kernel
theorem dX6_bestLine_41 : decode cX6_bestLine 41 = .ok (.aload_n 0, 1) := by decide +kernel
theorem dX6_bestLine_42 : decode cX6_bestLine 42 = .ok (.iload_n 3, 1) := by decide +kernel
theorem dX6_bestLine_43 : decode cX6_bestLine 43 = .ok (.iload_n 1, 1) := by decide +kernel
theorem dX6_bestLine_44 : decode cX6_bestLine 44 = .ok (.invokevirtual 219, 3) := by decide +kernel
theorem dX6_bestLine_47 : decode cX6_bestLine 47 = .ok (.if_icmp .ge 8, 3) := by decide +kernel
theorem dX6_bestLine_50 : decode cX6_bestLine 50 = .ok (.iload 4, 2) := by decide +kernel
theorem dX6_bestLine_52 : decode cX6_bestLine 52 = .ok (.goto 4, 3) := by decide +kernel
theorem dX6_bestLine_55 : decode cX6_bestLine 55 = .ok (.iload_n 3, 1) := by decide +kernel
theorem dX6_bestLine_56 : decode cX6_bestLine 56 = .ok (.istore_n 3, 1) := by decide +kernel
theorem dX6_bestLine_57 : decode cX6_bestLine 57 = .ok (.iinc 4 15, 3) := by decide +kernel
theorem dX6_bestLine_60 : decode cX6_bestLine 60 = .ok (.goto (-34), 3) := by decide +kernel
theorem dX6_bestLine_63 : decode cX6_bestLine 63 = .ok (.iload_n 2, 1) := by decide +kernel
theorem dX6_bestLine_64 : decode cX6_bestLine 64 = .ok (.ifCond .ne 7, 3) := by decide +kernel
theorem dX6_bestLine_67 : decode cX6_bestLine 67 = .ok (.iload_n 3, 1) := by decide +kernel
theorem dX6_bestLine_68 : decode cX6_bestLine 68 = .ok (.goto 9, 3) := by decide +kernel
theorem dX6_bestLine_71 : decode cX6_bestLine 71 = .ok (.aload_n 0, 1) := by decide +kernel
theorem dX6_bestLine_72 : decode cX6_bestLine 72 = .ok (.iload_n 3, 1) := by decide +kernel
theorem dX6_bestLine_73 : decode cX6_bestLine 73 = .ok (.iload_n 1, 1) := by decide +kernel
theorem dX6_bestLine_74 : decode cX6_bestLine 74 = .ok (.invokevirtual 219, 3) := by decide +kernel
theorem dX6_bestLine_77 : decode cX6_bestLine 77 = .ok (.ireturn, 1) := by decide +kernel
theorem dX6_moved_0 : decode cX6_moved 0 = .ok (.iload_n 1, 1) := by decide +kernel
theorem dX6_moved_1 : decode cX6_moved 1 = .ok (.i2l, 1) := by decide +kernel
theorem dX6_moved_2 : decode cX6_moved 2 = .ok (.lconst 0, 1) := by decide +kernel
theorem dX6_moved_3 : decode cX6_moved 3 = .ok (.ldc2_w 117, 3) := by decide +kernel
theorem dX6_moved_6 : decode cX6_moved 6 = .ok (.invokestatic 48, 3) := by decide +kernel
theorem dX6_moved_9 : decode cX6_moved 9 = .ok (.ifCond .eq 11, 3) := by decide +kernel
theorem dX6_moved_12 : decode cX6_moved 12 = .ok (.iload_n 2, 1) := by decide +kernel
theorem dX6_moved_13 : decode cX6_moved 13 = .ok (.i2l, 1) := by decide +kernel
theorem dX6_moved_14 : decode cX6_moved 14 = .ok (.invokestatic 141, 3) := by decide +kernel
theorem dX6_moved_17 : decode cX6_moved 17 = .ok (.ifCond .ne 5, 3) := by decide +kernel
theorem dX6_moved_20 : decode cX6_moved 20 = .ok (.iconst (-1), 1) := by decide +kernel
theorem dX6_moved_21 : decode cX6_moved 21 = .ok (.ireturn, 1) := by decide +kernel
theorem dX6_moved_22 : decode cX6_moved 22 = .ok (.iconst 0, 1) := by decide +kernel
theorem dX6_moved_23 : decode cX6_moved 23 = .ok (.istore_n 3, 1) := by decide +kernel
theorem dX6_moved_24 : decode cX6_moved 24 = .ok (.iconst 0, 1) := by decide +kernel
theorem dX6_moved_25 : decode cX6_moved 25 = .ok (.istore 4, 2) := by decide +kernel
theorem dX6_moved_27 : decode cX6_moved 27 = .ok (.iload 4, 2) := by decide +kernel
theorem dX6_moved_29 : decode cX6_moved 29 = .ok (.aload_n 0, 1) := by decide +kernel
theorem dX6_moved_30 : decode cX6_moved 30 = .ok (.getfield 9, 3) := by decide +kernel
theorem dX6_moved_33 : decode cX6_moved 33 = .ok (.iconst 0, 1) := by decide +kernel
theorem dX6_moved_34 : decode cX6_moved 34 = .ok (.iaload, 1) := by decide +kernel
theorem dX6_moved_35 : decode cX6_moved 35 = .ok (.if_icmp .ge 57, 3) := by decide +kernel
theorem dX6_moved_38 : decode cX6_moved 38 = .ok (.aload_n 0, 1) := by decide +kernel
theorem dX6_moved_39 : decode cX6_moved 39 = .ok (.iload 4, 2) := by decide +kernel
theorem dX6_moved_41 : decode cX6_moved 41 = .ok (.iload_n 2, 1) := by decide +kernel
theorem dX6_moved_42 : decode cX6_moved 42 = .ok (.invokevirtual 145, 3) := by decide +kernel
theorem dX6_moved_45 : decode cX6_moved 45 = .ok (.istore 5, 2) := by decide +kernel
theorem dX6_moved_47 : decode cX6_moved 47 = .ok (.aload_n 0, 1) := by decide +kernel
theorem dX6_moved_48 : decode cX6_moved 48 = .ok (.iconst 2, 1) := by decide +kernel
theorem dX6_moved_49 : decode cX6_moved 49 = .ok (.iload_n 1, 1) := by decide +kernel
theorem dX6_moved_50 : decode cX6_moved 50 = .ok (.invokevirtual 114, 3) := by decide +kernel
theorem dX6_moved_53 : decode cX6_moved 53 = .ok (.istore 6, 2) := by decide +kernel
theorem dX6_moved_55 : decode cX6_moved 55 = .ok (.iload_n 3, 1) := by decide +kernel
theorem dX6_moved_56 : decode cX6_moved 56 = .ok (.aload_n 0, 1) := by decide +kernel
theorem dX6_moved_57 : decode cX6_moved 57 = .ok (.iload 4, 2) := by decide +kernel
theorem dX6_moved_59 : decode cX6_moved 59 = .ok (.iload_n 2, 1) := by decide +kernel
theorem dX6_moved_60 : decode cX6_moved 60 = .ok (.invokevirtual 145, 3) := by decide +kernel
theorem dX6_moved_63 : decode cX6_moved 63 = .ok (.iload 5, 2) := by decide +kernel
theorem dX6_moved_65 : decode cX6_moved 65 = .ok (.if_icmp .eq 10, 3) := by decide +kernel
theorem dX6_moved_68 : decode cX6_moved 68 = .ok (.iconst 1, 1) := by decide +kernel
theorem dX6_moved_69 : decode cX6_moved 69 = .ok (.iload 4, 2) := by decide +kernel
theorem dX6_moved_71 : decode cX6_moved 71 = .ok (.ishl, 1) := by decide +kernel
theorem dX6_moved_72 : decode cX6_moved 72 = .ok (.goto 4, 3) := by decide +kernel
theorem dX6_moved_75 : decode cX6_moved 75 = .ok (.iconst 0, 1) := by decide +kernel
theorem dX6_moved_76 : decode cX6_moved 76 = .ok (.ior, 1) := by decide +kernel
theorem dX6_moved_77 : decode cX6_moved 77 = .ok (.istore_n 3, 1) := by decide +kernel
theorem dX6_moved_78 : decode cX6_moved 78 = .ok (.aload_n 0, 1) := by decide +kernel
theorem dX6_moved_79 : decode cX6_moved 79 = .ok (.getfield 9, 3) := by decide +kernel
theorem dX6_moved_82 : decode cX6_moved 82 = .ok (.iconst 2, 1) := by decide +kernel
theorem dX6_moved_83 : decode cX6_moved 83 = .ok (.iload 6, 2) := by decide +kernel
theorem dX6_moved_85 : decode cX6_moved 85 = .ok (.iastore, 1) := by decide +kernel
theorem dX6_moved_86 : decode cX6_moved 86 = .ok (.iinc 4 1, 3) := by decide +kernel
theorem dX6_moved_89 : decode cX6_moved 89 = .ok (.goto (-62), 3) := by decide +kernel
theorem dX6_moved_92 : decode cX6_moved 92 = .ok (.iload_n 3, 1) := by decide +kernel
theorem dX6_moved_93 : decode cX6_moved 93 = .ok (.ireturn, 1) := by decide +kernel
theorem dX6_leastOf_0 : decode cX6_leastOf 0 = .ok (.aload_n 0, 1) := by decide +kernel
theorem dX6_leastOf_1 : decode cX6_leastOf 1 = .ok (.getfield 19, 3) := by decide +kernel
theorem dX6_leastOf_4 : decode cX6_leastOf 4 = .ok (.iload_n 1, 1) := by decide +kernel
theorem dX6_leastOf_5 : decode cX6_leastOf 5 = .ok (.iaload, 1) := by decide +kernel
theorem dX6_leastOf_6 : decode cX6_leastOf 6 = .ok (.ifCond .ne 8, 3) := by decide +kernel
theorem dX6_leastOf_9 : decode cX6_leastOf 9 = .ok (.bipush (-128), 2) := by decide +kernel
theorem dX6_leastOf_11 : decode cX6_leastOf 11 = .ok (.goto 21, 3) := by decide +kernel
theorem dX6_leastOf_14 : decode cX6_leastOf 14 = .ok (.aload_n 0, 1) := by decide +kernel
theorem dX6_leastOf_15 : decode cX6_leastOf 15 = .ok (.getfield 19, 3) := by decide +kernel
theorem dX6_leastOf_18 : decode cX6_leastOf 18 = .ok (.iload_n 1, 1) := by decide +kernel
theorem dX6_leastOf_19 : decode cX6_leastOf 19 = .ok (.iaload, 1) := by decide +kernel
theorem dX6_leastOf_20 : decode cX6_leastOf 20 = .ok (.iconst 1, 1) := by decide +kernel
theorem dX6_leastOf_21 : decode cX6_leastOf 21 = .ok (.if_icmp .ne 9, 3) := by decide +kernel
theorem dX6_leastOf_24 : decode cX6_leastOf 24 = .ok (.sipush (-32768), 3) := by decide +kernel
theorem dX6_leastOf_27 : decode cX6_leastOf 27 = .ok (.goto 5, 3) := by decide +kernel
theorem dX6_leastOf_30 : decode cX6_leastOf 30 = .ok (.ldc 222, 2) := by decide +kernel
theorem dX6_leastOf_32 : decode cX6_leastOf 32 = .ok (.ireturn, 1) := by decide +kernel
theorem dX6_judge_0 : decode cX6_judge 0 = .ok (.aload_n 0, 1) := by decide +kernel
theorem dX6_judge_1 : decode cX6_judge 1 = .ok (.iload_n 1, 1) := by decide +kernel
theorem dX6_judge_2 : decode cX6_judge 2 = .ok (.invokevirtual 157, 3) := by decide +kernel
theorem dX6_judge_5 : decode cX6_judge 5 = .ok (.ifCond .eq 31, 3) := by decide +kernel
theorem dX6_judge_8 : decode cX6_judge 8 = .ok (.iload_n 2, 1) := by decide +kernel
theorem dX6_judge_9 : decode cX6_judge 9 = .ok (.invokestatic 90, 3) := by decide +kernel
theorem dX6_judge_12 : decode cX6_judge 12 = .ok (.ifCond .eq 24, 3) := by decide +kernel
theorem dX6_judge_15 : decode cX6_judge 15 = .ok (.iload_n 3, 1) := by decide +kernel
theorem dX6_judge_16 : decode cX6_judge 16 = .ok (.i2l, 1) := by decide +kernel
theorem dX6_judge_17 : decode cX6_judge 17 = .ok (.invokestatic 141, 3) := by decide +kernel
theorem dX6_judge_20 : decode cX6_judge 20 = .ok (.ifCond .eq 16, 3) := by decide +kernel
theorem dX6_judge_23 : decode cX6_judge 23 = .ok (.iload 4, 2) := by decide +kernel
theorem dX6_judge_25 : decode cX6_judge 25 = .ok (.i2l, 1) := by decide +kernel
theorem dX6_judge_26 : decode cX6_judge 26 = .ok (.lconst 1, 1) := by decide +kernel
theorem dX6_judge_27 : decode cX6_judge 27 = .ok (.ldc2_w 223, 3) := by decide +kernel
theorem dX6_judge_30 : decode cX6_judge 30 = .ok (.invokestatic 48, 3) := by decide +kernel
theorem dX6_judge_33 : decode cX6_judge 33 = .ok (.ifCond .ne 5, 3) := by decide +kernel
theorem dX6_judge_36 : decode cX6_judge 36 = .ok (.iconst (-1), 1) := by decide +kernel
theorem dX6_judge_37 : decode cX6_judge 37 = .ok (.ireturn, 1) := by decide +kernel
theorem dX6_judge_38 : decode cX6_judge 38 = .ok (.aload_n 0, 1) := by decide +kernel
theorem dX6_judge_39 : decode cX6_judge 39 = .ok (.iload_n 2, 1) := by decide +kernel
theorem dX6_judge_40 : decode cX6_judge 40 = .ok (.iconst (-1), 1) := by decide +kernel
theorem dX6_judge_41 : decode cX6_judge 41 = .ok (.invokevirtual 93, 3) := by decide +kernel
theorem dX6_judge_44 : decode cX6_judge 44 = .ok (.istore 5, 2) := by decide +kernel
theorem dX6_judge_46 : decode cX6_judge 46 = .ok (.iload 5, 2) := by decide +kernel
theorem dX6_judge_48 : decode cX6_judge 48 = .ok (.ifCond .eq 6, 3) := by decide +kernel
theorem dX6_judge_51 : decode cX6_judge 51 = .ok (.iload 5, 2) := by decide +kernel
theorem dX6_judge_53 : decode cX6_judge 53 = .ok (.ireturn, 1) := by decide +kernel
theorem dX6_judge_54 : decode cX6_judge 54 = .ok (.aload_n 0, 1) := by decide +kernel
theorem dX6_judge_55 : decode cX6_judge 55 = .ok (.getfield 22, 3) := by decide +kernel
theorem dX6_judge_58 : decode cX6_judge 58 = .ok (.iload_n 2, 1) := by decide +kernel
theorem dX6_judge_59 : decode cX6_judge 59 = .ok (.iaload, 1) := by decide +kernel
theorem dX6_judge_60 : decode cX6_judge 60 = .ok (.ifCond .le 27, 3) := by decide +kernel
theorem dX6_judge_63 : decode cX6_judge 63 = .ok (.iload_n 3, 1) := by decide +kernel
theorem dX6_judge_64 : decode cX6_judge 64 = .ok (.i2l, 1) := by decide +kernel
theorem dX6_judge_65 : decode cX6_judge 65 = .ok (.aload_n 0, 1) := by decide +kernel
theorem dX6_judge_66 : decode cX6_judge 66 = .ok (.getfield 22, 3) := by decide +kernel
theorem dX6_judge_69 : decode cX6_judge 69 = .ok (.iload_n 2, 1) := by decide +kernel
theorem dX6_judge_70 : decode cX6_judge 70 = .ok (.iaload, 1) := by decide +kernel
theorem dX6_judge_71 : decode cX6_judge 71 = .ok (.i2l, 1) := by decide +kernel
theorem dX6_judge_72 : decode cX6_judge 72 = .ok (.lconst 1, 1) := by decide +kernel
theorem dX6_judge_73 : decode cX6_judge 73 = .ok (.lsub, 1) := by decide +kernel
theorem dX6_judge_74 : decode cX6_judge 74 = .ok (.iload 4, 2) := by decide +kernel
theorem dX6_judge_76 : decode cX6_judge 76 = .ok (.i2l, 1) := by decide +kernel
theorem dX6_judge_77 : decode cX6_judge 77 = .ok (.lmul, 1) := by decide +kernel
theorem dX6_judge_78 : decode cX6_judge 78 = .ok (.ladd, 1) := by decide +kernel
theorem dX6_judge_79 : decode cX6_judge 79 = .ok (.invokestatic 141, 3) := by decide +kernel
theorem dX6_judge_82 : decode cX6_judge 82 = .ok (.ifCond .ne 5, 3) := by decide +kernel
theorem dX6_judge_85 : decode cX6_judge 85 = .ok (.iconst (-1), 1) := by decide +kernel
theorem dX6_judge_86 : decode cX6_judge 86 = .ok (.ireturn, 1) := by decide +kernel
theorem dX6_judge_87 : decode cX6_judge 87 = .ok (.iconst 0, 1) := by decide +kernel
theorem dX6_judge_88 : decode cX6_judge 88 = .ok (.istore 6, 2) := by decide +kernel
theorem dX6_judge_90 : decode cX6_judge 90 = .ok (.iload 6, 2) := by decide +kernel
theorem dX6_judge_92 : decode cX6_judge 92 = .ok (.aload_n 0, 1) := by decide +kernel
theorem dX6_judge_93 : decode cX6_judge 93 = .ok (.getfield 22, 3) := by decide +kernel
theorem dX6_judge_96 : decode cX6_judge 96 = .ok (.iload_n 2, 1) := by decide +kernel
theorem dX6_judge_97 : decode cX6_judge 97 = .ok (.iaload, 1) := by decide +kernel
theorem dX6_judge_98 : decode cX6_judge 98 = .ok (.if_icmp .ge 53, 3) := by decide +kernel
theorem dX6_judge_101 : decode cX6_judge 101 = .ok (.aload_n 0, 1) := by decide +kernel
theorem dX6_judge_102 : decode cX6_judge 102 = .ok (.getfield 25, 3) := by decide +kernel
theorem dX6_judge_105 : decode cX6_judge 105 = .ok (.bipush 100, 2) := by decide +kernel
theorem dX6_judge_107 : decode cX6_judge 107 = .ok (.iload_n 2, 1) := by decide +kernel
theorem dX6_judge_108 : decode cX6_judge 108 = .ok (.imul, 1) := by decide +kernel
theorem dX6_judge_109 : decode cX6_judge 109 = .ok (.iload 6, 2) := by decide +kernel
theorem dX6_judge_111 : decode cX6_judge 111 = .ok (.iadd, 1) := by decide +kernel
theorem dX6_judge_112 : decode cX6_judge 112 = .ok (.iaload, 1) := by decide +kernel
theorem dX6_judge_113 : decode cX6_judge 113 = .ok (.istore 7, 2) := by decide +kernel
theorem dX6_judge_115 : decode cX6_judge 115 = .ok (.iload 7, 2) := by decide +kernel
theorem dX6_judge_117 : decode cX6_judge 117 = .ok (.aload_n 0, 1) := by decide +kernel
theorem dX6_judge_118 : decode cX6_judge 118 = .ok (.iload_n 2, 1) := by decide +kernel
theorem dX6_judge_119 : decode cX6_judge 119 = .ok (.invokevirtual 225, 3) := by decide +kernel
theorem dX6_judge_122 : decode cX6_judge 122 = .ok (.if_icmp .eq 23, 3) := by decide +kernel
theorem dX6_judge_125 : decode cX6_judge 125 = .ok (.iload 7, 2) := by decide +kernel
theorem dX6_judge_127 : decode cX6_judge 127 = .ok (.aload_n 0, 1) := by decide +kernel
theorem dX6_judge_128 : decode cX6_judge 128 = .ok (.iload_n 1, 1) := by decide +kernel
theorem dX6_judge_129 : decode cX6_judge 129 = .ok (.iload_n 3, 1) := by decide +kernel
theorem dX6_judge_130 : decode cX6_judge 130 = .ok (.iload 6, 2) := by decide +kernel
theorem dX6_judge_132 : decode cX6_judge 132 = .ok (.iload 4, 2) := by decide +kernel
theorem dX6_judge_134 : decode cX6_judge 134 = .ok (.imul, 1) := by decide +kernel
theorem dX6_judge_135 : decode cX6_judge 135 = .ok (.iadd, 1) := by decide +kernel
theorem dX6_judge_136 : decode cX6_judge 136 = .ok (.invokevirtual 208, 3) := by decide +kernel
theorem dX6_judge_139 : decode cX6_judge 139 = .ok (.if_icmp .eq 6, 3) := by decide +kernel
theorem dX6_judge_142 : decode cX6_judge 142 = .ok (.iload 6, 2) := by decide +kernel
theorem dX6_judge_144 : decode cX6_judge 144 = .ok (.ireturn, 1) := by decide +kernel
theorem dX6_judge_145 : decode cX6_judge 145 = .ok (.iinc 6 1, 3) := by decide +kernel
theorem dX6_judge_148 : decode cX6_judge 148 = .ok (.goto (-58), 3) := by decide +kernel
theorem dX6_judge_151 : decode cX6_judge 151 = .ok (.bipush (-4), 2) := by decide +kernel
theorem dX6_judge_153 : decode cX6_judge 153 = .ok (.ireturn, 1) := by decide +kernel
theorem dX6_wrongKept_0 : decode cX6_wrongKept 0 = .ok (.aload_n 0, 1) := by decide +kernel
theorem dX6_wrongKept_1 : decode cX6_wrongKept 1 = .ok (.iload_n 1, 1) := by decide +kernel
theorem dX6_wrongKept_2 : decode cX6_wrongKept 2 = .ok (.invokevirtual 157, 3) := by decide +kernel
theorem dX6_wrongKept_5 : decode cX6_wrongKept 5 = .ok (.ifCond .eq 22, 3) := by decide +kernel
theorem dX6_wrongKept_8 : decode cX6_wrongKept 8 = .ok (.iload_n 2, 1) := by decide +kernel
theorem dX6_wrongKept_9 : decode cX6_wrongKept 9 = .ok (.invokestatic 90, 3) := by decide +kernel
theorem dX6_wrongKept_12 : decode cX6_wrongKept 12 = .ok (.ifCond .eq 15, 3) := by decide +kernel
theorem dX6_wrongKept_15 : decode cX6_wrongKept 15 = .ok (.iload_n 3, 1) := by decide +kernel
theorem dX6_wrongKept_16 : decode cX6_wrongKept 16 = .ok (.i2l, 1) := by decide +kernel
theorem dX6_wrongKept_17 : decode cX6_wrongKept 17 = .ok (.lconst 0, 1) := by decide +kernel
theorem dX6_wrongKept_18 : decode cX6_wrongKept 18 = .ok (.ldc2_w 228, 3) := by decide +kernel
theorem dX6_wrongKept_21 : decode cX6_wrongKept 21 = .ok (.invokestatic 48, 3) := by decide +kernel
theorem dX6_wrongKept_24 : decode cX6_wrongKept 24 = .ok (.ifCond .ne 5, 3) := by decide +kernel
theorem dX6_wrongKept_27 : decode cX6_wrongKept 27 = .ok (.iconst (-1), 1) := by decide +kernel
theorem dX6_wrongKept_28 : decode cX6_wrongKept 28 = .ok (.ireturn, 1) := by decide +kernel
theorem dX6_wrongKept_29 : decode cX6_wrongKept 29 = .ok (.aload_n 0, 1) := by decide +kernel
theorem dX6_wrongKept_30 : decode cX6_wrongKept 30 = .ok (.iload_n 2, 1) := by decide +kernel
theorem dX6_wrongKept_31 : decode cX6_wrongKept 31 = .ok (.iconst 2, 1) := by decide +kernel
theorem dX6_wrongKept_32 : decode cX6_wrongKept 32 = .ok (.invokevirtual 93, 3) := by decide +kernel
theorem dX6_wrongKept_35 : decode cX6_wrongKept 35 = .ok (.istore 4, 2) := by decide +kernel
theorem dX6_wrongKept_37 : decode cX6_wrongKept 37 = .ok (.iload 4, 2) := by decide +kernel
theorem dX6_wrongKept_39 : decode cX6_wrongKept 39 = .ok (.ifCond .eq 6, 3) := by decide +kernel
theorem dX6_wrongKept_42 : decode cX6_wrongKept 42 = .ok (.iload 4, 2) := by decide +kernel
theorem dX6_wrongKept_44 : decode cX6_wrongKept 44 = .ok (.ireturn, 1) := by decide +kernel
theorem dX6_wrongKept_45 : decode cX6_wrongKept 45 = .ok (.iconst 0, 1) := by decide +kernel
theorem dX6_wrongKept_46 : decode cX6_wrongKept 46 = .ok (.istore 5, 2) := by decide +kernel
theorem dX6_wrongKept_48 : decode cX6_wrongKept 48 = .ok (.iload 5, 2) := by decide +kernel
theorem dX6_wrongKept_50 : decode cX6_wrongKept 50 = .ok (.aload_n 0, 1) := by decide +kernel
theorem dX6_wrongKept_51 : decode cX6_wrongKept 51 = .ok (.getfield 22, 3) := by decide +kernel
theorem dX6_wrongKept_54 : decode cX6_wrongKept 54 = .ok (.iload_n 2, 1) := by decide +kernel
theorem dX6_wrongKept_55 : decode cX6_wrongKept 55 = .ok (.iaload, 1) := by decide +kernel
theorem dX6_wrongKept_56 : decode cX6_wrongKept 56 = .ok (.if_icmp .ge 31, 3) := by decide +kernel
theorem dX6_wrongKept_59 : decode cX6_wrongKept 59 = .ok (.aload_n 0, 1) := by decide +kernel
theorem dX6_wrongKept_60 : decode cX6_wrongKept 60 = .ok (.getfield 25, 3) := by decide +kernel
theorem dX6_wrongKept_63 : decode cX6_wrongKept 63 = .ok (.bipush 100, 2) := by decide +kernel
theorem dX6_wrongKept_65 : decode cX6_wrongKept 65 = .ok (.iload_n 2, 1) := by decide +kernel
theorem dX6_wrongKept_66 : decode cX6_wrongKept 66 = .ok (.imul, 1) := by decide +kernel
theorem dX6_wrongKept_67 : decode cX6_wrongKept 67 = .ok (.iload 5, 2) := by decide +kernel
theorem dX6_wrongKept_69 : decode cX6_wrongKept 69 = .ok (.iadd, 1) := by decide +kernel
theorem dX6_wrongKept_70 : decode cX6_wrongKept 70 = .ok (.iaload, 1) := by decide +kernel
theorem dX6_wrongKept_71 : decode cX6_wrongKept 71 = .ok (.i2l, 1) := by decide +kernel
theorem dX6_wrongKept_72 : decode cX6_wrongKept 72 = .ok (.invokestatic 141, 3) := by decide +kernel
theorem dX6_wrongKept_75 : decode cX6_wrongKept 75 = .ok (.ifCond .ne 6, 3) := by decide +kernel
theorem dX6_wrongKept_78 : decode cX6_wrongKept 78 = .ok (.bipush (-13), 2) := by decide +kernel
theorem dX6_wrongKept_80 : decode cX6_wrongKept 80 = .ok (.ireturn, 1) := by decide +kernel
theorem dX6_wrongKept_81 : decode cX6_wrongKept 81 = .ok (.iinc 5 1, 3) := by decide +kernel
theorem dX6_wrongKept_84 : decode cX6_wrongKept 84 = .ok (.goto (-36), 3) := by decide +kernel
theorem dX6_wrongKept_87 : decode cX6_wrongKept 87 = .ok (.iconst 0, 1) := by decide +kernel
theorem dX6_wrongKept_88 : decode cX6_wrongKept 88 = .ok (.ireturn, 1) := by decide +kernel
theorem dX6_keptOf_0 : decode cX6_keptOf 0 = .ok (.iconst 0, 1) := by decide +kernel
theorem dX6_keptOf_1 : decode cX6_keptOf 1 = .ok (.istore 4, 2) := by decide +kernel
theorem dX6_keptOf_3 : decode cX6_keptOf 3 = .ok (.iload 4, 2) := by decide +kernel
theorem dX6_keptOf_5 : decode cX6_keptOf 5 = .ok (.aload_n 0, 1) := by decide +kernel
theorem dX6_keptOf_6 : decode cX6_keptOf 6 = .ok (.getfield 22, 3) := by decide +kernel
theorem dX6_keptOf_9 : decode cX6_keptOf 9 = .ok (.iload_n 2, 1) := by decide +kernel
theorem dX6_keptOf_10 : decode cX6_keptOf 10 = .ok (.iaload, 1) := by decide +kernel
theorem dX6_keptOf_11 : decode cX6_keptOf 11 = .ok (.if_icmp .ge 75, 3) := by decide +kernel
theorem dX6_keptOf_14 : decode cX6_keptOf 14 = .ok (.aload_n 0, 1) := by decide +kernel
theorem dX6_keptOf_15 : decode cX6_keptOf 15 = .ok (.getfield 25, 3) := by decide +kernel
theorem dX6_keptOf_18 : decode cX6_keptOf 18 = .ok (.bipush 100, 2) := by decide +kernel
theorem dX6_keptOf_20 : decode cX6_keptOf 20 = .ok (.iload_n 2, 1) := by decide +kernel
theorem dX6_keptOf_21 : decode cX6_keptOf 21 = .ok (.imul, 1) := by decide +kernel
theorem dX6_keptOf_22 : decode cX6_keptOf 22 = .ok (.iload 4, 2) := by decide +kernel
theorem dX6_keptOf_24 : decode cX6_keptOf 24 = .ok (.iadd, 1) := by decide +kernel
theorem dX6_keptOf_25 : decode cX6_keptOf 25 = .ok (.iaload, 1) := by decide +kernel
theorem dX6_keptOf_26 : decode cX6_keptOf 26 = .ok (.istore 5, 2) := by decide +kernel
theorem dX6_keptOf_28 : decode cX6_keptOf 28 = .ok (.aload_n 0, 1) := by decide +kernel
theorem dX6_keptOf_29 : decode cX6_keptOf 29 = .ok (.iload_n 1, 1) := by decide +kernel
theorem dX6_keptOf_30 : decode cX6_keptOf 30 = .ok (.iload 5, 2) := by decide +kernel
theorem dX6_keptOf_32 : decode cX6_keptOf 32 = .ok (.invokevirtual 182, 3) := by decide +kernel
theorem dX6_keptOf_35 : decode cX6_keptOf 35 = .ok (.aload_n 0, 1) := by decide +kernel
theorem dX6_keptOf_36 : decode cX6_keptOf 36 = .ok (.getfield 172, 3) := by decide +kernel
theorem dX6_keptOf_39 : decode cX6_keptOf 39 = .ok (.ifCond .lt 6, 3) := by decide +kernel
theorem dX6_keptOf_42 : decode cX6_keptOf 42 = .ok (.goto 38, 3) := by decide +kernel
theorem dX6_keptOf_45 : decode cX6_keptOf 45 = .ok (.aload_n 0, 1) := by decide +kernel
theorem dX6_keptOf_46 : decode cX6_keptOf 46 = .ok (.iload_n 1, 1) := by decide +kernel
theorem dX6_keptOf_47 : decode cX6_keptOf 47 = .ok (.iload 5, 2) := by decide +kernel
theorem dX6_keptOf_49 : decode cX6_keptOf 49 = .ok (.invokevirtual 196, 3) := by decide +kernel
theorem dX6_keptOf_52 : decode cX6_keptOf 52 = .ok (.istore 6, 2) := by decide +kernel
theorem dX6_keptOf_54 : decode cX6_keptOf 54 = .ok (.iload 6, 2) := by decide +kernel
theorem dX6_keptOf_56 : decode cX6_keptOf 56 = .ok (.i2l, 1) := by decide +kernel
theorem dX6_keptOf_57 : decode cX6_keptOf 57 = .ok (.ldc2_w 54, 3) := by decide +kernel
theorem dX6_keptOf_60 : decode cX6_keptOf 60 = .ok (.iload 6, 2) := by decide +kernel
theorem dX6_keptOf_62 : decode cX6_keptOf 62 = .ok (.i2l, 1) := by decide +kernel
theorem dX6_keptOf_63 : decode cX6_keptOf 63 = .ok (.ldc2_w 54, 3) := by decide +kernel
theorem dX6_keptOf_66 : decode cX6_keptOf 66 = .ok (.invokestatic 129, 3) := by decide +kernel
theorem dX6_keptOf_69 : decode cX6_keptOf 69 = .ok (.lmul, 1) := by decide +kernel
theorem dX6_keptOf_70 : decode cX6_keptOf 70 = .ok (.lsub, 1) := by decide +kernel
theorem dX6_keptOf_71 : decode cX6_keptOf 71 = .ok (.iload_n 3, 1) := by decide +kernel
theorem dX6_keptOf_72 : decode cX6_keptOf 72 = .ok (.i2l, 1) := by decide +kernel
theorem dX6_keptOf_73 : decode cX6_keptOf 73 = .ok (.lcmp, 1) := by decide +kernel
theorem dX6_keptOf_74 : decode cX6_keptOf 74 = .ok (.ifCond .ne 6, 3) := by decide +kernel
theorem dX6_keptOf_77 : decode cX6_keptOf 77 = .ok (.iload 4, 2) := by decide +kernel
theorem dX6_keptOf_79 : decode cX6_keptOf 79 = .ok (.ireturn, 1) := by decide +kernel
theorem dX6_keptOf_80 : decode cX6_keptOf 80 = .ok (.iinc 4 1, 3) := by decide +kernel
theorem dX6_keptOf_83 : decode cX6_keptOf 83 = .ok (.goto (-80), 3) := by decide +kernel
theorem dX6_keptOf_86 : decode cX6_keptOf 86 = .ok (.bipush (-4), 2) := by decide +kernel
theorem dX6_keptOf_88 : decode cX6_keptOf 88 = .ok (.ireturn, 1) := by decide +kernel
theorem dX6_kept_0 : decode cX6_kept 0 = .ok (.aload_n 0, 1) := by decide +kernel
theorem dX6_kept_1 : decode cX6_kept 1 = .ok (.iload_n 1, 1) := by decide +kernel
theorem dX6_kept_2 : decode cX6_kept 2 = .ok (.iload_n 2, 1) := by decide +kernel
theorem dX6_kept_3 : decode cX6_kept 3 = .ok (.iload_n 3, 1) := by decide +kernel
theorem dX6_kept_4 : decode cX6_kept 4 = .ok (.invokevirtual 230, 3) := by decide +kernel
theorem dX6_kept_7 : decode cX6_kept 7 = .ok (.istore 4, 2) := by decide +kernel
theorem dX6_kept_9 : decode cX6_kept 9 = .ok (.iload 4, 2) := by decide +kernel
theorem dX6_kept_11 : decode cX6_kept 11 = .ok (.ifCond .eq 8, 3) := by decide +kernel
theorem dX6_kept_14 : decode cX6_kept 14 = .ok (.iload 4, 2) := by decide +kernel
theorem dX6_kept_16 : decode cX6_kept 16 = .ok (.goto 10, 3) := by decide +kernel
theorem dX6_kept_19 : decode cX6_kept 19 = .ok (.aload_n 0, 1) := by decide +kernel
theorem dX6_kept_20 : decode cX6_kept 20 = .ok (.iload_n 1, 1) := by decide +kernel
theorem dX6_kept_21 : decode cX6_kept 21 = .ok (.iload_n 2, 1) := by decide +kernel
theorem dX6_kept_22 : decode cX6_kept 22 = .ok (.iload_n 3, 1) := by decide +kernel
theorem dX6_kept_23 : decode cX6_kept 23 = .ok (.invokevirtual 233, 3) := by decide +kernel
theorem dX6_kept_26 : decode cX6_kept 26 = .ok (.ireturn, 1) := by decide +kernel
theorem dX6_rounds_0 : decode cX6_rounds 0 = .ok (.aload_n 0, 1) := by decide +kernel
theorem dX6_rounds_1 : decode cX6_rounds 1 = .ok (.iload_n 1, 1) := by decide +kernel
theorem dX6_rounds_2 : decode cX6_rounds 2 = .ok (.invokevirtual 157, 3) := by decide +kernel
theorem dX6_rounds_5 : decode cX6_rounds 5 = .ok (.ifCond .eq 11, 3) := by decide +kernel
theorem dX6_rounds_8 : decode cX6_rounds 8 = .ok (.iload_n 2, 1) := by decide +kernel
theorem dX6_rounds_9 : decode cX6_rounds 9 = .ok (.i2l, 1) := by decide +kernel
theorem dX6_rounds_10 : decode cX6_rounds 10 = .ok (.invokestatic 141, 3) := by decide +kernel
theorem dX6_rounds_13 : decode cX6_rounds 13 = .ok (.ifCond .ne 6, 3) := by decide +kernel
theorem dX6_rounds_16 : decode cX6_rounds 16 = .ok (.ldc 111, 2) := by decide +kernel
theorem dX6_rounds_18 : decode cX6_rounds 18 = .ok (.ireturn, 1) := by decide +kernel
theorem dX6_rounds_19 : decode cX6_rounds 19 = .ok (.aload_n 0, 1) := by decide +kernel
theorem dX6_rounds_20 : decode cX6_rounds 20 = .ok (.iload_n 1, 1) := by decide +kernel
theorem dX6_rounds_21 : decode cX6_rounds 21 = .ok (.iload_n 2, 1) := by decide +kernel
theorem dX6_rounds_22 : decode cX6_rounds 22 = .ok (.invokevirtual 182, 3) := by decide +kernel
theorem dX6_rounds_25 : decode cX6_rounds 25 = .ok (.aload_n 0, 1) := by decide +kernel
theorem dX6_rounds_26 : decode cX6_rounds 26 = .ok (.iload_n 1, 1) := by decide +kernel
theorem dX6_rounds_27 : decode cX6_rounds 27 = .ok (.invokevirtual 202, 3) := by decide +kernel
theorem dX6_rounds_30 : decode cX6_rounds 30 = .ok (.ireturn, 1) := by decide +kernel
theorem dX6_log_0 : decode cX6_log 0 = .ok (.aload_n 0, 1) := by decide +kernel
theorem dX6_log_1 : decode cX6_log 1 = .ok (.iload_n 1, 1) := by decide +kernel
theorem dX6_log_2 : decode cX6_log 2 = .ok (.invokevirtual 157, 3) := by decide +kernel
theorem dX6_log_5 : decode cX6_log 5 = .ok (.ifCond .ne 5, 3) := by decide +kernel
theorem dX6_log_8 : decode cX6_log 8 = .ok (.iconst (-1), 1) := by decide +kernel
theorem dX6_log_9 : decode cX6_log 9 = .ok (.ireturn, 1) := by decide +kernel
theorem dX6_log_10 : decode cX6_log 10 = .ok (.aload_n 0, 1) := by decide +kernel
theorem dX6_log_11 : decode cX6_log 11 = .ok (.iload_n 2, 1) := by decide +kernel
theorem dX6_log_12 : decode cX6_log 12 = .ok (.iconst (-1), 1) := by decide +kernel
theorem dX6_log_13 : decode cX6_log 13 = .ok (.invokevirtual 93, 3) := by decide +kernel
theorem dX6_log_16 : decode cX6_log 16 = .ok (.istore_n 3, 1) := by decide +kernel
theorem dX6_log_17 : decode cX6_log 17 = .ok (.iload_n 3, 1) := by decide +kernel
theorem dX6_log_18 : decode cX6_log 18 = .ok (.ifCond .eq 5, 3) := by decide +kernel
theorem dX6_log_21 : decode cX6_log 21 = .ok (.iload_n 3, 1) := by decide +kernel
theorem dX6_log_22 : decode cX6_log 22 = .ok (.ireturn, 1) := by decide +kernel
theorem dX6_log_23 : decode cX6_log 23 = .ok (.aload_n 0, 1) := by decide +kernel
theorem dX6_log_24 : decode cX6_log 24 = .ok (.getfield 22, 3) := by decide +kernel
theorem dX6_log_27 : decode cX6_log 27 = .ok (.iload_n 2, 1) := by decide +kernel
theorem dX6_log_28 : decode cX6_log 28 = .ok (.iaload, 1) := by decide +kernel
theorem dX6_log_29 : decode cX6_log 29 = .ok (.iconst 2, 1) := by decide +kernel
theorem dX6_log_30 : decode cX6_log 30 = .ok (.irem, 1) := by decide +kernel
theorem dX6_log_31 : decode cX6_log 31 = .ok (.iconst 1, 1) := by decide +kernel
theorem dX6_log_32 : decode cX6_log 32 = .ok (.if_icmp .ne 6, 3) := by decide +kernel
theorem dX6_log_35 : decode cX6_log 35 = .ok (.bipush (-13), 2) := by decide +kernel
theorem dX6_log_37 : decode cX6_log 37 = .ok (.ireturn, 1) := by decide +kernel
theorem dX6_log_38 : decode cX6_log 38 = .ok (.bipush 127, 2) := by decide +kernel
theorem dX6_log_40 : decode cX6_log 40 = .ok (.istore 4, 2) := by decide +kernel
theorem dX6_log_42 : decode cX6_log 42 = .ok (.iconst 0, 1) := by decide +kernel
theorem dX6_log_43 : decode cX6_log 43 = .ok (.istore 5, 2) := by decide +kernel
theorem dX6_log_45 : decode cX6_log 45 = .ok (.iload 5, 2) := by decide +kernel
theorem dX6_log_47 : decode cX6_log 47 = .ok (.iconst 1, 1) := by decide +kernel
theorem dX6_log_48 : decode cX6_log 48 = .ok (.iadd, 1) := by decide +kernel
theorem dX6_log_49 : decode cX6_log 49 = .ok (.aload_n 0, 1) := by decide +kernel
theorem dX6_log_50 : decode cX6_log 50 = .ok (.getfield 22, 3) := by decide +kernel
theorem dX6_log_53 : decode cX6_log 53 = .ok (.iload_n 2, 1) := by decide +kernel
theorem dX6_log_54 : decode cX6_log 54 = .ok (.iaload, 1) := by decide +kernel
theorem dX6_log_55 : decode cX6_log 55 = .ok (.if_icmp .ge 123, 3) := by decide +kernel
theorem dX6_log_58 : decode cX6_log 58 = .ok (.aload_n 0, 1) := by decide +kernel
theorem dX6_log_59 : decode cX6_log 59 = .ok (.getfield 25, 3) := by decide +kernel
theorem dX6_log_62 : decode cX6_log 62 = .ok (.bipush 100, 2) := by decide +kernel
theorem dX6_log_64 : decode cX6_log 64 = .ok (.iload_n 2, 1) := by decide +kernel
theorem dX6_log_65 : decode cX6_log 65 = .ok (.imul, 1) := by decide +kernel
theorem dX6_log_66 : decode cX6_log 66 = .ok (.iload 5, 2) := by decide +kernel
theorem dX6_log_68 : decode cX6_log 68 = .ok (.iadd, 1) := by decide +kernel
theorem dX6_log_69 : decode cX6_log 69 = .ok (.iaload, 1) := by decide +kernel
theorem dX6_log_70 : decode cX6_log 70 = .ok (.istore 6, 2) := by decide +kernel
theorem dX6_log_72 : decode cX6_log 72 = .ok (.aload_n 0, 1) := by decide +kernel
theorem dX6_log_73 : decode cX6_log 73 = .ok (.getfield 25, 3) := by decide +kernel
theorem dX6_log_76 : decode cX6_log 76 = .ok (.bipush 100, 2) := by decide +kernel
theorem dX6_log_78 : decode cX6_log 78 = .ok (.iload_n 2, 1) := by decide +kernel
theorem dX6_log_79 : decode cX6_log 79 = .ok (.imul, 1) := by decide +kernel
theorem dX6_log_80 : decode cX6_log 80 = .ok (.iload 5, 2) := by decide +kernel
theorem dX6_log_82 : decode cX6_log 82 = .ok (.iadd, 1) := by decide +kernel
theorem dX6_log_83 : decode cX6_log 83 = .ok (.iconst 1, 1) := by decide +kernel
theorem dX6_log_84 : decode cX6_log 84 = .ok (.iadd, 1) := by decide +kernel
theorem dX6_log_85 : decode cX6_log 85 = .ok (.iaload, 1) := by decide +kernel
theorem dX6_log_86 : decode cX6_log 86 = .ok (.istore 7, 2) := by decide +kernel
theorem dX6_log_88 : decode cX6_log 88 = .ok (.iload 6, 2) := by decide +kernel
theorem dX6_log_90 : decode cX6_log 90 = .ok (.aload_n 0, 1) := by decide +kernel
theorem dX6_log_91 : decode cX6_log 91 = .ok (.iload_n 2, 1) := by decide +kernel
theorem dX6_log_92 : decode cX6_log 92 = .ok (.invokevirtual 225, 3) := by decide +kernel
theorem dX6_log_95 : decode cX6_log 95 = .ok (.if_icmp .eq 77, 3) := by decide +kernel
theorem dX6_log_98 : decode cX6_log 98 = .ok (.iload 7, 2) := by decide +kernel
theorem dX6_log_100 : decode cX6_log 100 = .ok (.aload_n 0, 1) := by decide +kernel
theorem dX6_log_101 : decode cX6_log 101 = .ok (.iload_n 2, 1) := by decide +kernel
theorem dX6_log_102 : decode cX6_log 102 = .ok (.invokevirtual 225, 3) := by decide +kernel
theorem dX6_log_105 : decode cX6_log 105 = .ok (.if_icmp .ne 6, 3) := by decide +kernel
theorem dX6_log_108 : decode cX6_log 108 = .ok (.goto 64, 3) := by decide +kernel
theorem dX6_log_111 : decode cX6_log 111 = .ok (.iload 6, 2) := by decide +kernel
theorem dX6_log_113 : decode cX6_log 113 = .ok (.i2l, 1) := by decide +kernel
theorem dX6_log_114 : decode cX6_log 114 = .ok (.invokestatic 141, 3) := by decide +kernel
theorem dX6_log_117 : decode cX6_log 117 = .ok (.ifCond .ne 6, 3) := by decide +kernel
theorem dX6_log_120 : decode cX6_log 120 = .ok (.bipush (-13), 2) := by decide +kernel
theorem dX6_log_122 : decode cX6_log 122 = .ok (.ireturn, 1) := by decide +kernel
theorem dX6_log_123 : decode cX6_log 123 = .ok (.aload_n 0, 1) := by decide +kernel
theorem dX6_log_124 : decode cX6_log 124 = .ok (.iload_n 1, 1) := by decide +kernel
theorem dX6_log_125 : decode cX6_log 125 = .ok (.iload 6, 2) := by decide +kernel
theorem dX6_log_127 : decode cX6_log 127 = .ok (.invokevirtual 182, 3) := by decide +kernel
theorem dX6_log_130 : decode cX6_log 130 = .ok (.aload_n 0, 1) := by decide +kernel
theorem dX6_log_131 : decode cX6_log 131 = .ok (.iload_n 1, 1) := by decide +kernel
theorem dX6_log_132 : decode cX6_log 132 = .ok (.iload 6, 2) := by decide +kernel
theorem dX6_log_134 : decode cX6_log 134 = .ok (.invokevirtual 193, 3) := by decide +kernel
theorem dX6_log_137 : decode cX6_log 137 = .ok (.iload 7, 2) := by decide +kernel
theorem dX6_log_139 : decode cX6_log 139 = .ok (.isub, 1) := by decide +kernel
theorem dX6_log_140 : decode cX6_log 140 = .ok (.istore 8, 2) := by decide +kernel
theorem dX6_log_142 : decode cX6_log 142 = .ok (.iload 4, 2) := by decide +kernel
theorem dX6_log_144 : decode cX6_log 144 = .ok (.iload 8, 2) := by decide +kernel
theorem dX6_log_146 : decode cX6_log 146 = .ok (.i2l, 1) := by decide +kernel
theorem dX6_log_147 : decode cX6_log 147 = .ok (.ldc2_w 236, 3) := by decide +kernel
theorem dX6_log_150 : decode cX6_log 150 = .ok (.ldc2_w 106, 3) := by decide +kernel
theorem dX6_log_153 : decode cX6_log 153 = .ok (.invokestatic 48, 3) := by decide +kernel
theorem dX6_log_156 : decode cX6_log 156 = .ok (.ifCond .eq 12, 3) := by decide +kernel
theorem dX6_log_159 : decode cX6_log 159 = .ok (.iconst 1, 1) := by decide +kernel
theorem dX6_log_160 : decode cX6_log 160 = .ok (.iload 8, 2) := by decide +kernel
theorem dX6_log_162 : decode cX6_log 162 = .ok (.iconst 3, 1) := by decide +kernel
theorem dX6_log_163 : decode cX6_log 163 = .ok (.iadd, 1) := by decide +kernel
theorem dX6_log_164 : decode cX6_log 164 = .ok (.ishl, 1) := by decide +kernel
theorem dX6_log_165 : decode cX6_log 165 = .ok (.goto 4, 3) := by decide +kernel
theorem dX6_log_168 : decode cX6_log 168 = .ok (.iconst 0, 1) := by decide +kernel
theorem dX6_log_169 : decode cX6_log 169 = .ok (.iand, 1) := by decide +kernel
theorem dX6_log_170 : decode cX6_log 170 = .ok (.istore 4, 2) := by decide +kernel
theorem dX6_log_172 : decode cX6_log 172 = .ok (.iinc 5 2, 3) := by decide +kernel
theorem dX6_log_175 : decode cX6_log 175 = .ok (.goto (-130), 3) := by decide +kernel
theorem dX6_log_178 : decode cX6_log 178 = .ok (.iload 4, 2) := by decide +kernel
theorem dX6_log_180 : decode cX6_log 180 = .ok (.ireturn, 1) := by decide +kernel
theorem dX6_plan_0 : decode cX6_plan 0 = .ok (.aload_n 0, 1) := by decide +kernel
theorem dX6_plan_1 : decode cX6_plan 1 = .ok (.iload_n 1, 1) := by decide +kernel
theorem dX6_plan_2 : decode cX6_plan 2 = .ok (.iload_n 2, 1) := by decide +kernel
theorem dX6_plan_3 : decode cX6_plan 3 = .ok (.iload_n 3, 1) := by decide +kernel
theorem dX6_plan_4 : decode cX6_plan 4 = .ok (.invokevirtual 230, 3) := by decide +kernel
theorem dX6_plan_7 : decode cX6_plan 7 = .ok (.istore 4, 2) := by decide +kernel
theorem dX6_plan_9 : decode cX6_plan 9 = .ok (.iload 4, 2) := by decide +kernel
theorem dX6_plan_11 : decode cX6_plan 11 = .ok (.ifCond .eq 6, 3) := by decide +kernel
theorem dX6_plan_14 : decode cX6_plan 14 = .ok (.iload 4, 2) := by decide +kernel
theorem dX6_plan_16 : decode cX6_plan 16 = .ok (.ireturn, 1) := by decide +kernel
theorem dX6_plan_17 : decode cX6_plan 17 = .ok (.sipush 143, 3) := by decide +kernel
theorem dX6_plan_20 : decode cX6_plan 20 = .ok (.bipush 45, 2) := by decide +kernel
theorem dX6_plan_22 : decode cX6_plan 22 = .ok (.iload_n 1, 1) := by decide +kernel
theorem dX6_plan_23 : decode cX6_plan 23 = .ok (.imul, 1) := by decide +kernel
theorem dX6_plan_24 : decode cX6_plan 24 = .ok (.iadd, 1) := by decide +kernel
theorem dX6_plan_25 : decode cX6_plan 25 = .ok (.istore 5, 2) := by decide +kernel
theorem dX6_plan_27 : decode cX6_plan 27 = .ok (.aload_n 0, 1) := by decide +kernel
theorem dX6_plan_28 : decode cX6_plan 28 = .ok (.getfield 9, 3) := by decide +kernel
theorem dX6_plan_31 : decode cX6_plan 31 = .ok (.iload 5, 2) := by decide +kernel
theorem dX6_plan_33 : decode cX6_plan 33 = .ok (.iconst 3, 1) := by decide +kernel
theorem dX6_plan_34 : decode cX6_plan 34 = .ok (.iadd, 1) := by decide +kernel
theorem dX6_plan_35 : decode cX6_plan 35 = .ok (.iaload, 1) := by decide +kernel
theorem dX6_plan_36 : decode cX6_plan 36 = .ok (.istore 6, 2) := by decide +kernel
theorem dX6_plan_38 : decode cX6_plan 38 = .ok (.iconst 0, 1) := by decide +kernel
theorem dX6_plan_39 : decode cX6_plan 39 = .ok (.istore 7, 2) := by decide +kernel
theorem dX6_plan_41 : decode cX6_plan 41 = .ok (.iconst 0, 1) := by decide +kernel
theorem dX6_plan_42 : decode cX6_plan 42 = .ok (.istore 8, 2) := by decide +kernel
theorem dX6_plan_44 : decode cX6_plan 44 = .ok (.iload 8, 2) := by decide +kernel
theorem dX6_plan_46 : decode cX6_plan 46 = .ok (.iload 6, 2) := by decide +kernel
theorem dX6_plan_48 : decode cX6_plan 48 = .ok (.if_icmp .ge 33, 3) := by decide +kernel
theorem dX6_plan_51 : decode cX6_plan 51 = .ok (.iload 7, 2) := by decide +kernel
theorem dX6_plan_53 : decode cX6_plan 53 = .ok (.aload_n 0, 1) := by decide +kernel
theorem dX6_plan_54 : decode cX6_plan 54 = .ok (.getfield 9, 3) := by decide +kernel
theorem dX6_plan_57 : decode cX6_plan 57 = .ok (.iload 5, 2) := by decide +kernel
theorem dX6_plan_59 : decode cX6_plan 59 = .ok (.iconst 4, 1) := by decide +kernel
theorem dX6_plan_60 : decode cX6_plan 60 = .ok (.iadd, 1) := by decide +kernel
theorem dX6_plan_61 : decode cX6_plan 61 = .ok (.iconst 4, 1) := by decide +kernel
theorem dX6_plan_62 : decode cX6_plan 62 = .ok (.iload 8, 2) := by decide +kernel
theorem dX6_plan_64 : decode cX6_plan 64 = .ok (.imul, 1) := by decide +kernel
theorem dX6_plan_65 : decode cX6_plan 65 = .ok (.iadd, 1) := by decide +kernel
theorem dX6_plan_66 : decode cX6_plan 66 = .ok (.iconst 1, 1) := by decide +kernel
theorem dX6_plan_67 : decode cX6_plan 67 = .ok (.iadd, 1) := by decide +kernel
theorem dX6_plan_68 : decode cX6_plan 68 = .ok (.iaload, 1) := by decide +kernel
theorem dX6_plan_69 : decode cX6_plan 69 = .ok (.iload 8, 2) := by decide +kernel
theorem dX6_plan_71 : decode cX6_plan 71 = .ok (.ishl, 1) := by decide +kernel
theorem dX6_plan_72 : decode cX6_plan 72 = .ok (.ior, 1) := by decide +kernel
theorem dX6_plan_73 : decode cX6_plan 73 = .ok (.istore 7, 2) := by decide +kernel
theorem dX6_plan_75 : decode cX6_plan 75 = .ok (.iinc 8 1, 3) := by decide +kernel
theorem dX6_plan_78 : decode cX6_plan 78 = .ok (.goto (-34), 3) := by decide +kernel
theorem dX6_plan_81 : decode cX6_plan 81 = .ok (.bipush (-4), 2) := by decide +kernel
theorem dX6_plan_83 : decode cX6_plan 83 = .ok (.istore 8, 2) := by decide +kernel
theorem dX6_plan_85 : decode cX6_plan 85 = .ok (.iconst 0, 1) := by decide +kernel
theorem dX6_plan_86 : decode cX6_plan 86 = .ok (.istore 9, 2) := by decide +kernel
theorem dX6_plan_88 : decode cX6_plan 88 = .ok (.iload 9, 2) := by decide +kernel
theorem dX6_plan_90 : decode cX6_plan 90 = .ok (.iconst 1, 1) := by decide +kernel
theorem dX6_plan_91 : decode cX6_plan 91 = .ok (.iload 6, 2) := by decide +kernel
theorem dX6_plan_93 : decode cX6_plan 93 = .ok (.ishl, 1) := by decide +kernel
theorem dX6_plan_94 : decode cX6_plan 94 = .ok (.if_icmp .ge 74, 3) := by decide +kernel
theorem dX6_plan_97 : decode cX6_plan 97 = .ok (.iload 8, 2) := by decide +kernel
theorem dX6_plan_99 : decode cX6_plan 99 = .ok (.ifCond .ge 69, 3) := by decide +kernel
theorem dX6_plan_102 : decode cX6_plan 102 = .ok (.iconst 0, 1) := by decide +kernel
theorem dX6_plan_103 : decode cX6_plan 103 = .ok (.istore 10, 2) := by decide +kernel
theorem dX6_plan_105 : decode cX6_plan 105 = .ok (.iload 10, 2) := by decide +kernel
theorem dX6_plan_107 : decode cX6_plan 107 = .ok (.iload 6, 2) := by decide +kernel
theorem dX6_plan_109 : decode cX6_plan 109 = .ok (.if_icmp .ge 32, 3) := by decide +kernel
theorem dX6_plan_112 : decode cX6_plan 112 = .ok (.aload_n 0, 1) := by decide +kernel
theorem dX6_plan_113 : decode cX6_plan 113 = .ok (.getfield 9, 3) := by decide +kernel
theorem dX6_plan_116 : decode cX6_plan 116 = .ok (.iload 5, 2) := by decide +kernel
theorem dX6_plan_118 : decode cX6_plan 118 = .ok (.iconst 4, 1) := by decide +kernel
theorem dX6_plan_119 : decode cX6_plan 119 = .ok (.iadd, 1) := by decide +kernel
theorem dX6_plan_120 : decode cX6_plan 120 = .ok (.iconst 4, 1) := by decide +kernel
theorem dX6_plan_121 : decode cX6_plan 121 = .ok (.iload 10, 2) := by decide +kernel
theorem dX6_plan_123 : decode cX6_plan 123 = .ok (.imul, 1) := by decide +kernel
theorem dX6_plan_124 : decode cX6_plan 124 = .ok (.iadd, 1) := by decide +kernel
theorem dX6_plan_125 : decode cX6_plan 125 = .ok (.iconst 1, 1) := by decide +kernel
theorem dX6_plan_126 : decode cX6_plan 126 = .ok (.iadd, 1) := by decide +kernel
theorem dX6_plan_127 : decode cX6_plan 127 = .ok (.iload 9, 2) := by decide +kernel
theorem dX6_plan_129 : decode cX6_plan 129 = .ok (.iload 10, 2) := by decide +kernel
theorem dX6_plan_131 : decode cX6_plan 131 = .ok (.ishr, 1) := by decide +kernel
theorem dX6_plan_132 : decode cX6_plan 132 = .ok (.iconst 1, 1) := by decide +kernel
theorem dX6_plan_133 : decode cX6_plan 133 = .ok (.iand, 1) := by decide +kernel
theorem dX6_plan_134 : decode cX6_plan 134 = .ok (.iastore, 1) := by decide +kernel
theorem dX6_plan_135 : decode cX6_plan 135 = .ok (.iinc 10 1, 3) := by decide +kernel
theorem dX6_plan_138 : decode cX6_plan 138 = .ok (.goto (-33), 3) := by decide +kernel
theorem dX6_plan_141 : decode cX6_plan 141 = .ok (.aload_n 0, 1) := by decide +kernel
theorem dX6_plan_142 : decode cX6_plan 142 = .ok (.iload_n 1, 1) := by decide +kernel
theorem dX6_plan_143 : decode cX6_plan 143 = .ok (.iload_n 2, 1) := by decide +kernel
theorem dX6_plan_144 : decode cX6_plan 144 = .ok (.iload_n 3, 1) := by decide +kernel
theorem dX6_plan_145 : decode cX6_plan 145 = .ok (.invokevirtual 233, 3) := by decide +kernel
theorem dX6_plan_148 : decode cX6_plan 148 = .ok (.bipush (-4), 2) := by decide +kernel
theorem dX6_plan_150 : decode cX6_plan 150 = .ok (.if_icmp .ne 8, 3) := by decide +kernel
theorem dX6_plan_153 : decode cX6_plan 153 = .ok (.iload 9, 2) := by decide +kernel
theorem dX6_plan_155 : decode cX6_plan 155 = .ok (.goto 5, 3) := by decide +kernel
theorem dX6_plan_158 : decode cX6_plan 158 = .ok (.bipush (-4), 2) := by decide +kernel
theorem dX6_plan_160 : decode cX6_plan 160 = .ok (.istore 8, 2) := by decide +kernel
theorem dX6_plan_162 : decode cX6_plan 162 = .ok (.iinc 9 1, 3) := by decide +kernel
theorem dX6_plan_165 : decode cX6_plan 165 = .ok (.goto (-77), 3) := by decide +kernel
theorem dX6_plan_168 : decode cX6_plan 168 = .ok (.iconst 0, 1) := by decide +kernel
theorem dX6_plan_169 : decode cX6_plan 169 = .ok (.istore 9, 2) := by decide +kernel
theorem dX6_plan_171 : decode cX6_plan 171 = .ok (.iload 9, 2) := by decide +kernel
theorem dX6_plan_173 : decode cX6_plan 173 = .ok (.iload 6, 2) := by decide +kernel
theorem dX6_plan_175 : decode cX6_plan 175 = .ok (.if_icmp .ge 32, 3) := by decide +kernel
theorem dX6_plan_178 : decode cX6_plan 178 = .ok (.aload_n 0, 1) := by decide +kernel
theorem dX6_plan_179 : decode cX6_plan 179 = .ok (.getfield 9, 3) := by decide +kernel
theorem dX6_plan_182 : decode cX6_plan 182 = .ok (.iload 5, 2) := by decide +kernel
theorem dX6_plan_184 : decode cX6_plan 184 = .ok (.iconst 4, 1) := by decide +kernel
theorem dX6_plan_185 : decode cX6_plan 185 = .ok (.iadd, 1) := by decide +kernel
theorem dX6_plan_186 : decode cX6_plan 186 = .ok (.iconst 4, 1) := by decide +kernel
theorem dX6_plan_187 : decode cX6_plan 187 = .ok (.iload 9, 2) := by decide +kernel
theorem dX6_plan_189 : decode cX6_plan 189 = .ok (.imul, 1) := by decide +kernel
theorem dX6_plan_190 : decode cX6_plan 190 = .ok (.iadd, 1) := by decide +kernel
theorem dX6_plan_191 : decode cX6_plan 191 = .ok (.iconst 1, 1) := by decide +kernel
theorem dX6_plan_192 : decode cX6_plan 192 = .ok (.iadd, 1) := by decide +kernel
theorem dX6_plan_193 : decode cX6_plan 193 = .ok (.iload 7, 2) := by decide +kernel
theorem dX6_plan_195 : decode cX6_plan 195 = .ok (.iload 9, 2) := by decide +kernel
theorem dX6_plan_197 : decode cX6_plan 197 = .ok (.ishr, 1) := by decide +kernel
theorem dX6_plan_198 : decode cX6_plan 198 = .ok (.iconst 1, 1) := by decide +kernel
theorem dX6_plan_199 : decode cX6_plan 199 = .ok (.iand, 1) := by decide +kernel
theorem dX6_plan_200 : decode cX6_plan 200 = .ok (.iastore, 1) := by decide +kernel
theorem dX6_plan_201 : decode cX6_plan 201 = .ok (.iinc 9 1, 3) := by decide +kernel
theorem dX6_plan_204 : decode cX6_plan 204 = .ok (.goto (-33), 3) := by decide +kernel
theorem dX6_plan_207 : decode cX6_plan 207 = .ok (.iload 8, 2) := by decide +kernel
theorem dX6_plan_209 : decode cX6_plan 209 = .ok (.ireturn, 1) := by decide +kernel
theorem dX6_image_0 : decode cX6_image 0 = .ok (.iconst 0, 1) := by decide +kernel
theorem dX6_image_1 : decode cX6_image 1 = .ok (.istore_n 1, 1) := by decide +kernel
theorem dX6_image_2 : decode cX6_image 2 = .ok (.iload_n 1, 1) := by decide +kernel
theorem dX6_image_3 : decode cX6_image 3 = .ok (.sipush 503, 3) := by decide +kernel
theorem dX6_image_6 : decode cX6_image 6 = .ok (.if_icmp .ge 21, 3) := by decide +kernel
theorem dX6_image_9 : decode cX6_image 9 = .ok (.aload_n 0, 1) := by decide +kernel
theorem dX6_image_10 : decode cX6_image 10 = .ok (.getfield 13, 3) := by decide +kernel
theorem dX6_image_13 : decode cX6_image 13 = .ok (.iload_n 1, 1) := by decide +kernel
theorem dX6_image_14 : decode cX6_image 14 = .ok (.aload_n 0, 1) := by decide +kernel
theorem dX6_image_15 : decode cX6_image 15 = .ok (.getfield 9, 3) := by decide +kernel
theorem dX6_image_18 : decode cX6_image 18 = .ok (.iload_n 1, 1) := by decide +kernel
theorem dX6_image_19 : decode cX6_image 19 = .ok (.iaload, 1) := by decide +kernel
theorem dX6_image_20 : decode cX6_image 20 = .ok (.iastore, 1) := by decide +kernel
theorem dX6_image_21 : decode cX6_image 21 = .ok (.iinc 1 1, 3) := by decide +kernel
theorem dX6_image_24 : decode cX6_image 24 = .ok (.goto (-22), 3) := by decide +kernel
theorem dX6_image_27 : decode cX6_image 27 = .ok (.aload_n 0, 1) := by decide +kernel
theorem dX6_image_28 : decode cX6_image 28 = .ok (.iconst 1, 1) := by decide +kernel
theorem dX6_image_29 : decode cX6_image 29 = .ok (.putfield 238, 3) := by decide +kernel
theorem dX6_image_32 : decode cX6_image 32 = .ok (.aload_n 0, 1) := by decide +kernel
theorem dX6_image_33 : decode cX6_image 33 = .ok (.getfield 9, 3) := by decide +kernel
theorem dX6_image_36 : decode cX6_image 36 = .ok (.iconst 1, 1) := by decide +kernel
theorem dX6_image_37 : decode cX6_image 37 = .ok (.iaload, 1) := by decide +kernel
theorem dX6_image_38 : decode cX6_image 38 = .ok (.ireturn, 1) := by decide +kernel
theorem dX6_restore_0 : decode cX6_restore 0 = .ok (.aload_n 0, 1) := by decide +kernel
theorem dX6_restore_1 : decode cX6_restore 1 = .ok (.getfield 238, 3) := by decide +kernel
theorem dX6_restore_4 : decode cX6_restore 4 = .ok (.ifCond .ne 6, 3) := by decide +kernel
theorem dX6_restore_7 : decode cX6_restore 7 = .ok (.bipush (-3), 2) := by decide +kernel
theorem dX6_restore_9 : decode cX6_restore 9 = .ok (.ireturn, 1) := by decide +kernel
theorem dX6_restore_10 : decode cX6_restore 10 = .ok (.iconst 0, 1) := by decide +kernel
theorem dX6_restore_11 : decode cX6_restore 11 = .ok (.istore_n 1, 1) := by decide +kernel
theorem dX6_restore_12 : decode cX6_restore 12 = .ok (.iload_n 1, 1) := by decide +kernel
theorem dX6_restore_13 : decode cX6_restore 13 = .ok (.bipush 8, 2) := by decide +kernel
theorem dX6_restore_15 : decode cX6_restore 15 = .ok (.if_icmp .ge 74, 3) := by decide +kernel
theorem dX6_restore_18 : decode cX6_restore 18 = .ok (.aload_n 0, 1) := by decide +kernel
theorem dX6_restore_19 : decode cX6_restore 19 = .ok (.getfield 16, 3) := by decide +kernel
theorem dX6_restore_22 : decode cX6_restore 22 = .ok (.iload_n 1, 1) := by decide +kernel
theorem dX6_restore_23 : decode cX6_restore 23 = .ok (.iaload, 1) := by decide +kernel
theorem dX6_restore_24 : decode cX6_restore 24 = .ok (.iconst 1, 1) := by decide +kernel
theorem dX6_restore_25 : decode cX6_restore 25 = .ok (.if_icmp .ne 58, 3) := by decide +kernel
theorem dX6_restore_28 : decode cX6_restore 28 = .ok (.aload_n 0, 1) := by decide +kernel
theorem dX6_restore_29 : decode cX6_restore 29 = .ok (.getfield 34, 3) := by decide +kernel
theorem dX6_restore_32 : decode cX6_restore 32 = .ok (.iload_n 1, 1) := by decide +kernel
theorem dX6_restore_33 : decode cX6_restore 33 = .ok (.baload, 1) := by decide +kernel
theorem dX6_restore_34 : decode cX6_restore 34 = .ok (.ifCond .eq 6, 3) := by decide +kernel
theorem dX6_restore_37 : decode cX6_restore 37 = .ok (.goto 46, 3) := by decide +kernel
theorem dX6_restore_40 : decode cX6_restore 40 = .ok (.iconst 0, 1) := by decide +kernel
theorem dX6_restore_41 : decode cX6_restore 41 = .ok (.istore_n 2, 1) := by decide +kernel
theorem dX6_restore_42 : decode cX6_restore 42 = .ok (.iload_n 2, 1) := by decide +kernel
theorem dX6_restore_43 : decode cX6_restore 43 = .ok (.bipush 45, 2) := by decide +kernel
theorem dX6_restore_45 : decode cX6_restore 45 = .ok (.if_icmp .ge 31, 3) := by decide +kernel
theorem dX6_restore_48 : decode cX6_restore 48 = .ok (.aload_n 0, 1) := by decide +kernel
theorem dX6_restore_49 : decode cX6_restore 49 = .ok (.getfield 31, 3) := by decide +kernel
theorem dX6_restore_52 : decode cX6_restore 52 = .ok (.bipush 45, 2) := by decide +kernel
theorem dX6_restore_54 : decode cX6_restore 54 = .ok (.iload_n 1, 1) := by decide +kernel
theorem dX6_restore_55 : decode cX6_restore 55 = .ok (.imul, 1) := by decide +kernel
theorem dX6_restore_56 : decode cX6_restore 56 = .ok (.iload_n 2, 1) := by decide +kernel
theorem dX6_restore_57 : decode cX6_restore 57 = .ok (.iadd, 1) := by decide +kernel
theorem dX6_restore_58 : decode cX6_restore 58 = .ok (.aload_n 0, 1) := by decide +kernel
theorem dX6_restore_59 : decode cX6_restore 59 = .ok (.aload_n 0, 1) := by decide +kernel
theorem dX6_restore_60 : decode cX6_restore 60 = .ok (.getfield 28, 3) := by decide +kernel
theorem dX6_restore_63 : decode cX6_restore 63 = .ok (.iload_n 1, 1) := by decide +kernel
theorem dX6_restore_64 : decode cX6_restore 64 = .ok (.iaload, 1) := by decide +kernel
theorem dX6_restore_65 : decode cX6_restore 65 = .ok (.iload_n 2, 1) := by decide +kernel
theorem dX6_restore_66 : decode cX6_restore 66 = .ok (.invokevirtual 150, 3) := by decide +kernel
theorem dX6_restore_69 : decode cX6_restore 69 = .ok (.iastore, 1) := by decide +kernel
theorem dX6_restore_70 : decode cX6_restore 70 = .ok (.iinc 2 1, 3) := by decide +kernel
theorem dX6_restore_73 : decode cX6_restore 73 = .ok (.goto (-31), 3) := by decide +kernel
theorem dX6_restore_76 : decode cX6_restore 76 = .ok (.aload_n 0, 1) := by decide +kernel
theorem dX6_restore_77 : decode cX6_restore 77 = .ok (.getfield 34, 3) := by decide +kernel
theorem dX6_restore_80 : decode cX6_restore 80 = .ok (.iload_n 1, 1) := by decide +kernel
theorem dX6_restore_81 : decode cX6_restore 81 = .ok (.iconst 1, 1) := by decide +kernel
theorem dX6_restore_82 : decode cX6_restore 82 = .ok (.bastore, 1) := by decide +kernel
theorem dX6_restore_83 : decode cX6_restore 83 = .ok (.iinc 1 1, 3) := by decide +kernel
theorem dX6_restore_86 : decode cX6_restore 86 = .ok (.goto (-74), 3) := by decide +kernel
theorem dX6_restore_89 : decode cX6_restore 89 = .ok (.iconst 0, 1) := by decide +kernel
theorem dX6_restore_90 : decode cX6_restore 90 = .ok (.istore_n 1, 1) := by decide +kernel
theorem dX6_restore_91 : decode cX6_restore 91 = .ok (.iload_n 1, 1) := by decide +kernel
theorem dX6_restore_92 : decode cX6_restore 92 = .ok (.sipush 503, 3) := by decide +kernel
theorem dX6_restore_95 : decode cX6_restore 95 = .ok (.if_icmp .ge 21, 3) := by decide +kernel
theorem dX6_restore_98 : decode cX6_restore 98 = .ok (.aload_n 0, 1) := by decide +kernel
theorem dX6_restore_99 : decode cX6_restore 99 = .ok (.getfield 9, 3) := by decide +kernel
theorem dX6_restore_102 : decode cX6_restore 102 = .ok (.iload_n 1, 1) := by decide +kernel
theorem dX6_restore_103 : decode cX6_restore 103 = .ok (.aload_n 0, 1) := by decide +kernel
theorem dX6_restore_104 : decode cX6_restore 104 = .ok (.getfield 13, 3) := by decide +kernel
theorem dX6_restore_107 : decode cX6_restore 107 = .ok (.iload_n 1, 1) := by decide +kernel
theorem dX6_restore_108 : decode cX6_restore 108 = .ok (.iaload, 1) := by decide +kernel
theorem dX6_restore_109 : decode cX6_restore 109 = .ok (.iastore, 1) := by decide +kernel
theorem dX6_restore_110 : decode cX6_restore 110 = .ok (.iinc 1 1, 3) := by decide +kernel
theorem dX6_restore_113 : decode cX6_restore 113 = .ok (.goto (-22), 3) := by decide +kernel
theorem dX6_restore_116 : decode cX6_restore 116 = .ok (.aload_n 0, 1) := by decide +kernel
theorem dX6_restore_117 : decode cX6_restore 117 = .ok (.getfield 9, 3) := by decide +kernel
theorem dX6_restore_120 : decode cX6_restore 120 = .ok (.iconst 1, 1) := by decide +kernel
theorem dX6_restore_121 : decode cX6_restore 121 = .ok (.iaload, 1) := by decide +kernel
theorem dX6_restore_122 : decode cX6_restore 122 = .ok (.ireturn, 1) := by decide +kernel
theorem dX6_count_0 : decode cX6_count 0 = .ok (.iconst 0, 1) := by decide +kernel
theorem dX6_count_1 : decode cX6_count 1 = .ok (.istore_n 2, 1) := by decide +kernel
theorem dX6_count_2 : decode cX6_count 2 = .ok (.iload_n 1, 1) := by decide +kernel
theorem dX6_count_3 : decode cX6_count 3 = .ok (.tableswitch 177 0 5 #[37, 44, 51, 80, 87, 116], 37) := by decide +kernel
theorem dX6_count_40 : decode cX6_count 40 = .ok (.aload_n 0, 1) := by decide +kernel
theorem dX6_count_41 : decode cX6_count 41 = .ok (.getfield 9, 3) := by decide +kernel
theorem dX6_count_44 : decode cX6_count 44 = .ok (.iconst 0, 1) := by decide +kernel
theorem dX6_count_45 : decode cX6_count 45 = .ok (.iaload, 1) := by decide +kernel
theorem dX6_count_46 : decode cX6_count 46 = .ok (.ireturn, 1) := by decide +kernel
theorem dX6_count_47 : decode cX6_count 47 = .ok (.aload_n 0, 1) := by decide +kernel
theorem dX6_count_48 : decode cX6_count 48 = .ok (.getfield 9, 3) := by decide +kernel
theorem dX6_count_51 : decode cX6_count 51 = .ok (.iconst 1, 1) := by decide +kernel
theorem dX6_count_52 : decode cX6_count 52 = .ok (.iaload, 1) := by decide +kernel
theorem dX6_count_53 : decode cX6_count 53 = .ok (.ireturn, 1) := by decide +kernel
theorem dX6_count_54 : decode cX6_count 54 = .ok (.iconst 0, 1) := by decide +kernel
theorem dX6_count_55 : decode cX6_count 55 = .ok (.istore_n 3, 1) := by decide +kernel
theorem dX6_count_56 : decode cX6_count 56 = .ok (.iload_n 3, 1) := by decide +kernel
theorem dX6_count_57 : decode cX6_count 57 = .ok (.aload_n 0, 1) := by decide +kernel
theorem dX6_count_58 : decode cX6_count 58 = .ok (.getfield 9, 3) := by decide +kernel
theorem dX6_count_61 : decode cX6_count 61 = .ok (.iconst 1, 1) := by decide +kernel
theorem dX6_count_62 : decode cX6_count 62 = .ok (.iaload, 1) := by decide +kernel
theorem dX6_count_63 : decode cX6_count 63 = .ok (.if_icmp .ge 18, 3) := by decide +kernel
theorem dX6_count_66 : decode cX6_count 66 = .ok (.iload_n 2, 1) := by decide +kernel
theorem dX6_count_67 : decode cX6_count 67 = .ok (.aload_n 0, 1) := by decide +kernel
theorem dX6_count_68 : decode cX6_count 68 = .ok (.iload_n 3, 1) := by decide +kernel
theorem dX6_count_69 : decode cX6_count 69 = .ok (.iconst 3, 1) := by decide +kernel
theorem dX6_count_70 : decode cX6_count 70 = .ok (.invokevirtual 150, 3) := by decide +kernel
theorem dX6_count_73 : decode cX6_count 73 = .ok (.iadd, 1) := by decide +kernel
theorem dX6_count_74 : decode cX6_count 74 = .ok (.istore_n 2, 1) := by decide +kernel
theorem dX6_count_75 : decode cX6_count 75 = .ok (.iinc 3 1, 3) := by decide +kernel
theorem dX6_count_78 : decode cX6_count 78 = .ok (.goto (-22), 3) := by decide +kernel
theorem dX6_count_81 : decode cX6_count 81 = .ok (.iload_n 2, 1) := by decide +kernel
theorem dX6_count_82 : decode cX6_count 82 = .ok (.ireturn, 1) := by decide +kernel
theorem dX6_count_83 : decode cX6_count 83 = .ok (.aload_n 0, 1) := by decide +kernel
theorem dX6_count_84 : decode cX6_count 84 = .ok (.getfield 9, 3) := by decide +kernel
theorem dX6_count_87 : decode cX6_count 87 = .ok (.iconst 2, 1) := by decide +kernel
theorem dX6_count_88 : decode cX6_count 88 = .ok (.iaload, 1) := by decide +kernel
theorem dX6_count_89 : decode cX6_count 89 = .ok (.ireturn, 1) := by decide +kernel
theorem dX6_count_90 : decode cX6_count 90 = .ok (.iconst 0, 1) := by decide +kernel
theorem dX6_count_91 : decode cX6_count 91 = .ok (.istore_n 3, 1) := by decide +kernel
theorem dX6_count_92 : decode cX6_count 92 = .ok (.iload_n 3, 1) := by decide +kernel
theorem dX6_count_93 : decode cX6_count 93 = .ok (.aload_n 0, 1) := by decide +kernel
theorem dX6_count_94 : decode cX6_count 94 = .ok (.getfield 9, 3) := by decide +kernel
theorem dX6_count_97 : decode cX6_count 97 = .ok (.iconst 0, 1) := by decide +kernel
theorem dX6_count_98 : decode cX6_count 98 = .ok (.iaload, 1) := by decide +kernel
theorem dX6_count_99 : decode cX6_count 99 = .ok (.if_icmp .ge 18, 3) := by decide +kernel
theorem dX6_count_102 : decode cX6_count 102 = .ok (.iload_n 2, 1) := by decide +kernel
theorem dX6_count_103 : decode cX6_count 103 = .ok (.aload_n 0, 1) := by decide +kernel
theorem dX6_count_104 : decode cX6_count 104 = .ok (.iload_n 3, 1) := by decide +kernel
theorem dX6_count_105 : decode cX6_count 105 = .ok (.iconst 3, 1) := by decide +kernel
theorem dX6_count_106 : decode cX6_count 106 = .ok (.invokevirtual 108, 3) := by decide +kernel
theorem dX6_count_109 : decode cX6_count 109 = .ok (.iadd, 1) := by decide +kernel
theorem dX6_count_110 : decode cX6_count 110 = .ok (.istore_n 2, 1) := by decide +kernel
theorem dX6_count_111 : decode cX6_count 111 = .ok (.iinc 3 1, 3) := by decide +kernel
theorem dX6_count_114 : decode cX6_count 114 = .ok (.goto (-22), 3) := by decide +kernel
theorem dX6_count_117 : decode cX6_count 117 = .ok (.iload_n 2, 1) := by decide +kernel
theorem dX6_count_118 : decode cX6_count 118 = .ok (.ireturn, 1) := by decide +kernel
theorem dX6_count_119 : decode cX6_count 119 = .ok (.iconst 0, 1) := by decide +kernel
theorem dX6_count_120 : decode cX6_count 120 = .ok (.istore_n 3, 1) := by decide +kernel
theorem dX6_count_121 : decode cX6_count 121 = .ok (.iload_n 3, 1) := by decide +kernel
theorem dX6_count_122 : decode cX6_count 122 = .ok (.aload_n 0, 1) := by decide +kernel
theorem dX6_count_123 : decode cX6_count 123 = .ok (.getfield 9, 3) := by decide +kernel
theorem dX6_count_126 : decode cX6_count 126 = .ok (.iconst 0, 1) := by decide +kernel
theorem dX6_count_127 : decode cX6_count 127 = .ok (.iaload, 1) := by decide +kernel
theorem dX6_count_128 : decode cX6_count 128 = .ok (.if_icmp .ge 50, 3) := by decide +kernel
theorem dX6_count_131 : decode cX6_count 131 = .ok (.iconst 0, 1) := by decide +kernel
theorem dX6_count_132 : decode cX6_count 132 = .ok (.istore 4, 2) := by decide +kernel
theorem dX6_count_134 : decode cX6_count 134 = .ok (.iload 4, 2) := by decide +kernel
theorem dX6_count_136 : decode cX6_count 136 = .ok (.iload_n 3, 1) := by decide +kernel
theorem dX6_count_137 : decode cX6_count 137 = .ok (.if_icmp .ge 35, 3) := by decide +kernel
theorem dX6_count_140 : decode cX6_count 140 = .ok (.iload_n 2, 1) := by decide +kernel
theorem dX6_count_141 : decode cX6_count 141 = .ok (.aload_n 0, 1) := by decide +kernel
theorem dX6_count_142 : decode cX6_count 142 = .ok (.getfield 9, 3) := by decide +kernel
theorem dX6_count_145 : decode cX6_count 145 = .ok (.bipush 43, 2) := by decide +kernel
theorem dX6_count_147 : decode cX6_count 147 = .ok (.bipush 10, 2) := by decide +kernel
theorem dX6_count_149 : decode cX6_count 149 = .ok (.iload_n 3, 1) := by decide +kernel
theorem dX6_count_150 : decode cX6_count 150 = .ok (.imul, 1) := by decide +kernel
theorem dX6_count_151 : decode cX6_count 151 = .ok (.iadd, 1) := by decide +kernel
theorem dX6_count_152 : decode cX6_count 152 = .ok (.iload 4, 2) := by decide +kernel
theorem dX6_count_154 : decode cX6_count 154 = .ok (.iadd, 1) := by decide +kernel
theorem dX6_count_155 : decode cX6_count 155 = .ok (.iaload, 1) := by decide +kernel
theorem dX6_count_156 : decode cX6_count 156 = .ok (.ifCond .le 7, 3) := by decide +kernel
theorem dX6_count_159 : decode cX6_count 159 = .ok (.iconst 1, 1) := by decide +kernel
theorem dX6_count_160 : decode cX6_count 160 = .ok (.goto 4, 3) := by decide +kernel
theorem dX6_count_163 : decode cX6_count 163 = .ok (.iconst 0, 1) := by decide +kernel
theorem dX6_count_164 : decode cX6_count 164 = .ok (.iadd, 1) := by decide +kernel
theorem dX6_count_165 : decode cX6_count 165 = .ok (.istore_n 2, 1) := by decide +kernel
theorem dX6_count_166 : decode cX6_count 166 = .ok (.iinc 4 1, 3) := by decide +kernel
theorem dX6_count_169 : decode cX6_count 169 = .ok (.goto (-35), 3) := by decide +kernel
theorem dX6_count_172 : decode cX6_count 172 = .ok (.iinc 3 1, 3) := by decide +kernel
theorem dX6_count_175 : decode cX6_count 175 = .ok (.goto (-54), 3) := by decide +kernel
theorem dX6_count_178 : decode cX6_count 178 = .ok (.iload_n 2, 1) := by decide +kernel
theorem dX6_count_179 : decode cX6_count 179 = .ok (.ireturn, 1) := by decide +kernel
theorem dX6_count_180 : decode cX6_count 180 = .ok (.iconst (-1), 1) := by decide +kernel
theorem dX6_count_181 : decode cX6_count 181 = .ok (.ireturn, 1) := by decide +kernel
theorem dX6_keep_0 : decode cX6_keep 0 = .ok (.iload_n 1, 1) := by decide +kernel
theorem dX6_keep_1 : decode cX6_keep 1 = .ok (.invokestatic 90, 3) := by decide +kernel
theorem dX6_keep_4 : decode cX6_keep 4 = .ok (.ifCond .eq 26, 3) := by decide +kernel
theorem dX6_keep_7 : decode cX6_keep 7 = .ok (.iload_n 2, 1) := by decide +kernel
theorem dX6_keep_8 : decode cX6_keep 8 = .ok (.i2l, 1) := by decide +kernel
theorem dX6_keep_9 : decode cX6_keep 9 = .ok (.lconst 0, 1) := by decide +kernel
theorem dX6_keep_10 : decode cX6_keep 10 = .ok (.lconst 1, 1) := by decide +kernel
theorem dX6_keep_11 : decode cX6_keep 11 = .ok (.invokestatic 48, 3) := by decide +kernel
theorem dX6_keep_14 : decode cX6_keep 14 = .ok (.ifCond .eq 16, 3) := by decide +kernel
theorem dX6_keep_17 : decode cX6_keep 17 = .ok (.iload_n 2, 1) := by decide +kernel
theorem dX6_keep_18 : decode cX6_keep 18 = .ok (.iconst 1, 1) := by decide +kernel
theorem dX6_keep_19 : decode cX6_keep 19 = .ok (.if_icmp .ne 13, 3) := by decide +kernel
theorem dX6_keep_22 : decode cX6_keep 22 = .ok (.aload_n 0, 1) := by decide +kernel
theorem dX6_keep_23 : decode cX6_keep 23 = .ok (.iload_n 3, 1) := by decide +kernel
theorem dX6_keep_24 : decode cX6_keep 24 = .ok (.invokevirtual 157, 3) := by decide +kernel
theorem dX6_keep_27 : decode cX6_keep 27 = .ok (.ifCond .ne 5, 3) := by decide +kernel
theorem dX6_keep_30 : decode cX6_keep 30 = .ok (.iconst (-1), 1) := by decide +kernel
theorem dX6_keep_31 : decode cX6_keep 31 = .ok (.ireturn, 1) := by decide +kernel
theorem dX6_keep_32 : decode cX6_keep 32 = .ok (.aload_n 0, 1) := by decide +kernel
theorem dX6_keep_33 : decode cX6_keep 33 = .ok (.getfield 16, 3) := by decide +kernel
theorem dX6_keep_36 : decode cX6_keep 36 = .ok (.iload_n 1, 1) := by decide +kernel
theorem dX6_keep_37 : decode cX6_keep 37 = .ok (.iload_n 2, 1) := by decide +kernel
theorem dX6_keep_38 : decode cX6_keep 38 = .ok (.iastore, 1) := by decide +kernel
theorem dX6_keep_39 : decode cX6_keep 39 = .ok (.aload_n 0, 1) := by decide +kernel
theorem dX6_keep_40 : decode cX6_keep 40 = .ok (.getfield 28, 3) := by decide +kernel
theorem dX6_keep_43 : decode cX6_keep 43 = .ok (.iload_n 1, 1) := by decide +kernel
theorem dX6_keep_44 : decode cX6_keep 44 = .ok (.iload_n 3, 1) := by decide +kernel
theorem dX6_keep_45 : decode cX6_keep 45 = .ok (.iastore, 1) := by decide +kernel
theorem dX6_keep_46 : decode cX6_keep 46 = .ok (.aload_n 0, 1) := by decide +kernel
theorem dX6_keep_47 : decode cX6_keep 47 = .ok (.getfield 34, 3) := by decide +kernel
theorem dX6_keep_50 : decode cX6_keep 50 = .ok (.iload_n 1, 1) := by decide +kernel
theorem dX6_keep_51 : decode cX6_keep 51 = .ok (.iconst 0, 1) := by decide +kernel
theorem dX6_keep_52 : decode cX6_keep 52 = .ok (.bastore, 1) := by decide +kernel
theorem dX6_keep_53 : decode cX6_keep 53 = .ok (.iconst 0, 1) := by decide +kernel
theorem dX6_keep_54 : decode cX6_keep 54 = .ok (.ireturn, 1) := by decide +kernel
theorem dX6_row_0 : decode cX6_row 0 = .ok (.iload_n 1, 1) := by decide +kernel
theorem dX6_row_1 : decode cX6_row 1 = .ok (.invokestatic 90, 3) := by decide +kernel
theorem dX6_row_4 : decode cX6_row 4 = .ok (.ifCond .eq 21, 3) := by decide +kernel
theorem dX6_row_7 : decode cX6_row 7 = .ok (.iload_n 2, 1) := by decide +kernel
theorem dX6_row_8 : decode cX6_row 8 = .ok (.i2l, 1) := by decide +kernel
theorem dX6_row_9 : decode cX6_row 9 = .ok (.lconst 0, 1) := by decide +kernel
theorem dX6_row_10 : decode cX6_row 10 = .ok (.ldc2_w 242, 3) := by decide +kernel
theorem dX6_row_13 : decode cX6_row 13 = .ok (.invokestatic 48, 3) := by decide +kernel
theorem dX6_row_16 : decode cX6_row 16 = .ok (.ifCond .eq 9, 3) := by decide +kernel
theorem dX6_row_19 : decode cX6_row 19 = .ok (.iload_n 3, 1) := by decide +kernel
theorem dX6_row_20 : decode cX6_row 20 = .ok (.bipush 100, 2) := by decide +kernel
theorem dX6_row_22 : decode cX6_row 22 = .ok (.if_icmp .le 5, 3) := by decide +kernel
theorem dX6_row_25 : decode cX6_row 25 = .ok (.iconst (-1), 1) := by decide +kernel
theorem dX6_row_26 : decode cX6_row 26 = .ok (.ireturn, 1) := by decide +kernel
theorem dX6_row_27 : decode cX6_row 27 = .ok (.iload_n 3, 1) := by decide +kernel
theorem dX6_row_28 : decode cX6_row 28 = .ok (.ifCond .ge 6, 3) := by decide +kernel
theorem dX6_row_31 : decode cX6_row 31 = .ok (.bipush (-14), 2) := by decide +kernel
theorem dX6_row_33 : decode cX6_row 33 = .ok (.ireturn, 1) := by decide +kernel
theorem dX6_row_34 : decode cX6_row 34 = .ok (.aload_n 0, 1) := by decide +kernel
theorem dX6_row_35 : decode cX6_row 35 = .ok (.getfield 16, 3) := by decide +kernel
theorem dX6_row_38 : decode cX6_row 38 = .ok (.iload_n 1, 1) := by decide +kernel
theorem dX6_row_39 : decode cX6_row 39 = .ok (.iconst 2, 1) := by decide +kernel
theorem dX6_row_40 : decode cX6_row 40 = .ok (.iastore, 1) := by decide +kernel
theorem dX6_row_41 : decode cX6_row 41 = .ok (.aload_n 0, 1) := by decide +kernel
theorem dX6_row_42 : decode cX6_row 42 = .ok (.getfield 19, 3) := by decide +kernel
theorem dX6_row_45 : decode cX6_row 45 = .ok (.iload_n 1, 1) := by decide +kernel
theorem dX6_row_46 : decode cX6_row 46 = .ok (.iload_n 2, 1) := by decide +kernel
theorem dX6_row_47 : decode cX6_row 47 = .ok (.iastore, 1) := by decide +kernel
theorem dX6_row_48 : decode cX6_row 48 = .ok (.aload_n 0, 1) := by decide +kernel
theorem dX6_row_49 : decode cX6_row 49 = .ok (.getfield 22, 3) := by decide +kernel
theorem dX6_row_52 : decode cX6_row 52 = .ok (.iload_n 1, 1) := by decide +kernel
theorem dX6_row_53 : decode cX6_row 53 = .ok (.iload_n 3, 1) := by decide +kernel
theorem dX6_row_54 : decode cX6_row 54 = .ok (.iastore, 1) := by decide +kernel
theorem dX6_row_55 : decode cX6_row 55 = .ok (.iconst 0, 1) := by decide +kernel
theorem dX6_row_56 : decode cX6_row 56 = .ok (.istore 4, 2) := by decide +kernel
theorem dX6_row_58 : decode cX6_row 58 = .ok (.iload 4, 2) := by decide +kernel
theorem dX6_row_60 : decode cX6_row 60 = .ok (.bipush 100, 2) := by decide +kernel
theorem dX6_row_62 : decode cX6_row 62 = .ok (.if_icmp .ge 22, 3) := by decide +kernel
theorem dX6_row_65 : decode cX6_row 65 = .ok (.aload_n 0, 1) := by decide +kernel
theorem dX6_row_66 : decode cX6_row 66 = .ok (.getfield 25, 3) := by decide +kernel
theorem dX6_row_69 : decode cX6_row 69 = .ok (.bipush 100, 2) := by decide +kernel
theorem dX6_row_71 : decode cX6_row 71 = .ok (.iload_n 1, 1) := by decide +kernel
theorem dX6_row_72 : decode cX6_row 72 = .ok (.imul, 1) := by decide +kernel
theorem dX6_row_73 : decode cX6_row 73 = .ok (.iload 4, 2) := by decide +kernel
theorem dX6_row_75 : decode cX6_row 75 = .ok (.iadd, 1) := by decide +kernel
theorem dX6_row_76 : decode cX6_row 76 = .ok (.iconst 0, 1) := by decide +kernel
theorem dX6_row_77 : decode cX6_row 77 = .ok (.iastore, 1) := by decide +kernel
theorem dX6_row_78 : decode cX6_row 78 = .ok (.iinc 4 1, 3) := by decide +kernel
theorem dX6_row_81 : decode cX6_row 81 = .ok (.goto (-23), 3) := by decide +kernel
theorem dX6_row_84 : decode cX6_row 84 = .ok (.iconst 0, 1) := by decide +kernel
theorem dX6_row_85 : decode cX6_row 85 = .ok (.ireturn, 1) := by decide +kernel
theorem dX6_put_0 : decode cX6_put 0 = .ok (.aload_n 0, 1) := by decide +kernel
theorem dX6_put_1 : decode cX6_put 1 = .ok (.iload_n 1, 1) := by decide +kernel
theorem dX6_put_2 : decode cX6_put 2 = .ok (.iconst (-1), 1) := by decide +kernel
theorem dX6_put_3 : decode cX6_put 3 = .ok (.invokevirtual 93, 3) := by decide +kernel
theorem dX6_put_6 : decode cX6_put 6 = .ok (.istore 4, 2) := by decide +kernel
theorem dX6_put_8 : decode cX6_put 8 = .ok (.iload 4, 2) := by decide +kernel
theorem dX6_put_10 : decode cX6_put 10 = .ok (.ifCond .eq 6, 3) := by decide +kernel
theorem dX6_put_13 : decode cX6_put 13 = .ok (.iload 4, 2) := by decide +kernel
theorem dX6_put_15 : decode cX6_put 15 = .ok (.ireturn, 1) := by decide +kernel
theorem dX6_put_16 : decode cX6_put 16 = .ok (.iload_n 2, 1) := by decide +kernel
theorem dX6_put_17 : decode cX6_put 17 = .ok (.i2l, 1) := by decide +kernel
theorem dX6_put_18 : decode cX6_put 18 = .ok (.lconst 0, 1) := by decide +kernel
theorem dX6_put_19 : decode cX6_put 19 = .ok (.aload_n 0, 1) := by decide +kernel
theorem dX6_put_20 : decode cX6_put 20 = .ok (.getfield 22, 3) := by decide +kernel
theorem dX6_put_23 : decode cX6_put 23 = .ok (.iload_n 1, 1) := by decide +kernel
theorem dX6_put_24 : decode cX6_put 24 = .ok (.iaload, 1) := by decide +kernel
theorem dX6_put_25 : decode cX6_put 25 = .ok (.iconst 1, 1) := by decide +kernel
theorem dX6_put_26 : decode cX6_put 26 = .ok (.isub, 1) := by decide +kernel
theorem dX6_put_27 : decode cX6_put 27 = .ok (.i2l, 1) := by decide +kernel
theorem dX6_put_28 : decode cX6_put 28 = .ok (.invokestatic 48, 3) := by decide +kernel
theorem dX6_put_31 : decode cX6_put 31 = .ok (.ifCond .ne 6, 3) := by decide +kernel
theorem dX6_put_34 : decode cX6_put 34 = .ok (.bipush (-13), 2) := by decide +kernel
theorem dX6_put_36 : decode cX6_put 36 = .ok (.ireturn, 1) := by decide +kernel
theorem dX6_put_37 : decode cX6_put 37 = .ok (.aload_n 0, 1) := by decide +kernel
theorem dX6_put_38 : decode cX6_put 38 = .ok (.getfield 25, 3) := by decide +kernel
theorem dX6_put_41 : decode cX6_put 41 = .ok (.bipush 100, 2) := by decide +kernel
theorem dX6_put_43 : decode cX6_put 43 = .ok (.iload_n 1, 1) := by decide +kernel
theorem dX6_put_44 : decode cX6_put 44 = .ok (.imul, 1) := by decide +kernel
theorem dX6_put_45 : decode cX6_put 45 = .ok (.iload_n 2, 1) := by decide +kernel
theorem dX6_put_46 : decode cX6_put 46 = .ok (.iadd, 1) := by decide +kernel
theorem dX6_put_47 : decode cX6_put 47 = .ok (.aload_n 0, 1) := by decide +kernel
theorem dX6_put_48 : decode cX6_put 48 = .ok (.getfield 19, 3) := by decide +kernel
theorem dX6_put_51 : decode cX6_put 51 = .ok (.iload_n 1, 1) := by decide +kernel
theorem dX6_put_52 : decode cX6_put 52 = .ok (.iaload, 1) := by decide +kernel
theorem dX6_put_53 : decode cX6_put 53 = .ok (.ifCond .ne 8, 3) := by decide +kernel
theorem dX6_put_56 : decode cX6_put 56 = .ok (.iload_n 3, 1) := by decide +kernel
theorem dX6_put_57 : decode cX6_put 57 = .ok (.i2b, 1) := by decide +kernel
theorem dX6_put_58 : decode cX6_put 58 = .ok (.goto 19, 3) := by decide +kernel
theorem dX6_put_61 : decode cX6_put 61 = .ok (.aload_n 0, 1) := by decide +kernel
theorem dX6_put_62 : decode cX6_put 62 = .ok (.getfield 19, 3) := by decide +kernel
theorem dX6_put_65 : decode cX6_put 65 = .ok (.iload_n 1, 1) := by decide +kernel
theorem dX6_put_66 : decode cX6_put 66 = .ok (.iaload, 1) := by decide +kernel
theorem dX6_put_67 : decode cX6_put 67 = .ok (.iconst 1, 1) := by decide +kernel
theorem dX6_put_68 : decode cX6_put 68 = .ok (.if_icmp .ne 8, 3) := by decide +kernel
theorem dX6_put_71 : decode cX6_put 71 = .ok (.iload_n 3, 1) := by decide +kernel
theorem dX6_put_72 : decode cX6_put 72 = .ok (.i2s, 1) := by decide +kernel
theorem dX6_put_73 : decode cX6_put 73 = .ok (.goto 4, 3) := by decide +kernel
theorem dX6_put_76 : decode cX6_put 76 = .ok (.iload_n 3, 1) := by decide +kernel
theorem dX6_put_77 : decode cX6_put 77 = .ok (.iastore, 1) := by decide +kernel
theorem dX6_put_78 : decode cX6_put 78 = .ok (.iconst 0, 1) := by decide +kernel
theorem dX6_put_79 : decode cX6_put 79 = .ok (.ireturn, 1) := by decide +kernel
theorem dX6_element_0 : decode cX6_element 0 = .ok (.aload_n 0, 1) := by decide +kernel
theorem dX6_element_1 : decode cX6_element 1 = .ok (.iload_n 1, 1) := by decide +kernel
theorem dX6_element_2 : decode cX6_element 2 = .ok (.invokestatic 90, 3) := by decide +kernel
theorem dX6_element_5 : decode cX6_element 5 = .ok (.ifCond .ne 7, 3) := by decide +kernel
theorem dX6_element_8 : decode cX6_element 8 = .ok (.iconst 1, 1) := by decide +kernel
theorem dX6_element_9 : decode cX6_element 9 = .ok (.goto 36, 3) := by decide +kernel
theorem dX6_element_12 : decode cX6_element 12 = .ok (.aload_n 0, 1) := by decide +kernel
theorem dX6_element_13 : decode cX6_element 13 = .ok (.getfield 16, 3) := by decide +kernel
theorem dX6_element_16 : decode cX6_element 16 = .ok (.iload_n 1, 1) := by decide +kernel
theorem dX6_element_17 : decode cX6_element 17 = .ok (.iaload, 1) := by decide +kernel
theorem dX6_element_18 : decode cX6_element 18 = .ok (.iconst 2, 1) := by decide +kernel
theorem dX6_element_19 : decode cX6_element 19 = .ok (.if_icmp .ne 21, 3) := by decide +kernel
theorem dX6_element_22 : decode cX6_element 22 = .ok (.iload_n 2, 1) := by decide +kernel
theorem dX6_element_23 : decode cX6_element 23 = .ok (.i2l, 1) := by decide +kernel
theorem dX6_element_24 : decode cX6_element 24 = .ok (.lconst 0, 1) := by decide +kernel
theorem dX6_element_25 : decode cX6_element 25 = .ok (.aload_n 0, 1) := by decide +kernel
theorem dX6_element_26 : decode cX6_element 26 = .ok (.getfield 22, 3) := by decide +kernel
theorem dX6_element_29 : decode cX6_element 29 = .ok (.iload_n 1, 1) := by decide +kernel
theorem dX6_element_30 : decode cX6_element 30 = .ok (.iaload, 1) := by decide +kernel
theorem dX6_element_31 : decode cX6_element 31 = .ok (.iconst 1, 1) := by decide +kernel
theorem dX6_element_32 : decode cX6_element 32 = .ok (.isub, 1) := by decide +kernel
theorem dX6_element_33 : decode cX6_element 33 = .ok (.i2l, 1) := by decide +kernel
theorem dX6_element_34 : decode cX6_element 34 = .ok (.invokestatic 48, 3) := by decide +kernel
theorem dX6_element_37 : decode cX6_element 37 = .ok (.ifCond .ne 7, 3) := by decide +kernel
theorem dX6_element_40 : decode cX6_element 40 = .ok (.iconst 2, 1) := by decide +kernel
theorem dX6_element_41 : decode cX6_element 41 = .ok (.goto 4, 3) := by decide +kernel
theorem dX6_element_44 : decode cX6_element 44 = .ok (.iconst 0, 1) := by decide +kernel
theorem dX6_element_45 : decode cX6_element 45 = .ok (.putfield 44, 3) := by decide +kernel
theorem dX6_element_48 : decode cX6_element 48 = .ok (.aload_n 0, 1) := by decide +kernel
theorem dX6_element_49 : decode cX6_element 49 = .ok (.getfield 44, 3) := by decide +kernel
theorem dX6_element_52 : decode cX6_element 52 = .ok (.ifCond .ne 18, 3) := by decide +kernel
theorem dX6_element_55 : decode cX6_element 55 = .ok (.aload_n 0, 1) := by decide +kernel
theorem dX6_element_56 : decode cX6_element 56 = .ok (.getfield 25, 3) := by decide +kernel
theorem dX6_element_59 : decode cX6_element 59 = .ok (.bipush 100, 2) := by decide +kernel
theorem dX6_element_61 : decode cX6_element 61 = .ok (.iload_n 1, 1) := by decide +kernel
theorem dX6_element_62 : decode cX6_element 62 = .ok (.imul, 1) := by decide +kernel
theorem dX6_element_63 : decode cX6_element 63 = .ok (.iload_n 2, 1) := by decide +kernel
theorem dX6_element_64 : decode cX6_element 64 = .ok (.iadd, 1) := by decide +kernel
theorem dX6_element_65 : decode cX6_element 65 = .ok (.iaload, 1) := by decide +kernel
theorem dX6_element_66 : decode cX6_element 66 = .ok (.i2l, 1) := by decide +kernel
theorem dX6_element_67 : decode cX6_element 67 = .ok (.goto 4, 3) := by decide +kernel
theorem dX6_element_70 : decode cX6_element 70 = .ok (.lconst 0, 1) := by decide +kernel
theorem dX6_element_71 : decode cX6_element 71 = .ok (.lreturn, 1) := by decide +kernel
theorem dX6_copy_0 : decode cX6_copy 0 = .ok (.iload_n 1, 1) := by decide +kernel
theorem dX6_copy_1 : decode cX6_copy 1 = .ok (.invokestatic 90, 3) := by decide +kernel
theorem dX6_copy_4 : decode cX6_copy 4 = .ok (.ifCond .eq 10, 3) := by decide +kernel
theorem dX6_copy_7 : decode cX6_copy 7 = .ok (.iload_n 3, 1) := by decide +kernel
theorem dX6_copy_8 : decode cX6_copy 8 = .ok (.invokestatic 90, 3) := by decide +kernel
theorem dX6_copy_11 : decode cX6_copy 11 = .ok (.ifCond .ne 5, 3) := by decide +kernel
theorem dX6_copy_14 : decode cX6_copy 14 = .ok (.iconst (-1), 1) := by decide +kernel
theorem dX6_copy_15 : decode cX6_copy 15 = .ok (.ireturn, 1) := by decide +kernel
theorem dX6_copy_16 : decode cX6_copy 16 = .ok (.aload_n 0, 1) := by decide +kernel
theorem dX6_copy_17 : decode cX6_copy 17 = .ok (.getfield 16, 3) := by decide +kernel
theorem dX6_copy_20 : decode cX6_copy 20 = .ok (.iload_n 1, 1) := by decide +kernel
theorem dX6_copy_21 : decode cX6_copy 21 = .ok (.iaload, 1) := by decide +kernel
theorem dX6_copy_22 : decode cX6_copy 22 = .ok (.ifCond .eq 12, 3) := by decide +kernel
theorem dX6_copy_25 : decode cX6_copy 25 = .ok (.aload_n 0, 1) := by decide +kernel
theorem dX6_copy_26 : decode cX6_copy 26 = .ok (.getfield 16, 3) := by decide +kernel
theorem dX6_copy_29 : decode cX6_copy 29 = .ok (.iload_n 3, 1) := by decide +kernel
theorem dX6_copy_30 : decode cX6_copy 30 = .ok (.iaload, 1) := by decide +kernel
theorem dX6_copy_31 : decode cX6_copy 31 = .ok (.ifCond .ne 6, 3) := by decide +kernel
theorem dX6_copy_34 : decode cX6_copy 34 = .ok (.bipush (-11), 2) := by decide +kernel
theorem dX6_copy_36 : decode cX6_copy 36 = .ok (.ireturn, 1) := by decide +kernel
theorem dX6_copy_37 : decode cX6_copy 37 = .ok (.aload_n 0, 1) := by decide +kernel
theorem dX6_copy_38 : decode cX6_copy 38 = .ok (.getfield 16, 3) := by decide +kernel
theorem dX6_copy_41 : decode cX6_copy 41 = .ok (.iload_n 1, 1) := by decide +kernel
theorem dX6_copy_42 : decode cX6_copy 42 = .ok (.iaload, 1) := by decide +kernel
theorem dX6_copy_43 : decode cX6_copy 43 = .ok (.iconst 2, 1) := by decide +kernel
theorem dX6_copy_44 : decode cX6_copy 44 = .ok (.if_icmp .ne 28, 3) := by decide +kernel
theorem dX6_copy_47 : decode cX6_copy 47 = .ok (.aload_n 0, 1) := by decide +kernel
theorem dX6_copy_48 : decode cX6_copy 48 = .ok (.getfield 16, 3) := by decide +kernel
theorem dX6_copy_51 : decode cX6_copy 51 = .ok (.iload_n 3, 1) := by decide +kernel
theorem dX6_copy_52 : decode cX6_copy 52 = .ok (.iaload, 1) := by decide +kernel
theorem dX6_copy_53 : decode cX6_copy 53 = .ok (.iconst 2, 1) := by decide +kernel
theorem dX6_copy_54 : decode cX6_copy 54 = .ok (.if_icmp .ne 18, 3) := by decide +kernel
theorem dX6_copy_57 : decode cX6_copy 57 = .ok (.aload_n 0, 1) := by decide +kernel
theorem dX6_copy_58 : decode cX6_copy 58 = .ok (.getfield 19, 3) := by decide +kernel
theorem dX6_copy_61 : decode cX6_copy 61 = .ok (.iload_n 1, 1) := by decide +kernel
theorem dX6_copy_62 : decode cX6_copy 62 = .ok (.iaload, 1) := by decide +kernel
theorem dX6_copy_63 : decode cX6_copy 63 = .ok (.aload_n 0, 1) := by decide +kernel
theorem dX6_copy_64 : decode cX6_copy 64 = .ok (.getfield 19, 3) := by decide +kernel
theorem dX6_copy_67 : decode cX6_copy 67 = .ok (.iload_n 3, 1) := by decide +kernel
theorem dX6_copy_68 : decode cX6_copy 68 = .ok (.iaload, 1) := by decide +kernel
theorem dX6_copy_69 : decode cX6_copy 69 = .ok (.if_icmp .eq 6, 3) := by decide +kernel
theorem dX6_copy_72 : decode cX6_copy 72 = .ok (.bipush (-12), 2) := by decide +kernel
theorem dX6_copy_74 : decode cX6_copy 74 = .ok (.ireturn, 1) := by decide +kernel
theorem dX6_copy_75 : decode cX6_copy 75 = .ok (.iload 5, 2) := by decide +kernel
theorem dX6_copy_77 : decode cX6_copy 77 = .ok (.ifCond .lt 39, 3) := by decide +kernel
theorem dX6_copy_80 : decode cX6_copy 80 = .ok (.iload_n 2, 1) := by decide +kernel
theorem dX6_copy_81 : decode cX6_copy 81 = .ok (.ifCond .lt 35, 3) := by decide +kernel
theorem dX6_copy_84 : decode cX6_copy 84 = .ok (.iload 4, 2) := by decide +kernel
theorem dX6_copy_86 : decode cX6_copy 86 = .ok (.ifCond .lt 30, 3) := by decide +kernel
theorem dX6_copy_89 : decode cX6_copy 89 = .ok (.iload 5, 2) := by decide +kernel
theorem dX6_copy_91 : decode cX6_copy 91 = .ok (.aload_n 0, 1) := by decide +kernel
theorem dX6_copy_92 : decode cX6_copy 92 = .ok (.getfield 22, 3) := by decide +kernel
theorem dX6_copy_95 : decode cX6_copy 95 = .ok (.iload_n 1, 1) := by decide +kernel
theorem dX6_copy_96 : decode cX6_copy 96 = .ok (.iaload, 1) := by decide +kernel
theorem dX6_copy_97 : decode cX6_copy 97 = .ok (.iload_n 2, 1) := by decide +kernel
theorem dX6_copy_98 : decode cX6_copy 98 = .ok (.isub, 1) := by decide +kernel
theorem dX6_copy_99 : decode cX6_copy 99 = .ok (.if_icmp .gt 17, 3) := by decide +kernel
theorem dX6_copy_102 : decode cX6_copy 102 = .ok (.iload 5, 2) := by decide +kernel
theorem dX6_copy_104 : decode cX6_copy 104 = .ok (.aload_n 0, 1) := by decide +kernel
theorem dX6_copy_105 : decode cX6_copy 105 = .ok (.getfield 22, 3) := by decide +kernel
theorem dX6_copy_108 : decode cX6_copy 108 = .ok (.iload_n 3, 1) := by decide +kernel
theorem dX6_copy_109 : decode cX6_copy 109 = .ok (.iaload, 1) := by decide +kernel
theorem dX6_copy_110 : decode cX6_copy 110 = .ok (.iload 4, 2) := by decide +kernel
theorem dX6_copy_112 : decode cX6_copy 112 = .ok (.isub, 1) := by decide +kernel
theorem dX6_copy_113 : decode cX6_copy 113 = .ok (.if_icmp .le 6, 3) := by decide +kernel
theorem dX6_copy_116 : decode cX6_copy 116 = .ok (.bipush (-13), 2) := by decide +kernel
theorem dX6_copy_118 : decode cX6_copy 118 = .ok (.ireturn, 1) := by decide +kernel
theorem dX6_copy_119 : decode cX6_copy 119 = .ok (.iconst 0, 1) := by decide +kernel
theorem dX6_copy_120 : decode cX6_copy 120 = .ok (.istore 6, 2) := by decide +kernel
theorem dX6_copy_122 : decode cX6_copy 122 = .ok (.iload 6, 2) := by decide +kernel
theorem dX6_copy_124 : decode cX6_copy 124 = .ok (.iload 5, 2) := by decide +kernel
theorem dX6_copy_126 : decode cX6_copy 126 = .ok (.if_icmp .ge 58, 3) := by decide +kernel
theorem dX6_copy_129 : decode cX6_copy 129 = .ok (.iload_n 2, 1) := by decide +kernel
theorem dX6_copy_130 : decode cX6_copy 130 = .ok (.iload 4, 2) := by decide +kernel
theorem dX6_copy_132 : decode cX6_copy 132 = .ok (.if_icmp .le 8, 3) := by decide +kernel
theorem dX6_copy_135 : decode cX6_copy 135 = .ok (.iload 6, 2) := by decide +kernel
theorem dX6_copy_137 : decode cX6_copy 137 = .ok (.goto 10, 3) := by decide +kernel
theorem dX6_copy_140 : decode cX6_copy 140 = .ok (.iload 5, 2) := by decide +kernel
theorem dX6_copy_142 : decode cX6_copy 142 = .ok (.iconst 1, 1) := by decide +kernel
theorem dX6_copy_143 : decode cX6_copy 143 = .ok (.isub, 1) := by decide +kernel
theorem dX6_copy_144 : decode cX6_copy 144 = .ok (.iload 6, 2) := by decide +kernel
theorem dX6_copy_146 : decode cX6_copy 146 = .ok (.isub, 1) := by decide +kernel
theorem dX6_copy_147 : decode cX6_copy 147 = .ok (.istore 7, 2) := by decide +kernel
theorem dX6_copy_149 : decode cX6_copy 149 = .ok (.aload_n 0, 1) := by decide +kernel
theorem dX6_copy_150 : decode cX6_copy 150 = .ok (.getfield 25, 3) := by decide +kernel
theorem dX6_copy_153 : decode cX6_copy 153 = .ok (.bipush 100, 2) := by decide +kernel
theorem dX6_copy_155 : decode cX6_copy 155 = .ok (.iload_n 3, 1) := by decide +kernel
theorem dX6_copy_156 : decode cX6_copy 156 = .ok (.imul, 1) := by decide +kernel
theorem dX6_copy_157 : decode cX6_copy 157 = .ok (.iload 4, 2) := by decide +kernel
theorem dX6_copy_159 : decode cX6_copy 159 = .ok (.iadd, 1) := by decide +kernel
theorem dX6_copy_160 : decode cX6_copy 160 = .ok (.iload 7, 2) := by decide +kernel
theorem dX6_copy_162 : decode cX6_copy 162 = .ok (.iadd, 1) := by decide +kernel
theorem dX6_copy_163 : decode cX6_copy 163 = .ok (.aload_n 0, 1) := by decide +kernel
theorem dX6_copy_164 : decode cX6_copy 164 = .ok (.getfield 25, 3) := by decide +kernel
theorem dX6_copy_167 : decode cX6_copy 167 = .ok (.bipush 100, 2) := by decide +kernel
theorem dX6_copy_169 : decode cX6_copy 169 = .ok (.iload_n 1, 1) := by decide +kernel
theorem dX6_copy_170 : decode cX6_copy 170 = .ok (.imul, 1) := by decide +kernel
theorem dX6_copy_171 : decode cX6_copy 171 = .ok (.iload_n 2, 1) := by decide +kernel
theorem dX6_copy_172 : decode cX6_copy 172 = .ok (.iadd, 1) := by decide +kernel
theorem dX6_copy_173 : decode cX6_copy 173 = .ok (.iload 7, 2) := by decide +kernel
theorem dX6_copy_175 : decode cX6_copy 175 = .ok (.iadd, 1) := by decide +kernel
theorem dX6_copy_176 : decode cX6_copy 176 = .ok (.iaload, 1) := by decide +kernel
theorem dX6_copy_177 : decode cX6_copy 177 = .ok (.iastore, 1) := by decide +kernel
theorem dX6_copy_178 : decode cX6_copy 178 = .ok (.iinc 6 1, 3) := by decide +kernel
theorem dX6_copy_181 : decode cX6_copy 181 = .ok (.goto (-59), 3) := by decide +kernel
theorem dX6_copy_184 : decode cX6_copy 184 = .ok (.iload 5, 2) := by decide +kernel
theorem dX6_copy_186 : decode cX6_copy 186 = .ok (.ireturn, 1) := by decide +kernel
theorem dX6_wrongShelf_0 : decode cX6_wrongShelf 0 = .ok (.iload_n 1, 1) := by decide +kernel
theorem dX6_wrongShelf_1 : decode cX6_wrongShelf 1 = .ok (.invokestatic 90, 3) := by decide +kernel
theorem dX6_wrongShelf_4 : decode cX6_wrongShelf 4 = .ok (.ifCond .ne 7, 3) := by decide +kernel
theorem dX6_wrongShelf_7 : decode cX6_wrongShelf 7 = .ok (.iconst (-1), 1) := by decide +kernel
theorem dX6_wrongShelf_8 : decode cX6_wrongShelf 8 = .ok (.goto 33, 3) := by decide +kernel
theorem dX6_wrongShelf_11 : decode cX6_wrongShelf 11 = .ok (.aload_n 0, 1) := by decide +kernel
theorem dX6_wrongShelf_12 : decode cX6_wrongShelf 12 = .ok (.getfield 16, 3) := by decide +kernel
theorem dX6_wrongShelf_15 : decode cX6_wrongShelf 15 = .ok (.iload_n 1, 1) := by decide +kernel
theorem dX6_wrongShelf_16 : decode cX6_wrongShelf 16 = .ok (.iaload, 1) := by decide +kernel
theorem dX6_wrongShelf_17 : decode cX6_wrongShelf 17 = .ok (.ifCond .ne 8, 3) := by decide +kernel
theorem dX6_wrongShelf_20 : decode cX6_wrongShelf 20 = .ok (.bipush (-11), 2) := by decide +kernel
theorem dX6_wrongShelf_22 : decode cX6_wrongShelf 22 = .ok (.goto 19, 3) := by decide +kernel
theorem dX6_wrongShelf_25 : decode cX6_wrongShelf 25 = .ok (.aload_n 0, 1) := by decide +kernel
theorem dX6_wrongShelf_26 : decode cX6_wrongShelf 26 = .ok (.getfield 16, 3) := by decide +kernel
theorem dX6_wrongShelf_29 : decode cX6_wrongShelf 29 = .ok (.iload_n 1, 1) := by decide +kernel
theorem dX6_wrongShelf_30 : decode cX6_wrongShelf 30 = .ok (.iaload, 1) := by decide +kernel
theorem dX6_wrongShelf_31 : decode cX6_wrongShelf 31 = .ok (.iconst 1, 1) := by decide +kernel
theorem dX6_wrongShelf_32 : decode cX6_wrongShelf 32 = .ok (.if_icmp .ne 7, 3) := by decide +kernel
theorem dX6_wrongShelf_35 : decode cX6_wrongShelf 35 = .ok (.iconst 0, 1) := by decide +kernel
theorem dX6_wrongShelf_36 : decode cX6_wrongShelf 36 = .ok (.goto 5, 3) := by decide +kernel
theorem dX6_wrongShelf_39 : decode cX6_wrongShelf 39 = .ok (.bipush (-12), 2) := by decide +kernel
theorem dX6_wrongShelf_41 : decode cX6_wrongShelf 41 = .ok (.ireturn, 1) := by decide +kernel
theorem dX6_held_0 : decode cX6_held 0 = .ok (.aload_n 0, 1) := by decide +kernel
theorem dX6_held_1 : decode cX6_held 1 = .ok (.getfield 34, 3) := by decide +kernel
theorem dX6_held_4 : decode cX6_held 4 = .ok (.iload_n 1, 1) := by decide +kernel
theorem dX6_held_5 : decode cX6_held 5 = .ok (.baload, 1) := by decide +kernel
theorem dX6_held_6 : decode cX6_held 6 = .ok (.ifCond .eq 17, 3) := by decide +kernel
theorem dX6_held_9 : decode cX6_held 9 = .ok (.aload_n 0, 1) := by decide +kernel
theorem dX6_held_10 : decode cX6_held 10 = .ok (.getfield 31, 3) := by decide +kernel
theorem dX6_held_13 : decode cX6_held 13 = .ok (.bipush 45, 2) := by decide +kernel
theorem dX6_held_15 : decode cX6_held 15 = .ok (.iload_n 1, 1) := by decide +kernel
theorem dX6_held_16 : decode cX6_held 16 = .ok (.imul, 1) := by decide +kernel
theorem dX6_held_17 : decode cX6_held 17 = .ok (.iload_n 2, 1) := by decide +kernel
theorem dX6_held_18 : decode cX6_held 18 = .ok (.iadd, 1) := by decide +kernel
theorem dX6_held_19 : decode cX6_held 19 = .ok (.iaload, 1) := by decide +kernel
theorem dX6_held_20 : decode cX6_held 20 = .ok (.goto 14, 3) := by decide +kernel
theorem dX6_held_23 : decode cX6_held 23 = .ok (.aload_n 0, 1) := by decide +kernel
theorem dX6_held_24 : decode cX6_held 24 = .ok (.aload_n 0, 1) := by decide +kernel
theorem dX6_held_25 : decode cX6_held 25 = .ok (.getfield 28, 3) := by decide +kernel
theorem dX6_held_28 : decode cX6_held 28 = .ok (.iload_n 1, 1) := by decide +kernel
theorem dX6_held_29 : decode cX6_held 29 = .ok (.iaload, 1) := by decide +kernel
theorem dX6_held_30 : decode cX6_held 30 = .ok (.iload_n 2, 1) := by decide +kernel
theorem dX6_held_31 : decode cX6_held 31 = .ok (.invokevirtual 150, 3) := by decide +kernel
theorem dX6_held_34 : decode cX6_held 34 = .ok (.ireturn, 1) := by decide +kernel
theorem dX6_weight_0 : decode cX6_weight 0 = .ok (.aload_n 0, 1) := by decide +kernel
theorem dX6_weight_1 : decode cX6_weight 1 = .ok (.iload_n 1, 1) := by decide +kernel
theorem dX6_weight_2 : decode cX6_weight 2 = .ok (.invokevirtual 244, 3) := by decide +kernel
theorem dX6_weight_5 : decode cX6_weight 5 = .ok (.istore_n 2, 1) := by decide +kernel
theorem dX6_weight_6 : decode cX6_weight 6 = .ok (.iload_n 2, 1) := by decide +kernel
theorem dX6_weight_7 : decode cX6_weight 7 = .ok (.ifCond .eq 5, 3) := by decide +kernel
theorem dX6_weight_10 : decode cX6_weight 10 = .ok (.iload_n 2, 1) := by decide +kernel
theorem dX6_weight_11 : decode cX6_weight 11 = .ok (.ireturn, 1) := by decide +kernel
theorem dX6_weight_12 : decode cX6_weight 12 = .ok (.bipush 10, 2) := by decide +kernel
theorem dX6_weight_14 : decode cX6_weight 14 = .ok (.aload_n 0, 1) := by decide +kernel
theorem dX6_weight_15 : decode cX6_weight 15 = .ok (.iload_n 1, 1) := by decide +kernel
theorem dX6_weight_16 : decode cX6_weight 16 = .ok (.iconst 3, 1) := by decide +kernel
theorem dX6_weight_17 : decode cX6_weight 17 = .ok (.invokevirtual 247, 3) := by decide +kernel
theorem dX6_weight_20 : decode cX6_weight 20 = .ok (.iadd, 1) := by decide +kernel
theorem dX6_weight_21 : decode cX6_weight 21 = .ok (.istore_n 3, 1) := by decide +kernel
theorem dX6_weight_22 : decode cX6_weight 22 = .ok (.aload_n 0, 1) := by decide +kernel
theorem dX6_weight_23 : decode cX6_weight 23 = .ok (.iload_n 1, 1) := by decide +kernel
theorem dX6_weight_24 : decode cX6_weight 24 = .ok (.iconst 0, 1) := by decide +kernel
theorem dX6_weight_25 : decode cX6_weight 25 = .ok (.invokevirtual 247, 3) := by decide +kernel
theorem dX6_weight_28 : decode cX6_weight 28 = .ok (.tableswitch 102 1 7 #[44, 48, 52, 61, 73, 79, 90], 44) := by decide +kernel
theorem dX6_weight_72 : decode cX6_weight 72 = .ok (.iload_n 3, 1) := by decide +kernel
theorem dX6_weight_73 : decode cX6_weight 73 = .ok (.iconst 1, 1) := by decide +kernel
theorem dX6_weight_74 : decode cX6_weight 74 = .ok (.iadd, 1) := by decide +kernel
theorem dX6_weight_75 : decode cX6_weight 75 = .ok (.ireturn, 1) := by decide +kernel
theorem dX6_weight_76 : decode cX6_weight 76 = .ok (.iconst 2, 1) := by decide +kernel
theorem dX6_weight_77 : decode cX6_weight 77 = .ok (.iload_n 3, 1) := by decide +kernel
theorem dX6_weight_78 : decode cX6_weight 78 = .ok (.imul, 1) := by decide +kernel
theorem dX6_weight_79 : decode cX6_weight 79 = .ok (.ireturn, 1) := by decide +kernel
theorem dX6_weight_80 : decode cX6_weight 80 = .ok (.iload_n 3, 1) := by decide +kernel
theorem dX6_weight_81 : decode cX6_weight 81 = .ok (.aload_n 0, 1) := by decide +kernel
theorem dX6_weight_82 : decode cX6_weight 82 = .ok (.iload_n 1, 1) := by decide +kernel
theorem dX6_weight_83 : decode cX6_weight 83 = .ok (.iconst 1, 1) := by decide +kernel
theorem dX6_weight_84 : decode cX6_weight 84 = .ok (.invokevirtual 247, 3) := by decide +kernel
theorem dX6_weight_87 : decode cX6_weight 87 = .ok (.iadd, 1) := by decide +kernel
theorem dX6_weight_88 : decode cX6_weight 88 = .ok (.ireturn, 1) := by decide +kernel
theorem dX6_weight_89 : decode cX6_weight 89 = .ok (.iload_n 3, 1) := by decide +kernel
theorem dX6_weight_90 : decode cX6_weight 90 = .ok (.iconst 1, 1) := by decide +kernel
theorem dX6_weight_91 : decode cX6_weight 91 = .ok (.iadd, 1) := by decide +kernel
theorem dX6_weight_92 : decode cX6_weight 92 = .ok (.aload_n 0, 1) := by decide +kernel
theorem dX6_weight_93 : decode cX6_weight 93 = .ok (.iload_n 1, 1) := by decide +kernel
theorem dX6_weight_94 : decode cX6_weight 94 = .ok (.bipush 28, 2) := by decide +kernel
theorem dX6_weight_96 : decode cX6_weight 96 = .ok (.invokevirtual 247, 3) := by decide +kernel
theorem dX6_weight_99 : decode cX6_weight 99 = .ok (.iadd, 1) := by decide +kernel
theorem dX6_weight_100 : decode cX6_weight 100 = .ok (.ireturn, 1) := by decide +kernel
theorem dX6_weight_101 : decode cX6_weight 101 = .ok (.iconst 2, 1) := by decide +kernel
theorem dX6_weight_102 : decode cX6_weight 102 = .ok (.iload_n 3, 1) := by decide +kernel
theorem dX6_weight_103 : decode cX6_weight 103 = .ok (.iconst 1, 1) := by decide +kernel
theorem dX6_weight_104 : decode cX6_weight 104 = .ok (.iadd, 1) := by decide +kernel
theorem dX6_weight_105 : decode cX6_weight 105 = .ok (.imul, 1) := by decide +kernel
theorem dX6_weight_106 : decode cX6_weight 106 = .ok (.ireturn, 1) := by decide +kernel
theorem dX6_weight_107 : decode cX6_weight 107 = .ok (.iconst 2, 1) := by decide +kernel
theorem dX6_weight_108 : decode cX6_weight 108 = .ok (.iload_n 3, 1) := by decide +kernel
theorem dX6_weight_109 : decode cX6_weight 109 = .ok (.imul, 1) := by decide +kernel
theorem dX6_weight_110 : decode cX6_weight 110 = .ok (.aload_n 0, 1) := by decide +kernel
theorem dX6_weight_111 : decode cX6_weight 111 = .ok (.iload_n 1, 1) := by decide +kernel
theorem dX6_weight_112 : decode cX6_weight 112 = .ok (.iconst 2, 1) := by decide +kernel
theorem dX6_weight_113 : decode cX6_weight 113 = .ok (.invokevirtual 247, 3) := by decide +kernel
theorem dX6_weight_116 : decode cX6_weight 116 = .ok (.iadd, 1) := by decide +kernel
theorem dX6_weight_117 : decode cX6_weight 117 = .ok (.ireturn, 1) := by decide +kernel
theorem dX6_weight_118 : decode cX6_weight 118 = .ok (.iload_n 3, 1) := by decide +kernel
theorem dX6_weight_119 : decode cX6_weight 119 = .ok (.aload_n 0, 1) := by decide +kernel
theorem dX6_weight_120 : decode cX6_weight 120 = .ok (.iload_n 1, 1) := by decide +kernel
theorem dX6_weight_121 : decode cX6_weight 121 = .ok (.iconst 1, 1) := by decide +kernel
theorem dX6_weight_122 : decode cX6_weight 122 = .ok (.invokevirtual 247, 3) := by decide +kernel
theorem dX6_weight_125 : decode cX6_weight 125 = .ok (.iadd, 1) := by decide +kernel
theorem dX6_weight_126 : decode cX6_weight 126 = .ok (.bipush 100, 2) := by decide +kernel
theorem dX6_weight_128 : decode cX6_weight 128 = .ok (.iadd, 1) := by decide +kernel
theorem dX6_weight_129 : decode cX6_weight 129 = .ok (.ireturn, 1) := by decide +kernel
theorem dX6_weight_130 : decode cX6_weight 130 = .ok (.iload_n 3, 1) := by decide +kernel
theorem dX6_weight_131 : decode cX6_weight 131 = .ok (.ireturn, 1) := by decide +kernel
theorem dX6_toss_0 : decode cX6_toss 0 = .ok (.aload_n 0, 1) := by decide +kernel
theorem dX6_toss_1 : decode cX6_toss 1 = .ok (.iload_n 1, 1) := by decide +kernel
theorem dX6_toss_2 : decode cX6_toss 2 = .ok (.invokevirtual 244, 3) := by decide +kernel
theorem dX6_toss_5 : decode cX6_toss 5 = .ok (.istore_n 2, 1) := by decide +kernel
theorem dX6_toss_6 : decode cX6_toss 6 = .ok (.iload_n 2, 1) := by decide +kernel
theorem dX6_toss_7 : decode cX6_toss 7 = .ok (.ifCond .eq 5, 3) := by decide +kernel
theorem dX6_toss_10 : decode cX6_toss 10 = .ok (.iload_n 2, 1) := by decide +kernel
theorem dX6_toss_11 : decode cX6_toss 11 = .ok (.ireturn, 1) := by decide +kernel
theorem dX6_toss_12 : decode cX6_toss 12 = .ok (.aload_n 0, 1) := by decide +kernel
theorem dX6_toss_13 : decode cX6_toss 13 = .ok (.iload_n 1, 1) := by decide +kernel
theorem dX6_toss_14 : decode cX6_toss 14 = .ok (.iconst 0, 1) := by decide +kernel
theorem dX6_toss_15 : decode cX6_toss 15 = .ok (.invokevirtual 247, 3) := by decide +kernel
theorem dX6_toss_18 : decode cX6_toss 18 = .ok (.istore_n 3, 1) := by decide +kernel
theorem dX6_toss_19 : decode cX6_toss 19 = .ok (.iload_n 3, 1) := by decide +kernel
theorem dX6_toss_20 : decode cX6_toss 20 = .ok (.iconst 3, 1) := by decide +kernel
theorem dX6_toss_21 : decode cX6_toss 21 = .ok (.if_icmp .eq 18, 3) := by decide +kernel
theorem dX6_toss_24 : decode cX6_toss 24 = .ok (.iload_n 3, 1) := by decide +kernel
theorem dX6_toss_25 : decode cX6_toss 25 = .ok (.bipush 7, 2) := by decide +kernel
theorem dX6_toss_27 : decode cX6_toss 27 = .ok (.if_icmp .eq 12, 3) := by decide +kernel
theorem dX6_toss_30 : decode cX6_toss 30 = .ok (.aload_n 0, 1) := by decide +kernel
theorem dX6_toss_31 : decode cX6_toss 31 = .ok (.iload_n 1, 1) := by decide +kernel
theorem dX6_toss_32 : decode cX6_toss 32 = .ok (.iconst 3, 1) := by decide +kernel
theorem dX6_toss_33 : decode cX6_toss 33 = .ok (.invokevirtual 247, 3) := by decide +kernel
theorem dX6_toss_36 : decode cX6_toss 36 = .ok (.ifCond .ne 6, 3) := by decide +kernel
theorem dX6_toss_39 : decode cX6_toss 39 = .ok (.bipush (-15), 2) := by decide +kernel
theorem dX6_toss_41 : decode cX6_toss 41 = .ok (.ireturn, 1) := by decide +kernel
theorem dX6_toss_42 : decode cX6_toss 42 = .ok (.iload_n 3, 1) := by decide +kernel
theorem dX6_toss_43 : decode cX6_toss 43 = .ok (.iconst 4, 1) := by decide +kernel
theorem dX6_toss_44 : decode cX6_toss 44 = .ok (.if_icmp .ne 15, 3) := by decide +kernel
theorem dX6_toss_47 : decode cX6_toss 47 = .ok (.bipush 100, 2) := by decide +kernel
theorem dX6_toss_49 : decode cX6_toss 49 = .ok (.aload_n 0, 1) := by decide +kernel
theorem dX6_toss_50 : decode cX6_toss 50 = .ok (.getfield 28, 3) := by decide +kernel
theorem dX6_toss_53 : decode cX6_toss 53 = .ok (.iload_n 1, 1) := by decide +kernel
theorem dX6_toss_54 : decode cX6_toss 54 = .ok (.iaload, 1) := by decide +kernel
theorem dX6_toss_55 : decode cX6_toss 55 = .ok (.iadd, 1) := by decide +kernel
theorem dX6_toss_56 : decode cX6_toss 56 = .ok (.goto 28, 3) := by decide +kernel
theorem dX6_toss_59 : decode cX6_toss 59 = .ok (.iload_n 3, 1) := by decide +kernel
theorem dX6_toss_60 : decode cX6_toss 60 = .ok (.bipush 6, 2) := by decide +kernel
theorem dX6_toss_62 : decode cX6_toss 62 = .ok (.if_icmp .ne 16, 3) := by decide +kernel
theorem dX6_toss_65 : decode cX6_toss 65 = .ok (.sipush 200, 3) := by decide +kernel
theorem dX6_toss_68 : decode cX6_toss 68 = .ok (.aload_n 0, 1) := by decide +kernel
theorem dX6_toss_69 : decode cX6_toss 69 = .ok (.iload_n 1, 1) := by decide +kernel
theorem dX6_toss_70 : decode cX6_toss 70 = .ok (.iconst 2, 1) := by decide +kernel
theorem dX6_toss_71 : decode cX6_toss 71 = .ok (.invokevirtual 247, 3) := by decide +kernel
theorem dX6_toss_74 : decode cX6_toss 74 = .ok (.iadd, 1) := by decide +kernel
theorem dX6_toss_75 : decode cX6_toss 75 = .ok (.goto 9, 3) := by decide +kernel
theorem dX6_toss_78 : decode cX6_toss 78 = .ok (.aload_n 0, 1) := by decide +kernel
theorem dX6_toss_79 : decode cX6_toss 79 = .ok (.getfield 28, 3) := by decide +kernel
theorem dX6_toss_82 : decode cX6_toss 82 = .ok (.iload_n 1, 1) := by decide +kernel
theorem dX6_toss_83 : decode cX6_toss 83 = .ok (.iaload, 1) := by decide +kernel
theorem dX6_toss_84 : decode cX6_toss 84 = .ok (.ireturn, 1) := by decide +kernel
end
section
theorem dL_element_0 : decode cL_element 0 = .ok (.aload_n 3, 1) := by decide +kernel
theorem dL_element_1 : decode cL_element 1 = .ok (.iconst 0, 1) := by decide +kernel
theorem dL_element_2 : decode cL_element 2 = .ok (.aload_n 0, 1) := by decide +kernel
theorem dL_element_3 : decode cL_element 3 = .ok (.iload_n 1, 1) := by decide +kernel
theorem dL_element_4 : decode cL_element 4 = .ok (.iload_n 2, 1) := by decide +kernel
theorem dL_element_5 : decode cL_element 5 = .ok (.invokevirtual 7, 3) := by decide +kernel
theorem dL_element_8 : decode cL_element 8 = .ok (.lastore, 1) := by decide +kernel
theorem dL_element_9 : decode cL_element 9 = .ok (.goto 11, 3) := by decide +kernel
theorem dL_element_12 : decode cL_element 12 = .ok (.astore 4, 2) := by decide +kernel
theorem dL_element_14 : decode cL_element 14 = .ok (.iconst 1, 1) := by decide +kernel
theorem dL_element_15 : decode cL_element 15 = .ok (.ireturn, 1) := by decide +kernel
theorem dL_element_16 : decode cL_element 16 = .ok (.astore 4, 2) := by decide +kernel
theorem dL_element_18 : decode cL_element 18 = .ok (.iconst 2, 1) := by decide +kernel
theorem dL_element_19 : decode cL_element 19 = .ok (.ireturn, 1) := by decide +kernel
theorem dL_element_20 : decode cL_element 20 = .ok (.iconst 0, 1) := by decide +kernel
theorem dL_element_21 : decode cL_element 21 = .ok (.ireturn, 1) := by decide +kernel
theorem dL_law_0 : decode cL_law 0 = .ok (.new 8, 3) := by decide +kernel
theorem dL_law_3 : decode cL_law 3 = .ok (.dup, 1) := by decide +kernel
theorem dL_law_4 : decode cL_law 4 = .ok (.invokespecial 17, 3) := by decide +kernel
theorem dL_law_7 : decode cL_law 7 = .ok (.astore_n 1, 1) := by decide +kernel
theorem dL_law_8 : decode cL_law 8 = .ok (.new 18, 3) := by decide +kernel
theorem dL_law_11 : decode cL_law 11 = .ok (.dup, 1) := by decide +kernel
theorem dL_law_12 : decode cL_law 12 = .ok (.invokespecial 20, 3) := by decide +kernel
theorem dL_law_15 : decode cL_law 15 = .ok (.astore_n 2, 1) := by decide +kernel
theorem dL_law_16 : decode cL_law 16 = .ok (.iconst 1, 1) := by decide +kernel
theorem dL_law_17 : decode cL_law 17 = .ok (.newarray .long, 2) := by decide +kernel
theorem dL_law_19 : decode cL_law 19 = .ok (.astore_n 3, 1) := by decide +kernel
theorem dL_law_20 : decode cL_law 20 = .ok (.iconst 0, 1) := by decide +kernel
theorem dL_law_21 : decode cL_law 21 = .ok (.istore 4, 2) := by decide +kernel
theorem dL_law_23 : decode cL_law 23 = .ok (.iload 4, 2) := by decide +kernel
theorem dL_law_25 : decode cL_law 25 = .ok (.aload_n 0, 1) := by decide +kernel
theorem dL_law_26 : decode cL_law 26 = .ok (.arraylength, 1) := by decide +kernel
theorem dL_law_27 : decode cL_law 27 = .ok (.bipush 6, 2) := by decide +kernel
theorem dL_law_29 : decode cL_law 29 = .ok (.isub, 1) := by decide +kernel
theorem dL_law_30 : decode cL_law 30 = .ok (.if_icmp .gt 1899, 3) := by decide +kernel
theorem dL_law_33 : decode cL_law 33 = .ok (.aload_n 0, 1) := by decide +kernel
theorem dL_law_34 : decode cL_law 34 = .ok (.iload 4, 2) := by decide +kernel
theorem dL_law_36 : decode cL_law 36 = .ok (.iaload, 1) := by decide +kernel
theorem dL_law_37 : decode cL_law 37 = .ok (.bipush 63, 2) := by decide +kernel
theorem dL_law_39 : decode cL_law 39 = .ok (.iand, 1) := by decide +kernel
theorem dL_law_40 : decode cL_law 40 = .ok (.tableswitch 1883 0 39 #[176, 201, 238, 275, 312, 337, 374, 411, 460, 549, 598, 648, 685, 722, 771, 820, 857, 894, 943, 992, 1041, 1090, 1151, 1188, 1225, 1262, 1323, 1372, 1409, 1446, 1495, 1508, 1521, 1546, 1595, 1644, 1693, 1760, 1833, 1858], 176) := by decide +kernel
theorem dL_law_216 : decode cL_law 216 = .ok (.aload_n 1, 1) := by decide +kernel
theorem dL_law_217 : decode cL_law 217 = .ok (.aload_n 0, 1) := by decide +kernel
theorem dL_law_218 : decode cL_law 218 = .ok (.iload 4, 2) := by decide +kernel
theorem dL_law_220 : decode cL_law 220 = .ok (.iconst 1, 1) := by decide +kernel
theorem dL_law_221 : decode cL_law 221 = .ok (.iadd, 1) := by decide +kernel
theorem dL_law_222 : decode cL_law 222 = .ok (.iaload, 1) := by decide +kernel
theorem dL_law_223 : decode cL_law 223 = .ok (.invokevirtual 21, 3) := by decide +kernel
theorem dL_law_226 : decode cL_law 226 = .ok (.aload_n 2, 1) := by decide +kernel
theorem dL_law_227 : decode cL_law 227 = .ok (.aload_n 0, 1) := by decide +kernel
theorem dL_law_228 : decode cL_law 228 = .ok (.iload 4, 2) := by decide +kernel
theorem dL_law_230 : decode cL_law 230 = .ok (.iconst 1, 1) := by decide +kernel
theorem dL_law_231 : decode cL_law 231 = .ok (.iadd, 1) := by decide +kernel
theorem dL_law_232 : decode cL_law 232 = .ok (.iaload, 1) := by decide +kernel
theorem dL_law_233 : decode cL_law 233 = .ok (.invokevirtual 25, 3) := by decide +kernel
theorem dL_law_236 : decode cL_law 236 = .ok (.if_icmp .eq 1687, 3) := by decide +kernel
theorem dL_law_239 : decode cL_law 239 = .ok (.iconst 0, 1) := by decide +kernel
theorem dL_law_240 : decode cL_law 240 = .ok (.ireturn, 1) := by decide +kernel
theorem dL_law_241 : decode cL_law 241 = .ok (.aload_n 1, 1) := by decide +kernel
theorem dL_law_242 : decode cL_law 242 = .ok (.aload_n 0, 1) := by decide +kernel
theorem dL_law_243 : decode cL_law 243 = .ok (.iload 4, 2) := by decide +kernel
theorem dL_law_245 : decode cL_law 245 = .ok (.iconst 1, 1) := by decide +kernel
theorem dL_law_246 : decode cL_law 246 = .ok (.iadd, 1) := by decide +kernel
theorem dL_law_247 : decode cL_law 247 = .ok (.iaload, 1) := by decide +kernel
theorem dL_law_248 : decode cL_law 248 = .ok (.aload_n 0, 1) := by decide +kernel
theorem dL_law_249 : decode cL_law 249 = .ok (.iload 4, 2) := by decide +kernel
theorem dL_law_251 : decode cL_law 251 = .ok (.iconst 2, 1) := by decide +kernel
theorem dL_law_252 : decode cL_law 252 = .ok (.iadd, 1) := by decide +kernel
theorem dL_law_253 : decode cL_law 253 = .ok (.iaload, 1) := by decide +kernel
theorem dL_law_254 : decode cL_law 254 = .ok (.invokevirtual 26, 3) := by decide +kernel
theorem dL_law_257 : decode cL_law 257 = .ok (.aload_n 2, 1) := by decide +kernel
theorem dL_law_258 : decode cL_law 258 = .ok (.aload_n 0, 1) := by decide +kernel
theorem dL_law_259 : decode cL_law 259 = .ok (.iload 4, 2) := by decide +kernel
theorem dL_law_261 : decode cL_law 261 = .ok (.iconst 1, 1) := by decide +kernel
theorem dL_law_262 : decode cL_law 262 = .ok (.iadd, 1) := by decide +kernel
theorem dL_law_263 : decode cL_law 263 = .ok (.iaload, 1) := by decide +kernel
theorem dL_law_264 : decode cL_law 264 = .ok (.aload_n 0, 1) := by decide +kernel
theorem dL_law_265 : decode cL_law 265 = .ok (.iload 4, 2) := by decide +kernel
theorem dL_law_267 : decode cL_law 267 = .ok (.iconst 2, 1) := by decide +kernel
theorem dL_law_268 : decode cL_law 268 = .ok (.iadd, 1) := by decide +kernel
theorem dL_law_269 : decode cL_law 269 = .ok (.iaload, 1) := by decide +kernel
theorem dL_law_270 : decode cL_law 270 = .ok (.invokevirtual 30, 3) := by decide +kernel
theorem dL_law_273 : decode cL_law 273 = .ok (.if_icmp .eq 1650, 3) := by decide +kernel
theorem dL_law_276 : decode cL_law 276 = .ok (.iconst 0, 1) := by decide +kernel
theorem dL_law_277 : decode cL_law 277 = .ok (.ireturn, 1) := by decide +kernel
theorem dL_law_278 : decode cL_law 278 = .ok (.aload_n 1, 1) := by decide +kernel
theorem dL_law_279 : decode cL_law 279 = .ok (.aload_n 0, 1) := by decide +kernel
theorem dL_law_280 : decode cL_law 280 = .ok (.iload 4, 2) := by decide +kernel
theorem dL_law_282 : decode cL_law 282 = .ok (.iconst 1, 1) := by decide +kernel
theorem dL_law_283 : decode cL_law 283 = .ok (.iadd, 1) := by decide +kernel
theorem dL_law_284 : decode cL_law 284 = .ok (.iaload, 1) := by decide +kernel
theorem dL_law_285 : decode cL_law 285 = .ok (.aload_n 0, 1) := by decide +kernel
theorem dL_law_286 : decode cL_law 286 = .ok (.iload 4, 2) := by decide +kernel
theorem dL_law_288 : decode cL_law 288 = .ok (.iconst 2, 1) := by decide +kernel
theorem dL_law_289 : decode cL_law 289 = .ok (.iadd, 1) := by decide +kernel
theorem dL_law_290 : decode cL_law 290 = .ok (.iaload, 1) := by decide +kernel
theorem dL_law_291 : decode cL_law 291 = .ok (.invokevirtual 31, 3) := by decide +kernel
theorem dL_law_294 : decode cL_law 294 = .ok (.aload_n 2, 1) := by decide +kernel
theorem dL_law_295 : decode cL_law 295 = .ok (.aload_n 0, 1) := by decide +kernel
theorem dL_law_296 : decode cL_law 296 = .ok (.iload 4, 2) := by decide +kernel
theorem dL_law_298 : decode cL_law 298 = .ok (.iconst 1, 1) := by decide +kernel
theorem dL_law_299 : decode cL_law 299 = .ok (.iadd, 1) := by decide +kernel
theorem dL_law_300 : decode cL_law 300 = .ok (.iaload, 1) := by decide +kernel
theorem dL_law_301 : decode cL_law 301 = .ok (.aload_n 0, 1) := by decide +kernel
theorem dL_law_302 : decode cL_law 302 = .ok (.iload 4, 2) := by decide +kernel
theorem dL_law_304 : decode cL_law 304 = .ok (.iconst 2, 1) := by decide +kernel
theorem dL_law_305 : decode cL_law 305 = .ok (.iadd, 1) := by decide +kernel
theorem dL_law_306 : decode cL_law 306 = .ok (.iaload, 1) := by decide +kernel
theorem dL_law_307 : decode cL_law 307 = .ok (.invokevirtual 34, 3) := by decide +kernel
theorem dL_law_310 : decode cL_law 310 = .ok (.if_icmp .eq 1613, 3) := by decide +kernel
theorem dL_law_313 : decode cL_law 313 = .ok (.iconst 0, 1) := by decide +kernel
theorem dL_law_314 : decode cL_law 314 = .ok (.ireturn, 1) := by decide +kernel
theorem dL_law_315 : decode cL_law 315 = .ok (.aload_n 1, 1) := by decide +kernel
theorem dL_law_316 : decode cL_law 316 = .ok (.aload_n 0, 1) := by decide +kernel
theorem dL_law_317 : decode cL_law 317 = .ok (.iload 4, 2) := by decide +kernel
theorem dL_law_319 : decode cL_law 319 = .ok (.iconst 1, 1) := by decide +kernel
theorem dL_law_320 : decode cL_law 320 = .ok (.iadd, 1) := by decide +kernel
theorem dL_law_321 : decode cL_law 321 = .ok (.iaload, 1) := by decide +kernel
theorem dL_law_322 : decode cL_law 322 = .ok (.aload_n 0, 1) := by decide +kernel
theorem dL_law_323 : decode cL_law 323 = .ok (.iload 4, 2) := by decide +kernel
theorem dL_law_325 : decode cL_law 325 = .ok (.iconst 2, 1) := by decide +kernel
theorem dL_law_326 : decode cL_law 326 = .ok (.iadd, 1) := by decide +kernel
theorem dL_law_327 : decode cL_law 327 = .ok (.iaload, 1) := by decide +kernel
theorem dL_law_328 : decode cL_law 328 = .ok (.invokevirtual 35, 3) := by decide +kernel
theorem dL_law_331 : decode cL_law 331 = .ok (.aload_n 2, 1) := by decide +kernel
theorem dL_law_332 : decode cL_law 332 = .ok (.aload_n 0, 1) := by decide +kernel
theorem dL_law_333 : decode cL_law 333 = .ok (.iload 4, 2) := by decide +kernel
theorem dL_law_335 : decode cL_law 335 = .ok (.iconst 1, 1) := by decide +kernel
theorem dL_law_336 : decode cL_law 336 = .ok (.iadd, 1) := by decide +kernel
theorem dL_law_337 : decode cL_law 337 = .ok (.iaload, 1) := by decide +kernel
theorem dL_law_338 : decode cL_law 338 = .ok (.aload_n 0, 1) := by decide +kernel
theorem dL_law_339 : decode cL_law 339 = .ok (.iload 4, 2) := by decide +kernel
theorem dL_law_341 : decode cL_law 341 = .ok (.iconst 2, 1) := by decide +kernel
theorem dL_law_342 : decode cL_law 342 = .ok (.iadd, 1) := by decide +kernel
theorem dL_law_343 : decode cL_law 343 = .ok (.iaload, 1) := by decide +kernel
theorem dL_law_344 : decode cL_law 344 = .ok (.invokevirtual 38, 3) := by decide +kernel
theorem dL_law_347 : decode cL_law 347 = .ok (.if_icmp .eq 1576, 3) := by decide +kernel
theorem dL_law_350 : decode cL_law 350 = .ok (.iconst 0, 1) := by decide +kernel
theorem dL_law_351 : decode cL_law 351 = .ok (.ireturn, 1) := by decide +kernel
theorem dL_law_352 : decode cL_law 352 = .ok (.aload_n 1, 1) := by decide +kernel
theorem dL_law_353 : decode cL_law 353 = .ok (.aload_n 0, 1) := by decide +kernel
theorem dL_law_354 : decode cL_law 354 = .ok (.iload 4, 2) := by decide +kernel
theorem dL_law_356 : decode cL_law 356 = .ok (.iconst 1, 1) := by decide +kernel
theorem dL_law_357 : decode cL_law 357 = .ok (.iadd, 1) := by decide +kernel
theorem dL_law_358 : decode cL_law 358 = .ok (.iaload, 1) := by decide +kernel
theorem dL_law_359 : decode cL_law 359 = .ok (.invokevirtual 39, 3) := by decide +kernel
theorem dL_law_362 : decode cL_law 362 = .ok (.aload_n 2, 1) := by decide +kernel
theorem dL_law_363 : decode cL_law 363 = .ok (.aload_n 0, 1) := by decide +kernel
theorem dL_law_364 : decode cL_law 364 = .ok (.iload 4, 2) := by decide +kernel
theorem dL_law_366 : decode cL_law 366 = .ok (.iconst 1, 1) := by decide +kernel
theorem dL_law_367 : decode cL_law 367 = .ok (.iadd, 1) := by decide +kernel
theorem dL_law_368 : decode cL_law 368 = .ok (.iaload, 1) := by decide +kernel
theorem dL_law_369 : decode cL_law 369 = .ok (.invokevirtual 42, 3) := by decide +kernel
theorem dL_law_372 : decode cL_law 372 = .ok (.if_icmp .eq 1551, 3) := by decide +kernel
theorem dL_law_375 : decode cL_law 375 = .ok (.iconst 0, 1) := by decide +kernel
theorem dL_law_376 : decode cL_law 376 = .ok (.ireturn, 1) := by decide +kernel
theorem dL_law_377 : decode cL_law 377 = .ok (.aload_n 1, 1) := by decide +kernel
theorem dL_law_378 : decode cL_law 378 = .ok (.aload_n 0, 1) := by decide +kernel
theorem dL_law_379 : decode cL_law 379 = .ok (.iload 4, 2) := by decide +kernel
theorem dL_law_381 : decode cL_law 381 = .ok (.iconst 1, 1) := by decide +kernel
theorem dL_law_382 : decode cL_law 382 = .ok (.iadd, 1) := by decide +kernel
theorem dL_law_383 : decode cL_law 383 = .ok (.iaload, 1) := by decide +kernel
theorem dL_law_384 : decode cL_law 384 = .ok (.aload_n 0, 1) := by decide +kernel
theorem dL_law_385 : decode cL_law 385 = .ok (.iload 4, 2) := by decide +kernel
theorem dL_law_387 : decode cL_law 387 = .ok (.iconst 2, 1) := by decide +kernel
theorem dL_law_388 : decode cL_law 388 = .ok (.iadd, 1) := by decide +kernel
theorem dL_law_389 : decode cL_law 389 = .ok (.iaload, 1) := by decide +kernel
theorem dL_law_390 : decode cL_law 390 = .ok (.invokevirtual 43, 3) := by decide +kernel
theorem dL_law_393 : decode cL_law 393 = .ok (.aload_n 2, 1) := by decide +kernel
theorem dL_law_394 : decode cL_law 394 = .ok (.aload_n 0, 1) := by decide +kernel
theorem dL_law_395 : decode cL_law 395 = .ok (.iload 4, 2) := by decide +kernel
theorem dL_law_397 : decode cL_law 397 = .ok (.iconst 1, 1) := by decide +kernel
theorem dL_law_398 : decode cL_law 398 = .ok (.iadd, 1) := by decide +kernel
theorem dL_law_399 : decode cL_law 399 = .ok (.iaload, 1) := by decide +kernel
theorem dL_law_400 : decode cL_law 400 = .ok (.aload_n 0, 1) := by decide +kernel
theorem dL_law_401 : decode cL_law 401 = .ok (.iload 4, 2) := by decide +kernel
theorem dL_law_403 : decode cL_law 403 = .ok (.iconst 2, 1) := by decide +kernel
theorem dL_law_404 : decode cL_law 404 = .ok (.iadd, 1) := by decide +kernel
theorem dL_law_405 : decode cL_law 405 = .ok (.iaload, 1) := by decide +kernel
theorem dL_law_406 : decode cL_law 406 = .ok (.invokevirtual 46, 3) := by decide +kernel
theorem dL_law_409 : decode cL_law 409 = .ok (.if_icmp .eq 1514, 3) := by decide +kernel
theorem dL_law_412 : decode cL_law 412 = .ok (.iconst 0, 1) := by decide +kernel
theorem dL_law_413 : decode cL_law 413 = .ok (.ireturn, 1) := by decide +kernel
theorem dL_law_414 : decode cL_law 414 = .ok (.aload_n 1, 1) := by decide +kernel
theorem dL_law_415 : decode cL_law 415 = .ok (.aload_n 0, 1) := by decide +kernel
theorem dL_law_416 : decode cL_law 416 = .ok (.iload 4, 2) := by decide +kernel
theorem dL_law_418 : decode cL_law 418 = .ok (.iconst 1, 1) := by decide +kernel
theorem dL_law_419 : decode cL_law 419 = .ok (.iadd, 1) := by decide +kernel
theorem dL_law_420 : decode cL_law 420 = .ok (.iaload, 1) := by decide +kernel
theorem dL_law_421 : decode cL_law 421 = .ok (.aload_n 0, 1) := by decide +kernel
theorem dL_law_422 : decode cL_law 422 = .ok (.iload 4, 2) := by decide +kernel
theorem dL_law_424 : decode cL_law 424 = .ok (.iconst 2, 1) := by decide +kernel
theorem dL_law_425 : decode cL_law 425 = .ok (.iadd, 1) := by decide +kernel
theorem dL_law_426 : decode cL_law 426 = .ok (.iaload, 1) := by decide +kernel
theorem dL_law_427 : decode cL_law 427 = .ok (.invokevirtual 47, 3) := by decide +kernel
theorem dL_law_430 : decode cL_law 430 = .ok (.aload_n 2, 1) := by decide +kernel
theorem dL_law_431 : decode cL_law 431 = .ok (.aload_n 0, 1) := by decide +kernel
theorem dL_law_432 : decode cL_law 432 = .ok (.iload 4, 2) := by decide +kernel
theorem dL_law_434 : decode cL_law 434 = .ok (.iconst 1, 1) := by decide +kernel
theorem dL_law_435 : decode cL_law 435 = .ok (.iadd, 1) := by decide +kernel
theorem dL_law_436 : decode cL_law 436 = .ok (.iaload, 1) := by decide +kernel
theorem dL_law_437 : decode cL_law 437 = .ok (.aload_n 0, 1) := by decide +kernel
theorem dL_law_438 : decode cL_law 438 = .ok (.iload 4, 2) := by decide +kernel
theorem dL_law_440 : decode cL_law 440 = .ok (.iconst 2, 1) := by decide +kernel
theorem dL_law_441 : decode cL_law 441 = .ok (.iadd, 1) := by decide +kernel
theorem dL_law_442 : decode cL_law 442 = .ok (.iaload, 1) := by decide +kernel
theorem dL_law_443 : decode cL_law 443 = .ok (.invokevirtual 50, 3) := by decide +kernel
theorem dL_law_446 : decode cL_law 446 = .ok (.if_icmp .eq 1477, 3) := by decide +kernel
theorem dL_law_449 : decode cL_law 449 = .ok (.iconst 0, 1) := by decide +kernel
theorem dL_law_450 : decode cL_law 450 = .ok (.ireturn, 1) := by decide +kernel
theorem dL_law_451 : decode cL_law 451 = .ok (.aload_n 1, 1) := by decide +kernel
theorem dL_law_452 : decode cL_law 452 = .ok (.aload_n 0, 1) := by decide +kernel
theorem dL_law_453 : decode cL_law 453 = .ok (.iload 4, 2) := by decide +kernel
theorem dL_law_455 : decode cL_law 455 = .ok (.iconst 1, 1) := by decide +kernel
theorem dL_law_456 : decode cL_law 456 = .ok (.iadd, 1) := by decide +kernel
theorem dL_law_457 : decode cL_law 457 = .ok (.iaload, 1) := by decide +kernel
theorem dL_law_458 : decode cL_law 458 = .ok (.aload_n 0, 1) := by decide +kernel
theorem dL_law_459 : decode cL_law 459 = .ok (.iload 4, 2) := by decide +kernel
theorem dL_law_461 : decode cL_law 461 = .ok (.iconst 2, 1) := by decide +kernel
theorem dL_law_462 : decode cL_law 462 = .ok (.iadd, 1) := by decide +kernel
theorem dL_law_463 : decode cL_law 463 = .ok (.iaload, 1) := by decide +kernel
theorem dL_law_464 : decode cL_law 464 = .ok (.aload_n 0, 1) := by decide +kernel
theorem dL_law_465 : decode cL_law 465 = .ok (.iload 4, 2) := by decide +kernel
theorem dL_law_467 : decode cL_law 467 = .ok (.iconst 3, 1) := by decide +kernel
theorem dL_law_468 : decode cL_law 468 = .ok (.iadd, 1) := by decide +kernel
theorem dL_law_469 : decode cL_law 469 = .ok (.iaload, 1) := by decide +kernel
theorem dL_law_470 : decode cL_law 470 = .ok (.invokevirtual 51, 3) := by decide +kernel
theorem dL_law_473 : decode cL_law 473 = .ok (.aload_n 2, 1) := by decide +kernel
theorem dL_law_474 : decode cL_law 474 = .ok (.aload_n 0, 1) := by decide +kernel
theorem dL_law_475 : decode cL_law 475 = .ok (.iload 4, 2) := by decide +kernel
theorem dL_law_477 : decode cL_law 477 = .ok (.iconst 1, 1) := by decide +kernel
theorem dL_law_478 : decode cL_law 478 = .ok (.iadd, 1) := by decide +kernel
theorem dL_law_479 : decode cL_law 479 = .ok (.iaload, 1) := by decide +kernel
theorem dL_law_480 : decode cL_law 480 = .ok (.aload_n 0, 1) := by decide +kernel
theorem dL_law_481 : decode cL_law 481 = .ok (.iload 4, 2) := by decide +kernel
theorem dL_law_483 : decode cL_law 483 = .ok (.iconst 2, 1) := by decide +kernel
theorem dL_law_484 : decode cL_law 484 = .ok (.iadd, 1) := by decide +kernel
theorem dL_law_485 : decode cL_law 485 = .ok (.iaload, 1) := by decide +kernel
theorem dL_law_486 : decode cL_law 486 = .ok (.aload_n 0, 1) := by decide +kernel
theorem dL_law_487 : decode cL_law 487 = .ok (.iload 4, 2) := by decide +kernel
theorem dL_law_489 : decode cL_law 489 = .ok (.iconst 3, 1) := by decide +kernel
theorem dL_law_490 : decode cL_law 490 = .ok (.iadd, 1) := by decide +kernel
theorem dL_law_491 : decode cL_law 491 = .ok (.iaload, 1) := by decide +kernel
theorem dL_law_492 : decode cL_law 492 = .ok (.invokevirtual 55, 3) := by decide +kernel
theorem dL_law_495 : decode cL_law 495 = .ok (.if_icmp .eq 1428, 3) := by decide +kernel
theorem dL_law_498 : decode cL_law 498 = .ok (.iconst 0, 1) := by decide +kernel
theorem dL_law_499 : decode cL_law 499 = .ok (.ireturn, 1) := by decide +kernel
theorem dL_law_500 : decode cL_law 500 = .ok (.aload_n 1, 1) := by decide +kernel
theorem dL_law_501 : decode cL_law 501 = .ok (.aload_n 0, 1) := by decide +kernel
theorem dL_law_502 : decode cL_law 502 = .ok (.iload 4, 2) := by decide +kernel
theorem dL_law_504 : decode cL_law 504 = .ok (.iconst 1, 1) := by decide +kernel
theorem dL_law_505 : decode cL_law 505 = .ok (.iadd, 1) := by decide +kernel
theorem dL_law_506 : decode cL_law 506 = .ok (.iaload, 1) := by decide +kernel
theorem dL_law_507 : decode cL_law 507 = .ok (.aload_n 0, 1) := by decide +kernel
theorem dL_law_508 : decode cL_law 508 = .ok (.iload 4, 2) := by decide +kernel
theorem dL_law_510 : decode cL_law 510 = .ok (.iconst 2, 1) := by decide +kernel
theorem dL_law_511 : decode cL_law 511 = .ok (.iadd, 1) := by decide +kernel
theorem dL_law_512 : decode cL_law 512 = .ok (.iaload, 1) := by decide +kernel
theorem dL_law_513 : decode cL_law 513 = .ok (.aload_n 0, 1) := by decide +kernel
theorem dL_law_514 : decode cL_law 514 = .ok (.iload 4, 2) := by decide +kernel
theorem dL_law_516 : decode cL_law 516 = .ok (.iconst 3, 1) := by decide +kernel
theorem dL_law_517 : decode cL_law 517 = .ok (.iadd, 1) := by decide +kernel
theorem dL_law_518 : decode cL_law 518 = .ok (.iaload, 1) := by decide +kernel
theorem dL_law_519 : decode cL_law 519 = .ok (.ifCond .eq 7, 3) := by decide +kernel
theorem dL_law_522 : decode cL_law 522 = .ok (.iconst 1, 1) := by decide +kernel
theorem dL_law_523 : decode cL_law 523 = .ok (.goto 4, 3) := by decide +kernel
theorem dL_law_526 : decode cL_law 526 = .ok (.iconst 0, 1) := by decide +kernel
theorem dL_law_527 : decode cL_law 527 = .ok (.aload_n 0, 1) := by decide +kernel
theorem dL_law_528 : decode cL_law 528 = .ok (.iload 4, 2) := by decide +kernel
theorem dL_law_530 : decode cL_law 530 = .ok (.iconst 4, 1) := by decide +kernel
theorem dL_law_531 : decode cL_law 531 = .ok (.iadd, 1) := by decide +kernel
theorem dL_law_532 : decode cL_law 532 = .ok (.iaload, 1) := by decide +kernel
theorem dL_law_533 : decode cL_law 533 = .ok (.aload_n 0, 1) := by decide +kernel
theorem dL_law_534 : decode cL_law 534 = .ok (.iload 4, 2) := by decide +kernel
theorem dL_law_536 : decode cL_law 536 = .ok (.iconst 5, 1) := by decide +kernel
theorem dL_law_537 : decode cL_law 537 = .ok (.iadd, 1) := by decide +kernel
theorem dL_law_538 : decode cL_law 538 = .ok (.iaload, 1) := by decide +kernel
theorem dL_law_539 : decode cL_law 539 = .ok (.invokevirtual 56, 3) := by decide +kernel
theorem dL_law_542 : decode cL_law 542 = .ok (.aload_n 2, 1) := by decide +kernel
theorem dL_law_543 : decode cL_law 543 = .ok (.aload_n 0, 1) := by decide +kernel
theorem dL_law_544 : decode cL_law 544 = .ok (.iload 4, 2) := by decide +kernel
theorem dL_law_546 : decode cL_law 546 = .ok (.iconst 1, 1) := by decide +kernel
theorem dL_law_547 : decode cL_law 547 = .ok (.iadd, 1) := by decide +kernel
theorem dL_law_548 : decode cL_law 548 = .ok (.iaload, 1) := by decide +kernel
theorem dL_law_549 : decode cL_law 549 = .ok (.aload_n 0, 1) := by decide +kernel
theorem dL_law_550 : decode cL_law 550 = .ok (.iload 4, 2) := by decide +kernel
theorem dL_law_552 : decode cL_law 552 = .ok (.iconst 2, 1) := by decide +kernel
theorem dL_law_553 : decode cL_law 553 = .ok (.iadd, 1) := by decide +kernel
theorem dL_law_554 : decode cL_law 554 = .ok (.iaload, 1) := by decide +kernel
theorem dL_law_555 : decode cL_law 555 = .ok (.aload_n 0, 1) := by decide +kernel
theorem dL_law_556 : decode cL_law 556 = .ok (.iload 4, 2) := by decide +kernel
theorem dL_law_558 : decode cL_law 558 = .ok (.iconst 3, 1) := by decide +kernel
theorem dL_law_559 : decode cL_law 559 = .ok (.iadd, 1) := by decide +kernel
theorem dL_law_560 : decode cL_law 560 = .ok (.iaload, 1) := by decide +kernel
theorem dL_law_561 : decode cL_law 561 = .ok (.ifCond .eq 7, 3) := by decide +kernel
theorem dL_law_564 : decode cL_law 564 = .ok (.iconst 1, 1) := by decide +kernel
theorem dL_law_565 : decode cL_law 565 = .ok (.goto 4, 3) := by decide +kernel
theorem dL_law_568 : decode cL_law 568 = .ok (.iconst 0, 1) := by decide +kernel
theorem dL_law_569 : decode cL_law 569 = .ok (.aload_n 0, 1) := by decide +kernel
theorem dL_law_570 : decode cL_law 570 = .ok (.iload 4, 2) := by decide +kernel
theorem dL_law_572 : decode cL_law 572 = .ok (.iconst 4, 1) := by decide +kernel
theorem dL_law_573 : decode cL_law 573 = .ok (.iadd, 1) := by decide +kernel
theorem dL_law_574 : decode cL_law 574 = .ok (.iaload, 1) := by decide +kernel
theorem dL_law_575 : decode cL_law 575 = .ok (.aload_n 0, 1) := by decide +kernel
theorem dL_law_576 : decode cL_law 576 = .ok (.iload 4, 2) := by decide +kernel
theorem dL_law_578 : decode cL_law 578 = .ok (.iconst 5, 1) := by decide +kernel
theorem dL_law_579 : decode cL_law 579 = .ok (.iadd, 1) := by decide +kernel
theorem dL_law_580 : decode cL_law 580 = .ok (.iaload, 1) := by decide +kernel
theorem dL_law_581 : decode cL_law 581 = .ok (.invokevirtual 60, 3) := by decide +kernel
theorem dL_law_584 : decode cL_law 584 = .ok (.if_icmp .eq 1339, 3) := by decide +kernel
theorem dL_law_587 : decode cL_law 587 = .ok (.iconst 0, 1) := by decide +kernel
theorem dL_law_588 : decode cL_law 588 = .ok (.ireturn, 1) := by decide +kernel
theorem dL_law_589 : decode cL_law 589 = .ok (.aload_n 1, 1) := by decide +kernel
theorem dL_law_590 : decode cL_law 590 = .ok (.aload_n 0, 1) := by decide +kernel
theorem dL_law_591 : decode cL_law 591 = .ok (.iload 4, 2) := by decide +kernel
theorem dL_law_593 : decode cL_law 593 = .ok (.iconst 1, 1) := by decide +kernel
theorem dL_law_594 : decode cL_law 594 = .ok (.iadd, 1) := by decide +kernel
theorem dL_law_595 : decode cL_law 595 = .ok (.iaload, 1) := by decide +kernel
theorem dL_law_596 : decode cL_law 596 = .ok (.aload_n 0, 1) := by decide +kernel
theorem dL_law_597 : decode cL_law 597 = .ok (.iload 4, 2) := by decide +kernel
theorem dL_law_599 : decode cL_law 599 = .ok (.iconst 2, 1) := by decide +kernel
theorem dL_law_600 : decode cL_law 600 = .ok (.iadd, 1) := by decide +kernel
theorem dL_law_601 : decode cL_law 601 = .ok (.iaload, 1) := by decide +kernel
theorem dL_law_602 : decode cL_law 602 = .ok (.aload_n 0, 1) := by decide +kernel
theorem dL_law_603 : decode cL_law 603 = .ok (.iload 4, 2) := by decide +kernel
theorem dL_law_605 : decode cL_law 605 = .ok (.iconst 3, 1) := by decide +kernel
theorem dL_law_606 : decode cL_law 606 = .ok (.iadd, 1) := by decide +kernel
theorem dL_law_607 : decode cL_law 607 = .ok (.iaload, 1) := by decide +kernel
theorem dL_law_608 : decode cL_law 608 = .ok (.invokevirtual 61, 3) := by decide +kernel
theorem dL_law_611 : decode cL_law 611 = .ok (.aload_n 2, 1) := by decide +kernel
theorem dL_law_612 : decode cL_law 612 = .ok (.aload_n 0, 1) := by decide +kernel
theorem dL_law_613 : decode cL_law 613 = .ok (.iload 4, 2) := by decide +kernel
theorem dL_law_615 : decode cL_law 615 = .ok (.iconst 1, 1) := by decide +kernel
theorem dL_law_616 : decode cL_law 616 = .ok (.iadd, 1) := by decide +kernel
theorem dL_law_617 : decode cL_law 617 = .ok (.iaload, 1) := by decide +kernel
theorem dL_law_618 : decode cL_law 618 = .ok (.aload_n 0, 1) := by decide +kernel
theorem dL_law_619 : decode cL_law 619 = .ok (.iload 4, 2) := by decide +kernel
theorem dL_law_621 : decode cL_law 621 = .ok (.iconst 2, 1) := by decide +kernel
theorem dL_law_622 : decode cL_law 622 = .ok (.iadd, 1) := by decide +kernel
theorem dL_law_623 : decode cL_law 623 = .ok (.iaload, 1) := by decide +kernel
theorem dL_law_624 : decode cL_law 624 = .ok (.aload_n 0, 1) := by decide +kernel
theorem dL_law_625 : decode cL_law 625 = .ok (.iload 4, 2) := by decide +kernel
theorem dL_law_627 : decode cL_law 627 = .ok (.iconst 3, 1) := by decide +kernel
theorem dL_law_628 : decode cL_law 628 = .ok (.iadd, 1) := by decide +kernel
theorem dL_law_629 : decode cL_law 629 = .ok (.iaload, 1) := by decide +kernel
theorem dL_law_630 : decode cL_law 630 = .ok (.invokevirtual 64, 3) := by decide +kernel
theorem dL_law_633 : decode cL_law 633 = .ok (.if_icmp .eq 1290, 3) := by decide +kernel
theorem dL_law_636 : decode cL_law 636 = .ok (.iconst 0, 1) := by decide +kernel
theorem dL_law_637 : decode cL_law 637 = .ok (.ireturn, 1) := by decide +kernel
theorem dL_law_638 : decode cL_law 638 = .ok (.aload_n 1, 1) := by decide +kernel
theorem dL_law_639 : decode cL_law 639 = .ok (.aload_n 0, 1) := by decide +kernel
theorem dL_law_640 : decode cL_law 640 = .ok (.iload 4, 2) := by decide +kernel
theorem dL_law_642 : decode cL_law 642 = .ok (.iconst 1, 1) := by decide +kernel
theorem dL_law_643 : decode cL_law 643 = .ok (.iadd, 1) := by decide +kernel
theorem dL_law_644 : decode cL_law 644 = .ok (.iaload, 1) := by decide +kernel
theorem dL_law_645 : decode cL_law 645 = .ok (.aload_n 0, 1) := by decide +kernel
theorem dL_law_646 : decode cL_law 646 = .ok (.iload 4, 2) := by decide +kernel
theorem dL_law_648 : decode cL_law 648 = .ok (.iconst 2, 1) := by decide +kernel
theorem dL_law_649 : decode cL_law 649 = .ok (.iadd, 1) := by decide +kernel
theorem dL_law_650 : decode cL_law 650 = .ok (.iaload, 1) := by decide +kernel
theorem dL_law_651 : decode cL_law 651 = .ok (.aload_n 0, 1) := by decide +kernel
theorem dL_law_652 : decode cL_law 652 = .ok (.iload 4, 2) := by decide +kernel
theorem dL_law_654 : decode cL_law 654 = .ok (.iconst 3, 1) := by decide +kernel
theorem dL_law_655 : decode cL_law 655 = .ok (.iadd, 1) := by decide +kernel
theorem dL_law_656 : decode cL_law 656 = .ok (.iaload, 1) := by decide +kernel
theorem dL_law_657 : decode cL_law 657 = .ok (.invokevirtual 65, 3) := by decide +kernel
theorem dL_law_660 : decode cL_law 660 = .ok (.aload_n 2, 1) := by decide +kernel
theorem dL_law_661 : decode cL_law 661 = .ok (.aload_n 0, 1) := by decide +kernel
theorem dL_law_662 : decode cL_law 662 = .ok (.iload 4, 2) := by decide +kernel
theorem dL_law_664 : decode cL_law 664 = .ok (.iconst 1, 1) := by decide +kernel
theorem dL_law_665 : decode cL_law 665 = .ok (.iadd, 1) := by decide +kernel
theorem dL_law_666 : decode cL_law 666 = .ok (.iaload, 1) := by decide +kernel
theorem dL_law_667 : decode cL_law 667 = .ok (.aload_n 0, 1) := by decide +kernel
theorem dL_law_668 : decode cL_law 668 = .ok (.iload 4, 2) := by decide +kernel
theorem dL_law_670 : decode cL_law 670 = .ok (.iconst 2, 1) := by decide +kernel
theorem dL_law_671 : decode cL_law 671 = .ok (.iadd, 1) := by decide +kernel
theorem dL_law_672 : decode cL_law 672 = .ok (.iaload, 1) := by decide +kernel
theorem dL_law_673 : decode cL_law 673 = .ok (.aload_n 0, 1) := by decide +kernel
theorem dL_law_674 : decode cL_law 674 = .ok (.iload 4, 2) := by decide +kernel
theorem dL_law_676 : decode cL_law 676 = .ok (.iconst 3, 1) := by decide +kernel
theorem dL_law_677 : decode cL_law 677 = .ok (.iadd, 1) := by decide +kernel
theorem dL_law_678 : decode cL_law 678 = .ok (.iaload, 1) := by decide +kernel
theorem dL_law_679 : decode cL_law 679 = .ok (.invokevirtual 69, 3) := by decide +kernel
theorem dL_law_682 : decode cL_law 682 = .ok (.lcmp, 1) := by decide +kernel
theorem dL_law_683 : decode cL_law 683 = .ok (.ifCond .eq 1240, 3) := by decide +kernel
theorem dL_law_686 : decode cL_law 686 = .ok (.iconst 0, 1) := by decide +kernel
theorem dL_law_687 : decode cL_law 687 = .ok (.ireturn, 1) := by decide +kernel
theorem dL_law_688 : decode cL_law 688 = .ok (.aload_n 1, 1) := by decide +kernel
theorem dL_law_689 : decode cL_law 689 = .ok (.aload_n 0, 1) := by decide +kernel
theorem dL_law_690 : decode cL_law 690 = .ok (.iload 4, 2) := by decide +kernel
theorem dL_law_692 : decode cL_law 692 = .ok (.iconst 1, 1) := by decide +kernel
theorem dL_law_693 : decode cL_law 693 = .ok (.iadd, 1) := by decide +kernel
theorem dL_law_694 : decode cL_law 694 = .ok (.iaload, 1) := by decide +kernel
theorem dL_law_695 : decode cL_law 695 = .ok (.aload_n 0, 1) := by decide +kernel
theorem dL_law_696 : decode cL_law 696 = .ok (.iload 4, 2) := by decide +kernel
theorem dL_law_698 : decode cL_law 698 = .ok (.iconst 2, 1) := by decide +kernel
theorem dL_law_699 : decode cL_law 699 = .ok (.iadd, 1) := by decide +kernel
theorem dL_law_700 : decode cL_law 700 = .ok (.iaload, 1) := by decide +kernel
theorem dL_law_701 : decode cL_law 701 = .ok (.invokevirtual 70, 3) := by decide +kernel
theorem dL_law_704 : decode cL_law 704 = .ok (.aload_n 2, 1) := by decide +kernel
theorem dL_law_705 : decode cL_law 705 = .ok (.aload_n 0, 1) := by decide +kernel
theorem dL_law_706 : decode cL_law 706 = .ok (.iload 4, 2) := by decide +kernel
theorem dL_law_708 : decode cL_law 708 = .ok (.iconst 1, 1) := by decide +kernel
theorem dL_law_709 : decode cL_law 709 = .ok (.iadd, 1) := by decide +kernel
theorem dL_law_710 : decode cL_law 710 = .ok (.iaload, 1) := by decide +kernel
theorem dL_law_711 : decode cL_law 711 = .ok (.aload_n 0, 1) := by decide +kernel
theorem dL_law_712 : decode cL_law 712 = .ok (.iload 4, 2) := by decide +kernel
theorem dL_law_714 : decode cL_law 714 = .ok (.iconst 2, 1) := by decide +kernel
theorem dL_law_715 : decode cL_law 715 = .ok (.iadd, 1) := by decide +kernel
theorem dL_law_716 : decode cL_law 716 = .ok (.iaload, 1) := by decide +kernel
theorem dL_law_717 : decode cL_law 717 = .ok (.invokevirtual 73, 3) := by decide +kernel
theorem dL_law_720 : decode cL_law 720 = .ok (.if_icmp .eq 1203, 3) := by decide +kernel
theorem dL_law_723 : decode cL_law 723 = .ok (.iconst 0, 1) := by decide +kernel
theorem dL_law_724 : decode cL_law 724 = .ok (.ireturn, 1) := by decide +kernel
theorem dL_law_725 : decode cL_law 725 = .ok (.aload_n 1, 1) := by decide +kernel
theorem dL_law_726 : decode cL_law 726 = .ok (.aload_n 0, 1) := by decide +kernel
theorem dL_law_727 : decode cL_law 727 = .ok (.iload 4, 2) := by decide +kernel
theorem dL_law_729 : decode cL_law 729 = .ok (.iconst 1, 1) := by decide +kernel
theorem dL_law_730 : decode cL_law 730 = .ok (.iadd, 1) := by decide +kernel
theorem dL_law_731 : decode cL_law 731 = .ok (.iaload, 1) := by decide +kernel
theorem dL_law_732 : decode cL_law 732 = .ok (.aload_n 0, 1) := by decide +kernel
theorem dL_law_733 : decode cL_law 733 = .ok (.iload 4, 2) := by decide +kernel
theorem dL_law_735 : decode cL_law 735 = .ok (.iconst 2, 1) := by decide +kernel
theorem dL_law_736 : decode cL_law 736 = .ok (.iadd, 1) := by decide +kernel
theorem dL_law_737 : decode cL_law 737 = .ok (.iaload, 1) := by decide +kernel
theorem dL_law_738 : decode cL_law 738 = .ok (.invokevirtual 74, 3) := by decide +kernel
theorem dL_law_741 : decode cL_law 741 = .ok (.aload_n 2, 1) := by decide +kernel
theorem dL_law_742 : decode cL_law 742 = .ok (.aload_n 0, 1) := by decide +kernel
theorem dL_law_743 : decode cL_law 743 = .ok (.iload 4, 2) := by decide +kernel
theorem dL_law_745 : decode cL_law 745 = .ok (.iconst 1, 1) := by decide +kernel
theorem dL_law_746 : decode cL_law 746 = .ok (.iadd, 1) := by decide +kernel
theorem dL_law_747 : decode cL_law 747 = .ok (.iaload, 1) := by decide +kernel
theorem dL_law_748 : decode cL_law 748 = .ok (.aload_n 0, 1) := by decide +kernel
theorem dL_law_749 : decode cL_law 749 = .ok (.iload 4, 2) := by decide +kernel
theorem dL_law_751 : decode cL_law 751 = .ok (.iconst 2, 1) := by decide +kernel
theorem dL_law_752 : decode cL_law 752 = .ok (.iadd, 1) := by decide +kernel
theorem dL_law_753 : decode cL_law 753 = .ok (.iaload, 1) := by decide +kernel
theorem dL_law_754 : decode cL_law 754 = .ok (.invokevirtual 77, 3) := by decide +kernel
theorem dL_law_757 : decode cL_law 757 = .ok (.if_icmp .eq 1166, 3) := by decide +kernel
theorem dL_law_760 : decode cL_law 760 = .ok (.iconst 0, 1) := by decide +kernel
theorem dL_law_761 : decode cL_law 761 = .ok (.ireturn, 1) := by decide +kernel
theorem dL_law_762 : decode cL_law 762 = .ok (.aload_n 1, 1) := by decide +kernel
theorem dL_law_763 : decode cL_law 763 = .ok (.aload_n 0, 1) := by decide +kernel
theorem dL_law_764 : decode cL_law 764 = .ok (.iload 4, 2) := by decide +kernel
theorem dL_law_766 : decode cL_law 766 = .ok (.iconst 1, 1) := by decide +kernel
theorem dL_law_767 : decode cL_law 767 = .ok (.iadd, 1) := by decide +kernel
theorem dL_law_768 : decode cL_law 768 = .ok (.iaload, 1) := by decide +kernel
theorem dL_law_769 : decode cL_law 769 = .ok (.aload_n 0, 1) := by decide +kernel
theorem dL_law_770 : decode cL_law 770 = .ok (.iload 4, 2) := by decide +kernel
theorem dL_law_772 : decode cL_law 772 = .ok (.iconst 2, 1) := by decide +kernel
theorem dL_law_773 : decode cL_law 773 = .ok (.iadd, 1) := by decide +kernel
theorem dL_law_774 : decode cL_law 774 = .ok (.iaload, 1) := by decide +kernel
theorem dL_law_775 : decode cL_law 775 = .ok (.aload_n 0, 1) := by decide +kernel
theorem dL_law_776 : decode cL_law 776 = .ok (.iload 4, 2) := by decide +kernel
theorem dL_law_778 : decode cL_law 778 = .ok (.iconst 3, 1) := by decide +kernel
theorem dL_law_779 : decode cL_law 779 = .ok (.iadd, 1) := by decide +kernel
theorem dL_law_780 : decode cL_law 780 = .ok (.iaload, 1) := by decide +kernel
theorem dL_law_781 : decode cL_law 781 = .ok (.invokevirtual 78, 3) := by decide +kernel
theorem dL_law_784 : decode cL_law 784 = .ok (.aload_n 2, 1) := by decide +kernel
theorem dL_law_785 : decode cL_law 785 = .ok (.aload_n 0, 1) := by decide +kernel
theorem dL_law_786 : decode cL_law 786 = .ok (.iload 4, 2) := by decide +kernel
theorem dL_law_788 : decode cL_law 788 = .ok (.iconst 1, 1) := by decide +kernel
theorem dL_law_789 : decode cL_law 789 = .ok (.iadd, 1) := by decide +kernel
theorem dL_law_790 : decode cL_law 790 = .ok (.iaload, 1) := by decide +kernel
theorem dL_law_791 : decode cL_law 791 = .ok (.aload_n 0, 1) := by decide +kernel
theorem dL_law_792 : decode cL_law 792 = .ok (.iload 4, 2) := by decide +kernel
theorem dL_law_794 : decode cL_law 794 = .ok (.iconst 2, 1) := by decide +kernel
theorem dL_law_795 : decode cL_law 795 = .ok (.iadd, 1) := by decide +kernel
theorem dL_law_796 : decode cL_law 796 = .ok (.iaload, 1) := by decide +kernel
theorem dL_law_797 : decode cL_law 797 = .ok (.aload_n 0, 1) := by decide +kernel
theorem dL_law_798 : decode cL_law 798 = .ok (.iload 4, 2) := by decide +kernel
theorem dL_law_800 : decode cL_law 800 = .ok (.iconst 3, 1) := by decide +kernel
theorem dL_law_801 : decode cL_law 801 = .ok (.iadd, 1) := by decide +kernel
theorem dL_law_802 : decode cL_law 802 = .ok (.iaload, 1) := by decide +kernel
theorem dL_law_803 : decode cL_law 803 = .ok (.invokevirtual 81, 3) := by decide +kernel
theorem dL_law_806 : decode cL_law 806 = .ok (.if_icmp .eq 1117, 3) := by decide +kernel
theorem dL_law_809 : decode cL_law 809 = .ok (.iconst 0, 1) := by decide +kernel
theorem dL_law_810 : decode cL_law 810 = .ok (.ireturn, 1) := by decide +kernel
theorem dL_law_811 : decode cL_law 811 = .ok (.aload_n 1, 1) := by decide +kernel
theorem dL_law_812 : decode cL_law 812 = .ok (.aload_n 0, 1) := by decide +kernel
theorem dL_law_813 : decode cL_law 813 = .ok (.iload 4, 2) := by decide +kernel
theorem dL_law_815 : decode cL_law 815 = .ok (.iconst 1, 1) := by decide +kernel
theorem dL_law_816 : decode cL_law 816 = .ok (.iadd, 1) := by decide +kernel
theorem dL_law_817 : decode cL_law 817 = .ok (.iaload, 1) := by decide +kernel
theorem dL_law_818 : decode cL_law 818 = .ok (.aload_n 0, 1) := by decide +kernel
theorem dL_law_819 : decode cL_law 819 = .ok (.iload 4, 2) := by decide +kernel
theorem dL_law_821 : decode cL_law 821 = .ok (.iconst 2, 1) := by decide +kernel
theorem dL_law_822 : decode cL_law 822 = .ok (.iadd, 1) := by decide +kernel
theorem dL_law_823 : decode cL_law 823 = .ok (.iaload, 1) := by decide +kernel
theorem dL_law_824 : decode cL_law 824 = .ok (.aload_n 0, 1) := by decide +kernel
theorem dL_law_825 : decode cL_law 825 = .ok (.iload 4, 2) := by decide +kernel
theorem dL_law_827 : decode cL_law 827 = .ok (.iconst 3, 1) := by decide +kernel
theorem dL_law_828 : decode cL_law 828 = .ok (.iadd, 1) := by decide +kernel
theorem dL_law_829 : decode cL_law 829 = .ok (.iaload, 1) := by decide +kernel
theorem dL_law_830 : decode cL_law 830 = .ok (.invokevirtual 82, 3) := by decide +kernel
theorem dL_law_833 : decode cL_law 833 = .ok (.aload_n 2, 1) := by decide +kernel
theorem dL_law_834 : decode cL_law 834 = .ok (.aload_n 0, 1) := by decide +kernel
theorem dL_law_835 : decode cL_law 835 = .ok (.iload 4, 2) := by decide +kernel
theorem dL_law_837 : decode cL_law 837 = .ok (.iconst 1, 1) := by decide +kernel
theorem dL_law_838 : decode cL_law 838 = .ok (.iadd, 1) := by decide +kernel
theorem dL_law_839 : decode cL_law 839 = .ok (.iaload, 1) := by decide +kernel
theorem dL_law_840 : decode cL_law 840 = .ok (.aload_n 0, 1) := by decide +kernel
theorem dL_law_841 : decode cL_law 841 = .ok (.iload 4, 2) := by decide +kernel
theorem dL_law_843 : decode cL_law 843 = .ok (.iconst 2, 1) := by decide +kernel
theorem dL_law_844 : decode cL_law 844 = .ok (.iadd, 1) := by decide +kernel
theorem dL_law_845 : decode cL_law 845 = .ok (.iaload, 1) := by decide +kernel
theorem dL_law_846 : decode cL_law 846 = .ok (.aload_n 0, 1) := by decide +kernel
theorem dL_law_847 : decode cL_law 847 = .ok (.iload 4, 2) := by decide +kernel
theorem dL_law_849 : decode cL_law 849 = .ok (.iconst 3, 1) := by decide +kernel
theorem dL_law_850 : decode cL_law 850 = .ok (.iadd, 1) := by decide +kernel
theorem dL_law_851 : decode cL_law 851 = .ok (.iaload, 1) := by decide +kernel
theorem dL_law_852 : decode cL_law 852 = .ok (.invokevirtual 85, 3) := by decide +kernel
theorem dL_law_855 : decode cL_law 855 = .ok (.if_icmp .eq 1068, 3) := by decide +kernel
theorem dL_law_858 : decode cL_law 858 = .ok (.iconst 0, 1) := by decide +kernel
theorem dL_law_859 : decode cL_law 859 = .ok (.ireturn, 1) := by decide +kernel
theorem dL_law_860 : decode cL_law 860 = .ok (.aload_n 1, 1) := by decide +kernel
theorem dL_law_861 : decode cL_law 861 = .ok (.aload_n 0, 1) := by decide +kernel
theorem dL_law_862 : decode cL_law 862 = .ok (.iload 4, 2) := by decide +kernel
theorem dL_law_864 : decode cL_law 864 = .ok (.iconst 1, 1) := by decide +kernel
theorem dL_law_865 : decode cL_law 865 = .ok (.iadd, 1) := by decide +kernel
theorem dL_law_866 : decode cL_law 866 = .ok (.iaload, 1) := by decide +kernel
theorem dL_law_867 : decode cL_law 867 = .ok (.aload_n 0, 1) := by decide +kernel
theorem dL_law_868 : decode cL_law 868 = .ok (.iload 4, 2) := by decide +kernel
theorem dL_law_870 : decode cL_law 870 = .ok (.iconst 2, 1) := by decide +kernel
theorem dL_law_871 : decode cL_law 871 = .ok (.iadd, 1) := by decide +kernel
theorem dL_law_872 : decode cL_law 872 = .ok (.iaload, 1) := by decide +kernel
theorem dL_law_873 : decode cL_law 873 = .ok (.invokevirtual 86, 3) := by decide +kernel
theorem dL_law_876 : decode cL_law 876 = .ok (.aload_n 2, 1) := by decide +kernel
theorem dL_law_877 : decode cL_law 877 = .ok (.aload_n 0, 1) := by decide +kernel
theorem dL_law_878 : decode cL_law 878 = .ok (.iload 4, 2) := by decide +kernel
theorem dL_law_880 : decode cL_law 880 = .ok (.iconst 1, 1) := by decide +kernel
theorem dL_law_881 : decode cL_law 881 = .ok (.iadd, 1) := by decide +kernel
theorem dL_law_882 : decode cL_law 882 = .ok (.iaload, 1) := by decide +kernel
theorem dL_law_883 : decode cL_law 883 = .ok (.aload_n 0, 1) := by decide +kernel
theorem dL_law_884 : decode cL_law 884 = .ok (.iload 4, 2) := by decide +kernel
theorem dL_law_886 : decode cL_law 886 = .ok (.iconst 2, 1) := by decide +kernel
theorem dL_law_887 : decode cL_law 887 = .ok (.iadd, 1) := by decide +kernel
theorem dL_law_888 : decode cL_law 888 = .ok (.iaload, 1) := by decide +kernel
theorem dL_law_889 : decode cL_law 889 = .ok (.invokevirtual 89, 3) := by decide +kernel
theorem dL_law_892 : decode cL_law 892 = .ok (.if_icmp .eq 1031, 3) := by decide +kernel
theorem dL_law_895 : decode cL_law 895 = .ok (.iconst 0, 1) := by decide +kernel
theorem dL_law_896 : decode cL_law 896 = .ok (.ireturn, 1) := by decide +kernel
theorem dL_law_897 : decode cL_law 897 = .ok (.aload_n 1, 1) := by decide +kernel
theorem dL_law_898 : decode cL_law 898 = .ok (.aload_n 0, 1) := by decide +kernel
theorem dL_law_899 : decode cL_law 899 = .ok (.iload 4, 2) := by decide +kernel
theorem dL_law_901 : decode cL_law 901 = .ok (.iconst 1, 1) := by decide +kernel
theorem dL_law_902 : decode cL_law 902 = .ok (.iadd, 1) := by decide +kernel
theorem dL_law_903 : decode cL_law 903 = .ok (.iaload, 1) := by decide +kernel
theorem dL_law_904 : decode cL_law 904 = .ok (.aload_n 0, 1) := by decide +kernel
theorem dL_law_905 : decode cL_law 905 = .ok (.iload 4, 2) := by decide +kernel
theorem dL_law_907 : decode cL_law 907 = .ok (.iconst 2, 1) := by decide +kernel
theorem dL_law_908 : decode cL_law 908 = .ok (.iadd, 1) := by decide +kernel
theorem dL_law_909 : decode cL_law 909 = .ok (.iaload, 1) := by decide +kernel
theorem dL_law_910 : decode cL_law 910 = .ok (.invokevirtual 90, 3) := by decide +kernel
theorem dL_law_913 : decode cL_law 913 = .ok (.aload_n 2, 1) := by decide +kernel
theorem dL_law_914 : decode cL_law 914 = .ok (.aload_n 0, 1) := by decide +kernel
theorem dL_law_915 : decode cL_law 915 = .ok (.iload 4, 2) := by decide +kernel
theorem dL_law_917 : decode cL_law 917 = .ok (.iconst 1, 1) := by decide +kernel
theorem dL_law_918 : decode cL_law 918 = .ok (.iadd, 1) := by decide +kernel
theorem dL_law_919 : decode cL_law 919 = .ok (.iaload, 1) := by decide +kernel
theorem dL_law_920 : decode cL_law 920 = .ok (.aload_n 0, 1) := by decide +kernel
theorem dL_law_921 : decode cL_law 921 = .ok (.iload 4, 2) := by decide +kernel
theorem dL_law_923 : decode cL_law 923 = .ok (.iconst 2, 1) := by decide +kernel
theorem dL_law_924 : decode cL_law 924 = .ok (.iadd, 1) := by decide +kernel
theorem dL_law_925 : decode cL_law 925 = .ok (.iaload, 1) := by decide +kernel
theorem dL_law_926 : decode cL_law 926 = .ok (.invokevirtual 93, 3) := by decide +kernel
theorem dL_law_929 : decode cL_law 929 = .ok (.if_icmp .eq 994, 3) := by decide +kernel
theorem dL_law_932 : decode cL_law 932 = .ok (.iconst 0, 1) := by decide +kernel
theorem dL_law_933 : decode cL_law 933 = .ok (.ireturn, 1) := by decide +kernel
theorem dL_law_934 : decode cL_law 934 = .ok (.aload_n 1, 1) := by decide +kernel
theorem dL_law_935 : decode cL_law 935 = .ok (.aload_n 0, 1) := by decide +kernel
theorem dL_law_936 : decode cL_law 936 = .ok (.iload 4, 2) := by decide +kernel
theorem dL_law_938 : decode cL_law 938 = .ok (.iconst 1, 1) := by decide +kernel
theorem dL_law_939 : decode cL_law 939 = .ok (.iadd, 1) := by decide +kernel
theorem dL_law_940 : decode cL_law 940 = .ok (.iaload, 1) := by decide +kernel
theorem dL_law_941 : decode cL_law 941 = .ok (.aload_n 0, 1) := by decide +kernel
theorem dL_law_942 : decode cL_law 942 = .ok (.iload 4, 2) := by decide +kernel
theorem dL_law_944 : decode cL_law 944 = .ok (.iconst 2, 1) := by decide +kernel
theorem dL_law_945 : decode cL_law 945 = .ok (.iadd, 1) := by decide +kernel
theorem dL_law_946 : decode cL_law 946 = .ok (.iaload, 1) := by decide +kernel
theorem dL_law_947 : decode cL_law 947 = .ok (.aload_n 0, 1) := by decide +kernel
theorem dL_law_948 : decode cL_law 948 = .ok (.iload 4, 2) := by decide +kernel
theorem dL_law_950 : decode cL_law 950 = .ok (.iconst 3, 1) := by decide +kernel
theorem dL_law_951 : decode cL_law 951 = .ok (.iadd, 1) := by decide +kernel
theorem dL_law_952 : decode cL_law 952 = .ok (.iaload, 1) := by decide +kernel
theorem dL_law_953 : decode cL_law 953 = .ok (.invokevirtual 94, 3) := by decide +kernel
theorem dL_law_956 : decode cL_law 956 = .ok (.aload_n 2, 1) := by decide +kernel
theorem dL_law_957 : decode cL_law 957 = .ok (.aload_n 0, 1) := by decide +kernel
theorem dL_law_958 : decode cL_law 958 = .ok (.iload 4, 2) := by decide +kernel
theorem dL_law_960 : decode cL_law 960 = .ok (.iconst 1, 1) := by decide +kernel
theorem dL_law_961 : decode cL_law 961 = .ok (.iadd, 1) := by decide +kernel
theorem dL_law_962 : decode cL_law 962 = .ok (.iaload, 1) := by decide +kernel
theorem dL_law_963 : decode cL_law 963 = .ok (.aload_n 0, 1) := by decide +kernel
theorem dL_law_964 : decode cL_law 964 = .ok (.iload 4, 2) := by decide +kernel
theorem dL_law_966 : decode cL_law 966 = .ok (.iconst 2, 1) := by decide +kernel
theorem dL_law_967 : decode cL_law 967 = .ok (.iadd, 1) := by decide +kernel
theorem dL_law_968 : decode cL_law 968 = .ok (.iaload, 1) := by decide +kernel
theorem dL_law_969 : decode cL_law 969 = .ok (.aload_n 0, 1) := by decide +kernel
theorem dL_law_970 : decode cL_law 970 = .ok (.iload 4, 2) := by decide +kernel
theorem dL_law_972 : decode cL_law 972 = .ok (.iconst 3, 1) := by decide +kernel
theorem dL_law_973 : decode cL_law 973 = .ok (.iadd, 1) := by decide +kernel
theorem dL_law_974 : decode cL_law 974 = .ok (.iaload, 1) := by decide +kernel
theorem dL_law_975 : decode cL_law 975 = .ok (.invokevirtual 97, 3) := by decide +kernel
theorem dL_law_978 : decode cL_law 978 = .ok (.if_icmp .eq 945, 3) := by decide +kernel
theorem dL_law_981 : decode cL_law 981 = .ok (.iconst 0, 1) := by decide +kernel
theorem dL_law_982 : decode cL_law 982 = .ok (.ireturn, 1) := by decide +kernel
theorem dL_law_983 : decode cL_law 983 = .ok (.aload_n 1, 1) := by decide +kernel
theorem dL_law_984 : decode cL_law 984 = .ok (.aload_n 0, 1) := by decide +kernel
theorem dL_law_985 : decode cL_law 985 = .ok (.iload 4, 2) := by decide +kernel
theorem dL_law_987 : decode cL_law 987 = .ok (.iconst 1, 1) := by decide +kernel
theorem dL_law_988 : decode cL_law 988 = .ok (.iadd, 1) := by decide +kernel
theorem dL_law_989 : decode cL_law 989 = .ok (.iaload, 1) := by decide +kernel
theorem dL_law_990 : decode cL_law 990 = .ok (.aload_n 0, 1) := by decide +kernel
theorem dL_law_991 : decode cL_law 991 = .ok (.iload 4, 2) := by decide +kernel
theorem dL_law_993 : decode cL_law 993 = .ok (.iconst 2, 1) := by decide +kernel
theorem dL_law_994 : decode cL_law 994 = .ok (.iadd, 1) := by decide +kernel
theorem dL_law_995 : decode cL_law 995 = .ok (.iaload, 1) := by decide +kernel
theorem dL_law_996 : decode cL_law 996 = .ok (.aload_n 0, 1) := by decide +kernel
theorem dL_law_997 : decode cL_law 997 = .ok (.iload 4, 2) := by decide +kernel
theorem dL_law_999 : decode cL_law 999 = .ok (.iconst 3, 1) := by decide +kernel
theorem dL_law_1000 : decode cL_law 1000 = .ok (.iadd, 1) := by decide +kernel
theorem dL_law_1001 : decode cL_law 1001 = .ok (.iaload, 1) := by decide +kernel
theorem dL_law_1002 : decode cL_law 1002 = .ok (.invokevirtual 98, 3) := by decide +kernel
theorem dL_law_1005 : decode cL_law 1005 = .ok (.aload_n 2, 1) := by decide +kernel
theorem dL_law_1006 : decode cL_law 1006 = .ok (.aload_n 0, 1) := by decide +kernel
theorem dL_law_1007 : decode cL_law 1007 = .ok (.iload 4, 2) := by decide +kernel
theorem dL_law_1009 : decode cL_law 1009 = .ok (.iconst 1, 1) := by decide +kernel
theorem dL_law_1010 : decode cL_law 1010 = .ok (.iadd, 1) := by decide +kernel
theorem dL_law_1011 : decode cL_law 1011 = .ok (.iaload, 1) := by decide +kernel
theorem dL_law_1012 : decode cL_law 1012 = .ok (.aload_n 0, 1) := by decide +kernel
theorem dL_law_1013 : decode cL_law 1013 = .ok (.iload 4, 2) := by decide +kernel
theorem dL_law_1015 : decode cL_law 1015 = .ok (.iconst 2, 1) := by decide +kernel
theorem dL_law_1016 : decode cL_law 1016 = .ok (.iadd, 1) := by decide +kernel
theorem dL_law_1017 : decode cL_law 1017 = .ok (.iaload, 1) := by decide +kernel
theorem dL_law_1018 : decode cL_law 1018 = .ok (.aload_n 0, 1) := by decide +kernel
theorem dL_law_1019 : decode cL_law 1019 = .ok (.iload 4, 2) := by decide +kernel
theorem dL_law_1021 : decode cL_law 1021 = .ok (.iconst 3, 1) := by decide +kernel
theorem dL_law_1022 : decode cL_law 1022 = .ok (.iadd, 1) := by decide +kernel
theorem dL_law_1023 : decode cL_law 1023 = .ok (.iaload, 1) := by decide +kernel
theorem dL_law_1024 : decode cL_law 1024 = .ok (.invokevirtual 101, 3) := by decide +kernel
theorem dL_law_1027 : decode cL_law 1027 = .ok (.if_icmp .eq 896, 3) := by decide +kernel
theorem dL_law_1030 : decode cL_law 1030 = .ok (.iconst 0, 1) := by decide +kernel
theorem dL_law_1031 : decode cL_law 1031 = .ok (.ireturn, 1) := by decide +kernel
theorem dL_law_1032 : decode cL_law 1032 = .ok (.aload_n 1, 1) := by decide +kernel
theorem dL_law_1033 : decode cL_law 1033 = .ok (.aload_n 0, 1) := by decide +kernel
theorem dL_law_1034 : decode cL_law 1034 = .ok (.iload 4, 2) := by decide +kernel
theorem dL_law_1036 : decode cL_law 1036 = .ok (.iconst 1, 1) := by decide +kernel
theorem dL_law_1037 : decode cL_law 1037 = .ok (.iadd, 1) := by decide +kernel
theorem dL_law_1038 : decode cL_law 1038 = .ok (.iaload, 1) := by decide +kernel
theorem dL_law_1039 : decode cL_law 1039 = .ok (.aload_n 0, 1) := by decide +kernel
theorem dL_law_1040 : decode cL_law 1040 = .ok (.iload 4, 2) := by decide +kernel
theorem dL_law_1042 : decode cL_law 1042 = .ok (.iconst 2, 1) := by decide +kernel
theorem dL_law_1043 : decode cL_law 1043 = .ok (.iadd, 1) := by decide +kernel
theorem dL_law_1044 : decode cL_law 1044 = .ok (.iaload, 1) := by decide +kernel
theorem dL_law_1045 : decode cL_law 1045 = .ok (.aload_n 0, 1) := by decide +kernel
theorem dL_law_1046 : decode cL_law 1046 = .ok (.iload 4, 2) := by decide +kernel
theorem dL_law_1048 : decode cL_law 1048 = .ok (.iconst 3, 1) := by decide +kernel
theorem dL_law_1049 : decode cL_law 1049 = .ok (.iadd, 1) := by decide +kernel
theorem dL_law_1050 : decode cL_law 1050 = .ok (.iaload, 1) := by decide +kernel
theorem dL_law_1051 : decode cL_law 1051 = .ok (.invokevirtual 102, 3) := by decide +kernel
theorem dL_law_1054 : decode cL_law 1054 = .ok (.aload_n 2, 1) := by decide +kernel
theorem dL_law_1055 : decode cL_law 1055 = .ok (.aload_n 0, 1) := by decide +kernel
theorem dL_law_1056 : decode cL_law 1056 = .ok (.iload 4, 2) := by decide +kernel
theorem dL_law_1058 : decode cL_law 1058 = .ok (.iconst 1, 1) := by decide +kernel
theorem dL_law_1059 : decode cL_law 1059 = .ok (.iadd, 1) := by decide +kernel
theorem dL_law_1060 : decode cL_law 1060 = .ok (.iaload, 1) := by decide +kernel
theorem dL_law_1061 : decode cL_law 1061 = .ok (.aload_n 0, 1) := by decide +kernel
theorem dL_law_1062 : decode cL_law 1062 = .ok (.iload 4, 2) := by decide +kernel
theorem dL_law_1064 : decode cL_law 1064 = .ok (.iconst 2, 1) := by decide +kernel
theorem dL_law_1065 : decode cL_law 1065 = .ok (.iadd, 1) := by decide +kernel
theorem dL_law_1066 : decode cL_law 1066 = .ok (.iaload, 1) := by decide +kernel
theorem dL_law_1067 : decode cL_law 1067 = .ok (.aload_n 0, 1) := by decide +kernel
theorem dL_law_1068 : decode cL_law 1068 = .ok (.iload 4, 2) := by decide +kernel
theorem dL_law_1070 : decode cL_law 1070 = .ok (.iconst 3, 1) := by decide +kernel
theorem dL_law_1071 : decode cL_law 1071 = .ok (.iadd, 1) := by decide +kernel
theorem dL_law_1072 : decode cL_law 1072 = .ok (.iaload, 1) := by decide +kernel
theorem dL_law_1073 : decode cL_law 1073 = .ok (.invokevirtual 105, 3) := by decide +kernel
theorem dL_law_1076 : decode cL_law 1076 = .ok (.if_icmp .eq 847, 3) := by decide +kernel
theorem dL_law_1079 : decode cL_law 1079 = .ok (.iconst 0, 1) := by decide +kernel
theorem dL_law_1080 : decode cL_law 1080 = .ok (.ireturn, 1) := by decide +kernel
theorem dL_law_1081 : decode cL_law 1081 = .ok (.aload_n 1, 1) := by decide +kernel
theorem dL_law_1082 : decode cL_law 1082 = .ok (.aload_n 0, 1) := by decide +kernel
theorem dL_law_1083 : decode cL_law 1083 = .ok (.iload 4, 2) := by decide +kernel
theorem dL_law_1085 : decode cL_law 1085 = .ok (.iconst 1, 1) := by decide +kernel
theorem dL_law_1086 : decode cL_law 1086 = .ok (.iadd, 1) := by decide +kernel
theorem dL_law_1087 : decode cL_law 1087 = .ok (.iaload, 1) := by decide +kernel
theorem dL_law_1088 : decode cL_law 1088 = .ok (.aload_n 0, 1) := by decide +kernel
theorem dL_law_1089 : decode cL_law 1089 = .ok (.iload 4, 2) := by decide +kernel
theorem dL_law_1091 : decode cL_law 1091 = .ok (.iconst 2, 1) := by decide +kernel
theorem dL_law_1092 : decode cL_law 1092 = .ok (.iadd, 1) := by decide +kernel
theorem dL_law_1093 : decode cL_law 1093 = .ok (.iaload, 1) := by decide +kernel
theorem dL_law_1094 : decode cL_law 1094 = .ok (.aload_n 0, 1) := by decide +kernel
theorem dL_law_1095 : decode cL_law 1095 = .ok (.iload 4, 2) := by decide +kernel
theorem dL_law_1097 : decode cL_law 1097 = .ok (.iconst 3, 1) := by decide +kernel
theorem dL_law_1098 : decode cL_law 1098 = .ok (.iadd, 1) := by decide +kernel
theorem dL_law_1099 : decode cL_law 1099 = .ok (.iaload, 1) := by decide +kernel
theorem dL_law_1100 : decode cL_law 1100 = .ok (.invokevirtual 106, 3) := by decide +kernel
theorem dL_law_1103 : decode cL_law 1103 = .ok (.aload_n 2, 1) := by decide +kernel
theorem dL_law_1104 : decode cL_law 1104 = .ok (.aload_n 0, 1) := by decide +kernel
theorem dL_law_1105 : decode cL_law 1105 = .ok (.iload 4, 2) := by decide +kernel
theorem dL_law_1107 : decode cL_law 1107 = .ok (.iconst 1, 1) := by decide +kernel
theorem dL_law_1108 : decode cL_law 1108 = .ok (.iadd, 1) := by decide +kernel
theorem dL_law_1109 : decode cL_law 1109 = .ok (.iaload, 1) := by decide +kernel
theorem dL_law_1110 : decode cL_law 1110 = .ok (.aload_n 0, 1) := by decide +kernel
theorem dL_law_1111 : decode cL_law 1111 = .ok (.iload 4, 2) := by decide +kernel
theorem dL_law_1113 : decode cL_law 1113 = .ok (.iconst 2, 1) := by decide +kernel
theorem dL_law_1114 : decode cL_law 1114 = .ok (.iadd, 1) := by decide +kernel
theorem dL_law_1115 : decode cL_law 1115 = .ok (.iaload, 1) := by decide +kernel
theorem dL_law_1116 : decode cL_law 1116 = .ok (.aload_n 0, 1) := by decide +kernel
theorem dL_law_1117 : decode cL_law 1117 = .ok (.iload 4, 2) := by decide +kernel
theorem dL_law_1119 : decode cL_law 1119 = .ok (.iconst 3, 1) := by decide +kernel
theorem dL_law_1120 : decode cL_law 1120 = .ok (.iadd, 1) := by decide +kernel
theorem dL_law_1121 : decode cL_law 1121 = .ok (.iaload, 1) := by decide +kernel
theorem dL_law_1122 : decode cL_law 1122 = .ok (.invokevirtual 109, 3) := by decide +kernel
theorem dL_law_1125 : decode cL_law 1125 = .ok (.if_icmp .eq 798, 3) := by decide +kernel
theorem dL_law_1128 : decode cL_law 1128 = .ok (.iconst 0, 1) := by decide +kernel
theorem dL_law_1129 : decode cL_law 1129 = .ok (.ireturn, 1) := by decide +kernel
theorem dL_law_1130 : decode cL_law 1130 = .ok (.aload_n 1, 1) := by decide +kernel
theorem dL_law_1131 : decode cL_law 1131 = .ok (.aload_n 0, 1) := by decide +kernel
theorem dL_law_1132 : decode cL_law 1132 = .ok (.iload 4, 2) := by decide +kernel
theorem dL_law_1134 : decode cL_law 1134 = .ok (.iconst 1, 1) := by decide +kernel
theorem dL_law_1135 : decode cL_law 1135 = .ok (.iadd, 1) := by decide +kernel
theorem dL_law_1136 : decode cL_law 1136 = .ok (.iaload, 1) := by decide +kernel
theorem dL_law_1137 : decode cL_law 1137 = .ok (.aload_n 0, 1) := by decide +kernel
theorem dL_law_1138 : decode cL_law 1138 = .ok (.iload 4, 2) := by decide +kernel
theorem dL_law_1140 : decode cL_law 1140 = .ok (.iconst 2, 1) := by decide +kernel
theorem dL_law_1141 : decode cL_law 1141 = .ok (.iadd, 1) := by decide +kernel
theorem dL_law_1142 : decode cL_law 1142 = .ok (.iaload, 1) := by decide +kernel
theorem dL_law_1143 : decode cL_law 1143 = .ok (.aload_n 0, 1) := by decide +kernel
theorem dL_law_1144 : decode cL_law 1144 = .ok (.iload 4, 2) := by decide +kernel
theorem dL_law_1146 : decode cL_law 1146 = .ok (.iconst 3, 1) := by decide +kernel
theorem dL_law_1147 : decode cL_law 1147 = .ok (.iadd, 1) := by decide +kernel
theorem dL_law_1148 : decode cL_law 1148 = .ok (.iaload, 1) := by decide +kernel
theorem dL_law_1149 : decode cL_law 1149 = .ok (.aload_n 0, 1) := by decide +kernel
theorem dL_law_1150 : decode cL_law 1150 = .ok (.iload 4, 2) := by decide +kernel
theorem dL_law_1152 : decode cL_law 1152 = .ok (.iconst 4, 1) := by decide +kernel
theorem dL_law_1153 : decode cL_law 1153 = .ok (.iadd, 1) := by decide +kernel
theorem dL_law_1154 : decode cL_law 1154 = .ok (.iaload, 1) := by decide +kernel
theorem dL_law_1155 : decode cL_law 1155 = .ok (.invokevirtual 110, 3) := by decide +kernel
theorem dL_law_1158 : decode cL_law 1158 = .ok (.aload_n 2, 1) := by decide +kernel
theorem dL_law_1159 : decode cL_law 1159 = .ok (.aload_n 0, 1) := by decide +kernel
theorem dL_law_1160 : decode cL_law 1160 = .ok (.iload 4, 2) := by decide +kernel
theorem dL_law_1162 : decode cL_law 1162 = .ok (.iconst 1, 1) := by decide +kernel
theorem dL_law_1163 : decode cL_law 1163 = .ok (.iadd, 1) := by decide +kernel
theorem dL_law_1164 : decode cL_law 1164 = .ok (.iaload, 1) := by decide +kernel
theorem dL_law_1165 : decode cL_law 1165 = .ok (.aload_n 0, 1) := by decide +kernel
theorem dL_law_1166 : decode cL_law 1166 = .ok (.iload 4, 2) := by decide +kernel
theorem dL_law_1168 : decode cL_law 1168 = .ok (.iconst 2, 1) := by decide +kernel
theorem dL_law_1169 : decode cL_law 1169 = .ok (.iadd, 1) := by decide +kernel
theorem dL_law_1170 : decode cL_law 1170 = .ok (.iaload, 1) := by decide +kernel
theorem dL_law_1171 : decode cL_law 1171 = .ok (.aload_n 0, 1) := by decide +kernel
theorem dL_law_1172 : decode cL_law 1172 = .ok (.iload 4, 2) := by decide +kernel
theorem dL_law_1174 : decode cL_law 1174 = .ok (.iconst 3, 1) := by decide +kernel
theorem dL_law_1175 : decode cL_law 1175 = .ok (.iadd, 1) := by decide +kernel
theorem dL_law_1176 : decode cL_law 1176 = .ok (.iaload, 1) := by decide +kernel
theorem dL_law_1177 : decode cL_law 1177 = .ok (.aload_n 0, 1) := by decide +kernel
theorem dL_law_1178 : decode cL_law 1178 = .ok (.iload 4, 2) := by decide +kernel
theorem dL_law_1180 : decode cL_law 1180 = .ok (.iconst 4, 1) := by decide +kernel
theorem dL_law_1181 : decode cL_law 1181 = .ok (.iadd, 1) := by decide +kernel
theorem dL_law_1182 : decode cL_law 1182 = .ok (.iaload, 1) := by decide +kernel
theorem dL_law_1183 : decode cL_law 1183 = .ok (.invokevirtual 114, 3) := by decide +kernel
theorem dL_law_1186 : decode cL_law 1186 = .ok (.if_icmp .eq 737, 3) := by decide +kernel
theorem dL_law_1189 : decode cL_law 1189 = .ok (.iconst 0, 1) := by decide +kernel
theorem dL_law_1190 : decode cL_law 1190 = .ok (.ireturn, 1) := by decide +kernel
theorem dL_law_1191 : decode cL_law 1191 = .ok (.aload_n 1, 1) := by decide +kernel
theorem dL_law_1192 : decode cL_law 1192 = .ok (.aload_n 0, 1) := by decide +kernel
theorem dL_law_1193 : decode cL_law 1193 = .ok (.iload 4, 2) := by decide +kernel
theorem dL_law_1195 : decode cL_law 1195 = .ok (.iconst 1, 1) := by decide +kernel
theorem dL_law_1196 : decode cL_law 1196 = .ok (.iadd, 1) := by decide +kernel
theorem dL_law_1197 : decode cL_law 1197 = .ok (.iaload, 1) := by decide +kernel
theorem dL_law_1198 : decode cL_law 1198 = .ok (.aload_n 0, 1) := by decide +kernel
theorem dL_law_1199 : decode cL_law 1199 = .ok (.iload 4, 2) := by decide +kernel
theorem dL_law_1201 : decode cL_law 1201 = .ok (.iconst 2, 1) := by decide +kernel
theorem dL_law_1202 : decode cL_law 1202 = .ok (.iadd, 1) := by decide +kernel
theorem dL_law_1203 : decode cL_law 1203 = .ok (.iaload, 1) := by decide +kernel
theorem dL_law_1204 : decode cL_law 1204 = .ok (.invokevirtual 115, 3) := by decide +kernel
theorem dL_law_1207 : decode cL_law 1207 = .ok (.aload_n 2, 1) := by decide +kernel
theorem dL_law_1208 : decode cL_law 1208 = .ok (.aload_n 0, 1) := by decide +kernel
theorem dL_law_1209 : decode cL_law 1209 = .ok (.iload 4, 2) := by decide +kernel
theorem dL_law_1211 : decode cL_law 1211 = .ok (.iconst 1, 1) := by decide +kernel
theorem dL_law_1212 : decode cL_law 1212 = .ok (.iadd, 1) := by decide +kernel
theorem dL_law_1213 : decode cL_law 1213 = .ok (.iaload, 1) := by decide +kernel
theorem dL_law_1214 : decode cL_law 1214 = .ok (.aload_n 0, 1) := by decide +kernel
theorem dL_law_1215 : decode cL_law 1215 = .ok (.iload 4, 2) := by decide +kernel
theorem dL_law_1217 : decode cL_law 1217 = .ok (.iconst 2, 1) := by decide +kernel
theorem dL_law_1218 : decode cL_law 1218 = .ok (.iadd, 1) := by decide +kernel
theorem dL_law_1219 : decode cL_law 1219 = .ok (.iaload, 1) := by decide +kernel
theorem dL_law_1220 : decode cL_law 1220 = .ok (.invokevirtual 118, 3) := by decide +kernel
theorem dL_law_1223 : decode cL_law 1223 = .ok (.if_icmp .eq 700, 3) := by decide +kernel
theorem dL_law_1226 : decode cL_law 1226 = .ok (.iconst 0, 1) := by decide +kernel
theorem dL_law_1227 : decode cL_law 1227 = .ok (.ireturn, 1) := by decide +kernel
theorem dL_law_1228 : decode cL_law 1228 = .ok (.aload_n 1, 1) := by decide +kernel
theorem dL_law_1229 : decode cL_law 1229 = .ok (.aload_n 0, 1) := by decide +kernel
theorem dL_law_1230 : decode cL_law 1230 = .ok (.iload 4, 2) := by decide +kernel
theorem dL_law_1232 : decode cL_law 1232 = .ok (.iconst 1, 1) := by decide +kernel
theorem dL_law_1233 : decode cL_law 1233 = .ok (.iadd, 1) := by decide +kernel
theorem dL_law_1234 : decode cL_law 1234 = .ok (.iaload, 1) := by decide +kernel
theorem dL_law_1235 : decode cL_law 1235 = .ok (.aload_n 0, 1) := by decide +kernel
theorem dL_law_1236 : decode cL_law 1236 = .ok (.iload 4, 2) := by decide +kernel
theorem dL_law_1238 : decode cL_law 1238 = .ok (.iconst 2, 1) := by decide +kernel
theorem dL_law_1239 : decode cL_law 1239 = .ok (.iadd, 1) := by decide +kernel
theorem dL_law_1240 : decode cL_law 1240 = .ok (.iaload, 1) := by decide +kernel
theorem dL_law_1241 : decode cL_law 1241 = .ok (.invokevirtual 119, 3) := by decide +kernel
theorem dL_law_1244 : decode cL_law 1244 = .ok (.aload_n 2, 1) := by decide +kernel
theorem dL_law_1245 : decode cL_law 1245 = .ok (.aload_n 0, 1) := by decide +kernel
theorem dL_law_1246 : decode cL_law 1246 = .ok (.iload 4, 2) := by decide +kernel
theorem dL_law_1248 : decode cL_law 1248 = .ok (.iconst 1, 1) := by decide +kernel
theorem dL_law_1249 : decode cL_law 1249 = .ok (.iadd, 1) := by decide +kernel
theorem dL_law_1250 : decode cL_law 1250 = .ok (.iaload, 1) := by decide +kernel
theorem dL_law_1251 : decode cL_law 1251 = .ok (.aload_n 0, 1) := by decide +kernel
theorem dL_law_1252 : decode cL_law 1252 = .ok (.iload 4, 2) := by decide +kernel
theorem dL_law_1254 : decode cL_law 1254 = .ok (.iconst 2, 1) := by decide +kernel
theorem dL_law_1255 : decode cL_law 1255 = .ok (.iadd, 1) := by decide +kernel
theorem dL_law_1256 : decode cL_law 1256 = .ok (.iaload, 1) := by decide +kernel
theorem dL_law_1257 : decode cL_law 1257 = .ok (.invokevirtual 122, 3) := by decide +kernel
theorem dL_law_1260 : decode cL_law 1260 = .ok (.if_icmp .eq 663, 3) := by decide +kernel
theorem dL_law_1263 : decode cL_law 1263 = .ok (.iconst 0, 1) := by decide +kernel
theorem dL_law_1264 : decode cL_law 1264 = .ok (.ireturn, 1) := by decide +kernel
theorem dL_law_1265 : decode cL_law 1265 = .ok (.aload_n 1, 1) := by decide +kernel
theorem dL_law_1266 : decode cL_law 1266 = .ok (.aload_n 0, 1) := by decide +kernel
theorem dL_law_1267 : decode cL_law 1267 = .ok (.iload 4, 2) := by decide +kernel
theorem dL_law_1269 : decode cL_law 1269 = .ok (.iconst 1, 1) := by decide +kernel
theorem dL_law_1270 : decode cL_law 1270 = .ok (.iadd, 1) := by decide +kernel
theorem dL_law_1271 : decode cL_law 1271 = .ok (.iaload, 1) := by decide +kernel
theorem dL_law_1272 : decode cL_law 1272 = .ok (.aload_n 0, 1) := by decide +kernel
theorem dL_law_1273 : decode cL_law 1273 = .ok (.iload 4, 2) := by decide +kernel
theorem dL_law_1275 : decode cL_law 1275 = .ok (.iconst 2, 1) := by decide +kernel
theorem dL_law_1276 : decode cL_law 1276 = .ok (.iadd, 1) := by decide +kernel
theorem dL_law_1277 : decode cL_law 1277 = .ok (.iaload, 1) := by decide +kernel
theorem dL_law_1278 : decode cL_law 1278 = .ok (.invokevirtual 123, 3) := by decide +kernel
theorem dL_law_1281 : decode cL_law 1281 = .ok (.aload_n 2, 1) := by decide +kernel
theorem dL_law_1282 : decode cL_law 1282 = .ok (.aload_n 0, 1) := by decide +kernel
theorem dL_law_1283 : decode cL_law 1283 = .ok (.iload 4, 2) := by decide +kernel
theorem dL_law_1285 : decode cL_law 1285 = .ok (.iconst 1, 1) := by decide +kernel
theorem dL_law_1286 : decode cL_law 1286 = .ok (.iadd, 1) := by decide +kernel
theorem dL_law_1287 : decode cL_law 1287 = .ok (.iaload, 1) := by decide +kernel
theorem dL_law_1288 : decode cL_law 1288 = .ok (.aload_n 0, 1) := by decide +kernel
theorem dL_law_1289 : decode cL_law 1289 = .ok (.iload 4, 2) := by decide +kernel
theorem dL_law_1291 : decode cL_law 1291 = .ok (.iconst 2, 1) := by decide +kernel
theorem dL_law_1292 : decode cL_law 1292 = .ok (.iadd, 1) := by decide +kernel
theorem dL_law_1293 : decode cL_law 1293 = .ok (.iaload, 1) := by decide +kernel
theorem dL_law_1294 : decode cL_law 1294 = .ok (.invokevirtual 126, 3) := by decide +kernel
theorem dL_law_1297 : decode cL_law 1297 = .ok (.if_icmp .eq 626, 3) := by decide +kernel
theorem dL_law_1300 : decode cL_law 1300 = .ok (.iconst 0, 1) := by decide +kernel
theorem dL_law_1301 : decode cL_law 1301 = .ok (.ireturn, 1) := by decide +kernel
theorem dL_law_1302 : decode cL_law 1302 = .ok (.aload_n 1, 1) := by decide +kernel
theorem dL_law_1303 : decode cL_law 1303 = .ok (.aload_n 0, 1) := by decide +kernel
theorem dL_law_1304 : decode cL_law 1304 = .ok (.iload 4, 2) := by decide +kernel
theorem dL_law_1306 : decode cL_law 1306 = .ok (.iconst 1, 1) := by decide +kernel
theorem dL_law_1307 : decode cL_law 1307 = .ok (.iadd, 1) := by decide +kernel
theorem dL_law_1308 : decode cL_law 1308 = .ok (.iaload, 1) := by decide +kernel
theorem dL_law_1309 : decode cL_law 1309 = .ok (.aload_n 0, 1) := by decide +kernel
theorem dL_law_1310 : decode cL_law 1310 = .ok (.iload 4, 2) := by decide +kernel
theorem dL_law_1312 : decode cL_law 1312 = .ok (.iconst 2, 1) := by decide +kernel
theorem dL_law_1313 : decode cL_law 1313 = .ok (.iadd, 1) := by decide +kernel
theorem dL_law_1314 : decode cL_law 1314 = .ok (.iaload, 1) := by decide +kernel
theorem dL_law_1315 : decode cL_law 1315 = .ok (.aload_n 0, 1) := by decide +kernel
theorem dL_law_1316 : decode cL_law 1316 = .ok (.iload 4, 2) := by decide +kernel
theorem dL_law_1318 : decode cL_law 1318 = .ok (.iconst 3, 1) := by decide +kernel
theorem dL_law_1319 : decode cL_law 1319 = .ok (.iadd, 1) := by decide +kernel
theorem dL_law_1320 : decode cL_law 1320 = .ok (.iaload, 1) := by decide +kernel
theorem dL_law_1321 : decode cL_law 1321 = .ok (.aload_n 0, 1) := by decide +kernel
theorem dL_law_1322 : decode cL_law 1322 = .ok (.iload 4, 2) := by decide +kernel
theorem dL_law_1324 : decode cL_law 1324 = .ok (.iconst 4, 1) := by decide +kernel
theorem dL_law_1325 : decode cL_law 1325 = .ok (.iadd, 1) := by decide +kernel
theorem dL_law_1326 : decode cL_law 1326 = .ok (.iaload, 1) := by decide +kernel
theorem dL_law_1327 : decode cL_law 1327 = .ok (.invokevirtual 127, 3) := by decide +kernel
theorem dL_law_1330 : decode cL_law 1330 = .ok (.aload_n 2, 1) := by decide +kernel
theorem dL_law_1331 : decode cL_law 1331 = .ok (.aload_n 0, 1) := by decide +kernel
theorem dL_law_1332 : decode cL_law 1332 = .ok (.iload 4, 2) := by decide +kernel
theorem dL_law_1334 : decode cL_law 1334 = .ok (.iconst 1, 1) := by decide +kernel
theorem dL_law_1335 : decode cL_law 1335 = .ok (.iadd, 1) := by decide +kernel
theorem dL_law_1336 : decode cL_law 1336 = .ok (.iaload, 1) := by decide +kernel
theorem dL_law_1337 : decode cL_law 1337 = .ok (.aload_n 0, 1) := by decide +kernel
theorem dL_law_1338 : decode cL_law 1338 = .ok (.iload 4, 2) := by decide +kernel
theorem dL_law_1340 : decode cL_law 1340 = .ok (.iconst 2, 1) := by decide +kernel
theorem dL_law_1341 : decode cL_law 1341 = .ok (.iadd, 1) := by decide +kernel
theorem dL_law_1342 : decode cL_law 1342 = .ok (.iaload, 1) := by decide +kernel
theorem dL_law_1343 : decode cL_law 1343 = .ok (.aload_n 0, 1) := by decide +kernel
theorem dL_law_1344 : decode cL_law 1344 = .ok (.iload 4, 2) := by decide +kernel
theorem dL_law_1346 : decode cL_law 1346 = .ok (.iconst 3, 1) := by decide +kernel
theorem dL_law_1347 : decode cL_law 1347 = .ok (.iadd, 1) := by decide +kernel
theorem dL_law_1348 : decode cL_law 1348 = .ok (.iaload, 1) := by decide +kernel
theorem dL_law_1349 : decode cL_law 1349 = .ok (.aload_n 0, 1) := by decide +kernel
theorem dL_law_1350 : decode cL_law 1350 = .ok (.iload 4, 2) := by decide +kernel
theorem dL_law_1352 : decode cL_law 1352 = .ok (.iconst 4, 1) := by decide +kernel
theorem dL_law_1353 : decode cL_law 1353 = .ok (.iadd, 1) := by decide +kernel
theorem dL_law_1354 : decode cL_law 1354 = .ok (.iaload, 1) := by decide +kernel
theorem dL_law_1355 : decode cL_law 1355 = .ok (.invokevirtual 130, 3) := by decide +kernel
theorem dL_law_1358 : decode cL_law 1358 = .ok (.if_icmp .eq 565, 3) := by decide +kernel
theorem dL_law_1361 : decode cL_law 1361 = .ok (.iconst 0, 1) := by decide +kernel
theorem dL_law_1362 : decode cL_law 1362 = .ok (.ireturn, 1) := by decide +kernel
theorem dL_law_1363 : decode cL_law 1363 = .ok (.aload_n 1, 1) := by decide +kernel
theorem dL_law_1364 : decode cL_law 1364 = .ok (.aload_n 0, 1) := by decide +kernel
theorem dL_law_1365 : decode cL_law 1365 = .ok (.iload 4, 2) := by decide +kernel
theorem dL_law_1367 : decode cL_law 1367 = .ok (.iconst 1, 1) := by decide +kernel
theorem dL_law_1368 : decode cL_law 1368 = .ok (.iadd, 1) := by decide +kernel
theorem dL_law_1369 : decode cL_law 1369 = .ok (.iaload, 1) := by decide +kernel
theorem dL_law_1370 : decode cL_law 1370 = .ok (.aload_n 0, 1) := by decide +kernel
theorem dL_law_1371 : decode cL_law 1371 = .ok (.iload 4, 2) := by decide +kernel
theorem dL_law_1373 : decode cL_law 1373 = .ok (.iconst 2, 1) := by decide +kernel
theorem dL_law_1374 : decode cL_law 1374 = .ok (.iadd, 1) := by decide +kernel
theorem dL_law_1375 : decode cL_law 1375 = .ok (.iaload, 1) := by decide +kernel
theorem dL_law_1376 : decode cL_law 1376 = .ok (.aload_n 0, 1) := by decide +kernel
theorem dL_law_1377 : decode cL_law 1377 = .ok (.iload 4, 2) := by decide +kernel
theorem dL_law_1379 : decode cL_law 1379 = .ok (.iconst 3, 1) := by decide +kernel
theorem dL_law_1380 : decode cL_law 1380 = .ok (.iadd, 1) := by decide +kernel
theorem dL_law_1381 : decode cL_law 1381 = .ok (.iaload, 1) := by decide +kernel
theorem dL_law_1382 : decode cL_law 1382 = .ok (.invokevirtual 131, 3) := by decide +kernel
theorem dL_law_1385 : decode cL_law 1385 = .ok (.aload_n 2, 1) := by decide +kernel
theorem dL_law_1386 : decode cL_law 1386 = .ok (.aload_n 0, 1) := by decide +kernel
theorem dL_law_1387 : decode cL_law 1387 = .ok (.iload 4, 2) := by decide +kernel
theorem dL_law_1389 : decode cL_law 1389 = .ok (.iconst 1, 1) := by decide +kernel
theorem dL_law_1390 : decode cL_law 1390 = .ok (.iadd, 1) := by decide +kernel
theorem dL_law_1391 : decode cL_law 1391 = .ok (.iaload, 1) := by decide +kernel
theorem dL_law_1392 : decode cL_law 1392 = .ok (.aload_n 0, 1) := by decide +kernel
theorem dL_law_1393 : decode cL_law 1393 = .ok (.iload 4, 2) := by decide +kernel
theorem dL_law_1395 : decode cL_law 1395 = .ok (.iconst 2, 1) := by decide +kernel
theorem dL_law_1396 : decode cL_law 1396 = .ok (.iadd, 1) := by decide +kernel
theorem dL_law_1397 : decode cL_law 1397 = .ok (.iaload, 1) := by decide +kernel
theorem dL_law_1398 : decode cL_law 1398 = .ok (.aload_n 0, 1) := by decide +kernel
theorem dL_law_1399 : decode cL_law 1399 = .ok (.iload 4, 2) := by decide +kernel
theorem dL_law_1401 : decode cL_law 1401 = .ok (.iconst 3, 1) := by decide +kernel
theorem dL_law_1402 : decode cL_law 1402 = .ok (.iadd, 1) := by decide +kernel
theorem dL_law_1403 : decode cL_law 1403 = .ok (.iaload, 1) := by decide +kernel
theorem dL_law_1404 : decode cL_law 1404 = .ok (.invokevirtual 134, 3) := by decide +kernel
theorem dL_law_1407 : decode cL_law 1407 = .ok (.if_icmp .eq 516, 3) := by decide +kernel
theorem dL_law_1410 : decode cL_law 1410 = .ok (.iconst 0, 1) := by decide +kernel
theorem dL_law_1411 : decode cL_law 1411 = .ok (.ireturn, 1) := by decide +kernel
theorem dL_law_1412 : decode cL_law 1412 = .ok (.aload_n 1, 1) := by decide +kernel
theorem dL_law_1413 : decode cL_law 1413 = .ok (.aload_n 0, 1) := by decide +kernel
theorem dL_law_1414 : decode cL_law 1414 = .ok (.iload 4, 2) := by decide +kernel
theorem dL_law_1416 : decode cL_law 1416 = .ok (.iconst 1, 1) := by decide +kernel
theorem dL_law_1417 : decode cL_law 1417 = .ok (.iadd, 1) := by decide +kernel
theorem dL_law_1418 : decode cL_law 1418 = .ok (.iaload, 1) := by decide +kernel
theorem dL_law_1419 : decode cL_law 1419 = .ok (.aload_n 0, 1) := by decide +kernel
theorem dL_law_1420 : decode cL_law 1420 = .ok (.iload 4, 2) := by decide +kernel
theorem dL_law_1422 : decode cL_law 1422 = .ok (.iconst 2, 1) := by decide +kernel
theorem dL_law_1423 : decode cL_law 1423 = .ok (.iadd, 1) := by decide +kernel
theorem dL_law_1424 : decode cL_law 1424 = .ok (.iaload, 1) := by decide +kernel
theorem dL_law_1425 : decode cL_law 1425 = .ok (.invokevirtual 135, 3) := by decide +kernel
theorem dL_law_1428 : decode cL_law 1428 = .ok (.aload_n 2, 1) := by decide +kernel
theorem dL_law_1429 : decode cL_law 1429 = .ok (.aload_n 0, 1) := by decide +kernel
theorem dL_law_1430 : decode cL_law 1430 = .ok (.iload 4, 2) := by decide +kernel
theorem dL_law_1432 : decode cL_law 1432 = .ok (.iconst 1, 1) := by decide +kernel
theorem dL_law_1433 : decode cL_law 1433 = .ok (.iadd, 1) := by decide +kernel
theorem dL_law_1434 : decode cL_law 1434 = .ok (.iaload, 1) := by decide +kernel
theorem dL_law_1435 : decode cL_law 1435 = .ok (.aload_n 0, 1) := by decide +kernel
theorem dL_law_1436 : decode cL_law 1436 = .ok (.iload 4, 2) := by decide +kernel
theorem dL_law_1438 : decode cL_law 1438 = .ok (.iconst 2, 1) := by decide +kernel
theorem dL_law_1439 : decode cL_law 1439 = .ok (.iadd, 1) := by decide +kernel
theorem dL_law_1440 : decode cL_law 1440 = .ok (.iaload, 1) := by decide +kernel
theorem dL_law_1441 : decode cL_law 1441 = .ok (.invokevirtual 138, 3) := by decide +kernel
theorem dL_law_1444 : decode cL_law 1444 = .ok (.if_icmp .eq 479, 3) := by decide +kernel
theorem dL_law_1447 : decode cL_law 1447 = .ok (.iconst 0, 1) := by decide +kernel
theorem dL_law_1448 : decode cL_law 1448 = .ok (.ireturn, 1) := by decide +kernel
theorem dL_law_1449 : decode cL_law 1449 = .ok (.aload_n 1, 1) := by decide +kernel
theorem dL_law_1450 : decode cL_law 1450 = .ok (.aload_n 0, 1) := by decide +kernel
theorem dL_law_1451 : decode cL_law 1451 = .ok (.iload 4, 2) := by decide +kernel
theorem dL_law_1453 : decode cL_law 1453 = .ok (.iconst 1, 1) := by decide +kernel
theorem dL_law_1454 : decode cL_law 1454 = .ok (.iadd, 1) := by decide +kernel
theorem dL_law_1455 : decode cL_law 1455 = .ok (.iaload, 1) := by decide +kernel
theorem dL_law_1456 : decode cL_law 1456 = .ok (.aload_n 0, 1) := by decide +kernel
theorem dL_law_1457 : decode cL_law 1457 = .ok (.iload 4, 2) := by decide +kernel
theorem dL_law_1459 : decode cL_law 1459 = .ok (.iconst 2, 1) := by decide +kernel
theorem dL_law_1460 : decode cL_law 1460 = .ok (.iadd, 1) := by decide +kernel
theorem dL_law_1461 : decode cL_law 1461 = .ok (.iaload, 1) := by decide +kernel
theorem dL_law_1462 : decode cL_law 1462 = .ok (.invokevirtual 139, 3) := by decide +kernel
theorem dL_law_1465 : decode cL_law 1465 = .ok (.aload_n 2, 1) := by decide +kernel
theorem dL_law_1466 : decode cL_law 1466 = .ok (.aload_n 0, 1) := by decide +kernel
theorem dL_law_1467 : decode cL_law 1467 = .ok (.iload 4, 2) := by decide +kernel
theorem dL_law_1469 : decode cL_law 1469 = .ok (.iconst 1, 1) := by decide +kernel
theorem dL_law_1470 : decode cL_law 1470 = .ok (.iadd, 1) := by decide +kernel
theorem dL_law_1471 : decode cL_law 1471 = .ok (.iaload, 1) := by decide +kernel
theorem dL_law_1472 : decode cL_law 1472 = .ok (.aload_n 0, 1) := by decide +kernel
theorem dL_law_1473 : decode cL_law 1473 = .ok (.iload 4, 2) := by decide +kernel
theorem dL_law_1475 : decode cL_law 1475 = .ok (.iconst 2, 1) := by decide +kernel
theorem dL_law_1476 : decode cL_law 1476 = .ok (.iadd, 1) := by decide +kernel
theorem dL_law_1477 : decode cL_law 1477 = .ok (.iaload, 1) := by decide +kernel
theorem dL_law_1478 : decode cL_law 1478 = .ok (.invokevirtual 142, 3) := by decide +kernel
theorem dL_law_1481 : decode cL_law 1481 = .ok (.if_icmp .eq 442, 3) := by decide +kernel
theorem dL_law_1484 : decode cL_law 1484 = .ok (.iconst 0, 1) := by decide +kernel
theorem dL_law_1485 : decode cL_law 1485 = .ok (.ireturn, 1) := by decide +kernel
theorem dL_law_1486 : decode cL_law 1486 = .ok (.aload_n 1, 1) := by decide +kernel
theorem dL_law_1487 : decode cL_law 1487 = .ok (.aload_n 0, 1) := by decide +kernel
theorem dL_law_1488 : decode cL_law 1488 = .ok (.iload 4, 2) := by decide +kernel
theorem dL_law_1490 : decode cL_law 1490 = .ok (.iconst 1, 1) := by decide +kernel
theorem dL_law_1491 : decode cL_law 1491 = .ok (.iadd, 1) := by decide +kernel
theorem dL_law_1492 : decode cL_law 1492 = .ok (.iaload, 1) := by decide +kernel
theorem dL_law_1493 : decode cL_law 1493 = .ok (.aload_n 0, 1) := by decide +kernel
theorem dL_law_1494 : decode cL_law 1494 = .ok (.iload 4, 2) := by decide +kernel
theorem dL_law_1496 : decode cL_law 1496 = .ok (.iconst 2, 1) := by decide +kernel
theorem dL_law_1497 : decode cL_law 1497 = .ok (.iadd, 1) := by decide +kernel
theorem dL_law_1498 : decode cL_law 1498 = .ok (.iaload, 1) := by decide +kernel
theorem dL_law_1499 : decode cL_law 1499 = .ok (.aload_n 0, 1) := by decide +kernel
theorem dL_law_1500 : decode cL_law 1500 = .ok (.iload 4, 2) := by decide +kernel
theorem dL_law_1502 : decode cL_law 1502 = .ok (.iconst 3, 1) := by decide +kernel
theorem dL_law_1503 : decode cL_law 1503 = .ok (.iadd, 1) := by decide +kernel
theorem dL_law_1504 : decode cL_law 1504 = .ok (.iaload, 1) := by decide +kernel
theorem dL_law_1505 : decode cL_law 1505 = .ok (.invokevirtual 143, 3) := by decide +kernel
theorem dL_law_1508 : decode cL_law 1508 = .ok (.aload_n 2, 1) := by decide +kernel
theorem dL_law_1509 : decode cL_law 1509 = .ok (.aload_n 0, 1) := by decide +kernel
theorem dL_law_1510 : decode cL_law 1510 = .ok (.iload 4, 2) := by decide +kernel
theorem dL_law_1512 : decode cL_law 1512 = .ok (.iconst 1, 1) := by decide +kernel
theorem dL_law_1513 : decode cL_law 1513 = .ok (.iadd, 1) := by decide +kernel
theorem dL_law_1514 : decode cL_law 1514 = .ok (.iaload, 1) := by decide +kernel
theorem dL_law_1515 : decode cL_law 1515 = .ok (.aload_n 0, 1) := by decide +kernel
theorem dL_law_1516 : decode cL_law 1516 = .ok (.iload 4, 2) := by decide +kernel
theorem dL_law_1518 : decode cL_law 1518 = .ok (.iconst 2, 1) := by decide +kernel
theorem dL_law_1519 : decode cL_law 1519 = .ok (.iadd, 1) := by decide +kernel
theorem dL_law_1520 : decode cL_law 1520 = .ok (.iaload, 1) := by decide +kernel
theorem dL_law_1521 : decode cL_law 1521 = .ok (.aload_n 0, 1) := by decide +kernel
theorem dL_law_1522 : decode cL_law 1522 = .ok (.iload 4, 2) := by decide +kernel
theorem dL_law_1524 : decode cL_law 1524 = .ok (.iconst 3, 1) := by decide +kernel
theorem dL_law_1525 : decode cL_law 1525 = .ok (.iadd, 1) := by decide +kernel
theorem dL_law_1526 : decode cL_law 1526 = .ok (.iaload, 1) := by decide +kernel
theorem dL_law_1527 : decode cL_law 1527 = .ok (.invokevirtual 146, 3) := by decide +kernel
theorem dL_law_1530 : decode cL_law 1530 = .ok (.if_icmp .eq 393, 3) := by decide +kernel
theorem dL_law_1533 : decode cL_law 1533 = .ok (.iconst 0, 1) := by decide +kernel
theorem dL_law_1534 : decode cL_law 1534 = .ok (.ireturn, 1) := by decide +kernel
theorem dL_law_1535 : decode cL_law 1535 = .ok (.aload_n 1, 1) := by decide +kernel
theorem dL_law_1536 : decode cL_law 1536 = .ok (.invokevirtual 147, 3) := by decide +kernel
theorem dL_law_1539 : decode cL_law 1539 = .ok (.aload_n 2, 1) := by decide +kernel
theorem dL_law_1540 : decode cL_law 1540 = .ok (.invokevirtual 151, 3) := by decide +kernel
theorem dL_law_1543 : decode cL_law 1543 = .ok (.if_icmp .eq 380, 3) := by decide +kernel
theorem dL_law_1546 : decode cL_law 1546 = .ok (.iconst 0, 1) := by decide +kernel
theorem dL_law_1547 : decode cL_law 1547 = .ok (.ireturn, 1) := by decide +kernel
theorem dL_law_1548 : decode cL_law 1548 = .ok (.aload_n 1, 1) := by decide +kernel
theorem dL_law_1549 : decode cL_law 1549 = .ok (.invokevirtual 152, 3) := by decide +kernel
theorem dL_law_1552 : decode cL_law 1552 = .ok (.aload_n 2, 1) := by decide +kernel
theorem dL_law_1553 : decode cL_law 1553 = .ok (.invokevirtual 155, 3) := by decide +kernel
theorem dL_law_1556 : decode cL_law 1556 = .ok (.if_icmp .eq 367, 3) := by decide +kernel
theorem dL_law_1559 : decode cL_law 1559 = .ok (.iconst 0, 1) := by decide +kernel
theorem dL_law_1560 : decode cL_law 1560 = .ok (.ireturn, 1) := by decide +kernel
theorem dL_law_1561 : decode cL_law 1561 = .ok (.aload_n 1, 1) := by decide +kernel
theorem dL_law_1562 : decode cL_law 1562 = .ok (.aload_n 0, 1) := by decide +kernel
theorem dL_law_1563 : decode cL_law 1563 = .ok (.iload 4, 2) := by decide +kernel
theorem dL_law_1565 : decode cL_law 1565 = .ok (.iconst 1, 1) := by decide +kernel
theorem dL_law_1566 : decode cL_law 1566 = .ok (.iadd, 1) := by decide +kernel
theorem dL_law_1567 : decode cL_law 1567 = .ok (.iaload, 1) := by decide +kernel
theorem dL_law_1568 : decode cL_law 1568 = .ok (.invokevirtual 156, 3) := by decide +kernel
theorem dL_law_1571 : decode cL_law 1571 = .ok (.aload_n 2, 1) := by decide +kernel
theorem dL_law_1572 : decode cL_law 1572 = .ok (.aload_n 0, 1) := by decide +kernel
theorem dL_law_1573 : decode cL_law 1573 = .ok (.iload 4, 2) := by decide +kernel
theorem dL_law_1575 : decode cL_law 1575 = .ok (.iconst 1, 1) := by decide +kernel
theorem dL_law_1576 : decode cL_law 1576 = .ok (.iadd, 1) := by decide +kernel
theorem dL_law_1577 : decode cL_law 1577 = .ok (.iaload, 1) := by decide +kernel
theorem dL_law_1578 : decode cL_law 1578 = .ok (.invokevirtual 159, 3) := by decide +kernel
theorem dL_law_1581 : decode cL_law 1581 = .ok (.if_icmp .eq 342, 3) := by decide +kernel
theorem dL_law_1584 : decode cL_law 1584 = .ok (.iconst 0, 1) := by decide +kernel
theorem dL_law_1585 : decode cL_law 1585 = .ok (.ireturn, 1) := by decide +kernel
theorem dL_law_1586 : decode cL_law 1586 = .ok (.aload_n 1, 1) := by decide +kernel
theorem dL_law_1587 : decode cL_law 1587 = .ok (.aload_n 0, 1) := by decide +kernel
theorem dL_law_1588 : decode cL_law 1588 = .ok (.iload 4, 2) := by decide +kernel
theorem dL_law_1590 : decode cL_law 1590 = .ok (.iconst 1, 1) := by decide +kernel
theorem dL_law_1591 : decode cL_law 1591 = .ok (.iadd, 1) := by decide +kernel
theorem dL_law_1592 : decode cL_law 1592 = .ok (.iaload, 1) := by decide +kernel
theorem dL_law_1593 : decode cL_law 1593 = .ok (.aload_n 0, 1) := by decide +kernel
theorem dL_law_1594 : decode cL_law 1594 = .ok (.iload 4, 2) := by decide +kernel
theorem dL_law_1596 : decode cL_law 1596 = .ok (.iconst 2, 1) := by decide +kernel
theorem dL_law_1597 : decode cL_law 1597 = .ok (.iadd, 1) := by decide +kernel
theorem dL_law_1598 : decode cL_law 1598 = .ok (.iaload, 1) := by decide +kernel
theorem dL_law_1599 : decode cL_law 1599 = .ok (.aload_n 0, 1) := by decide +kernel
theorem dL_law_1600 : decode cL_law 1600 = .ok (.iload 4, 2) := by decide +kernel
theorem dL_law_1602 : decode cL_law 1602 = .ok (.iconst 3, 1) := by decide +kernel
theorem dL_law_1603 : decode cL_law 1603 = .ok (.iadd, 1) := by decide +kernel
theorem dL_law_1604 : decode cL_law 1604 = .ok (.iaload, 1) := by decide +kernel
theorem dL_law_1605 : decode cL_law 1605 = .ok (.invokevirtual 160, 3) := by decide +kernel
theorem dL_law_1608 : decode cL_law 1608 = .ok (.aload_n 2, 1) := by decide +kernel
theorem dL_law_1609 : decode cL_law 1609 = .ok (.aload_n 0, 1) := by decide +kernel
theorem dL_law_1610 : decode cL_law 1610 = .ok (.iload 4, 2) := by decide +kernel
theorem dL_law_1612 : decode cL_law 1612 = .ok (.iconst 1, 1) := by decide +kernel
theorem dL_law_1613 : decode cL_law 1613 = .ok (.iadd, 1) := by decide +kernel
theorem dL_law_1614 : decode cL_law 1614 = .ok (.iaload, 1) := by decide +kernel
theorem dL_law_1615 : decode cL_law 1615 = .ok (.aload_n 0, 1) := by decide +kernel
theorem dL_law_1616 : decode cL_law 1616 = .ok (.iload 4, 2) := by decide +kernel
theorem dL_law_1618 : decode cL_law 1618 = .ok (.iconst 2, 1) := by decide +kernel
theorem dL_law_1619 : decode cL_law 1619 = .ok (.iadd, 1) := by decide +kernel
theorem dL_law_1620 : decode cL_law 1620 = .ok (.iaload, 1) := by decide +kernel
theorem dL_law_1621 : decode cL_law 1621 = .ok (.aload_n 0, 1) := by decide +kernel
theorem dL_law_1622 : decode cL_law 1622 = .ok (.iload 4, 2) := by decide +kernel
theorem dL_law_1624 : decode cL_law 1624 = .ok (.iconst 3, 1) := by decide +kernel
theorem dL_law_1625 : decode cL_law 1625 = .ok (.iadd, 1) := by decide +kernel
theorem dL_law_1626 : decode cL_law 1626 = .ok (.iaload, 1) := by decide +kernel
theorem dL_law_1627 : decode cL_law 1627 = .ok (.invokevirtual 163, 3) := by decide +kernel
theorem dL_law_1630 : decode cL_law 1630 = .ok (.if_icmp .eq 293, 3) := by decide +kernel
theorem dL_law_1633 : decode cL_law 1633 = .ok (.iconst 0, 1) := by decide +kernel
theorem dL_law_1634 : decode cL_law 1634 = .ok (.ireturn, 1) := by decide +kernel
theorem dL_law_1635 : decode cL_law 1635 = .ok (.aload_n 1, 1) := by decide +kernel
theorem dL_law_1636 : decode cL_law 1636 = .ok (.aload_n 0, 1) := by decide +kernel
theorem dL_law_1637 : decode cL_law 1637 = .ok (.iload 4, 2) := by decide +kernel
theorem dL_law_1639 : decode cL_law 1639 = .ok (.iconst 1, 1) := by decide +kernel
theorem dL_law_1640 : decode cL_law 1640 = .ok (.iadd, 1) := by decide +kernel
theorem dL_law_1641 : decode cL_law 1641 = .ok (.iaload, 1) := by decide +kernel
theorem dL_law_1642 : decode cL_law 1642 = .ok (.aload_n 0, 1) := by decide +kernel
theorem dL_law_1643 : decode cL_law 1643 = .ok (.iload 4, 2) := by decide +kernel
theorem dL_law_1645 : decode cL_law 1645 = .ok (.iconst 2, 1) := by decide +kernel
theorem dL_law_1646 : decode cL_law 1646 = .ok (.iadd, 1) := by decide +kernel
theorem dL_law_1647 : decode cL_law 1647 = .ok (.iaload, 1) := by decide +kernel
theorem dL_law_1648 : decode cL_law 1648 = .ok (.aload_n 0, 1) := by decide +kernel
theorem dL_law_1649 : decode cL_law 1649 = .ok (.iload 4, 2) := by decide +kernel
theorem dL_law_1651 : decode cL_law 1651 = .ok (.iconst 3, 1) := by decide +kernel
theorem dL_law_1652 : decode cL_law 1652 = .ok (.iadd, 1) := by decide +kernel
theorem dL_law_1653 : decode cL_law 1653 = .ok (.iaload, 1) := by decide +kernel
theorem dL_law_1654 : decode cL_law 1654 = .ok (.invokevirtual 164, 3) := by decide +kernel
theorem dL_law_1657 : decode cL_law 1657 = .ok (.aload_n 2, 1) := by decide +kernel
theorem dL_law_1658 : decode cL_law 1658 = .ok (.aload_n 0, 1) := by decide +kernel
theorem dL_law_1659 : decode cL_law 1659 = .ok (.iload 4, 2) := by decide +kernel
theorem dL_law_1661 : decode cL_law 1661 = .ok (.iconst 1, 1) := by decide +kernel
theorem dL_law_1662 : decode cL_law 1662 = .ok (.iadd, 1) := by decide +kernel
theorem dL_law_1663 : decode cL_law 1663 = .ok (.iaload, 1) := by decide +kernel
theorem dL_law_1664 : decode cL_law 1664 = .ok (.aload_n 0, 1) := by decide +kernel
theorem dL_law_1665 : decode cL_law 1665 = .ok (.iload 4, 2) := by decide +kernel
theorem dL_law_1667 : decode cL_law 1667 = .ok (.iconst 2, 1) := by decide +kernel
theorem dL_law_1668 : decode cL_law 1668 = .ok (.iadd, 1) := by decide +kernel
theorem dL_law_1669 : decode cL_law 1669 = .ok (.iaload, 1) := by decide +kernel
theorem dL_law_1670 : decode cL_law 1670 = .ok (.aload_n 0, 1) := by decide +kernel
theorem dL_law_1671 : decode cL_law 1671 = .ok (.iload 4, 2) := by decide +kernel
theorem dL_law_1673 : decode cL_law 1673 = .ok (.iconst 3, 1) := by decide +kernel
theorem dL_law_1674 : decode cL_law 1674 = .ok (.iadd, 1) := by decide +kernel
theorem dL_law_1675 : decode cL_law 1675 = .ok (.iaload, 1) := by decide +kernel
theorem dL_law_1676 : decode cL_law 1676 = .ok (.invokevirtual 167, 3) := by decide +kernel
theorem dL_law_1679 : decode cL_law 1679 = .ok (.if_icmp .eq 244, 3) := by decide +kernel
theorem dL_law_1682 : decode cL_law 1682 = .ok (.iconst 0, 1) := by decide +kernel
theorem dL_law_1683 : decode cL_law 1683 = .ok (.ireturn, 1) := by decide +kernel
theorem dL_law_1684 : decode cL_law 1684 = .ok (.aload_n 1, 1) := by decide +kernel
theorem dL_law_1685 : decode cL_law 1685 = .ok (.aload_n 0, 1) := by decide +kernel
theorem dL_law_1686 : decode cL_law 1686 = .ok (.iload 4, 2) := by decide +kernel
theorem dL_law_1688 : decode cL_law 1688 = .ok (.iconst 1, 1) := by decide +kernel
theorem dL_law_1689 : decode cL_law 1689 = .ok (.iadd, 1) := by decide +kernel
theorem dL_law_1690 : decode cL_law 1690 = .ok (.iaload, 1) := by decide +kernel
theorem dL_law_1691 : decode cL_law 1691 = .ok (.aload_n 0, 1) := by decide +kernel
theorem dL_law_1692 : decode cL_law 1692 = .ok (.iload 4, 2) := by decide +kernel
theorem dL_law_1694 : decode cL_law 1694 = .ok (.iconst 2, 1) := by decide +kernel
theorem dL_law_1695 : decode cL_law 1695 = .ok (.iadd, 1) := by decide +kernel
theorem dL_law_1696 : decode cL_law 1696 = .ok (.iaload, 1) := by decide +kernel
theorem dL_law_1697 : decode cL_law 1697 = .ok (.aload_n 0, 1) := by decide +kernel
theorem dL_law_1698 : decode cL_law 1698 = .ok (.iload 4, 2) := by decide +kernel
theorem dL_law_1700 : decode cL_law 1700 = .ok (.iconst 3, 1) := by decide +kernel
theorem dL_law_1701 : decode cL_law 1701 = .ok (.iadd, 1) := by decide +kernel
theorem dL_law_1702 : decode cL_law 1702 = .ok (.iaload, 1) := by decide +kernel
theorem dL_law_1703 : decode cL_law 1703 = .ok (.invokevirtual 168, 3) := by decide +kernel
theorem dL_law_1706 : decode cL_law 1706 = .ok (.aload_n 2, 1) := by decide +kernel
theorem dL_law_1707 : decode cL_law 1707 = .ok (.aload_n 0, 1) := by decide +kernel
theorem dL_law_1708 : decode cL_law 1708 = .ok (.iload 4, 2) := by decide +kernel
theorem dL_law_1710 : decode cL_law 1710 = .ok (.iconst 1, 1) := by decide +kernel
theorem dL_law_1711 : decode cL_law 1711 = .ok (.iadd, 1) := by decide +kernel
theorem dL_law_1712 : decode cL_law 1712 = .ok (.iaload, 1) := by decide +kernel
theorem dL_law_1713 : decode cL_law 1713 = .ok (.aload_n 0, 1) := by decide +kernel
theorem dL_law_1714 : decode cL_law 1714 = .ok (.iload 4, 2) := by decide +kernel
theorem dL_law_1716 : decode cL_law 1716 = .ok (.iconst 2, 1) := by decide +kernel
theorem dL_law_1717 : decode cL_law 1717 = .ok (.iadd, 1) := by decide +kernel
theorem dL_law_1718 : decode cL_law 1718 = .ok (.iaload, 1) := by decide +kernel
theorem dL_law_1719 : decode cL_law 1719 = .ok (.aload_n 0, 1) := by decide +kernel
theorem dL_law_1720 : decode cL_law 1720 = .ok (.iload 4, 2) := by decide +kernel
theorem dL_law_1722 : decode cL_law 1722 = .ok (.iconst 3, 1) := by decide +kernel
theorem dL_law_1723 : decode cL_law 1723 = .ok (.iadd, 1) := by decide +kernel
theorem dL_law_1724 : decode cL_law 1724 = .ok (.iaload, 1) := by decide +kernel
theorem dL_law_1725 : decode cL_law 1725 = .ok (.invokevirtual 171, 3) := by decide +kernel
theorem dL_law_1728 : decode cL_law 1728 = .ok (.if_icmp .eq 195, 3) := by decide +kernel
theorem dL_law_1731 : decode cL_law 1731 = .ok (.iconst 0, 1) := by decide +kernel
theorem dL_law_1732 : decode cL_law 1732 = .ok (.ireturn, 1) := by decide +kernel
theorem dL_law_1733 : decode cL_law 1733 = .ok (.aload_n 1, 1) := by decide +kernel
theorem dL_law_1734 : decode cL_law 1734 = .ok (.aload_n 0, 1) := by decide +kernel
theorem dL_law_1735 : decode cL_law 1735 = .ok (.iload 4, 2) := by decide +kernel
theorem dL_law_1737 : decode cL_law 1737 = .ok (.iconst 1, 1) := by decide +kernel
theorem dL_law_1738 : decode cL_law 1738 = .ok (.iadd, 1) := by decide +kernel
theorem dL_law_1739 : decode cL_law 1739 = .ok (.iaload, 1) := by decide +kernel
theorem dL_law_1740 : decode cL_law 1740 = .ok (.aload_n 0, 1) := by decide +kernel
theorem dL_law_1741 : decode cL_law 1741 = .ok (.iload 4, 2) := by decide +kernel
theorem dL_law_1743 : decode cL_law 1743 = .ok (.iconst 2, 1) := by decide +kernel
theorem dL_law_1744 : decode cL_law 1744 = .ok (.iadd, 1) := by decide +kernel
theorem dL_law_1745 : decode cL_law 1745 = .ok (.iaload, 1) := by decide +kernel
theorem dL_law_1746 : decode cL_law 1746 = .ok (.aload_n 3, 1) := by decide +kernel
theorem dL_law_1747 : decode cL_law 1747 = .ok (.invokestatic 172, 3) := by decide +kernel
theorem dL_law_1750 : decode cL_law 1750 = .ok (.istore 5, 2) := by decide +kernel
theorem dL_law_1752 : decode cL_law 1752 = .ok (.aload_n 2, 1) := by decide +kernel
theorem dL_law_1753 : decode cL_law 1753 = .ok (.aload_n 0, 1) := by decide +kernel
theorem dL_law_1754 : decode cL_law 1754 = .ok (.iload 4, 2) := by decide +kernel
theorem dL_law_1756 : decode cL_law 1756 = .ok (.iconst 1, 1) := by decide +kernel
theorem dL_law_1757 : decode cL_law 1757 = .ok (.iadd, 1) := by decide +kernel
theorem dL_law_1758 : decode cL_law 1758 = .ok (.iaload, 1) := by decide +kernel
theorem dL_law_1759 : decode cL_law 1759 = .ok (.aload_n 0, 1) := by decide +kernel
theorem dL_law_1760 : decode cL_law 1760 = .ok (.iload 4, 2) := by decide +kernel
theorem dL_law_1762 : decode cL_law 1762 = .ok (.iconst 2, 1) := by decide +kernel
theorem dL_law_1763 : decode cL_law 1763 = .ok (.iadd, 1) := by decide +kernel
theorem dL_law_1764 : decode cL_law 1764 = .ok (.iaload, 1) := by decide +kernel
theorem dL_law_1765 : decode cL_law 1765 = .ok (.invokevirtual 177, 3) := by decide +kernel
theorem dL_law_1768 : decode cL_law 1768 = .ok (.lstore 6, 2) := by decide +kernel
theorem dL_law_1770 : decode cL_law 1770 = .ok (.aload_n 2, 1) := by decide +kernel
theorem dL_law_1771 : decode cL_law 1771 = .ok (.invokevirtual 178, 3) := by decide +kernel
theorem dL_law_1774 : decode cL_law 1774 = .ok (.iload 5, 2) := by decide +kernel
theorem dL_law_1776 : decode cL_law 1776 = .ok (.if_icmp .eq 5, 3) := by decide +kernel
theorem dL_law_1779 : decode cL_law 1779 = .ok (.iconst 0, 1) := by decide +kernel
theorem dL_law_1780 : decode cL_law 1780 = .ok (.ireturn, 1) := by decide +kernel
theorem dL_law_1781 : decode cL_law 1781 = .ok (.iload 5, 2) := by decide +kernel
theorem dL_law_1783 : decode cL_law 1783 = .ok (.ifCond .ne 14, 3) := by decide +kernel
theorem dL_law_1786 : decode cL_law 1786 = .ok (.aload_n 3, 1) := by decide +kernel
theorem dL_law_1787 : decode cL_law 1787 = .ok (.iconst 0, 1) := by decide +kernel
theorem dL_law_1788 : decode cL_law 1788 = .ok (.laload, 1) := by decide +kernel
theorem dL_law_1789 : decode cL_law 1789 = .ok (.lload 6, 2) := by decide +kernel
theorem dL_law_1791 : decode cL_law 1791 = .ok (.lcmp, 1) := by decide +kernel
theorem dL_law_1792 : decode cL_law 1792 = .ok (.ifCond .eq 5, 3) := by decide +kernel
theorem dL_law_1795 : decode cL_law 1795 = .ok (.iconst 0, 1) := by decide +kernel
theorem dL_law_1796 : decode cL_law 1796 = .ok (.ireturn, 1) := by decide +kernel
theorem dL_law_1797 : decode cL_law 1797 = .ok (.goto 126, 3) := by decide +kernel
theorem dL_law_1800 : decode cL_law 1800 = .ok (.aload_n 1, 1) := by decide +kernel
theorem dL_law_1801 : decode cL_law 1801 = .ok (.aload_n 0, 1) := by decide +kernel
theorem dL_law_1802 : decode cL_law 1802 = .ok (.iload 4, 2) := by decide +kernel
theorem dL_law_1804 : decode cL_law 1804 = .ok (.iconst 1, 1) := by decide +kernel
theorem dL_law_1805 : decode cL_law 1805 = .ok (.iadd, 1) := by decide +kernel
theorem dL_law_1806 : decode cL_law 1806 = .ok (.iaload, 1) := by decide +kernel
theorem dL_law_1807 : decode cL_law 1807 = .ok (.aload_n 0, 1) := by decide +kernel
theorem dL_law_1808 : decode cL_law 1808 = .ok (.iload 4, 2) := by decide +kernel
theorem dL_law_1810 : decode cL_law 1810 = .ok (.iconst 2, 1) := by decide +kernel
theorem dL_law_1811 : decode cL_law 1811 = .ok (.iadd, 1) := by decide +kernel
theorem dL_law_1812 : decode cL_law 1812 = .ok (.iaload, 1) := by decide +kernel
theorem dL_law_1813 : decode cL_law 1813 = .ok (.aload_n 0, 1) := by decide +kernel
theorem dL_law_1814 : decode cL_law 1814 = .ok (.iload 4, 2) := by decide +kernel
theorem dL_law_1816 : decode cL_law 1816 = .ok (.iconst 3, 1) := by decide +kernel
theorem dL_law_1817 : decode cL_law 1817 = .ok (.iadd, 1) := by decide +kernel
theorem dL_law_1818 : decode cL_law 1818 = .ok (.iaload, 1) := by decide +kernel
theorem dL_law_1819 : decode cL_law 1819 = .ok (.aload_n 0, 1) := by decide +kernel
theorem dL_law_1820 : decode cL_law 1820 = .ok (.iload 4, 2) := by decide +kernel
theorem dL_law_1822 : decode cL_law 1822 = .ok (.iconst 4, 1) := by decide +kernel
theorem dL_law_1823 : decode cL_law 1823 = .ok (.iadd, 1) := by decide +kernel
theorem dL_law_1824 : decode cL_law 1824 = .ok (.iaload, 1) := by decide +kernel
theorem dL_law_1825 : decode cL_law 1825 = .ok (.aload_n 0, 1) := by decide +kernel
theorem dL_law_1826 : decode cL_law 1826 = .ok (.iload 4, 2) := by decide +kernel
theorem dL_law_1828 : decode cL_law 1828 = .ok (.iconst 5, 1) := by decide +kernel
theorem dL_law_1829 : decode cL_law 1829 = .ok (.iadd, 1) := by decide +kernel
theorem dL_law_1830 : decode cL_law 1830 = .ok (.iaload, 1) := by decide +kernel
theorem dL_law_1831 : decode cL_law 1831 = .ok (.invokevirtual 181, 3) := by decide +kernel
theorem dL_law_1834 : decode cL_law 1834 = .ok (.aload_n 2, 1) := by decide +kernel
theorem dL_law_1835 : decode cL_law 1835 = .ok (.aload_n 0, 1) := by decide +kernel
theorem dL_law_1836 : decode cL_law 1836 = .ok (.iload 4, 2) := by decide +kernel
theorem dL_law_1838 : decode cL_law 1838 = .ok (.iconst 1, 1) := by decide +kernel
theorem dL_law_1839 : decode cL_law 1839 = .ok (.iadd, 1) := by decide +kernel
theorem dL_law_1840 : decode cL_law 1840 = .ok (.iaload, 1) := by decide +kernel
theorem dL_law_1841 : decode cL_law 1841 = .ok (.aload_n 0, 1) := by decide +kernel
theorem dL_law_1842 : decode cL_law 1842 = .ok (.iload 4, 2) := by decide +kernel
theorem dL_law_1844 : decode cL_law 1844 = .ok (.iconst 2, 1) := by decide +kernel
theorem dL_law_1845 : decode cL_law 1845 = .ok (.iadd, 1) := by decide +kernel
theorem dL_law_1846 : decode cL_law 1846 = .ok (.iaload, 1) := by decide +kernel
theorem dL_law_1847 : decode cL_law 1847 = .ok (.aload_n 0, 1) := by decide +kernel
theorem dL_law_1848 : decode cL_law 1848 = .ok (.iload 4, 2) := by decide +kernel
theorem dL_law_1850 : decode cL_law 1850 = .ok (.iconst 3, 1) := by decide +kernel
theorem dL_law_1851 : decode cL_law 1851 = .ok (.iadd, 1) := by decide +kernel
theorem dL_law_1852 : decode cL_law 1852 = .ok (.iaload, 1) := by decide +kernel
theorem dL_law_1853 : decode cL_law 1853 = .ok (.aload_n 0, 1) := by decide +kernel
theorem dL_law_1854 : decode cL_law 1854 = .ok (.iload 4, 2) := by decide +kernel
theorem dL_law_1856 : decode cL_law 1856 = .ok (.iconst 4, 1) := by decide +kernel
theorem dL_law_1857 : decode cL_law 1857 = .ok (.iadd, 1) := by decide +kernel
theorem dL_law_1858 : decode cL_law 1858 = .ok (.iaload, 1) := by decide +kernel
theorem dL_law_1859 : decode cL_law 1859 = .ok (.aload_n 0, 1) := by decide +kernel
theorem dL_law_1860 : decode cL_law 1860 = .ok (.iload 4, 2) := by decide +kernel
theorem dL_law_1862 : decode cL_law 1862 = .ok (.iconst 5, 1) := by decide +kernel
theorem dL_law_1863 : decode cL_law 1863 = .ok (.iadd, 1) := by decide +kernel
theorem dL_law_1864 : decode cL_law 1864 = .ok (.iaload, 1) := by decide +kernel
theorem dL_law_1865 : decode cL_law 1865 = .ok (.invokevirtual 185, 3) := by decide +kernel
theorem dL_law_1868 : decode cL_law 1868 = .ok (.if_icmp .eq 55, 3) := by decide +kernel
theorem dL_law_1871 : decode cL_law 1871 = .ok (.iconst 0, 1) := by decide +kernel
theorem dL_law_1872 : decode cL_law 1872 = .ok (.ireturn, 1) := by decide +kernel
theorem dL_law_1873 : decode cL_law 1873 = .ok (.aload_n 1, 1) := by decide +kernel
theorem dL_law_1874 : decode cL_law 1874 = .ok (.aload_n 0, 1) := by decide +kernel
theorem dL_law_1875 : decode cL_law 1875 = .ok (.iload 4, 2) := by decide +kernel
theorem dL_law_1877 : decode cL_law 1877 = .ok (.iconst 1, 1) := by decide +kernel
theorem dL_law_1878 : decode cL_law 1878 = .ok (.iadd, 1) := by decide +kernel
theorem dL_law_1879 : decode cL_law 1879 = .ok (.iaload, 1) := by decide +kernel
theorem dL_law_1880 : decode cL_law 1880 = .ok (.invokevirtual 186, 3) := by decide +kernel
theorem dL_law_1883 : decode cL_law 1883 = .ok (.aload_n 2, 1) := by decide +kernel
theorem dL_law_1884 : decode cL_law 1884 = .ok (.aload_n 0, 1) := by decide +kernel
theorem dL_law_1885 : decode cL_law 1885 = .ok (.iload 4, 2) := by decide +kernel
theorem dL_law_1887 : decode cL_law 1887 = .ok (.iconst 1, 1) := by decide +kernel
theorem dL_law_1888 : decode cL_law 1888 = .ok (.iadd, 1) := by decide +kernel
theorem dL_law_1889 : decode cL_law 1889 = .ok (.iaload, 1) := by decide +kernel
theorem dL_law_1890 : decode cL_law 1890 = .ok (.invokevirtual 189, 3) := by decide +kernel
theorem dL_law_1893 : decode cL_law 1893 = .ok (.if_icmp .eq 30, 3) := by decide +kernel
theorem dL_law_1896 : decode cL_law 1896 = .ok (.iconst 0, 1) := by decide +kernel
theorem dL_law_1897 : decode cL_law 1897 = .ok (.ireturn, 1) := by decide +kernel
theorem dL_law_1898 : decode cL_law 1898 = .ok (.aload_n 1, 1) := by decide +kernel
theorem dL_law_1899 : decode cL_law 1899 = .ok (.aload_n 0, 1) := by decide +kernel
theorem dL_law_1900 : decode cL_law 1900 = .ok (.iload 4, 2) := by decide +kernel
theorem dL_law_1902 : decode cL_law 1902 = .ok (.iconst 1, 1) := by decide +kernel
theorem dL_law_1903 : decode cL_law 1903 = .ok (.iadd, 1) := by decide +kernel
theorem dL_law_1904 : decode cL_law 1904 = .ok (.iaload, 1) := by decide +kernel
theorem dL_law_1905 : decode cL_law 1905 = .ok (.invokevirtual 190, 3) := by decide +kernel
theorem dL_law_1908 : decode cL_law 1908 = .ok (.aload_n 2, 1) := by decide +kernel
theorem dL_law_1909 : decode cL_law 1909 = .ok (.aload_n 0, 1) := by decide +kernel
theorem dL_law_1910 : decode cL_law 1910 = .ok (.iload 4, 2) := by decide +kernel
theorem dL_law_1912 : decode cL_law 1912 = .ok (.iconst 1, 1) := by decide +kernel
theorem dL_law_1913 : decode cL_law 1913 = .ok (.iadd, 1) := by decide +kernel
theorem dL_law_1914 : decode cL_law 1914 = .ok (.iaload, 1) := by decide +kernel
theorem dL_law_1915 : decode cL_law 1915 = .ok (.invokevirtual 193, 3) := by decide +kernel
theorem dL_law_1918 : decode cL_law 1918 = .ok (.if_icmp .eq 5, 3) := by decide +kernel
theorem dL_law_1921 : decode cL_law 1921 = .ok (.iconst 0, 1) := by decide +kernel
theorem dL_law_1922 : decode cL_law 1922 = .ok (.ireturn, 1) := by decide +kernel
theorem dL_law_1923 : decode cL_law 1923 = .ok (.iinc 4 6, 3) := by decide +kernel
theorem dL_law_1926 : decode cL_law 1926 = .ok (.goto (-1903), 3) := by decide +kernel
theorem dL_law_1929 : decode cL_law 1929 = .ok (.iconst 1, 1) := by decide +kernel
theorem dL_law_1930 : decode cL_law 1930 = .ok (.ireturn, 1) := by decide +kernel
end
section
/-- the words that callers and callees share: all of the tables' that stay good over a call -/
def bg_tbl : List Cond := lw_tbl.filter goodWord
theorem bg_mem {w : Cond} (i : Nat) (h : lw_tbl[i]? = some w) (hg : goodWord w = true) : w ∈ bg_tbl := List.mem_filter.mpr ⟨List.mem_of_getElem? h, hg⟩
theorem bg_good : ∀ w ∈ bg_tbl, (w.onTables && w.keeps) = true ∨ ∃ ty, w = .arrayClass ty := fun w h => good_of_word (List.mem_filter.mp h).2
theorem bg_in {w : Cond} (h : w ∈ bg_tbl) : w ∈ lw_tbl := (List.mem_filter.mp h).1
abbrev bg_cl : List vw_C := [(RX0, TX0, 9), (RX1, TX1, 5), (RX2, TX2, 6), (RX3, TX3, 12), (RX4, TX4, 9), (RX5, TX5, 6), (RX6, TX6, 23)]
theorem bg_w0 : ∀ w ∈ u_ws RX0 TX0 9, w ∈ bg_tbl := by decide +kernel
theorem bg_w1 : ∀ w ∈ u_ws RX1 TX1 5, w ∈ bg_tbl := by decide +kernel
theorem bg_w2 : ∀ w ∈ u_ws RX2 TX2 6, w ∈ bg_tbl := by decide +kernel
theorem bg_w3 : ∀ w ∈ u_ws RX3 TX3 12, w ∈ bg_tbl := by decide +kernel
theorem bg_w4 : ∀ w ∈ u_ws RX4 TX4 9, w ∈ bg_tbl := by decide +kernel
theorem bg_w5 : ∀ w ∈ u_ws RX5 TX5 6, w ∈ bg_tbl := by decide +kernel
theorem bg_w6 : ∀ w ∈ u_ws RX6 TX6 23, w ∈ bg_tbl := by decide +kernel
theorem bg_clok (ci : Nat) (C : String) (T : u_T) (N : Nat) (h : bg_cl[ci]? = some (C, T, N)) : (∀ w ∈ u_ws C T N, w ∈ bg_tbl) ∧ ∃ ty0 : Nat → FieldType, (∀ k, k < N → parseFieldDescriptor (T k).2.2.1 = some (ty0 k)) ∧ ∀ a, a < N → ∀ b, b < N → a ≠ b → (T a).2.1 ≠ (T b).2.1 := by
  match ci, h with
  | 0, h => cases h; exact ⟨bg_w0, tyX0, tyX0_ok, nmX0⟩
  | 1, h => cases h; exact ⟨bg_w1, tyX1, tyX1_ok, nmX1⟩
  | 2, h => cases h; exact ⟨bg_w2, tyX2, tyX2_ok, nmX2⟩
  | 3, h => cases h; exact ⟨bg_w3, tyX3, tyX3_ok, nmX3⟩
  | 4, h => cases h; exact ⟨bg_w4, tyX4, tyX4_ok, nmX4⟩
  | 5, h => cases h; exact ⟨bg_w5, tyX5, tyX5_ok, nmX5⟩
  | 6, h => cases h; exact ⟨bg_w6, tyX6, tyX6_ok, nmX6⟩
  | n + 7, h => simp [bg_cl] at h
end
section
/-! A layer of my own over the kit: the heap as a list of cells, a reference is a place in that list (a tag). Ev: from this point of a method, with these locals, this stack and this heap of tags, the method returns v and leaves the heap h'. -/
abbrev ev_H : Type := List va_E
/-- locals by their places: none where nothing is known, or the second half of a long -/
abbrev ev_L : Type := List (Option Value)
def ev_v (ad : Nat → Nat) (v : Value) : Value := match v with
  | .ref k => .ref (ad k)
  | .int x => .int x
  | .long x => .long x
  | .float x => .float x
  | .double x => .double x
  | .null => .null
  | .retAddr x => .retAddr x
def ev_a (ad : Nat → Nat) (a : vp_A) : vp_A := match a.2 with
  | .inr (.inr (.inr (.inr f))) => (a.1, .inr (.inr (.inr (.inr (fun i => (f i).map ad)))))
  | .inr (.inr (.inr (.inl f))) => (a.1, .inr (.inr (.inr (.inl f))))
  | .inr (.inr (.inl f)) => (a.1, .inr (.inr (.inl f)))
  | .inr (.inl f) => (a.1, .inr (.inl f))
  | .inl f => (a.1, .inl f)
def ev_e (ad aC : Nat → Nat) (e : va_E) : va_E := match e with
  | .inl (k, a) => .inl (aC k, ev_a ad a)
  | .inr (ci, fs) => .inr (ci, fs.map (ev_v ad))
def ev_w (ad aC : Nat → Nat) (h : ev_H) : va_W := h.mapIdx (fun i e => (ad i, ev_e ad aC e))
def ev_h (ad : Nat → Nat) (ls : Array Slot) (nL : Nat) (lc : ev_L) : Prop := ls.size = nL ∧ lv_wf ls ∧ ∀ (i : Nat) (v : Value), lc[i]? = some (some v) → ls[i]? = some (.val (ev_v ad v))
def ev_ty (aC : Nat → Nat) : List (ClassId × FieldType) := [(aC 0, .int), (aC 1, .long), (aC 2, .boolean), (aC 3, .object RX1), (aC 4, .object RX3)]
def ok_v (n : Nat) (v : Value) : Prop := ∀ k, v = .ref k → k < n
def ok_e (n : Nat) (e : va_E) : Prop := match e with
  | .inl (_, a) => ∀ f, a.2 = .inr (.inr (.inr (.inr f))) → ∀ i k, f i = some k → k < n
  | .inr (_, fs) => ∀ v ∈ fs, ok_v n v
def ok_h (h : ev_H) : Prop := ∀ e ∈ h, ok_e h.length e
def ok_s (h : ev_H) (lc : ev_L) (st : List Value) : Prop := ok_h h ∧ (∀ (i : Nat) (v : Value), lc[i]? = some (some v) → ok_v h.length v) ∧ ∀ v ∈ st, ok_v h.length v
theorem ok_int (n : Nat) (x : Int32) : ok_v n (.int x) := fun _ h => by cases h
theorem ok_long (n : Nat) (x : Int64) : ok_v n (.long x) := fun _ h => by cases h
theorem ok_null (n : Nat) : ok_v n .null := fun _ h => by cases h
theorem ok_ref {n k : Nat} (h : k < n) : ok_v n (.ref k) := fun j e => by cases e; exact h
theorem ok_v.mono {n m : Nat} {v : Value} (h : ok_v n v) (hn : n ≤ m) : ok_v m v := fun k e => Nat.lt_of_lt_of_le (h k e) hn
theorem ok_e.mono {n m : Nat} {e : va_E} (h : ok_e n e) (hn : n ≤ m) : ok_e m e := by
  cases e with
  | inl x => exact fun f hf i k hk => Nat.lt_of_lt_of_le (h f hf i k hk) hn
  | inr x => exact fun v hv => (h v hv).mono hn
theorem ev_v_cat (ad : Nat → Nat) (v : Value) : (ev_v ad v).category = v.category := by cases v <;> rfl
theorem ev_v_agree {ad ad' : Nat → Nat} {n : Nat} {v : Value} (h : ok_v n v) (ha : ∀ k, k < n → ad' k = ad k) : ev_v ad' v = ev_v ad v := by
  cases v with
  | ref k => show Value.ref (ad' k) = Value.ref (ad k); rw [ha k (h k rfl)]
  | _ => rfl
theorem ev_st_agree {ad ad' : Nat → Nat} {n : Nat} {st : List Value} (h : ∀ v ∈ st, ok_v n v) (ha : ∀ k, k < n → ad' k = ad k) : st.map (ev_v ad') = st.map (ev_v ad) := List.map_congr_left fun v hv => ev_v_agree (h v hv) ha
theorem ev_h_agree {ad ad' : Nat → Nat} {n nL : Nat} {ls : Array Slot} {lc : ev_L} (h : ∀ (i : Nat) (v : Value), lc[i]? = some (some v) → ok_v n v) (ha : ∀ k, k < n → ad' k = ad k) (hl : ev_h ad ls nL lc) : ev_h ad' ls nL lc := ⟨hl.1, hl.2.1, fun i v hi => by rw [ev_v_agree (h i v hi) ha]; exact hl.2.2 i v hi⟩
theorem ev_e_agree {ad ad' aC : Nat → Nat} {n : Nat} {e : va_E} (h : ok_e n e) (ha : ∀ k, k < n → ad' k = ad k) : ev_e ad' aC e = ev_e ad aC e := by
  cases e with
  | inl x =>
    obtain ⟨k, m, a⟩ := x
    rcases a with f | f | f | f | f
    · rfl
    · rfl
    · rfl
    · rfl
    · show (Sum.inl (aC k, (m, Sum.inr (Sum.inr (Sum.inr (Sum.inr (fun i => (f i).map ad')))))) : va_E) = Sum.inl (aC k, (m, Sum.inr (Sum.inr (Sum.inr (Sum.inr (fun i => (f i).map ad))))))
      have : (fun i => (f i).map ad') = (fun i => (f i).map ad) := by
        funext i
        cases hi : f i with
        | none => rfl
        | some j => simp only [Option.map_some]; rw [ha j (h f rfl i j hi)]
      rw [this]
  | inr x =>
    obtain ⟨ci, fs⟩ := x
    show (Sum.inr (ci, fs.map (ev_v ad')) : va_E) = Sum.inr (ci, fs.map (ev_v ad))
    rw [ev_st_agree h ha]
theorem ev_w_get {ad aC : Nat → Nat} {h : ev_H} {k : Nat} {e : va_E} (hk : h[k]? = some e) : (ev_w ad aC h)[k]? = some (ad k, ev_e ad aC e) := by
  simp [ev_w, List.getElem?_mapIdx, hk]
theorem ev_w_get' {ad aC : Nat → Nat} {h : ev_H} {k : Nat} {q : Nat × va_E} (hk : (ev_w ad aC h)[k]? = some q) : ∃ e, h[k]? = some e ∧ q = (ad k, ev_e ad aC e) := by
  simp only [ev_w, List.getElem?_mapIdx] at hk
  cases he : h[k]? with
  | none => rw [he] at hk; cases hk
  | some e => rw [he] at hk; simp only [Option.map_some, Option.some.injEq] at hk; exact ⟨e, rfl, hk.symm⟩
theorem ev_w_set (ad aC : Nat → Nat) (h : ev_H) (k : Nat) (e : va_E) : (ev_w ad aC h).set k (ad k, ev_e ad aC e) = ev_w ad aC (h.set k e) := by
  apply List.ext_getElem?
  intro i
  simp only [ev_w, List.getElem?_set, List.getElem?_mapIdx, List.length_mapIdx]
  by_cases hik : k = i
  · subst hik
    by_cases hl : k < h.length
    · simp [hl]
    · simp [hl]
  · simp [hik]
theorem ev_w_agree {ad ad' aC : Nat → Nat} {h : ev_H} (ho : ok_h h) (ha : ∀ k, k < h.length → ad' k = ad k) : ev_w ad' aC h = ev_w ad aC h := by
  apply List.ext_getElem?
  intro i
  simp only [ev_w, List.getElem?_mapIdx]
  cases he : h[i]? with
  | none => rfl
  | some e =>
    have hl := (List.getElem?_eq_some_iff.mp he).1
    simp only [Option.map_some]
    rw [ha i hl, ev_e_agree (ho e (List.mem_of_getElem? he)) ha]
theorem ev_w_push {ad aC : Nat → Nat} {h : ev_H} (ho : ok_h h) (q : Nat) (e : va_E) : ev_w ad aC h ++ [(q, ev_e (va_up ad h.length q) aC e)] = ev_w (va_up ad h.length q) aC (h ++ [e]) := by
  have e1 : ev_w ad aC h = ev_w (va_up ad h.length q) aC h := (ev_w_agree ho (fun k hk => va_up_ne _ _ (Nat.ne_of_lt hk))).symm
  rw [e1]
  apply List.ext_getElem?
  intro i
  by_cases hi : i < h.length
  · rw [List.getElem?_append_left (by simp [ev_w, hi])]
    simp only [ev_w, List.getElem?_mapIdx]
    rw [List.getElem?_append_left hi]
  · rw [List.getElem?_append_right (by simp [ev_w]; omega)]
    simp only [ev_w, List.getElem?_mapIdx, List.length_mapIdx]
    rw [List.getElem?_append_right (by omega)]
    by_cases hz : i = h.length
    · subst hz
      simp [va_up]
    · have : i - h.length ≠ 0 := by omega
      obtain ⟨j, hj⟩ := Nat.exists_eq_succ_of_ne_zero this
      rw [hj]
      simp
theorem ok_h.push {h : ev_H} (ho : ok_h h) {e : va_E} (he : ok_e (h.length + 1) e) : ok_h (h ++ [e]) := by
  intro x hx
  rw [List.length_append]
  rcases List.mem_append.mp hx with hx | hx
  · exact (ho x hx).mono (Nat.le_add_right _ _)
  · rw [List.mem_singleton.mp hx]; exact he
theorem ok_h.set {h : ev_H} (ho : ok_h h) {k : Nat} {e : va_E} (he : ok_e h.length e) : ok_h (h.set k e) := by
  intro x hx
  rw [List.length_set]
  rcases List.mem_or_eq_of_mem_set hx with hx | rfl
  · exact ho x hx
  · exact he
/-- words of the tables that aren't kept by a call as such: carried by the state -/
def ev_nst : List (String × Nat × MethodName × String) := [(RX5, 11, yX4_init, RX5), (RX5, 31, yX2_init, RX5), (RX5, 38, yX0_init, RX5), (RX5, 43, yX1_init, RX5), (RX0, 73, yX5_isDegree, RX5), (RX5, 120, yX3_init, RX5), (RX4, 115, yX3_init, RX5)]
def ev_N (s : State) : Prop := (∀ q ∈ ev_nst, va_Nw (.methodLinkNest q.1 q.2.1 q.2.2.1 q.2.2.2) s) ∧ va_AO RX1 s ∧ va_AO RX3 s
theorem ev_N.warm {s U : State} (hW : s.WarmedH U.vm) (h : ev_N s) : ev_N U := ⟨fun q hq => (h.1 q hq).warmM hW, h.2.1.moved hW.alike, h.2.2.moved hW.alike⟩
def ev_C (p : Program) (s : State) (m : MethodId) (args : Array Value) (meth : Method) (c : Code) (own nm : String) (cc : ByteArray) (nL : Nat) (ret : Option FieldType) : Prop :=
  p.tables.exec = Jvm.exec ∧ c.code = cc ∧ meth.sig.returnType = ret ∧ c.maxLocals = nL ∧ s.vm.findClass own = some m.cls ∧ (∀ w ∈ bg_tbl, w.before args s = true) ∧ meth.locks = false ∧ meth.name = nm ∧ ev_N s
def ev_D (D : va_G) (aC ad : Nat → Nat) (A : Nat → Prop) (s : State) (H : Heap) (locs : List Loc) (h : ev_H) : Prop :=
  va_K D bg_cl (ev_ty aC) s ∧ va_P D bg_cl (ev_w ad aC h) H ∧ va_D A (ev_w ad aC h) ∧ va_S A s.heap H locs ∧ ∀ q, s.heap.size ≤ q → A q
def ev_Q (D : va_G) (aC ad : Nat → Nat) (n : Nat) (A : Nat → Prop) (v : Option Value) (h' : ev_H) : Array Value → State → Outcome → State → Prop := fun _ st o t =>
  (∃ ad' : Nat → Nat, (∀ k, k < n → ad' k = ad k) ∧ o = .returned (v.map (ev_v ad')) ∧ va_P D bg_cl (ev_w ad' aC h') t.heap ∧ va_D A (ev_w ad' aC h')) ∧ va_F A st t
def Ev (l : Launch) (d : Nat) (own nm : String) (cc : ByteArray) (nL : Nat) (ret : Option FieldType) (pc : Nat) (lc : ev_L) (st : List Value) (h : ev_H) (v : Option Value) (h' : ev_H) : Prop :=
  ok_s h lc st → ok_h h' ∧ (∀ x, v = some x → ok_v h'.length x) ∧ h.length ≤ h'.length ∧
  ∀ (p : Program) (e : Env) (R : Room) (s : State) (m : MethodId) (args : Array Value) (below : List Frame) (meth : Method) (c : Code) (H : Heap) (locs : List Loc) (cells mc : Nat) (ls : Array Slot) (D : va_G) (aC ad : Nat → Nat) (A : Nat → Prop),
    ev_C p s m args meth c own nm cc nL ret → ev_D D aC ad A s H locs h → ev_h ad ls nL lc →
    d ≤ R.frames → 38 * d ≤ R.locals → mc ≤ R.cells → 1000 * mc ≤ R.slots → cells + h'.length ≤ mc + h.length →
    W p l e R s m args below meth c H locs cells (1000 * cells) (MQ below (ev_Q D aC ad h.length A v h') args s mc (1000 * mc) A) (F0 m pc ls (st.map (ev_v ad)))
theorem W.monoQ {p : Program} {l : Launch} {e : Env} {R : Room} {s : State} {m : MethodId} {args : Array Value} {below : List Frame} {meth : Method} {c : Code} {H : Heap} {locs : List Loc} {cells slots : Nat} {Q Q' : State → Prop} {g : JFrame} (h : ∀ t, Q t → Q' t) (k : W p l e R s m args below meth c H locs cells slots Q g) : W p l e R s m args below meth c H locs cells slots Q' g := by
  intro T hT X
  obtain ⟨t, a, b⟩ := k T hT X
  exact ⟨t, a, h t b⟩
theorem MQ.mono {below : List Frame} {Qc Qc' : Array Value → State → Outcome → State → Prop} {a : Array Value} {s : State} {mc ms : Nat} {free : Addr → Prop} (h : ∀ o t, Qc a s o t → Qc' a s o t) : ∀ t, MQ below Qc a s mc ms free t → MQ below Qc' a s mc ms free t := by
  rintro t ⟨o, h1, h2, h3, h4⟩
  exact ⟨o, h1, h2, h _ _ h3, h4⟩
theorem ev_Q.mono {D : va_G} {aC ad ad1 : Nat → Nat} {n n1 : Nat} {A : Nat → Prop} {v : Option Value} {h' : ev_H} {a : Array Value} {st : State} {o : Outcome} {t : State} (hn : n ≤ n1) (ha : ∀ k, k < n → ad1 k = ad k) (h : ev_Q D aC ad1 n1 A v h' a st o t) : ev_Q D aC ad n A v h' a st o t := by
  obtain ⟨⟨ad', h1, h2⟩, h3⟩ := h
  exact ⟨⟨ad', fun k hk => (h1 k (Nat.lt_of_lt_of_le hk hn)).trans (ha k hk), h2⟩, h3⟩
end
section
section ER
variable {l : Launch} {d : Nat} {own nm : String} {cc : ByteArray} {nL : Nat} {ret : Option FieldType} {pc pc' : Nat} {lc : ev_L} {st : List Value} {h h' : ev_H} {v : Option Value}
theorem ok_s.tl {a : Value} (o : ok_s h lc (a :: st)) : ok_s h lc st := ⟨o.1, o.2.1, fun v hv => o.2.2 v (List.mem_cons_of_mem _ hv)⟩
theorem ok_s.hd {a : Value} (o : ok_s h lc (a :: st)) : ok_v h.length a := o.2.2 a List.mem_cons_self
theorem ok_s.cs {a : Value} (o : ok_s h lc st) (ha : ok_v h.length a) : ok_s h lc (a :: st) := ⟨o.1, o.2.1, fun v hv => (List.mem_cons.mp hv).elim (fun e => e ▸ ha) (o.2.2 v)⟩
theorem ev_pure {st' : List Value} (hok : ok_s h lc st → ok_s h lc st')
    (hW : ∀ (p : Program) (e : Env) (R : Room) (s : State) (m : MethodId) (args : Array Value) (below : List Frame) (meth : Method) (c : Code) (H : Heap) (locs : List Loc) (cells : Nat) (Q : State → Prop) (ls : Array Slot) (ad : Nat → Nat), ev_C p s m args meth c own nm cc nL ret → ev_h ad ls nL lc → W p l e R s m args below meth c H locs cells (1000 * cells) Q (F0 m pc' ls (st'.map (ev_v ad))) → W p l e R s m args below meth c H locs cells (1000 * cells) Q (F0 m pc ls (st.map (ev_v ad))))
    (k : Ev l d own nm cc nL ret pc' lc st' h v h') : Ev l d own nm cc nL ret pc lc st h v h' := by
  intro o
  obtain ⟨k1, k2, k3, k4⟩ := k (hok o)
  exact ⟨k1, k2, k3, fun p e R s m args below meth c H locs cells mc ls D aC ad A C Dd hl h1 h2 h3 h4 h5 => hW p e R s m args below meth c H locs cells _ ls ad C hl (k4 p e R s m args below meth c H locs cells mc ls D aC ad A C Dd hl h1 h2 h3 h4 h5)⟩
theorem ev_iadd {x y : Int32} (hd : decode cc pc = .ok (.iadd, 1)) (hp : pc + 1 = pc') (k : Ev l d own nm cc nL ret pc' lc (.int (x + y) :: st) h v h') : Ev l d own nm cc nL ret pc lc (.int y :: .int x :: st) h v h' := by
  subst hp
  exact ev_pure (fun o => o.tl.tl.cs (ok_int _ _)) (fun p e R s m args below meth c H locs cells Q ls ad C hl w => lv_iadd C.1 C.2.1 hd w) k
theorem ev_isub {x y : Int32} (hd : decode cc pc = .ok (.isub, 1)) (hp : pc + 1 = pc') (k : Ev l d own nm cc nL ret pc' lc (.int (x - y) :: st) h v h') : Ev l d own nm cc nL ret pc lc (.int y :: .int x :: st) h v h' := by
  subst hp
  exact ev_pure (fun o => o.tl.tl.cs (ok_int _ _)) (fun p e R s m args below meth c H locs cells Q ls ad C hl w => lv_isub C.1 C.2.1 hd w) k
theorem ev_imul {x y : Int32} (hd : decode cc pc = .ok (.imul, 1)) (hp : pc + 1 = pc') (k : Ev l d own nm cc nL ret pc' lc (.int (x * y) :: st) h v h') : Ev l d own nm cc nL ret pc lc (.int y :: .int x :: st) h v h' := by
  subst hp
  exact ev_pure (fun o => o.tl.tl.cs (ok_int _ _)) (fun p e R s m args below meth c H locs cells Q ls ad C hl w => lv_imul C.1 C.2.1 hd w) k
theorem ev_iand {x y : Int32} (hd : decode cc pc = .ok (.iand, 1)) (hp : pc + 1 = pc') (k : Ev l d own nm cc nL ret pc' lc (.int (x &&& y) :: st) h v h') : Ev l d own nm cc nL ret pc lc (.int y :: .int x :: st) h v h' := by
  subst hp
  exact ev_pure (fun o => o.tl.tl.cs (ok_int _ _)) (fun p e R s m args below meth c H locs cells Q ls ad C hl w => lv_iand C.1 C.2.1 hd w) k
theorem ev_ior {x y : Int32} (hd : decode cc pc = .ok (.ior, 1)) (hp : pc + 1 = pc') (k : Ev l d own nm cc nL ret pc' lc (.int (x ||| y) :: st) h v h') : Ev l d own nm cc nL ret pc lc (.int y :: .int x :: st) h v h' := by
  subst hp
  exact ev_pure (fun o => o.tl.tl.cs (ok_int _ _)) (fun p e R s m args below meth c H locs cells Q ls ad C hl w => lv_ior C.1 C.2.1 hd w) k
theorem ev_ixor {x y : Int32} (hd : decode cc pc = .ok (.ixor, 1)) (hp : pc + 1 = pc') (k : Ev l d own nm cc nL ret pc' lc (.int (x ^^^ y) :: st) h v h') : Ev l d own nm cc nL ret pc lc (.int y :: .int x :: st) h v h' := by
  subst hp
  exact ev_pure (fun o => o.tl.tl.cs (ok_int _ _)) (fun p e R s m args below meth c H locs cells Q ls ad C hl w => lv_ixor C.1 C.2.1 hd w) k
theorem ev_ishl {x y : Int32} (hd : decode cc pc = .ok (.ishl, 1)) (hp : pc + 1 = pc') (k : Ev l d own nm cc nL ret pc' lc (.int (x <<< (y &&& 31)) :: st) h v h') : Ev l d own nm cc nL ret pc lc (.int y :: .int x :: st) h v h' := by
  subst hp
  exact ev_pure (fun o => o.tl.tl.cs (ok_int _ _)) (fun p e R s m args below meth c H locs cells Q ls ad C hl w => lv_ishl C.1 C.2.1 hd w) k
theorem ev_ishr {x y : Int32} (hd : decode cc pc = .ok (.ishr, 1)) (hp : pc + 1 = pc') (k : Ev l d own nm cc nL ret pc' lc (.int (x >>> (y &&& 31)) :: st) h v h') : Ev l d own nm cc nL ret pc lc (.int y :: .int x :: st) h v h' := by
  subst hp
  exact ev_pure (fun o => o.tl.tl.cs (ok_int _ _)) (fun p e R s m args below meth c H locs cells Q ls ad C hl w => lv_ishr C.1 C.2.1 hd w) k
theorem ev_idiv {x y : Int32} (hd : decode cc pc = .ok (.idiv, 1)) (hp : pc + 1 = pc') (hne : ¬ y = 0) (k : Ev l d own nm cc nL ret pc' lc (.int (x / y) :: st) h v h') : Ev l d own nm cc nL ret pc lc (.int y :: .int x :: st) h v h' := by
  subst hp
  exact ev_pure (fun o => o.tl.tl.cs (ok_int _ _)) (fun p e R s m args below meth c H locs cells Q ls ad C hl w => lv_idiv C.1 C.2.1 hd hne w) k
theorem ev_irem {x y : Int32} (hd : decode cc pc = .ok (.irem, 1)) (hp : pc + 1 = pc') (hne : ¬ y = 0) (k : Ev l d own nm cc nL ret pc' lc (.int (x - x / y * y) :: st) h v h') : Ev l d own nm cc nL ret pc lc (.int y :: .int x :: st) h v h' := by
  subst hp
  exact ev_pure (fun o => o.tl.tl.cs (ok_int _ _)) (fun p e R s m args below meth c H locs cells Q ls ad C hl w => lv_irem C.1 C.2.1 hd hne w) k
theorem ev_ladd {x y : Int64} (hd : decode cc pc = .ok (.ladd, 1)) (hp : pc + 1 = pc') (k : Ev l d own nm cc nL ret pc' lc (.long (x + y) :: st) h v h') : Ev l d own nm cc nL ret pc lc (.long y :: .long x :: st) h v h' := by
  subst hp
  exact ev_pure (fun o => o.tl.tl.cs (ok_long _ _)) (fun p e R s m args below meth c H locs cells Q ls ad C hl w => lv_ladd C.1 C.2.1 hd w) k
theorem ev_lsub {x y : Int64} (hd : decode cc pc = .ok (.lsub, 1)) (hp : pc + 1 = pc') (k : Ev l d own nm cc nL ret pc' lc (.long (x - y) :: st) h v h') : Ev l d own nm cc nL ret pc lc (.long y :: .long x :: st) h v h' := by
  subst hp
  exact ev_pure (fun o => o.tl.tl.cs (ok_long _ _)) (fun p e R s m args below meth c H locs cells Q ls ad C hl w => lv_lsub C.1 C.2.1 hd w) k
theorem ev_lmul {x y : Int64} (hd : decode cc pc = .ok (.lmul, 1)) (hp : pc + 1 = pc') (k : Ev l d own nm cc nL ret pc' lc (.long (x * y) :: st) h v h') : Ev l d own nm cc nL ret pc lc (.long y :: .long x :: st) h v h' := by
  subst hp
  exact ev_pure (fun o => o.tl.tl.cs (ok_long _ _)) (fun p e R s m args below meth c H locs cells Q ls ad C hl w => lv_lmul C.1 C.2.1 hd w) k
theorem ev_land {x y : Int64} (hd : decode cc pc = .ok (.land, 1)) (hp : pc + 1 = pc') (k : Ev l d own nm cc nL ret pc' lc (.long (x &&& y) :: st) h v h') : Ev l d own nm cc nL ret pc lc (.long y :: .long x :: st) h v h' := by
  subst hp
  exact ev_pure (fun o => o.tl.tl.cs (ok_long _ _)) (fun p e R s m args below meth c H locs cells Q ls ad C hl w => lv_land C.1 C.2.1 hd w) k
theorem ev_lor {x y : Int64} (hd : decode cc pc = .ok (.lor, 1)) (hp : pc + 1 = pc') (k : Ev l d own nm cc nL ret pc' lc (.long (x ||| y) :: st) h v h') : Ev l d own nm cc nL ret pc lc (.long y :: .long x :: st) h v h' := by
  subst hp
  exact ev_pure (fun o => o.tl.tl.cs (ok_long _ _)) (fun p e R s m args below meth c H locs cells Q ls ad C hl w => lv_lor C.1 C.2.1 hd w) k
theorem ev_lxor {x y : Int64} (hd : decode cc pc = .ok (.lxor, 1)) (hp : pc + 1 = pc') (k : Ev l d own nm cc nL ret pc' lc (.long (x ^^^ y) :: st) h v h') : Ev l d own nm cc nL ret pc lc (.long y :: .long x :: st) h v h' := by
  subst hp
  exact ev_pure (fun o => o.tl.tl.cs (ok_long _ _)) (fun p e R s m args below meth c H locs cells Q ls ad C hl w => lv_lxor C.1 C.2.1 hd w) k
theorem ev_ldiv {x y : Int64} (hd : decode cc pc = .ok (.ldiv, 1)) (hp : pc + 1 = pc') (hne : ¬ y = 0) (k : Ev l d own nm cc nL ret pc' lc (.long (x / y) :: st) h v h') : Ev l d own nm cc nL ret pc lc (.long y :: .long x :: st) h v h' := by
  subst hp
  exact ev_pure (fun o => o.tl.tl.cs (ok_long _ _)) (fun p e R s m args below meth c H locs cells Q ls ad C hl w => lv_ldiv C.1 C.2.1 hd hne w) k
theorem ev_lrem {x y : Int64} (hd : decode cc pc = .ok (.lrem, 1)) (hp : pc + 1 = pc') (hne : ¬ y = 0) (k : Ev l d own nm cc nL ret pc' lc (.long (x - x / y * y) :: st) h v h') : Ev l d own nm cc nL ret pc lc (.long y :: .long x :: st) h v h' := by
  subst hp
  exact ev_pure (fun o => o.tl.tl.cs (ok_long _ _)) (fun p e R s m args below meth c H locs cells Q ls ad C hl w => lv_lrem C.1 C.2.1 hd hne w) k
theorem ev_ineg {x : Int32} (hd : decode cc pc = .ok (.ineg, 1)) (hp : pc + 1 = pc') (k : Ev l d own nm cc nL ret pc' lc (.int (-x) :: st) h v h') : Ev l d own nm cc nL ret pc lc (.int x :: st) h v h' := by
  subst hp
  exact ev_pure (fun o => o.tl.cs (ok_int _ _)) (fun p e R s m args below meth c H locs cells Q ls ad C hl w => lv_ineg C.1 C.2.1 hd w) k
theorem ev_lneg {x : Int64} (hd : decode cc pc = .ok (.lneg, 1)) (hp : pc + 1 = pc') (k : Ev l d own nm cc nL ret pc' lc (.long (-x) :: st) h v h') : Ev l d own nm cc nL ret pc lc (.long x :: st) h v h' := by
  subst hp
  exact ev_pure (fun o => o.tl.cs (ok_long _ _)) (fun p e R s m args below meth c H locs cells Q ls ad C hl w => lv_lneg C.1 C.2.1 hd w) k
theorem ev_i2l {x : Int32} (hd : decode cc pc = .ok (.i2l, 1)) (hp : pc + 1 = pc') (k : Ev l d own nm cc nL ret pc' lc (.long (x.toInt64) :: st) h v h') : Ev l d own nm cc nL ret pc lc (.int x :: st) h v h' := by
  subst hp
  exact ev_pure (fun o => o.tl.cs (ok_long _ _)) (fun p e R s m args below meth c H locs cells Q ls ad C hl w => lv_i2l C.1 C.2.1 hd rfl w) k
theorem ev_l2i {x : Int64} (hd : decode cc pc = .ok (.l2i, 1)) (hp : pc + 1 = pc') (k : Ev l d own nm cc nL ret pc' lc (.int (x.toInt32) :: st) h v h') : Ev l d own nm cc nL ret pc lc (.long x :: st) h v h' := by
  subst hp
  exact ev_pure (fun o => o.tl.cs (ok_int _ _)) (fun p e R s m args below meth c H locs cells Q ls ad C hl w => lv_l2i C.1 C.2.1 hd rfl w) k
theorem ev_i2b {x : Int32} (hd : decode cc pc = .ok (.i2b, 1)) (hp : pc + 1 = pc') (k : Ev l d own nm cc nL ret pc' lc (.int (x.toInt8.toInt32) :: st) h v h') : Ev l d own nm cc nL ret pc lc (.int x :: st) h v h' := by
  subst hp
  exact ev_pure (fun o => o.tl.cs (ok_int _ _)) (fun p e R s m args below meth c H locs cells Q ls ad C hl w => lv_i2b C.1 C.2.1 hd rfl w) k
theorem ev_i2s {x : Int32} (hd : decode cc pc = .ok (.i2s, 1)) (hp : pc + 1 = pc') (k : Ev l d own nm cc nL ret pc' lc (.int (x.toInt16.toInt32) :: st) h v h') : Ev l d own nm cc nL ret pc lc (.int x :: st) h v h' := by
  subst hp
  exact ev_pure (fun o => o.tl.cs (ok_int _ _)) (fun p e R s m args below meth c H locs cells Q ls ad C hl w => lv_i2s C.1 C.2.1 hd rfl w) k
theorem ev_lcmp {x y : Int64} (hd : decode cc pc = .ok (.lcmp, 1)) (hp : pc + 1 = pc') (k : Ev l d own nm cc nL ret pc' lc (.int (lg_cmp x y) :: st) h v h') : Ev l d own nm cc nL ret pc lc (.long y :: .long x :: st) h v h' := by
  subst hp
  exact ev_pure (fun o => o.tl.tl.cs (ok_int _ _)) (fun p e R s m args below meth c H locs cells Q ls ad C hl w => W.lcmp C.1 C.2.1 hd w) k
theorem ev_iconst {n : Int} (x : Int32) (hd : decode cc pc = .ok (.iconst n, 1)) (hp : pc + 1 = pc') (hv : Int32.ofInt n = x) (k : Ev l d own nm cc nL ret pc' lc (.int x :: st) h v h') : Ev l d own nm cc nL ret pc lc st h v h' := by
  subst hp
  exact ev_pure (fun o => o.cs (ok_int _ _)) (fun p e R s m args below meth c H locs cells Q ls ad C hl w => lv_iconst C.1 C.2.1 hd hv w) k
theorem ev_bipush {n : Int} (x : Int32) (hd : decode cc pc = .ok (.bipush n, 2)) (hp : pc + 2 = pc') (hv : (Int8.ofInt n).toInt32 = x) (k : Ev l d own nm cc nL ret pc' lc (.int x :: st) h v h') : Ev l d own nm cc nL ret pc lc st h v h' := by
  subst hp
  exact ev_pure (fun o => o.cs (ok_int _ _)) (fun p e R s m args below meth c H locs cells Q ls ad C hl w => lv_bipush C.1 C.2.1 hd hv w) k
theorem ev_sipush {n : Int} (x : Int32) (hd : decode cc pc = .ok (.sipush n, 3)) (hp : pc + 3 = pc') (hv : (Int16.ofInt n).toInt32 = x) (k : Ev l d own nm cc nL ret pc' lc (.int x :: st) h v h') : Ev l d own nm cc nL ret pc lc st h v h' := by
  subst hp
  exact ev_pure (fun o => o.cs (ok_int _ _)) (fun p e R s m args below meth c H locs cells Q ls ad C hl w => lv_sipush C.1 C.2.1 hd hv w) k
theorem ev_lconst {n : Fin 2} (x : Int64) (hd : decode cc pc = .ok (.lconst n, 1)) (hp : pc + 1 = pc') (hv : Int64.ofNat (n : Nat) = x) (k : Ev l d own nm cc nL ret pc' lc (.long x :: st) h v h') : Ev l d own nm cc nL ret pc lc st h v h' := by
  subst hp
  exact ev_pure (fun o => o.cs (ok_long _ _)) (fun p e R s m args below meth c H locs cells Q ls ad C hl w => lv_lconst C.1 C.2.1 hd hv w) k
theorem ev_ldc {i : Nat} {x : Int32} (hw : Cond.constant own i x ∈ bg_tbl) (hd : decode cc pc = .ok (.ldc i, 2)) (hp : pc + 2 = pc') (k : Ev l d own nm cc nL ret pc' lc (.int x :: st) h v h') : Ev l d own nm cc nL ret pc lc st h v h' := by
  subst hp
  exact ev_pure (fun o => o.cs (ok_int _ _)) (fun p e R s m args below meth c H locs cells Q ls ad C hl w => lv_ldc C.1 C.2.1 C.2.2.2.2.1 (C.2.2.2.2.2.1 _ hw) hd w) k
theorem ev_ldcw {i : Nat} {x : Int32} (hw : Cond.constant own i x ∈ bg_tbl) (hd : decode cc pc = .ok (.ldc_w i, 3)) (hp : pc + 3 = pc') (k : Ev l d own nm cc nL ret pc' lc (.int x :: st) h v h') : Ev l d own nm cc nL ret pc lc st h v h' := by
  subst hp
  exact ev_pure (fun o => o.cs (ok_int _ _)) (fun p e R s m args below meth c H locs cells Q ls ad C hl w => lv_ldcw C.1 C.2.1 C.2.2.2.2.1 (C.2.2.2.2.2.1 _ hw) hd w) k
theorem ev_ldc2 {i : Nat} {x : Int64} (hw : Cond.constantLong own i x ∈ bg_tbl) (hd : decode cc pc = .ok (.ldc2_w i, 3)) (hp : pc + 3 = pc') (k : Ev l d own nm cc nL ret pc' lc (.long x :: st) h v h') : Ev l d own nm cc nL ret pc lc st h v h' := by
  subst hp
  exact ev_pure (fun o => o.cs (ok_long _ _)) (fun p e R s m args below meth c H locs cells Q ls ad C hl w => lv_ldc2 C.1 C.2.1 C.2.2.2.2.1 (C.2.2.2.2.2.1 _ hw) hd w) k
theorem ev_null (hd : decode cc pc = .ok (.aconst_null, 1)) (hp : pc + 1 = pc') (k : Ev l d own nm cc nL ret pc' lc (.null :: st) h v h') : Ev l d own nm cc nL ret pc lc st h v h' := by
  subst hp
  exact ev_pure (fun o => o.cs (ok_null _)) (fun p e R s m args below meth c H locs cells Q ls ad C hl w => lv_null C.1 C.2.1 hd w) k
theorem ev_iload_n {k : Fin 4} {x : Int32} (hd : decode cc pc = .ok (.iload_n k, 1)) (hp : pc + 1 = pc') (hx : lc[k.val]? = some (some (.int x))) (kk : Ev l d own nm cc nL ret pc' lc (.int x :: st) h v h') : Ev l d own nm cc nL ret pc lc st h v h' := by
  subst hp
  exact ev_pure (fun o => o.cs (o.2.1 _ _ hx)) (fun p e R s m args below meth c H locs cells Q ls ad C hl w => lv_iload_n C.1 C.2.1 hd rfl (hl.2.2 _ _ hx) w) kk
theorem ev_iload {i : Nat} {x : Int32} (hd : decode cc pc = .ok (.iload i, 2)) (hp : pc + 2 = pc') (hx : lc[i]? = some (some (.int x))) (kk : Ev l d own nm cc nL ret pc' lc (.int x :: st) h v h') : Ev l d own nm cc nL ret pc lc st h v h' := by
  subst hp
  exact ev_pure (fun o => o.cs (o.2.1 _ _ hx)) (fun p e R s m args below meth c H locs cells Q ls ad C hl w => lv_iload C.1 C.2.1 hd (hl.2.2 _ _ hx) w) kk
theorem ev_lload_n {k : Fin 4} {x : Int64} (hd : decode cc pc = .ok (.lload_n k, 1)) (hp : pc + 1 = pc') (hx : lc[k.val]? = some (some (.long x))) (kk : Ev l d own nm cc nL ret pc' lc (.long x :: st) h v h') : Ev l d own nm cc nL ret pc lc st h v h' := by
  subst hp
  exact ev_pure (fun o => o.cs (o.2.1 _ _ hx)) (fun p e R s m args below meth c H locs cells Q ls ad C hl w => lv_lload_n C.1 C.2.1 hd rfl (hl.2.2 _ _ hx) w) kk
theorem ev_lload {i : Nat} {x : Int64} (hd : decode cc pc = .ok (.lload i, 2)) (hp : pc + 2 = pc') (hx : lc[i]? = some (some (.long x))) (kk : Ev l d own nm cc nL ret pc' lc (.long x :: st) h v h') : Ev l d own nm cc nL ret pc lc st h v h' := by
  subst hp
  exact ev_pure (fun o => o.cs (o.2.1 _ _ hx)) (fun p e R s m args below meth c H locs cells Q ls ad C hl w => lv_lload C.1 C.2.1 hd (hl.2.2 _ _ hx) w) kk
theorem ev_aload_n {k : Fin 4} {x : Nat} (hd : decode cc pc = .ok (.aload_n k, 1)) (hp : pc + 1 = pc') (hx : lc[k.val]? = some (some (.ref x))) (kk : Ev l d own nm cc nL ret pc' lc (.ref x :: st) h v h') : Ev l d own nm cc nL ret pc lc st h v h' := by
  subst hp
  exact ev_pure (fun o => o.cs (o.2.1 _ _ hx)) (fun p e R s m args below meth c H locs cells Q ls ad C hl w => lv_aload_n C.1 C.2.1 hd rfl (hl.2.2 _ _ hx) w) kk
theorem ev_aload {i : Nat} {x : Nat} (hd : decode cc pc = .ok (.aload i, 2)) (hp : pc + 2 = pc') (hx : lc[i]? = some (some (.ref x))) (kk : Ev l d own nm cc nL ret pc' lc (.ref x :: st) h v h') : Ev l d own nm cc nL ret pc lc st h v h' := by
  subst hp
  exact ev_pure (fun o => o.cs (o.2.1 _ _ hx)) (fun p e R s m args below meth c H locs cells Q ls ad C hl w => lv_aload C.1 C.2.1 hd (hl.2.2 _ _ hx) w) kk
theorem ev_aload_nN {k : Fin 4} (hd : decode cc pc = .ok (.aload_n k, 1)) (hp : pc + 1 = pc') (hx : lc[k.val]? = some (some .null)) (kk : Ev l d own nm cc nL ret pc' lc (.null :: st) h v h') : Ev l d own nm cc nL ret pc lc st h v h' := by
  subst hp
  exact ev_pure (fun o => o.cs (o.2.1 _ _ hx)) (fun p e R s m args below meth c H locs cells Q ls ad C hl w => lv_aload_nN C.1 C.2.1 hd rfl (hl.2.2 _ _ hx) w) kk
theorem ev_aloadN {i : Nat} (hd : decode cc pc = .ok (.aload i, 2)) (hp : pc + 2 = pc') (hx : lc[i]? = some (some .null)) (kk : Ev l d own nm cc nL ret pc' lc (.null :: st) h v h') : Ev l d own nm cc nL ret pc lc st h v h' := by
  subst hp
  exact ev_pure (fun o => o.cs (o.2.1 _ _ hx)) (fun p e R s m args below meth c H locs cells Q ls ad C hl w => lv_aloadN C.1 C.2.1 hd (hl.2.2 _ _ hx) w) kk
theorem ev_dup {a : Value} (hd : decode cc pc = .ok (.dup, 1)) (hp : pc + 1 = pc') (ha : a.category = 1) (k : Ev l d own nm cc nL ret pc' lc (a :: a :: st) h v h') : Ev l d own nm cc nL ret pc lc (a :: st) h v h' := by
  subst hp
  exact ev_pure (fun o => o.cs o.hd) (fun p e R s m args below meth c H locs cells Q ls ad C hl w => lv_dup C.1 C.2.1 hd ((ev_v_cat ad a).trans ha) w) k
theorem ev_pop {a : Value} (hd : decode cc pc = .ok (.pop, 1)) (hp : pc + 1 = pc') (ha : a.category = 1) (k : Ev l d own nm cc nL ret pc' lc st h v h') : Ev l d own nm cc nL ret pc lc (a :: st) h v h' := by
  subst hp
  exact ev_pure (fun o => o.tl) (fun p e R s m args below meth c H locs cells Q ls ad C hl w => lv_pop C.1 C.2.1 hd ((ev_v_cat ad a).trans ha) w) k
theorem ev_dup2 {a b : Value} (hd : decode cc pc = .ok (.dup2, 1)) (hp : pc + 1 = pc') (ha : a.category = 1) (hb : b.category = 1) (k : Ev l d own nm cc nL ret pc' lc (a :: b :: a :: b :: st) h v h') : Ev l d own nm cc nL ret pc lc (a :: b :: st) h v h' := by
  subst hp
  exact ev_pure (fun o => (o.cs o.tl.hd).cs o.hd) (fun p e R s m args below meth c H locs cells Q ls ad C hl w => lv_dup2_11 C.1 C.2.1 hd ((ev_v_cat ad a).trans ha) ((ev_v_cat ad b).trans hb) w) k
theorem ev_if_eq {x : Int32} {off : Int} {tgt : Nat} (hd : decode cc pc = .ok (.ifCond .eq off, 3)) (ht : (pc : Int) + off = (tgt : Int)) (hp : pc + 3 = pc') (kt : x = 0 → Ev l d own nm cc nL ret tgt lc st h v h') (kf : ¬ x = 0 → Ev l d own nm cc nL ret pc' lc st h v h') : Ev l d own nm cc nL ret pc lc (.int x :: st) h v h' := by
  subst hp
  by_cases hc : x = 0
  · exact ev_pure (fun o => o.tl) (fun p e R s m args below meth c H locs cells Q ls ad C hl w => lv_if_eq C.1 C.2.1 hd ht (fun _ => w) (fun hn => absurd hc hn)) (kt hc)
  · exact ev_pure (fun o => o.tl) (fun p e R s m args below meth c H locs cells Q ls ad C hl w => lv_if_eq C.1 C.2.1 hd ht (fun hn => absurd hn hc) (fun _ => w)) (kf hc)
theorem ev_icmp_eq {x y : Int32} {off : Int} {tgt : Nat} (hd : decode cc pc = .ok (.if_icmp .eq off, 3)) (ht : (pc : Int) + off = (tgt : Int)) (hp : pc + 3 = pc') (kt : x = y → Ev l d own nm cc nL ret tgt lc st h v h') (kf : ¬ x = y → Ev l d own nm cc nL ret pc' lc st h v h') : Ev l d own nm cc nL ret pc lc (.int y :: .int x :: st) h v h' := by
  subst hp
  by_cases hc : x = y
  · exact ev_pure (fun o => o.tl.tl) (fun p e R s m args below meth c H locs cells Q ls ad C hl w => lv_icmp_eq C.1 C.2.1 hd ht (fun _ => w) (fun hn => absurd hc hn)) (kt hc)
  · exact ev_pure (fun o => o.tl.tl) (fun p e R s m args below meth c H locs cells Q ls ad C hl w => lv_icmp_eq C.1 C.2.1 hd ht (fun hn => absurd hn hc) (fun _ => w)) (kf hc)
theorem ev_if_ne {x : Int32} {off : Int} {tgt : Nat} (hd : decode cc pc = .ok (.ifCond .ne off, 3)) (ht : (pc : Int) + off = (tgt : Int)) (hp : pc + 3 = pc') (kt : ¬ x = 0 → Ev l d own nm cc nL ret tgt lc st h v h') (kf : x = 0 → Ev l d own nm cc nL ret pc' lc st h v h') : Ev l d own nm cc nL ret pc lc (.int x :: st) h v h' := by
  subst hp
  by_cases hc : x = 0
  · exact ev_pure (fun o => o.tl) (fun p e R s m args below meth c H locs cells Q ls ad C hl w => lv_if_ne C.1 C.2.1 hd ht (fun hn => absurd hc hn) (fun _ => w)) (kf hc)
  · exact ev_pure (fun o => o.tl) (fun p e R s m args below meth c H locs cells Q ls ad C hl w => lv_if_ne C.1 C.2.1 hd ht (fun _ => w) (fun hn => absurd hn hc)) (kt hc)
theorem ev_icmp_ne {x y : Int32} {off : Int} {tgt : Nat} (hd : decode cc pc = .ok (.if_icmp .ne off, 3)) (ht : (pc : Int) + off = (tgt : Int)) (hp : pc + 3 = pc') (kt : ¬ x = y → Ev l d own nm cc nL ret tgt lc st h v h') (kf : x = y → Ev l d own nm cc nL ret pc' lc st h v h') : Ev l d own nm cc nL ret pc lc (.int y :: .int x :: st) h v h' := by
  subst hp
  by_cases hc : x = y
  · exact ev_pure (fun o => o.tl.tl) (fun p e R s m args below meth c H locs cells Q ls ad C hl w => lv_icmp_ne C.1 C.2.1 hd ht (fun hn => absurd hc hn) (fun _ => w)) (kf hc)
  · exact ev_pure (fun o => o.tl.tl) (fun p e R s m args below meth c H locs cells Q ls ad C hl w => lv_icmp_ne C.1 C.2.1 hd ht (fun _ => w) (fun hn => absurd hn hc)) (kt hc)
theorem ev_if_lt {x : Int32} {off : Int} {tgt : Nat} (hd : decode cc pc = .ok (.ifCond .lt off, 3)) (ht : (pc : Int) + off = (tgt : Int)) (hp : pc + 3 = pc') (kt : x < 0 → Ev l d own nm cc nL ret tgt lc st h v h') (kf : ¬ x < 0 → Ev l d own nm cc nL ret pc' lc st h v h') : Ev l d own nm cc nL ret pc lc (.int x :: st) h v h' := by
  subst hp
  by_cases hc : x < 0
  · exact ev_pure (fun o => o.tl) (fun p e R s m args below meth c H locs cells Q ls ad C hl w => lv_if_lt C.1 C.2.1 hd ht (fun _ => w) (fun hn => absurd hc hn)) (kt hc)
  · exact ev_pure (fun o => o.tl) (fun p e R s m args below meth c H locs cells Q ls ad C hl w => lv_if_lt C.1 C.2.1 hd ht (fun hn => absurd hn hc) (fun _ => w)) (kf hc)
theorem ev_icmp_lt {x y : Int32} {off : Int} {tgt : Nat} (hd : decode cc pc = .ok (.if_icmp .lt off, 3)) (ht : (pc : Int) + off = (tgt : Int)) (hp : pc + 3 = pc') (kt : x < y → Ev l d own nm cc nL ret tgt lc st h v h') (kf : ¬ x < y → Ev l d own nm cc nL ret pc' lc st h v h') : Ev l d own nm cc nL ret pc lc (.int y :: .int x :: st) h v h' := by
  subst hp
  by_cases hc : x < y
  · exact ev_pure (fun o => o.tl.tl) (fun p e R s m args below meth c H locs cells Q ls ad C hl w => lv_icmp_lt C.1 C.2.1 hd ht (fun _ => w) (fun hn => absurd hc hn)) (kt hc)
  · exact ev_pure (fun o => o.tl.tl) (fun p e R s m args below meth c H locs cells Q ls ad C hl w => lv_icmp_lt C.1 C.2.1 hd ht (fun hn => absurd hn hc) (fun _ => w)) (kf hc)
theorem ev_if_ge {x : Int32} {off : Int} {tgt : Nat} (hd : decode cc pc = .ok (.ifCond .ge off, 3)) (ht : (pc : Int) + off = (tgt : Int)) (hp : pc + 3 = pc') (kt : 0 ≤ x → Ev l d own nm cc nL ret tgt lc st h v h') (kf : ¬ 0 ≤ x → Ev l d own nm cc nL ret pc' lc st h v h') : Ev l d own nm cc nL ret pc lc (.int x :: st) h v h' := by
  subst hp
  by_cases hc : 0 ≤ x
  · exact ev_pure (fun o => o.tl) (fun p e R s m args below meth c H locs cells Q ls ad C hl w => lv_if_ge C.1 C.2.1 hd ht (fun _ => w) (fun hn => absurd hc hn)) (kt hc)
  · exact ev_pure (fun o => o.tl) (fun p e R s m args below meth c H locs cells Q ls ad C hl w => lv_if_ge C.1 C.2.1 hd ht (fun hn => absurd hn hc) (fun _ => w)) (kf hc)
theorem ev_icmp_ge {x y : Int32} {off : Int} {tgt : Nat} (hd : decode cc pc = .ok (.if_icmp .ge off, 3)) (ht : (pc : Int) + off = (tgt : Int)) (hp : pc + 3 = pc') (kt : y ≤ x → Ev l d own nm cc nL ret tgt lc st h v h') (kf : ¬ y ≤ x → Ev l d own nm cc nL ret pc' lc st h v h') : Ev l d own nm cc nL ret pc lc (.int y :: .int x :: st) h v h' := by
  subst hp
  by_cases hc : y ≤ x
  · exact ev_pure (fun o => o.tl.tl) (fun p e R s m args below meth c H locs cells Q ls ad C hl w => lv_icmp_ge C.1 C.2.1 hd ht (fun _ => w) (fun hn => absurd hc hn)) (kt hc)
  · exact ev_pure (fun o => o.tl.tl) (fun p e R s m args below meth c H locs cells Q ls ad C hl w => lv_icmp_ge C.1 C.2.1 hd ht (fun hn => absurd hn hc) (fun _ => w)) (kf hc)
theorem ev_if_gt {x : Int32} {off : Int} {tgt : Nat} (hd : decode cc pc = .ok (.ifCond .gt off, 3)) (ht : (pc : Int) + off = (tgt : Int)) (hp : pc + 3 = pc') (kt : 0 < x → Ev l d own nm cc nL ret tgt lc st h v h') (kf : ¬ 0 < x → Ev l d own nm cc nL ret pc' lc st h v h') : Ev l d own nm cc nL ret pc lc (.int x :: st) h v h' := by
  subst hp
  by_cases hc : 0 < x
  · exact ev_pure (fun o => o.tl) (fun p e R s m args below meth c H locs cells Q ls ad C hl w => lv_if_gt C.1 C.2.1 hd ht (fun _ => w) (fun hn => absurd hc hn)) (kt hc)
  · exact ev_pure (fun o => o.tl) (fun p e R s m args below meth c H locs cells Q ls ad C hl w => lv_if_gt C.1 C.2.1 hd ht (fun hn => absurd hn hc) (fun _ => w)) (kf hc)
theorem ev_icmp_gt {x y : Int32} {off : Int} {tgt : Nat} (hd : decode cc pc = .ok (.if_icmp .gt off, 3)) (ht : (pc : Int) + off = (tgt : Int)) (hp : pc + 3 = pc') (kt : y < x → Ev l d own nm cc nL ret tgt lc st h v h') (kf : ¬ y < x → Ev l d own nm cc nL ret pc' lc st h v h') : Ev l d own nm cc nL ret pc lc (.int y :: .int x :: st) h v h' := by
  subst hp
  by_cases hc : y < x
  · exact ev_pure (fun o => o.tl.tl) (fun p e R s m args below meth c H locs cells Q ls ad C hl w => lv_icmp_gt C.1 C.2.1 hd ht (fun _ => w) (fun hn => absurd hc hn)) (kt hc)
  · exact ev_pure (fun o => o.tl.tl) (fun p e R s m args below meth c H locs cells Q ls ad C hl w => lv_icmp_gt C.1 C.2.1 hd ht (fun hn => absurd hn hc) (fun _ => w)) (kf hc)
theorem ev_if_le {x : Int32} {off : Int} {tgt : Nat} (hd : decode cc pc = .ok (.ifCond .le off, 3)) (ht : (pc : Int) + off = (tgt : Int)) (hp : pc + 3 = pc') (kt : x ≤ 0 → Ev l d own nm cc nL ret tgt lc st h v h') (kf : ¬ x ≤ 0 → Ev l d own nm cc nL ret pc' lc st h v h') : Ev l d own nm cc nL ret pc lc (.int x :: st) h v h' := by
  subst hp
  by_cases hc : x ≤ 0
  · exact ev_pure (fun o => o.tl) (fun p e R s m args below meth c H locs cells Q ls ad C hl w => lv_if_le C.1 C.2.1 hd ht (fun _ => w) (fun hn => absurd hc hn)) (kt hc)
  · exact ev_pure (fun o => o.tl) (fun p e R s m args below meth c H locs cells Q ls ad C hl w => lv_if_le C.1 C.2.1 hd ht (fun hn => absurd hn hc) (fun _ => w)) (kf hc)
theorem ev_icmp_le {x y : Int32} {off : Int} {tgt : Nat} (hd : decode cc pc = .ok (.if_icmp .le off, 3)) (ht : (pc : Int) + off = (tgt : Int)) (hp : pc + 3 = pc') (kt : x ≤ y → Ev l d own nm cc nL ret tgt lc st h v h') (kf : ¬ x ≤ y → Ev l d own nm cc nL ret pc' lc st h v h') : Ev l d own nm cc nL ret pc lc (.int y :: .int x :: st) h v h' := by
  subst hp
  by_cases hc : x ≤ y
  · exact ev_pure (fun o => o.tl.tl) (fun p e R s m args below meth c H locs cells Q ls ad C hl w => lv_icmp_le C.1 C.2.1 hd ht (fun _ => w) (fun hn => absurd hc hn)) (kt hc)
  · exact ev_pure (fun o => o.tl.tl) (fun p e R s m args below meth c H locs cells Q ls ad C hl w => lv_icmp_le C.1 C.2.1 hd ht (fun hn => absurd hn hc) (fun _ => w)) (kf hc)
theorem ev_goto {off : Int} {tgt : Nat} (hd : decode cc pc = .ok (.goto off, 3)) (ht : (pc : Int) + off = (tgt : Int)) (k : Ev l d own nm cc nL ret tgt lc st h v h') : Ev l d own nm cc nL ret pc lc st h v h' :=
  ev_pure (fun o => o) (fun p e R s m args below meth c H locs cells Q ls ad C hl w => lv_goto C.1 C.2.1 hd ht w) k
theorem ev_ifnull {a : Nat} {off : Int} (hd : decode cc pc = .ok (.ifnull off, 3)) (hp : pc + 3 = pc') (k : Ev l d own nm cc nL ret pc' lc st h v h') : Ev l d own nm cc nL ret pc lc (.ref a :: st) h v h' := by
  subst hp
  exact ev_pure (fun o => o.tl) (fun p e R s m args below meth c H locs cells Q ls ad C hl w => lv_ifnull C.1 C.2.1 hd w) k
theorem ev_ifnullN {off : Int} {tgt : Nat} (hd : decode cc pc = .ok (.ifnull off, 3)) (ht : (pc : Int) + off = (tgt : Int)) (k : Ev l d own nm cc nL ret tgt lc st h v h') : Ev l d own nm cc nL ret pc lc (.null :: st) h v h' :=
  ev_pure (fun o => o.tl) (fun p e R s m args below meth c H locs cells Q ls ad C hl w => lv_ifnullN C.1 C.2.1 hd ht w) k
theorem ev_ifnonnull {a : Nat} {off : Int} {tgt : Nat} (hd : decode cc pc = .ok (.ifnonnull off, 3)) (ht : (pc : Int) + off = (tgt : Int)) (k : Ev l d own nm cc nL ret tgt lc st h v h') : Ev l d own nm cc nL ret pc lc (.ref a :: st) h v h' :=
  ev_pure (fun o => o.tl) (fun p e R s m args below meth c H locs cells Q ls ad C hl w => lv_ifnonnull C.1 C.2.1 hd ht w) k
theorem ev_ifnonnullN {off : Int} (hd : decode cc pc = .ok (.ifnonnull off, 3)) (hp : pc + 3 = pc') (k : Ev l d own nm cc nL ret pc' lc st h v h') : Ev l d own nm cc nL ret pc lc (.null :: st) h v h' := by
  subst hp
  exact ev_pure (fun o => o.tl) (fun p e R s m args below meth c H locs cells Q ls ad C hl w => lv_ifnonnullN C.1 C.2.1 hd w) k
theorem ev_tableOut {dflt lo hi : Int} {offs : Array Int} {len : Nat} {x : Int32} {tgt : Nat} (hd : decode cc pc = .ok (.tableswitch dflt lo hi offs, len)) (hx : x.toInt < lo ∨ hi < x.toInt) (ht : (pc : Int) + dflt = (tgt : Int)) (k : Ev l d own nm cc nL ret tgt lc st h v h') : Ev l d own nm cc nL ret pc lc (.int x :: st) h v h' :=
  ev_pure (fun o => o.tl) (fun p e R s m args below meth c H locs cells Q ls ad C hl w => lv_tableOut C.1 C.2.1 hd hx ht w) k
theorem ev_tableIn {dflt lo hi : Int} {offs : Array Int} {len : Nat} {x : Int32} {off : Int} {tgt : Nat} (hd : decode cc pc = .ok (.tableswitch dflt lo hi offs, len)) (h1 : ¬ x.toInt < lo) (h2 : ¬ hi < x.toInt) (ho : offs[(x.toInt - lo).toNat]? = some off) (ht : (pc : Int) + off = (tgt : Int)) (k : Ev l d own nm cc nL ret tgt lc st h v h') : Ev l d own nm cc nL ret pc lc (.int x :: st) h v h' :=
  ev_pure (fun o => o.tl) (fun p e R s m args below meth c H locs cells Q ls ad C hl w => lv_tableIn C.1 C.2.1 hd h1 h2 ho ht w) k
def ev_as (ad : Nat → Nat) : Nat → ev_L → List (Nat × Value)
  | _, [] => []
  | i, none :: r => ev_as ad (i + 1) r
  | i, some v :: r => (i, ev_v ad v) :: ev_as ad (i + 1) r
theorem ev_as_of {ad : Nat → Nat} : ∀ (lc : ev_L) (i : Nat) (q : Nat × Value), q ∈ ev_as ad i lc → ∃ j v, q = (i + j, ev_v ad v) ∧ lc[j]? = some (some v)
  | [], _, _, h => absurd h List.not_mem_nil
  | none :: r, i, q, h => by
    obtain ⟨j, v, e, hj⟩ := ev_as_of r (i + 1) q h
    exact ⟨j + 1, v, by rw [e]; congr 1; omega, by rw [List.getElem?_cons_succ]; exact hj⟩
  | some w :: r, i, q, h => by
    rcases List.mem_cons.mp h with e | h
    · exact ⟨0, w, e, rfl⟩
    · obtain ⟨j, v, e, hj⟩ := ev_as_of r (i + 1) q h
      exact ⟨j + 1, v, by rw [e]; congr 1; omega, by rw [List.getElem?_cons_succ]; exact hj⟩
theorem ev_as_in {ad : Nat → Nat} : ∀ (lc : ev_L) (i j : Nat) (v : Value), lc[j]? = some (some v) → (i + j, ev_v ad v) ∈ ev_as ad i lc
  | [], _, _, _, h => by simp at h
  | none :: r, i, 0, v, h => by simp at h
  | none :: r, i, j + 1, v, h => by
    rw [List.getElem?_cons_succ] at h
    have := ev_as_in (ad := ad) r (i + 1) j v h
    rw [show i + 1 + j = i + (j + 1) by omega] at this
    exact this
  | some w :: r, i, 0, v, h => by
    rw [List.getElem?_cons_zero] at h
    cases h
    exact List.mem_cons_self
  | some w :: r, i, j + 1, v, h => by
    rw [List.getElem?_cons_succ] at h
    have := ev_as_in (ad := ad) r (i + 1) j v h
    rw [show i + 1 + j = i + (j + 1) by omega] at this
    exact List.mem_cons_of_mem _ this
theorem ev_h.has {ad : Nat → Nat} {ls : Array Slot} (hl : ev_h ad ls nL lc) : lv_has ls nL (ev_as ad 0 lc) := ⟨hl.1, hl.2.1, fun q hq => by
  obtain ⟨j, v, e, hj⟩ := ev_as_of lc 0 q hq
  rw [e, Nat.zero_add]
  exact hl.2.2 j v hj⟩
def ev_c1 (a : Option Value) : Bool := match a with
  | some (.long _) => false
  | some (.double _) => false
  | _ => true
def ev_pv (lc : ev_L) (i : Nat) : Prop := ∀ j u, j + 1 = i → lc[j]? = some (some u) → ¬ u.category = 2
theorem ev_c1_ne {u : Value} (h : ev_c1 (some u) = true) : ¬ u.category = 2 := by cases u <;> first | (cases h; done) | (simp [Value.category]; done)
theorem ev_pv0 (lc : ev_L) : ev_pv lc 0 := fun j u h => by omega
theorem ev_pvs {lc : ev_L} {i : Nat} {a : Option Value} (hi : lc[i]? = some a) (ha : ev_c1 a = true) : ev_pv lc (i + 1) := fun j u hj hu => by
  have : j = i := by omega
  subst this
  rw [hi] at hu
  cases hu
  exact ev_c1_ne ha
theorem ev_st1 {ad : Nat → Nat} {ls' : Array Slot} {i : Nat} {w : Value} (hp : ev_pv lc i) (hl' : lv_has ls' nL ((i, ev_v ad w) :: (ev_as ad 0 lc).filter (fun q => !(q.1 == i) && !(q.1 + 1 == i && q.2.category == 2)))) : ev_h ad ls' nL (lc.set i (some w)) := by
  refine ⟨hl'.1, hl'.2.1, fun j u hj => ?_⟩
  by_cases hji : i = j
  · subst hji
    rw [List.getElem?_set] at hj
    by_cases hb : i < lc.length
    · simp [hb] at hj
      subst hj
      exact hl'.2.2 _ List.mem_cons_self
    · simp [hb] at hj
  · rw [List.getElem?_set_ne hji] at hj
    have h1 := ev_as_in (ad := ad) lc 0 j u hj
    rw [Nat.zero_add] at h1
    refine hl'.2.2 (j, ev_v ad u) (List.mem_cons_of_mem _ (List.mem_filter.mpr ⟨h1, ?_⟩))
    have h2 : ¬ (j + 1 = i ∧ u.category = 2) := fun z => hp j u z.1 hj z.2
    simp only [ev_v_cat, Bool.and_eq_true, Bool.not_eq_true', beq_eq_false_iff_ne, ne_eq, Bool.and_eq_false_iff, Bool.not_eq_true]
    refine ⟨fun e => hji e.symm, ?_⟩
    by_cases hz : j + 1 = i
    · exact Or.inr fun e => h2 ⟨hz, e⟩
    · exact Or.inl hz
theorem ev_st2 {ad : Nat → Nat} {ls' : Array Slot} {i : Nat} {w : Value} (hp : ev_pv lc i) (hl' : lv_has ls' nL ((i, ev_v ad w) :: (ev_as ad 0 lc).filter (fun q => !(q.1 == i) && (!(q.1 == i + 1) && !(q.1 + 1 == i && q.2.category == 2))))) : ev_h ad ls' nL ((lc.set i (some w)).set (i + 1) none) := by
  refine ⟨hl'.1, hl'.2.1, fun j u hj => ?_⟩
  by_cases hj1 : i + 1 = j
  · subst hj1
    rw [List.getElem?_set] at hj
    by_cases hb : i + 1 < (lc.set i (some w)).length
    · simp [hb] at hj
    · simp [hb] at hj
  rw [List.getElem?_set_ne hj1] at hj
  by_cases hji : i = j
  · subst hji
    rw [List.getElem?_set] at hj
    by_cases hb : i < lc.length
    · simp [hb] at hj
      subst hj
      exact hl'.2.2 _ List.mem_cons_self
    · simp [hb] at hj
  · rw [List.getElem?_set_ne hji] at hj
    have h1 := ev_as_in (ad := ad) lc 0 j u hj
    rw [Nat.zero_add] at h1
    refine hl'.2.2 (j, ev_v ad u) (List.mem_cons_of_mem _ (List.mem_filter.mpr ⟨h1, ?_⟩))
    have h2 : ¬ (j + 1 = i ∧ u.category = 2) := fun z => hp j u z.1 hj z.2
    simp only [ev_v_cat, Bool.and_eq_true, Bool.not_eq_true', beq_eq_false_iff_ne, ne_eq, Bool.and_eq_false_iff, Bool.not_eq_true]
    refine ⟨fun e => hji e.symm, fun e => hj1 e.symm, ?_⟩
    by_cases hz : j + 1 = i
    · exact Or.inr fun e => h2 ⟨hz, e⟩
    · exact Or.inl hz
theorem ok_s.sto {lc' : ev_L} (o : ok_s h lc st) {i : Nat} {w : Value} (hw : ok_v h.length w) (hs : lc' = lc.set i (some w)) : ok_s h lc' st := by
  subst hs
  refine ⟨o.1, fun j u hj => ?_, o.2.2⟩
  by_cases hji : i = j
  · subst hji
    rw [List.getElem?_set] at hj
    by_cases hb : i < lc.length
    · simp [hb] at hj
      subst hj
      exact hw
    · simp [hb] at hj
  · rw [List.getElem?_set_ne hji] at hj
    exact o.2.1 j u hj
theorem ok_s.no (o : ok_s h lc st) (i : Nat) : ok_s h (lc.set i none) st := by
  refine ⟨o.1, fun j u hj => ?_, o.2.2⟩
  by_cases hji : i = j
  · subst hji
    rw [List.getElem?_set] at hj
    by_cases hb : i < lc.length
    · simp [hb] at hj
    · simp [hb] at hj
  · rw [List.getElem?_set_ne hji] at hj
    exact o.2.1 j u hj
theorem ev_loc {lc' : ev_L} {st' : List Value} (hok : ok_s h lc st → ok_s h lc' st')
    (hW : ∀ (p : Program) (e : Env) (R : Room) (s : State) (m : MethodId) (args : Array Value) (below : List Frame) (meth : Method) (c : Code) (H : Heap) (locs : List Loc) (cells : Nat) (Q : State → Prop) (ls : Array Slot) (ad : Nat → Nat), ev_C p s m args meth c own nm cc nL ret → ev_h ad ls nL lc → (∀ ls' : Array Slot, ev_h ad ls' nL lc' → W p l e R s m args below meth c H locs cells (1000 * cells) Q (F0 m pc' ls' (st'.map (ev_v ad)))) → W p l e R s m args below meth c H locs cells (1000 * cells) Q (F0 m pc ls (st.map (ev_v ad))))
    (k : Ev l d own nm cc nL ret pc' lc' st' h v h') : Ev l d own nm cc nL ret pc lc st h v h' := by
  intro o
  obtain ⟨k1, k2, k3, k4⟩ := k (hok o)
  exact ⟨k1, k2, k3, fun p e R s m args below meth c H locs cells mc ls D aC ad A C Dd hl h1 h2 h3 h4 h5 => hW p e R s m args below meth c H locs cells _ ls ad C hl (fun ls' hl' => k4 p e R s m args below meth c H locs cells mc ls' D aC ad A C Dd hl' h1 h2 h3 h4 h5)⟩
theorem ev_istore_0 {a0 : Option Value} {r : ev_L} {x : Int32} (hd : decode cc pc = .ok (.istore_n 0, 1)) (hp : pc + 1 = pc') (hn : 0 < nL) (k : Ev l d own nm cc nL ret pc' (some (.int x) :: r) st h v h') : Ev l d own nm cc nL ret pc (a0 :: r) (.int x :: st) h v h' := by
  subst hp
  exact ev_loc (lc := a0 :: r) (lc' := some (.int x) :: r) (fun o => (o.tl.sto (i := 0) (ok_int _ _) rfl)) (fun p e R s m args below meth c H locs cells Q ls ad C hl w => lv_istore_n C.1 C.2.1 hd rfl hl.has hn rfl (fun ls' hl' => w ls' (ev_st1 (lc := a0 :: r) (i := 0) (w := .int x) (ev_pv0 _) hl'))) k
theorem ev_lstore_0 {a0 a1 : Option Value} {r : ev_L} {x : Int64} (hd : decode cc pc = .ok (.lstore_n 0, 1)) (hp : pc + 1 = pc') (hn : 0 + 1 < nL) (k : Ev l d own nm cc nL ret pc' (some (.long x) :: none :: r) st h v h') : Ev l d own nm cc nL ret pc (a0 :: a1 :: r) (.long x :: st) h v h' := by
  subst hp
  exact ev_loc (lc := a0 :: a1 :: r) (lc' := some (.long x) :: none :: r) (fun o => ((o.tl.sto (i := 0) (ok_long _ _) rfl).no 1)) (fun p e R s m args below meth c H locs cells Q ls ad C hl w => lv_lstore_n C.1 C.2.1 hd rfl hl.has hn rfl (fun ls' hl' => w ls' (ev_st2 (lc := a0 :: a1 :: r) (i := 0) (w := .long x) (ev_pv0 _) hl'))) k
theorem ev_astore_0 {a0 : Option Value} {r : ev_L} {x : Nat} (hd : decode cc pc = .ok (.astore_n 0, 1)) (hp : pc + 1 = pc') (hn : 0 < nL) (k : Ev l d own nm cc nL ret pc' (some (.ref x) :: r) st h v h') : Ev l d own nm cc nL ret pc (a0 :: r) (.ref x :: st) h v h' := by
  subst hp
  exact ev_loc (lc := a0 :: r) (lc' := some (.ref x) :: r) (fun o => (o.tl.sto (i := 0) (o.hd) rfl)) (fun p e R s m args below meth c H locs cells Q ls ad C hl w => lv_astore_n C.1 C.2.1 hd rfl hl.has hn rfl (fun ls' hl' => w ls' (ev_st1 (lc := a0 :: r) (i := 0) (w := .ref x) (ev_pv0 _) hl'))) k
theorem ev_astore_0N {a0 : Option Value} {r : ev_L} (hd : decode cc pc = .ok (.astore_n 0, 1)) (hp : pc + 1 = pc') (hn : 0 < nL) (k : Ev l d own nm cc nL ret pc' (some (.null) :: r) st h v h') : Ev l d own nm cc nL ret pc (a0 :: r) (.null :: st) h v h' := by
  subst hp
  exact ev_loc (lc := a0 :: r) (lc' := some (.null) :: r) (fun o => (o.tl.sto (i := 0) (ok_null _) rfl)) (fun p e R s m args below meth c H locs cells Q ls ad C hl w => lv_astore_nN C.1 C.2.1 hd rfl hl.has hn rfl (fun ls' hl' => w ls' (ev_st1 (lc := a0 :: r) (i := 0) (w := .null) (ev_pv0 _) hl'))) k
theorem ev_iinc_0 {r : ev_L} {x : Int32} {n : Int} (c : Int32) (hd : decode cc pc = .ok (.iinc 0 n, 3)) (hp : pc + 3 = pc') (hc : Int32.ofInt n = c) (hn : 0 < nL) (k : Ev l d own nm cc nL ret pc' (some (.int (x + c)) :: r) st h v h') : Ev l d own nm cc nL ret pc (some (.int x) :: r) st h v h' := by
  subst hp
  subst hc
  refine ev_loc (lc := some (.int x) :: r) (lc' := some (.int (x + Int32.ofInt n)) :: r) (fun o => o.sto (i := 0) (ok_int _ _) rfl) (fun p e R s m args below meth c H locs cells Q ls ad C hl w => ?_) k
  obtain ⟨kx, hk⟩ := List.getElem?_of_mem (ev_as_in (ad := ad) (some (.int x) :: r) 0 0 (.int x) rfl)
  rw [Nat.zero_add] at hk
  exact lv_iinc C.1 C.2.1 hd hl.has hk rfl hn rfl (fun ls' hl' => w ls' (ev_st1 (lc := some (.int x) :: r) (i := 0) (w := .int (x + Int32.ofInt n)) (ev_pv0 _) hl'))
theorem ev_istore_1 {a0 a1 : Option Value} {r : ev_L} {x : Int32} (hd : decode cc pc = .ok (.istore_n 1, 1)) (hp : pc + 1 = pc') (hn : 1 < nL) (hq : ev_c1 a0 = true) (k : Ev l d own nm cc nL ret pc' (a0 :: some (.int x) :: r) st h v h') : Ev l d own nm cc nL ret pc (a0 :: a1 :: r) (.int x :: st) h v h' := by
  subst hp
  exact ev_loc (lc := a0 :: a1 :: r) (lc' := a0 :: some (.int x) :: r) (fun o => (o.tl.sto (i := 1) (ok_int _ _) rfl)) (fun p e R s m args below meth c H locs cells Q ls ad C hl w => lv_istore_n C.1 C.2.1 hd rfl hl.has hn rfl (fun ls' hl' => w ls' (ev_st1 (lc := a0 :: a1 :: r) (i := 1) (w := .int x) (ev_pvs (i := 0) rfl hq) hl'))) k
theorem ev_lstore_1 {a0 a1 a2 : Option Value} {r : ev_L} {x : Int64} (hd : decode cc pc = .ok (.lstore_n 1, 1)) (hp : pc + 1 = pc') (hn : 1 + 1 < nL) (hq : ev_c1 a0 = true) (k : Ev l d own nm cc nL ret pc' (a0 :: some (.long x) :: none :: r) st h v h') : Ev l d own nm cc nL ret pc (a0 :: a1 :: a2 :: r) (.long x :: st) h v h' := by
  subst hp
  exact ev_loc (lc := a0 :: a1 :: a2 :: r) (lc' := a0 :: some (.long x) :: none :: r) (fun o => ((o.tl.sto (i := 1) (ok_long _ _) rfl).no 2)) (fun p e R s m args below meth c H locs cells Q ls ad C hl w => lv_lstore_n C.1 C.2.1 hd rfl hl.has hn rfl (fun ls' hl' => w ls' (ev_st2 (lc := a0 :: a1 :: a2 :: r) (i := 1) (w := .long x) (ev_pvs (i := 0) rfl hq) hl'))) k
theorem ev_astore_1 {a0 a1 : Option Value} {r : ev_L} {x : Nat} (hd : decode cc pc = .ok (.astore_n 1, 1)) (hp : pc + 1 = pc') (hn : 1 < nL) (hq : ev_c1 a0 = true) (k : Ev l d own nm cc nL ret pc' (a0 :: some (.ref x) :: r) st h v h') : Ev l d own nm cc nL ret pc (a0 :: a1 :: r) (.ref x :: st) h v h' := by
  subst hp
  exact ev_loc (lc := a0 :: a1 :: r) (lc' := a0 :: some (.ref x) :: r) (fun o => (o.tl.sto (i := 1) (o.hd) rfl)) (fun p e R s m args below meth c H locs cells Q ls ad C hl w => lv_astore_n C.1 C.2.1 hd rfl hl.has hn rfl (fun ls' hl' => w ls' (ev_st1 (lc := a0 :: a1 :: r) (i := 1) (w := .ref x) (ev_pvs (i := 0) rfl hq) hl'))) k
theorem ev_astore_1N {a0 a1 : Option Value} {r : ev_L} (hd : decode cc pc = .ok (.astore_n 1, 1)) (hp : pc + 1 = pc') (hn : 1 < nL) (hq : ev_c1 a0 = true) (k : Ev l d own nm cc nL ret pc' (a0 :: some (.null) :: r) st h v h') : Ev l d own nm cc nL ret pc (a0 :: a1 :: r) (.null :: st) h v h' := by
  subst hp
  exact ev_loc (lc := a0 :: a1 :: r) (lc' := a0 :: some (.null) :: r) (fun o => (o.tl.sto (i := 1) (ok_null _) rfl)) (fun p e R s m args below meth c H locs cells Q ls ad C hl w => lv_astore_nN C.1 C.2.1 hd rfl hl.has hn rfl (fun ls' hl' => w ls' (ev_st1 (lc := a0 :: a1 :: r) (i := 1) (w := .null) (ev_pvs (i := 0) rfl hq) hl'))) k
theorem ev_iinc_1 {a0 : Option Value} {r : ev_L} {x : Int32} {n : Int} (c : Int32) (hd : decode cc pc = .ok (.iinc 1 n, 3)) (hp : pc + 3 = pc') (hc : Int32.ofInt n = c) (hn : 1 < nL) (hq : ev_c1 a0 = true) (k : Ev l d own nm cc nL ret pc' (a0 :: some (.int (x + c)) :: r) st h v h') : Ev l d own nm cc nL ret pc (a0 :: some (.int x) :: r) st h v h' := by
  subst hp
  subst hc
  refine ev_loc (lc := a0 :: some (.int x) :: r) (lc' := a0 :: some (.int (x + Int32.ofInt n)) :: r) (fun o => o.sto (i := 1) (ok_int _ _) rfl) (fun p e R s m args below meth c H locs cells Q ls ad C hl w => ?_) k
  obtain ⟨kx, hk⟩ := List.getElem?_of_mem (ev_as_in (ad := ad) (a0 :: some (.int x) :: r) 0 1 (.int x) rfl)
  rw [Nat.zero_add] at hk
  exact lv_iinc C.1 C.2.1 hd hl.has hk rfl hn rfl (fun ls' hl' => w ls' (ev_st1 (lc := a0 :: some (.int x) :: r) (i := 1) (w := .int (x + Int32.ofInt n)) (ev_pvs (i := 0) rfl hq) hl'))
theorem ev_istore_2 {a0 a1 a2 : Option Value} {r : ev_L} {x : Int32} (hd : decode cc pc = .ok (.istore_n 2, 1)) (hp : pc + 1 = pc') (hn : 2 < nL) (hq : ev_c1 a1 = true) (k : Ev l d own nm cc nL ret pc' (a0 :: a1 :: some (.int x) :: r) st h v h') : Ev l d own nm cc nL ret pc (a0 :: a1 :: a2 :: r) (.int x :: st) h v h' := by
  subst hp
  exact ev_loc (lc := a0 :: a1 :: a2 :: r) (lc' := a0 :: a1 :: some (.int x) :: r) (fun o => (o.tl.sto (i := 2) (ok_int _ _) rfl)) (fun p e R s m args below meth c H locs cells Q ls ad C hl w => lv_istore_n C.1 C.2.1 hd rfl hl.has hn rfl (fun ls' hl' => w ls' (ev_st1 (lc := a0 :: a1 :: a2 :: r) (i := 2) (w := .int x) (ev_pvs (i := 1) rfl hq) hl'))) k
theorem ev_lstore_2 {a0 a1 a2 a3 : Option Value} {r : ev_L} {x : Int64} (hd : decode cc pc = .ok (.lstore_n 2, 1)) (hp : pc + 1 = pc') (hn : 2 + 1 < nL) (hq : ev_c1 a1 = true) (k : Ev l d own nm cc nL ret pc' (a0 :: a1 :: some (.long x) :: none :: r) st h v h') : Ev l d own nm cc nL ret pc (a0 :: a1 :: a2 :: a3 :: r) (.long x :: st) h v h' := by
  subst hp
  exact ev_loc (lc := a0 :: a1 :: a2 :: a3 :: r) (lc' := a0 :: a1 :: some (.long x) :: none :: r) (fun o => ((o.tl.sto (i := 2) (ok_long _ _) rfl).no 3)) (fun p e R s m args below meth c H locs cells Q ls ad C hl w => lv_lstore_n C.1 C.2.1 hd rfl hl.has hn rfl (fun ls' hl' => w ls' (ev_st2 (lc := a0 :: a1 :: a2 :: a3 :: r) (i := 2) (w := .long x) (ev_pvs (i := 1) rfl hq) hl'))) k
theorem ev_astore_2 {a0 a1 a2 : Option Value} {r : ev_L} {x : Nat} (hd : decode cc pc = .ok (.astore_n 2, 1)) (hp : pc + 1 = pc') (hn : 2 < nL) (hq : ev_c1 a1 = true) (k : Ev l d own nm cc nL ret pc' (a0 :: a1 :: some (.ref x) :: r) st h v h') : Ev l d own nm cc nL ret pc (a0 :: a1 :: a2 :: r) (.ref x :: st) h v h' := by
  subst hp
  exact ev_loc (lc := a0 :: a1 :: a2 :: r) (lc' := a0 :: a1 :: some (.ref x) :: r) (fun o => (o.tl.sto (i := 2) (o.hd) rfl)) (fun p e R s m args below meth c H locs cells Q ls ad C hl w => lv_astore_n C.1 C.2.1 hd rfl hl.has hn rfl (fun ls' hl' => w ls' (ev_st1 (lc := a0 :: a1 :: a2 :: r) (i := 2) (w := .ref x) (ev_pvs (i := 1) rfl hq) hl'))) k
theorem ev_astore_2N {a0 a1 a2 : Option Value} {r : ev_L} (hd : decode cc pc = .ok (.astore_n 2, 1)) (hp : pc + 1 = pc') (hn : 2 < nL) (hq : ev_c1 a1 = true) (k : Ev l d own nm cc nL ret pc' (a0 :: a1 :: some (.null) :: r) st h v h') : Ev l d own nm cc nL ret pc (a0 :: a1 :: a2 :: r) (.null :: st) h v h' := by
  subst hp
  exact ev_loc (lc := a0 :: a1 :: a2 :: r) (lc' := a0 :: a1 :: some (.null) :: r) (fun o => (o.tl.sto (i := 2) (ok_null _) rfl)) (fun p e R s m args below meth c H locs cells Q ls ad C hl w => lv_astore_nN C.1 C.2.1 hd rfl hl.has hn rfl (fun ls' hl' => w ls' (ev_st1 (lc := a0 :: a1 :: a2 :: r) (i := 2) (w := .null) (ev_pvs (i := 1) rfl hq) hl'))) k
theorem ev_iinc_2 {a0 a1 : Option Value} {r : ev_L} {x : Int32} {n : Int} (c : Int32) (hd : decode cc pc = .ok (.iinc 2 n, 3)) (hp : pc + 3 = pc') (hc : Int32.ofInt n = c) (hn : 2 < nL) (hq : ev_c1 a1 = true) (k : Ev l d own nm cc nL ret pc' (a0 :: a1 :: some (.int (x + c)) :: r) st h v h') : Ev l d own nm cc nL ret pc (a0 :: a1 :: some (.int x) :: r) st h v h' := by
  subst hp
  subst hc
  refine ev_loc (lc := a0 :: a1 :: some (.int x) :: r) (lc' := a0 :: a1 :: some (.int (x + Int32.ofInt n)) :: r) (fun o => o.sto (i := 2) (ok_int _ _) rfl) (fun p e R s m args below meth c H locs cells Q ls ad C hl w => ?_) k
  obtain ⟨kx, hk⟩ := List.getElem?_of_mem (ev_as_in (ad := ad) (a0 :: a1 :: some (.int x) :: r) 0 2 (.int x) rfl)
  rw [Nat.zero_add] at hk
  exact lv_iinc C.1 C.2.1 hd hl.has hk rfl hn rfl (fun ls' hl' => w ls' (ev_st1 (lc := a0 :: a1 :: some (.int x) :: r) (i := 2) (w := .int (x + Int32.ofInt n)) (ev_pvs (i := 1) rfl hq) hl'))
theorem ev_istore_3 {a0 a1 a2 a3 : Option Value} {r : ev_L} {x : Int32} (hd : decode cc pc = .ok (.istore_n 3, 1)) (hp : pc + 1 = pc') (hn : 3 < nL) (hq : ev_c1 a2 = true) (k : Ev l d own nm cc nL ret pc' (a0 :: a1 :: a2 :: some (.int x) :: r) st h v h') : Ev l d own nm cc nL ret pc (a0 :: a1 :: a2 :: a3 :: r) (.int x :: st) h v h' := by
  subst hp
  exact ev_loc (lc := a0 :: a1 :: a2 :: a3 :: r) (lc' := a0 :: a1 :: a2 :: some (.int x) :: r) (fun o => (o.tl.sto (i := 3) (ok_int _ _) rfl)) (fun p e R s m args below meth c H locs cells Q ls ad C hl w => lv_istore_n C.1 C.2.1 hd rfl hl.has hn rfl (fun ls' hl' => w ls' (ev_st1 (lc := a0 :: a1 :: a2 :: a3 :: r) (i := 3) (w := .int x) (ev_pvs (i := 2) rfl hq) hl'))) k
theorem ev_lstore_3 {a0 a1 a2 a3 a4 : Option Value} {r : ev_L} {x : Int64} (hd : decode cc pc = .ok (.lstore_n 3, 1)) (hp : pc + 1 = pc') (hn : 3 + 1 < nL) (hq : ev_c1 a2 = true) (k : Ev l d own nm cc nL ret pc' (a0 :: a1 :: a2 :: some (.long x) :: none :: r) st h v h') : Ev l d own nm cc nL ret pc (a0 :: a1 :: a2 :: a3 :: a4 :: r) (.long x :: st) h v h' := by
  subst hp
  exact ev_loc (lc := a0 :: a1 :: a2 :: a3 :: a4 :: r) (lc' := a0 :: a1 :: a2 :: some (.long x) :: none :: r) (fun o => ((o.tl.sto (i := 3) (ok_long _ _) rfl).no 4)) (fun p e R s m args below meth c H locs cells Q ls ad C hl w => lv_lstore_n C.1 C.2.1 hd rfl hl.has hn rfl (fun ls' hl' => w ls' (ev_st2 (lc := a0 :: a1 :: a2 :: a3 :: a4 :: r) (i := 3) (w := .long x) (ev_pvs (i := 2) rfl hq) hl'))) k
theorem ev_astore_3 {a0 a1 a2 a3 : Option Value} {r : ev_L} {x : Nat} (hd : decode cc pc = .ok (.astore_n 3, 1)) (hp : pc + 1 = pc') (hn : 3 < nL) (hq : ev_c1 a2 = true) (k : Ev l d own nm cc nL ret pc' (a0 :: a1 :: a2 :: some (.ref x) :: r) st h v h') : Ev l d own nm cc nL ret pc (a0 :: a1 :: a2 :: a3 :: r) (.ref x :: st) h v h' := by
  subst hp
  exact ev_loc (lc := a0 :: a1 :: a2 :: a3 :: r) (lc' := a0 :: a1 :: a2 :: some (.ref x) :: r) (fun o => (o.tl.sto (i := 3) (o.hd) rfl)) (fun p e R s m args below meth c H locs cells Q ls ad C hl w => lv_astore_n C.1 C.2.1 hd rfl hl.has hn rfl (fun ls' hl' => w ls' (ev_st1 (lc := a0 :: a1 :: a2 :: a3 :: r) (i := 3) (w := .ref x) (ev_pvs (i := 2) rfl hq) hl'))) k
theorem ev_astore_3N {a0 a1 a2 a3 : Option Value} {r : ev_L} (hd : decode cc pc = .ok (.astore_n 3, 1)) (hp : pc + 1 = pc') (hn : 3 < nL) (hq : ev_c1 a2 = true) (k : Ev l d own nm cc nL ret pc' (a0 :: a1 :: a2 :: some (.null) :: r) st h v h') : Ev l d own nm cc nL ret pc (a0 :: a1 :: a2 :: a3 :: r) (.null :: st) h v h' := by
  subst hp
  exact ev_loc (lc := a0 :: a1 :: a2 :: a3 :: r) (lc' := a0 :: a1 :: a2 :: some (.null) :: r) (fun o => (o.tl.sto (i := 3) (ok_null _) rfl)) (fun p e R s m args below meth c H locs cells Q ls ad C hl w => lv_astore_nN C.1 C.2.1 hd rfl hl.has hn rfl (fun ls' hl' => w ls' (ev_st1 (lc := a0 :: a1 :: a2 :: a3 :: r) (i := 3) (w := .null) (ev_pvs (i := 2) rfl hq) hl'))) k
theorem ev_iinc_3 {a0 a1 a2 : Option Value} {r : ev_L} {x : Int32} {n : Int} (c : Int32) (hd : decode cc pc = .ok (.iinc 3 n, 3)) (hp : pc + 3 = pc') (hc : Int32.ofInt n = c) (hn : 3 < nL) (hq : ev_c1 a2 = true) (k : Ev l d own nm cc nL ret pc' (a0 :: a1 :: a2 :: some (.int (x + c)) :: r) st h v h') : Ev l d own nm cc nL ret pc (a0 :: a1 :: a2 :: some (.int x) :: r) st h v h' := by
  subst hp
  subst hc
  refine ev_loc (lc := a0 :: a1 :: a2 :: some (.int x) :: r) (lc' := a0 :: a1 :: a2 :: some (.int (x + Int32.ofInt n)) :: r) (fun o => o.sto (i := 3) (ok_int _ _) rfl) (fun p e R s m args below meth c H locs cells Q ls ad C hl w => ?_) k
  obtain ⟨kx, hk⟩ := List.getElem?_of_mem (ev_as_in (ad := ad) (a0 :: a1 :: a2 :: some (.int x) :: r) 0 3 (.int x) rfl)
  rw [Nat.zero_add] at hk
  exact lv_iinc C.1 C.2.1 hd hl.has hk rfl hn rfl (fun ls' hl' => w ls' (ev_st1 (lc := a0 :: a1 :: a2 :: some (.int x) :: r) (i := 3) (w := .int (x + Int32.ofInt n)) (ev_pvs (i := 2) rfl hq) hl'))
theorem ev_istore_4 {a0 a1 a2 a3 a4 : Option Value} {r : ev_L} {x : Int32} (hd : decode cc pc = .ok (.istore 4, 2)) (hp : pc + 2 = pc') (hn : 4 < nL) (hq : ev_c1 a3 = true) (k : Ev l d own nm cc nL ret pc' (a0 :: a1 :: a2 :: a3 :: some (.int x) :: r) st h v h') : Ev l d own nm cc nL ret pc (a0 :: a1 :: a2 :: a3 :: a4 :: r) (.int x :: st) h v h' := by
  subst hp
  exact ev_loc (lc := a0 :: a1 :: a2 :: a3 :: a4 :: r) (lc' := a0 :: a1 :: a2 :: a3 :: some (.int x) :: r) (fun o => (o.tl.sto (i := 4) (ok_int _ _) rfl)) (fun p e R s m args below meth c H locs cells Q ls ad C hl w => lv_istore C.1 C.2.1 hd hl.has hn rfl (fun ls' hl' => w ls' (ev_st1 (lc := a0 :: a1 :: a2 :: a3 :: a4 :: r) (i := 4) (w := .int x) (ev_pvs (i := 3) rfl hq) hl'))) k
theorem ev_lstore_4 {a0 a1 a2 a3 a4 a5 : Option Value} {r : ev_L} {x : Int64} (hd : decode cc pc = .ok (.lstore 4, 2)) (hp : pc + 2 = pc') (hn : 4 + 1 < nL) (hq : ev_c1 a3 = true) (k : Ev l d own nm cc nL ret pc' (a0 :: a1 :: a2 :: a3 :: some (.long x) :: none :: r) st h v h') : Ev l d own nm cc nL ret pc (a0 :: a1 :: a2 :: a3 :: a4 :: a5 :: r) (.long x :: st) h v h' := by
  subst hp
  exact ev_loc (lc := a0 :: a1 :: a2 :: a3 :: a4 :: a5 :: r) (lc' := a0 :: a1 :: a2 :: a3 :: some (.long x) :: none :: r) (fun o => ((o.tl.sto (i := 4) (ok_long _ _) rfl).no 5)) (fun p e R s m args below meth c H locs cells Q ls ad C hl w => lv_lstore C.1 C.2.1 hd hl.has hn rfl (fun ls' hl' => w ls' (ev_st2 (lc := a0 :: a1 :: a2 :: a3 :: a4 :: a5 :: r) (i := 4) (w := .long x) (ev_pvs (i := 3) rfl hq) hl'))) k
theorem ev_astore_4 {a0 a1 a2 a3 a4 : Option Value} {r : ev_L} {x : Nat} (hd : decode cc pc = .ok (.astore 4, 2)) (hp : pc + 2 = pc') (hn : 4 < nL) (hq : ev_c1 a3 = true) (k : Ev l d own nm cc nL ret pc' (a0 :: a1 :: a2 :: a3 :: some (.ref x) :: r) st h v h') : Ev l d own nm cc nL ret pc (a0 :: a1 :: a2 :: a3 :: a4 :: r) (.ref x :: st) h v h' := by
  subst hp
  exact ev_loc (lc := a0 :: a1 :: a2 :: a3 :: a4 :: r) (lc' := a0 :: a1 :: a2 :: a3 :: some (.ref x) :: r) (fun o => (o.tl.sto (i := 4) (o.hd) rfl)) (fun p e R s m args below meth c H locs cells Q ls ad C hl w => lv_astore C.1 C.2.1 hd hl.has hn rfl (fun ls' hl' => w ls' (ev_st1 (lc := a0 :: a1 :: a2 :: a3 :: a4 :: r) (i := 4) (w := .ref x) (ev_pvs (i := 3) rfl hq) hl'))) k
theorem ev_astore_4N {a0 a1 a2 a3 a4 : Option Value} {r : ev_L} (hd : decode cc pc = .ok (.astore 4, 2)) (hp : pc + 2 = pc') (hn : 4 < nL) (hq : ev_c1 a3 = true) (k : Ev l d own nm cc nL ret pc' (a0 :: a1 :: a2 :: a3 :: some (.null) :: r) st h v h') : Ev l d own nm cc nL ret pc (a0 :: a1 :: a2 :: a3 :: a4 :: r) (.null :: st) h v h' := by
  subst hp
  exact ev_loc (lc := a0 :: a1 :: a2 :: a3 :: a4 :: r) (lc' := a0 :: a1 :: a2 :: a3 :: some (.null) :: r) (fun o => (o.tl.sto (i := 4) (ok_null _) rfl)) (fun p e R s m args below meth c H locs cells Q ls ad C hl w => lv_astoreN C.1 C.2.1 hd hl.has hn rfl (fun ls' hl' => w ls' (ev_st1 (lc := a0 :: a1 :: a2 :: a3 :: a4 :: r) (i := 4) (w := .null) (ev_pvs (i := 3) rfl hq) hl'))) k
theorem ev_iinc_4 {a0 a1 a2 a3 : Option Value} {r : ev_L} {x : Int32} {n : Int} (c : Int32) (hd : decode cc pc = .ok (.iinc 4 n, 3)) (hp : pc + 3 = pc') (hc : Int32.ofInt n = c) (hn : 4 < nL) (hq : ev_c1 a3 = true) (k : Ev l d own nm cc nL ret pc' (a0 :: a1 :: a2 :: a3 :: some (.int (x + c)) :: r) st h v h') : Ev l d own nm cc nL ret pc (a0 :: a1 :: a2 :: a3 :: some (.int x) :: r) st h v h' := by
  subst hp
  subst hc
  refine ev_loc (lc := a0 :: a1 :: a2 :: a3 :: some (.int x) :: r) (lc' := a0 :: a1 :: a2 :: a3 :: some (.int (x + Int32.ofInt n)) :: r) (fun o => o.sto (i := 4) (ok_int _ _) rfl) (fun p e R s m args below meth c H locs cells Q ls ad C hl w => ?_) k
  obtain ⟨kx, hk⟩ := List.getElem?_of_mem (ev_as_in (ad := ad) (a0 :: a1 :: a2 :: a3 :: some (.int x) :: r) 0 4 (.int x) rfl)
  rw [Nat.zero_add] at hk
  exact lv_iinc C.1 C.2.1 hd hl.has hk rfl hn rfl (fun ls' hl' => w ls' (ev_st1 (lc := a0 :: a1 :: a2 :: a3 :: some (.int x) :: r) (i := 4) (w := .int (x + Int32.ofInt n)) (ev_pvs (i := 3) rfl hq) hl'))
theorem ev_istore_5 {a0 a1 a2 a3 a4 a5 : Option Value} {r : ev_L} {x : Int32} (hd : decode cc pc = .ok (.istore 5, 2)) (hp : pc + 2 = pc') (hn : 5 < nL) (hq : ev_c1 a4 = true) (k : Ev l d own nm cc nL ret pc' (a0 :: a1 :: a2 :: a3 :: a4 :: some (.int x) :: r) st h v h') : Ev l d own nm cc nL ret pc (a0 :: a1 :: a2 :: a3 :: a4 :: a5 :: r) (.int x :: st) h v h' := by
  subst hp
  exact ev_loc (lc := a0 :: a1 :: a2 :: a3 :: a4 :: a5 :: r) (lc' := a0 :: a1 :: a2 :: a3 :: a4 :: some (.int x) :: r) (fun o => (o.tl.sto (i := 5) (ok_int _ _) rfl)) (fun p e R s m args below meth c H locs cells Q ls ad C hl w => lv_istore C.1 C.2.1 hd hl.has hn rfl (fun ls' hl' => w ls' (ev_st1 (lc := a0 :: a1 :: a2 :: a3 :: a4 :: a5 :: r) (i := 5) (w := .int x) (ev_pvs (i := 4) rfl hq) hl'))) k
theorem ev_lstore_5 {a0 a1 a2 a3 a4 a5 a6 : Option Value} {r : ev_L} {x : Int64} (hd : decode cc pc = .ok (.lstore 5, 2)) (hp : pc + 2 = pc') (hn : 5 + 1 < nL) (hq : ev_c1 a4 = true) (k : Ev l d own nm cc nL ret pc' (a0 :: a1 :: a2 :: a3 :: a4 :: some (.long x) :: none :: r) st h v h') : Ev l d own nm cc nL ret pc (a0 :: a1 :: a2 :: a3 :: a4 :: a5 :: a6 :: r) (.long x :: st) h v h' := by
  subst hp
  exact ev_loc (lc := a0 :: a1 :: a2 :: a3 :: a4 :: a5 :: a6 :: r) (lc' := a0 :: a1 :: a2 :: a3 :: a4 :: some (.long x) :: none :: r) (fun o => ((o.tl.sto (i := 5) (ok_long _ _) rfl).no 6)) (fun p e R s m args below meth c H locs cells Q ls ad C hl w => lv_lstore C.1 C.2.1 hd hl.has hn rfl (fun ls' hl' => w ls' (ev_st2 (lc := a0 :: a1 :: a2 :: a3 :: a4 :: a5 :: a6 :: r) (i := 5) (w := .long x) (ev_pvs (i := 4) rfl hq) hl'))) k
theorem ev_astore_5 {a0 a1 a2 a3 a4 a5 : Option Value} {r : ev_L} {x : Nat} (hd : decode cc pc = .ok (.astore 5, 2)) (hp : pc + 2 = pc') (hn : 5 < nL) (hq : ev_c1 a4 = true) (k : Ev l d own nm cc nL ret pc' (a0 :: a1 :: a2 :: a3 :: a4 :: some (.ref x) :: r) st h v h') : Ev l d own nm cc nL ret pc (a0 :: a1 :: a2 :: a3 :: a4 :: a5 :: r) (.ref x :: st) h v h' := by
  subst hp
  exact ev_loc (lc := a0 :: a1 :: a2 :: a3 :: a4 :: a5 :: r) (lc' := a0 :: a1 :: a2 :: a3 :: a4 :: some (.ref x) :: r) (fun o => (o.tl.sto (i := 5) (o.hd) rfl)) (fun p e R s m args below meth c H locs cells Q ls ad C hl w => lv_astore C.1 C.2.1 hd hl.has hn rfl (fun ls' hl' => w ls' (ev_st1 (lc := a0 :: a1 :: a2 :: a3 :: a4 :: a5 :: r) (i := 5) (w := .ref x) (ev_pvs (i := 4) rfl hq) hl'))) k
theorem ev_astore_5N {a0 a1 a2 a3 a4 a5 : Option Value} {r : ev_L} (hd : decode cc pc = .ok (.astore 5, 2)) (hp : pc + 2 = pc') (hn : 5 < nL) (hq : ev_c1 a4 = true) (k : Ev l d own nm cc nL ret pc' (a0 :: a1 :: a2 :: a3 :: a4 :: some (.null) :: r) st h v h') : Ev l d own nm cc nL ret pc (a0 :: a1 :: a2 :: a3 :: a4 :: a5 :: r) (.null :: st) h v h' := by
  subst hp
  exact ev_loc (lc := a0 :: a1 :: a2 :: a3 :: a4 :: a5 :: r) (lc' := a0 :: a1 :: a2 :: a3 :: a4 :: some (.null) :: r) (fun o => (o.tl.sto (i := 5) (ok_null _) rfl)) (fun p e R s m args below meth c H locs cells Q ls ad C hl w => lv_astoreN C.1 C.2.1 hd hl.has hn rfl (fun ls' hl' => w ls' (ev_st1 (lc := a0 :: a1 :: a2 :: a3 :: a4 :: a5 :: r) (i := 5) (w := .null) (ev_pvs (i := 4) rfl hq) hl'))) k
theorem ev_iinc_5 {a0 a1 a2 a3 a4 : Option Value} {r : ev_L} {x : Int32} {n : Int} (c : Int32) (hd : decode cc pc = .ok (.iinc 5 n, 3)) (hp : pc + 3 = pc') (hc : Int32.ofInt n = c) (hn : 5 < nL) (hq : ev_c1 a4 = true) (k : Ev l d own nm cc nL ret pc' (a0 :: a1 :: a2 :: a3 :: a4 :: some (.int (x + c)) :: r) st h v h') : Ev l d own nm cc nL ret pc (a0 :: a1 :: a2 :: a3 :: a4 :: some (.int x) :: r) st h v h' := by
  subst hp
  subst hc
  refine ev_loc (lc := a0 :: a1 :: a2 :: a3 :: a4 :: some (.int x) :: r) (lc' := a0 :: a1 :: a2 :: a3 :: a4 :: some (.int (x + Int32.ofInt n)) :: r) (fun o => o.sto (i := 5) (ok_int _ _) rfl) (fun p e R s m args below meth c H locs cells Q ls ad C hl w => ?_) k
  obtain ⟨kx, hk⟩ := List.getElem?_of_mem (ev_as_in (ad := ad) (a0 :: a1 :: a2 :: a3 :: a4 :: some (.int x) :: r) 0 5 (.int x) rfl)
  rw [Nat.zero_add] at hk
  exact lv_iinc C.1 C.2.1 hd hl.has hk rfl hn rfl (fun ls' hl' => w ls' (ev_st1 (lc := a0 :: a1 :: a2 :: a3 :: a4 :: some (.int x) :: r) (i := 5) (w := .int (x + Int32.ofInt n)) (ev_pvs (i := 4) rfl hq) hl'))
theorem ev_istore_6 {a0 a1 a2 a3 a4 a5 a6 : Option Value} {r : ev_L} {x : Int32} (hd : decode cc pc = .ok (.istore 6, 2)) (hp : pc + 2 = pc') (hn : 6 < nL) (hq : ev_c1 a5 = true) (k : Ev l d own nm cc nL ret pc' (a0 :: a1 :: a2 :: a3 :: a4 :: a5 :: some (.int x) :: r) st h v h') : Ev l d own nm cc nL ret pc (a0 :: a1 :: a2 :: a3 :: a4 :: a5 :: a6 :: r) (.int x :: st) h v h' := by
  subst hp
  exact ev_loc (lc := a0 :: a1 :: a2 :: a3 :: a4 :: a5 :: a6 :: r) (lc' := a0 :: a1 :: a2 :: a3 :: a4 :: a5 :: some (.int x) :: r) (fun o => (o.tl.sto (i := 6) (ok_int _ _) rfl)) (fun p e R s m args below meth c H locs cells Q ls ad C hl w => lv_istore C.1 C.2.1 hd hl.has hn rfl (fun ls' hl' => w ls' (ev_st1 (lc := a0 :: a1 :: a2 :: a3 :: a4 :: a5 :: a6 :: r) (i := 6) (w := .int x) (ev_pvs (i := 5) rfl hq) hl'))) k
theorem ev_lstore_6 {a0 a1 a2 a3 a4 a5 a6 a7 : Option Value} {r : ev_L} {x : Int64} (hd : decode cc pc = .ok (.lstore 6, 2)) (hp : pc + 2 = pc') (hn : 6 + 1 < nL) (hq : ev_c1 a5 = true) (k : Ev l d own nm cc nL ret pc' (a0 :: a1 :: a2 :: a3 :: a4 :: a5 :: some (.long x) :: none :: r) st h v h') : Ev l d own nm cc nL ret pc (a0 :: a1 :: a2 :: a3 :: a4 :: a5 :: a6 :: a7 :: r) (.long x :: st) h v h' := by
  subst hp
  exact ev_loc (lc := a0 :: a1 :: a2 :: a3 :: a4 :: a5 :: a6 :: a7 :: r) (lc' := a0 :: a1 :: a2 :: a3 :: a4 :: a5 :: some (.long x) :: none :: r) (fun o => ((o.tl.sto (i := 6) (ok_long _ _) rfl).no 7)) (fun p e R s m args below meth c H locs cells Q ls ad C hl w => lv_lstore C.1 C.2.1 hd hl.has hn rfl (fun ls' hl' => w ls' (ev_st2 (lc := a0 :: a1 :: a2 :: a3 :: a4 :: a5 :: a6 :: a7 :: r) (i := 6) (w := .long x) (ev_pvs (i := 5) rfl hq) hl'))) k
theorem ev_astore_6 {a0 a1 a2 a3 a4 a5 a6 : Option Value} {r : ev_L} {x : Nat} (hd : decode cc pc = .ok (.astore 6, 2)) (hp : pc + 2 = pc') (hn : 6 < nL) (hq : ev_c1 a5 = true) (k : Ev l d own nm cc nL ret pc' (a0 :: a1 :: a2 :: a3 :: a4 :: a5 :: some (.ref x) :: r) st h v h') : Ev l d own nm cc nL ret pc (a0 :: a1 :: a2 :: a3 :: a4 :: a5 :: a6 :: r) (.ref x :: st) h v h' := by
  subst hp
  exact ev_loc (lc := a0 :: a1 :: a2 :: a3 :: a4 :: a5 :: a6 :: r) (lc' := a0 :: a1 :: a2 :: a3 :: a4 :: a5 :: some (.ref x) :: r) (fun o => (o.tl.sto (i := 6) (o.hd) rfl)) (fun p e R s m args below meth c H locs cells Q ls ad C hl w => lv_astore C.1 C.2.1 hd hl.has hn rfl (fun ls' hl' => w ls' (ev_st1 (lc := a0 :: a1 :: a2 :: a3 :: a4 :: a5 :: a6 :: r) (i := 6) (w := .ref x) (ev_pvs (i := 5) rfl hq) hl'))) k
theorem ev_astore_6N {a0 a1 a2 a3 a4 a5 a6 : Option Value} {r : ev_L} (hd : decode cc pc = .ok (.astore 6, 2)) (hp : pc + 2 = pc') (hn : 6 < nL) (hq : ev_c1 a5 = true) (k : Ev l d own nm cc nL ret pc' (a0 :: a1 :: a2 :: a3 :: a4 :: a5 :: some (.null) :: r) st h v h') : Ev l d own nm cc nL ret pc (a0 :: a1 :: a2 :: a3 :: a4 :: a5 :: a6 :: r) (.null :: st) h v h' := by
  subst hp
  exact ev_loc (lc := a0 :: a1 :: a2 :: a3 :: a4 :: a5 :: a6 :: r) (lc' := a0 :: a1 :: a2 :: a3 :: a4 :: a5 :: some (.null) :: r) (fun o => (o.tl.sto (i := 6) (ok_null _) rfl)) (fun p e R s m args below meth c H locs cells Q ls ad C hl w => lv_astoreN C.1 C.2.1 hd hl.has hn rfl (fun ls' hl' => w ls' (ev_st1 (lc := a0 :: a1 :: a2 :: a3 :: a4 :: a5 :: a6 :: r) (i := 6) (w := .null) (ev_pvs (i := 5) rfl hq) hl'))) k
theorem ev_iinc_6 {a0 a1 a2 a3 a4 a5 : Option Value} {r : ev_L} {x : Int32} {n : Int} (c : Int32) (hd : decode cc pc = .ok (.iinc 6 n, 3)) (hp : pc + 3 = pc') (hc : Int32.ofInt n = c) (hn : 6 < nL) (hq : ev_c1 a5 = true) (k : Ev l d own nm cc nL ret pc' (a0 :: a1 :: a2 :: a3 :: a4 :: a5 :: some (.int (x + c)) :: r) st h v h') : Ev l d own nm cc nL ret pc (a0 :: a1 :: a2 :: a3 :: a4 :: a5 :: some (.int x) :: r) st h v h' := by
  subst hp
  subst hc
  refine ev_loc (lc := a0 :: a1 :: a2 :: a3 :: a4 :: a5 :: some (.int x) :: r) (lc' := a0 :: a1 :: a2 :: a3 :: a4 :: a5 :: some (.int (x + Int32.ofInt n)) :: r) (fun o => o.sto (i := 6) (ok_int _ _) rfl) (fun p e R s m args below meth c H locs cells Q ls ad C hl w => ?_) k
  obtain ⟨kx, hk⟩ := List.getElem?_of_mem (ev_as_in (ad := ad) (a0 :: a1 :: a2 :: a3 :: a4 :: a5 :: some (.int x) :: r) 0 6 (.int x) rfl)
  rw [Nat.zero_add] at hk
  exact lv_iinc C.1 C.2.1 hd hl.has hk rfl hn rfl (fun ls' hl' => w ls' (ev_st1 (lc := a0 :: a1 :: a2 :: a3 :: a4 :: a5 :: some (.int x) :: r) (i := 6) (w := .int (x + Int32.ofInt n)) (ev_pvs (i := 5) rfl hq) hl'))
theorem ev_istore_7 {a0 a1 a2 a3 a4 a5 a6 a7 : Option Value} {r : ev_L} {x : Int32} (hd : decode cc pc = .ok (.istore 7, 2)) (hp : pc + 2 = pc') (hn : 7 < nL) (hq : ev_c1 a6 = true) (k : Ev l d own nm cc nL ret pc' (a0 :: a1 :: a2 :: a3 :: a4 :: a5 :: a6 :: some (.int x) :: r) st h v h') : Ev l d own nm cc nL ret pc (a0 :: a1 :: a2 :: a3 :: a4 :: a5 :: a6 :: a7 :: r) (.int x :: st) h v h' := by
  subst hp
  exact ev_loc (lc := a0 :: a1 :: a2 :: a3 :: a4 :: a5 :: a6 :: a7 :: r) (lc' := a0 :: a1 :: a2 :: a3 :: a4 :: a5 :: a6 :: some (.int x) :: r) (fun o => (o.tl.sto (i := 7) (ok_int _ _) rfl)) (fun p e R s m args below meth c H locs cells Q ls ad C hl w => lv_istore C.1 C.2.1 hd hl.has hn rfl (fun ls' hl' => w ls' (ev_st1 (lc := a0 :: a1 :: a2 :: a3 :: a4 :: a5 :: a6 :: a7 :: r) (i := 7) (w := .int x) (ev_pvs (i := 6) rfl hq) hl'))) k
theorem ev_lstore_7 {a0 a1 a2 a3 a4 a5 a6 a7 a8 : Option Value} {r : ev_L} {x : Int64} (hd : decode cc pc = .ok (.lstore 7, 2)) (hp : pc + 2 = pc') (hn : 7 + 1 < nL) (hq : ev_c1 a6 = true) (k : Ev l d own nm cc nL ret pc' (a0 :: a1 :: a2 :: a3 :: a4 :: a5 :: a6 :: some (.long x) :: none :: r) st h v h') : Ev l d own nm cc nL ret pc (a0 :: a1 :: a2 :: a3 :: a4 :: a5 :: a6 :: a7 :: a8 :: r) (.long x :: st) h v h' := by
  subst hp
  exact ev_loc (lc := a0 :: a1 :: a2 :: a3 :: a4 :: a5 :: a6 :: a7 :: a8 :: r) (lc' := a0 :: a1 :: a2 :: a3 :: a4 :: a5 :: a6 :: some (.long x) :: none :: r) (fun o => ((o.tl.sto (i := 7) (ok_long _ _) rfl).no 8)) (fun p e R s m args below meth c H locs cells Q ls ad C hl w => lv_lstore C.1 C.2.1 hd hl.has hn rfl (fun ls' hl' => w ls' (ev_st2 (lc := a0 :: a1 :: a2 :: a3 :: a4 :: a5 :: a6 :: a7 :: a8 :: r) (i := 7) (w := .long x) (ev_pvs (i := 6) rfl hq) hl'))) k
theorem ev_astore_7 {a0 a1 a2 a3 a4 a5 a6 a7 : Option Value} {r : ev_L} {x : Nat} (hd : decode cc pc = .ok (.astore 7, 2)) (hp : pc + 2 = pc') (hn : 7 < nL) (hq : ev_c1 a6 = true) (k : Ev l d own nm cc nL ret pc' (a0 :: a1 :: a2 :: a3 :: a4 :: a5 :: a6 :: some (.ref x) :: r) st h v h') : Ev l d own nm cc nL ret pc (a0 :: a1 :: a2 :: a3 :: a4 :: a5 :: a6 :: a7 :: r) (.ref x :: st) h v h' := by
  subst hp
  exact ev_loc (lc := a0 :: a1 :: a2 :: a3 :: a4 :: a5 :: a6 :: a7 :: r) (lc' := a0 :: a1 :: a2 :: a3 :: a4 :: a5 :: a6 :: some (.ref x) :: r) (fun o => (o.tl.sto (i := 7) (o.hd) rfl)) (fun p e R s m args below meth c H locs cells Q ls ad C hl w => lv_astore C.1 C.2.1 hd hl.has hn rfl (fun ls' hl' => w ls' (ev_st1 (lc := a0 :: a1 :: a2 :: a3 :: a4 :: a5 :: a6 :: a7 :: r) (i := 7) (w := .ref x) (ev_pvs (i := 6) rfl hq) hl'))) k
theorem ev_astore_7N {a0 a1 a2 a3 a4 a5 a6 a7 : Option Value} {r : ev_L} (hd : decode cc pc = .ok (.astore 7, 2)) (hp : pc + 2 = pc') (hn : 7 < nL) (hq : ev_c1 a6 = true) (k : Ev l d own nm cc nL ret pc' (a0 :: a1 :: a2 :: a3 :: a4 :: a5 :: a6 :: some (.null) :: r) st h v h') : Ev l d own nm cc nL ret pc (a0 :: a1 :: a2 :: a3 :: a4 :: a5 :: a6 :: a7 :: r) (.null :: st) h v h' := by
  subst hp
  exact ev_loc (lc := a0 :: a1 :: a2 :: a3 :: a4 :: a5 :: a6 :: a7 :: r) (lc' := a0 :: a1 :: a2 :: a3 :: a4 :: a5 :: a6 :: some (.null) :: r) (fun o => (o.tl.sto (i := 7) (ok_null _) rfl)) (fun p e R s m args below meth c H locs cells Q ls ad C hl w => lv_astoreN C.1 C.2.1 hd hl.has hn rfl (fun ls' hl' => w ls' (ev_st1 (lc := a0 :: a1 :: a2 :: a3 :: a4 :: a5 :: a6 :: a7 :: r) (i := 7) (w := .null) (ev_pvs (i := 6) rfl hq) hl'))) k
theorem ev_iinc_7 {a0 a1 a2 a3 a4 a5 a6 : Option Value} {r : ev_L} {x : Int32} {n : Int} (c : Int32) (hd : decode cc pc = .ok (.iinc 7 n, 3)) (hp : pc + 3 = pc') (hc : Int32.ofInt n = c) (hn : 7 < nL) (hq : ev_c1 a6 = true) (k : Ev l d own nm cc nL ret pc' (a0 :: a1 :: a2 :: a3 :: a4 :: a5 :: a6 :: some (.int (x + c)) :: r) st h v h') : Ev l d own nm cc nL ret pc (a0 :: a1 :: a2 :: a3 :: a4 :: a5 :: a6 :: some (.int x) :: r) st h v h' := by
  subst hp
  subst hc
  refine ev_loc (lc := a0 :: a1 :: a2 :: a3 :: a4 :: a5 :: a6 :: some (.int x) :: r) (lc' := a0 :: a1 :: a2 :: a3 :: a4 :: a5 :: a6 :: some (.int (x + Int32.ofInt n)) :: r) (fun o => o.sto (i := 7) (ok_int _ _) rfl) (fun p e R s m args below meth c H locs cells Q ls ad C hl w => ?_) k
  obtain ⟨kx, hk⟩ := List.getElem?_of_mem (ev_as_in (ad := ad) (a0 :: a1 :: a2 :: a3 :: a4 :: a5 :: a6 :: some (.int x) :: r) 0 7 (.int x) rfl)
  rw [Nat.zero_add] at hk
  exact lv_iinc C.1 C.2.1 hd hl.has hk rfl hn rfl (fun ls' hl' => w ls' (ev_st1 (lc := a0 :: a1 :: a2 :: a3 :: a4 :: a5 :: a6 :: some (.int x) :: r) (i := 7) (w := .int (x + Int32.ofInt n)) (ev_pvs (i := 6) rfl hq) hl'))
theorem ev_istore_8 {a0 a1 a2 a3 a4 a5 a6 a7 a8 : Option Value} {r : ev_L} {x : Int32} (hd : decode cc pc = .ok (.istore 8, 2)) (hp : pc + 2 = pc') (hn : 8 < nL) (hq : ev_c1 a7 = true) (k : Ev l d own nm cc nL ret pc' (a0 :: a1 :: a2 :: a3 :: a4 :: a5 :: a6 :: a7 :: some (.int x) :: r) st h v h') : Ev l d own nm cc nL ret pc (a0 :: a1 :: a2 :: a3 :: a4 :: a5 :: a6 :: a7 :: a8 :: r) (.int x :: st) h v h' := by
  subst hp
  exact ev_loc (lc := a0 :: a1 :: a2 :: a3 :: a4 :: a5 :: a6 :: a7 :: a8 :: r) (lc' := a0 :: a1 :: a2 :: a3 :: a4 :: a5 :: a6 :: a7 :: some (.int x) :: r) (fun o => (o.tl.sto (i := 8) (ok_int _ _) rfl)) (fun p e R s m args below meth c H locs cells Q ls ad C hl w => lv_istore C.1 C.2.1 hd hl.has hn rfl (fun ls' hl' => w ls' (ev_st1 (lc := a0 :: a1 :: a2 :: a3 :: a4 :: a5 :: a6 :: a7 :: a8 :: r) (i := 8) (w := .int x) (ev_pvs (i := 7) rfl hq) hl'))) k
theorem ev_lstore_8 {a0 a1 a2 a3 a4 a5 a6 a7 a8 a9 : Option Value} {r : ev_L} {x : Int64} (hd : decode cc pc = .ok (.lstore 8, 2)) (hp : pc + 2 = pc') (hn : 8 + 1 < nL) (hq : ev_c1 a7 = true) (k : Ev l d own nm cc nL ret pc' (a0 :: a1 :: a2 :: a3 :: a4 :: a5 :: a6 :: a7 :: some (.long x) :: none :: r) st h v h') : Ev l d own nm cc nL ret pc (a0 :: a1 :: a2 :: a3 :: a4 :: a5 :: a6 :: a7 :: a8 :: a9 :: r) (.long x :: st) h v h' := by
  subst hp
  exact ev_loc (lc := a0 :: a1 :: a2 :: a3 :: a4 :: a5 :: a6 :: a7 :: a8 :: a9 :: r) (lc' := a0 :: a1 :: a2 :: a3 :: a4 :: a5 :: a6 :: a7 :: some (.long x) :: none :: r) (fun o => ((o.tl.sto (i := 8) (ok_long _ _) rfl).no 9)) (fun p e R s m args below meth c H locs cells Q ls ad C hl w => lv_lstore C.1 C.2.1 hd hl.has hn rfl (fun ls' hl' => w ls' (ev_st2 (lc := a0 :: a1 :: a2 :: a3 :: a4 :: a5 :: a6 :: a7 :: a8 :: a9 :: r) (i := 8) (w := .long x) (ev_pvs (i := 7) rfl hq) hl'))) k
theorem ev_astore_8 {a0 a1 a2 a3 a4 a5 a6 a7 a8 : Option Value} {r : ev_L} {x : Nat} (hd : decode cc pc = .ok (.astore 8, 2)) (hp : pc + 2 = pc') (hn : 8 < nL) (hq : ev_c1 a7 = true) (k : Ev l d own nm cc nL ret pc' (a0 :: a1 :: a2 :: a3 :: a4 :: a5 :: a6 :: a7 :: some (.ref x) :: r) st h v h') : Ev l d own nm cc nL ret pc (a0 :: a1 :: a2 :: a3 :: a4 :: a5 :: a6 :: a7 :: a8 :: r) (.ref x :: st) h v h' := by
  subst hp
  exact ev_loc (lc := a0 :: a1 :: a2 :: a3 :: a4 :: a5 :: a6 :: a7 :: a8 :: r) (lc' := a0 :: a1 :: a2 :: a3 :: a4 :: a5 :: a6 :: a7 :: some (.ref x) :: r) (fun o => (o.tl.sto (i := 8) (o.hd) rfl)) (fun p e R s m args below meth c H locs cells Q ls ad C hl w => lv_astore C.1 C.2.1 hd hl.has hn rfl (fun ls' hl' => w ls' (ev_st1 (lc := a0 :: a1 :: a2 :: a3 :: a4 :: a5 :: a6 :: a7 :: a8 :: r) (i := 8) (w := .ref x) (ev_pvs (i := 7) rfl hq) hl'))) k
theorem ev_astore_8N {a0 a1 a2 a3 a4 a5 a6 a7 a8 : Option Value} {r : ev_L} (hd : decode cc pc = .ok (.astore 8, 2)) (hp : pc + 2 = pc') (hn : 8 < nL) (hq : ev_c1 a7 = true) (k : Ev l d own nm cc nL ret pc' (a0 :: a1 :: a2 :: a3 :: a4 :: a5 :: a6 :: a7 :: some (.null) :: r) st h v h') : Ev l d own nm cc nL ret pc (a0 :: a1 :: a2 :: a3 :: a4 :: a5 :: a6 :: a7 :: a8 :: r) (.null :: st) h v h' := by
  subst hp
  exact ev_loc (lc := a0 :: a1 :: a2 :: a3 :: a4 :: a5 :: a6 :: a7 :: a8 :: r) (lc' := a0 :: a1 :: a2 :: a3 :: a4 :: a5 :: a6 :: a7 :: some (.null) :: r) (fun o => (o.tl.sto (i := 8) (ok_null _) rfl)) (fun p e R s m args below meth c H locs cells Q ls ad C hl w => lv_astoreN C.1 C.2.1 hd hl.has hn rfl (fun ls' hl' => w ls' (ev_st1 (lc := a0 :: a1 :: a2 :: a3 :: a4 :: a5 :: a6 :: a7 :: a8 :: r) (i := 8) (w := .null) (ev_pvs (i := 7) rfl hq) hl'))) k
theorem ev_iinc_8 {a0 a1 a2 a3 a4 a5 a6 a7 : Option Value} {r : ev_L} {x : Int32} {n : Int} (c : Int32) (hd : decode cc pc = .ok (.iinc 8 n, 3)) (hp : pc + 3 = pc') (hc : Int32.ofInt n = c) (hn : 8 < nL) (hq : ev_c1 a7 = true) (k : Ev l d own nm cc nL ret pc' (a0 :: a1 :: a2 :: a3 :: a4 :: a5 :: a6 :: a7 :: some (.int (x + c)) :: r) st h v h') : Ev l d own nm cc nL ret pc (a0 :: a1 :: a2 :: a3 :: a4 :: a5 :: a6 :: a7 :: some (.int x) :: r) st h v h' := by
  subst hp
  subst hc
  refine ev_loc (lc := a0 :: a1 :: a2 :: a3 :: a4 :: a5 :: a6 :: a7 :: some (.int x) :: r) (lc' := a0 :: a1 :: a2 :: a3 :: a4 :: a5 :: a6 :: a7 :: some (.int (x + Int32.ofInt n)) :: r) (fun o => o.sto (i := 8) (ok_int _ _) rfl) (fun p e R s m args below meth c H locs cells Q ls ad C hl w => ?_) k
  obtain ⟨kx, hk⟩ := List.getElem?_of_mem (ev_as_in (ad := ad) (a0 :: a1 :: a2 :: a3 :: a4 :: a5 :: a6 :: a7 :: some (.int x) :: r) 0 8 (.int x) rfl)
  rw [Nat.zero_add] at hk
  exact lv_iinc C.1 C.2.1 hd hl.has hk rfl hn rfl (fun ls' hl' => w ls' (ev_st1 (lc := a0 :: a1 :: a2 :: a3 :: a4 :: a5 :: a6 :: a7 :: some (.int x) :: r) (i := 8) (w := .int (x + Int32.ofInt n)) (ev_pvs (i := 7) rfl hq) hl'))
theorem ev_istore_9 {a0 a1 a2 a3 a4 a5 a6 a7 a8 a9 : Option Value} {r : ev_L} {x : Int32} (hd : decode cc pc = .ok (.istore 9, 2)) (hp : pc + 2 = pc') (hn : 9 < nL) (hq : ev_c1 a8 = true) (k : Ev l d own nm cc nL ret pc' (a0 :: a1 :: a2 :: a3 :: a4 :: a5 :: a6 :: a7 :: a8 :: some (.int x) :: r) st h v h') : Ev l d own nm cc nL ret pc (a0 :: a1 :: a2 :: a3 :: a4 :: a5 :: a6 :: a7 :: a8 :: a9 :: r) (.int x :: st) h v h' := by
  subst hp
  exact ev_loc (lc := a0 :: a1 :: a2 :: a3 :: a4 :: a5 :: a6 :: a7 :: a8 :: a9 :: r) (lc' := a0 :: a1 :: a2 :: a3 :: a4 :: a5 :: a6 :: a7 :: a8 :: some (.int x) :: r) (fun o => (o.tl.sto (i := 9) (ok_int _ _) rfl)) (fun p e R s m args below meth c H locs cells Q ls ad C hl w => lv_istore C.1 C.2.1 hd hl.has hn rfl (fun ls' hl' => w ls' (ev_st1 (lc := a0 :: a1 :: a2 :: a3 :: a4 :: a5 :: a6 :: a7 :: a8 :: a9 :: r) (i := 9) (w := .int x) (ev_pvs (i := 8) rfl hq) hl'))) k
theorem ev_lstore_9 {a0 a1 a2 a3 a4 a5 a6 a7 a8 a9 a10 : Option Value} {r : ev_L} {x : Int64} (hd : decode cc pc = .ok (.lstore 9, 2)) (hp : pc + 2 = pc') (hn : 9 + 1 < nL) (hq : ev_c1 a8 = true) (k : Ev l d own nm cc nL ret pc' (a0 :: a1 :: a2 :: a3 :: a4 :: a5 :: a6 :: a7 :: a8 :: some (.long x) :: none :: r) st h v h') : Ev l d own nm cc nL ret pc (a0 :: a1 :: a2 :: a3 :: a4 :: a5 :: a6 :: a7 :: a8 :: a9 :: a10 :: r) (.long x :: st) h v h' := by
  subst hp
  exact ev_loc (lc := a0 :: a1 :: a2 :: a3 :: a4 :: a5 :: a6 :: a7 :: a8 :: a9 :: a10 :: r) (lc' := a0 :: a1 :: a2 :: a3 :: a4 :: a5 :: a6 :: a7 :: a8 :: some (.long x) :: none :: r) (fun o => ((o.tl.sto (i := 9) (ok_long _ _) rfl).no 10)) (fun p e R s m args below meth c H locs cells Q ls ad C hl w => lv_lstore C.1 C.2.1 hd hl.has hn rfl (fun ls' hl' => w ls' (ev_st2 (lc := a0 :: a1 :: a2 :: a3 :: a4 :: a5 :: a6 :: a7 :: a8 :: a9 :: a10 :: r) (i := 9) (w := .long x) (ev_pvs (i := 8) rfl hq) hl'))) k
theorem ev_astore_9 {a0 a1 a2 a3 a4 a5 a6 a7 a8 a9 : Option Value} {r : ev_L} {x : Nat} (hd : decode cc pc = .ok (.astore 9, 2)) (hp : pc + 2 = pc') (hn : 9 < nL) (hq : ev_c1 a8 = true) (k : Ev l d own nm cc nL ret pc' (a0 :: a1 :: a2 :: a3 :: a4 :: a5 :: a6 :: a7 :: a8 :: some (.ref x) :: r) st h v h') : Ev l d own nm cc nL ret pc (a0 :: a1 :: a2 :: a3 :: a4 :: a5 :: a6 :: a7 :: a8 :: a9 :: r) (.ref x :: st) h v h' := by
  subst hp
  exact ev_loc (lc := a0 :: a1 :: a2 :: a3 :: a4 :: a5 :: a6 :: a7 :: a8 :: a9 :: r) (lc' := a0 :: a1 :: a2 :: a3 :: a4 :: a5 :: a6 :: a7 :: a8 :: some (.ref x) :: r) (fun o => (o.tl.sto (i := 9) (o.hd) rfl)) (fun p e R s m args below meth c H locs cells Q ls ad C hl w => lv_astore C.1 C.2.1 hd hl.has hn rfl (fun ls' hl' => w ls' (ev_st1 (lc := a0 :: a1 :: a2 :: a3 :: a4 :: a5 :: a6 :: a7 :: a8 :: a9 :: r) (i := 9) (w := .ref x) (ev_pvs (i := 8) rfl hq) hl'))) k
theorem ev_astore_9N {a0 a1 a2 a3 a4 a5 a6 a7 a8 a9 : Option Value} {r : ev_L} (hd : decode cc pc = .ok (.astore 9, 2)) (hp : pc + 2 = pc') (hn : 9 < nL) (hq : ev_c1 a8 = true) (k : Ev l d own nm cc nL ret pc' (a0 :: a1 :: a2 :: a3 :: a4 :: a5 :: a6 :: a7 :: a8 :: some (.null) :: r) st h v h') : Ev l d own nm cc nL ret pc (a0 :: a1 :: a2 :: a3 :: a4 :: a5 :: a6 :: a7 :: a8 :: a9 :: r) (.null :: st) h v h' := by
  subst hp
  exact ev_loc (lc := a0 :: a1 :: a2 :: a3 :: a4 :: a5 :: a6 :: a7 :: a8 :: a9 :: r) (lc' := a0 :: a1 :: a2 :: a3 :: a4 :: a5 :: a6 :: a7 :: a8 :: some (.null) :: r) (fun o => (o.tl.sto (i := 9) (ok_null _) rfl)) (fun p e R s m args below meth c H locs cells Q ls ad C hl w => lv_astoreN C.1 C.2.1 hd hl.has hn rfl (fun ls' hl' => w ls' (ev_st1 (lc := a0 :: a1 :: a2 :: a3 :: a4 :: a5 :: a6 :: a7 :: a8 :: a9 :: r) (i := 9) (w := .null) (ev_pvs (i := 8) rfl hq) hl'))) k
theorem ev_iinc_9 {a0 a1 a2 a3 a4 a5 a6 a7 a8 : Option Value} {r : ev_L} {x : Int32} {n : Int} (c : Int32) (hd : decode cc pc = .ok (.iinc 9 n, 3)) (hp : pc + 3 = pc') (hc : Int32.ofInt n = c) (hn : 9 < nL) (hq : ev_c1 a8 = true) (k : Ev l d own nm cc nL ret pc' (a0 :: a1 :: a2 :: a3 :: a4 :: a5 :: a6 :: a7 :: a8 :: some (.int (x + c)) :: r) st h v h') : Ev l d own nm cc nL ret pc (a0 :: a1 :: a2 :: a3 :: a4 :: a5 :: a6 :: a7 :: a8 :: some (.int x) :: r) st h v h' := by
  subst hp
  subst hc
  refine ev_loc (lc := a0 :: a1 :: a2 :: a3 :: a4 :: a5 :: a6 :: a7 :: a8 :: some (.int x) :: r) (lc' := a0 :: a1 :: a2 :: a3 :: a4 :: a5 :: a6 :: a7 :: a8 :: some (.int (x + Int32.ofInt n)) :: r) (fun o => o.sto (i := 9) (ok_int _ _) rfl) (fun p e R s m args below meth c H locs cells Q ls ad C hl w => ?_) k
  obtain ⟨kx, hk⟩ := List.getElem?_of_mem (ev_as_in (ad := ad) (a0 :: a1 :: a2 :: a3 :: a4 :: a5 :: a6 :: a7 :: a8 :: some (.int x) :: r) 0 9 (.int x) rfl)
  rw [Nat.zero_add] at hk
  exact lv_iinc C.1 C.2.1 hd hl.has hk rfl hn rfl (fun ls' hl' => w ls' (ev_st1 (lc := a0 :: a1 :: a2 :: a3 :: a4 :: a5 :: a6 :: a7 :: a8 :: some (.int x) :: r) (i := 9) (w := .int (x + Int32.ofInt n)) (ev_pvs (i := 8) rfl hq) hl'))
theorem ev_istore_10 {a0 a1 a2 a3 a4 a5 a6 a7 a8 a9 a10 : Option Value} {r : ev_L} {x : Int32} (hd : decode cc pc = .ok (.istore 10, 2)) (hp : pc + 2 = pc') (hn : 10 < nL) (hq : ev_c1 a9 = true) (k : Ev l d own nm cc nL ret pc' (a0 :: a1 :: a2 :: a3 :: a4 :: a5 :: a6 :: a7 :: a8 :: a9 :: some (.int x) :: r) st h v h') : Ev l d own nm cc nL ret pc (a0 :: a1 :: a2 :: a3 :: a4 :: a5 :: a6 :: a7 :: a8 :: a9 :: a10 :: r) (.int x :: st) h v h' := by
  subst hp
  exact ev_loc (lc := a0 :: a1 :: a2 :: a3 :: a4 :: a5 :: a6 :: a7 :: a8 :: a9 :: a10 :: r) (lc' := a0 :: a1 :: a2 :: a3 :: a4 :: a5 :: a6 :: a7 :: a8 :: a9 :: some (.int x) :: r) (fun o => (o.tl.sto (i := 10) (ok_int _ _) rfl)) (fun p e R s m args below meth c H locs cells Q ls ad C hl w => lv_istore C.1 C.2.1 hd hl.has hn rfl (fun ls' hl' => w ls' (ev_st1 (lc := a0 :: a1 :: a2 :: a3 :: a4 :: a5 :: a6 :: a7 :: a8 :: a9 :: a10 :: r) (i := 10) (w := .int x) (ev_pvs (i := 9) rfl hq) hl'))) k
theorem ev_lstore_10 {a0 a1 a2 a3 a4 a5 a6 a7 a8 a9 a10 a11 : Option Value} {r : ev_L} {x : Int64} (hd : decode cc pc = .ok (.lstore 10, 2)) (hp : pc + 2 = pc') (hn : 10 + 1 < nL) (hq : ev_c1 a9 = true) (k : Ev l d own nm cc nL ret pc' (a0 :: a1 :: a2 :: a3 :: a4 :: a5 :: a6 :: a7 :: a8 :: a9 :: some (.long x) :: none :: r) st h v h') : Ev l d own nm cc nL ret pc (a0 :: a1 :: a2 :: a3 :: a4 :: a5 :: a6 :: a7 :: a8 :: a9 :: a10 :: a11 :: r) (.long x :: st) h v h' := by
  subst hp
  exact ev_loc (lc := a0 :: a1 :: a2 :: a3 :: a4 :: a5 :: a6 :: a7 :: a8 :: a9 :: a10 :: a11 :: r) (lc' := a0 :: a1 :: a2 :: a3 :: a4 :: a5 :: a6 :: a7 :: a8 :: a9 :: some (.long x) :: none :: r) (fun o => ((o.tl.sto (i := 10) (ok_long _ _) rfl).no 11)) (fun p e R s m args below meth c H locs cells Q ls ad C hl w => lv_lstore C.1 C.2.1 hd hl.has hn rfl (fun ls' hl' => w ls' (ev_st2 (lc := a0 :: a1 :: a2 :: a3 :: a4 :: a5 :: a6 :: a7 :: a8 :: a9 :: a10 :: a11 :: r) (i := 10) (w := .long x) (ev_pvs (i := 9) rfl hq) hl'))) k
theorem ev_astore_10 {a0 a1 a2 a3 a4 a5 a6 a7 a8 a9 a10 : Option Value} {r : ev_L} {x : Nat} (hd : decode cc pc = .ok (.astore 10, 2)) (hp : pc + 2 = pc') (hn : 10 < nL) (hq : ev_c1 a9 = true) (k : Ev l d own nm cc nL ret pc' (a0 :: a1 :: a2 :: a3 :: a4 :: a5 :: a6 :: a7 :: a8 :: a9 :: some (.ref x) :: r) st h v h') : Ev l d own nm cc nL ret pc (a0 :: a1 :: a2 :: a3 :: a4 :: a5 :: a6 :: a7 :: a8 :: a9 :: a10 :: r) (.ref x :: st) h v h' := by
  subst hp
  exact ev_loc (lc := a0 :: a1 :: a2 :: a3 :: a4 :: a5 :: a6 :: a7 :: a8 :: a9 :: a10 :: r) (lc' := a0 :: a1 :: a2 :: a3 :: a4 :: a5 :: a6 :: a7 :: a8 :: a9 :: some (.ref x) :: r) (fun o => (o.tl.sto (i := 10) (o.hd) rfl)) (fun p e R s m args below meth c H locs cells Q ls ad C hl w => lv_astore C.1 C.2.1 hd hl.has hn rfl (fun ls' hl' => w ls' (ev_st1 (lc := a0 :: a1 :: a2 :: a3 :: a4 :: a5 :: a6 :: a7 :: a8 :: a9 :: a10 :: r) (i := 10) (w := .ref x) (ev_pvs (i := 9) rfl hq) hl'))) k
theorem ev_astore_10N {a0 a1 a2 a3 a4 a5 a6 a7 a8 a9 a10 : Option Value} {r : ev_L} (hd : decode cc pc = .ok (.astore 10, 2)) (hp : pc + 2 = pc') (hn : 10 < nL) (hq : ev_c1 a9 = true) (k : Ev l d own nm cc nL ret pc' (a0 :: a1 :: a2 :: a3 :: a4 :: a5 :: a6 :: a7 :: a8 :: a9 :: some (.null) :: r) st h v h') : Ev l d own nm cc nL ret pc (a0 :: a1 :: a2 :: a3 :: a4 :: a5 :: a6 :: a7 :: a8 :: a9 :: a10 :: r) (.null :: st) h v h' := by
  subst hp
  exact ev_loc (lc := a0 :: a1 :: a2 :: a3 :: a4 :: a5 :: a6 :: a7 :: a8 :: a9 :: a10 :: r) (lc' := a0 :: a1 :: a2 :: a3 :: a4 :: a5 :: a6 :: a7 :: a8 :: a9 :: some (.null) :: r) (fun o => (o.tl.sto (i := 10) (ok_null _) rfl)) (fun p e R s m args below meth c H locs cells Q ls ad C hl w => lv_astoreN C.1 C.2.1 hd hl.has hn rfl (fun ls' hl' => w ls' (ev_st1 (lc := a0 :: a1 :: a2 :: a3 :: a4 :: a5 :: a6 :: a7 :: a8 :: a9 :: a10 :: r) (i := 10) (w := .null) (ev_pvs (i := 9) rfl hq) hl'))) k
theorem ev_iinc_10 {a0 a1 a2 a3 a4 a5 a6 a7 a8 a9 : Option Value} {r : ev_L} {x : Int32} {n : Int} (c : Int32) (hd : decode cc pc = .ok (.iinc 10 n, 3)) (hp : pc + 3 = pc') (hc : Int32.ofInt n = c) (hn : 10 < nL) (hq : ev_c1 a9 = true) (k : Ev l d own nm cc nL ret pc' (a0 :: a1 :: a2 :: a3 :: a4 :: a5 :: a6 :: a7 :: a8 :: a9 :: some (.int (x + c)) :: r) st h v h') : Ev l d own nm cc nL ret pc (a0 :: a1 :: a2 :: a3 :: a4 :: a5 :: a6 :: a7 :: a8 :: a9 :: some (.int x) :: r) st h v h' := by
  subst hp
  subst hc
  refine ev_loc (lc := a0 :: a1 :: a2 :: a3 :: a4 :: a5 :: a6 :: a7 :: a8 :: a9 :: some (.int x) :: r) (lc' := a0 :: a1 :: a2 :: a3 :: a4 :: a5 :: a6 :: a7 :: a8 :: a9 :: some (.int (x + Int32.ofInt n)) :: r) (fun o => o.sto (i := 10) (ok_int _ _) rfl) (fun p e R s m args below meth c H locs cells Q ls ad C hl w => ?_) k
  obtain ⟨kx, hk⟩ := List.getElem?_of_mem (ev_as_in (ad := ad) (a0 :: a1 :: a2 :: a3 :: a4 :: a5 :: a6 :: a7 :: a8 :: a9 :: some (.int x) :: r) 0 10 (.int x) rfl)
  rw [Nat.zero_add] at hk
  exact lv_iinc C.1 C.2.1 hd hl.has hk rfl hn rfl (fun ls' hl' => w ls' (ev_st1 (lc := a0 :: a1 :: a2 :: a3 :: a4 :: a5 :: a6 :: a7 :: a8 :: a9 :: some (.int x) :: r) (i := 10) (w := .int (x + Int32.ofInt n)) (ev_pvs (i := 9) rfl hq) hl'))
theorem ev_istore_11 {a0 a1 a2 a3 a4 a5 a6 a7 a8 a9 a10 a11 : Option Value} {r : ev_L} {x : Int32} (hd : decode cc pc = .ok (.istore 11, 2)) (hp : pc + 2 = pc') (hn : 11 < nL) (hq : ev_c1 a10 = true) (k : Ev l d own nm cc nL ret pc' (a0 :: a1 :: a2 :: a3 :: a4 :: a5 :: a6 :: a7 :: a8 :: a9 :: a10 :: some (.int x) :: r) st h v h') : Ev l d own nm cc nL ret pc (a0 :: a1 :: a2 :: a3 :: a4 :: a5 :: a6 :: a7 :: a8 :: a9 :: a10 :: a11 :: r) (.int x :: st) h v h' := by
  subst hp
  exact ev_loc (lc := a0 :: a1 :: a2 :: a3 :: a4 :: a5 :: a6 :: a7 :: a8 :: a9 :: a10 :: a11 :: r) (lc' := a0 :: a1 :: a2 :: a3 :: a4 :: a5 :: a6 :: a7 :: a8 :: a9 :: a10 :: some (.int x) :: r) (fun o => (o.tl.sto (i := 11) (ok_int _ _) rfl)) (fun p e R s m args below meth c H locs cells Q ls ad C hl w => lv_istore C.1 C.2.1 hd hl.has hn rfl (fun ls' hl' => w ls' (ev_st1 (lc := a0 :: a1 :: a2 :: a3 :: a4 :: a5 :: a6 :: a7 :: a8 :: a9 :: a10 :: a11 :: r) (i := 11) (w := .int x) (ev_pvs (i := 10) rfl hq) hl'))) k
theorem ev_lstore_11 {a0 a1 a2 a3 a4 a5 a6 a7 a8 a9 a10 a11 a12 : Option Value} {r : ev_L} {x : Int64} (hd : decode cc pc = .ok (.lstore 11, 2)) (hp : pc + 2 = pc') (hn : 11 + 1 < nL) (hq : ev_c1 a10 = true) (k : Ev l d own nm cc nL ret pc' (a0 :: a1 :: a2 :: a3 :: a4 :: a5 :: a6 :: a7 :: a8 :: a9 :: a10 :: some (.long x) :: none :: r) st h v h') : Ev l d own nm cc nL ret pc (a0 :: a1 :: a2 :: a3 :: a4 :: a5 :: a6 :: a7 :: a8 :: a9 :: a10 :: a11 :: a12 :: r) (.long x :: st) h v h' := by
  subst hp
  exact ev_loc (lc := a0 :: a1 :: a2 :: a3 :: a4 :: a5 :: a6 :: a7 :: a8 :: a9 :: a10 :: a11 :: a12 :: r) (lc' := a0 :: a1 :: a2 :: a3 :: a4 :: a5 :: a6 :: a7 :: a8 :: a9 :: a10 :: some (.long x) :: none :: r) (fun o => ((o.tl.sto (i := 11) (ok_long _ _) rfl).no 12)) (fun p e R s m args below meth c H locs cells Q ls ad C hl w => lv_lstore C.1 C.2.1 hd hl.has hn rfl (fun ls' hl' => w ls' (ev_st2 (lc := a0 :: a1 :: a2 :: a3 :: a4 :: a5 :: a6 :: a7 :: a8 :: a9 :: a10 :: a11 :: a12 :: r) (i := 11) (w := .long x) (ev_pvs (i := 10) rfl hq) hl'))) k
theorem ev_astore_11 {a0 a1 a2 a3 a4 a5 a6 a7 a8 a9 a10 a11 : Option Value} {r : ev_L} {x : Nat} (hd : decode cc pc = .ok (.astore 11, 2)) (hp : pc + 2 = pc') (hn : 11 < nL) (hq : ev_c1 a10 = true) (k : Ev l d own nm cc nL ret pc' (a0 :: a1 :: a2 :: a3 :: a4 :: a5 :: a6 :: a7 :: a8 :: a9 :: a10 :: some (.ref x) :: r) st h v h') : Ev l d own nm cc nL ret pc (a0 :: a1 :: a2 :: a3 :: a4 :: a5 :: a6 :: a7 :: a8 :: a9 :: a10 :: a11 :: r) (.ref x :: st) h v h' := by
  subst hp
  exact ev_loc (lc := a0 :: a1 :: a2 :: a3 :: a4 :: a5 :: a6 :: a7 :: a8 :: a9 :: a10 :: a11 :: r) (lc' := a0 :: a1 :: a2 :: a3 :: a4 :: a5 :: a6 :: a7 :: a8 :: a9 :: a10 :: some (.ref x) :: r) (fun o => (o.tl.sto (i := 11) (o.hd) rfl)) (fun p e R s m args below meth c H locs cells Q ls ad C hl w => lv_astore C.1 C.2.1 hd hl.has hn rfl (fun ls' hl' => w ls' (ev_st1 (lc := a0 :: a1 :: a2 :: a3 :: a4 :: a5 :: a6 :: a7 :: a8 :: a9 :: a10 :: a11 :: r) (i := 11) (w := .ref x) (ev_pvs (i := 10) rfl hq) hl'))) k
theorem ev_astore_11N {a0 a1 a2 a3 a4 a5 a6 a7 a8 a9 a10 a11 : Option Value} {r : ev_L} (hd : decode cc pc = .ok (.astore 11, 2)) (hp : pc + 2 = pc') (hn : 11 < nL) (hq : ev_c1 a10 = true) (k : Ev l d own nm cc nL ret pc' (a0 :: a1 :: a2 :: a3 :: a4 :: a5 :: a6 :: a7 :: a8 :: a9 :: a10 :: some (.null) :: r) st h v h') : Ev l d own nm cc nL ret pc (a0 :: a1 :: a2 :: a3 :: a4 :: a5 :: a6 :: a7 :: a8 :: a9 :: a10 :: a11 :: r) (.null :: st) h v h' := by
  subst hp
  exact ev_loc (lc := a0 :: a1 :: a2 :: a3 :: a4 :: a5 :: a6 :: a7 :: a8 :: a9 :: a10 :: a11 :: r) (lc' := a0 :: a1 :: a2 :: a3 :: a4 :: a5 :: a6 :: a7 :: a8 :: a9 :: a10 :: some (.null) :: r) (fun o => (o.tl.sto (i := 11) (ok_null _) rfl)) (fun p e R s m args below meth c H locs cells Q ls ad C hl w => lv_astoreN C.1 C.2.1 hd hl.has hn rfl (fun ls' hl' => w ls' (ev_st1 (lc := a0 :: a1 :: a2 :: a3 :: a4 :: a5 :: a6 :: a7 :: a8 :: a9 :: a10 :: a11 :: r) (i := 11) (w := .null) (ev_pvs (i := 10) rfl hq) hl'))) k
theorem ev_iinc_11 {a0 a1 a2 a3 a4 a5 a6 a7 a8 a9 a10 : Option Value} {r : ev_L} {x : Int32} {n : Int} (c : Int32) (hd : decode cc pc = .ok (.iinc 11 n, 3)) (hp : pc + 3 = pc') (hc : Int32.ofInt n = c) (hn : 11 < nL) (hq : ev_c1 a10 = true) (k : Ev l d own nm cc nL ret pc' (a0 :: a1 :: a2 :: a3 :: a4 :: a5 :: a6 :: a7 :: a8 :: a9 :: a10 :: some (.int (x + c)) :: r) st h v h') : Ev l d own nm cc nL ret pc (a0 :: a1 :: a2 :: a3 :: a4 :: a5 :: a6 :: a7 :: a8 :: a9 :: a10 :: some (.int x) :: r) st h v h' := by
  subst hp
  subst hc
  refine ev_loc (lc := a0 :: a1 :: a2 :: a3 :: a4 :: a5 :: a6 :: a7 :: a8 :: a9 :: a10 :: some (.int x) :: r) (lc' := a0 :: a1 :: a2 :: a3 :: a4 :: a5 :: a6 :: a7 :: a8 :: a9 :: a10 :: some (.int (x + Int32.ofInt n)) :: r) (fun o => o.sto (i := 11) (ok_int _ _) rfl) (fun p e R s m args below meth c H locs cells Q ls ad C hl w => ?_) k
  obtain ⟨kx, hk⟩ := List.getElem?_of_mem (ev_as_in (ad := ad) (a0 :: a1 :: a2 :: a3 :: a4 :: a5 :: a6 :: a7 :: a8 :: a9 :: a10 :: some (.int x) :: r) 0 11 (.int x) rfl)
  rw [Nat.zero_add] at hk
  exact lv_iinc C.1 C.2.1 hd hl.has hk rfl hn rfl (fun ls' hl' => w ls' (ev_st1 (lc := a0 :: a1 :: a2 :: a3 :: a4 :: a5 :: a6 :: a7 :: a8 :: a9 :: a10 :: some (.int x) :: r) (i := 11) (w := .int (x + Int32.ofInt n)) (ev_pvs (i := 10) rfl hq) hl'))
theorem ev_istore_12 {a0 a1 a2 a3 a4 a5 a6 a7 a8 a9 a10 a11 a12 : Option Value} {r : ev_L} {x : Int32} (hd : decode cc pc = .ok (.istore 12, 2)) (hp : pc + 2 = pc') (hn : 12 < nL) (hq : ev_c1 a11 = true) (k : Ev l d own nm cc nL ret pc' (a0 :: a1 :: a2 :: a3 :: a4 :: a5 :: a6 :: a7 :: a8 :: a9 :: a10 :: a11 :: some (.int x) :: r) st h v h') : Ev l d own nm cc nL ret pc (a0 :: a1 :: a2 :: a3 :: a4 :: a5 :: a6 :: a7 :: a8 :: a9 :: a10 :: a11 :: a12 :: r) (.int x :: st) h v h' := by
  subst hp
  exact ev_loc (lc := a0 :: a1 :: a2 :: a3 :: a4 :: a5 :: a6 :: a7 :: a8 :: a9 :: a10 :: a11 :: a12 :: r) (lc' := a0 :: a1 :: a2 :: a3 :: a4 :: a5 :: a6 :: a7 :: a8 :: a9 :: a10 :: a11 :: some (.int x) :: r) (fun o => (o.tl.sto (i := 12) (ok_int _ _) rfl)) (fun p e R s m args below meth c H locs cells Q ls ad C hl w => lv_istore C.1 C.2.1 hd hl.has hn rfl (fun ls' hl' => w ls' (ev_st1 (lc := a0 :: a1 :: a2 :: a3 :: a4 :: a5 :: a6 :: a7 :: a8 :: a9 :: a10 :: a11 :: a12 :: r) (i := 12) (w := .int x) (ev_pvs (i := 11) rfl hq) hl'))) k
theorem ev_lstore_12 {a0 a1 a2 a3 a4 a5 a6 a7 a8 a9 a10 a11 a12 a13 : Option Value} {r : ev_L} {x : Int64} (hd : decode cc pc = .ok (.lstore 12, 2)) (hp : pc + 2 = pc') (hn : 12 + 1 < nL) (hq : ev_c1 a11 = true) (k : Ev l d own nm cc nL ret pc' (a0 :: a1 :: a2 :: a3 :: a4 :: a5 :: a6 :: a7 :: a8 :: a9 :: a10 :: a11 :: some (.long x) :: none :: r) st h v h') : Ev l d own nm cc nL ret pc (a0 :: a1 :: a2 :: a3 :: a4 :: a5 :: a6 :: a7 :: a8 :: a9 :: a10 :: a11 :: a12 :: a13 :: r) (.long x :: st) h v h' := by
  subst hp
  exact ev_loc (lc := a0 :: a1 :: a2 :: a3 :: a4 :: a5 :: a6 :: a7 :: a8 :: a9 :: a10 :: a11 :: a12 :: a13 :: r) (lc' := a0 :: a1 :: a2 :: a3 :: a4 :: a5 :: a6 :: a7 :: a8 :: a9 :: a10 :: a11 :: some (.long x) :: none :: r) (fun o => ((o.tl.sto (i := 12) (ok_long _ _) rfl).no 13)) (fun p e R s m args below meth c H locs cells Q ls ad C hl w => lv_lstore C.1 C.2.1 hd hl.has hn rfl (fun ls' hl' => w ls' (ev_st2 (lc := a0 :: a1 :: a2 :: a3 :: a4 :: a5 :: a6 :: a7 :: a8 :: a9 :: a10 :: a11 :: a12 :: a13 :: r) (i := 12) (w := .long x) (ev_pvs (i := 11) rfl hq) hl'))) k
theorem ev_astore_12 {a0 a1 a2 a3 a4 a5 a6 a7 a8 a9 a10 a11 a12 : Option Value} {r : ev_L} {x : Nat} (hd : decode cc pc = .ok (.astore 12, 2)) (hp : pc + 2 = pc') (hn : 12 < nL) (hq : ev_c1 a11 = true) (k : Ev l d own nm cc nL ret pc' (a0 :: a1 :: a2 :: a3 :: a4 :: a5 :: a6 :: a7 :: a8 :: a9 :: a10 :: a11 :: some (.ref x) :: r) st h v h') : Ev l d own nm cc nL ret pc (a0 :: a1 :: a2 :: a3 :: a4 :: a5 :: a6 :: a7 :: a8 :: a9 :: a10 :: a11 :: a12 :: r) (.ref x :: st) h v h' := by
  subst hp
  exact ev_loc (lc := a0 :: a1 :: a2 :: a3 :: a4 :: a5 :: a6 :: a7 :: a8 :: a9 :: a10 :: a11 :: a12 :: r) (lc' := a0 :: a1 :: a2 :: a3 :: a4 :: a5 :: a6 :: a7 :: a8 :: a9 :: a10 :: a11 :: some (.ref x) :: r) (fun o => (o.tl.sto (i := 12) (o.hd) rfl)) (fun p e R s m args below meth c H locs cells Q ls ad C hl w => lv_astore C.1 C.2.1 hd hl.has hn rfl (fun ls' hl' => w ls' (ev_st1 (lc := a0 :: a1 :: a2 :: a3 :: a4 :: a5 :: a6 :: a7 :: a8 :: a9 :: a10 :: a11 :: a12 :: r) (i := 12) (w := .ref x) (ev_pvs (i := 11) rfl hq) hl'))) k
theorem ev_astore_12N {a0 a1 a2 a3 a4 a5 a6 a7 a8 a9 a10 a11 a12 : Option Value} {r : ev_L} (hd : decode cc pc = .ok (.astore 12, 2)) (hp : pc + 2 = pc') (hn : 12 < nL) (hq : ev_c1 a11 = true) (k : Ev l d own nm cc nL ret pc' (a0 :: a1 :: a2 :: a3 :: a4 :: a5 :: a6 :: a7 :: a8 :: a9 :: a10 :: a11 :: some (.null) :: r) st h v h') : Ev l d own nm cc nL ret pc (a0 :: a1 :: a2 :: a3 :: a4 :: a5 :: a6 :: a7 :: a8 :: a9 :: a10 :: a11 :: a12 :: r) (.null :: st) h v h' := by
  subst hp
  exact ev_loc (lc := a0 :: a1 :: a2 :: a3 :: a4 :: a5 :: a6 :: a7 :: a8 :: a9 :: a10 :: a11 :: a12 :: r) (lc' := a0 :: a1 :: a2 :: a3 :: a4 :: a5 :: a6 :: a7 :: a8 :: a9 :: a10 :: a11 :: some (.null) :: r) (fun o => (o.tl.sto (i := 12) (ok_null _) rfl)) (fun p e R s m args below meth c H locs cells Q ls ad C hl w => lv_astoreN C.1 C.2.1 hd hl.has hn rfl (fun ls' hl' => w ls' (ev_st1 (lc := a0 :: a1 :: a2 :: a3 :: a4 :: a5 :: a6 :: a7 :: a8 :: a9 :: a10 :: a11 :: a12 :: r) (i := 12) (w := .null) (ev_pvs (i := 11) rfl hq) hl'))) k
theorem ev_iinc_12 {a0 a1 a2 a3 a4 a5 a6 a7 a8 a9 a10 a11 : Option Value} {r : ev_L} {x : Int32} {n : Int} (c : Int32) (hd : decode cc pc = .ok (.iinc 12 n, 3)) (hp : pc + 3 = pc') (hc : Int32.ofInt n = c) (hn : 12 < nL) (hq : ev_c1 a11 = true) (k : Ev l d own nm cc nL ret pc' (a0 :: a1 :: a2 :: a3 :: a4 :: a5 :: a6 :: a7 :: a8 :: a9 :: a10 :: a11 :: some (.int (x + c)) :: r) st h v h') : Ev l d own nm cc nL ret pc (a0 :: a1 :: a2 :: a3 :: a4 :: a5 :: a6 :: a7 :: a8 :: a9 :: a10 :: a11 :: some (.int x) :: r) st h v h' := by
  subst hp
  subst hc
  refine ev_loc (lc := a0 :: a1 :: a2 :: a3 :: a4 :: a5 :: a6 :: a7 :: a8 :: a9 :: a10 :: a11 :: some (.int x) :: r) (lc' := a0 :: a1 :: a2 :: a3 :: a4 :: a5 :: a6 :: a7 :: a8 :: a9 :: a10 :: a11 :: some (.int (x + Int32.ofInt n)) :: r) (fun o => o.sto (i := 12) (ok_int _ _) rfl) (fun p e R s m args below meth c H locs cells Q ls ad C hl w => ?_) k
  obtain ⟨kx, hk⟩ := List.getElem?_of_mem (ev_as_in (ad := ad) (a0 :: a1 :: a2 :: a3 :: a4 :: a5 :: a6 :: a7 :: a8 :: a9 :: a10 :: a11 :: some (.int x) :: r) 0 12 (.int x) rfl)
  rw [Nat.zero_add] at hk
  exact lv_iinc C.1 C.2.1 hd hl.has hk rfl hn rfl (fun ls' hl' => w ls' (ev_st1 (lc := a0 :: a1 :: a2 :: a3 :: a4 :: a5 :: a6 :: a7 :: a8 :: a9 :: a10 :: a11 :: some (.int x) :: r) (i := 12) (w := .int (x + Int32.ofInt n)) (ev_pvs (i := 11) rfl hq) hl'))
theorem ev_istore_13 {a0 a1 a2 a3 a4 a5 a6 a7 a8 a9 a10 a11 a12 a13 : Option Value} {r : ev_L} {x : Int32} (hd : decode cc pc = .ok (.istore 13, 2)) (hp : pc + 2 = pc') (hn : 13 < nL) (hq : ev_c1 a12 = true) (k : Ev l d own nm cc nL ret pc' (a0 :: a1 :: a2 :: a3 :: a4 :: a5 :: a6 :: a7 :: a8 :: a9 :: a10 :: a11 :: a12 :: some (.int x) :: r) st h v h') : Ev l d own nm cc nL ret pc (a0 :: a1 :: a2 :: a3 :: a4 :: a5 :: a6 :: a7 :: a8 :: a9 :: a10 :: a11 :: a12 :: a13 :: r) (.int x :: st) h v h' := by
  subst hp
  exact ev_loc (lc := a0 :: a1 :: a2 :: a3 :: a4 :: a5 :: a6 :: a7 :: a8 :: a9 :: a10 :: a11 :: a12 :: a13 :: r) (lc' := a0 :: a1 :: a2 :: a3 :: a4 :: a5 :: a6 :: a7 :: a8 :: a9 :: a10 :: a11 :: a12 :: some (.int x) :: r) (fun o => (o.tl.sto (i := 13) (ok_int _ _) rfl)) (fun p e R s m args below meth c H locs cells Q ls ad C hl w => lv_istore C.1 C.2.1 hd hl.has hn rfl (fun ls' hl' => w ls' (ev_st1 (lc := a0 :: a1 :: a2 :: a3 :: a4 :: a5 :: a6 :: a7 :: a8 :: a9 :: a10 :: a11 :: a12 :: a13 :: r) (i := 13) (w := .int x) (ev_pvs (i := 12) rfl hq) hl'))) k
theorem ev_lstore_13 {a0 a1 a2 a3 a4 a5 a6 a7 a8 a9 a10 a11 a12 a13 a14 : Option Value} {r : ev_L} {x : Int64} (hd : decode cc pc = .ok (.lstore 13, 2)) (hp : pc + 2 = pc') (hn : 13 + 1 < nL) (hq : ev_c1 a12 = true) (k : Ev l d own nm cc nL ret pc' (a0 :: a1 :: a2 :: a3 :: a4 :: a5 :: a6 :: a7 :: a8 :: a9 :: a10 :: a11 :: a12 :: some (.long x) :: none :: r) st h v h') : Ev l d own nm cc nL ret pc (a0 :: a1 :: a2 :: a3 :: a4 :: a5 :: a6 :: a7 :: a8 :: a9 :: a10 :: a11 :: a12 :: a13 :: a14 :: r) (.long x :: st) h v h' := by
  subst hp
  exact ev_loc (lc := a0 :: a1 :: a2 :: a3 :: a4 :: a5 :: a6 :: a7 :: a8 :: a9 :: a10 :: a11 :: a12 :: a13 :: a14 :: r) (lc' := a0 :: a1 :: a2 :: a3 :: a4 :: a5 :: a6 :: a7 :: a8 :: a9 :: a10 :: a11 :: a12 :: some (.long x) :: none :: r) (fun o => ((o.tl.sto (i := 13) (ok_long _ _) rfl).no 14)) (fun p e R s m args below meth c H locs cells Q ls ad C hl w => lv_lstore C.1 C.2.1 hd hl.has hn rfl (fun ls' hl' => w ls' (ev_st2 (lc := a0 :: a1 :: a2 :: a3 :: a4 :: a5 :: a6 :: a7 :: a8 :: a9 :: a10 :: a11 :: a12 :: a13 :: a14 :: r) (i := 13) (w := .long x) (ev_pvs (i := 12) rfl hq) hl'))) k
theorem ev_astore_13 {a0 a1 a2 a3 a4 a5 a6 a7 a8 a9 a10 a11 a12 a13 : Option Value} {r : ev_L} {x : Nat} (hd : decode cc pc = .ok (.astore 13, 2)) (hp : pc + 2 = pc') (hn : 13 < nL) (hq : ev_c1 a12 = true) (k : Ev l d own nm cc nL ret pc' (a0 :: a1 :: a2 :: a3 :: a4 :: a5 :: a6 :: a7 :: a8 :: a9 :: a10 :: a11 :: a12 :: some (.ref x) :: r) st h v h') : Ev l d own nm cc nL ret pc (a0 :: a1 :: a2 :: a3 :: a4 :: a5 :: a6 :: a7 :: a8 :: a9 :: a10 :: a11 :: a12 :: a13 :: r) (.ref x :: st) h v h' := by
  subst hp
  exact ev_loc (lc := a0 :: a1 :: a2 :: a3 :: a4 :: a5 :: a6 :: a7 :: a8 :: a9 :: a10 :: a11 :: a12 :: a13 :: r) (lc' := a0 :: a1 :: a2 :: a3 :: a4 :: a5 :: a6 :: a7 :: a8 :: a9 :: a10 :: a11 :: a12 :: some (.ref x) :: r) (fun o => (o.tl.sto (i := 13) (o.hd) rfl)) (fun p e R s m args below meth c H locs cells Q ls ad C hl w => lv_astore C.1 C.2.1 hd hl.has hn rfl (fun ls' hl' => w ls' (ev_st1 (lc := a0 :: a1 :: a2 :: a3 :: a4 :: a5 :: a6 :: a7 :: a8 :: a9 :: a10 :: a11 :: a12 :: a13 :: r) (i := 13) (w := .ref x) (ev_pvs (i := 12) rfl hq) hl'))) k
theorem ev_astore_13N {a0 a1 a2 a3 a4 a5 a6 a7 a8 a9 a10 a11 a12 a13 : Option Value} {r : ev_L} (hd : decode cc pc = .ok (.astore 13, 2)) (hp : pc + 2 = pc') (hn : 13 < nL) (hq : ev_c1 a12 = true) (k : Ev l d own nm cc nL ret pc' (a0 :: a1 :: a2 :: a3 :: a4 :: a5 :: a6 :: a7 :: a8 :: a9 :: a10 :: a11 :: a12 :: some (.null) :: r) st h v h') : Ev l d own nm cc nL ret pc (a0 :: a1 :: a2 :: a3 :: a4 :: a5 :: a6 :: a7 :: a8 :: a9 :: a10 :: a11 :: a12 :: a13 :: r) (.null :: st) h v h' := by
  subst hp
  exact ev_loc (lc := a0 :: a1 :: a2 :: a3 :: a4 :: a5 :: a6 :: a7 :: a8 :: a9 :: a10 :: a11 :: a12 :: a13 :: r) (lc' := a0 :: a1 :: a2 :: a3 :: a4 :: a5 :: a6 :: a7 :: a8 :: a9 :: a10 :: a11 :: a12 :: some (.null) :: r) (fun o => (o.tl.sto (i := 13) (ok_null _) rfl)) (fun p e R s m args below meth c H locs cells Q ls ad C hl w => lv_astoreN C.1 C.2.1 hd hl.has hn rfl (fun ls' hl' => w ls' (ev_st1 (lc := a0 :: a1 :: a2 :: a3 :: a4 :: a5 :: a6 :: a7 :: a8 :: a9 :: a10 :: a11 :: a12 :: a13 :: r) (i := 13) (w := .null) (ev_pvs (i := 12) rfl hq) hl'))) k
theorem ev_iinc_13 {a0 a1 a2 a3 a4 a5 a6 a7 a8 a9 a10 a11 a12 : Option Value} {r : ev_L} {x : Int32} {n : Int} (c : Int32) (hd : decode cc pc = .ok (.iinc 13 n, 3)) (hp : pc + 3 = pc') (hc : Int32.ofInt n = c) (hn : 13 < nL) (hq : ev_c1 a12 = true) (k : Ev l d own nm cc nL ret pc' (a0 :: a1 :: a2 :: a3 :: a4 :: a5 :: a6 :: a7 :: a8 :: a9 :: a10 :: a11 :: a12 :: some (.int (x + c)) :: r) st h v h') : Ev l d own nm cc nL ret pc (a0 :: a1 :: a2 :: a3 :: a4 :: a5 :: a6 :: a7 :: a8 :: a9 :: a10 :: a11 :: a12 :: some (.int x) :: r) st h v h' := by
  subst hp
  subst hc
  refine ev_loc (lc := a0 :: a1 :: a2 :: a3 :: a4 :: a5 :: a6 :: a7 :: a8 :: a9 :: a10 :: a11 :: a12 :: some (.int x) :: r) (lc' := a0 :: a1 :: a2 :: a3 :: a4 :: a5 :: a6 :: a7 :: a8 :: a9 :: a10 :: a11 :: a12 :: some (.int (x + Int32.ofInt n)) :: r) (fun o => o.sto (i := 13) (ok_int _ _) rfl) (fun p e R s m args below meth c H locs cells Q ls ad C hl w => ?_) k
  obtain ⟨kx, hk⟩ := List.getElem?_of_mem (ev_as_in (ad := ad) (a0 :: a1 :: a2 :: a3 :: a4 :: a5 :: a6 :: a7 :: a8 :: a9 :: a10 :: a11 :: a12 :: some (.int x) :: r) 0 13 (.int x) rfl)
  rw [Nat.zero_add] at hk
  exact lv_iinc C.1 C.2.1 hd hl.has hk rfl hn rfl (fun ls' hl' => w ls' (ev_st1 (lc := a0 :: a1 :: a2 :: a3 :: a4 :: a5 :: a6 :: a7 :: a8 :: a9 :: a10 :: a11 :: a12 :: some (.int x) :: r) (i := 13) (w := .int (x + Int32.ofInt n)) (ev_pvs (i := 12) rfl hq) hl'))
end ER
end
section
section EH
variable {l : Launch} {d : Nat} {own nm : String} {cc : ByteArray} {nL : Nat} {ret : Option FieldType} {pc pc' : Nat} {lc : ev_L} {st : List Value} {h h' : ev_H} {v : Option Value}
theorem ev_iret {x : Int32} {ty : FieldType} (hd : decode cc pc = .ok (.ireturn, 1)) (hn : narrow ty (.int x) = .int x) : Ev l d own nm cc nL (some ty) pc lc [.int x] h (some (.int x)) h := by
  intro o
  refine ⟨o.1, fun y hy => by cases hy; exact ok_int _ _, Nat.le_refl _, fun p e R s m args below meth c H locs cells mc ls D aC ad A C Dd hl h1 h2 h3 h4 h5 => ?_⟩
  obtain ⟨hx, hb, hr, -, -, -, hlocks, -⟩ := C
  obtain ⟨-, hP, hD, hS, -⟩ := Dd
  refine W.widen (k := mc) (n := 1000 * mc) (by omega) (by omega) ?_
  exact W.zret hx hb hr hn (fun t ht hW => ⟨⟨ad, fun _ _ => rfl, rfl, by rw [ht]; exact hP, hD⟩, hS.F ht⟩) hS.2.2 hd hlocks
theorem ev_lret {x : Int64} (hd : decode cc pc = .ok (.lreturn, 1)) : Ev l d own nm cc nL (some .long) pc lc [.long x] h (some (.long x)) h := by
  intro o
  refine ⟨o.1, fun y hy => by cases hy; exact ok_long _ _, Nat.le_refl _, fun p e R s m args below meth c H locs cells mc ls D aC ad A C Dd hl h1 h2 h3 h4 h5 => ?_⟩
  obtain ⟨hx, hb, hr, -, -, -, hlocks, -⟩ := C
  obtain ⟨-, hP, hD, hS, -⟩ := Dd
  refine W.widen (k := mc) (n := 1000 * mc) (by omega) (by omega) ?_
  exact W.lret hx hb hr (fun t ht hW => ⟨⟨ad, fun _ _ => rfl, rfl, by rw [ht]; exact hP, hD⟩, hS.F ht⟩) hS.2.2 hd hlocks
theorem ev_aret {x : Value} {n : String} (hd : decode cc pc = .ok (.areturn, 1)) (hv : x = .null ∨ ∃ a, x = .ref a) : Ev l d own nm cc nL (some (.object n)) pc lc [x] h (some x) h := by
  intro o
  refine ⟨o.1, fun y hy => by cases hy; exact o.hd, Nat.le_refl _, fun p e R s m args below meth c H locs cells mc ls D aC ad A C Dd hl h1 h2 h3 h4 h5 => ?_⟩
  obtain ⟨hx, hb, hr, -, -, -, hlocks, -⟩ := C
  obtain ⟨-, hP, hD, hS, -⟩ := Dd
  refine W.widen (k := mc) (n := 1000 * mc) (by omega) (by omega) ?_
  exact W.aret hx hb hr (Or.inl ⟨n, rfl⟩) (hv.elim (fun e => Or.inl (by rw [e]; rfl)) (fun ⟨a, e⟩ => Or.inr ⟨ad a, by rw [e]; rfl⟩)) (fun t ht hW => ⟨⟨ad, fun _ _ => rfl, rfl, by rw [ht]; exact hP, hD⟩, hS.F ht⟩) hS.2.2 hd hlocks
theorem ev_vret (hd : decode cc pc = .ok (.return_, 1)) : Ev l d own nm cc nL none pc lc [] h none h := by
  intro o
  refine ⟨o.1, fun y hy => (by cases hy), Nat.le_refl _, fun p e R s m args below meth c H locs cells mc ls D aC ad A C Dd hl h1 h2 h3 h4 h5 => ?_⟩
  obtain ⟨hx, hb, hr, -, -, -, hlocks, -⟩ := C
  obtain ⟨-, hP, hD, hS, -⟩ := Dd
  refine W.widen (k := mc) (n := 1000 * mc) (by omega) (by omega) ?_
  exact W.vret hx hb hr (fun t ht hW => ⟨⟨ad, fun _ _ => rfl, rfl, by rw [ht]; exact hP, hD⟩, hS.F ht⟩) hS.2.2 hd hlocks
/-- a field's link: class number ci, field number k -/
def ev_F (own : String) (idx ci k : Nat) : Prop := ∃ (C : String) (T : u_T) (N : Nat), bg_cl[ci]? = some (C, T, N) ∧ k < N ∧ Cond.fieldLink own idx C (T k).2.1 (T k).2.2.1 ∈ bg_tbl ∧ (T k).1 = C
def ev_P (own nm : String) (idx ci k : Nat) (ty : FieldType) : Prop := ∃ (C : String) (T : u_T) (N : Nat), bg_cl[ci]? = some (C, T, N) ∧ k < N ∧ Cond.fieldLink own idx C (T k).2.1 (T k).2.2.1 ∈ bg_tbl ∧ (T k).1 = C ∧ parseFieldDescriptor (T k).2.2.1 = some ty ∧ ((T k).2.2.2 = false ∨ ((T k).2.2.2 = true ∧ nm = "<init>" ∧ C = own))
theorem ev_getfield {idx ci k a : Nat} {fs : List Value} {x : Value} (hf : ev_F own idx ci k) (hd : decode cc pc = .ok (.getfield idx, 3)) (hp : pc + 3 = pc') (ho : h[a]? = some (.inr (ci, fs))) (hv : fs[k]? = some x) (kk : Ev l d own nm cc nL ret pc' lc (x :: st) h v h') : Ev l d own nm cc nL ret pc lc (.ref a :: st) h v h' := by
  subst hp
  intro o
  have hox : ok_v h.length x := o.1 _ (List.mem_of_getElem? ho) x (List.mem_of_getElem? hv)
  obtain ⟨k1, k2, k3, k4⟩ := kk (o.tl.cs hox)
  refine ⟨k1, k2, k3, fun p e R s m args below meth c H locs cells mc ls D aC ad A C Dd hl h1 h2 h3 h4 h5 => ?_⟩
  obtain ⟨hx, hb, hr, hml, hown, hts, hlocks, hnm, hN⟩ := id C
  obtain ⟨hK, hP, hD, hS, hA⟩ := id Dd
  obtain ⟨Cn, T, N, hc, hkN, hw, hT⟩ := hf
  refine va_get (D := D) (ci := ci) (v := ev_v ad x) (C := Cn) (T := T) (N := N) hx hb hts (bg_clok ci Cn T N hc).1 hown hK hP a (ev_w_get ho) hc k hkN (hts _ hw) (fun y hy => by rw [hT] at hy; exact hy) (by rw [List.getElem?_map, hv]; rfl) hd ?_
  exact k4 p e R s m args below meth c H locs cells mc ls D aC ad A C Dd hl h1 h2 h3 h4 h5
theorem ev_fits (ad : Nat → Nat) {ty : FieldType} {x : Value} (h : fits ty x = true) : fits ty (ev_v ad x) = true := by
  cases x with
  | ref k => cases ty <;> exact h
  | _ => exact h
theorem ev_narrow (ad : Nat → Nat) {ty : FieldType} {x : Value} (h : narrow ty x = x) : narrow ty (ev_v ad x) = ev_v ad x := by
  cases x with
  | ref k => cases ty <;> rfl
  | _ => exact h
theorem ev_putfield {idx ci k a : Nat} {fs : List Value} {x : Value} {ty : FieldType} (hf : ev_P own nm idx ci k ty) (hd : decode cc pc = .ok (.putfield idx, 3)) (hp : pc + 3 = pc') (ho : h[a]? = some (.inr (ci, fs))) (hn : narrow ty x = x) (hfit : fits ty x = true) (hlen : k < fs.length) (kk : Ev l d own nm cc nL ret pc' lc st (h.set a (.inr (ci, fs.set k x))) v h') : Ev l d own nm cc nL ret pc lc (x :: .ref a :: st) h v h' := by
  subst hp
  intro o
  have hoe : ok_e h.length (.inr (ci, fs.set k x)) := by
    intro y hy
    rcases List.mem_or_eq_of_mem_set hy with hy | rfl
    · exact o.1 _ (List.mem_of_getElem? ho) y hy
    · exact o.hd
  have o2 : ok_s (h.set a (.inr (ci, fs.set k x))) lc st := ⟨o.1.set hoe, by rw [List.length_set]; exact o.2.1, by rw [List.length_set]; exact o.tl.tl.2.2⟩
  obtain ⟨k1, k2, k3, k4⟩ := kk o2
  rw [List.length_set] at k3
  refine ⟨k1, k2, k3, fun p e R s m args below meth c H locs cells mc ls D aC ad A C Dd hl h1 h2 h3 h4 h5 => ?_⟩
  obtain ⟨hx, hb, hr, hml, hown, hts, hlocks, hnm, hN⟩ := id C
  obtain ⟨hK, hP, hD, hS, hA⟩ := id Dd
  obtain ⟨Cn, T, N, hc, hkN, hw, hT, hty, hfin⟩ := hf
  obtain ⟨hin, ty0, hty0, hnms⟩ := bg_clok ci Cn T N hc
  have fin : ∀ (H1 : Heap) (locs1 : List Loc), va_P D bg_cl ((ev_w ad aC h).set a (ad a, .inr (ci, (fs.map (ev_v ad)).set k (ev_v ad x)))) H1 → va_D A ((ev_w ad aC h).set a (ad a, .inr (ci, (fs.map (ev_v ad)).set k (ev_v ad x)))) → va_S A s.heap H1 locs1 → W p l e R s m args below meth c H1 locs1 cells (1000 * cells) (MQ below (ev_Q D aC ad h.length A v h') args s mc (1000 * mc) A) (F0 m (pc + 3) ls (st.map (ev_v ad))) := by
    intro H1 locs1 hP1 hD1 hS1
    have e1 : (ad a, (Sum.inr (ci, (fs.map (ev_v ad)).set k (ev_v ad x)) : va_E)) = (ad a, ev_e ad aC (.inr (ci, fs.set k x))) := by
      show (ad a, (Sum.inr (ci, (fs.map (ev_v ad)).set k (ev_v ad x)) : va_E)) = (ad a, Sum.inr (ci, (fs.set k x).map (ev_v ad)))
      rw [List.map_set]
    rw [e1, ev_w_set] at hP1 hD1
    have := k4 p e R s m args below meth c H1 locs1 cells mc ls D aC ad A C ⟨hK, hP1, hD1, hS1, hA⟩ hl h1 h2 h3 h4 (by rw [List.length_set]; exact h5)
    rw [List.length_set] at this
    exact this
  rcases hfin with hfin | ⟨hfin, hi, hco⟩
  · exact va_put (D := D) (ci := ci) (v := ev_v ad x) (ty := ty) (C := Cn) (T := T) (N := N) hx hb hts hin ty0 hty0 hnms hown hK hP hD hS a (ev_w_get ho) hc k hkN (hts _ hw) (fun y hy => by rw [hT] at hy; exact hy) hfin hty (ev_narrow ad hn) (ev_fits ad hfit) (by rw [List.length_map]; exact hlen) hd fin
  · exact va_putF (D := D) (ci := ci) (v := ev_v ad x) (ty := ty) (C := Cn) (T := T) (N := N) hx hb hts hin ty0 hty0 hnms hown hK hP hD hS a (ev_w_get ho) hc k hkN (hts _ hw) (fun y hy => by rw [hT] at hy; exact hy) hfin (by rw [hnm]; exact hi) (by rw [hT]; exact hco) hty (ev_narrow ad hn) (ev_fits ad hfit) (by rw [List.length_map]; exact hlen) hd fin
theorem ev_iaload {a n : Nat} {f : Nat → Int32} {i : Int32} (hd : decode cc pc = .ok (.iaload, 1)) (hp : pc + 1 = pc') (ho : h[a]? = some (.inl (0, n, .inl f))) (hin : vp_in i n) (kk : Ev l d own nm cc nL ret pc' lc (.int (f i.toNatClampNeg) :: st) h v h') : Ev l d own nm cc nL ret pc lc (.int i :: .ref a :: st) h v h' := by
  subst hp
  intro o
  obtain ⟨k1, k2, k3, k4⟩ := kk (o.tl.tl.cs (ok_int _ _))
  refine ⟨k1, k2, k3, fun p e R s m args below meth c H locs cells mc ls D aC ad A C Dd hl h1 h2 h3 h4 h5 => ?_⟩
  exact va_iald C.1 C.2.1 Dd.1 Dd.2.1 a 0 (ev_w_get ho) rfl hin hd (k4 p e R s m args below meth c H locs cells mc ls D aC ad A C Dd hl h1 h2 h3 h4 h5)
theorem ev_baload {a n : Nat} {f : Nat → Int32} {i : Int32} (hd : decode cc pc = .ok (.baload, 1)) (hp : pc + 1 = pc') (ho : h[a]? = some (.inl (2, n, .inl f))) (hin : vp_in i n) (kk : Ev l d own nm cc nL ret pc' lc (.int (f i.toNatClampNeg) :: st) h v h') : Ev l d own nm cc nL ret pc lc (.int i :: .ref a :: st) h v h' := by
  subst hp
  intro o
  obtain ⟨k1, k2, k3, k4⟩ := kk (o.tl.tl.cs (ok_int _ _))
  refine ⟨k1, k2, k3, fun p e R s m args below meth c H locs cells mc ls D aC ad A C Dd hl h1 h2 h3 h4 h5 => ?_⟩
  exact va_zald C.1 C.2.1 Dd.1 Dd.2.1 a 2 (ev_w_get ho) rfl hin hd (k4 p e R s m args below meth c H locs cells mc ls D aC ad A C Dd hl h1 h2 h3 h4 h5)
theorem ev_rf (ad : Nat → Nat) (r : Option Nat) : ev_v ad (va_rf r) = va_rf (r.map ad) := by cases r <;> rfl
theorem ev_aaload {a n kd : Nat} {f : Nat → Option Nat} {i : Int32} (hkd : kd = 3 ∨ kd = 4) (hd : decode cc pc = .ok (.aaload, 1)) (hp : pc + 1 = pc') (ho : h[a]? = some (.inl (kd, n, .inr (.inr (.inr (.inr f)))))) (hin : vp_in i n) (kk : Ev l d own nm cc nL ret pc' lc (va_rf (f i.toNatClampNeg) :: st) h v h') : Ev l d own nm cc nL ret pc lc (.int i :: .ref a :: st) h v h' := by
  subst hp
  intro o
  have hox : ok_v h.length (va_rf (f i.toNatClampNeg)) := by
    cases hfi : f i.toNatClampNeg with
    | none => exact ok_null _
    | some j => exact ok_ref (o.1 _ (List.mem_of_getElem? ho) f rfl _ _ hfi)
  obtain ⟨k1, k2, k3, k4⟩ := kk (o.tl.tl.cs hox)
  refine ⟨k1, k2, k3, fun p e R s m args below meth c H locs cells mc ls D aC ad A C Dd hl h1 h2 h3 h4 h5 => ?_⟩
  have K := k4 p e R s m args below meth c H locs cells mc ls D aC ad A C Dd hl h1 h2 h3 h4 h5
  rw [List.map_cons, ev_rf] at K
  rcases hkd with rfl | rfl
  · exact va_aldq C.1 C.2.1 Dd.1 Dd.2.1 a 3 (ev_w_get ho) rfl hin hd K
  · exact va_aldq C.1 C.2.1 Dd.1 Dd.2.1 a 4 (ev_w_get ho) rfl hin hd K
theorem ok_arr {n m kd : Nat} {f : Nat → Int32} : ok_e m (.inl (kd, n, .inl f)) := fun g hg => by cases hg
theorem ev_iastore {a n : Nat} {f : Nat → Int32} {i x : Int32} (hd : decode cc pc = .ok (.iastore, 1)) (hp : pc + 1 = pc') (ho : h[a]? = some (.inl (0, n, .inl f))) (hin : vp_in i n) (kk : Ev l d own nm cc nL ret pc' lc st (h.set a (.inl (0, n, .inl (upd f i.toNatClampNeg x)))) v h') : Ev l d own nm cc nL ret pc lc (.int x :: .int i :: .ref a :: st) h v h' := by
  subst hp
  intro o
  have o2 : ok_s (h.set a (.inl (0, n, .inl (upd f i.toNatClampNeg x)))) lc st := ⟨o.1.set ok_arr, by rw [List.length_set]; exact o.2.1, by rw [List.length_set]; exact o.tl.tl.tl.2.2⟩
  obtain ⟨k1, k2, k3, k4⟩ := kk o2
  rw [List.length_set] at k3
  refine ⟨k1, k2, k3, fun p e R s m args below meth c H locs cells mc ls D aC ad A C Dd hl h1 h2 h3 h4 h5 => ?_⟩
  obtain ⟨hK, hP, hD, hS, hA⟩ := id Dd
  refine va_iast C.1 C.2.1 hK hP hD hS a 0 (ev_w_get ho) rfl hin hd (fun H1 locs1 hP1 hD1 hS1 => ?_)
  have e1 : (ad a, (Sum.inl (aC 0, n, Sum.inl (upd f i.toNatClampNeg x)) : va_E)) = (ad a, ev_e ad aC (.inl (0, n, .inl (upd f i.toNatClampNeg x)))) := rfl
  rw [e1, ev_w_set] at hP1 hD1
  have := k4 p e R s m args below meth c H1 locs1 cells mc ls D aC ad A C ⟨hK, hP1, hD1, hS1, hA⟩ hl h1 h2 h3 h4 (by rw [List.length_set]; exact h5)
  rw [List.length_set] at this
  exact this
theorem ev_bastore {a n : Nat} {f : Nat → Int32} {i x : Int32} (hd : decode cc pc = .ok (.bastore, 1)) (hp : pc + 1 = pc') (ho : h[a]? = some (.inl (2, n, .inl f))) (hin : vp_in i n) (kk : Ev l d own nm cc nL ret pc' lc st (h.set a (.inl (2, n, .inl (upd f i.toNatClampNeg (vp_nar .boolean x))))) v h') : Ev l d own nm cc nL ret pc lc (.int x :: .int i :: .ref a :: st) h v h' := by
  subst hp
  intro o
  have o2 : ok_s (h.set a (.inl (2, n, .inl (upd f i.toNatClampNeg (vp_nar .boolean x))))) lc st := ⟨o.1.set ok_arr, by rw [List.length_set]; exact o.2.1, by rw [List.length_set]; exact o.tl.tl.tl.2.2⟩
  obtain ⟨k1, k2, k3, k4⟩ := kk o2
  rw [List.length_set] at k3
  refine ⟨k1, k2, k3, fun p e R s m args below meth c H locs cells mc ls D aC ad A C Dd hl h1 h2 h3 h4 h5 => ?_⟩
  obtain ⟨hK, hP, hD, hS, hA⟩ := id Dd
  refine va_zast C.1 C.2.1 hK hP hD hS a 2 (ev_w_get ho) rfl hin hd (fun H1 locs1 hP1 hD1 hS1 => ?_)
  have e1 : (ad a, (Sum.inl (aC 2, n, Sum.inl (upd f i.toNatClampNeg (vp_nar .boolean x))) : va_E)) = (ad a, ev_e ad aC (.inl (2, n, .inl (upd f i.toNatClampNeg (vp_nar .boolean x))))) := rfl
  rw [e1, ev_w_set] at hP1 hD1
  have := k4 p e R s m args below meth c H1 locs1 cells mc ls D aC ad A C ⟨hK, hP1, hD1, hS1, hA⟩ hl h1 h2 h3 h4 (by rw [List.length_set]; exact h5)
  rw [List.length_set] at this
  exact this
theorem ev_aastore {a n kd ci b : Nat} {f : Nat → Option Nat} {fs : List Value} {i : Int32} (hkd : (kd = 3 ∧ ci = 1) ∨ (kd = 4 ∧ ci = 3)) (hd : decode cc pc = .ok (.aastore, 1)) (hp : pc + 1 = pc') (ho : h[a]? = some (.inl (kd, n, .inr (.inr (.inr (.inr f)))))) (hob : h[b]? = some (.inr (ci, fs))) (hin : vp_in i n) (kk : Ev l d own nm cc nL ret pc' lc st (h.set a (.inl (kd, n, .inr (.inr (.inr (.inr (va_up f i.toNatClampNeg (some b)))))))) v h') : Ev l d own nm cc nL ret pc lc (.ref b :: .int i :: .ref a :: st) h v h' := by
  subst hp
  intro o
  have hoe : ok_e h.length (.inl (kd, n, .inr (.inr (.inr (.inr (va_up f i.toNatClampNeg (some b))))))) := by
    intro g hg j k hk
    cases hg
    by_cases hj : j = i.toNatClampNeg
    · subst hj
      rw [va_up_self] at hk
      cases hk
      exact (List.getElem?_eq_some_iff.mp hob).1
    · rw [va_up_ne _ _ hj] at hk
      exact o.1 _ (List.mem_of_getElem? ho) f rfl _ _ hk
  have o2 : ok_s (h.set a (.inl (kd, n, .inr (.inr (.inr (.inr (va_up f i.toNatClampNeg (some b)))))))) lc st := ⟨o.1.set hoe, by rw [List.length_set]; exact o.2.1, by rw [List.length_set]; exact o.tl.tl.tl.2.2⟩
  obtain ⟨k1, k2, k3, k4⟩ := kk o2
  rw [List.length_set] at k3
  refine ⟨k1, k2, k3, fun p e R s m args below meth c H locs cells mc ls D aC ad A C Dd hl h1 h2 h3 h4 h5 => ?_⟩
  obtain ⟨hK, hP, hD, hS, hA⟩ := id Dd
  have fin : ∀ (H1 : Heap) (locs1 : List Loc), va_P D bg_cl ((ev_w ad aC h).set a (ad a, .inl (aC kd, n, .inr (.inr (.inr (.inr (va_up (fun i => (f i).map ad) i.toNatClampNeg (some (ad b))))))))) H1 → va_D A ((ev_w ad aC h).set a (ad a, .inl (aC kd, n, .inr (.inr (.inr (.inr (va_up (fun i => (f i).map ad) i.toNatClampNeg (some (ad b))))))))) → va_S A s.heap H1 locs1 → W p l e R s m args below meth c H1 locs1 cells (1000 * cells) (MQ below (ev_Q D aC ad h.length A v h') args s mc (1000 * mc) A) (F0 m (pc + 1) ls (st.map (ev_v ad))) := by
    intro H1 locs1 hP1 hD1 hS1
    have e0 : va_up (fun i => (f i).map ad) i.toNatClampNeg (some (ad b)) = fun j => (va_up f i.toNatClampNeg (some b) j).map ad := by
      funext j
      by_cases hj : j = i.toNatClampNeg
      · subst hj; rw [va_up_self, va_up_self]; rfl
      · rw [va_up_ne _ _ hj, va_up_ne _ _ hj]
    have e1 : (ad a, (Sum.inl (aC kd, n, Sum.inr (Sum.inr (Sum.inr (Sum.inr (va_up (fun i => (f i).map ad) i.toNatClampNeg (some (ad b))))))) : va_E)) = (ad a, ev_e ad aC (.inl (kd, n, .inr (.inr (.inr (.inr (va_up f i.toNatClampNeg (some b)))))))) := by
      rw [e0]; rfl
    rw [e1, ev_w_set] at hP1 hD1
    have := k4 p e R s m args below meth c H1 locs1 cells mc ls D aC ad A C ⟨hK, hP1, hD1, hS1, hA⟩ hl h1 h2 h3 h4 (by rw [List.length_set]; exact h5)
    rw [List.length_set] at this
    exact this
  rcases hkd with ⟨rfl, rfl⟩ | ⟨rfl, rfl⟩
  · exact va_astq C.1 C.2.1 hK hP hD hS a 3 b 1 (r := (RX1, TX1, 5)) (ev_w_get ho) rfl (ev_w_get hob) rfl hin hd fin
  · exact va_astq C.1 C.2.1 hK hP hD hS a 4 b 3 (r := (RX3, TX3, 12)) (ev_w_get ho) rfl (ev_w_get hob) rfl hin hd fin
end EH
end
section
section EN
variable {l : Launch} {d : Nat} {own nm : String} {cc : ByteArray} {nL : Nat} {ret : Option FieldType} {pc pc' : Nat} {lc : ev_L} {st : List Value} {h h' : ev_H} {v : Option Value}
/-- the step behind an allocation: a cell more, at the address q -/
theorem ev_grow {e0 : va_E} (o : ok_s h lc st) (he : ok_e (h.length + 1) e0) (kk : Ev l d own nm cc nL ret pc' lc (.ref h.length :: st) (h ++ [e0]) v h') :
    ok_h h' ∧ (∀ x, v = some x → ok_v h'.length x) ∧ h.length + 1 ≤ h'.length ∧
    ∀ (p : Program) (e : Env) (R : Room) (s : State) (m : MethodId) (args : Array Value) (below : List Frame) (meth : Method) (c : Code) (H1 : Heap) (locs : List Loc) (cells sl mc : Nat) (ls : Array Slot) (D : va_G) (aC ad : Nat → Nat) (A : Nat → Prop) (q : Nat),
    ev_C p s m args meth c own nm cc nL ret → va_K D bg_cl (ev_ty aC) s → va_P D bg_cl (ev_w ad aC h ++ [(q, ev_e (va_up ad h.length q) aC e0)]) H1 → va_D A (ev_w ad aC h ++ [(q, ev_e (va_up ad h.length q) aC e0)]) → va_S A s.heap H1 locs → (∀ q, s.heap.size ≤ q → A q) → ev_h ad ls nL lc →
    d ≤ R.frames → 38 * d ≤ R.locals → mc ≤ R.cells → 1000 * mc ≤ R.slots → cells + h'.length ≤ mc + h.length → sl ≤ 1000 * (cells + 1) →
    W p l e R s m args below meth c H1 locs (cells + 1) sl (MQ below (ev_Q D aC ad h.length A v h') args s mc (1000 * mc) A) (F0 m pc' ls (.ref q :: st.map (ev_v ad))) := by
  have hlen : (h ++ [e0]).length = h.length + 1 := by simp
  have o2 : ok_s (h ++ [e0]) lc (.ref h.length :: st) := by
    refine ⟨o.1.push he, fun i u hu => ?_, fun u hu => ?_⟩
    · rw [hlen]; exact (o.2.1 i u hu).mono (Nat.le_succ _)
    · rw [hlen]
      rcases List.mem_cons.mp hu with rfl | hu
      · exact ok_ref (Nat.lt_succ_self _)
      · exact (o.2.2 u hu).mono (Nat.le_succ _)
  obtain ⟨k1, k2, k3, k4⟩ := kk o2
  rw [hlen] at k3
  refine ⟨k1, k2, k3, fun p e R s m args below meth c H1 locs cells sl mc ls D aC ad A q C hK hP1 hD1 hS1 hA hl h1 h2 h3 h4 h5 h6 => ?_⟩
  have ha : ∀ k, k < h.length → va_up ad h.length q k = ad k := fun k hk => va_up_ne _ _ (Nat.ne_of_lt hk)
  rw [ev_w_push o.1] at hP1 hD1
  refine W.widen (k := cells + 1) (n := 1000 * (cells + 1)) (Nat.le_refl _) h6 ?_
  have K := k4 p e R s m args below meth c H1 locs (cells + 1) mc ls D aC (va_up ad h.length q) A C ⟨hK, hP1, hD1, hS1, hA⟩ (ev_h_agree o.2.1 ha hl) h1 h2 h3 h4 (by rw [hlen]; omega)
  have e2 : (Value.ref h.length :: st).map (ev_v (va_up ad h.length q)) = .ref q :: st.map (ev_v ad) := by
    rw [List.map_cons, ev_st_agree o.2.2 ha]
    show Value.ref (va_up ad h.length q h.length) :: _ = _
    rw [va_up_self]
  rw [e2] at K
  exact W.monoQ (MQ.mono fun oc t hq => ev_Q.mono (by rw [hlen]; exact Nat.le_succ _) ha hq) K
/-- what `new` needs: class number ci, its fresh fields fs -/
def ev_Nw (own : String) (idx ci : Nat) (fs : List Value) : Prop := ∃ (C : String) (T : u_T) (N : Nat) (ty : Nat → FieldType), bg_cl[ci]? = some (C, T, N) ∧ Cond.classLink own idx C ∈ bg_tbl ∧ Cond.instantiable C N ∈ bg_tbl ∧ Cond.initialized C ∈ bg_tbl ∧ (∀ k, k < N → parseFieldDescriptor (T k).2.2.1 = some (ty k)) ∧ (∀ j, j < N → defaultValue (ty j) = vp_V fs j) ∧ N ≤ 1000 ∧ ∀ v ∈ fs, ok_v 0 v
theorem ev_new {idx ci : Nat} {fs : List Value} (hw : ev_Nw own idx ci fs) (hd : decode cc pc = .ok (.new idx, 3)) (hp : pc + 3 = pc') (kk : Ev l d own nm cc nL ret pc' lc (.ref h.length :: st) (h ++ [.inr (ci, fs)]) v h') : Ev l d own nm cc nL ret pc lc st h v h' := by
  subst hp
  intro o
  obtain ⟨Cn, T, N, ty, hc, hcl, hin, hini, hty, hfs, hN, hok⟩ := hw
  have hoe : ok_e (h.length + 1) (.inr (ci, fs)) := fun u hu => (hok u hu).mono (Nat.zero_le _)
  obtain ⟨k1, k2, k3, k4⟩ := ev_grow o hoe kk
  refine ⟨k1, k2, Nat.le_trans (Nat.le_succ _) k3, fun p e R s m args below meth c H locs cells mc ls D aC ad A C Dd hl h1 h2 h3 h4 h5 => ?_⟩
  obtain ⟨hx, hb, hr, hml, hown, hts, hlocks, hnm, hNs⟩ := id C
  obtain ⟨hK, hP, hD, hS, hA⟩ := id Dd
  refine va_new (ci := ci) (fs := fs) (C := Cn) (T := T) (N := N) hx hb hts (bg_clok ci Cn T N hc).1 ty hty hown (hts _ hcl) (hts _ hin) (hts _ hini) hK hP hD hS hA hc hfs (by omega) (by omega) hd (fun q H1 hP1 hD1 hS1 => ?_)
  have e1 : (Sum.inr (ci, fs) : va_E) = ev_e (va_up ad h.length q) aC (.inr (ci, fs)) := by
    show (Sum.inr (ci, fs) : va_E) = Sum.inr (ci, fs.map (ev_v (va_up ad h.length q)))
    rw [ev_st_agree (ad := fun k => k) hok (fun k hk => absurd hk (Nat.not_lt_zero k))]
    have : fs.map (ev_v (fun k => k)) = fs := by
      conv => rhs; rw [← List.map_id fs]
      exact List.map_congr_left fun u _ => by cases u <;> rfl
    rw [this]
  rw [e1] at hP1 hD1
  exact k4 p e R s m args below meth c H1 locs cells _ mc ls D aC ad A q C hK hP1 hD1 hS1 hA hl h1 h2 h3 h4 h5 (by omega)
theorem ev_cA {U : State} {a b : ClassId} {ty : FieldType} (h1 : va_RA U a ty) (h2 : va_RA U b ty) : a = b := by
  cases ty with
  | object C =>
    obtain ⟨_, _, _, _, _, f1⟩ := h1
    obtain ⟨_, _, _, _, _, f2⟩ := h2
    rw [f1] at f2
    exact Option.some.inj f2
  | _ =>
    have f1 : U.vm.findClass _ = some a := h1
    have f2 : U.vm.findClass _ = some b := h2
    rw [f1] at f2
    exact Option.some.inj f2
theorem ev_newI {n : Int32} {N : Nat} (hw : Cond.arrayClass .int ∈ bg_tbl) (hd : decode cc pc = .ok (.newarray .int, 2)) (hp : pc + 2 = pc') (hn : ¬ n < 0) (hN : n.toNatClampNeg = N) (hN2 : N ≤ 1000) (kk : Ev l d own nm cc nL ret pc' lc (.ref h.length :: st) (h ++ [.inl (0, N, .inl (fun _ => 0))]) v h') : Ev l d own nm cc nL ret pc lc (.int n :: st) h v h' := by
  subst hp
  intro o
  obtain ⟨k1, k2, k3, k4⟩ := ev_grow o.tl ok_arr kk
  refine ⟨k1, k2, Nat.le_trans (Nat.le_succ _) k3, fun p e R s m args below meth c H locs cells mc ls D aC ad A C Dd hl h1 h2 h3 h4 h5 => ?_⟩
  obtain ⟨hx, hb, hr, hml, hown, hts, hlocks, hnm, hNs⟩ := id C
  obtain ⟨hK, hP, hD, hS, hA⟩ := id Dd
  refine va_newa (atype := .int) (ty := .int) (a0 := (N, .inl (fun _ => 0))) hx hb (hts _ hw) rfl hK hP hD hS hA (fun cA => rfl) hn hN (by show N * 4 ≤ 536870912; omega) (by omega) (by omega) hd (fun q cA H1 hK1 hP1 hD1 hS1 => ?_)
  have e0 : cA = aC 0 := ev_cA (hK1.2 5 (cA, .int) rfl).2 (hK1.2 0 (aC 0, .int) rfl).2
  subst e0
  exact k4 p e R s m args below meth c H1 locs cells _ mc ls D aC ad A q C hK hP1 hD1 hS1 hA hl h1 h2 h3 h4 h5 (by omega)
theorem ev_newZ {n : Int32} {N : Nat} (hw : Cond.arrayClass .boolean ∈ bg_tbl) (hd : decode cc pc = .ok (.newarray .boolean, 2)) (hp : pc + 2 = pc') (hn : ¬ n < 0) (hN : n.toNatClampNeg = N) (hN2 : N ≤ 1000) (kk : Ev l d own nm cc nL ret pc' lc (.ref h.length :: st) (h ++ [.inl (2, N, .inl (fun _ => 0))]) v h') : Ev l d own nm cc nL ret pc lc (.int n :: st) h v h' := by
  subst hp
  intro o
  obtain ⟨k1, k2, k3, k4⟩ := ev_grow o.tl ok_arr kk
  refine ⟨k1, k2, Nat.le_trans (Nat.le_succ _) k3, fun p e R s m args below meth c H locs cells mc ls D aC ad A C Dd hl h1 h2 h3 h4 h5 => ?_⟩
  obtain ⟨hx, hb, hr, hml, hown, hts, hlocks, hnm, hNs⟩ := id C
  obtain ⟨hK, hP, hD, hS, hA⟩ := id Dd
  refine va_newa (atype := .boolean) (ty := .boolean) (a0 := (N, .inl (fun _ => 0))) hx hb (hts _ hw) rfl hK hP hD hS hA (fun cA => rfl) hn hN (by show N * 1 ≤ 536870912; omega) (by omega) (by omega) hd (fun q cA H1 hK1 hP1 hD1 hS1 => ?_)
  have e0 : cA = aC 2 := ev_cA (hK1.2 5 (cA, .boolean) rfl).2 (hK1.2 2 (aC 2, .boolean) rfl).2
  subst e0
  exact k4 p e R s m args below meth c H1 locs cells _ mc ls D aC ad A q C hK hP1 hD1 hS1 hA hl h1 h2 h3 h4 h5 (by omega)
theorem ok_arrq {n m kd : Nat} : ok_e m (.inl (kd, n, .inr (.inr (.inr (.inr (fun _ => none)))))) := fun g hg j k hk => by cases hg; cases hk
theorem ev_newA {n : Int32} {N kd idx : Nat} {Cn : String} (hkd : (kd = 3 ∧ Cn = RX1) ∨ (kd = 4 ∧ Cn = RX3)) (hw : Cond.classLink own idx Cn ∈ bg_tbl) (hd : decode cc pc = .ok (.anewarray idx, 3)) (hp : pc + 3 = pc') (hn : ¬ n < 0) (hN : n.toNatClampNeg = N) (hN2 : N ≤ 1000) (kk : Ev l d own nm cc nL ret pc' lc (.ref h.length :: st) (h ++ [.inl (kd, N, .inr (.inr (.inr (.inr (fun _ => none)))))]) v h') : Ev l d own nm cc nL ret pc lc (.int n :: st) h v h' := by
  subst hp
  intro o
  obtain ⟨k1, k2, k3, k4⟩ := ev_grow o.tl ok_arrq kk
  refine ⟨k1, k2, Nat.le_trans (Nat.le_succ _) k3, fun p e R s m args below meth c H locs cells mc ls D aC ad A C Dd hl h1 h2 h3 h4 h5 => ?_⟩
  obtain ⟨hx, hb, hr, hml, hown, hts, hlocks, hnm, hNs⟩ := id C
  obtain ⟨hK, hP, hD, hS, hA⟩ := id Dd
  rcases hkd with ⟨rfl, rfl⟩ | ⟨rfl, rfl⟩
  · refine va_newq (C := RX1) hx hb hown (hts _ hw) hNs.2.1 hK hP hD hS hA hn hN (by omega) (by omega) (by omega) hd (fun q cA H1 hK1 hP1 hD1 hS1 => ?_)
    have e0 : cA = aC 3 := ev_cA (hK1.2 5 (cA, .object RX1) rfl).2 (hK1.2 3 (aC 3, .object RX1) rfl).2
    subst e0
    exact k4 p e R s m args below meth c H1 locs cells _ mc ls D aC ad A q C hK hP1 hD1 hS1 hA hl h1 h2 h3 h4 h5 (by omega)
  · refine va_newq (C := RX3) hx hb hown (hts _ hw) hNs.2.2 hK hP hD hS hA hn hN (by omega) (by omega) (by omega) hd (fun q cA H1 hK1 hP1 hD1 hS1 => ?_)
    have e0 : cA = aC 4 := ev_cA (hK1.2 5 (cA, .object RX3) rfl).2 (hK1.2 4 (aC 4, .object RX3) rfl).2
    subst e0
    exact k4 p e R s m args below meth c H1 locs cells _ mc ls D aC ad A q C hK hP1 hD1 hS1 hA hl h1 h2 h3 h4 h5 (by omega)
end EN
end
section
section EC
variable {l : Launch} {d : Nat} {own nm : String} {cc : ByteArray} {nL : Nat} {ret : Option FieldType} {pc pc' : Nat} {lc : ev_L} {st : List Value} {h h' : ev_H} {v : Option Value}
def ev_fl (As : List Value) : ev_L := As.flatMap fun v => if v.category = 2 then [some v, none] else [some v]
def ev_in (nL : Nat) (As : List Value) : ev_L := ev_fl As ++ List.replicate (nL - (ev_fl As).length) none
def ev_sl (ad : Nat → Nat) (a : Option Value) : Slot := match a with
  | some v => .val (ev_v ad v)
  | none => .second
theorem ev_fl_sl (ad : Nat → Nat) : ∀ As : List Value, lg_sl (As.map (ev_v ad)) = (ev_fl As).map (ev_sl ad)
  | [] => rfl
  | a :: As => by
    have ih := ev_fl_sl ad As
    have e1 : lg_sl ((a :: As).map (ev_v ad)) = (if (ev_v ad a).category = 2 then [Slot.val (ev_v ad a), .second] else [.val (ev_v ad a)]) ++ lg_sl (As.map (ev_v ad)) := rfl
    have e2 : ev_fl (a :: As) = (if a.category = 2 then [some a, none] else [some a]) ++ ev_fl As := rfl
    rw [e1, e2, List.map_append, ih, ev_v_cat]
    by_cases hc : a.category = 2
    · rw [if_pos hc, if_pos hc]; rfl
    · rw [if_neg hc, if_neg hc]; rfl
theorem ev_entry (ad : Nat → Nat) (As : List Value) (hfit : (ev_fl As).length ≤ nL) : ev_h ad (lg_sl (As.map (ev_v ad)) ++ List.replicate (nL - (lg_sl (As.map (ev_v ad))).length) Slot.unset).toArray nL (ev_in nL As) := by
  have hlen : (lg_sl (As.map (ev_v ad))).length = (ev_fl As).length := by rw [ev_fl_sl, List.length_map]
  have h0 := lv_entry (As.map (ev_v ad)) (n := nL) (by rw [hlen]; exact hfit)
  refine ⟨h0.1, h0.2.1, fun i u hu => ?_⟩
  unfold ev_in at hu
  by_cases hi : i < (ev_fl As).length
  · rw [List.getElem?_append_left hi] at hu
    rw [List.getElem?_toArray, List.getElem?_append_left (by rw [hlen]; exact hi), ev_fl_sl, List.getElem?_map, hu]
    rfl
  · rw [List.getElem?_append_right (by omega)] at hu
    have := List.mem_of_getElem? hu
    rw [List.mem_replicate] at this
    exact absurd this.2 (by simp)
/-- a method: its code, its class initialised, n parameters, few locals -/
def ev_M (y : MethodName) (bytes : ByteArray) (nL' : Nat) (ret' : Option FieldType) (n : Nat) : Prop := Cond.code y bytes nL' ret' ∈ bg_tbl ∧ Cond.initialized y.cls ∈ bg_tbl ∧ plainName y.cls = true ∧ (y.cls ≠ "java/lang/invoke/MethodHandle" ∧ y.cls ≠ "java/lang/invoke/VarHandle" ∧ (parseMethodDescriptor y.desc).map (fun d => d.parameters.length) = some n) ∧ nL' ≤ 19
def ev_Pc (D : va_G) (aC ad : Nat → Nat) (h : ev_H) (As : List Value) (sz : Nat) : Array Value → State → Prop := va_Pc (As.map (ev_v ad)) (fun U => U.heap.size = sz ∧ va_P D bg_cl (ev_w ad aC h) U.heap ∧ va_K D bg_cl (ev_ty aC) U ∧ va_D (fun _ => True) (ev_w ad aC h) ∧ ev_N U)
theorem ev_met {y : MethodName} {bytes : ByteArray} {nL' n d0 : Nat} {ret' : Option FieldType} {As : List Value} {h1 : ev_H} {w : Option Value} (hM : ev_M y bytes nL' ret' n) (o : ok_s h (ev_in nL' As) []) (hfit : (ev_fl As).length ≤ nL') (E : Ev l d0 y.cls y.name bytes nL' ret' 0 (ev_in nL' As) [] h w h1) (D : va_G) (aC ad : Nat → Nat) (sz : Nat) :
    Met l y (Cond.code y bytes nL' ret' :: bg_tbl) { frames := d0, cells := h1.length - h.length, slots := 1000 * (h1.length - h.length), locals := 38 * d0 } (ev_Pc D aC ad h As sz) (ev_Q D aC ad h.length (va_A (ev_w ad aC h) sz) w h1) (h1.length - h.length) (1000 * (h1.length - h.length)) (va_A (ev_w ad aC h) sz) := by
  refine Met.ofW (cc := bytes) (maxL := nL') (ret := ret') hM.2.2.1 rfl ?_
  intro p e s m args below meth c s₁ B hml hv
  obtain ⟨rfl, hsz, hP, hK, hD0, hN⟩ := hv
  have hts := atoms_spec (ws := Cond.code y bytes nL' ret' :: bg_tbl) B.pre
  have hown : s.vm.findClass y.cls = some m.cls := findClass_of_methodNamed B.named
  have hnm : meth.name = y.name := (name_of_methodNamed B.named B.method).1
  subst hsz
  rw [lg_entry_eq]
  have E1 := E o
  have hg := E1.2.2.1
  exact E1.2.2.2 p e _ s m _ below meth c s.heap [] 0 (h1.length - h.length) _ D aC ad _ ⟨B.exec, B.bytes, B.returns, hml, hown, fun w hw => hts w (List.mem_cons_of_mem _ hw), B.notSynchronized, hnm, hN⟩ ⟨hK, hP, hD0.self, va_S.rf, fun q hq => Or.inr hq⟩ (ev_entry ad As hfit) (Nat.le_refl _) (Nat.le_refl _) (Nat.le_refl _) (Nat.le_refl _) (by omega)
theorem ev_blind {D : va_G} {aC ad : Nat → Nat} {As : List Value} {sz : Nat} : FrameBlind (ev_Pc D aC ad h As sz) := by
  intro a U g mk q
  obtain ⟨q0, q1, qP, qK, qD, qN⟩ := q
  exact ⟨q0, q1, qP, va_K.moved (u := U) (U := U.calling g mk a) (Vm.Alike.refl U.vm) qK, qD, ⟨fun x hx => (qN.1 x hx).same rfl rfl, qN.2.1.moved (u := U) (U := U.calling g mk a) (Vm.Alike.refl U.vm), qN.2.2.moved (u := U) (U := U.calling g mk a) (Vm.Alike.refl U.vm)⟩⟩
theorem ev_cont {p : Program} {e : Env} {R : Room} {s : State} {m : MethodId} {args : Array Value} {below : List Frame} {meth : Method} {c : Code} {H H0 : Heap} {locs : List Loc} {cells slots mc1 ms1 : Nat} {Q : State → Prop} {ls : Array Slot} {st0 rest : List Value} {A0 A1 : Nat → Prop} {free : Addr → Prop} {Qa : State → Outcome → State → Prop}
    (hr : va_Run p l e R s m args below meth c H locs cells slots mc1 ms1 (F0 m pc ls st0) rest Qa free) (hS : va_S A0 H0 H locs) (hf : ∀ q, free q → A0 q) (hA : ∀ q, A1 q → A0 q) (hQ : ∀ st₀ t v, Qa st₀ (.returned v) t → va_F A1 st₀ t)
    (kk : ∀ (w : Option Value) (st₀ t : State) (locs1 : List Loc), st₀.heap = H → Qa st₀ (.returned w) t → va_S A0 H0 t.heap locs1 → W p l e R s m args below meth c t.heap locs1 (cells + mc1) (slots + ms1) Q (F0 m (pc + 3) ls (w.toList ++ rest))) : W p l e R s m args below meth c H locs cells slots Q (F0 m pc ls st0) := by
  intro T hT X
  obtain ⟨w, st₀, t, T', L, h0, X', hL, e1, e2, hq, hst⟩ := hr T hT X
  obtain ⟨hz, hk⟩ := hQ _ _ _ hq
  rw [h0] at hz hk
  obtain ⟨t2, a1, b1⟩ := kk w st₀ t (locs ++ L) h0 hq ⟨Nat.le_trans hS.1 hz, fun q h1 h2 => by
      rw [hk q (Nat.lt_of_lt_of_le h1 hS.1) (fun z => h2 (hA q z))]
      exact hS.2.1 q h1 h2, fun q hq2 => by
      rcases List.mem_append.mp hq2 with hq2 | hq2
      · exact hS.2.2 q hq2
      · exact hf _ (hL q hq2)⟩ T' e1 X'
  exact ⟨t2, hst t2 a1, b1⟩
/-- behind a call: the callee's end, the caller goes on -/
theorem ev_after {w : Option Value} {h1 : ev_H} (o : ok_s h lc st) (c1 : ok_h h1) (c2 : ∀ x, w = some x → ok_v h1.length x) (c3 : h.length ≤ h1.length) (kk : Ev l d own nm cc nL ret (pc + 3) lc (w.toList ++ st) h1 v h') :
    ok_h h' ∧ (∀ x, v = some x → ok_v h'.length x) ∧ h1.length ≤ h'.length ∧
    ∀ (p : Program) (e : Env) (R : Room) (s : State) (m : MethodId) (args a : Array Value) (below : List Frame) (meth : Method) (c : Code) (H : Heap) (locs : List Loc) (cells mc : Nat) (ls : Array Slot) (D : va_G) (aC ad : Nat → Nat) (A : Nat → Prop) (stk : List Value),
    ev_C p s m args meth c own nm cc nL ret → ev_D D aC ad A s H locs h → ev_h ad ls nL lc →
    d ≤ R.frames → 38 * d ≤ R.locals → mc ≤ R.cells → 1000 * mc ≤ R.slots → cells + h'.length ≤ mc + h.length →
    va_Run p l e R s m args below meth c H locs cells (1000 * cells) (h1.length - h.length) (1000 * (h1.length - h.length)) (F0 m pc ls stk) (st.map (ev_v ad)) (ev_Q D aC ad h.length (va_A (ev_w ad aC h) H.size) w h1 a) (va_A (ev_w ad aC h) H.size) →
    W p l e R s m args below meth c H locs cells (1000 * cells) (MQ below (ev_Q D aC ad h.length A v h') args s mc (1000 * mc) A) (F0 m pc ls stk) := by
  have o2 : ok_s h1 lc (w.toList ++ st) := by
    refine ⟨c1, fun i u hu => (o.2.1 i u hu).mono c3, fun u hu => ?_⟩
    rcases List.mem_append.mp hu with hu | hu
    · cases w with
      | none => cases hu
      | some x => rw [Option.toList_some, List.mem_singleton] at hu; rw [hu]; exact c2 x rfl
    · exact (o.2.2 u hu).mono c3
  obtain ⟨k1, k2, k3, k4⟩ := kk o2
  refine ⟨k1, k2, k3, fun p e R s m args a below meth c H locs cells mc ls D aC ad A stk C Dd hl q1 q2 q3 q4 q5 hr => ?_⟩
  obtain ⟨hK, hP, hD, hS, hA⟩ := id Dd
  have hF : ∀ q, va_A (ev_w ad aC h) H.size q → A q := by
    rintro q (⟨k, e0, hk⟩ | hq)
    · exact hD.2 k (q, e0) hk
    · exact hA q (Nat.le_trans hS.1 hq)
  refine ev_cont hr hS hF hF (fun _ _ _ hq => hq.2) (fun w1 st₀ t locs1 h0 hq hS1 => ?_)
  obtain ⟨⟨ad', ha, hret, hP1, hD1⟩, -⟩ := hq
  have hw1 : w1 = w.map (ev_v ad') := by injection hret
  subst hw1
  have K := k4 p e R s m args below meth c t.heap locs1 (cells + (h1.length - h.length)) mc ls D aC ad' A C ⟨hK, hP1, hD1.weaken (fun k q _ hq => hF q.1 hq), hS1, hA⟩ (ev_h_agree o.2.1 ha hl) q1 q2 q3 q4 (by omega)
  have e2 : (w.toList ++ st).map (ev_v ad') = (w.map (ev_v ad')).toList ++ st.map (ev_v ad) := by
    rw [List.map_append, ev_st_agree o.2.2 ha]
    cases w <;> rfl
  rw [e2, Nat.mul_add] at K
  exact W.monoQ (MQ.mono fun oc t hq => ev_Q.mono c3 ha hq) K
theorem ev_good {y : MethodName} {bytes : ByteArray} {nL' n : Nat} {ret' : Option FieldType} (hM : ev_M y bytes nL' ret' n) : GoodIn bg_tbl (Cond.code y bytes nL' ret' :: bg_tbl) := fun w hw => by
  rcases List.mem_cons.mp hw with rfl | hw
  · exact ⟨hM.1, bg_good _ hM.1⟩
  · exact ⟨hw, bg_good w hw⟩
theorem ok_args {As : List Value} {nL' : Nat} (o : ok_h h) (ha : ∀ u ∈ As, ok_v h.length u) : ok_s h (ev_in nL' As) [] := by
  refine ⟨o, fun i u hu => ?_, fun u hu => (by cases hu)⟩
  have hm := List.mem_of_getElem? hu
  rcases List.mem_append.mp hm with hm | hm
  · obtain ⟨x, hx, hxu⟩ := List.mem_flatMap.mp hm
    by_cases hc : x.category = 2
    · rw [if_pos hc] at hxu
      simp at hxu
      rw [hxu]; exact ha x hx
    · rw [if_neg hc] at hxu
      simp at hxu
      rw [hxu]; exact ha x hx
  · rw [List.mem_replicate] at hm
    exact absurd hm.2 (by simp)
theorem ev_cats (ad : Nat → Nat) (st : List Value) : ((st.map (ev_v ad)).map fun v => v.category).sum = (st.map fun v => v.category).sum := by
  rw [List.map_map]
  congr 1
  exact List.map_congr_left fun u _ => ev_v_cat ad u
/-- links of calls -/
def ev_KS (own : String) (idx : Nat) (y : MethodName) : Prop := Cond.static y ∈ bg_tbl ∧ (Cond.methodLink own idx y ∈ bg_tbl ∨ ∃ host, (own, idx, y, host) ∈ ev_nst)
def ev_KV (own : String) (idx : Nat) (y : MethodName) : Prop := Cond.instanceMethod y ∈ bg_tbl ∧ Cond.selects y.cls y y ∈ bg_tbl ∧ Cond.methodLink own idx y ∈ bg_tbl
def ev_KI (own : String) (idx : Nat) (y : MethodName) : Prop := y.name = "<init>" ∧ Cond.instanceMethod y ∈ bg_tbl ∧ (Cond.methodLink own idx y ∈ bg_tbl ∨ ∃ host, (own, idx, y, host) ∈ ev_nst)
theorem ev_callS {idx n nL' d0 : Nat} {y : MethodName} {bytes : ByteArray} {ret' : Option FieldType} {lc0 : ev_L} {h1 : ev_H} {w : Option Value} {stk : List Value} (As : List Value) (st : List Value) (hK : ev_KS own idx y) (hM : ev_M y bytes nL' ret' n) (hd : decode cc pc = .ok (.invokestatic idx, 3)) (hp : pc + 3 = pc') (hn : As.length = n) (hst : As.reverse ++ st = stk) (hin : ev_in nL' As = lc0) (hfit : (ev_fl As).length ≤ nL') (hcat : (st.map fun v => v.category).sum ≤ 8) (hdd : d0 + 1 ≤ d)
    (E : Ev l d0 y.cls y.name bytes nL' ret' 0 lc0 [] h w h1) (kk : Ev l d own nm cc nL ret pc' lc (w.toList ++ st) h1 v h') : Ev l d own nm cc nL ret pc lc stk h v h' := by
  subst hp
  subst hst
  subst hin
  intro o
  have oA : ∀ u ∈ As, ok_v h.length u := fun u hu => o.2.2 u (List.mem_append_left _ (List.mem_reverse.mpr hu))
  have oS : ok_s h lc st := ⟨o.1, o.2.1, fun u hu => o.2.2 u (List.mem_append_right _ hu)⟩
  have oE := ok_args (nL' := nL') o.1 oA
  obtain ⟨c1, c2, c3, -⟩ := E oE
  obtain ⟨k1, k2, k3, k4⟩ := ev_after oS c1 c2 c3 kk
  refine ⟨k1, k2, Nat.le_trans c3 k3, fun p e R s m args below meth c H locs cells mc ls D aC ad A C Dd hl q1 q2 q3 q4 q5 => ?_⟩
  obtain ⟨hx, hb, hr, hml, hown, hts, hlocks, hnm, hN⟩ := id C
  obtain ⟨hKK, hP, hD, hS, hA⟩ := id Dd
  refine k4 p e R s m args (As.map (ev_v ad)).toArray below meth c H locs cells mc ls D aC ad A _ C Dd hl q1 q2 q3 q4 q5 ?_
  have hMt := ev_met hM oE hfit E D aC ad H.size
  have hpre : PreS s H (ev_Pc D aC ad h As H.size) (As.map (ev_v ad)) := ⟨ev_blind, fun U hU hW => ⟨rfl, by rw [hU], by rw [hU]; exact hP, va_K.moved hW.alike hKK, hD.weaken (fun _ _ _ _ => trivial), hN.warm hW⟩⟩
  have hroom : d0 + 1 ≤ R.frames ∧ 8 + (nL' + 11) + 38 * d0 ≤ R.locals := ⟨by omega, by have := hM.2.2.2.2; omega⟩
  have hstk : (F0 m pc ls ((As.reverse ++ st).map (ev_v ad))).stack = (As.map (ev_v ad)).reverse ++ st.map (ev_v ad) := by
    show (As.reverse ++ st).map (ev_v ad) = _
    rw [List.map_append, List.map_reverse]
  have hcap : cells + (h1.length - h.length) ≤ R.cells ∧ 1000 * cells + 1000 * (h1.length - h.length) ≤ R.slots := ⟨by omega, by omega⟩
  have hini := hts _ hM.2.1
  rcases hK.2 with hlk | ⟨host, hlk⟩
  · exact va_runS (As := As.map (ev_v ad)) (rest := st.map (ev_v ad)) ⟨hx, hb, hml, hown, hts⟩ hMt ⟨callB_of n hts (ev_good hM) rfl rfl rfl hini (hts _ hlk) hM.2.2.2.1 hroom, hts _ hK.1⟩ hpre rfl (by rw [List.length_map]; exact hn) hl.1 hstk (lv_room (by rw [ev_cats]; exact hcat)) hd hcap
  · exact va_runSN (As := As.map (ev_v ad)) (rest := st.map (ev_v ad)) ⟨hx, hb, hml, hown, hts⟩ hMt ⟨va_cnB n hts (ev_good hM) rfl rfl rfl (hN.1 _ hlk) hini hM.2.2.2.1 hroom, hts _ hK.1, trivial⟩ hpre rfl (by rw [List.length_map]; exact hn) hl.1 hstk (lv_room (by rw [ev_cats]; exact hcat)) hd hcap
theorem ev_callV {idx n nL' d0 ci a : Nat} {y : MethodName} {bytes : ByteArray} {ret' : Option FieldType} {lc0 : ev_L} {h1 : ev_H} {w : Option Value} {stk fs : List Value} {T : u_T} {N : Nat} (As : List Value) (st : List Value) (hK : ev_KV own idx y) (hM : ev_M y bytes nL' ret' n) (hd : decode cc pc = .ok (.invokevirtual idx, 3)) (hp : pc + 3 = pc') (hn : As.length = n) (hst : As.reverse ++ .ref a :: st = stk) (hin : ev_in nL' (.ref a :: As) = lc0) (hfit : (ev_fl (.ref a :: As)).length ≤ nL') (hcat : (st.map fun v => v.category).sum ≤ 8) (hdd : d0 + 1 ≤ d) (hcl : bg_cl[ci]? = some (y.cls, T, N)) (ho : h[a]? = some (.inr (ci, fs)))
    (E : Ev l d0 y.cls y.name bytes nL' ret' 0 lc0 [] h w h1) (kk : Ev l d own nm cc nL ret pc' lc (w.toList ++ st) h1 v h') : Ev l d own nm cc nL ret pc lc stk h v h' := by
  subst hp
  subst hst
  subst hin
  intro o
  have oA : ∀ u ∈ (.ref a :: As : List Value), ok_v h.length u := fun u hu => by
    rcases List.mem_cons.mp hu with rfl | hu
    · exact o.2.2 _ (List.mem_append_right _ List.mem_cons_self)
    · exact o.2.2 u (List.mem_append_left _ (List.mem_reverse.mpr hu))
  have oS : ok_s h lc st := ⟨o.1, o.2.1, fun u hu => o.2.2 u (List.mem_append_right _ (List.mem_cons_of_mem _ hu))⟩
  have oE := ok_args (nL' := nL') o.1 oA
  obtain ⟨c1, c2, c3, -⟩ := E oE
  obtain ⟨k1, k2, k3, k4⟩ := ev_after oS c1 c2 c3 kk
  refine ⟨k1, k2, Nat.le_trans c3 k3, fun p e R s m args below meth c H locs cells mc ls D aC ad A C Dd hl q1 q2 q3 q4 q5 => ?_⟩
  obtain ⟨hx, hb, hr, hml, hown, hts, hlocks, hnm, hN⟩ := id C
  obtain ⟨hKK, hP, hD, hS, hA⟩ := id Dd
  refine k4 p e R s m args (Value.ref (ad a) :: As.map (ev_v ad)).toArray below meth c H locs cells mc ls D aC ad A _ C Dd hl q1 q2 q3 q4 q5 ?_
  have hMt := ev_met hM oE hfit E D aC ad H.size
  have hpre : PreV s H y.cls (ad a) (ev_Pc D aC ad h (.ref a :: As) H.size) (As.map (ev_v ad)) := ⟨ev_blind, va_recv hKK hP hcl (ev_w_get ho), fun U hU hW => ⟨rfl, by rw [hU], by rw [hU]; exact hP, va_K.moved hW.alike hKK, hD.weaken (fun _ _ _ _ => trivial), hN.warm hW⟩⟩
  have hroom : d0 + 1 ≤ R.frames ∧ 8 + (nL' + 11) + 38 * d0 ≤ R.locals := ⟨by omega, by have := hM.2.2.2.2; omega⟩
  have hstk : (F0 m pc ls ((As.reverse ++ .ref a :: st).map (ev_v ad))).stack = (As.map (ev_v ad)).reverse ++ .ref (ad a) :: st.map (ev_v ad) := by
    show (As.reverse ++ .ref a :: st).map (ev_v ad) = _
    rw [List.map_append, List.map_reverse]
    rfl
  have hcap : cells + (h1.length - h.length) ≤ R.cells ∧ 1000 * cells + 1000 * (h1.length - h.length) ≤ R.slots := ⟨by omega, by omega⟩
  have hini := hts _ hM.2.1
  exact va_runV (As := As.map (ev_v ad)) (rest := st.map (ev_v ad)) ⟨hx, hb, hml, hown, hts⟩ hMt ⟨callB_of n hts (ev_good hM) rfl rfl rfl hini (hts _ hK.2.2) hM.2.2.2.1 hroom, hts _ hK.1, hts _ hK.2.1⟩ hpre rfl (by rw [List.length_map]; exact hn) hl.1 hstk (lv_room (by rw [ev_cats]; exact hcat)) hd hcap
theorem ev_callI {idx n nL' d0 a : Nat} {y : MethodName} {bytes : ByteArray} {lc0 : ev_L} {h1 : ev_H} {w : Option Value} {stk : List Value} (As : List Value) (st : List Value) (hK : ev_KI own idx y) (hM : ev_M y bytes nL' none n) (hd : decode cc pc = .ok (.invokespecial idx, 3)) (hp : pc + 3 = pc') (hn : As.length = n) (hst : As.reverse ++ .ref a :: st = stk) (hin : ev_in nL' (.ref a :: As) = lc0) (hfit : (ev_fl (.ref a :: As)).length ≤ nL') (hcat : (st.map fun v => v.category).sum ≤ 8) (hdd : d0 + 1 ≤ d)
    (E : Ev l d0 y.cls y.name bytes nL' none 0 lc0 [] h w h1) (kk : Ev l d own nm cc nL ret pc' lc (w.toList ++ st) h1 v h') : Ev l d own nm cc nL ret pc lc stk h v h' := by
  subst hp
  subst hst
  subst hin
  intro o
  have oA : ∀ u ∈ (.ref a :: As : List Value), ok_v h.length u := fun u hu => by
    rcases List.mem_cons.mp hu with rfl | hu
    · exact o.2.2 _ (List.mem_append_right _ List.mem_cons_self)
    · exact o.2.2 u (List.mem_append_left _ (List.mem_reverse.mpr hu))
  have oS : ok_s h lc st := ⟨o.1, o.2.1, fun u hu => o.2.2 u (List.mem_append_right _ (List.mem_cons_of_mem _ hu))⟩
  have oE := ok_args (nL' := nL') o.1 oA
  obtain ⟨c1, c2, c3, -⟩ := E oE
  obtain ⟨k1, k2, k3, k4⟩ := ev_after oS c1 c2 c3 kk
  refine ⟨k1, k2, Nat.le_trans c3 k3, fun p e R s m args below meth c H locs cells mc ls D aC ad A C Dd hl q1 q2 q3 q4 q5 => ?_⟩
  obtain ⟨hx, hb, hr, hml, hown, hts, hlocks, hnm, hN⟩ := id C
  obtain ⟨hKK, hP, hD, hS, hA⟩ := id Dd
  refine k4 p e R s m args (Value.ref (ad a) :: As.map (ev_v ad)).toArray below meth c H locs cells mc ls D aC ad A _ C Dd hl q1 q2 q3 q4 q5 ?_
  have hMt := ev_met hM oE hfit E D aC ad H.size
  have hpre : PreS s H (ev_Pc D aC ad h (.ref a :: As) H.size) (.ref (ad a) :: As.map (ev_v ad)) := ⟨ev_blind, fun U hU hW => ⟨rfl, by rw [hU], by rw [hU]; exact hP, va_K.moved hW.alike hKK, hD.weaken (fun _ _ _ _ => trivial), hN.warm hW⟩⟩
  have hroom : d0 + 1 ≤ R.frames ∧ 8 + (nL' + 11) + 38 * d0 ≤ R.locals := ⟨by omega, by have := hM.2.2.2.2; omega⟩
  have hstk : (F0 m pc ls ((As.reverse ++ .ref a :: st).map (ev_v ad))).stack = (As.map (ev_v ad)).reverse ++ .ref (ad a) :: st.map (ev_v ad) := by
    show (As.reverse ++ .ref a :: st).map (ev_v ad) = _
    rw [List.map_append, List.map_reverse]
    rfl
  have hcap : cells + (h1.length - h.length) ≤ R.cells ∧ 1000 * cells + 1000 * (h1.length - h.length) ≤ R.slots := ⟨by omega, by omega⟩
  have hini := hts _ hM.2.1
  rcases hK.2.2 with hlk | ⟨host, hlk⟩
  · exact va_runI (As := As.map (ev_v ad)) (rest := st.map (ev_v ad)) ⟨hx, hb, hml, hown, hts⟩ hMt ⟨callB_of n hts (ev_good hM) rfl rfl rfl hini (hts _ hlk) hM.2.2.2.1 hroom, hK.1, hts _ hK.2.1⟩ hpre rfl (by rw [List.length_map]; exact hn) hl.1 hstk (lv_room (by rw [ev_cats]; exact hcat)) hd hcap
  · exact va_runIN (As := As.map (ev_v ad)) (rest := st.map (ev_v ad)) ⟨hx, hb, hml, hown, hts⟩ hMt ⟨va_cnB n hts (ev_good hM) rfl rfl rfl (hN.1 _ hlk) hini hM.2.2.2.1 hroom, hK.1, hts _ hK.2.1⟩ hpre rfl (by rw [List.length_map]; exact hn) hl.1 hstk (lv_room (by rw [ev_cats]; exact hcat)) hd hcap
end EC
end
