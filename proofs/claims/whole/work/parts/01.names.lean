-- ===== PART A: goes FIRST, ahead of the names: the tables' words, and 'selects' of the private methods out of them =====
/-- a private method of a class that the tables say can be made, by its rows of tables_1 -/
def lw_okq (q : MethodName × Nat) : Prop := (q.1.cls ≠ "java/lang/invoke/MethodHandle" ∧ q.1.cls ≠ "java/lang/invoke/VarHandle") ∧ Cond.instantiable q.1.cls q.2 ∈ tables_1 ∧ Cond.privateMethod q.1 ∈ tables_1 ∧ Cond.instanceMethod q.1 ∈ tables_1
theorem lw_p0 : lw_okq (⟨"PeaSpoons", "finding", "(I)I"⟩, 7) := ⟨⟨by decide +kernel, by decide +kernel⟩, List.mem_of_getElem? (i := 17) (by decide +kernel), List.mem_of_getElem? (i := 208) (by decide +kernel), List.mem_of_getElem? (i := 209) (by decide +kernel)⟩
theorem lw_p1 : lw_okq (⟨"PeaSpoons", "isTaste", "(I)Z"⟩, 7) := ⟨⟨by decide +kernel, by decide +kernel⟩, List.mem_of_getElem? (i := 17) (by decide +kernel), List.mem_of_getElem? (i := 286) (by decide +kernel), List.mem_of_getElem? (i := 287) (by decide +kernel)⟩
theorem lw_p2 : lw_okq (⟨"PeaSpoons", "isPastLast", "(I)Z"⟩, 7) := ⟨⟨by decide +kernel, by decide +kernel⟩, List.mem_of_getElem? (i := 17) (by decide +kernel), List.mem_of_getElem? (i := 342) (by decide +kernel), List.mem_of_getElem? (i := 343) (by decide +kernel)⟩
theorem lw_p3 : lw_okq (⟨"PeaSpoons$Child", "serveTaste", "(I)I"⟩, 14) := ⟨⟨by decide +kernel, by decide +kernel⟩, List.mem_of_getElem? (i := 25) (by decide +kernel), List.mem_of_getElem? (i := 356) (by decide +kernel), List.mem_of_getElem? (i := 357) (by decide +kernel)⟩
theorem lw_p4 : lw_okq (⟨"PeaSpoons$Child", "drawn", "()I"⟩, 14) := ⟨⟨by decide +kernel, by decide +kernel⟩, List.mem_of_getElem? (i := 25) (by decide +kernel), List.mem_of_getElem? (i := 360) (by decide +kernel), List.mem_of_getElem? (i := 361) (by decide +kernel)⟩
theorem lw_p5 : lw_okq (⟨"PeaSpoons$Child", "moveLike", "(II)V"⟩, 14) := ⟨⟨by decide +kernel, by decide +kernel⟩, List.mem_of_getElem? (i := 25) (by decide +kernel), List.mem_of_getElem? (i := 367) (by decide +kernel), List.mem_of_getElem? (i := 368) (by decide +kernel)⟩
theorem lw_p6 : lw_okq (⟨"PeaSpoons", "mealsTillLiked", "(II)I"⟩, 7) := ⟨⟨by decide +kernel, by decide +kernel⟩, List.mem_of_getElem? (i := 17) (by decide +kernel), List.mem_of_getElem? (i := 435) (by decide +kernel), List.mem_of_getElem? (i := 436) (by decide +kernel)⟩
theorem lw_p7 : lw_okq (⟨"PeaSpoons", "bestFor", "(III)I"⟩, 7) := ⟨⟨by decide +kernel, by decide +kernel⟩, List.mem_of_getElem? (i := 17) (by decide +kernel), List.mem_of_getElem? (i := 453) (by decide +kernel), List.mem_of_getElem? (i := 454) (by decide +kernel)⟩
theorem lw_p8 : lw_okq (⟨"PeaSpoons", "likedBehind", "(I)I"⟩, 7) := ⟨⟨by decide +kernel, by decide +kernel⟩, List.mem_of_getElem? (i := 17) (by decide +kernel), List.mem_of_getElem? (i := 487) (by decide +kernel), List.mem_of_getElem? (i := 488) (by decide +kernel)⟩
theorem lw_p9 : lw_okq (⟨"PeaSpoons$Tape", "begin", "(II)V"⟩, 8) := ⟨⟨by decide +kernel, by decide +kernel⟩, List.mem_of_getElem? (i := 123) (by decide +kernel), List.mem_of_getElem? (i := 526) (by decide +kernel), List.mem_of_getElem? (i := 527) (by decide +kernel)⟩
theorem lw_p10 : lw_okq (⟨"PeaSpoons$Tape", "lengthen", "(I)V"⟩, 8) := ⟨⟨by decide +kernel, by decide +kernel⟩, List.mem_of_getElem? (i := 123) (by decide +kernel), List.mem_of_getElem? (i := 530) (by decide +kernel), List.mem_of_getElem? (i := 531) (by decide +kernel)⟩
theorem lw_p11 : lw_okq (⟨"PeaSpoonsModel", "becomes", "(II)I"⟩, 15) := ⟨⟨by decide +kernel, by decide +kernel⟩, List.mem_of_getElem? (i := 751) (by decide +kernel), List.mem_of_getElem? (i := 815) (by decide +kernel), List.mem_of_getElem? (i := 816) (by decide +kernel)⟩
theorem lw_p12 : lw_okq (⟨"PeaSpoonsModel", "finds", "(I)I"⟩, 15) := ⟨⟨by decide +kernel, by decide +kernel⟩, List.mem_of_getElem? (i := 751) (by decide +kernel), List.mem_of_getElem? (i := 820) (by decide +kernel), List.mem_of_getElem? (i := 821) (by decide +kernel)⟩
theorem lw_p13 : lw_okq (⟨"PeaSpoonsModel", "isLiked", "(I)Z"⟩, 15) := ⟨⟨by decide +kernel, by decide +kernel⟩, List.mem_of_getElem? (i := 751) (by decide +kernel), List.mem_of_getElem? (i := 829) (by decide +kernel), List.mem_of_getElem? (i := 830) (by decide +kernel)⟩
theorem lw_p14 : lw_okq (⟨"PeaSpoonsModel", "like", "(I)I"⟩, 15) := ⟨⟨by decide +kernel, by decide +kernel⟩, List.mem_of_getElem? (i := 751) (by decide +kernel), List.mem_of_getElem? (i := 833) (by decide +kernel), List.mem_of_getElem? (i := 834) (by decide +kernel)⟩
theorem lw_p15 : lw_okq (⟨"PeaSpoonsModel", "orNone", "(I)I"⟩, 15) := ⟨⟨by decide +kernel, by decide +kernel⟩, List.mem_of_getElem? (i := 751) (by decide +kernel), List.mem_of_getElem? (i := 862) (by decide +kernel), List.mem_of_getElem? (i := 863) (by decide +kernel)⟩
def lw_privs_1 : List (MethodName × Nat) := [(⟨"PeaSpoons", "finding", "(I)I"⟩, 7), (⟨"PeaSpoons", "isTaste", "(I)Z"⟩, 7), (⟨"PeaSpoons", "isPastLast", "(I)Z"⟩, 7), (⟨"PeaSpoons$Child", "serveTaste", "(I)I"⟩, 14), (⟨"PeaSpoons$Child", "drawn", "()I"⟩, 14), (⟨"PeaSpoons$Child", "moveLike", "(II)V"⟩, 14), (⟨"PeaSpoons", "mealsTillLiked", "(II)I"⟩, 7), (⟨"PeaSpoons", "bestFor", "(III)I"⟩, 7), (⟨"PeaSpoons", "likedBehind", "(I)I"⟩, 7), (⟨"PeaSpoons$Tape", "begin", "(II)V"⟩, 8), (⟨"PeaSpoons$Tape", "lengthen", "(I)V"⟩, 8), (⟨"PeaSpoonsModel", "becomes", "(II)I"⟩, 15), (⟨"PeaSpoonsModel", "finds", "(I)I"⟩, 15), (⟨"PeaSpoonsModel", "isLiked", "(I)Z"⟩, 15), (⟨"PeaSpoonsModel", "like", "(I)I"⟩, 15), (⟨"PeaSpoonsModel", "orNone", "(I)I"⟩, 15)]
theorem lw_r1 : ∀ q ∈ lw_privs_1, lw_okq q := List.forall_mem_cons.mpr ⟨lw_p0, List.forall_mem_cons.mpr ⟨lw_p1, List.forall_mem_cons.mpr ⟨lw_p2, List.forall_mem_cons.mpr ⟨lw_p3, List.forall_mem_cons.mpr ⟨lw_p4, List.forall_mem_cons.mpr ⟨lw_p5, List.forall_mem_cons.mpr ⟨lw_p6, List.forall_mem_cons.mpr ⟨lw_p7, List.forall_mem_cons.mpr ⟨lw_p8, List.forall_mem_cons.mpr ⟨lw_p9, List.forall_mem_cons.mpr ⟨lw_p10, List.forall_mem_cons.mpr ⟨lw_p11, List.forall_mem_cons.mpr ⟨lw_p12, List.forall_mem_cons.mpr ⟨lw_p13, List.forall_mem_cons.mpr ⟨lw_p14, List.forall_mem_cons.mpr ⟨lw_p15, fun _ h => absurd h List.not_mem_nil⟩⟩⟩⟩⟩⟩⟩⟩⟩⟩⟩⟩⟩⟩⟩⟩
theorem lw_p16 : lw_okq (⟨"PeaSpoonsModel", "comes", "(III)V"⟩, 15) := ⟨⟨by decide +kernel, by decide +kernel⟩, List.mem_of_getElem? (i := 751) (by decide +kernel), List.mem_of_getElem? (i := 880) (by decide +kernel), List.mem_of_getElem? (i := 881) (by decide +kernel)⟩
theorem lw_p17 : lw_okq (⟨"PeaSpoonsModel", "isTaste", "(I)Z"⟩, 15) := ⟨⟨by decide +kernel, by decide +kernel⟩, List.mem_of_getElem? (i := 751) (by decide +kernel), List.mem_of_getElem? (i := 888) (by decide +kernel), List.mem_of_getElem? (i := 889) (by decide +kernel)⟩
theorem lw_p18 : lw_okq (⟨"PeaSpoonsModel", "of", "(II)I"⟩, 15) := ⟨⟨by decide +kernel, by decide +kernel⟩, List.mem_of_getElem? (i := 751) (by decide +kernel), List.mem_of_getElem? (i := 893) (by decide +kernel), List.mem_of_getElem? (i := 894) (by decide +kernel)⟩
theorem lw_p19 : lw_okq (⟨"PeaSpoonsModel", "eats", "(IZ)I"⟩, 15) := ⟨⟨by decide +kernel, by decide +kernel⟩, List.mem_of_getElem? (i := 751) (by decide +kernel), List.mem_of_getElem? (i := 897) (by decide +kernel), List.mem_of_getElem? (i := 898) (by decide +kernel)⟩
theorem lw_p20 : lw_okq (⟨"PeaSpoonsModel", "isFriends", "(I)Z"⟩, 15) := ⟨⟨by decide +kernel, by decide +kernel⟩, List.mem_of_getElem? (i := 751) (by decide +kernel), List.mem_of_getElem? (i := 901) (by decide +kernel), List.mem_of_getElem? (i := 902) (by decide +kernel)⟩
theorem lw_p21 : lw_okq (⟨"PeaSpoonsModel", "moves", "(IZ)I"⟩, 15) := ⟨⟨by decide +kernel, by decide +kernel⟩, List.mem_of_getElem? (i := 751) (by decide +kernel), List.mem_of_getElem? (i := 908) (by decide +kernel), List.mem_of_getElem? (i := 909) (by decide +kernel)⟩
theorem lw_p22 : lw_okq (⟨"PeaSpoonsModel", "swaps", "(II)V"⟩, 15) := ⟨⟨by decide +kernel, by decide +kernel⟩, List.mem_of_getElem? (i := 751) (by decide +kernel), List.mem_of_getElem? (i := 920) (by decide +kernel), List.mem_of_getElem? (i := 921) (by decide +kernel)⟩
theorem lw_p23 : lw_okq (⟨"PeaSpoonsModel", "mealsOf", "(I)I"⟩, 15) := ⟨⟨by decide +kernel, by decide +kernel⟩, List.mem_of_getElem? (i := 751) (by decide +kernel), List.mem_of_getElem? (i := 935) (by decide +kernel), List.mem_of_getElem? (i := 936) (by decide +kernel)⟩
theorem lw_p24 : lw_okq (⟨"PeaSpoonsModel", "served", "()I"⟩, 15) := ⟨⟨by decide +kernel, by decide +kernel⟩, List.mem_of_getElem? (i := 751) (by decide +kernel), List.mem_of_getElem? (i := 939) (by decide +kernel), List.mem_of_getElem? (i := 940) (by decide +kernel)⟩
theorem lw_p25 : lw_okq (⟨"PeaSpoonsModel", "meal", "(I)I"⟩, 15) := ⟨⟨by decide +kernel, by decide +kernel⟩, List.mem_of_getElem? (i := 751) (by decide +kernel), List.mem_of_getElem? (i := 943) (by decide +kernel), List.mem_of_getElem? (i := 944) (by decide +kernel)⟩
theorem lw_p26 : lw_okq (⟨"PeaSpoonsModel", "serves", "(I)I"⟩, 15) := ⟨⟨by decide +kernel, by decide +kernel⟩, List.mem_of_getElem? (i := 751) (by decide +kernel), List.mem_of_getElem? (i := 947) (by decide +kernel), List.mem_of_getElem? (i := 948) (by decide +kernel)⟩
theorem lw_p27 : lw_okq (⟨"PeaSpoonsModel", "draw", "()I"⟩, 15) := ⟨⟨by decide +kernel, by decide +kernel⟩, List.mem_of_getElem? (i := 751) (by decide +kernel), List.mem_of_getElem? (i := 951) (by decide +kernel), List.mem_of_getElem? (i := 952) (by decide +kernel)⟩
theorem lw_p28 : lw_okq (⟨"PeaSpoonsModel", "likesMore", "(II)V"⟩, 15) := ⟨⟨by decide +kernel, by decide +kernel⟩, List.mem_of_getElem? (i := 751) (by decide +kernel), List.mem_of_getElem? (i := 956) (by decide +kernel), List.mem_of_getElem? (i := 957) (by decide +kernel)⟩
theorem lw_p29 : lw_okq (⟨"PeaSpoonsModel", "week", "()I"⟩, 15) := ⟨⟨by decide +kernel, by decide +kernel⟩, List.mem_of_getElem? (i := 751) (by decide +kernel), List.mem_of_getElem? (i := 965) (by decide +kernel), List.mem_of_getElem? (i := 966) (by decide +kernel)⟩
theorem lw_p30 : lw_okq (⟨"PeaSpoonsModel", "isShort", "()Z"⟩, 15) := ⟨⟨by decide +kernel, by decide +kernel⟩, List.mem_of_getElem? (i := 751) (by decide +kernel), List.mem_of_getElem? (i := 969) (by decide +kernel), List.mem_of_getElem? (i := 970) (by decide +kernel)⟩
theorem lw_p31 : lw_okq (⟨"PeaSpoonsModel", "wrongMeals", "(IIIZ)I"⟩, 15) := ⟨⟨by decide +kernel, by decide +kernel⟩, List.mem_of_getElem? (i := 751) (by decide +kernel), List.mem_of_getElem? (i := 991) (by decide +kernel), List.mem_of_getElem? (i := 992) (by decide +kernel)⟩
def lw_privs_2 : List (MethodName × Nat) := [(⟨"PeaSpoonsModel", "comes", "(III)V"⟩, 15), (⟨"PeaSpoonsModel", "isTaste", "(I)Z"⟩, 15), (⟨"PeaSpoonsModel", "of", "(II)I"⟩, 15), (⟨"PeaSpoonsModel", "eats", "(IZ)I"⟩, 15), (⟨"PeaSpoonsModel", "isFriends", "(I)Z"⟩, 15), (⟨"PeaSpoonsModel", "moves", "(IZ)I"⟩, 15), (⟨"PeaSpoonsModel", "swaps", "(II)V"⟩, 15), (⟨"PeaSpoonsModel", "mealsOf", "(I)I"⟩, 15), (⟨"PeaSpoonsModel", "served", "()I"⟩, 15), (⟨"PeaSpoonsModel", "meal", "(I)I"⟩, 15), (⟨"PeaSpoonsModel", "serves", "(I)I"⟩, 15), (⟨"PeaSpoonsModel", "draw", "()I"⟩, 15), (⟨"PeaSpoonsModel", "likesMore", "(II)V"⟩, 15), (⟨"PeaSpoonsModel", "week", "()I"⟩, 15), (⟨"PeaSpoonsModel", "isShort", "()Z"⟩, 15), (⟨"PeaSpoonsModel", "wrongMeals", "(IIIZ)I"⟩, 15)]
theorem lw_r2 : ∀ q ∈ lw_privs_2, lw_okq q := List.forall_mem_cons.mpr ⟨lw_p16, List.forall_mem_cons.mpr ⟨lw_p17, List.forall_mem_cons.mpr ⟨lw_p18, List.forall_mem_cons.mpr ⟨lw_p19, List.forall_mem_cons.mpr ⟨lw_p20, List.forall_mem_cons.mpr ⟨lw_p21, List.forall_mem_cons.mpr ⟨lw_p22, List.forall_mem_cons.mpr ⟨lw_p23, List.forall_mem_cons.mpr ⟨lw_p24, List.forall_mem_cons.mpr ⟨lw_p25, List.forall_mem_cons.mpr ⟨lw_p26, List.forall_mem_cons.mpr ⟨lw_p27, List.forall_mem_cons.mpr ⟨lw_p28, List.forall_mem_cons.mpr ⟨lw_p29, List.forall_mem_cons.mpr ⟨lw_p30, List.forall_mem_cons.mpr ⟨lw_p31, fun _ h => absurd h List.not_mem_nil⟩⟩⟩⟩⟩⟩⟩⟩⟩⟩⟩⟩⟩⟩⟩⟩
theorem lw_p32 : lw_okq (⟨"PeaSpoonsModel", "bestIn", "(IIIIZ)I"⟩, 15) := ⟨⟨by decide +kernel, by decide +kernel⟩, List.mem_of_getElem? (i := 751) (by decide +kernel), List.mem_of_getElem? (i := 1011) (by decide +kernel), List.mem_of_getElem? (i := 1012) (by decide +kernel)⟩
theorem lw_p33 : lw_okq (⟨"PeaSpoonsModel", "behind", "(IZ)I"⟩, 15) := ⟨⟨by decide +kernel, by decide +kernel⟩, List.mem_of_getElem? (i := 751) (by decide +kernel), List.mem_of_getElem? (i := 1015) (by decide +kernel), List.mem_of_getElem? (i := 1016) (by decide +kernel)⟩
theorem lw_p34 : lw_okq (⟨"PeaSpoonsModel", "manyLiked", "()I"⟩, 15) := ⟨⟨by decide +kernel, by decide +kernel⟩, List.mem_of_getElem? (i := 751) (by decide +kernel), List.mem_of_getElem? (i := 1019) (by decide +kernel), List.mem_of_getElem? (i := 1020) (by decide +kernel)⟩
theorem lw_p35 : lw_okq (⟨"PeaSpoonsModel", "token", "()V"⟩, 15) := ⟨⟨by decide +kernel, by decide +kernel⟩, List.mem_of_getElem? (i := 751) (by decide +kernel), List.mem_of_getElem? (i := 1063) (by decide +kernel), List.mem_of_getElem? (i := 1064) (by decide +kernel)⟩
theorem lw_p36 : lw_okq (⟨"PeaSpoonsModel", "isByte", "(III)Z"⟩, 15) := ⟨⟨by decide +kernel, by decide +kernel⟩, List.mem_of_getElem? (i := 751) (by decide +kernel), List.mem_of_getElem? (i := 1067) (by decide +kernel), List.mem_of_getElem? (i := 1068) (by decide +kernel)⟩
theorem lw_p37 : lw_okq (⟨"PeaSpoonsModel", "item", "()V"⟩, 15) := ⟨⟨by decide +kernel, by decide +kernel⟩, List.mem_of_getElem? (i := 751) (by decide +kernel), List.mem_of_getElem? (i := 1071) (by decide +kernel), List.mem_of_getElem? (i := 1072) (by decide +kernel)⟩
theorem lw_p38 : lw_okq (⟨"PeaSpoonsModel", "takes", "(Ljava/lang/String;)Z"⟩, 15) := ⟨⟨by decide +kernel, by decide +kernel⟩, List.mem_of_getElem? (i := 751) (by decide +kernel), List.mem_of_getElem? (i := 1076) (by decide +kernel), List.mem_of_getElem? (i := 1077) (by decide +kernel)⟩
theorem lw_p39 : lw_okq (⟨"PeaSpoonsModel", "isWord", "(Ljava/lang/String;)Z"⟩, 15) := ⟨⟨by decide +kernel, by decide +kernel⟩, List.mem_of_getElem? (i := 751) (by decide +kernel), List.mem_of_getElem? (i := 1080) (by decide +kernel), List.mem_of_getElem? (i := 1081) (by decide +kernel)⟩
theorem lw_p40 : lw_okq (⟨"PeaSpoonsModel", "foodItem", "()V"⟩, 15) := ⟨⟨by decide +kernel, by decide +kernel⟩, List.mem_of_getElem? (i := 751) (by decide +kernel), List.mem_of_getElem? (i := 1086) (by decide +kernel), List.mem_of_getElem? (i := 1087) (by decide +kernel)⟩
theorem lw_p41 : lw_okq (⟨"PeaSpoonsModel", "number", "(II)I"⟩, 15) := ⟨⟨by decide +kernel, by decide +kernel⟩, List.mem_of_getElem? (i := 751) (by decide +kernel), List.mem_of_getElem? (i := 1090) (by decide +kernel), List.mem_of_getElem? (i := 1091) (by decide +kernel)⟩
theorem lw_p42 : lw_okq (⟨"PeaSpoonsModel", "tells", "(II)V"⟩, 15) := ⟨⟨by decide +kernel, by decide +kernel⟩, List.mem_of_getElem? (i := 751) (by decide +kernel), List.mem_of_getElem? (i := 1095) (by decide +kernel), List.mem_of_getElem? (i := 1096) (by decide +kernel)⟩
theorem lw_p43 : lw_okq (⟨"PeaSpoonsModel", "friendItem", "()V"⟩, 15) := ⟨⟨by decide +kernel, by decide +kernel⟩, List.mem_of_getElem? (i := 751) (by decide +kernel), List.mem_of_getElem? (i := 1106) (by decide +kernel), List.mem_of_getElem? (i := 1107) (by decide +kernel)⟩
theorem lw_p44 : lw_okq (⟨"PeaSpoonsModel", "kindHere", "()I"⟩, 15) := ⟨⟨by decide +kernel, by decide +kernel⟩, List.mem_of_getElem? (i := 751) (by decide +kernel), List.mem_of_getElem? (i := 1110) (by decide +kernel), List.mem_of_getElem? (i := 1111) (by decide +kernel)⟩
theorem lw_p45 : lw_okq (⟨"PeaSpoonsModel", "tasteItem", "(I)V"⟩, 15) := ⟨⟨by decide +kernel, by decide +kernel⟩, List.mem_of_getElem? (i := 751) (by decide +kernel), List.mem_of_getElem? (i := 1121) (by decide +kernel), List.mem_of_getElem? (i := 1122) (by decide +kernel)⟩
theorem lw_p46 : lw_okq (⟨"PeaSpoonsModel", "isSign", "(I)Z"⟩, 15) := ⟨⟨by decide +kernel, by decide +kernel⟩, List.mem_of_getElem? (i := 751) (by decide +kernel), List.mem_of_getElem? (i := 1126) (by decide +kernel), List.mem_of_getElem? (i := 1127) (by decide +kernel)⟩
def lw_privs_3 : List (MethodName × Nat) := [(⟨"PeaSpoonsModel", "bestIn", "(IIIIZ)I"⟩, 15), (⟨"PeaSpoonsModel", "behind", "(IZ)I"⟩, 15), (⟨"PeaSpoonsModel", "manyLiked", "()I"⟩, 15), (⟨"PeaSpoonsModel", "token", "()V"⟩, 15), (⟨"PeaSpoonsModel", "isByte", "(III)Z"⟩, 15), (⟨"PeaSpoonsModel", "item", "()V"⟩, 15), (⟨"PeaSpoonsModel", "takes", "(Ljava/lang/String;)Z"⟩, 15), (⟨"PeaSpoonsModel", "isWord", "(Ljava/lang/String;)Z"⟩, 15), (⟨"PeaSpoonsModel", "foodItem", "()V"⟩, 15), (⟨"PeaSpoonsModel", "number", "(II)I"⟩, 15), (⟨"PeaSpoonsModel", "tells", "(II)V"⟩, 15), (⟨"PeaSpoonsModel", "friendItem", "()V"⟩, 15), (⟨"PeaSpoonsModel", "kindHere", "()I"⟩, 15), (⟨"PeaSpoonsModel", "tasteItem", "(I)V"⟩, 15), (⟨"PeaSpoonsModel", "isSign", "(I)Z"⟩, 15)]
theorem lw_r3 : ∀ q ∈ lw_privs_3, lw_okq q := List.forall_mem_cons.mpr ⟨lw_p32, List.forall_mem_cons.mpr ⟨lw_p33, List.forall_mem_cons.mpr ⟨lw_p34, List.forall_mem_cons.mpr ⟨lw_p35, List.forall_mem_cons.mpr ⟨lw_p36, List.forall_mem_cons.mpr ⟨lw_p37, List.forall_mem_cons.mpr ⟨lw_p38, List.forall_mem_cons.mpr ⟨lw_p39, List.forall_mem_cons.mpr ⟨lw_p40, List.forall_mem_cons.mpr ⟨lw_p41, List.forall_mem_cons.mpr ⟨lw_p42, List.forall_mem_cons.mpr ⟨lw_p43, List.forall_mem_cons.mpr ⟨lw_p44, List.forall_mem_cons.mpr ⟨lw_p45, List.forall_mem_cons.mpr ⟨lw_p46, fun _ h => absurd h List.not_mem_nil⟩⟩⟩⟩⟩⟩⟩⟩⟩⟩⟩⟩⟩⟩⟩
def lw_privs : List (MethodName × Nat) := lw_privs_1 ++ (lw_privs_2 ++ (lw_privs_3))
def lw_tbl : List Cond := k2_sels lw_privs ++ tables_1
theorem lw_privs_ok : ∀ q ∈ lw_privs, lw_okq q := by
  show ∀ q ∈ lw_privs_1 ++ (lw_privs_2 ++ (lw_privs_3)), lw_okq q
  exact List.forall_mem_append.mpr ⟨lw_r1, List.forall_mem_append.mpr ⟨lw_r2, lw_r3⟩⟩
def RX0 : String := "PeaSpoons$Child"
def TX0 : u_T := fun k => match k with
  | 0 => ("PeaSpoons$Child", "like", "[I", true)
  | 1 => ("PeaSpoons$Child", "bitter", "[I", true)
  | 2 => ("PeaSpoons$Child", "tried", "[I", true)
  | 3 => ("PeaSpoons$Child", "bent", "I", false)
  | 4 => ("PeaSpoons$Child", "hunger", "I", false)
  | 5 => ("PeaSpoons$Child", "weight", "I", false)
  | 6 => ("PeaSpoons$Child", "line", "I", false)
  | 7 => ("PeaSpoons$Child", "pudding", "I", false)
  | 8 => ("PeaSpoons$Child", "friend", "I", false)
  | 9 => ("PeaSpoons$Child", "plan", "LPeaSpoons$Plan;", true)
  | 10 => ("PeaSpoons$Child", "meal", "I", false)
  | 11 => ("PeaSpoons$Child", "book", "[I", true)
  | 12 => ("PeaSpoons$Child", "z", "I", false)
  | _ => ("PeaSpoons$Child", "spots", "[I", true)
def tyX0 : Nat → FieldType := fun k => match k with
  | 0 => .array .int
  | 1 => .array .int
  | 2 => .array .int
  | 3 => .int
  | 4 => .int
  | 5 => .int
  | 6 => .int
  | 7 => .int
  | 8 => .int
  | 9 => .object "PeaSpoons$Plan"
  | 10 => .int
  | 11 => .array .int
  | 12 => .int
  | _ => .array .int
theorem nmX0 : ∀ a, a < 14 → ∀ b, b < 14 → a ≠ b → (TX0 a).2.1 ≠ (TX0 b).2.1 := by decide +kernel
theorem tyX0_ok : ∀ k, k < 14 → parseFieldDescriptor (TX0 k).2.2.1 = some (tyX0 k) := by decide +kernel
abbrev cX0_init : ByteArray := prog_2_method_1_code
def yX0_init : MethodName := ⟨RX0, "<init>", "()V"⟩
abbrev cX0_become : ByteArray := prog_2_method_2_code
def yX0_become : MethodName := ⟨RX0, "become", "(LPeaSpoons$Child;)V"⟩
abbrev cX0_part : ByteArray := prog_2_method_3_code
def yX0_part : MethodName := ⟨RX0, "part", "(I)I"⟩
abbrev cX0_setPart : ByteArray := prog_2_method_4_code
def yX0_setPart : MethodName := ⟨RX0, "setPart", "(II)V"⟩
abbrev cX0_isLiked : ByteArray := prog_2_method_5_code
def yX0_isLiked : MethodName := ⟨RX0, "isLiked", "(I)Z"⟩
abbrev cX0_likedSet : ByteArray := prog_2_method_6_code
def yX0_likedSet : MethodName := ⟨RX0, "likedSet", "()I"⟩
abbrev cX0_triedInAll : ByteArray := prog_2_method_7_code
def yX0_triedInAll : MethodName := ⟨RX0, "triedInAll", "()I"⟩
abbrev cX0_friendHas : ByteArray := prog_2_method_8_code
def yX0_friendHas : MethodName := ⟨RX0, "friendHas", "(I)Z"⟩
abbrev cX0_eats : ByteArray := prog_2_method_9_code
def yX0_eats : MethodName := ⟨RX0, "eats", "(IZ)I"⟩
abbrev cX0_moves : ByteArray := prog_2_method_10_code
def yX0_moves : MethodName := ⟨RX0, "moves", "(IZ)I"⟩
abbrev cX0_drawn : ByteArray := prog_2_method_11_code
def yX0_drawn : MethodName := ⟨RX0, "drawn", "()I"⟩
abbrev cX0_moveLike : ByteArray := prog_2_method_12_code
def yX0_moveLike : MethodName := ⟨RX0, "moveLike", "(II)V"⟩
abbrev cX0_serveTaste : ByteArray := prog_2_method_13_code
def yX0_serveTaste : MethodName := ⟨RX0, "serveTaste", "(I)I"⟩
abbrev cX0_serveMeal : ByteArray := prog_2_method_14_code
def yX0_serveMeal : MethodName := ⟨RX0, "serveMeal", "()I"⟩
abbrev cX0_goOn : ByteArray := prog_2_method_15_code
def yX0_goOn : MethodName := ⟨RX0, "goOn", "(I)I"⟩
abbrev cX0_booked : ByteArray := prog_2_method_16_code
def yX0_booked : MethodName := ⟨RX0, "booked", "()I"⟩
abbrev cX0_spoonsAgo : ByteArray := prog_2_method_17_code
def yX0_spoonsAgo : MethodName := ⟨RX0, "spoonsAgo", "(I)I"⟩
abbrev cX0_week : ByteArray := prog_2_method_18_code
def yX0_week : MethodName := ⟨RX0, "week", "()I"⟩
abbrev cX0_isShort : ByteArray := prog_2_method_19_code
def yX0_isShort : MethodName := ⟨RX0, "isShort", "()Z"⟩
abbrev cX0_freeSpotsOf : ByteArray := prog_2_method_20_code
def yX0_freeSpotsOf : MethodName := ⟨RX0, "freeSpotsOf", "(I)V"⟩
abbrev cX0_spotsInUse : ByteArray := prog_2_method_21_code
def yX0_spotsInUse : MethodName := ⟨RX0, "spotsInUse", "()I"⟩
def RX1 : String := "PeaSpoons$Plan"
def TX1 : u_T := fun k => match k with
  | 0 => ("PeaSpoons$Plan", "kinds", "[I", true)
  | 1 => ("PeaSpoons$Plan", "foods", "[I", true)
  | 2 => ("PeaSpoons$Plan", "puts", "[I", true)
  | _ => ("PeaSpoons$Plan", "size", "I", false)
def tyX1 : Nat → FieldType := fun k => match k with
  | 0 => .array .int
  | 1 => .array .int
  | 2 => .array .int
  | _ => .int
theorem nmX1 : ∀ a, a < 4 → ∀ b, b < 4 → a ≠ b → (TX1 a).2.1 ≠ (TX1 b).2.1 := by decide +kernel
theorem tyX1_ok : ∀ k, k < 4 → parseFieldDescriptor (TX1 k).2.2.1 = some (tyX1 k) := by decide +kernel
abbrev cX1_init : ByteArray := prog_3_method_1_code
def yX1_init : MethodName := ⟨RX1, "<init>", "()V"⟩
abbrev cX1_becomePlan : ByteArray := prog_3_method_2_code
def yX1_becomePlan : MethodName := ⟨RX1, "becomePlan", "(LPeaSpoons$Plan;)V"⟩
abbrev cX1_row : ByteArray := prog_3_method_3_code
def yX1_row : MethodName := ⟨RX1, "row", "(I)[I"⟩
abbrev cX1_isFull : ByteArray := prog_3_method_4_code
def yX1_isFull : MethodName := ⟨RX1, "isFull", "()Z"⟩
abbrev cX1_add : ByteArray := prog_3_method_5_code
def yX1_add : MethodName := ⟨RX1, "add", "(III)I"⟩
abbrev cX1_exchange : ByteArray := prog_3_method_6_code
def yX1_exchange : MethodName := ⟨RX1, "exchange", "(II)V"⟩
abbrev cX1_exchangeIn : ByteArray := prog_3_method_7_code
def yX1_exchangeIn : MethodName := ⟨RX1, "exchangeIn", "([III)V"⟩
abbrev cX1_keepOnly : ByteArray := prog_3_method_8_code
def yX1_keepOnly : MethodName := ⟨RX1, "keepOnly", "(I)V"⟩
abbrev cX1_pressThePaid : ByteArray := prog_3_method_9_code
def yX1_pressThePaid : MethodName := ⟨RX1, "pressThePaid", "()V"⟩
def RX2 : String := "PeaSpoons$Sheet"
def TX2 : u_T := fun k => match k with
  | 0 => ("PeaSpoons$Sheet", "numbers", "[I", true)
  | 1 => ("PeaSpoons$Sheet", "bits", "I", false)
  | _ => ("PeaSpoons$Sheet", "size", "I", false)
def tyX2 : Nat → FieldType := fun k => match k with
  | 0 => .array .int
  | 1 => .int
  | _ => .int
theorem nmX2 : ∀ a, a < 3 → ∀ b, b < 3 → a ≠ b → (TX2 a).2.1 ≠ (TX2 b).2.1 := by decide +kernel
theorem tyX2_ok : ∀ k, k < 3 → parseFieldDescriptor (TX2 k).2.2.1 = some (tyX2 k) := by decide +kernel
abbrev cX2_init : ByteArray := prog_4_method_1_code
def yX2_init : MethodName := ⟨RX2, "<init>", "()V"⟩
abbrev cX2_isMissing : ByteArray := prog_4_method_2_code
def yX2_isMissing : MethodName := ⟨RX2, "isMissing", "()Z"⟩
abbrev cX2_lay : ByteArray := prog_4_method_3_code
def yX2_lay : MethodName := ⟨RX2, "lay", "(II)V"⟩
abbrev cX2_has : ByteArray := prog_4_method_4_code
def yX2_has : MethodName := ⟨RX2, "has", "(II)Z"⟩
abbrev cX2_put : ByteArray := prog_4_method_5_code
def yX2_put : MethodName := ⟨RX2, "put", "(II)V"⟩
def RX3 : String := "PeaSpoons$Tape"
def TX3 : u_T := fun k => match k with
  | 0 => ("PeaSpoons$Tape", "bytes", "[I", true)
  | 1 => ("PeaSpoons$Tape", "size", "I", false)
  | 2 => ("PeaSpoons$Tape", "kinds", "[I", true)
  | 3 => ("PeaSpoons$Tape", "starts", "[I", true)
  | 4 => ("PeaSpoons$Tape", "lengths", "[I", true)
  | 5 => ("PeaSpoons$Tape", "values", "[I", true)
  | 6 => ("PeaSpoons$Tape", "tokens", "I", false)
  | _ => ("PeaSpoons$Tape", "at", "I", false)
def tyX3 : Nat → FieldType := fun k => match k with
  | 0 => .array .int
  | 1 => .int
  | 2 => .array .int
  | 3 => .array .int
  | 4 => .array .int
  | 5 => .array .int
  | 6 => .int
  | _ => .int
theorem nmX3 : ∀ a, a < 8 → ∀ b, b < 8 → a ≠ b → (TX3 a).2.1 ≠ (TX3 b).2.1 := by decide +kernel
theorem tyX3_ok : ∀ k, k < 8 → parseFieldDescriptor (TX3 k).2.2.1 = some (tyX3 k) := by decide +kernel
abbrev cX3_init : ByteArray := prog_5_method_1_code
def yX3_init : MethodName := ⟨RX3, "<init>", "()V"⟩
abbrev cX3_add : ByteArray := prog_5_method_2_code
def yX3_add : MethodName := ⟨RX3, "add", "(I)V"⟩
abbrev cX3_cut : ByteArray := prog_5_method_3_code
def yX3_cut : MethodName := ⟨RX3, "cut", "()V"⟩
abbrev cX3_kindOf : ByteArray := prog_5_method_4_code
def yX3_kindOf : MethodName := ⟨RX3, "kindOf", "(I)I"⟩
abbrev cX3_begin : ByteArray := prog_5_method_5_code
def yX3_begin : MethodName := ⟨RX3, "begin", "(II)V"⟩
abbrev cX3_lengthen : ByteArray := prog_5_method_6_code
def yX3_lengthen : MethodName := ⟨RX3, "lengthen", "(I)V"⟩
abbrev cX3_place : ByteArray := prog_5_method_7_code
def yX3_place : MethodName := ⟨RX3, "place", "()I"⟩
abbrev cX3_isAtEnd : ByteArray := prog_5_method_8_code
def yX3_isAtEnd : MethodName := ⟨RX3, "isAtEnd", "()Z"⟩
abbrev cX3_isAtNumber : ByteArray := prog_5_method_9_code
def yX3_isAtNumber : MethodName := ⟨RX3, "isAtNumber", "()Z"⟩
abbrev cX3_isAtWord : ByteArray := prog_5_method_10_code
def yX3_isAtWord : MethodName := ⟨RX3, "isAtWord", "(Ljava/lang/String;)Z"⟩
abbrev cX3_step : ByteArray := prog_5_method_11_code
def yX3_step : MethodName := ⟨RX3, "step", "()V"⟩
abbrev cX3_takesSign : ByteArray := prog_5_method_12_code
def yX3_takesSign : MethodName := ⟨RX3, "takesSign", "()Z"⟩
abbrev cX3_takenNumber : ByteArray := prog_5_method_13_code
def yX3_takenNumber : MethodName := ⟨RX3, "takenNumber", "(II)I"⟩
abbrev cX3_takenNumberBehindWord : ByteArray := prog_5_method_14_code
def yX3_takenNumberBehindWord : MethodName := ⟨RX3, "takenNumberBehindWord", "(II)I"⟩
def RX4 : String := "PeaSpoons$Text"
def TX4 : u_T := fun k => match k with
  | _ => ("", "", "", false)
def tyX4 : Nat → FieldType := fun k => match k with
  | _ => .int
theorem nmX4 : ∀ a, a < 0 → ∀ b, b < 0 → a ≠ b → (TX4 a).2.1 ≠ (TX4 b).2.1 := by decide +kernel
theorem tyX4_ok : ∀ k, k < 0 → parseFieldDescriptor (TX4 k).2.2.1 = some (tyX4 k) := by decide +kernel
abbrev cX4_read : ByteArray := prog_6_method_2_code
def yX4_read : MethodName := ⟨RX4, "read", "(LPeaSpoons$Tape;LPeaSpoons$Child;)I"⟩
abbrev cX4_readItem : ByteArray := prog_6_method_3_code
def yX4_readItem : MethodName := ⟨RX4, "readItem", "(LPeaSpoons$Tape;LPeaSpoons$Child;)Z"⟩
abbrev cX4_partTold : ByteArray := prog_6_method_4_code
def yX4_partTold : MethodName := ⟨RX4, "partTold", "(LPeaSpoons$Tape;)I"⟩
abbrev cX4_kindTold : ByteArray := prog_6_method_5_code
def yX4_kindTold : MethodName := ⟨RX4, "kindTold", "(LPeaSpoons$Tape;)I"⟩
abbrev cX4_kindWord : ByteArray := prog_6_method_6_code
def yX4_kindWord : MethodName := ⟨RX4, "kindWord", "(I)Ljava/lang/String;"⟩
abbrev cX4_readPart : ByteArray := prog_6_method_7_code
def yX4_readPart : MethodName := ⟨RX4, "readPart", "(LPeaSpoons$Tape;LPeaSpoons$Child;I)Z"⟩
abbrev cX4_readTaste : ByteArray := prog_6_method_8_code
def yX4_readTaste : MethodName := ⟨RX4, "readTaste", "(LPeaSpoons$Tape;LPeaSpoons$Child;I)Z"⟩
abbrev cX4_readFood : ByteArray := prog_6_method_9_code
def yX4_readFood : MethodName := ⟨RX4, "readFood", "(LPeaSpoons$Tape;LPeaSpoons$Child;)Z"⟩
abbrev cX4_readPudding : ByteArray := prog_6_method_10_code
def yX4_readPudding : MethodName := ⟨RX4, "readPudding", "(LPeaSpoons$Tape;LPeaSpoons$Child;)Z"⟩
abbrev cX4_readFriend : ByteArray := prog_6_method_11_code
def yX4_readFriend : MethodName := ⟨RX4, "readFriend", "(LPeaSpoons$Tape;LPeaSpoons$Child;)Z"⟩
def RX5 : String := "PeaSpoons"
def TX5 : u_T := fun k => match k with
  | 0 => ("PeaSpoons", "child", "LPeaSpoons$Child;", true)
  | 1 => ("PeaSpoons", "trial", "LPeaSpoons$Child;", true)
  | 2 => ("PeaSpoons", "kept", "LPeaSpoons$Child;", true)
  | 3 => ("PeaSpoons", "isKept", "Z", false)
  | 4 => ("PeaSpoons", "tape", "LPeaSpoons$Tape;", true)
  | 5 => ("PeaSpoons", "sheets", "[LPeaSpoons$Sheet;", true)
  | _ => ("PeaSpoons", "findings", "[I", true)
def tyX5 : Nat → FieldType := fun k => match k with
  | 0 => .object "PeaSpoons$Child"
  | 1 => .object "PeaSpoons$Child"
  | 2 => .object "PeaSpoons$Child"
  | 3 => .boolean
  | 4 => .object "PeaSpoons$Tape"
  | 5 => .array (.object "PeaSpoons$Sheet")
  | _ => .array .int
theorem nmX5 : ∀ a, a < 7 → ∀ b, b < 7 → a ≠ b → (TX5 a).2.1 ≠ (TX5 b).2.1 := by decide +kernel
theorem tyX5_ok : ∀ k, k < 7 → parseFieldDescriptor (TX5 k).2.2.1 = some (tyX5 k) := by decide +kernel
abbrev cX5_init : ByteArray := prog_1_method_1_code
def yX5_init : MethodName := ⟨RX5, "<init>", "()V"⟩
abbrev cX5_finding : ByteArray := prog_1_method_2_code
def yX5_finding : MethodName := ⟨RX5, "finding", "(I)I"⟩
abbrev cX5_within : ByteArray := prog_1_method_3_code
def yX5_within : MethodName := ⟨RX5, "within", "(III)Z"⟩
abbrev cX5_isFood : ByteArray := prog_1_method_4_code
def yX5_isFood : MethodName := ⟨RX5, "isFood", "(I)Z"⟩
abbrev cX5_isKind : ByteArray := prog_1_method_5_code
def yX5_isKind : MethodName := ⟨RX5, "isKind", "(I)Z"⟩
abbrev cX5_isPut : ByteArray := prog_1_method_6_code
def yX5_isPut : MethodName := ⟨RX5, "isPut", "(I)Z"⟩
abbrev cX5_partLow : ByteArray := prog_1_method_7_code
def yX5_partLow : MethodName := ⟨RX5, "partLow", "(I)I"⟩
abbrev cX5_partTop : ByteArray := prog_1_method_8_code
def yX5_partTop : MethodName := ⟨RX5, "partTop", "(I)I"⟩
abbrev cX5_traitLow : ByteArray := prog_1_method_9_code
def yX5_traitLow : MethodName := ⟨RX5, "traitLow", "(I)I"⟩
abbrev cX5_traitTop : ByteArray := prog_1_method_10_code
def yX5_traitTop : MethodName := ⟨RX5, "traitTop", "(I)I"⟩
abbrev cX5_isTaste : ByteArray := prog_1_method_11_code
def yX5_isTaste : MethodName := ⟨RX5, "isTaste", "(I)Z"⟩
abbrev cX5_isPastLast : ByteArray := prog_1_method_12_code
def yX5_isPastLast : MethodName := ⟨RX5, "isPastLast", "(I)Z"⟩
abbrev cX5_food : ByteArray := prog_1_method_13_code
def yX5_food : MethodName := ⟨RX5, "food", "(III)I"⟩
abbrev cX5_replaced : ByteArray := prog_1_method_14_code
def yX5_replaced : MethodName := ⟨RX5, "replaced", "([III)I"⟩
abbrev cX5_foodOf : ByteArray := prog_1_method_15_code
def yX5_foodOf : MethodName := ⟨RX5, "foodOf", "(II)I"⟩
abbrev cX5_child : ByteArray := prog_1_method_16_code
def yX5_child : MethodName := ⟨RX5, "child", "(II)I"⟩
abbrev cX5_pudding : ByteArray := prog_1_method_17_code
def yX5_pudding : MethodName := ⟨RX5, "pudding", "(I)I"⟩
abbrev cX5_friend : ByteArray := prog_1_method_18_code
def yX5_friend : MethodName := ⟨RX5, "friend", "(I)I"⟩
abbrev cX5_liked : ByteArray := prog_1_method_19_code
def yX5_liked : MethodName := ⟨RX5, "liked", "()I"⟩
abbrev cX5_next : ByteArray := prog_1_method_20_code
def yX5_next : MethodName := ⟨RX5, "next", "()I"⟩
abbrev cX5_taste : ByteArray := prog_1_method_21_code
def yX5_taste : MethodName := ⟨RX5, "taste", "(III)I"⟩
abbrev cX5_tasteOf : ByteArray := prog_1_method_22_code
def yX5_tasteOf : MethodName := ⟨RX5, "tasteOf", "(II)I"⟩
abbrev cX5_change : ByteArray := prog_1_method_23_code
def yX5_change : MethodName := ⟨RX5, "change", "(III)I"⟩
abbrev cX5_swap : ByteArray := prog_1_method_24_code
def yX5_swap : MethodName := ⟨RX5, "swap", "(II)I"⟩
abbrev cX5_drop : ByteArray := prog_1_method_25_code
def yX5_drop : MethodName := ⟨RX5, "drop", "()I"⟩
abbrev cX5_meals : ByteArray := prog_1_method_26_code
def yX5_meals : MethodName := ⟨RX5, "meals", "(I)I"⟩
abbrev cX5_now : ByteArray := prog_1_method_27_code
def yX5_now : MethodName := ⟨RX5, "now", "(I)I"⟩
abbrev cX5_book : ByteArray := prog_1_method_28_code
def yX5_book : MethodName := ⟨RX5, "book", "(I)I"⟩
abbrev cX5_day : ByteArray := prog_1_method_29_code
def yX5_day : MethodName := ⟨RX5, "day", "(I)I"⟩
abbrev cX5_spread : ByteArray := prog_1_method_30_code
def yX5_spread : MethodName := ⟨RX5, "spread", "()I"⟩
abbrev cX5_ahead : ByteArray := prog_1_method_31_code
def yX5_ahead : MethodName := ⟨RX5, "ahead", "(II)I"⟩
abbrev cX5_when : ByteArray := prog_1_method_32_code
def yX5_when : MethodName := ⟨RX5, "when", "(I)I"⟩
abbrev cX5_times : ByteArray := prog_1_method_33_code
def yX5_times : MethodName := ⟨RX5, "times", "(I)I"⟩
abbrev cX5_mealsTillLiked : ByteArray := prog_1_method_34_code
def yX5_mealsTillLiked : MethodName := ⟨RX5, "mealsTillLiked", "(II)I"⟩
abbrev cX5_kindFor : ByteArray := prog_1_method_35_code
def yX5_kindFor : MethodName := ⟨RX5, "kindFor", "(II)I"⟩
abbrev cX5_foodFor : ByteArray := prog_1_method_36_code
def yX5_foodFor : MethodName := ⟨RX5, "foodFor", "(II)I"⟩
abbrev cX5_putFor : ByteArray := prog_1_method_37_code
def yX5_putFor : MethodName := ⟨RX5, "putFor", "(II)I"⟩
abbrev cX5_bestFor : ByteArray := prog_1_method_38_code
def yX5_bestFor : MethodName := ⟨RX5, "bestFor", "(III)I"⟩
abbrev cX5_paid : ByteArray := prog_1_method_39_code
def yX5_paid : MethodName := ⟨RX5, "paid", "(I)I"⟩
abbrev cX5_worry : ByteArray := prog_1_method_40_code
def yX5_worry : MethodName := ⟨RX5, "worry", "()I"⟩
abbrev cX5_likedBehind : ByteArray := prog_1_method_41_code
def yX5_likedBehind : MethodName := ⟨RX5, "likedBehind", "(I)I"⟩
abbrev cX5_order : ByteArray := prog_1_method_42_code
def yX5_order : MethodName := ⟨RX5, "order", "(I)I"⟩
abbrev cX5_chance : ByteArray := prog_1_method_43_code
def yX5_chance : MethodName := ⟨RX5, "chance", "(III)I"⟩
abbrev cX5_seed : ByteArray := prog_1_method_44_code
def yX5_seed : MethodName := ⟨RX5, "seed", "(I)I"⟩
abbrev cX5_feed : ByteArray := prog_1_method_45_code
def yX5_feed : MethodName := ⟨RX5, "feed", "(II)I"⟩
abbrev cX5_wipe : ByteArray := prog_1_method_46_code
def yX5_wipe : MethodName := ⟨RX5, "wipe", "()I"⟩
abbrev cX5_text : ByteArray := prog_1_method_47_code
def yX5_text : MethodName := ⟨RX5, "text", "()I"⟩
abbrev cX5_hold : ByteArray := prog_1_method_48_code
def yX5_hold : MethodName := ⟨RX5, "hold", "(II)I"⟩
abbrev cX5_as : ByteArray := prog_1_method_49_code
def yX5_as : MethodName := ⟨RX5, "as", "(II)I"⟩
abbrev cX5_isUnder : ByteArray := prog_1_method_50_code
def yX5_isUnder : MethodName := ⟨RX5, "isUnder", "(II)Z"⟩
abbrev cX5_isSheet : ByteArray := prog_1_method_51_code
def yX5_isSheet : MethodName := ⟨RX5, "isSheet", "(I)Z"⟩
abbrev cX5_sheet : ByteArray := prog_1_method_52_code
def yX5_sheet : MethodName := ⟨RX5, "sheet", "(III)I"⟩
abbrev cX5_write : ByteArray := prog_1_method_53_code
def yX5_write : MethodName := ⟨RX5, "write", "(III)I"⟩
abbrev cX5_copy : ByteArray := prog_1_method_54_code
def yX5_copy : MethodName := ⟨RX5, "copy", "(IIIII)I"⟩
abbrev cX5_load : ByteArray := prog_1_method_55_code
def yX5_load : MethodName := ⟨RX5, "load", "(I)I"⟩
abbrev cX5_judge : ByteArray := prog_1_method_56_code
def yX5_judge : MethodName := ⟨RX5, "judge", "(I)I"⟩
abbrev cX5_image : ByteArray := prog_1_method_57_code
def yX5_image : MethodName := ⟨RX5, "image", "()I"⟩
abbrev cX5_undo : ByteArray := prog_1_method_58_code
def yX5_undo : MethodName := ⟨RX5, "undo", "()I"⟩
abbrev cX5_tear : ByteArray := prog_1_method_59_code
def yX5_tear : MethodName := ⟨RX5, "tear", "()I"⟩
abbrev cX5_count : ByteArray := prog_1_method_60_code
def yX5_count : MethodName := ⟨RX5, "count", "(I)I"⟩
abbrev cX5_status : ByteArray := prog_1_method_61_code
def yX5_status : MethodName := ⟨RX5, "status", "(I)I"⟩
def RX6 : String := "PeaSpoonsModel"
def TX6 : u_T := fun k => match k with
  | 0 => ("PeaSpoonsModel", "m", "[I", true)
  | 1 => ("PeaSpoonsModel", "kept", "[I", true)
  | 2 => ("PeaSpoonsModel", "was", "[I", true)
  | 3 => ("PeaSpoonsModel", "isKept", "Z", false)
  | 4 => ("PeaSpoonsModel", "found", "[I", true)
  | 5 => ("PeaSpoonsModel", "tape", "[I", true)
  | 6 => ("PeaSpoonsModel", "taped", "I", false)
  | 7 => ("PeaSpoonsModel", "sort", "I", false)
  | 8 => ("PeaSpoonsModel", "from", "I", false)
  | 9 => ("PeaSpoonsModel", "to", "I", false)
  | 10 => ("PeaSpoonsModel", "value", "I", false)
  | 11 => ("PeaSpoonsModel", "bad", "Z", false)
  | 12 => ("PeaSpoonsModel", "bits", "[I", true)
  | 13 => ("PeaSpoonsModel", "size", "[I", true)
  | _ => ("PeaSpoonsModel", "number", "[I", true)
def tyX6 : Nat → FieldType := fun k => match k with
  | 0 => .array .int
  | 1 => .array .int
  | 2 => .array .int
  | 3 => .boolean
  | 4 => .array .int
  | 5 => .array .int
  | 6 => .int
  | 7 => .int
  | 8 => .int
  | 9 => .int
  | 10 => .int
  | 11 => .boolean
  | 12 => .array .int
  | 13 => .array .int
  | _ => .array .int
theorem nmX6 : ∀ a, a < 15 → ∀ b, b < 15 → a ≠ b → (TX6 a).2.1 ≠ (TX6 b).2.1 := by decide +kernel
theorem tyX6_ok : ∀ k, k < 15 → parseFieldDescriptor (TX6 k).2.2.1 = some (tyX6 k) := by decide +kernel
abbrev cX6_init : ByteArray := prog_8_method_1_code
def yX6_init : MethodName := ⟨RX6, "<init>", "()V"⟩
abbrev cX6_finds : ByteArray := prog_8_method_2_code
def yX6_finds : MethodName := ⟨RX6, "finds", "(I)I"⟩
abbrev cX6_orNone : ByteArray := prog_8_method_3_code
def yX6_orNone : MethodName := ⟨RX6, "orNone", "(I)I"⟩
abbrev cX6_in : ByteArray := prog_8_method_4_code
def yX6_in : MethodName := ⟨RX6, "in", "(JJJ)Z"⟩
abbrev cX6_held : ByteArray := prog_8_method_5_code
def yX6_held : MethodName := ⟨RX6, "held", "(II)I"⟩
abbrev cX6_row : ByteArray := prog_8_method_6_code
def yX6_row : MethodName := ⟨RX6, "row", "([I[I)V"⟩
abbrev cX6_becomes : ByteArray := prog_8_method_7_code
def yX6_becomes : MethodName := ⟨RX6, "becomes", "(II)I"⟩
abbrev cX6_isFood : ByteArray := prog_8_method_8_code
def yX6_isFood : MethodName := ⟨RX6, "isFood", "(I)Z"⟩
abbrev cX6_isTaste : ByteArray := prog_8_method_9_code
def yX6_isTaste : MethodName := ⟨RX6, "isTaste", "(I)Z"⟩
abbrev cX6_isKind : ByteArray := prog_8_method_10_code
def yX6_isKind : MethodName := ⟨RX6, "isKind", "(I)Z"⟩
abbrev cX6_isPut : ByteArray := prog_8_method_11_code
def yX6_isPut : MethodName := ⟨RX6, "isPut", "(I)Z"⟩
abbrev cX6_of : ByteArray := prog_8_method_12_code
def yX6_of : MethodName := ⟨RX6, "of", "(II)I"⟩
abbrev cX6_like : ByteArray := prog_8_method_13_code
def yX6_like : MethodName := ⟨RX6, "like", "(I)I"⟩
abbrev cX6_isLiked : ByteArray := prog_8_method_14_code
def yX6_isLiked : MethodName := ⟨RX6, "isLiked", "(I)Z"⟩
abbrev cX6_food : ByteArray := prog_8_method_15_code
def yX6_food : MethodName := ⟨RX6, "food", "(III)I"⟩
abbrev cX6_foodOf : ByteArray := prog_8_method_16_code
def yX6_foodOf : MethodName := ⟨RX6, "foodOf", "(II)I"⟩
abbrev cX6_isPart : ByteArray := prog_8_method_17_code
def yX6_isPart : MethodName := ⟨RX6, "isPart", "(II)Z"⟩
abbrev cX6_child : ByteArray := prog_8_method_18_code
def yX6_child : MethodName := ⟨RX6, "child", "(II)I"⟩
abbrev cX6_pudding : ByteArray := prog_8_method_19_code
def yX6_pudding : MethodName := ⟨RX6, "pudding", "(I)I"⟩
abbrev cX6_friend : ByteArray := prog_8_method_20_code
def yX6_friend : MethodName := ⟨RX6, "friend", "(I)I"⟩
abbrev cX6_liked : ByteArray := prog_8_method_21_code
def yX6_liked : MethodName := ⟨RX6, "liked", "()I"⟩
abbrev cX6_manyLiked : ByteArray := prog_8_method_22_code
def yX6_manyLiked : MethodName := ⟨RX6, "manyLiked", "()I"⟩
abbrev cX6_next : ByteArray := prog_8_method_23_code
def yX6_next : MethodName := ⟨RX6, "next", "()I"⟩
abbrev cX6_comes : ByteArray := prog_8_method_24_code
def yX6_comes : MethodName := ⟨RX6, "comes", "(III)V"⟩
abbrev cX6_taste : ByteArray := prog_8_method_25_code
def yX6_taste : MethodName := ⟨RX6, "taste", "(III)I"⟩
abbrev cX6_isFriends : ByteArray := prog_8_method_26_code
def yX6_isFriends : MethodName := ⟨RX6, "isFriends", "(I)Z"⟩
abbrev cX6_eats : ByteArray := prog_8_method_27_code
def yX6_eats : MethodName := ⟨RX6, "eats", "(IZ)I"⟩
abbrev cX6_moves : ByteArray := prog_8_method_28_code
def yX6_moves : MethodName := ⟨RX6, "moves", "(IZ)I"⟩
abbrev cX6_tasteOf : ByteArray := prog_8_method_29_code
def yX6_tasteOf : MethodName := ⟨RX6, "tasteOf", "(II)I"⟩
abbrev cX6_change : ByteArray := prog_8_method_30_code
def yX6_change : MethodName := ⟨RX6, "change", "(III)I"⟩
abbrev cX6_swaps : ByteArray := prog_8_method_31_code
def yX6_swaps : MethodName := ⟨RX6, "swaps", "(II)V"⟩
abbrev cX6_swap : ByteArray := prog_8_method_32_code
def yX6_swap : MethodName := ⟨RX6, "swap", "(II)I"⟩
abbrev cX6_drop : ByteArray := prog_8_method_33_code
def yX6_drop : MethodName := ⟨RX6, "drop", "()I"⟩
abbrev cX6_draw : ByteArray := prog_8_method_34_code
def yX6_draw : MethodName := ⟨RX6, "draw", "()I"⟩
abbrev cX6_likesMore : ByteArray := prog_8_method_35_code
def yX6_likesMore : MethodName := ⟨RX6, "likesMore", "(II)V"⟩
abbrev cX6_serves : ByteArray := prog_8_method_36_code
def yX6_serves : MethodName := ⟨RX6, "serves", "(I)I"⟩
abbrev cX6_meal : ByteArray := prog_8_method_37_code
def yX6_meal : MethodName := ⟨RX6, "meal", "(I)I"⟩
abbrev cX6_served : ByteArray := prog_8_method_38_code
def yX6_served : MethodName := ⟨RX6, "served", "()I"⟩
abbrev cX6_mealsOf : ByteArray := prog_8_method_39_code
def yX6_mealsOf : MethodName := ⟨RX6, "mealsOf", "(I)I"⟩
abbrev cX6_meals : ByteArray := prog_8_method_40_code
def yX6_meals : MethodName := ⟨RX6, "meals", "(I)I"⟩
abbrev cX6_week : ByteArray := prog_8_method_41_code
def yX6_week : MethodName := ⟨RX6, "week", "()I"⟩
abbrev cX6_isShort : ByteArray := prog_8_method_42_code
def yX6_isShort : MethodName := ⟨RX6, "isShort", "()Z"⟩
abbrev cX6_now : ByteArray := prog_8_method_43_code
def yX6_now : MethodName := ⟨RX6, "now", "(I)I"⟩
abbrev cX6_book : ByteArray := prog_8_method_44_code
def yX6_book : MethodName := ⟨RX6, "book", "(I)I"⟩
abbrev cX6_day : ByteArray := prog_8_method_45_code
def yX6_day : MethodName := ⟨RX6, "day", "(I)I"⟩
abbrev cX6_spread : ByteArray := prog_8_method_46_code
def yX6_spread : MethodName := ⟨RX6, "spread", "()I"⟩
abbrev cX6_wrongMeals : ByteArray := prog_8_method_47_code
def yX6_wrongMeals : MethodName := ⟨RX6, "wrongMeals", "(IIIZ)I"⟩
abbrev cX6_ahead : ByteArray := prog_8_method_48_code
def yX6_ahead : MethodName := ⟨RX6, "ahead", "(II)I"⟩
abbrev cX6_when : ByteArray := prog_8_method_49_code
def yX6_when : MethodName := ⟨RX6, "when", "(I)I"⟩
abbrev cX6_times : ByteArray := prog_8_method_50_code
def yX6_times : MethodName := ⟨RX6, "times", "(I)I"⟩
abbrev cX6_behind : ByteArray := prog_8_method_51_code
def yX6_behind : MethodName := ⟨RX6, "behind", "(IZ)I"⟩
abbrev cX6_bestIn : ByteArray := prog_8_method_52_code
def yX6_bestIn : MethodName := ⟨RX6, "bestIn", "(IIIIZ)I"⟩
abbrev cX6_kindFor : ByteArray := prog_8_method_53_code
def yX6_kindFor : MethodName := ⟨RX6, "kindFor", "(II)I"⟩
abbrev cX6_foodFor : ByteArray := prog_8_method_54_code
def yX6_foodFor : MethodName := ⟨RX6, "foodFor", "(II)I"⟩
abbrev cX6_putFor : ByteArray := prog_8_method_55_code
def yX6_putFor : MethodName := ⟨RX6, "putFor", "(II)I"⟩
abbrev cX6_paid : ByteArray := prog_8_method_56_code
def yX6_paid : MethodName := ⟨RX6, "paid", "(I)I"⟩
abbrev cX6_worry : ByteArray := prog_8_method_57_code
def yX6_worry : MethodName := ⟨RX6, "worry", "()I"⟩
abbrev cX6_order : ByteArray := prog_8_method_58_code
def yX6_order : MethodName := ⟨RX6, "order", "(I)I"⟩
abbrev cX6_chance : ByteArray := prog_8_method_59_code
def yX6_chance : MethodName := ⟨RX6, "chance", "(III)I"⟩
abbrev cX6_seed : ByteArray := prog_8_method_60_code
def yX6_seed : MethodName := ⟨RX6, "seed", "(I)I"⟩
abbrev cX6_feed : ByteArray := prog_8_method_61_code
def yX6_feed : MethodName := ⟨RX6, "feed", "(II)I"⟩
abbrev cX6_wipe : ByteArray := prog_8_method_62_code
def yX6_wipe : MethodName := ⟨RX6, "wipe", "()I"⟩
abbrev cX6_isByte : ByteArray := prog_8_method_63_code
def yX6_isByte : MethodName := ⟨RX6, "isByte", "(III)Z"⟩
abbrev cX6_token : ByteArray := prog_8_method_64_code
def yX6_token : MethodName := ⟨RX6, "token", "()V"⟩
abbrev cX6_isWord : ByteArray := prog_8_method_65_code
def yX6_isWord : MethodName := ⟨RX6, "isWord", "(Ljava/lang/String;)Z"⟩
abbrev cX6_takes : ByteArray := prog_8_method_66_code
def yX6_takes : MethodName := ⟨RX6, "takes", "(Ljava/lang/String;)Z"⟩
abbrev cX6_isSign : ByteArray := prog_8_method_67_code
def yX6_isSign : MethodName := ⟨RX6, "isSign", "(I)Z"⟩
abbrev cX6_number : ByteArray := prog_8_method_68_code
def yX6_number : MethodName := ⟨RX6, "number", "(II)I"⟩
abbrev cX6_tells : ByteArray := prog_8_method_69_code
def yX6_tells : MethodName := ⟨RX6, "tells", "(II)V"⟩
abbrev cX6_kindHere : ByteArray := prog_8_method_70_code
def yX6_kindHere : MethodName := ⟨RX6, "kindHere", "()I"⟩
abbrev cX6_foodItem : ByteArray := prog_8_method_71_code
def yX6_foodItem : MethodName := ⟨RX6, "foodItem", "()V"⟩
abbrev cX6_friendItem : ByteArray := prog_8_method_72_code
def yX6_friendItem : MethodName := ⟨RX6, "friendItem", "()V"⟩
abbrev cX6_tasteItem : ByteArray := prog_8_method_73_code
def yX6_tasteItem : MethodName := ⟨RX6, "tasteItem", "(I)V"⟩
abbrev cX6_item : ByteArray := prog_8_method_74_code
def yX6_item : MethodName := ⟨RX6, "item", "()V"⟩
abbrev cX6_text : ByteArray := prog_8_method_75_code
def yX6_text : MethodName := ⟨RX6, "text", "()I"⟩
abbrev cX6_hold : ByteArray := prog_8_method_76_code
def yX6_hold : MethodName := ⟨RX6, "hold", "(II)I"⟩
abbrev cX6_above : ByteArray := prog_8_method_77_code
def yX6_above : MethodName := ⟨RX6, "above", "(I)I"⟩
abbrev cX6_as : ByteArray := prog_8_method_78_code
def yX6_as : MethodName := ⟨RX6, "as", "(II)I"⟩
abbrev cX6_isSheet : ByteArray := prog_8_method_79_code
def yX6_isSheet : MethodName := ⟨RX6, "isSheet", "(I)Z"⟩
abbrev cX6_sheet : ByteArray := prog_8_method_80_code
def yX6_sheet : MethodName := ⟨RX6, "sheet", "(III)I"⟩
abbrev cX6_write : ByteArray := prog_8_method_81_code
def yX6_write : MethodName := ⟨RX6, "write", "(III)I"⟩
abbrev cX6_copy : ByteArray := prog_8_method_82_code
def yX6_copy : MethodName := ⟨RX6, "copy", "(IIIII)I"⟩
abbrev cX6_load : ByteArray := prog_8_method_83_code
def yX6_load : MethodName := ⟨RX6, "load", "(I)I"⟩
abbrev cX6_judge : ByteArray := prog_8_method_84_code
def yX6_judge : MethodName := ⟨RX6, "judge", "(I)I"⟩
abbrev cX6_image : ByteArray := prog_8_method_85_code
def yX6_image : MethodName := ⟨RX6, "image", "()I"⟩
abbrev cX6_undo : ByteArray := prog_8_method_86_code
def yX6_undo : MethodName := ⟨RX6, "undo", "()I"⟩
abbrev cX6_tear : ByteArray := prog_8_method_87_code
def yX6_tear : MethodName := ⟨RX6, "tear", "()I"⟩
abbrev cX6_count : ByteArray := prog_8_method_88_code
def yX6_count : MethodName := ⟨RX6, "count", "(I)I"⟩
abbrev cX6_status : ByteArray := prog_8_method_89_code
def yX6_status : MethodName := ⟨RX6, "status", "(I)I"⟩
def RJx145de : String := "java/io/Serializable"
def TJx145de : u_T := fun k => match k with
  | _ => ("", "", "", false)
def tyJx145de : Nat → FieldType := fun k => match k with
  | _ => .int
def RJx9f9b0 : String := "java/lang/CharSequence"
def TJx9f9b0 : u_T := fun k => match k with
  | _ => ("", "", "", false)
def tyJx9f9b0 : Nat → FieldType := fun k => match k with
  | _ => .int
def RJxb160c : String := "java/lang/Comparable"
def TJxb160c : u_T := fun k => match k with
  | _ => ("", "", "", false)
def tyJxb160c : Nat → FieldType := fun k => match k with
  | _ => .int
def RJ6 : String := "java/lang/Integer"
def TJ6 : u_T := fun k => match k with
  | _ => ("", "", "", false)
def tyJ6 : Nat → FieldType := fun k => match k with
  | _ => .int
abbrev cJ6_bitCount_0f7a4 : ByteArray := prog_9_method_49_code
def yJ6_bitCount_0f7a4 : MethodName := ⟨RJ6, "bitCount", "(I)I"⟩
def RJ9 : String := "java/lang/Math"
def TJ9 : u_T := fun k => match k with
  | _ => ("", "", "", false)
def tyJ9 : Nat → FieldType := fun k => match k with
  | _ => .int
abbrev cJ9_floorMod_7cf53 : ByteArray := prog_10_method_50_code
def yJ9_floorMod_7cf53 : MethodName := ⟨RJ9, "floorMod", "(II)I"⟩
abbrev cJ9_max_7cf53 : ByteArray := prog_10_method_65_code
def yJ9_max_7cf53 : MethodName := ⟨RJ9, "max", "(II)I"⟩
abbrev cJ9_min_7cf53 : ByteArray := prog_10_method_69_code
def yJ9_min_7cf53 : MethodName := ⟨RJ9, "min", "(II)I"⟩
def RJ0 : String := "java/lang/String"
def TJ0 : u_T := fun k => match k with
  | _ => ("", "", "", false)
def tyJ0 : Nat → FieldType := fun k => match k with
  | _ => .int
abbrev cJ0_length_8abf5 : ByteArray := prog_11_method_54_code
def yJ0_length_8abf5 : MethodName := ⟨RJ0, "length", "()I"⟩
abbrev cJ0_charAt_5068e : ByteArray := prog_11_method_56_code
def yJ0_charAt_5068e : MethodName := ⟨RJ0, "charAt", "(I)C"⟩
abbrev cJ0_coder_7d493 : ByteArray := prog_11_method_152_code
def yJ0_coder_7d493 : MethodName := ⟨RJ0, "coder", "()B"⟩
abbrev cJ0_isLatin1_aae02 : ByteArray := prog_11_method_154_code
def yJ0_isLatin1_aae02 : MethodName := ⟨RJ0, "isLatin1", "()Z"⟩
abbrev cJ0_checkIndex_df160 : ByteArray := prog_11_method_155_code
def yJ0_checkIndex_df160 : MethodName := ⟨RJ0, "checkIndex", "(II)V"⟩
def RJ1 : String := "java/lang/StringLatin1"
def TJ1 : u_T := fun k => match k with
  | _ => ("", "", "", false)
def tyJ1 : Nat → FieldType := fun k => match k with
  | _ => .int
abbrev cJ1_charAt_3b067 : ByteArray := prog_12_method_2_code
def yJ1_charAt_3b067 : MethodName := ⟨RJ1, "charAt", "([BI)C"⟩
def RJ2 : String := "java/lang/StringUTF16"
def TJ2 : u_T := fun k => match k with
  | _ => ("", "", "", false)
def tyJ2 : Nat → FieldType := fun k => match k with
  | _ => .int
abbrev cJ2_getChar_3b067 : ByteArray := prog_13_method_5_code
def yJ2_getChar_3b067 : MethodName := ⟨RJ2, "getChar", "([BI)C"⟩
abbrev cJ2_length_9d52b : ByteArray := prog_13_method_6_code
def yJ2_length_9d52b : MethodName := ⟨RJ2, "length", "([B)I"⟩
abbrev cJ2_charAt_3b067 : ByteArray := prog_13_method_83_code
def yJ2_charAt_3b067 : MethodName := ⟨RJ2, "charAt", "([BI)C"⟩
abbrev cJ2_checkIndex_2214a : ByteArray := prog_13_method_91_code
def yJ2_checkIndex_2214a : MethodName := ⟨RJ2, "checkIndex", "(I[B)V"⟩
def RJ10 : String := "java/lang/System"
def TJ10 : u_T := fun k => match k with
  | _ => ("", "", "", false)
def tyJ10 : Nat → FieldType := fun k => match k with
  | _ => .int
def RJxfd54e : String := "java/lang/constant/Constable"
def TJxfd54e : u_T := fun k => match k with
  | _ => ("", "", "", false)
def tyJxfd54e : Nat → FieldType := fun k => match k with
  | _ => .int
def RJx3cf43 : String := "java/lang/constant/ConstantDesc"
def TJx3cf43 : u_T := fun k => match k with
  | _ => ("", "", "", false)
def tyJx3cf43 : Nat → FieldType := fun k => match k with
  | _ => .int
def RJ7 : String := "java/util/Arrays"
def TJ7 : u_T := fun k => match k with
  | _ => ("", "", "", false)
def tyJ7 : Nat → FieldType := fun k => match k with
  | _ => .int
abbrev cJ7_fill_53178 : ByteArray := prog_15_method_103_code
def yJ7_fill_53178 : MethodName := ⟨RJ7, "fill", "([II)V"⟩
def RJ3 : String := "jdk/internal/util/Preconditions"
def TJ3 : u_T := fun k => match k with
  | _ => ("", "", "", false)
def tyJ3 : Nat → FieldType := fun k => match k with
  | _ => .int
abbrev cJ3_checkIndex_8e157 : ByteArray := prog_16_method_11_code
def yJ3_checkIndex_8e157 : MethodName := ⟨RJ3, "checkIndex", "(IILjava/util/function/BiFunction;)I"⟩
def RL : String := "PeaSpoonsLaw"
abbrev cL_law : ByteArray := code
def yL_law : MethodName := ⟨RL, "law", "([I)Z"⟩
abbrev vwCl : List vw_C := [(RX0, TX0, 14), (RX1, TX1, 4), (RX2, TX2, 3), (RX3, TX3, 8), (RX5, TX5, 7), (RX6, TX6, 15)]
