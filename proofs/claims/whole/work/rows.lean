section
-- ===== PART A: goes FIRST, ahead of the names: the tables' words, and 'selects' of the private methods out of them =====
/-- a private method of a class that the tables say can be made, by its rows of tables_1 -/
def lw_okq (q : MethodName × Nat) : Prop := (q.1.cls ≠ "java/lang/invoke/MethodHandle" ∧ q.1.cls ≠ "java/lang/invoke/VarHandle") ∧ Cond.instantiable q.1.cls q.2 ∈ tables_1 ∧ Cond.privateMethod q.1 ∈ tables_1 ∧ Cond.instanceMethod q.1 ∈ tables_1
theorem lw_p0 : lw_okq (⟨"PeaSpoons", "finding", "(I)I"⟩, 7) := ⟨⟨by decide +kernel, by decide +kernel⟩, List.mem_of_getElem? (i := 17) (by decide +kernel), List.mem_of_getElem? (i := 208) (by decide +kernel), List.mem_of_getElem? (i := 209) (by decide +kernel)⟩
theorem lw_p1 : lw_okq (⟨"PeaSpoons", "isTaste", "(I)Z"⟩, 7) := ⟨⟨by decide +kernel, by decide +kernel⟩, List.mem_of_getElem? (i := 17) (by decide +kernel), List.mem_of_getElem? (i := 286) (by decide +kernel), List.mem_of_getElem? (i := 287) (by decide +kernel)⟩
theorem lw_p2 : lw_okq (⟨"PeaSpoons", "isPastLast", "(I)Z"⟩, 7) := ⟨⟨by decide +kernel, by decide +kernel⟩, List.mem_of_getElem? (i := 17) (by decide +kernel), List.mem_of_getElem? (i := 342) (by decide +kernel), List.mem_of_getElem? (i := 343) (by decide +kernel)⟩
theorem lw_p3 : lw_okq (⟨"PeaSpoons$Child", "serveTaste", "(I)I"⟩, 14) := ⟨⟨by decide +kernel, by decide +kernel⟩, List.mem_of_getElem? (i := 25) (by decide +kernel), List.mem_of_getElem? (i := 356) (by decide +kernel), List.mem_of_getElem? (i := 357) (by decide +kernel)⟩
theorem lw_p4 : lw_okq (⟨"PeaSpoons$Child", "drawn", "()I"⟩, 14) := ⟨⟨by decide +kernel, by decide +kernel⟩, List.mem_of_getElem? (i := 25) (by decide +kernel), List.mem_of_getElem? (i := 360) (by decide +kernel), List.mem_of_getElem? (i := 361) (by decide +kernel)⟩
theorem lw_p5 : lw_okq (⟨"PeaSpoons$Child", "moveLike", "(II)V"⟩, 14) := ⟨⟨by decide +kernel, by decide +kernel⟩, List.mem_of_getElem? (i := 25) (by decide +kernel), List.mem_of_getElem? (i := 367) (by decide +kernel), List.mem_of_getElem? (i := 368) (by decide +kernel)⟩
theorem lw_p6 : lw_okq (⟨"PeaSpoons", "mealsTillLiked", "(II)I"⟩, 7) := ⟨⟨by decide +kernel, by decide +kernel⟩, List.mem_of_getElem? (i := 17) (by decide +kernel), List.mem_of_getElem? (i := 435) (by decide +kernel), List.mem_of_getElem? (i := 436) (by decide +kernel)⟩
theorem lw_p7 : lw_okq (⟨"PeaSpoons", "bestFor", "(III)I"⟩, 7) := ⟨⟨by decide +kernel, by decide +kernel⟩, List.mem_of_getElem? (i := 17) (by decide +kernel), List.mem_of_getElem? (i := 453) (by decide +kernel), List.mem_of_getElem? (i := 454) (by decide +kernel)⟩
theorem lw_p8 : lw_okq (⟨"PeaSpoons", "likedBehind", "(I)I"⟩, 7) := ⟨⟨by decide +kernel, by decide +kernel⟩, List.mem_of_getElem? (i := 17) (by decide +kernel), List.mem_of_getElem? (i := 487) (by decide +kernel), List.mem_of_getElem? (i := 488) (by decide +kernel)⟩
theorem lw_p9 : lw_okq (⟨"PeaSpoons$Tape", "begin", "(II)V"⟩, 8) := ⟨⟨by decide +kernel, by decide +kernel⟩, List.mem_of_getElem? (i := 123) (by decide +kernel), List.mem_of_getElem? (i := 526) (by decide +kernel), List.mem_of_getElem? (i := 527) (by decide +kernel)⟩
theorem lw_p10 : lw_okq (⟨"PeaSpoons$Tape", "lengthen", "(I)V"⟩, 8) := ⟨⟨by decide +kernel, by decide +kernel⟩, List.mem_of_getElem? (i := 123) (by decide +kernel), List.mem_of_getElem? (i := 530) (by decide +kernel), List.mem_of_getElem? (i := 531) (by decide +kernel)⟩
theorem lw_p11 : lw_okq (⟨"PeaSpoonsModel", "becomes", "(II)I"⟩, 15) := ⟨⟨by decide +kernel, by decide +kernel⟩, List.mem_of_getElem? (i := 751) (by decide +kernel), List.mem_of_getElem? (i := 815) (by decide +kernel), List.mem_of_getElem? (i := 816) (by decide +kernel)⟩
theorem lw_p12 : lw_okq (⟨"PeaSpoonsModel", "finds", "(I)I"⟩, 15) := ⟨⟨by decide +kernel, by decide +kernel⟩, List.mem_of_getElem? (i := 751) (by decide +kernel), List.mem_of_getElem? (i := 820) (by decide +kernel), List.mem_of_getElem? (i := 821) (by decide +kernel)⟩
theorem lw_p13 : lw_okq (⟨"PeaSpoonsModel", "isLiked", "(I)Z"⟩, 15) := ⟨⟨by decide +kernel, by decide +kernel⟩, List.mem_of_getElem? (i := 751) (by decide +kernel), List.mem_of_getElem? (i := 829) (by decide +kernel), List.mem_of_getElem? (i := 830) (by decide +kernel)⟩
theorem lw_p14 : lw_okq (⟨"PeaSpoonsModel", "like", "(I)I"⟩, 15) := ⟨⟨by decide +kernel, by decide +kernel⟩, List.mem_of_getElem? (i := 751) (by decide +kernel), List.mem_of_getElem? (i := 833) (by decide +kernel), List.mem_of_getElem? (i := 834) (by decide +kernel)⟩
theorem lw_p15 : lw_okq (⟨"PeaSpoonsModel", "orNone", "(I)I"⟩, 15) := ⟨⟨by decide +kernel, by decide +kernel⟩, List.mem_of_getElem? (i := 751) (by decide +kernel), List.mem_of_getElem? (i := 862) (by decide +kernel), List.mem_of_getElem? (i := 863) (by decide +kernel)⟩
def lw_privs_1 : List (MethodName × Nat) := [(⟨"PeaSpoons", "finding", "(I)I"⟩, 7), (⟨"PeaSpoons", "isTaste", "(I)Z"⟩, 7), (⟨"PeaSpoons", "isPastLast", "(I)Z"⟩, 7), (⟨"PeaSpoons$Child", "serveTaste", "(I)I"⟩, 14), (⟨"PeaSpoons$Child", "drawn", "()I"⟩, 14), (⟨"PeaSpoons$Child", "moveLike", "(II)V"⟩, 14), (⟨"PeaSpoons", "mealsTillLiked", "(II)I"⟩, 7), (⟨"PeaSpoons", "bestFor", "(III)I"⟩, 7), (⟨"PeaSpoons", "likedBehind", "(I)I"⟩, 7), (⟨"PeaSpoons$Tape", "begin", "(II)V"⟩, 8), (⟨"PeaSpoons$Tape", "lengthen", "(I)V"⟩, 8), (⟨"PeaSpoonsModel", "becomes", "(II)I"⟩, 15), (⟨"PeaSpoonsModel", "finds", "(I)I"⟩, 15), (⟨"PeaSpoonsModel", "isLiked", "(I)Z"⟩, 15), (⟨"PeaSpoonsModel", "like", "(I)I"⟩, 15), (⟨"PeaSpoonsModel", "orNone", "(I)I"⟩, 15)]
theorem lw_r1 : ∀ q ∈ lw_privs_1, lw_okq q := List.forall_mem_cons.mpr ⟨lw_p0, List.forall_mem_cons.mpr ⟨lw_p1, List.forall_mem_cons.mpr ⟨lw_p2, List.forall_mem_cons.mpr ⟨lw_p3, List.forall_mem_cons.mpr ⟨lw_p4, List.forall_mem_cons.mpr ⟨lw_p5, List.forall_mem_cons.mpr ⟨lw_p6, List.forall_mem_cons.mpr ⟨lw_p7, List.forall_mem_cons.mpr ⟨lw_p8, List.forall_mem_cons.mpr ⟨lw_p9, List.forall_mem_cons.mpr ⟨lw_p10, List.forall_mem_cons.mpr ⟨lw_p11, List.forall_mem_cons.mpr ⟨lw_p12, List.forall_mem_cons.mpr ⟨lw_p13, List.forall_mem_cons.mpr ⟨lw_p14, List.forall_mem_cons.mpr ⟨lw_p15, fun _ h => absurd h List.not_mem_nil⟩⟩⟩⟩⟩⟩⟩⟩⟩⟩⟩⟩⟩⟩⟩⟩
theorem lw_p16 : lw_okq (⟨"PeaSpoonsModel", "comes", "(III)V"⟩, 15) := ⟨⟨by decide +kernel, by decide +kernel⟩, List.mem_of_getElem? (i := 751) (by decide +kernel), List.mem_of_getElem? (i := 880) (by decide +kernel), List.mem_of_getElem? (i := 881) (by decide +kernel)⟩
theorem lw_p17 : lw_okq (⟨"PeaSpoonsModel", "isTaste", "(I)Z"⟩, 15) := ⟨⟨by decide +kernel, by decide +kernel⟩, List.mem_of_getElem? (i := 751) (by decide +kernel), List.mem_of_getElem? (i := 888) (by decide +kernel), List.mem_of_getElem? (i := 889) (by decide +kernel)⟩
theorem lw_p18 : lw_okq (⟨"PeaSpoonsModel", "of", "(II)I"⟩, 15) := ⟨⟨by decide +kernel, by decide +kernel⟩, List.mem_of_getElem? (i := 751) (by decide +kernel), List.mem_of_getElem? (i := 893) (by decide +kernel), List.mem_of_getElem? (i := 894) (by decide +kernel)⟩
theorem lw_p19 : lw_okq (⟨"PeaSpoonsModel", "eats", "(IZ)I"⟩, 15) := ⟨⟨by decide +kernel, by decide +kernel⟩, List.mem_of_getElem? (i := 751) (by decide +kernel), List.mem_of_getElem? (i := 897) (by decide +kernel), List.mem_of_getElem? (i := 898) (by decide +kernel)⟩
theorem lw_p20 : lw_okq (⟨"PeaSpoonsModel", "isFriends", "(I)Z"⟩, 15) := ⟨⟨by decide +kernel, by decide +kernel⟩, List.mem_of_getElem? (i := 751) (by decide +kernel), List.mem_of_getElem? (i := 901) (by decide +kernel), List.mem_of_getElem? (i := 902) (by decide +kernel)⟩
theorem lw_p21 : lw_okq (⟨"PeaSpoonsModel", "moves", "(IZ)I"⟩, 15) := ⟨⟨by decide +kernel, by decide +kernel⟩, List.mem_of_getElem? (i := 751) (by decide +kernel), List.mem_of_getElem? (i := 908) (by decide +kernel), List.mem_of_getElem? (i := 909) (by decide +kernel)⟩
theorem lw_p22 : lw_okq (⟨"PeaSpoonsModel", "swaps", "(II)V"⟩, 15) := ⟨⟨by decide +kernel, by decide +kernel⟩, List.mem_of_getElem? (i := 751) (by decide +kernel), List.mem_of_getElem? (i := 920) (by decide +kernel), List.mem_of_getElem? (i := 921) (by decide +kernel)⟩
theorem lw_p23 : lw_okq (⟨"PeaSpoonsModel", "mealsOf", "(I)I"⟩, 15) := ⟨⟨by decide +kernel, by decide +kernel⟩, List.mem_of_getElem? (i := 751) (by decide +kernel), List.mem_of_getElem? (i := 935) (by decide +kernel), List.mem_of_getElem? (i := 936) (by decide +kernel)⟩
theorem lw_p24 : lw_okq (⟨"PeaSpoonsModel", "served", "()I"⟩, 15) := ⟨⟨by decide +kernel, by decide +kernel⟩, List.mem_of_getElem? (i := 751) (by decide +kernel), List.mem_of_getElem? (i := 939) (by decide +kernel), List.mem_of_getElem? (i := 940) (by decide +kernel)⟩
theorem lw_p25 : lw_okq (⟨"PeaSpoonsModel", "meal", "(I)I"⟩, 15) := ⟨⟨by decide +kernel, by decide +kernel⟩, List.mem_of_getElem? (i := 751) (by decide +kernel), List.mem_of_getElem? (i := 943) (by decide +kernel), List.mem_of_getElem? (i := 944) (by decide +kernel)⟩
theorem lw_p26 : lw_okq (⟨"PeaSpoonsModel", "serves", "(I)I"⟩, 15) := ⟨⟨by decide +kernel, by decide +kernel⟩, List.mem_of_getElem? (i := 751) (by decide +kernel), List.mem_of_getElem? (i := 947) (by decide +kernel), List.mem_of_getElem? (i := 948) (by decide +kernel)⟩
theorem lw_p27 : lw_okq (⟨"PeaSpoonsModel", "draw", "()I"⟩, 15) := ⟨⟨by decide +kernel, by decide +kernel⟩, List.mem_of_getElem? (i := 751) (by decide +kernel), List.mem_of_getElem? (i := 951) (by decide +kernel), List.mem_of_getElem? (i := 952) (by decide +kernel)⟩
theorem lw_p28 : lw_okq (⟨"PeaSpoonsModel", "likesMore", "(II)V"⟩, 15) := ⟨⟨by decide +kernel, by decide +kernel⟩, List.mem_of_getElem? (i := 751) (by decide +kernel), List.mem_of_getElem? (i := 956) (by decide +kernel), List.mem_of_getElem? (i := 957) (by decide +kernel)⟩
theorem lw_p29 : lw_okq (⟨"PeaSpoonsModel", "week", "()I"⟩, 15) := ⟨⟨by decide +kernel, by decide +kernel⟩, List.mem_of_getElem? (i := 751) (by decide +kernel), List.mem_of_getElem? (i := 965) (by decide +kernel), List.mem_of_getElem? (i := 966) (by decide +kernel)⟩
theorem lw_p30 : lw_okq (⟨"PeaSpoonsModel", "isShort", "()Z"⟩, 15) := ⟨⟨by decide +kernel, by decide +kernel⟩, List.mem_of_getElem? (i := 751) (by decide +kernel), List.mem_of_getElem? (i := 969) (by decide +kernel), List.mem_of_getElem? (i := 970) (by decide +kernel)⟩
theorem lw_p31 : lw_okq (⟨"PeaSpoonsModel", "wrongMeals", "(IIIZ)I"⟩, 15) := ⟨⟨by decide +kernel, by decide +kernel⟩, List.mem_of_getElem? (i := 751) (by decide +kernel), List.mem_of_getElem? (i := 991) (by decide +kernel), List.mem_of_getElem? (i := 992) (by decide +kernel)⟩
def lw_privs_2 : List (MethodName × Nat) := [(⟨"PeaSpoonsModel", "comes", "(III)V"⟩, 15), (⟨"PeaSpoonsModel", "isTaste", "(I)Z"⟩, 15), (⟨"PeaSpoonsModel", "of", "(II)I"⟩, 15), (⟨"PeaSpoonsModel", "eats", "(IZ)I"⟩, 15), (⟨"PeaSpoonsModel", "isFriends", "(I)Z"⟩, 15), (⟨"PeaSpoonsModel", "moves", "(IZ)I"⟩, 15), (⟨"PeaSpoonsModel", "swaps", "(II)V"⟩, 15), (⟨"PeaSpoonsModel", "mealsOf", "(I)I"⟩, 15), (⟨"PeaSpoonsModel", "served", "()I"⟩, 15), (⟨"PeaSpoonsModel", "meal", "(I)I"⟩, 15), (⟨"PeaSpoonsModel", "serves", "(I)I"⟩, 15), (⟨"PeaSpoonsModel", "draw", "()I"⟩, 15), (⟨"PeaSpoonsModel", "likesMore", "(II)V"⟩, 15), (⟨"PeaSpoonsModel", "week", "()I"⟩, 15), (⟨"PeaSpoonsModel", "isShort", "()Z"⟩, 15), (⟨"PeaSpoonsModel", "wrongMeals", "(IIIZ)I"⟩, 15)]
theorem lw_r2 : ∀ q ∈ lw_privs_2, lw_okq q := List.forall_mem_cons.mpr ⟨lw_p16, List.forall_mem_cons.mpr ⟨lw_p17, List.forall_mem_cons.mpr ⟨lw_p18, List.forall_mem_cons.mpr ⟨lw_p19, List.forall_mem_cons.mpr ⟨lw_p20, List.forall_mem_cons.mpr ⟨lw_p21, List.forall_mem_cons.mpr ⟨lw_p22, List.forall_mem_cons.mpr ⟨lw_p23, List.forall_mem_cons.mpr ⟨lw_p24, List.forall_mem_cons.mpr ⟨lw_p25, List.forall_mem_cons.mpr ⟨lw_p26, List.forall_mem_cons.mpr ⟨lw_p27, List.forall_mem_cons.mpr ⟨lw_p28, List.forall_mem_cons.mpr ⟨lw_p29, List.forall_mem_cons.mpr ⟨lw_p30, List.forall_mem_cons.mpr ⟨lw_p31, fun _ h => absurd h List.not_mem_nil⟩⟩⟩⟩⟩⟩⟩⟩⟩⟩⟩⟩⟩⟩⟩⟩
theorem lw_p32 : lw_okq (⟨"PeaSpoonsModel", "bestIn", "(IIIIZ)I"⟩, 15) := ⟨⟨by decide +kernel, by decide +kernel⟩, List.mem_of_getElem? (i := 751) (by decide +kernel), List.mem_of_getElem? (i := 1011) (by decide +kernel), List.mem_of_getElem? (i := 1012) (by decide +kernel)⟩
theorem lw_p33 : lw_okq (⟨"PeaSpoonsModel", "behind", "(IZ)I"⟩, 15) := ⟨⟨by decide +kernel, by decide +kernel⟩, List.mem_of_getElem? (i := 751) (by decide +kernel), List.mem_of_getElem? (i := 1015) (by decide +kernel), List.mem_of_getElem? (i := 1016) (by decide +kernel)⟩
theorem lw_p34 : lw_okq (⟨"PeaSpoonsModel", "manyLiked", "()I"⟩, 15) := ⟨⟨by decide +kernel, by decide +kernel⟩, List.mem_of_getElem? (i := 751) (by decide +kernel), List.mem_of_getElem? (i := 1019) (by decide +kernel), List.mem_of_getElem? (i := 1020) (by decide +kernel)⟩
theorem lw_p35 : lw_okq (⟨"PeaSpoonsModel", "token", "()V"⟩, 15) := ⟨⟨by decide +kernel, by decide +kernel⟩, List.mem_of_getElem? (i := 751) (by decide +kernel), List.mem_of_getElem? (i := 1063) (by decide +kernel), List.mem_of_getElem? (i := 1064) (by decide +kernel)⟩
theorem lw_p36 : lw_okq (⟨"PeaSpoonsModel", "isByte", "(III)Z"⟩, 15) := ⟨⟨by decide +kernel, by decide +kernel⟩, List.mem_of_getElem? (i := 751) (by decide +kernel), List.mem_of_getElem? (i := 1067) (by decide +kernel), List.mem_of_getElem? (i := 1068) (by decide +kernel)⟩
theorem lw_p37 : lw_okq (⟨"PeaSpoonsModel", "item", "()V"⟩, 15) := ⟨⟨by decide +kernel, by decide +kernel⟩, List.mem_of_getElem? (i := 751) (by decide +kernel), List.mem_of_getElem? (i := 1071) (by decide +kernel), List.mem_of_getElem? (i := 1072) (by decide +kernel)⟩
theorem lw_p38 : lw_okq (⟨"PeaSpoonsModel", "takes", "(Ljava/lang/String;)Z"⟩, 15) := ⟨⟨by decide +kernel, by decide +kernel⟩, List.mem_of_getElem? (i := 751) (by decide +kernel), List.mem_of_getElem? (i := 1076) (by decide +kernel), List.mem_of_getElem? (i := 1077) (by decide +kernel)⟩
theorem lw_p39 : lw_okq (⟨"PeaSpoonsModel", "isWord", "(Ljava/lang/String;)Z"⟩, 15) := ⟨⟨by decide +kernel, by decide +kernel⟩, List.mem_of_getElem? (i := 751) (by decide +kernel), List.mem_of_getElem? (i := 1080) (by decide +kernel), List.mem_of_getElem? (i := 1081) (by decide +kernel)⟩
theorem lw_p40 : lw_okq (⟨"PeaSpoonsModel", "foodItem", "()V"⟩, 15) := ⟨⟨by decide +kernel, by decide +kernel⟩, List.mem_of_getElem? (i := 751) (by decide +kernel), List.mem_of_getElem? (i := 1086) (by decide +kernel), List.mem_of_getElem? (i := 1087) (by decide +kernel)⟩
theorem lw_p41 : lw_okq (⟨"PeaSpoonsModel", "number", "(II)I"⟩, 15) := ⟨⟨by decide +kernel, by decide +kernel⟩, List.mem_of_getElem? (i := 751) (by decide +kernel), List.mem_of_getElem? (i := 1090) (by decide +kernel), List.mem_of_getElem? (i := 1091) (by decide +kernel)⟩
theorem lw_p42 : lw_okq (⟨"PeaSpoonsModel", "tells", "(II)V"⟩, 15) := ⟨⟨by decide +kernel, by decide +kernel⟩, List.mem_of_getElem? (i := 751) (by decide +kernel), List.mem_of_getElem? (i := 1095) (by decide +kernel), List.mem_of_getElem? (i := 1096) (by decide +kernel)⟩
theorem lw_p43 : lw_okq (⟨"PeaSpoonsModel", "friendItem", "()V"⟩, 15) := ⟨⟨by decide +kernel, by decide +kernel⟩, List.mem_of_getElem? (i := 751) (by decide +kernel), List.mem_of_getElem? (i := 1106) (by decide +kernel), List.mem_of_getElem? (i := 1107) (by decide +kernel)⟩
theorem lw_p44 : lw_okq (⟨"PeaSpoonsModel", "kindHere", "()I"⟩, 15) := ⟨⟨by decide +kernel, by decide +kernel⟩, List.mem_of_getElem? (i := 751) (by decide +kernel), List.mem_of_getElem? (i := 1110) (by decide +kernel), List.mem_of_getElem? (i := 1111) (by decide +kernel)⟩
theorem lw_p45 : lw_okq (⟨"PeaSpoonsModel", "tasteItem", "(I)V"⟩, 15) := ⟨⟨by decide +kernel, by decide +kernel⟩, List.mem_of_getElem? (i := 751) (by decide +kernel), List.mem_of_getElem? (i := 1121) (by decide +kernel), List.mem_of_getElem? (i := 1122) (by decide +kernel)⟩
theorem lw_p46 : lw_okq (⟨"PeaSpoonsModel", "isSign", "(I)Z"⟩, 15) := ⟨⟨by decide +kernel, by decide +kernel⟩, List.mem_of_getElem? (i := 751) (by decide +kernel), List.mem_of_getElem? (i := 1126) (by decide +kernel), List.mem_of_getElem? (i := 1127) (by decide +kernel)⟩
def lw_privs_3 : List (MethodName × Nat) := [(⟨"PeaSpoonsModel", "bestIn", "(IIIIZ)I"⟩, 15), (⟨"PeaSpoonsModel", "behind", "(IZ)I"⟩, 15), (⟨"PeaSpoonsModel", "manyLiked", "()I"⟩, 15), (⟨"PeaSpoonsModel", "token", "()V"⟩, 15), (⟨"PeaSpoonsModel", "isByte", "(III)Z"⟩, 15), (⟨"PeaSpoonsModel", "item", "()V"⟩, 15), (⟨"PeaSpoonsModel", "takes", "(Ljava/lang/String;)Z"⟩, 15), (⟨"PeaSpoonsModel", "isWord", "(Ljava/lang/String;)Z"⟩, 15), (⟨"PeaSpoonsModel", "foodItem", "()V"⟩, 15), (⟨"PeaSpoonsModel", "number", "(II)I"⟩, 15), (⟨"PeaSpoonsModel", "tells", "(II)V"⟩, 15), (⟨"PeaSpoonsModel", "friendItem", "()V"⟩, 15), (⟨"PeaSpoonsModel", "kindHere", "()I"⟩, 15), (⟨"PeaSpoonsModel", "tasteItem", "(I)V"⟩, 15), (⟨"PeaSpoonsModel", "isSign", "(I)Z"⟩, 15)]
theorem lw_r3 : ∀ q ∈ lw_privs_3, lw_okq q := List.forall_mem_cons.mpr ⟨lw_p32, List.forall_mem_cons.mpr ⟨lw_p33, List.forall_mem_cons.mpr ⟨lw_p34, List.forall_mem_cons.mpr ⟨lw_p35, List.forall_mem_cons.mpr ⟨lw_p36, List.forall_mem_cons.mpr ⟨lw_p37, List.forall_mem_cons.mpr ⟨lw_p38, List.forall_mem_cons.mpr ⟨lw_p39, List.forall_mem_cons.mpr ⟨lw_p40, List.forall_mem_cons.mpr ⟨lw_p41, List.forall_mem_cons.mpr ⟨lw_p42, List.forall_mem_cons.mpr ⟨lw_p43, List.forall_mem_cons.mpr ⟨lw_p44, List.forall_mem_cons.mpr ⟨lw_p45, List.forall_mem_cons.mpr ⟨lw_p46, fun _ h => absurd h List.not_mem_nil⟩⟩⟩⟩⟩⟩⟩⟩⟩⟩⟩⟩⟩⟩⟩
def lw_privs : List (MethodName × Nat) := lw_privs_1 ++ (lw_privs_2 ++ (lw_privs_3))
def lw_tbl : List Cond := k2_sels lw_privs ++ tables_1
theorem lw_privs_ok : ∀ q ∈ lw_privs, lw_okq q := by
  show ∀ q ∈ lw_privs_1 ++ (lw_privs_2 ++ (lw_privs_3)), lw_okq q
  exact List.forall_mem_append.mpr ⟨lw_r1, List.forall_mem_append.mpr ⟨lw_r2, lw_r3⟩⟩
def RX0 : String := "PeaSpoons$Child"
def TX0 : u_T := fun k => match k with
  | 0 => ("PeaSpoons$Child", "like", "[I", true)
  | 1 => ("PeaSpoons$Child", "bitter", "[I", true)
  | 2 => ("PeaSpoons$Child", "tried", "[I", true)
  | 3 => ("PeaSpoons$Child", "bent", "I", false)
  | 4 => ("PeaSpoons$Child", "hunger", "I", false)
  | 5 => ("PeaSpoons$Child", "weight", "I", false)
  | 6 => ("PeaSpoons$Child", "line", "I", false)
  | 7 => ("PeaSpoons$Child", "pudding", "I", false)
  | 8 => ("PeaSpoons$Child", "friend", "I", false)
  | 9 => ("PeaSpoons$Child", "plan", "LPeaSpoons$Plan;", true)
  | 10 => ("PeaSpoons$Child", "meal", "I", false)
  | 11 => ("PeaSpoons$Child", "book", "[I", true)
  | 12 => ("PeaSpoons$Child", "z", "I", false)
  | _ => ("PeaSpoons$Child", "spots", "[I", true)
def tyX0 : Nat → FieldType := fun k => match k with
  | 0 => .array .int
  | 1 => .array .int
  | 2 => .array .int
  | 3 => .int
  | 4 => .int
  | 5 => .int
  | 6 => .int
  | 7 => .int
  | 8 => .int
  | 9 => .object "PeaSpoons$Plan"
  | 10 => .int
  | 11 => .array .int
  | 12 => .int
  | _ => .array .int
theorem nmX0 : ∀ a, a < 14 → ∀ b, b < 14 → a ≠ b → (TX0 a).2.1 ≠ (TX0 b).2.1 := by decide +kernel
theorem tyX0_ok : ∀ k, k < 14 → parseFieldDescriptor (TX0 k).2.2.1 = some (tyX0 k) := by decide +kernel
abbrev cX0_init : ByteArray := prog_2_method_1_code
def yX0_init : MethodName := ⟨RX0, "<init>", "()V"⟩
abbrev cX0_become : ByteArray := prog_2_method_2_code
def yX0_become : MethodName := ⟨RX0, "become", "(LPeaSpoons$Child;)V"⟩
abbrev cX0_part : ByteArray := prog_2_method_3_code
def yX0_part : MethodName := ⟨RX0, "part", "(I)I"⟩
abbrev cX0_setPart : ByteArray := prog_2_method_4_code
def yX0_setPart : MethodName := ⟨RX0, "setPart", "(II)V"⟩
abbrev cX0_isLiked : ByteArray := prog_2_method_5_code
def yX0_isLiked : MethodName := ⟨RX0, "isLiked", "(I)Z"⟩
abbrev cX0_likedSet : ByteArray := prog_2_method_6_code
def yX0_likedSet : MethodName := ⟨RX0, "likedSet", "()I"⟩
abbrev cX0_triedInAll : ByteArray := prog_2_method_7_code
def yX0_triedInAll : MethodName := ⟨RX0, "triedInAll", "()I"⟩
abbrev cX0_friendHas : ByteArray := prog_2_method_8_code
def yX0_friendHas : MethodName := ⟨RX0, "friendHas", "(I)Z"⟩
abbrev cX0_eats : ByteArray := prog_2_method_9_code
def yX0_eats : MethodName := ⟨RX0, "eats", "(IZ)I"⟩
abbrev cX0_moves : ByteArray := prog_2_method_10_code
def yX0_moves : MethodName := ⟨RX0, "moves", "(IZ)I"⟩
abbrev cX0_drawn : ByteArray := prog_2_method_11_code
def yX0_drawn : MethodName := ⟨RX0, "drawn", "()I"⟩
abbrev cX0_moveLike : ByteArray := prog_2_method_12_code
def yX0_moveLike : MethodName := ⟨RX0, "moveLike", "(II)V"⟩
abbrev cX0_serveTaste : ByteArray := prog_2_method_13_code
def yX0_serveTaste : MethodName := ⟨RX0, "serveTaste", "(I)I"⟩
abbrev cX0_serveMeal : ByteArray := prog_2_method_14_code
def yX0_serveMeal : MethodName := ⟨RX0, "serveMeal", "()I"⟩
abbrev cX0_goOn : ByteArray := prog_2_method_15_code
def yX0_goOn : MethodName := ⟨RX0, "goOn", "(I)I"⟩
abbrev cX0_booked : ByteArray := prog_2_method_16_code
def yX0_booked : MethodName := ⟨RX0, "booked", "()I"⟩
abbrev cX0_spoonsAgo : ByteArray := prog_2_method_17_code
def yX0_spoonsAgo : MethodName := ⟨RX0, "spoonsAgo", "(I)I"⟩
abbrev cX0_week : ByteArray := prog_2_method_18_code
def yX0_week : MethodName := ⟨RX0, "week", "()I"⟩
abbrev cX0_isShort : ByteArray := prog_2_method_19_code
def yX0_isShort : MethodName := ⟨RX0, "isShort", "()Z"⟩
abbrev cX0_freeSpotsOf : ByteArray := prog_2_method_20_code
def yX0_freeSpotsOf : MethodName := ⟨RX0, "freeSpotsOf", "(I)V"⟩
abbrev cX0_spotsInUse : ByteArray := prog_2_method_21_code
def yX0_spotsInUse : MethodName := ⟨RX0, "spotsInUse", "()I"⟩
def RX1 : String := "PeaSpoons$Plan"
def TX1 : u_T := fun k => match k with
  | 0 => ("PeaSpoons$Plan", "kinds", "[I", true)
  | 1 => ("PeaSpoons$Plan", "foods", "[I", true)
  | 2 => ("PeaSpoons$Plan", "puts", "[I", true)
  | _ => ("PeaSpoons$Plan", "size", "I", false)
def tyX1 : Nat → FieldType := fun k => match k with
  | 0 => .array .int
  | 1 => .array .int
  | 2 => .array .int
  | _ => .int
theorem nmX1 : ∀ a, a < 4 → ∀ b, b < 4 → a ≠ b → (TX1 a).2.1 ≠ (TX1 b).2.1 := by decide +kernel
theorem tyX1_ok : ∀ k, k < 4 → parseFieldDescriptor (TX1 k).2.2.1 = some (tyX1 k) := by decide +kernel
abbrev cX1_init : ByteArray := prog_3_method_1_code
def yX1_init : MethodName := ⟨RX1, "<init>", "()V"⟩
abbrev cX1_becomePlan : ByteArray := prog_3_method_2_code
def yX1_becomePlan : MethodName := ⟨RX1, "becomePlan", "(LPeaSpoons$Plan;)V"⟩
abbrev cX1_row : ByteArray := prog_3_method_3_code
def yX1_row : MethodName := ⟨RX1, "row", "(I)[I"⟩
abbrev cX1_isFull : ByteArray := prog_3_method_4_code
def yX1_isFull : MethodName := ⟨RX1, "isFull", "()Z"⟩
abbrev cX1_add : ByteArray := prog_3_method_5_code
def yX1_add : MethodName := ⟨RX1, "add", "(III)I"⟩
abbrev cX1_exchange : ByteArray := prog_3_method_6_code
def yX1_exchange : MethodName := ⟨RX1, "exchange", "(II)V"⟩
abbrev cX1_exchangeIn : ByteArray := prog_3_method_7_code
def yX1_exchangeIn : MethodName := ⟨RX1, "exchangeIn", "([III)V"⟩
abbrev cX1_keepOnly : ByteArray := prog_3_method_8_code
def yX1_keepOnly : MethodName := ⟨RX1, "keepOnly", "(I)V"⟩
abbrev cX1_pressThePaid : ByteArray := prog_3_method_9_code
def yX1_pressThePaid : MethodName := ⟨RX1, "pressThePaid", "()V"⟩
def RX2 : String := "PeaSpoons$Sheet"
def TX2 : u_T := fun k => match k with
  | 0 => ("PeaSpoons$Sheet", "numbers", "[I", true)
  | 1 => ("PeaSpoons$Sheet", "bits", "I", false)
  | _ => ("PeaSpoons$Sheet", "size", "I", false)
def tyX2 : Nat → FieldType := fun k => match k with
  | 0 => .array .int
  | 1 => .int
  | _ => .int
theorem nmX2 : ∀ a, a < 3 → ∀ b, b < 3 → a ≠ b → (TX2 a).2.1 ≠ (TX2 b).2.1 := by decide +kernel
theorem tyX2_ok : ∀ k, k < 3 → parseFieldDescriptor (TX2 k).2.2.1 = some (tyX2 k) := by decide +kernel
abbrev cX2_init : ByteArray := prog_4_method_1_code
def yX2_init : MethodName := ⟨RX2, "<init>", "()V"⟩
abbrev cX2_isMissing : ByteArray := prog_4_method_2_code
def yX2_isMissing : MethodName := ⟨RX2, "isMissing", "()Z"⟩
abbrev cX2_lay : ByteArray := prog_4_method_3_code
def yX2_lay : MethodName := ⟨RX2, "lay", "(II)V"⟩
abbrev cX2_has : ByteArray := prog_4_method_4_code
def yX2_has : MethodName := ⟨RX2, "has", "(II)Z"⟩
abbrev cX2_put : ByteArray := prog_4_method_5_code
def yX2_put : MethodName := ⟨RX2, "put", "(II)V"⟩
def RX3 : String := "PeaSpoons$Tape"
def TX3 : u_T := fun k => match k with
  | 0 => ("PeaSpoons$Tape", "bytes", "[I", true)
  | 1 => ("PeaSpoons$Tape", "size", "I", false)
  | 2 => ("PeaSpoons$Tape", "kinds", "[I", true)
  | 3 => ("PeaSpoons$Tape", "starts", "[I", true)
  | 4 => ("PeaSpoons$Tape", "lengths", "[I", true)
  | 5 => ("PeaSpoons$Tape", "values", "[I", true)
  | 6 => ("PeaSpoons$Tape", "tokens", "I", false)
  | _ => ("PeaSpoons$Tape", "at", "I", false)
def tyX3 : Nat → FieldType := fun k => match k with
  | 0 => .array .int
  | 1 => .int
  | 2 => .array .int
  | 3 => .array .int
  | 4 => .array .int
  | 5 => .array .int
  | 6 => .int
  | _ => .int
theorem nmX3 : ∀ a, a < 8 → ∀ b, b < 8 → a ≠ b → (TX3 a).2.1 ≠ (TX3 b).2.1 := by decide +kernel
theorem tyX3_ok : ∀ k, k < 8 → parseFieldDescriptor (TX3 k).2.2.1 = some (tyX3 k) := by decide +kernel
abbrev cX3_init : ByteArray := prog_5_method_1_code
def yX3_init : MethodName := ⟨RX3, "<init>", "()V"⟩
abbrev cX3_add : ByteArray := prog_5_method_2_code
def yX3_add : MethodName := ⟨RX3, "add", "(I)V"⟩
abbrev cX3_cut : ByteArray := prog_5_method_3_code
def yX3_cut : MethodName := ⟨RX3, "cut", "()V"⟩
abbrev cX3_kindOf : ByteArray := prog_5_method_4_code
def yX3_kindOf : MethodName := ⟨RX3, "kindOf", "(I)I"⟩
abbrev cX3_begin : ByteArray := prog_5_method_5_code
def yX3_begin : MethodName := ⟨RX3, "begin", "(II)V"⟩
abbrev cX3_lengthen : ByteArray := prog_5_method_6_code
def yX3_lengthen : MethodName := ⟨RX3, "lengthen", "(I)V"⟩
abbrev cX3_place : ByteArray := prog_5_method_7_code
def yX3_place : MethodName := ⟨RX3, "place", "()I"⟩
abbrev cX3_isAtEnd : ByteArray := prog_5_method_8_code
def yX3_isAtEnd : MethodName := ⟨RX3, "isAtEnd", "()Z"⟩
abbrev cX3_isAtNumber : ByteArray := prog_5_method_9_code
def yX3_isAtNumber : MethodName := ⟨RX3, "isAtNumber", "()Z"⟩
abbrev cX3_isAtWord : ByteArray := prog_5_method_10_code
def yX3_isAtWord : MethodName := ⟨RX3, "isAtWord", "(Ljava/lang/String;)Z"⟩
abbrev cX3_step : ByteArray := prog_5_method_11_code
def yX3_step : MethodName := ⟨RX3, "step", "()V"⟩
abbrev cX3_takesSign : ByteArray := prog_5_method_12_code
def yX3_takesSign : MethodName := ⟨RX3, "takesSign", "()Z"⟩
abbrev cX3_takenNumber : ByteArray := prog_5_method_13_code
def yX3_takenNumber : MethodName := ⟨RX3, "takenNumber", "(II)I"⟩
abbrev cX3_takenNumberBehindWord : ByteArray := prog_5_method_14_code
def yX3_takenNumberBehindWord : MethodName := ⟨RX3, "takenNumberBehindWord", "(II)I"⟩
def RX4 : String := "PeaSpoons$Text"
def TX4 : u_T := fun k => match k with
  | _ => ("", "", "", false)
def tyX4 : Nat → FieldType := fun k => match k with
  | _ => .int
theorem nmX4 : ∀ a, a < 0 → ∀ b, b < 0 → a ≠ b → (TX4 a).2.1 ≠ (TX4 b).2.1 := by decide +kernel
theorem tyX4_ok : ∀ k, k < 0 → parseFieldDescriptor (TX4 k).2.2.1 = some (tyX4 k) := by decide +kernel
abbrev cX4_read : ByteArray := prog_6_method_2_code
def yX4_read : MethodName := ⟨RX4, "read", "(LPeaSpoons$Tape;LPeaSpoons$Child;)I"⟩
abbrev cX4_readItem : ByteArray := prog_6_method_3_code
def yX4_readItem : MethodName := ⟨RX4, "readItem", "(LPeaSpoons$Tape;LPeaSpoons$Child;)Z"⟩
abbrev cX4_partTold : ByteArray := prog_6_method_4_code
def yX4_partTold : MethodName := ⟨RX4, "partTold", "(LPeaSpoons$Tape;)I"⟩
abbrev cX4_kindTold : ByteArray := prog_6_method_5_code
def yX4_kindTold : MethodName := ⟨RX4, "kindTold", "(LPeaSpoons$Tape;)I"⟩
abbrev cX4_kindWord : ByteArray := prog_6_method_6_code
def yX4_kindWord : MethodName := ⟨RX4, "kindWord", "(I)Ljava/lang/String;"⟩
abbrev cX4_readPart : ByteArray := prog_6_method_7_code
def yX4_readPart : MethodName := ⟨RX4, "readPart", "(LPeaSpoons$Tape;LPeaSpoons$Child;I)Z"⟩
abbrev cX4_readTaste : ByteArray := prog_6_method_8_code
def yX4_readTaste : MethodName := ⟨RX4, "readTaste", "(LPeaSpoons$Tape;LPeaSpoons$Child;I)Z"⟩
abbrev cX4_readFood : ByteArray := prog_6_method_9_code
def yX4_readFood : MethodName := ⟨RX4, "readFood", "(LPeaSpoons$Tape;LPeaSpoons$Child;)Z"⟩
abbrev cX4_readPudding : ByteArray := prog_6_method_10_code
def yX4_readPudding : MethodName := ⟨RX4, "readPudding", "(LPeaSpoons$Tape;LPeaSpoons$Child;)Z"⟩
abbrev cX4_readFriend : ByteArray := prog_6_method_11_code
def yX4_readFriend : MethodName := ⟨RX4, "readFriend", "(LPeaSpoons$Tape;LPeaSpoons$Child;)Z"⟩
def RX5 : String := "PeaSpoons"
def TX5 : u_T := fun k => match k with
  | 0 => ("PeaSpoons", "child", "LPeaSpoons$Child;", true)
  | 1 => ("PeaSpoons", "trial", "LPeaSpoons$Child;", true)
  | 2 => ("PeaSpoons", "kept", "LPeaSpoons$Child;", true)
  | 3 => ("PeaSpoons", "isKept", "Z", false)
  | 4 => ("PeaSpoons", "tape", "LPeaSpoons$Tape;", true)
  | 5 => ("PeaSpoons", "sheets", "[LPeaSpoons$Sheet;", true)
  | _ => ("PeaSpoons", "findings", "[I", true)
def tyX5 : Nat → FieldType := fun k => match k with
  | 0 => .object "PeaSpoons$Child"
  | 1 => .object "PeaSpoons$Child"
  | 2 => .object "PeaSpoons$Child"
  | 3 => .boolean
  | 4 => .object "PeaSpoons$Tape"
  | 5 => .array (.object "PeaSpoons$Sheet")
  | _ => .array .int
theorem nmX5 : ∀ a, a < 7 → ∀ b, b < 7 → a ≠ b → (TX5 a).2.1 ≠ (TX5 b).2.1 := by decide +kernel
theorem tyX5_ok : ∀ k, k < 7 → parseFieldDescriptor (TX5 k).2.2.1 = some (tyX5 k) := by decide +kernel
abbrev cX5_init : ByteArray := prog_1_method_1_code
def yX5_init : MethodName := ⟨RX5, "<init>", "()V"⟩
abbrev cX5_finding : ByteArray := prog_1_method_2_code
def yX5_finding : MethodName := ⟨RX5, "finding", "(I)I"⟩
abbrev cX5_within : ByteArray := prog_1_method_3_code
def yX5_within : MethodName := ⟨RX5, "within", "(III)Z"⟩
abbrev cX5_isFood : ByteArray := prog_1_method_4_code
def yX5_isFood : MethodName := ⟨RX5, "isFood", "(I)Z"⟩
abbrev cX5_isKind : ByteArray := prog_1_method_5_code
def yX5_isKind : MethodName := ⟨RX5, "isKind", "(I)Z"⟩
abbrev cX5_isPut : ByteArray := prog_1_method_6_code
def yX5_isPut : MethodName := ⟨RX5, "isPut", "(I)Z"⟩
abbrev cX5_partLow : ByteArray := prog_1_method_7_code
def yX5_partLow : MethodName := ⟨RX5, "partLow", "(I)I"⟩
abbrev cX5_partTop : ByteArray := prog_1_method_8_code
def yX5_partTop : MethodName := ⟨RX5, "partTop", "(I)I"⟩
abbrev cX5_traitLow : ByteArray := prog_1_method_9_code
def yX5_traitLow : MethodName := ⟨RX5, "traitLow", "(I)I"⟩
abbrev cX5_traitTop : ByteArray := prog_1_method_10_code
def yX5_traitTop : MethodName := ⟨RX5, "traitTop", "(I)I"⟩
abbrev cX5_isTaste : ByteArray := prog_1_method_11_code
def yX5_isTaste : MethodName := ⟨RX5, "isTaste", "(I)Z"⟩
abbrev cX5_isPastLast : ByteArray := prog_1_method_12_code
def yX5_isPastLast : MethodName := ⟨RX5, "isPastLast", "(I)Z"⟩
abbrev cX5_food : ByteArray := prog_1_method_13_code
def yX5_food : MethodName := ⟨RX5, "food", "(III)I"⟩
abbrev cX5_replaced : ByteArray := prog_1_method_14_code
def yX5_replaced : MethodName := ⟨RX5, "replaced", "([III)I"⟩
abbrev cX5_foodOf : ByteArray := prog_1_method_15_code
def yX5_foodOf : MethodName := ⟨RX5, "foodOf", "(II)I"⟩
abbrev cX5_child : ByteArray := prog_1_method_16_code
def yX5_child : MethodName := ⟨RX5, "child", "(II)I"⟩
abbrev cX5_pudding : ByteArray := prog_1_method_17_code
def yX5_pudding : MethodName := ⟨RX5, "pudding", "(I)I"⟩
abbrev cX5_friend : ByteArray := prog_1_method_18_code
def yX5_friend : MethodName := ⟨RX5, "friend", "(I)I"⟩
abbrev cX5_liked : ByteArray := prog_1_method_19_code
def yX5_liked : MethodName := ⟨RX5, "liked", "()I"⟩
abbrev cX5_next : ByteArray := prog_1_method_20_code
def yX5_next : MethodName := ⟨RX5, "next", "()I"⟩
abbrev cX5_taste : ByteArray := prog_1_method_21_code
def yX5_taste : MethodName := ⟨RX5, "taste", "(III)I"⟩
abbrev cX5_tasteOf : ByteArray := prog_1_method_22_code
def yX5_tasteOf : MethodName := ⟨RX5, "tasteOf", "(II)I"⟩
abbrev cX5_change : ByteArray := prog_1_method_23_code
def yX5_change : MethodName := ⟨RX5, "change", "(III)I"⟩
abbrev cX5_swap : ByteArray := prog_1_method_24_code
def yX5_swap : MethodName := ⟨RX5, "swap", "(II)I"⟩
abbrev cX5_drop : ByteArray := prog_1_method_25_code
def yX5_drop : MethodName := ⟨RX5, "drop", "()I"⟩
abbrev cX5_meals : ByteArray := prog_1_method_26_code
def yX5_meals : MethodName := ⟨RX5, "meals", "(I)I"⟩
abbrev cX5_now : ByteArray := prog_1_method_27_code
def yX5_now : MethodName := ⟨RX5, "now", "(I)I"⟩
abbrev cX5_book : ByteArray := prog_1_method_28_code
def yX5_book : MethodName := ⟨RX5, "book", "(I)I"⟩
abbrev cX5_day : ByteArray := prog_1_method_29_code
def yX5_day : MethodName := ⟨RX5, "day", "(I)I"⟩
abbrev cX5_spread : ByteArray := prog_1_method_30_code
def yX5_spread : MethodName := ⟨RX5, "spread", "()I"⟩
abbrev cX5_ahead : ByteArray := prog_1_method_31_code
def yX5_ahead : MethodName := ⟨RX5, "ahead", "(II)I"⟩
abbrev cX5_when : ByteArray := prog_1_method_32_code
def yX5_when : MethodName := ⟨RX5, "when", "(I)I"⟩
abbrev cX5_times : ByteArray := prog_1_method_33_code
def yX5_times : MethodName := ⟨RX5, "times", "(I)I"⟩
abbrev cX5_mealsTillLiked : ByteArray := prog_1_method_34_code
def yX5_mealsTillLiked : MethodName := ⟨RX5, "mealsTillLiked", "(II)I"⟩
abbrev cX5_kindFor : ByteArray := prog_1_method_35_code
def yX5_kindFor : MethodName := ⟨RX5, "kindFor", "(II)I"⟩
abbrev cX5_foodFor : ByteArray := prog_1_method_36_code
def yX5_foodFor : MethodName := ⟨RX5, "foodFor", "(II)I"⟩
abbrev cX5_putFor : ByteArray := prog_1_method_37_code
def yX5_putFor : MethodName := ⟨RX5, "putFor", "(II)I"⟩
abbrev cX5_bestFor : ByteArray := prog_1_method_38_code
def yX5_bestFor : MethodName := ⟨RX5, "bestFor", "(III)I"⟩
abbrev cX5_paid : ByteArray := prog_1_method_39_code
def yX5_paid : MethodName := ⟨RX5, "paid", "(I)I"⟩
abbrev cX5_worry : ByteArray := prog_1_method_40_code
def yX5_worry : MethodName := ⟨RX5, "worry", "()I"⟩
abbrev cX5_likedBehind : ByteArray := prog_1_method_41_code
def yX5_likedBehind : MethodName := ⟨RX5, "likedBehind", "(I)I"⟩
abbrev cX5_order : ByteArray := prog_1_method_42_code
def yX5_order : MethodName := ⟨RX5, "order", "(I)I"⟩
abbrev cX5_chance : ByteArray := prog_1_method_43_code
def yX5_chance : MethodName := ⟨RX5, "chance", "(III)I"⟩
abbrev cX5_seed : ByteArray := prog_1_method_44_code
def yX5_seed : MethodName := ⟨RX5, "seed", "(I)I"⟩
abbrev cX5_feed : ByteArray := prog_1_method_45_code
def yX5_feed : MethodName := ⟨RX5, "feed", "(II)I"⟩
abbrev cX5_wipe : ByteArray := prog_1_method_46_code
def yX5_wipe : MethodName := ⟨RX5, "wipe", "()I"⟩
abbrev cX5_text : ByteArray := prog_1_method_47_code
def yX5_text : MethodName := ⟨RX5, "text", "()I"⟩
abbrev cX5_hold : ByteArray := prog_1_method_48_code
def yX5_hold : MethodName := ⟨RX5, "hold", "(II)I"⟩
abbrev cX5_as : ByteArray := prog_1_method_49_code
def yX5_as : MethodName := ⟨RX5, "as", "(II)I"⟩
abbrev cX5_isUnder : ByteArray := prog_1_method_50_code
def yX5_isUnder : MethodName := ⟨RX5, "isUnder", "(II)Z"⟩
abbrev cX5_isSheet : ByteArray := prog_1_method_51_code
def yX5_isSheet : MethodName := ⟨RX5, "isSheet", "(I)Z"⟩
abbrev cX5_sheet : ByteArray := prog_1_method_52_code
def yX5_sheet : MethodName := ⟨RX5, "sheet", "(III)I"⟩
abbrev cX5_write : ByteArray := prog_1_method_53_code
def yX5_write : MethodName := ⟨RX5, "write", "(III)I"⟩
abbrev cX5_copy : ByteArray := prog_1_method_54_code
def yX5_copy : MethodName := ⟨RX5, "copy", "(IIIII)I"⟩
abbrev cX5_load : ByteArray := prog_1_method_55_code
def yX5_load : MethodName := ⟨RX5, "load", "(I)I"⟩
abbrev cX5_judge : ByteArray := prog_1_method_56_code
def yX5_judge : MethodName := ⟨RX5, "judge", "(I)I"⟩
abbrev cX5_image : ByteArray := prog_1_method_57_code
def yX5_image : MethodName := ⟨RX5, "image", "()I"⟩
abbrev cX5_undo : ByteArray := prog_1_method_58_code
def yX5_undo : MethodName := ⟨RX5, "undo", "()I"⟩
abbrev cX5_tear : ByteArray := prog_1_method_59_code
def yX5_tear : MethodName := ⟨RX5, "tear", "()I"⟩
abbrev cX5_count : ByteArray := prog_1_method_60_code
def yX5_count : MethodName := ⟨RX5, "count", "(I)I"⟩
abbrev cX5_status : ByteArray := prog_1_method_61_code
def yX5_status : MethodName := ⟨RX5, "status", "(I)I"⟩
def RX6 : String := "PeaSpoonsModel"
def TX6 : u_T := fun k => match k with
  | 0 => ("PeaSpoonsModel", "m", "[I", true)
  | 1 => ("PeaSpoonsModel", "kept", "[I", true)
  | 2 => ("PeaSpoonsModel", "was", "[I", true)
  | 3 => ("PeaSpoonsModel", "isKept", "Z", false)
  | 4 => ("PeaSpoonsModel", "found", "[I", true)
  | 5 => ("PeaSpoonsModel", "tape", "[I", true)
  | 6 => ("PeaSpoonsModel", "taped", "I", false)
  | 7 => ("PeaSpoonsModel", "sort", "I", false)
  | 8 => ("PeaSpoonsModel", "from", "I", false)
  | 9 => ("PeaSpoonsModel", "to", "I", false)
  | 10 => ("PeaSpoonsModel", "value", "I", false)
  | 11 => ("PeaSpoonsModel", "bad", "Z", false)
  | 12 => ("PeaSpoonsModel", "bits", "[I", true)
  | 13 => ("PeaSpoonsModel", "size", "[I", true)
  | _ => ("PeaSpoonsModel", "number", "[I", true)
def tyX6 : Nat → FieldType := fun k => match k with
  | 0 => .array .int
  | 1 => .array .int
  | 2 => .array .int
  | 3 => .boolean
  | 4 => .array .int
  | 5 => .array .int
  | 6 => .int
  | 7 => .int
  | 8 => .int
  | 9 => .int
  | 10 => .int
  | 11 => .boolean
  | 12 => .array .int
  | 13 => .array .int
  | _ => .array .int
theorem nmX6 : ∀ a, a < 15 → ∀ b, b < 15 → a ≠ b → (TX6 a).2.1 ≠ (TX6 b).2.1 := by decide +kernel
theorem tyX6_ok : ∀ k, k < 15 → parseFieldDescriptor (TX6 k).2.2.1 = some (tyX6 k) := by decide +kernel
abbrev cX6_init : ByteArray := prog_8_method_1_code
def yX6_init : MethodName := ⟨RX6, "<init>", "()V"⟩
abbrev cX6_finds : ByteArray := prog_8_method_2_code
def yX6_finds : MethodName := ⟨RX6, "finds", "(I)I"⟩
abbrev cX6_orNone : ByteArray := prog_8_method_3_code
def yX6_orNone : MethodName := ⟨RX6, "orNone", "(I)I"⟩
abbrev cX6_in : ByteArray := prog_8_method_4_code
def yX6_in : MethodName := ⟨RX6, "in", "(JJJ)Z"⟩
abbrev cX6_held : ByteArray := prog_8_method_5_code
def yX6_held : MethodName := ⟨RX6, "held", "(II)I"⟩
abbrev cX6_row : ByteArray := prog_8_method_6_code
def yX6_row : MethodName := ⟨RX6, "row", "([I[I)V"⟩
abbrev cX6_becomes : ByteArray := prog_8_method_7_code
def yX6_becomes : MethodName := ⟨RX6, "becomes", "(II)I"⟩
abbrev cX6_isFood : ByteArray := prog_8_method_8_code
def yX6_isFood : MethodName := ⟨RX6, "isFood", "(I)Z"⟩
abbrev cX6_isTaste : ByteArray := prog_8_method_9_code
def yX6_isTaste : MethodName := ⟨RX6, "isTaste", "(I)Z"⟩
abbrev cX6_isKind : ByteArray := prog_8_method_10_code
def yX6_isKind : MethodName := ⟨RX6, "isKind", "(I)Z"⟩
abbrev cX6_isPut : ByteArray := prog_8_method_11_code
def yX6_isPut : MethodName := ⟨RX6, "isPut", "(I)Z"⟩
abbrev cX6_of : ByteArray := prog_8_method_12_code
def yX6_of : MethodName := ⟨RX6, "of", "(II)I"⟩
abbrev cX6_like : ByteArray := prog_8_method_13_code
def yX6_like : MethodName := ⟨RX6, "like", "(I)I"⟩
abbrev cX6_isLiked : ByteArray := prog_8_method_14_code
def yX6_isLiked : MethodName := ⟨RX6, "isLiked", "(I)Z"⟩
abbrev cX6_food : ByteArray := prog_8_method_15_code
def yX6_food : MethodName := ⟨RX6, "food", "(III)I"⟩
abbrev cX6_foodOf : ByteArray := prog_8_method_16_code
def yX6_foodOf : MethodName := ⟨RX6, "foodOf", "(II)I"⟩
abbrev cX6_isPart : ByteArray := prog_8_method_17_code
def yX6_isPart : MethodName := ⟨RX6, "isPart", "(II)Z"⟩
abbrev cX6_child : ByteArray := prog_8_method_18_code
def yX6_child : MethodName := ⟨RX6, "child", "(II)I"⟩
abbrev cX6_pudding : ByteArray := prog_8_method_19_code
def yX6_pudding : MethodName := ⟨RX6, "pudding", "(I)I"⟩
abbrev cX6_friend : ByteArray := prog_8_method_20_code
def yX6_friend : MethodName := ⟨RX6, "friend", "(I)I"⟩
abbrev cX6_liked : ByteArray := prog_8_method_21_code
def yX6_liked : MethodName := ⟨RX6, "liked", "()I"⟩
abbrev cX6_manyLiked : ByteArray := prog_8_method_22_code
def yX6_manyLiked : MethodName := ⟨RX6, "manyLiked", "()I"⟩
abbrev cX6_next : ByteArray := prog_8_method_23_code
def yX6_next : MethodName := ⟨RX6, "next", "()I"⟩
abbrev cX6_comes : ByteArray := prog_8_method_24_code
def yX6_comes : MethodName := ⟨RX6, "comes", "(III)V"⟩
abbrev cX6_taste : ByteArray := prog_8_method_25_code
def yX6_taste : MethodName := ⟨RX6, "taste", "(III)I"⟩
abbrev cX6_isFriends : ByteArray := prog_8_method_26_code
def yX6_isFriends : MethodName := ⟨RX6, "isFriends", "(I)Z"⟩
abbrev cX6_eats : ByteArray := prog_8_method_27_code
def yX6_eats : MethodName := ⟨RX6, "eats", "(IZ)I"⟩
abbrev cX6_moves : ByteArray := prog_8_method_28_code
def yX6_moves : MethodName := ⟨RX6, "moves", "(IZ)I"⟩
abbrev cX6_tasteOf : ByteArray := prog_8_method_29_code
def yX6_tasteOf : MethodName := ⟨RX6, "tasteOf", "(II)I"⟩
abbrev cX6_change : ByteArray := prog_8_method_30_code
def yX6_change : MethodName := ⟨RX6, "change", "(III)I"⟩
abbrev cX6_swaps : ByteArray := prog_8_method_31_code
def yX6_swaps : MethodName := ⟨RX6, "swaps", "(II)V"⟩
abbrev cX6_swap : ByteArray := prog_8_method_32_code
def yX6_swap : MethodName := ⟨RX6, "swap", "(II)I"⟩
abbrev cX6_drop : ByteArray := prog_8_method_33_code
def yX6_drop : MethodName := ⟨RX6, "drop", "()I"⟩
abbrev cX6_draw : ByteArray := prog_8_method_34_code
def yX6_draw : MethodName := ⟨RX6, "draw", "()I"⟩
abbrev cX6_likesMore : ByteArray := prog_8_method_35_code
def yX6_likesMore : MethodName := ⟨RX6, "likesMore", "(II)V"⟩
abbrev cX6_serves : ByteArray := prog_8_method_36_code
def yX6_serves : MethodName := ⟨RX6, "serves", "(I)I"⟩
abbrev cX6_meal : ByteArray := prog_8_method_37_code
def yX6_meal : MethodName := ⟨RX6, "meal", "(I)I"⟩
abbrev cX6_served : ByteArray := prog_8_method_38_code
def yX6_served : MethodName := ⟨RX6, "served", "()I"⟩
abbrev cX6_mealsOf : ByteArray := prog_8_method_39_code
def yX6_mealsOf : MethodName := ⟨RX6, "mealsOf", "(I)I"⟩
abbrev cX6_meals : ByteArray := prog_8_method_40_code
def yX6_meals : MethodName := ⟨RX6, "meals", "(I)I"⟩
abbrev cX6_week : ByteArray := prog_8_method_41_code
def yX6_week : MethodName := ⟨RX6, "week", "()I"⟩
abbrev cX6_isShort : ByteArray := prog_8_method_42_code
def yX6_isShort : MethodName := ⟨RX6, "isShort", "()Z"⟩
abbrev cX6_now : ByteArray := prog_8_method_43_code
def yX6_now : MethodName := ⟨RX6, "now", "(I)I"⟩
abbrev cX6_book : ByteArray := prog_8_method_44_code
def yX6_book : MethodName := ⟨RX6, "book", "(I)I"⟩
abbrev cX6_day : ByteArray := prog_8_method_45_code
def yX6_day : MethodName := ⟨RX6, "day", "(I)I"⟩
abbrev cX6_spread : ByteArray := prog_8_method_46_code
def yX6_spread : MethodName := ⟨RX6, "spread", "()I"⟩
abbrev cX6_wrongMeals : ByteArray := prog_8_method_47_code
def yX6_wrongMeals : MethodName := ⟨RX6, "wrongMeals", "(IIIZ)I"⟩
abbrev cX6_ahead : ByteArray := prog_8_method_48_code
def yX6_ahead : MethodName := ⟨RX6, "ahead", "(II)I"⟩
abbrev cX6_when : ByteArray := prog_8_method_49_code
def yX6_when : MethodName := ⟨RX6, "when", "(I)I"⟩
abbrev cX6_times : ByteArray := prog_8_method_50_code
def yX6_times : MethodName := ⟨RX6, "times", "(I)I"⟩
abbrev cX6_behind : ByteArray := prog_8_method_51_code
def yX6_behind : MethodName := ⟨RX6, "behind", "(IZ)I"⟩
abbrev cX6_bestIn : ByteArray := prog_8_method_52_code
def yX6_bestIn : MethodName := ⟨RX6, "bestIn", "(IIIIZ)I"⟩
abbrev cX6_kindFor : ByteArray := prog_8_method_53_code
def yX6_kindFor : MethodName := ⟨RX6, "kindFor", "(II)I"⟩
abbrev cX6_foodFor : ByteArray := prog_8_method_54_code
def yX6_foodFor : MethodName := ⟨RX6, "foodFor", "(II)I"⟩
abbrev cX6_putFor : ByteArray := prog_8_method_55_code
def yX6_putFor : MethodName := ⟨RX6, "putFor", "(II)I"⟩
abbrev cX6_paid : ByteArray := prog_8_method_56_code
def yX6_paid : MethodName := ⟨RX6, "paid", "(I)I"⟩
abbrev cX6_worry : ByteArray := prog_8_method_57_code
def yX6_worry : MethodName := ⟨RX6, "worry", "()I"⟩
abbrev cX6_order : ByteArray := prog_8_method_58_code
def yX6_order : MethodName := ⟨RX6, "order", "(I)I"⟩
abbrev cX6_chance : ByteArray := prog_8_method_59_code
def yX6_chance : MethodName := ⟨RX6, "chance", "(III)I"⟩
abbrev cX6_seed : ByteArray := prog_8_method_60_code
def yX6_seed : MethodName := ⟨RX6, "seed", "(I)I"⟩
abbrev cX6_feed : ByteArray := prog_8_method_61_code
def yX6_feed : MethodName := ⟨RX6, "feed", "(II)I"⟩
abbrev cX6_wipe : ByteArray := prog_8_method_62_code
def yX6_wipe : MethodName := ⟨RX6, "wipe", "()I"⟩
abbrev cX6_isByte : ByteArray := prog_8_method_63_code
def yX6_isByte : MethodName := ⟨RX6, "isByte", "(III)Z"⟩
abbrev cX6_token : ByteArray := prog_8_method_64_code
def yX6_token : MethodName := ⟨RX6, "token", "()V"⟩
abbrev cX6_isWord : ByteArray := prog_8_method_65_code
def yX6_isWord : MethodName := ⟨RX6, "isWord", "(Ljava/lang/String;)Z"⟩
abbrev cX6_takes : ByteArray := prog_8_method_66_code
def yX6_takes : MethodName := ⟨RX6, "takes", "(Ljava/lang/String;)Z"⟩
abbrev cX6_isSign : ByteArray := prog_8_method_67_code
def yX6_isSign : MethodName := ⟨RX6, "isSign", "(I)Z"⟩
abbrev cX6_number : ByteArray := prog_8_method_68_code
def yX6_number : MethodName := ⟨RX6, "number", "(II)I"⟩
abbrev cX6_tells : ByteArray := prog_8_method_69_code
def yX6_tells : MethodName := ⟨RX6, "tells", "(II)V"⟩
abbrev cX6_kindHere : ByteArray := prog_8_method_70_code
def yX6_kindHere : MethodName := ⟨RX6, "kindHere", "()I"⟩
abbrev cX6_foodItem : ByteArray := prog_8_method_71_code
def yX6_foodItem : MethodName := ⟨RX6, "foodItem", "()V"⟩
abbrev cX6_friendItem : ByteArray := prog_8_method_72_code
def yX6_friendItem : MethodName := ⟨RX6, "friendItem", "()V"⟩
abbrev cX6_tasteItem : ByteArray := prog_8_method_73_code
def yX6_tasteItem : MethodName := ⟨RX6, "tasteItem", "(I)V"⟩
abbrev cX6_item : ByteArray := prog_8_method_74_code
def yX6_item : MethodName := ⟨RX6, "item", "()V"⟩
abbrev cX6_text : ByteArray := prog_8_method_75_code
def yX6_text : MethodName := ⟨RX6, "text", "()I"⟩
abbrev cX6_hold : ByteArray := prog_8_method_76_code
def yX6_hold : MethodName := ⟨RX6, "hold", "(II)I"⟩
abbrev cX6_above : ByteArray := prog_8_method_77_code
def yX6_above : MethodName := ⟨RX6, "above", "(I)I"⟩
abbrev cX6_as : ByteArray := prog_8_method_78_code
def yX6_as : MethodName := ⟨RX6, "as", "(II)I"⟩
abbrev cX6_isSheet : ByteArray := prog_8_method_79_code
def yX6_isSheet : MethodName := ⟨RX6, "isSheet", "(I)Z"⟩
abbrev cX6_sheet : ByteArray := prog_8_method_80_code
def yX6_sheet : MethodName := ⟨RX6, "sheet", "(III)I"⟩
abbrev cX6_write : ByteArray := prog_8_method_81_code
def yX6_write : MethodName := ⟨RX6, "write", "(III)I"⟩
abbrev cX6_copy : ByteArray := prog_8_method_82_code
def yX6_copy : MethodName := ⟨RX6, "copy", "(IIIII)I"⟩
abbrev cX6_load : ByteArray := prog_8_method_83_code
def yX6_load : MethodName := ⟨RX6, "load", "(I)I"⟩
abbrev cX6_judge : ByteArray := prog_8_method_84_code
def yX6_judge : MethodName := ⟨RX6, "judge", "(I)I"⟩
abbrev cX6_image : ByteArray := prog_8_method_85_code
def yX6_image : MethodName := ⟨RX6, "image", "()I"⟩
abbrev cX6_undo : ByteArray := prog_8_method_86_code
def yX6_undo : MethodName := ⟨RX6, "undo", "()I"⟩
abbrev cX6_tear : ByteArray := prog_8_method_87_code
def yX6_tear : MethodName := ⟨RX6, "tear", "()I"⟩
abbrev cX6_count : ByteArray := prog_8_method_88_code
def yX6_count : MethodName := ⟨RX6, "count", "(I)I"⟩
abbrev cX6_status : ByteArray := prog_8_method_89_code
def yX6_status : MethodName := ⟨RX6, "status", "(I)I"⟩
def RJx145de : String := "java/io/Serializable"
def TJx145de : u_T := fun k => match k with
  | _ => ("", "", "", false)
def tyJx145de : Nat → FieldType := fun k => match k with
  | _ => .int
def RJx9f9b0 : String := "java/lang/CharSequence"
def TJx9f9b0 : u_T := fun k => match k with
  | _ => ("", "", "", false)
def tyJx9f9b0 : Nat → FieldType := fun k => match k with
  | _ => .int
def RJxb160c : String := "java/lang/Comparable"
def TJxb160c : u_T := fun k => match k with
  | _ => ("", "", "", false)
def tyJxb160c : Nat → FieldType := fun k => match k with
  | _ => .int
def RJ6 : String := "java/lang/Integer"
def TJ6 : u_T := fun k => match k with
  | _ => ("", "", "", false)
def tyJ6 : Nat → FieldType := fun k => match k with
  | _ => .int
abbrev cJ6_bitCount_0f7a4 : ByteArray := prog_9_method_49_code
def yJ6_bitCount_0f7a4 : MethodName := ⟨RJ6, "bitCount", "(I)I"⟩
def RJ9 : String := "java/lang/Math"
def TJ9 : u_T := fun k => match k with
  | _ => ("", "", "", false)
def tyJ9 : Nat → FieldType := fun k => match k with
  | _ => .int
abbrev cJ9_floorMod_7cf53 : ByteArray := prog_10_method_50_code
def yJ9_floorMod_7cf53 : MethodName := ⟨RJ9, "floorMod", "(II)I"⟩
abbrev cJ9_max_7cf53 : ByteArray := prog_10_method_65_code
def yJ9_max_7cf53 : MethodName := ⟨RJ9, "max", "(II)I"⟩
abbrev cJ9_min_7cf53 : ByteArray := prog_10_method_69_code
def yJ9_min_7cf53 : MethodName := ⟨RJ9, "min", "(II)I"⟩
def RJ0 : String := "java/lang/String"
def TJ0 : u_T := fun k => match k with
  | _ => ("", "", "", false)
def tyJ0 : Nat → FieldType := fun k => match k with
  | _ => .int
abbrev cJ0_length_8abf5 : ByteArray := prog_11_method_54_code
def yJ0_length_8abf5 : MethodName := ⟨RJ0, "length", "()I"⟩
abbrev cJ0_charAt_5068e : ByteArray := prog_11_method_56_code
def yJ0_charAt_5068e : MethodName := ⟨RJ0, "charAt", "(I)C"⟩
abbrev cJ0_coder_7d493 : ByteArray := prog_11_method_152_code
def yJ0_coder_7d493 : MethodName := ⟨RJ0, "coder", "()B"⟩
abbrev cJ0_isLatin1_aae02 : ByteArray := prog_11_method_154_code
def yJ0_isLatin1_aae02 : MethodName := ⟨RJ0, "isLatin1", "()Z"⟩
abbrev cJ0_checkIndex_df160 : ByteArray := prog_11_method_155_code
def yJ0_checkIndex_df160 : MethodName := ⟨RJ0, "checkIndex", "(II)V"⟩
def RJ1 : String := "java/lang/StringLatin1"
def TJ1 : u_T := fun k => match k with
  | _ => ("", "", "", false)
def tyJ1 : Nat → FieldType := fun k => match k with
  | _ => .int
abbrev cJ1_charAt_3b067 : ByteArray := prog_12_method_2_code
def yJ1_charAt_3b067 : MethodName := ⟨RJ1, "charAt", "([BI)C"⟩
def RJ2 : String := "java/lang/StringUTF16"
def TJ2 : u_T := fun k => match k with
  | _ => ("", "", "", false)
def tyJ2 : Nat → FieldType := fun k => match k with
  | _ => .int
abbrev cJ2_getChar_3b067 : ByteArray := prog_13_method_5_code
def yJ2_getChar_3b067 : MethodName := ⟨RJ2, "getChar", "([BI)C"⟩
abbrev cJ2_length_9d52b : ByteArray := prog_13_method_6_code
def yJ2_length_9d52b : MethodName := ⟨RJ2, "length", "([B)I"⟩
abbrev cJ2_charAt_3b067 : ByteArray := prog_13_method_83_code
def yJ2_charAt_3b067 : MethodName := ⟨RJ2, "charAt", "([BI)C"⟩
abbrev cJ2_checkIndex_2214a : ByteArray := prog_13_method_91_code
def yJ2_checkIndex_2214a : MethodName := ⟨RJ2, "checkIndex", "(I[B)V"⟩
def RJ10 : String := "java/lang/System"
def TJ10 : u_T := fun k => match k with
  | _ => ("", "", "", false)
def tyJ10 : Nat → FieldType := fun k => match k with
  | _ => .int
def RJxfd54e : String := "java/lang/constant/Constable"
def TJxfd54e : u_T := fun k => match k with
  | _ => ("", "", "", false)
def tyJxfd54e : Nat → FieldType := fun k => match k with
  | _ => .int
def RJx3cf43 : String := "java/lang/constant/ConstantDesc"
def TJx3cf43 : u_T := fun k => match k with
  | _ => ("", "", "", false)
def tyJx3cf43 : Nat → FieldType := fun k => match k with
  | _ => .int
def RJ7 : String := "java/util/Arrays"
def TJ7 : u_T := fun k => match k with
  | _ => ("", "", "", false)
def tyJ7 : Nat → FieldType := fun k => match k with
  | _ => .int
abbrev cJ7_fill_53178 : ByteArray := prog_15_method_103_code
def yJ7_fill_53178 : MethodName := ⟨RJ7, "fill", "([II)V"⟩
def RJ3 : String := "jdk/internal/util/Preconditions"
def TJ3 : u_T := fun k => match k with
  | _ => ("", "", "", false)
def tyJ3 : Nat → FieldType := fun k => match k with
  | _ => .int
abbrev cJ3_checkIndex_8e157 : ByteArray := prog_16_method_11_code
def yJ3_checkIndex_8e157 : MethodName := ⟨RJ3, "checkIndex", "(IILjava/util/function/BiFunction;)I"⟩
def RL : String := "PeaSpoonsLaw"
abbrev cL_law : ByteArray := code
def yL_law : MethodName := ⟨RL, "law", "([I)Z"⟩
abbrev vwCl : List vw_C := [(RX0, TX0, 14), (RX1, TX1, 4), (RX2, TX2, 3), (RX3, TX3, 8), (RX5, TX5, 7), (RX6, TX6, 15)]
end
section
theorem dX0_init_0 : decode cX0_init 0 = .ok (.aload_n 0, 1) := by decide +kernel
theorem dX0_init_1 : decode cX0_init 1 = .ok (.invokespecial 3, 3) := by decide +kernel
theorem dX0_init_4 : decode cX0_init 4 = .ok (.aload_n 0, 1) := by decide +kernel
theorem dX0_init_5 : decode cX0_init 5 = .ok (.bipush 10, 2) := by decide +kernel
theorem dX0_init_7 : decode cX0_init 7 = .ok (.newarray .int, 2) := by decide +kernel
theorem dX0_init_9 : decode cX0_init 9 = .ok (.putfield 9, 3) := by decide +kernel
theorem dX0_init_12 : decode cX0_init 12 = .ok (.aload_n 0, 1) := by decide +kernel
theorem dX0_init_13 : decode cX0_init 13 = .ok (.bipush 10, 2) := by decide +kernel
theorem dX0_init_15 : decode cX0_init 15 = .ok (.newarray .int, 2) := by decide +kernel
theorem dX0_init_17 : decode cX0_init 17 = .ok (.putfield 15, 3) := by decide +kernel
theorem dX0_init_20 : decode cX0_init 20 = .ok (.aload_n 0, 1) := by decide +kernel
theorem dX0_init_21 : decode cX0_init 21 = .ok (.bipush 10, 2) := by decide +kernel
theorem dX0_init_23 : decode cX0_init 23 = .ok (.newarray .int, 2) := by decide +kernel
theorem dX0_init_25 : decode cX0_init 25 = .ok (.putfield 18, 3) := by decide +kernel
theorem dX0_init_28 : decode cX0_init 28 = .ok (.aload_n 0, 1) := by decide +kernel
theorem dX0_init_29 : decode cX0_init 29 = .ok (.getfield 9, 3) := by decide +kernel
theorem dX0_init_32 : decode cX0_init 32 = .ok (.bipush 20, 2) := by decide +kernel
theorem dX0_init_34 : decode cX0_init 34 = .ok (.invokestatic 21, 3) := by decide +kernel
theorem dX0_init_37 : decode cX0_init 37 = .ok (.aload_n 0, 1) := by decide +kernel
theorem dX0_init_38 : decode cX0_init 38 = .ok (.iconst 3, 1) := by decide +kernel
theorem dX0_init_39 : decode cX0_init 39 = .ok (.putfield 27, 3) := by decide +kernel
theorem dX0_init_42 : decode cX0_init 42 = .ok (.aload_n 0, 1) := by decide +kernel
theorem dX0_init_43 : decode cX0_init 43 = .ok (.bipush 40, 2) := by decide +kernel
theorem dX0_init_45 : decode cX0_init 45 = .ok (.putfield 31, 3) := by decide +kernel
theorem dX0_init_48 : decode cX0_init 48 = .ok (.aload_n 0, 1) := by decide +kernel
theorem dX0_init_49 : decode cX0_init 49 = .ok (.sipush 1500, 3) := by decide +kernel
theorem dX0_init_52 : decode cX0_init 52 = .ok (.putfield 34, 3) := by decide +kernel
theorem dX0_init_55 : decode cX0_init 55 = .ok (.aload_n 0, 1) := by decide +kernel
theorem dX0_init_56 : decode cX0_init 56 = .ok (.bipush 50, 2) := by decide +kernel
theorem dX0_init_58 : decode cX0_init 58 = .ok (.putfield 37, 3) := by decide +kernel
theorem dX0_init_61 : decode cX0_init 61 = .ok (.aload_n 0, 1) := by decide +kernel
theorem dX0_init_62 : decode cX0_init 62 = .ok (.iconst (-1), 1) := by decide +kernel
theorem dX0_init_63 : decode cX0_init 63 = .ok (.putfield 40, 3) := by decide +kernel
theorem dX0_init_66 : decode cX0_init 66 = .ok (.aload_n 0, 1) := by decide +kernel
theorem dX0_init_67 : decode cX0_init 67 = .ok (.iconst 0, 1) := by decide +kernel
theorem dX0_init_68 : decode cX0_init 68 = .ok (.putfield 43, 3) := by decide +kernel
theorem dX0_init_71 : decode cX0_init 71 = .ok (.aload_n 0, 1) := by decide +kernel
theorem dX0_init_72 : decode cX0_init 72 = .ok (.new 46, 3) := by decide +kernel
theorem dX0_init_75 : decode cX0_init 75 = .ok (.dup, 1) := by decide +kernel
theorem dX0_init_76 : decode cX0_init 76 = .ok (.invokespecial 48, 3) := by decide +kernel
theorem dX0_init_79 : decode cX0_init 79 = .ok (.putfield 49, 3) := by decide +kernel
theorem dX0_init_82 : decode cX0_init 82 = .ok (.aload_n 0, 1) := by decide +kernel
theorem dX0_init_83 : decode cX0_init 83 = .ok (.iconst 0, 1) := by decide +kernel
theorem dX0_init_84 : decode cX0_init 84 = .ok (.putfield 53, 3) := by decide +kernel
theorem dX0_init_87 : decode cX0_init 87 = .ok (.aload_n 0, 1) := by decide +kernel
theorem dX0_init_88 : decode cX0_init 88 = .ok (.bipush 35, 2) := by decide +kernel
theorem dX0_init_90 : decode cX0_init 90 = .ok (.newarray .int, 2) := by decide +kernel
theorem dX0_init_92 : decode cX0_init 92 = .ok (.putfield 56, 3) := by decide +kernel
theorem dX0_init_95 : decode cX0_init 95 = .ok (.aload_n 0, 1) := by decide +kernel
theorem dX0_init_96 : decode cX0_init 96 = .ok (.iconst 1, 1) := by decide +kernel
theorem dX0_init_97 : decode cX0_init 97 = .ok (.putfield 59, 3) := by decide +kernel
theorem dX0_init_100 : decode cX0_init 100 = .ok (.aload_n 0, 1) := by decide +kernel
theorem dX0_init_101 : decode cX0_init 101 = .ok (.bipush 10, 2) := by decide +kernel
theorem dX0_init_103 : decode cX0_init 103 = .ok (.newarray .int, 2) := by decide +kernel
theorem dX0_init_105 : decode cX0_init 105 = .ok (.putfield 62, 3) := by decide +kernel
theorem dX0_init_108 : decode cX0_init 108 = .ok (.aload_n 0, 1) := by decide +kernel
theorem dX0_init_109 : decode cX0_init 109 = .ok (.getfield 62, 3) := by decide +kernel
theorem dX0_init_112 : decode cX0_init 112 = .ok (.iconst (-1), 1) := by decide +kernel
theorem dX0_init_113 : decode cX0_init 113 = .ok (.invokestatic 21, 3) := by decide +kernel
theorem dX0_init_116 : decode cX0_init 116 = .ok (.return_, 1) := by decide +kernel
theorem dX0_become_0 : decode cX0_become 0 = .ok (.aload_n 1, 1) := by decide +kernel
theorem dX0_become_1 : decode cX0_become 1 = .ok (.getfield 9, 3) := by decide +kernel
theorem dX0_become_4 : decode cX0_become 4 = .ok (.iconst 0, 1) := by decide +kernel
theorem dX0_become_5 : decode cX0_become 5 = .ok (.aload_n 0, 1) := by decide +kernel
theorem dX0_become_6 : decode cX0_become 6 = .ok (.getfield 9, 3) := by decide +kernel
theorem dX0_become_9 : decode cX0_become 9 = .ok (.iconst 0, 1) := by decide +kernel
theorem dX0_become_10 : decode cX0_become 10 = .ok (.bipush 10, 2) := by decide +kernel
theorem dX0_become_12 : decode cX0_become 12 = .ok (.invokestatic 65, 3) := by decide +kernel
theorem dX0_become_15 : decode cX0_become 15 = .ok (.aload_n 1, 1) := by decide +kernel
theorem dX0_become_16 : decode cX0_become 16 = .ok (.getfield 15, 3) := by decide +kernel
theorem dX0_become_19 : decode cX0_become 19 = .ok (.iconst 0, 1) := by decide +kernel
theorem dX0_become_20 : decode cX0_become 20 = .ok (.aload_n 0, 1) := by decide +kernel
theorem dX0_become_21 : decode cX0_become 21 = .ok (.getfield 15, 3) := by decide +kernel
theorem dX0_become_24 : decode cX0_become 24 = .ok (.iconst 0, 1) := by decide +kernel
theorem dX0_become_25 : decode cX0_become 25 = .ok (.bipush 10, 2) := by decide +kernel
theorem dX0_become_27 : decode cX0_become 27 = .ok (.invokestatic 65, 3) := by decide +kernel
theorem dX0_become_30 : decode cX0_become 30 = .ok (.aload_n 1, 1) := by decide +kernel
theorem dX0_become_31 : decode cX0_become 31 = .ok (.getfield 18, 3) := by decide +kernel
theorem dX0_become_34 : decode cX0_become 34 = .ok (.iconst 0, 1) := by decide +kernel
theorem dX0_become_35 : decode cX0_become 35 = .ok (.aload_n 0, 1) := by decide +kernel
theorem dX0_become_36 : decode cX0_become 36 = .ok (.getfield 18, 3) := by decide +kernel
theorem dX0_become_39 : decode cX0_become 39 = .ok (.iconst 0, 1) := by decide +kernel
theorem dX0_become_40 : decode cX0_become 40 = .ok (.bipush 10, 2) := by decide +kernel
theorem dX0_become_42 : decode cX0_become 42 = .ok (.invokestatic 65, 3) := by decide +kernel
theorem dX0_become_45 : decode cX0_become 45 = .ok (.aload_n 0, 1) := by decide +kernel
theorem dX0_become_46 : decode cX0_become 46 = .ok (.aload_n 1, 1) := by decide +kernel
theorem dX0_become_47 : decode cX0_become 47 = .ok (.getfield 27, 3) := by decide +kernel
theorem dX0_become_50 : decode cX0_become 50 = .ok (.putfield 27, 3) := by decide +kernel
theorem dX0_become_53 : decode cX0_become 53 = .ok (.aload_n 0, 1) := by decide +kernel
theorem dX0_become_54 : decode cX0_become 54 = .ok (.aload_n 1, 1) := by decide +kernel
theorem dX0_become_55 : decode cX0_become 55 = .ok (.getfield 31, 3) := by decide +kernel
theorem dX0_become_58 : decode cX0_become 58 = .ok (.putfield 31, 3) := by decide +kernel
theorem dX0_become_61 : decode cX0_become 61 = .ok (.aload_n 0, 1) := by decide +kernel
theorem dX0_become_62 : decode cX0_become 62 = .ok (.aload_n 1, 1) := by decide +kernel
theorem dX0_become_63 : decode cX0_become 63 = .ok (.getfield 34, 3) := by decide +kernel
theorem dX0_become_66 : decode cX0_become 66 = .ok (.putfield 34, 3) := by decide +kernel
theorem dX0_become_69 : decode cX0_become 69 = .ok (.aload_n 0, 1) := by decide +kernel
theorem dX0_become_70 : decode cX0_become 70 = .ok (.aload_n 1, 1) := by decide +kernel
theorem dX0_become_71 : decode cX0_become 71 = .ok (.getfield 37, 3) := by decide +kernel
theorem dX0_become_74 : decode cX0_become 74 = .ok (.putfield 37, 3) := by decide +kernel
theorem dX0_become_77 : decode cX0_become 77 = .ok (.aload_n 0, 1) := by decide +kernel
theorem dX0_become_78 : decode cX0_become 78 = .ok (.aload_n 1, 1) := by decide +kernel
theorem dX0_become_79 : decode cX0_become 79 = .ok (.getfield 40, 3) := by decide +kernel
theorem dX0_become_82 : decode cX0_become 82 = .ok (.putfield 40, 3) := by decide +kernel
theorem dX0_become_85 : decode cX0_become 85 = .ok (.aload_n 0, 1) := by decide +kernel
theorem dX0_become_86 : decode cX0_become 86 = .ok (.aload_n 1, 1) := by decide +kernel
theorem dX0_become_87 : decode cX0_become 87 = .ok (.getfield 43, 3) := by decide +kernel
theorem dX0_become_90 : decode cX0_become 90 = .ok (.putfield 43, 3) := by decide +kernel
theorem dX0_become_93 : decode cX0_become 93 = .ok (.aload_n 0, 1) := by decide +kernel
theorem dX0_become_94 : decode cX0_become 94 = .ok (.getfield 49, 3) := by decide +kernel
theorem dX0_become_97 : decode cX0_become 97 = .ok (.aload_n 1, 1) := by decide +kernel
theorem dX0_become_98 : decode cX0_become 98 = .ok (.getfield 49, 3) := by decide +kernel
theorem dX0_become_101 : decode cX0_become 101 = .ok (.invokevirtual 71, 3) := by decide +kernel
theorem dX0_become_104 : decode cX0_become 104 = .ok (.aload_n 0, 1) := by decide +kernel
theorem dX0_become_105 : decode cX0_become 105 = .ok (.aload_n 1, 1) := by decide +kernel
theorem dX0_become_106 : decode cX0_become 106 = .ok (.getfield 53, 3) := by decide +kernel
theorem dX0_become_109 : decode cX0_become 109 = .ok (.putfield 53, 3) := by decide +kernel
theorem dX0_become_112 : decode cX0_become 112 = .ok (.aload_n 1, 1) := by decide +kernel
theorem dX0_become_113 : decode cX0_become 113 = .ok (.getfield 56, 3) := by decide +kernel
theorem dX0_become_116 : decode cX0_become 116 = .ok (.iconst 0, 1) := by decide +kernel
theorem dX0_become_117 : decode cX0_become 117 = .ok (.aload_n 0, 1) := by decide +kernel
theorem dX0_become_118 : decode cX0_become 118 = .ok (.getfield 56, 3) := by decide +kernel
theorem dX0_become_121 : decode cX0_become 121 = .ok (.iconst 0, 1) := by decide +kernel
theorem dX0_become_122 : decode cX0_become 122 = .ok (.bipush 35, 2) := by decide +kernel
theorem dX0_become_124 : decode cX0_become 124 = .ok (.invokestatic 65, 3) := by decide +kernel
theorem dX0_become_127 : decode cX0_become 127 = .ok (.aload_n 0, 1) := by decide +kernel
theorem dX0_become_128 : decode cX0_become 128 = .ok (.aload_n 1, 1) := by decide +kernel
theorem dX0_become_129 : decode cX0_become 129 = .ok (.getfield 59, 3) := by decide +kernel
theorem dX0_become_132 : decode cX0_become 132 = .ok (.putfield 59, 3) := by decide +kernel
theorem dX0_become_135 : decode cX0_become 135 = .ok (.aload_n 1, 1) := by decide +kernel
theorem dX0_become_136 : decode cX0_become 136 = .ok (.getfield 62, 3) := by decide +kernel
theorem dX0_become_139 : decode cX0_become 139 = .ok (.iconst 0, 1) := by decide +kernel
theorem dX0_become_140 : decode cX0_become 140 = .ok (.aload_n 0, 1) := by decide +kernel
theorem dX0_become_141 : decode cX0_become 141 = .ok (.getfield 62, 3) := by decide +kernel
theorem dX0_become_144 : decode cX0_become 144 = .ok (.iconst 0, 1) := by decide +kernel
theorem dX0_become_145 : decode cX0_become 145 = .ok (.bipush 10, 2) := by decide +kernel
theorem dX0_become_147 : decode cX0_become 147 = .ok (.invokestatic 65, 3) := by decide +kernel
theorem dX0_become_150 : decode cX0_become 150 = .ok (.return_, 1) := by decide +kernel
theorem dX0_part_0 : decode cX0_part 0 = .ok (.iload_n 1, 1) := by decide +kernel
theorem dX0_part_1 : decode cX0_part 1 = .ok (.tableswitch 42 0 2 #[27, 32, 37], 27) := by decide +kernel
theorem dX0_part_28 : decode cX0_part 28 = .ok (.aload_n 0, 1) := by decide +kernel
theorem dX0_part_29 : decode cX0_part 29 = .ok (.getfield 27, 3) := by decide +kernel
theorem dX0_part_32 : decode cX0_part 32 = .ok (.ireturn, 1) := by decide +kernel
theorem dX0_part_33 : decode cX0_part 33 = .ok (.aload_n 0, 1) := by decide +kernel
theorem dX0_part_34 : decode cX0_part 34 = .ok (.getfield 31, 3) := by decide +kernel
theorem dX0_part_37 : decode cX0_part 37 = .ok (.ireturn, 1) := by decide +kernel
theorem dX0_part_38 : decode cX0_part 38 = .ok (.aload_n 0, 1) := by decide +kernel
theorem dX0_part_39 : decode cX0_part 39 = .ok (.getfield 34, 3) := by decide +kernel
theorem dX0_part_42 : decode cX0_part 42 = .ok (.ireturn, 1) := by decide +kernel
theorem dX0_part_43 : decode cX0_part 43 = .ok (.aload_n 0, 1) := by decide +kernel
theorem dX0_part_44 : decode cX0_part 44 = .ok (.getfield 37, 3) := by decide +kernel
theorem dX0_part_47 : decode cX0_part 47 = .ok (.ireturn, 1) := by decide +kernel
theorem dX0_setPart_0 : decode cX0_setPart 0 = .ok (.iload_n 1, 1) := by decide +kernel
theorem dX0_setPart_1 : decode cX0_setPart 1 = .ok (.tableswitch 51 0 2 #[27, 35, 43], 27) := by decide +kernel
theorem dX0_setPart_28 : decode cX0_setPart 28 = .ok (.aload_n 0, 1) := by decide +kernel
theorem dX0_setPart_29 : decode cX0_setPart 29 = .ok (.iload_n 2, 1) := by decide +kernel
theorem dX0_setPart_30 : decode cX0_setPart 30 = .ok (.putfield 27, 3) := by decide +kernel
theorem dX0_setPart_33 : decode cX0_setPart 33 = .ok (.goto 24, 3) := by decide +kernel
theorem dX0_setPart_36 : decode cX0_setPart 36 = .ok (.aload_n 0, 1) := by decide +kernel
theorem dX0_setPart_37 : decode cX0_setPart 37 = .ok (.iload_n 2, 1) := by decide +kernel
theorem dX0_setPart_38 : decode cX0_setPart 38 = .ok (.putfield 31, 3) := by decide +kernel
theorem dX0_setPart_41 : decode cX0_setPart 41 = .ok (.goto 16, 3) := by decide +kernel
theorem dX0_setPart_44 : decode cX0_setPart 44 = .ok (.aload_n 0, 1) := by decide +kernel
theorem dX0_setPart_45 : decode cX0_setPart 45 = .ok (.iload_n 2, 1) := by decide +kernel
theorem dX0_setPart_46 : decode cX0_setPart 46 = .ok (.putfield 34, 3) := by decide +kernel
theorem dX0_setPart_49 : decode cX0_setPart 49 = .ok (.goto 8, 3) := by decide +kernel
theorem dX0_setPart_52 : decode cX0_setPart 52 = .ok (.aload_n 0, 1) := by decide +kernel
theorem dX0_setPart_53 : decode cX0_setPart 53 = .ok (.iload_n 2, 1) := by decide +kernel
theorem dX0_setPart_54 : decode cX0_setPart 54 = .ok (.putfield 37, 3) := by decide +kernel
theorem dX0_setPart_57 : decode cX0_setPart 57 = .ok (.return_, 1) := by decide +kernel
theorem dX0_isLiked_0 : decode cX0_isLiked 0 = .ok (.aload_n 0, 1) := by decide +kernel
theorem dX0_isLiked_1 : decode cX0_isLiked 1 = .ok (.getfield 9, 3) := by decide +kernel
theorem dX0_isLiked_4 : decode cX0_isLiked 4 = .ok (.iload_n 1, 1) := by decide +kernel
theorem dX0_isLiked_5 : decode cX0_isLiked 5 = .ok (.iaload, 1) := by decide +kernel
theorem dX0_isLiked_6 : decode cX0_isLiked 6 = .ok (.aload_n 0, 1) := by decide +kernel
theorem dX0_isLiked_7 : decode cX0_isLiked 7 = .ok (.getfield 37, 3) := by decide +kernel
theorem dX0_isLiked_10 : decode cX0_isLiked 10 = .ok (.if_icmp .lt 7, 3) := by decide +kernel
theorem dX0_isLiked_13 : decode cX0_isLiked 13 = .ok (.iconst 1, 1) := by decide +kernel
theorem dX0_isLiked_14 : decode cX0_isLiked 14 = .ok (.goto 4, 3) := by decide +kernel
theorem dX0_isLiked_17 : decode cX0_isLiked 17 = .ok (.iconst 0, 1) := by decide +kernel
theorem dX0_isLiked_18 : decode cX0_isLiked 18 = .ok (.ireturn, 1) := by decide +kernel
theorem dX0_likedSet_0 : decode cX0_likedSet 0 = .ok (.iconst 0, 1) := by decide +kernel
theorem dX0_likedSet_1 : decode cX0_likedSet 1 = .ok (.istore_n 1, 1) := by decide +kernel
theorem dX0_likedSet_2 : decode cX0_likedSet 2 = .ok (.iconst 0, 1) := by decide +kernel
theorem dX0_likedSet_3 : decode cX0_likedSet 3 = .ok (.istore_n 2, 1) := by decide +kernel
theorem dX0_likedSet_4 : decode cX0_likedSet 4 = .ok (.iload_n 2, 1) := by decide +kernel
theorem dX0_likedSet_5 : decode cX0_likedSet 5 = .ok (.bipush 10, 2) := by decide +kernel
theorem dX0_likedSet_7 : decode cX0_likedSet 7 = .ok (.if_icmp .ge 23, 3) := by decide +kernel
theorem dX0_likedSet_10 : decode cX0_likedSet 10 = .ok (.aload_n 0, 1) := by decide +kernel
theorem dX0_likedSet_11 : decode cX0_likedSet 11 = .ok (.iload_n 2, 1) := by decide +kernel
theorem dX0_likedSet_12 : decode cX0_likedSet 12 = .ok (.invokevirtual 75, 3) := by decide +kernel
theorem dX0_likedSet_15 : decode cX0_likedSet 15 = .ok (.ifCond .eq 9, 3) := by decide +kernel
theorem dX0_likedSet_18 : decode cX0_likedSet 18 = .ok (.iload_n 1, 1) := by decide +kernel
theorem dX0_likedSet_19 : decode cX0_likedSet 19 = .ok (.iconst 1, 1) := by decide +kernel
theorem dX0_likedSet_20 : decode cX0_likedSet 20 = .ok (.iload_n 2, 1) := by decide +kernel
theorem dX0_likedSet_21 : decode cX0_likedSet 21 = .ok (.ishl, 1) := by decide +kernel
theorem dX0_likedSet_22 : decode cX0_likedSet 22 = .ok (.ior, 1) := by decide +kernel
theorem dX0_likedSet_23 : decode cX0_likedSet 23 = .ok (.istore_n 1, 1) := by decide +kernel
theorem dX0_likedSet_24 : decode cX0_likedSet 24 = .ok (.iinc 2 1, 3) := by decide +kernel
theorem dX0_likedSet_27 : decode cX0_likedSet 27 = .ok (.goto (-23), 3) := by decide +kernel
theorem dX0_likedSet_30 : decode cX0_likedSet 30 = .ok (.iload_n 1, 1) := by decide +kernel
theorem dX0_likedSet_31 : decode cX0_likedSet 31 = .ok (.ireturn, 1) := by decide +kernel
theorem dX0_triedInAll_0 : decode cX0_triedInAll 0 = .ok (.iconst 0, 1) := by decide +kernel
theorem dX0_triedInAll_1 : decode cX0_triedInAll 1 = .ok (.istore_n 1, 1) := by decide +kernel
theorem dX0_triedInAll_2 : decode cX0_triedInAll 2 = .ok (.iconst 0, 1) := by decide +kernel
theorem dX0_triedInAll_3 : decode cX0_triedInAll 3 = .ok (.istore_n 2, 1) := by decide +kernel
theorem dX0_triedInAll_4 : decode cX0_triedInAll 4 = .ok (.iload_n 2, 1) := by decide +kernel
theorem dX0_triedInAll_5 : decode cX0_triedInAll 5 = .ok (.bipush 10, 2) := by decide +kernel
theorem dX0_triedInAll_7 : decode cX0_triedInAll 7 = .ok (.if_icmp .ge 18, 3) := by decide +kernel
theorem dX0_triedInAll_10 : decode cX0_triedInAll 10 = .ok (.iload_n 1, 1) := by decide +kernel
theorem dX0_triedInAll_11 : decode cX0_triedInAll 11 = .ok (.aload_n 0, 1) := by decide +kernel
theorem dX0_triedInAll_12 : decode cX0_triedInAll 12 = .ok (.getfield 18, 3) := by decide +kernel
theorem dX0_triedInAll_15 : decode cX0_triedInAll 15 = .ok (.iload_n 2, 1) := by decide +kernel
theorem dX0_triedInAll_16 : decode cX0_triedInAll 16 = .ok (.iaload, 1) := by decide +kernel
theorem dX0_triedInAll_17 : decode cX0_triedInAll 17 = .ok (.iadd, 1) := by decide +kernel
theorem dX0_triedInAll_18 : decode cX0_triedInAll 18 = .ok (.istore_n 1, 1) := by decide +kernel
theorem dX0_triedInAll_19 : decode cX0_triedInAll 19 = .ok (.iinc 2 1, 3) := by decide +kernel
theorem dX0_triedInAll_22 : decode cX0_triedInAll 22 = .ok (.goto (-18), 3) := by decide +kernel
theorem dX0_triedInAll_25 : decode cX0_triedInAll 25 = .ok (.iload_n 1, 1) := by decide +kernel
theorem dX0_triedInAll_26 : decode cX0_triedInAll 26 = .ok (.ireturn, 1) := by decide +kernel
theorem dX0_friendHas_0 : decode cX0_friendHas 0 = .ok (.aload_n 0, 1) := by decide +kernel
theorem dX0_friendHas_1 : decode cX0_friendHas 1 = .ok (.getfield 43, 3) := by decide +kernel
theorem dX0_friendHas_4 : decode cX0_friendHas 4 = .ok (.iload_n 1, 1) := by decide +kernel
theorem dX0_friendHas_5 : decode cX0_friendHas 5 = .ok (.iushr, 1) := by decide +kernel
theorem dX0_friendHas_6 : decode cX0_friendHas 6 = .ok (.iconst 1, 1) := by decide +kernel
theorem dX0_friendHas_7 : decode cX0_friendHas 7 = .ok (.iand, 1) := by decide +kernel
theorem dX0_friendHas_8 : decode cX0_friendHas 8 = .ok (.iconst 1, 1) := by decide +kernel
theorem dX0_friendHas_9 : decode cX0_friendHas 9 = .ok (.if_icmp .ne 7, 3) := by decide +kernel
theorem dX0_friendHas_12 : decode cX0_friendHas 12 = .ok (.iconst 1, 1) := by decide +kernel
theorem dX0_friendHas_13 : decode cX0_friendHas 13 = .ok (.goto 4, 3) := by decide +kernel
theorem dX0_friendHas_16 : decode cX0_friendHas 16 = .ok (.iconst 0, 1) := by decide +kernel
theorem dX0_friendHas_17 : decode cX0_friendHas 17 = .ok (.ireturn, 1) := by decide +kernel
theorem dX0_eats_0 : decode cX0_eats 0 = .ok (.aload_n 0, 1) := by decide +kernel
theorem dX0_eats_1 : decode cX0_eats 1 = .ok (.getfield 49, 3) := by decide +kernel
theorem dX0_eats_4 : decode cX0_eats 4 = .ok (.getfield 79, 3) := by decide +kernel
theorem dX0_eats_7 : decode cX0_eats 7 = .ok (.iload_n 1, 1) := by decide +kernel
theorem dX0_eats_8 : decode cX0_eats 8 = .ok (.iaload, 1) := by decide +kernel
theorem dX0_eats_9 : decode cX0_eats 9 = .ok (.istore_n 3, 1) := by decide +kernel
theorem dX0_eats_10 : decode cX0_eats 10 = .ok (.aload_n 0, 1) := by decide +kernel
theorem dX0_eats_11 : decode cX0_eats 11 = .ok (.getfield 49, 3) := by decide +kernel
theorem dX0_eats_14 : decode cX0_eats 14 = .ok (.getfield 82, 3) := by decide +kernel
theorem dX0_eats_17 : decode cX0_eats 17 = .ok (.iload_n 1, 1) := by decide +kernel
theorem dX0_eats_18 : decode cX0_eats 18 = .ok (.iaload, 1) := by decide +kernel
theorem dX0_eats_19 : decode cX0_eats 19 = .ok (.istore 4, 2) := by decide +kernel
theorem dX0_eats_21 : decode cX0_eats 21 = .ok (.iload_n 3, 1) := by decide +kernel
theorem dX0_eats_22 : decode cX0_eats 22 = .ok (.aload_n 0, 1) := by decide +kernel
theorem dX0_eats_23 : decode cX0_eats 23 = .ok (.getfield 9, 3) := by decide +kernel
theorem dX0_eats_26 : decode cX0_eats 26 = .ok (.iload 4, 2) := by decide +kernel
theorem dX0_eats_28 : decode cX0_eats 28 = .ok (.iaload, 1) := by decide +kernel
theorem dX0_eats_29 : decode cX0_eats 29 = .ok (.imul, 1) := by decide +kernel
theorem dX0_eats_30 : decode cX0_eats 30 = .ok (.aload_n 0, 1) := by decide +kernel
theorem dX0_eats_31 : decode cX0_eats 31 = .ok (.getfield 31, 3) := by decide +kernel
theorem dX0_eats_34 : decode cX0_eats 34 = .ok (.bipush 20, 2) := by decide +kernel
theorem dX0_eats_36 : decode cX0_eats 36 = .ok (.iadd, 1) := by decide +kernel
theorem dX0_eats_37 : decode cX0_eats 37 = .ok (.imul, 1) := by decide +kernel
theorem dX0_eats_38 : decode cX0_eats 38 = .ok (.sipush 10000, 3) := by decide +kernel
theorem dX0_eats_41 : decode cX0_eats 41 = .ok (.idiv, 1) := by decide +kernel
theorem dX0_eats_42 : decode cX0_eats 42 = .ok (.istore 5, 2) := by decide +kernel
theorem dX0_eats_44 : decode cX0_eats 44 = .ok (.aload_n 0, 1) := by decide +kernel
theorem dX0_eats_45 : decode cX0_eats 45 = .ok (.getfield 49, 3) := by decide +kernel
theorem dX0_eats_48 : decode cX0_eats 48 = .ok (.getfield 85, 3) := by decide +kernel
theorem dX0_eats_51 : decode cX0_eats 51 = .ok (.iload_n 1, 1) := by decide +kernel
theorem dX0_eats_52 : decode cX0_eats 52 = .ok (.iaload, 1) := by decide +kernel
theorem dX0_eats_53 : decode cX0_eats 53 = .ok (.tableswitch 97 1 6 #[39, 41, 50, 61, 61, 87], 39) := by decide +kernel
theorem dX0_eats_92 : decode cX0_eats 92 = .ok (.iconst 0, 1) := by decide +kernel
theorem dX0_eats_93 : decode cX0_eats 93 = .ok (.ireturn, 1) := by decide +kernel
theorem dX0_eats_94 : decode cX0_eats 94 = .ok (.iload_n 3, 1) := by decide +kernel
theorem dX0_eats_95 : decode cX0_eats 95 = .ok (.iload 5, 2) := by decide +kernel
theorem dX0_eats_97 : decode cX0_eats 97 = .ok (.iconst 2, 1) := by decide +kernel
theorem dX0_eats_98 : decode cX0_eats 98 = .ok (.iadd, 1) := by decide +kernel
theorem dX0_eats_99 : decode cX0_eats 99 = .ok (.invokestatic 88, 3) := by decide +kernel
theorem dX0_eats_102 : decode cX0_eats 102 = .ok (.ireturn, 1) := by decide +kernel
theorem dX0_eats_103 : decode cX0_eats 103 = .ok (.iload_n 3, 1) := by decide +kernel
theorem dX0_eats_104 : decode cX0_eats 104 = .ok (.iload 5, 2) := by decide +kernel
theorem dX0_eats_106 : decode cX0_eats 106 = .ok (.iconst 2, 1) := by decide +kernel
theorem dX0_eats_107 : decode cX0_eats 107 = .ok (.iadd, 1) := by decide +kernel
theorem dX0_eats_108 : decode cX0_eats 108 = .ok (.iconst 3, 1) := by decide +kernel
theorem dX0_eats_109 : decode cX0_eats 109 = .ok (.iadd, 1) := by decide +kernel
theorem dX0_eats_110 : decode cX0_eats 110 = .ok (.invokestatic 88, 3) := by decide +kernel
theorem dX0_eats_113 : decode cX0_eats 113 = .ok (.ireturn, 1) := by decide +kernel
theorem dX0_eats_114 : decode cX0_eats 114 = .ok (.iload_n 3, 1) := by decide +kernel
theorem dX0_eats_115 : decode cX0_eats 115 = .ok (.aload_n 0, 1) := by decide +kernel
theorem dX0_eats_116 : decode cX0_eats 116 = .ok (.iload 4, 2) := by decide +kernel
theorem dX0_eats_118 : decode cX0_eats 118 = .ok (.invokevirtual 94, 3) := by decide +kernel
theorem dX0_eats_121 : decode cX0_eats 121 = .ok (.ifCond .eq 13, 3) := by decide +kernel
theorem dX0_eats_124 : decode cX0_eats 124 = .ok (.iload 5, 2) := by decide +kernel
theorem dX0_eats_126 : decode cX0_eats 126 = .ok (.iload 5, 2) := by decide +kernel
theorem dX0_eats_128 : decode cX0_eats 128 = .ok (.iconst 2, 1) := by decide +kernel
theorem dX0_eats_129 : decode cX0_eats 129 = .ok (.idiv, 1) := by decide +kernel
theorem dX0_eats_130 : decode cX0_eats 130 = .ok (.iadd, 1) := by decide +kernel
theorem dX0_eats_131 : decode cX0_eats 131 = .ok (.goto 5, 3) := by decide +kernel
theorem dX0_eats_134 : decode cX0_eats 134 = .ok (.iload 5, 2) := by decide +kernel
theorem dX0_eats_136 : decode cX0_eats 136 = .ok (.invokestatic 88, 3) := by decide +kernel
theorem dX0_eats_139 : decode cX0_eats 139 = .ok (.ireturn, 1) := by decide +kernel
theorem dX0_eats_140 : decode cX0_eats 140 = .ok (.iload_n 2, 1) := by decide +kernel
theorem dX0_eats_141 : decode cX0_eats 141 = .ok (.ifCond .eq 7, 3) := by decide +kernel
theorem dX0_eats_144 : decode cX0_eats 144 = .ok (.iconst 0, 1) := by decide +kernel
theorem dX0_eats_145 : decode cX0_eats 145 = .ok (.goto 4, 3) := by decide +kernel
theorem dX0_eats_148 : decode cX0_eats 148 = .ok (.iload_n 3, 1) := by decide +kernel
theorem dX0_eats_149 : decode cX0_eats 149 = .ok (.ireturn, 1) := by decide +kernel
theorem dX0_eats_150 : decode cX0_eats 150 = .ok (.iload_n 3, 1) := by decide +kernel
theorem dX0_eats_151 : decode cX0_eats 151 = .ok (.iload 5, 2) := by decide +kernel
theorem dX0_eats_153 : decode cX0_eats 153 = .ok (.invokestatic 88, 3) := by decide +kernel
theorem dX0_eats_156 : decode cX0_eats 156 = .ok (.ireturn, 1) := by decide +kernel
theorem dX0_moves_0 : decode cX0_moves 0 = .ok (.aload_n 0, 1) := by decide +kernel
theorem dX0_moves_1 : decode cX0_moves 1 = .ok (.getfield 49, 3) := by decide +kernel
theorem dX0_moves_4 : decode cX0_moves 4 = .ok (.getfield 82, 3) := by decide +kernel
theorem dX0_moves_7 : decode cX0_moves 7 = .ok (.iload_n 1, 1) := by decide +kernel
theorem dX0_moves_8 : decode cX0_moves 8 = .ok (.iaload, 1) := by decide +kernel
theorem dX0_moves_9 : decode cX0_moves 9 = .ok (.istore_n 3, 1) := by decide +kernel
theorem dX0_moves_10 : decode cX0_moves 10 = .ok (.bipush 6, 2) := by decide +kernel
theorem dX0_moves_12 : decode cX0_moves 12 = .ok (.aload_n 0, 1) := by decide +kernel
theorem dX0_moves_13 : decode cX0_moves 13 = .ok (.getfield 15, 3) := by decide +kernel
theorem dX0_moves_16 : decode cX0_moves 16 = .ok (.iload_n 3, 1) := by decide +kernel
theorem dX0_moves_17 : decode cX0_moves 17 = .ok (.iaload, 1) := by decide +kernel
theorem dX0_moves_18 : decode cX0_moves 18 = .ok (.aload_n 0, 1) := by decide +kernel
theorem dX0_moves_19 : decode cX0_moves 19 = .ok (.getfield 27, 3) := by decide +kernel
theorem dX0_moves_22 : decode cX0_moves 22 = .ok (.imul, 1) := by decide +kernel
theorem dX0_moves_23 : decode cX0_moves 23 = .ok (.bipush 10, 2) := by decide +kernel
theorem dX0_moves_25 : decode cX0_moves 25 = .ok (.idiv, 1) := by decide +kernel
theorem dX0_moves_26 : decode cX0_moves 26 = .ok (.isub, 1) := by decide +kernel
theorem dX0_moves_27 : decode cX0_moves 27 = .ok (.istore 4, 2) := by decide +kernel
theorem dX0_moves_29 : decode cX0_moves 29 = .ok (.aload_n 0, 1) := by decide +kernel
theorem dX0_moves_30 : decode cX0_moves 30 = .ok (.iload_n 3, 1) := by decide +kernel
theorem dX0_moves_31 : decode cX0_moves 31 = .ok (.invokevirtual 94, 3) := by decide +kernel
theorem dX0_moves_34 : decode cX0_moves 34 = .ok (.ifCond .eq 10, 3) := by decide +kernel
theorem dX0_moves_37 : decode cX0_moves 37 = .ok (.iload 4, 2) := by decide +kernel
theorem dX0_moves_39 : decode cX0_moves 39 = .ok (.iconst 3, 1) := by decide +kernel
theorem dX0_moves_40 : decode cX0_moves 40 = .ok (.iadd, 1) := by decide +kernel
theorem dX0_moves_41 : decode cX0_moves 41 = .ok (.goto 5, 3) := by decide +kernel
theorem dX0_moves_44 : decode cX0_moves 44 = .ok (.iload 4, 2) := by decide +kernel
theorem dX0_moves_46 : decode cX0_moves 46 = .ok (.istore 5, 2) := by decide +kernel
theorem dX0_moves_48 : decode cX0_moves 48 = .ok (.aload_n 0, 1) := by decide +kernel
theorem dX0_moves_49 : decode cX0_moves 49 = .ok (.getfield 49, 3) := by decide +kernel
theorem dX0_moves_52 : decode cX0_moves 52 = .ok (.getfield 85, 3) := by decide +kernel
theorem dX0_moves_55 : decode cX0_moves 55 = .ok (.iload_n 1, 1) := by decide +kernel
theorem dX0_moves_56 : decode cX0_moves 56 = .ok (.iaload, 1) := by decide +kernel
theorem dX0_moves_57 : decode cX0_moves 57 = .ok (.tableswitch 77 1 6 #[39, 44, 50, 58, 61, 66], 39) := by decide +kernel
theorem dX0_moves_96 : decode cX0_moves 96 = .ok (.iload 4, 2) := by decide +kernel
theorem dX0_moves_98 : decode cX0_moves 98 = .ok (.iconst 2, 1) := by decide +kernel
theorem dX0_moves_99 : decode cX0_moves 99 = .ok (.idiv, 1) := by decide +kernel
theorem dX0_moves_100 : decode cX0_moves 100 = .ok (.ireturn, 1) := by decide +kernel
theorem dX0_moves_101 : decode cX0_moves 101 = .ok (.iload 4, 2) := by decide +kernel
theorem dX0_moves_103 : decode cX0_moves 103 = .ok (.bipush 8, 2) := by decide +kernel
theorem dX0_moves_105 : decode cX0_moves 105 = .ok (.isub, 1) := by decide +kernel
theorem dX0_moves_106 : decode cX0_moves 106 = .ok (.ireturn, 1) := by decide +kernel
theorem dX0_moves_107 : decode cX0_moves 107 = .ok (.iload 4, 2) := by decide +kernel
theorem dX0_moves_109 : decode cX0_moves 109 = .ok (.bipush 8, 2) := by decide +kernel
theorem dX0_moves_111 : decode cX0_moves 111 = .ok (.isub, 1) := by decide +kernel
theorem dX0_moves_112 : decode cX0_moves 112 = .ok (.iconst 2, 1) := by decide +kernel
theorem dX0_moves_113 : decode cX0_moves 113 = .ok (.iadd, 1) := by decide +kernel
theorem dX0_moves_114 : decode cX0_moves 114 = .ok (.ireturn, 1) := by decide +kernel
theorem dX0_moves_115 : decode cX0_moves 115 = .ok (.iload 5, 2) := by decide +kernel
theorem dX0_moves_117 : decode cX0_moves 117 = .ok (.ireturn, 1) := by decide +kernel
theorem dX0_moves_118 : decode cX0_moves 118 = .ok (.iload 5, 2) := by decide +kernel
theorem dX0_moves_120 : decode cX0_moves 120 = .ok (.iconst 2, 1) := by decide +kernel
theorem dX0_moves_121 : decode cX0_moves 121 = .ok (.iadd, 1) := by decide +kernel
theorem dX0_moves_122 : decode cX0_moves 122 = .ok (.ireturn, 1) := by decide +kernel
theorem dX0_moves_123 : decode cX0_moves 123 = .ok (.iload_n 2, 1) := by decide +kernel
theorem dX0_moves_124 : decode cX0_moves 124 = .ok (.ifCond .eq 8, 3) := by decide +kernel
theorem dX0_moves_127 : decode cX0_moves 127 = .ok (.bipush (-10), 2) := by decide +kernel
theorem dX0_moves_129 : decode cX0_moves 129 = .ok (.goto 4, 3) := by decide +kernel
theorem dX0_moves_132 : decode cX0_moves 132 = .ok (.iconst 1, 1) := by decide +kernel
theorem dX0_moves_133 : decode cX0_moves 133 = .ok (.ireturn, 1) := by decide +kernel
theorem dX0_moves_134 : decode cX0_moves 134 = .ok (.iload 4, 2) := by decide +kernel
theorem dX0_moves_136 : decode cX0_moves 136 = .ok (.ireturn, 1) := by decide +kernel
theorem dX0_drawn_0 : decode cX0_drawn 0 = .ok (.aload_n 0, 1) := by decide +kernel
theorem dX0_drawn_1 : decode cX0_drawn 1 = .ok (.aload_n 0, 1) := by decide +kernel
theorem dX0_drawn_2 : decode cX0_drawn 2 = .ok (.getfield 59, 3) := by decide +kernel
theorem dX0_drawn_5 : decode cX0_drawn 5 = .ok (.ldc 97, 2) := by decide +kernel
theorem dX0_drawn_7 : decode cX0_drawn 7 = .ok (.imul, 1) := by decide +kernel
theorem dX0_drawn_8 : decode cX0_drawn 8 = .ok (.sipush 12345, 3) := by decide +kernel
theorem dX0_drawn_11 : decode cX0_drawn 11 = .ok (.iadd, 1) := by decide +kernel
theorem dX0_drawn_12 : decode cX0_drawn 12 = .ok (.putfield 59, 3) := by decide +kernel
theorem dX0_drawn_15 : decode cX0_drawn 15 = .ok (.aload_n 0, 1) := by decide +kernel
theorem dX0_drawn_16 : decode cX0_drawn 16 = .ok (.getfield 59, 3) := by decide +kernel
theorem dX0_drawn_19 : decode cX0_drawn 19 = .ok (.bipush 8, 2) := by decide +kernel
theorem dX0_drawn_21 : decode cX0_drawn 21 = .ok (.iushr, 1) := by decide +kernel
theorem dX0_drawn_22 : decode cX0_drawn 22 = .ok (.ireturn, 1) := by decide +kernel
theorem dX0_moveLike_0 : decode cX0_moveLike 0 = .ok (.aload_n 0, 1) := by decide +kernel
theorem dX0_moveLike_1 : decode cX0_moveLike 1 = .ok (.getfield 9, 3) := by decide +kernel
theorem dX0_moveLike_4 : decode cX0_moveLike 4 = .ok (.iload_n 1, 1) := by decide +kernel
theorem dX0_moveLike_5 : decode cX0_moveLike 5 = .ok (.iconst 0, 1) := by decide +kernel
theorem dX0_moveLike_6 : decode cX0_moveLike 6 = .ok (.bipush 99, 2) := by decide +kernel
theorem dX0_moveLike_8 : decode cX0_moveLike 8 = .ok (.aload_n 0, 1) := by decide +kernel
theorem dX0_moveLike_9 : decode cX0_moveLike 9 = .ok (.getfield 9, 3) := by decide +kernel
theorem dX0_moveLike_12 : decode cX0_moveLike 12 = .ok (.iload_n 1, 1) := by decide +kernel
theorem dX0_moveLike_13 : decode cX0_moveLike 13 = .ok (.iaload, 1) := by decide +kernel
theorem dX0_moveLike_14 : decode cX0_moveLike 14 = .ok (.iload_n 2, 1) := by decide +kernel
theorem dX0_moveLike_15 : decode cX0_moveLike 15 = .ok (.iadd, 1) := by decide +kernel
theorem dX0_moveLike_16 : decode cX0_moveLike 16 = .ok (.invokestatic 88, 3) := by decide +kernel
theorem dX0_moveLike_19 : decode cX0_moveLike 19 = .ok (.invokestatic 98, 3) := by decide +kernel
theorem dX0_moveLike_22 : decode cX0_moveLike 22 = .ok (.iastore, 1) := by decide +kernel
theorem dX0_moveLike_23 : decode cX0_moveLike 23 = .ok (.return_, 1) := by decide +kernel
theorem dX0_serveTaste_0 : decode cX0_serveTaste 0 = .ok (.aload_n 0, 1) := by decide +kernel
theorem dX0_serveTaste_1 : decode cX0_serveTaste 1 = .ok (.getfield 49, 3) := by decide +kernel
theorem dX0_serveTaste_4 : decode cX0_serveTaste 4 = .ok (.getfield 82, 3) := by decide +kernel
theorem dX0_serveTaste_7 : decode cX0_serveTaste 7 = .ok (.iload_n 1, 1) := by decide +kernel
theorem dX0_serveTaste_8 : decode cX0_serveTaste 8 = .ok (.iaload, 1) := by decide +kernel
theorem dX0_serveTaste_9 : decode cX0_serveTaste 9 = .ok (.istore_n 2, 1) := by decide +kernel
theorem dX0_serveTaste_10 : decode cX0_serveTaste 10 = .ok (.aload_n 0, 1) := by decide +kernel
theorem dX0_serveTaste_11 : decode cX0_serveTaste 11 = .ok (.getfield 49, 3) := by decide +kernel
theorem dX0_serveTaste_14 : decode cX0_serveTaste 14 = .ok (.getfield 85, 3) := by decide +kernel
theorem dX0_serveTaste_17 : decode cX0_serveTaste 17 = .ok (.iload_n 1, 1) := by decide +kernel
theorem dX0_serveTaste_18 : decode cX0_serveTaste 18 = .ok (.iaload, 1) := by decide +kernel
theorem dX0_serveTaste_19 : decode cX0_serveTaste 19 = .ok (.istore_n 3, 1) := by decide +kernel
theorem dX0_serveTaste_20 : decode cX0_serveTaste 20 = .ok (.iload_n 3, 1) := by decide +kernel
theorem dX0_serveTaste_21 : decode cX0_serveTaste 21 = .ok (.bipush 6, 2) := by decide +kernel
theorem dX0_serveTaste_23 : decode cX0_serveTaste 23 = .ok (.if_icmp .ne 25, 3) := by decide +kernel
theorem dX0_serveTaste_26 : decode cX0_serveTaste 26 = .ok (.aload_n 0, 1) := by decide +kernel
theorem dX0_serveTaste_27 : decode cX0_serveTaste 27 = .ok (.invokevirtual 101, 3) := by decide +kernel
theorem dX0_serveTaste_30 : decode cX0_serveTaste 30 = .ok (.bipush 10, 2) := by decide +kernel
theorem dX0_serveTaste_32 : decode cX0_serveTaste 32 = .ok (.irem, 1) := by decide +kernel
theorem dX0_serveTaste_33 : decode cX0_serveTaste 33 = .ok (.aload_n 0, 1) := by decide +kernel
theorem dX0_serveTaste_34 : decode cX0_serveTaste 34 = .ok (.getfield 15, 3) := by decide +kernel
theorem dX0_serveTaste_37 : decode cX0_serveTaste 37 = .ok (.iload_n 2, 1) := by decide +kernel
theorem dX0_serveTaste_38 : decode cX0_serveTaste 38 = .ok (.iaload, 1) := by decide +kernel
theorem dX0_serveTaste_39 : decode cX0_serveTaste 39 = .ok (.iconst 1, 1) := by decide +kernel
theorem dX0_serveTaste_40 : decode cX0_serveTaste 40 = .ok (.iadd, 1) := by decide +kernel
theorem dX0_serveTaste_41 : decode cX0_serveTaste 41 = .ok (.if_icmp .ge 7, 3) := by decide +kernel
theorem dX0_serveTaste_44 : decode cX0_serveTaste 44 = .ok (.iconst 1, 1) := by decide +kernel
theorem dX0_serveTaste_45 : decode cX0_serveTaste 45 = .ok (.goto 4, 3) := by decide +kernel
theorem dX0_serveTaste_48 : decode cX0_serveTaste 48 = .ok (.iconst 0, 1) := by decide +kernel
theorem dX0_serveTaste_49 : decode cX0_serveTaste 49 = .ok (.istore 4, 2) := by decide +kernel
theorem dX0_serveTaste_51 : decode cX0_serveTaste 51 = .ok (.aload_n 0, 1) := by decide +kernel
theorem dX0_serveTaste_52 : decode cX0_serveTaste 52 = .ok (.iload_n 1, 1) := by decide +kernel
theorem dX0_serveTaste_53 : decode cX0_serveTaste 53 = .ok (.iload 4, 2) := by decide +kernel
theorem dX0_serveTaste_55 : decode cX0_serveTaste 55 = .ok (.invokevirtual 105, 3) := by decide +kernel
theorem dX0_serveTaste_58 : decode cX0_serveTaste 58 = .ok (.istore 5, 2) := by decide +kernel
theorem dX0_serveTaste_60 : decode cX0_serveTaste 60 = .ok (.aload_n 0, 1) := by decide +kernel
theorem dX0_serveTaste_61 : decode cX0_serveTaste 61 = .ok (.iload_n 2, 1) := by decide +kernel
theorem dX0_serveTaste_62 : decode cX0_serveTaste 62 = .ok (.aload_n 0, 1) := by decide +kernel
theorem dX0_serveTaste_63 : decode cX0_serveTaste 63 = .ok (.iload_n 1, 1) := by decide +kernel
theorem dX0_serveTaste_64 : decode cX0_serveTaste 64 = .ok (.iload 4, 2) := by decide +kernel
theorem dX0_serveTaste_66 : decode cX0_serveTaste 66 = .ok (.invokevirtual 109, 3) := by decide +kernel
theorem dX0_serveTaste_69 : decode cX0_serveTaste 69 = .ok (.invokevirtual 112, 3) := by decide +kernel
theorem dX0_serveTaste_72 : decode cX0_serveTaste 72 = .ok (.iload_n 3, 1) := by decide +kernel
theorem dX0_serveTaste_73 : decode cX0_serveTaste 73 = .ok (.iconst 3, 1) := by decide +kernel
theorem dX0_serveTaste_74 : decode cX0_serveTaste 74 = .ok (.if_icmp .ne 22, 3) := by decide +kernel
theorem dX0_serveTaste_77 : decode cX0_serveTaste 77 = .ok (.aload_n 0, 1) := by decide +kernel
theorem dX0_serveTaste_78 : decode cX0_serveTaste 78 = .ok (.getfield 40, 3) := by decide +kernel
theorem dX0_serveTaste_81 : decode cX0_serveTaste 81 = .ok (.invokestatic 116, 3) := by decide +kernel
theorem dX0_serveTaste_84 : decode cX0_serveTaste 84 = .ok (.ifCond .eq 12, 3) := by decide +kernel
theorem dX0_serveTaste_87 : decode cX0_serveTaste 87 = .ok (.aload_n 0, 1) := by decide +kernel
theorem dX0_serveTaste_88 : decode cX0_serveTaste 88 = .ok (.aload_n 0, 1) := by decide +kernel
theorem dX0_serveTaste_89 : decode cX0_serveTaste 89 = .ok (.getfield 40, 3) := by decide +kernel
theorem dX0_serveTaste_92 : decode cX0_serveTaste 92 = .ok (.iconst 5, 1) := by decide +kernel
theorem dX0_serveTaste_93 : decode cX0_serveTaste 93 = .ok (.invokevirtual 112, 3) := by decide +kernel
theorem dX0_serveTaste_96 : decode cX0_serveTaste 96 = .ok (.aload_n 0, 1) := by decide +kernel
theorem dX0_serveTaste_97 : decode cX0_serveTaste 97 = .ok (.getfield 18, 3) := by decide +kernel
theorem dX0_serveTaste_100 : decode cX0_serveTaste 100 = .ok (.iload_n 2, 1) := by decide +kernel
theorem dX0_serveTaste_101 : decode cX0_serveTaste 101 = .ok (.sipush 999, 3) := by decide +kernel
theorem dX0_serveTaste_104 : decode cX0_serveTaste 104 = .ok (.aload_n 0, 1) := by decide +kernel
theorem dX0_serveTaste_105 : decode cX0_serveTaste 105 = .ok (.getfield 18, 3) := by decide +kernel
theorem dX0_serveTaste_108 : decode cX0_serveTaste 108 = .ok (.iload_n 2, 1) := by decide +kernel
theorem dX0_serveTaste_109 : decode cX0_serveTaste 109 = .ok (.iaload, 1) := by decide +kernel
theorem dX0_serveTaste_110 : decode cX0_serveTaste 110 = .ok (.iconst 1, 1) := by decide +kernel
theorem dX0_serveTaste_111 : decode cX0_serveTaste 111 = .ok (.iadd, 1) := by decide +kernel
theorem dX0_serveTaste_112 : decode cX0_serveTaste 112 = .ok (.invokestatic 88, 3) := by decide +kernel
theorem dX0_serveTaste_115 : decode cX0_serveTaste 115 = .ok (.iastore, 1) := by decide +kernel
theorem dX0_serveTaste_116 : decode cX0_serveTaste 116 = .ok (.iload 5, 2) := by decide +kernel
theorem dX0_serveTaste_118 : decode cX0_serveTaste 118 = .ok (.ireturn, 1) := by decide +kernel
theorem dX0_serveMeal_0 : decode cX0_serveMeal 0 = .ok (.aload_n 0, 1) := by decide +kernel
theorem dX0_serveMeal_1 : decode cX0_serveMeal 1 = .ok (.getfield 49, 3) := by decide +kernel
theorem dX0_serveMeal_4 : decode cX0_serveMeal 4 = .ok (.getfield 119, 3) := by decide +kernel
theorem dX0_serveMeal_7 : decode cX0_serveMeal 7 = .ok (.ifCond .le 22, 3) := by decide +kernel
theorem dX0_serveMeal_10 : decode cX0_serveMeal 10 = .ok (.aload_n 0, 1) := by decide +kernel
theorem dX0_serveMeal_11 : decode cX0_serveMeal 11 = .ok (.aload_n 0, 1) := by decide +kernel
theorem dX0_serveMeal_12 : decode cX0_serveMeal 12 = .ok (.getfield 53, 3) := by decide +kernel
theorem dX0_serveMeal_15 : decode cX0_serveMeal 15 = .ok (.aload_n 0, 1) := by decide +kernel
theorem dX0_serveMeal_16 : decode cX0_serveMeal 16 = .ok (.getfield 49, 3) := by decide +kernel
theorem dX0_serveMeal_19 : decode cX0_serveMeal 19 = .ok (.getfield 119, 3) := by decide +kernel
theorem dX0_serveMeal_22 : decode cX0_serveMeal 22 = .ok (.irem, 1) := by decide +kernel
theorem dX0_serveMeal_23 : decode cX0_serveMeal 23 = .ok (.invokevirtual 122, 3) := by decide +kernel
theorem dX0_serveMeal_26 : decode cX0_serveMeal 26 = .ok (.goto 4, 3) := by decide +kernel
theorem dX0_serveMeal_29 : decode cX0_serveMeal 29 = .ok (.iconst 0, 1) := by decide +kernel
theorem dX0_serveMeal_30 : decode cX0_serveMeal 30 = .ok (.istore_n 1, 1) := by decide +kernel
theorem dX0_serveMeal_31 : decode cX0_serveMeal 31 = .ok (.aload_n 0, 1) := by decide +kernel
theorem dX0_serveMeal_32 : decode cX0_serveMeal 32 = .ok (.bipush 99, 2) := by decide +kernel
theorem dX0_serveMeal_34 : decode cX0_serveMeal 34 = .ok (.iconst 0, 1) := by decide +kernel
theorem dX0_serveMeal_35 : decode cX0_serveMeal 35 = .ok (.aload_n 0, 1) := by decide +kernel
theorem dX0_serveMeal_36 : decode cX0_serveMeal 36 = .ok (.getfield 31, 3) := by decide +kernel
theorem dX0_serveMeal_39 : decode cX0_serveMeal 39 = .ok (.iconst 3, 1) := by decide +kernel
theorem dX0_serveMeal_40 : decode cX0_serveMeal 40 = .ok (.iload_n 1, 1) := by decide +kernel
theorem dX0_serveMeal_41 : decode cX0_serveMeal 41 = .ok (.imul, 1) := by decide +kernel
theorem dX0_serveMeal_42 : decode cX0_serveMeal 42 = .ok (.isub, 1) := by decide +kernel
theorem dX0_serveMeal_43 : decode cX0_serveMeal 43 = .ok (.invokestatic 98, 3) := by decide +kernel
theorem dX0_serveMeal_46 : decode cX0_serveMeal 46 = .ok (.bipush 12, 2) := by decide +kernel
theorem dX0_serveMeal_48 : decode cX0_serveMeal 48 = .ok (.iadd, 1) := by decide +kernel
theorem dX0_serveMeal_49 : decode cX0_serveMeal 49 = .ok (.invokestatic 88, 3) := by decide +kernel
theorem dX0_serveMeal_52 : decode cX0_serveMeal 52 = .ok (.putfield 31, 3) := by decide +kernel
theorem dX0_serveMeal_55 : decode cX0_serveMeal 55 = .ok (.aload_n 0, 1) := by decide +kernel
theorem dX0_serveMeal_56 : decode cX0_serveMeal 56 = .ok (.iconst 0, 1) := by decide +kernel
theorem dX0_serveMeal_57 : decode cX0_serveMeal 57 = .ok (.sipush 9999, 3) := by decide +kernel
theorem dX0_serveMeal_60 : decode cX0_serveMeal 60 = .ok (.aload_n 0, 1) := by decide +kernel
theorem dX0_serveMeal_61 : decode cX0_serveMeal 61 = .ok (.getfield 34, 3) := by decide +kernel
theorem dX0_serveMeal_64 : decode cX0_serveMeal 64 = .ok (.iload_n 1, 1) := by decide +kernel
theorem dX0_serveMeal_65 : decode cX0_serveMeal 65 = .ok (.iadd, 1) := by decide +kernel
theorem dX0_serveMeal_66 : decode cX0_serveMeal 66 = .ok (.iconst 4, 1) := by decide +kernel
theorem dX0_serveMeal_67 : decode cX0_serveMeal 67 = .ok (.isub, 1) := by decide +kernel
theorem dX0_serveMeal_68 : decode cX0_serveMeal 68 = .ok (.invokestatic 88, 3) := by decide +kernel
theorem dX0_serveMeal_71 : decode cX0_serveMeal 71 = .ok (.invokestatic 98, 3) := by decide +kernel
theorem dX0_serveMeal_74 : decode cX0_serveMeal 74 = .ok (.putfield 34, 3) := by decide +kernel
theorem dX0_serveMeal_77 : decode cX0_serveMeal 77 = .ok (.aload_n 0, 1) := by decide +kernel
theorem dX0_serveMeal_78 : decode cX0_serveMeal 78 = .ok (.getfield 56, 3) := by decide +kernel
theorem dX0_serveMeal_81 : decode cX0_serveMeal 81 = .ok (.aload_n 0, 1) := by decide +kernel
theorem dX0_serveMeal_82 : decode cX0_serveMeal 82 = .ok (.getfield 53, 3) := by decide +kernel
theorem dX0_serveMeal_85 : decode cX0_serveMeal 85 = .ok (.bipush 35, 2) := by decide +kernel
theorem dX0_serveMeal_87 : decode cX0_serveMeal 87 = .ok (.irem, 1) := by decide +kernel
theorem dX0_serveMeal_88 : decode cX0_serveMeal 88 = .ok (.iload_n 1, 1) := by decide +kernel
theorem dX0_serveMeal_89 : decode cX0_serveMeal 89 = .ok (.iastore, 1) := by decide +kernel
theorem dX0_serveMeal_90 : decode cX0_serveMeal 90 = .ok (.aload_n 0, 1) := by decide +kernel
theorem dX0_serveMeal_91 : decode cX0_serveMeal 91 = .ok (.dup, 1) := by decide +kernel
theorem dX0_serveMeal_92 : decode cX0_serveMeal 92 = .ok (.getfield 53, 3) := by decide +kernel
theorem dX0_serveMeal_95 : decode cX0_serveMeal 95 = .ok (.iconst 1, 1) := by decide +kernel
theorem dX0_serveMeal_96 : decode cX0_serveMeal 96 = .ok (.iadd, 1) := by decide +kernel
theorem dX0_serveMeal_97 : decode cX0_serveMeal 97 = .ok (.putfield 53, 3) := by decide +kernel
theorem dX0_serveMeal_100 : decode cX0_serveMeal 100 = .ok (.iload_n 1, 1) := by decide +kernel
theorem dX0_serveMeal_101 : decode cX0_serveMeal 101 = .ok (.ireturn, 1) := by decide +kernel
theorem dX0_goOn_0 : decode cX0_goOn 0 = .ok (.iconst 0, 1) := by decide +kernel
theorem dX0_goOn_1 : decode cX0_goOn 1 = .ok (.istore_n 2, 1) := by decide +kernel
theorem dX0_goOn_2 : decode cX0_goOn 2 = .ok (.iconst 0, 1) := by decide +kernel
theorem dX0_goOn_3 : decode cX0_goOn 3 = .ok (.istore_n 3, 1) := by decide +kernel
theorem dX0_goOn_4 : decode cX0_goOn 4 = .ok (.iload_n 3, 1) := by decide +kernel
theorem dX0_goOn_5 : decode cX0_goOn 5 = .ok (.iload_n 1, 1) := by decide +kernel
theorem dX0_goOn_6 : decode cX0_goOn 6 = .ok (.if_icmp .ge 16, 3) := by decide +kernel
theorem dX0_goOn_9 : decode cX0_goOn 9 = .ok (.iload_n 2, 1) := by decide +kernel
theorem dX0_goOn_10 : decode cX0_goOn 10 = .ok (.aload_n 0, 1) := by decide +kernel
theorem dX0_goOn_11 : decode cX0_goOn 11 = .ok (.invokevirtual 126, 3) := by decide +kernel
theorem dX0_goOn_14 : decode cX0_goOn 14 = .ok (.iadd, 1) := by decide +kernel
theorem dX0_goOn_15 : decode cX0_goOn 15 = .ok (.istore_n 2, 1) := by decide +kernel
theorem dX0_goOn_16 : decode cX0_goOn 16 = .ok (.iinc 3 1, 3) := by decide +kernel
theorem dX0_goOn_19 : decode cX0_goOn 19 = .ok (.goto (-15), 3) := by decide +kernel
theorem dX0_goOn_22 : decode cX0_goOn 22 = .ok (.iload_n 2, 1) := by decide +kernel
theorem dX0_goOn_23 : decode cX0_goOn 23 = .ok (.ireturn, 1) := by decide +kernel
theorem dX0_booked_0 : decode cX0_booked 0 = .ok (.aload_n 0, 1) := by decide +kernel
theorem dX0_booked_1 : decode cX0_booked 1 = .ok (.getfield 53, 3) := by decide +kernel
theorem dX0_booked_4 : decode cX0_booked 4 = .ok (.bipush 35, 2) := by decide +kernel
theorem dX0_booked_6 : decode cX0_booked 6 = .ok (.invokestatic 88, 3) := by decide +kernel
theorem dX0_booked_9 : decode cX0_booked 9 = .ok (.ireturn, 1) := by decide +kernel
theorem dX0_spoonsAgo_0 : decode cX0_spoonsAgo 0 = .ok (.aload_n 0, 1) := by decide +kernel
theorem dX0_spoonsAgo_1 : decode cX0_spoonsAgo 1 = .ok (.getfield 56, 3) := by decide +kernel
theorem dX0_spoonsAgo_4 : decode cX0_spoonsAgo 4 = .ok (.aload_n 0, 1) := by decide +kernel
theorem dX0_spoonsAgo_5 : decode cX0_spoonsAgo 5 = .ok (.getfield 53, 3) := by decide +kernel
theorem dX0_spoonsAgo_8 : decode cX0_spoonsAgo 8 = .ok (.iconst 1, 1) := by decide +kernel
theorem dX0_spoonsAgo_9 : decode cX0_spoonsAgo 9 = .ok (.isub, 1) := by decide +kernel
theorem dX0_spoonsAgo_10 : decode cX0_spoonsAgo 10 = .ok (.iload_n 1, 1) := by decide +kernel
theorem dX0_spoonsAgo_11 : decode cX0_spoonsAgo 11 = .ok (.isub, 1) := by decide +kernel
theorem dX0_spoonsAgo_12 : decode cX0_spoonsAgo 12 = .ok (.bipush 35, 2) := by decide +kernel
theorem dX0_spoonsAgo_14 : decode cX0_spoonsAgo 14 = .ok (.invokestatic 129, 3) := by decide +kernel
theorem dX0_spoonsAgo_17 : decode cX0_spoonsAgo 17 = .ok (.iaload, 1) := by decide +kernel
theorem dX0_spoonsAgo_18 : decode cX0_spoonsAgo 18 = .ok (.ireturn, 1) := by decide +kernel
theorem dX0_week_0 : decode cX0_week 0 = .ok (.iconst 0, 1) := by decide +kernel
theorem dX0_week_1 : decode cX0_week 1 = .ok (.istore_n 1, 1) := by decide +kernel
theorem dX0_week_2 : decode cX0_week 2 = .ok (.iconst 0, 1) := by decide +kernel
theorem dX0_week_3 : decode cX0_week 3 = .ok (.istore_n 2, 1) := by decide +kernel
theorem dX0_week_4 : decode cX0_week 4 = .ok (.iload_n 2, 1) := by decide +kernel
theorem dX0_week_5 : decode cX0_week 5 = .ok (.aload_n 0, 1) := by decide +kernel
theorem dX0_week_6 : decode cX0_week 6 = .ok (.invokevirtual 132, 3) := by decide +kernel
theorem dX0_week_9 : decode cX0_week 9 = .ok (.if_icmp .ge 17, 3) := by decide +kernel
theorem dX0_week_12 : decode cX0_week 12 = .ok (.iload_n 1, 1) := by decide +kernel
theorem dX0_week_13 : decode cX0_week 13 = .ok (.aload_n 0, 1) := by decide +kernel
theorem dX0_week_14 : decode cX0_week 14 = .ok (.iload_n 2, 1) := by decide +kernel
theorem dX0_week_15 : decode cX0_week 15 = .ok (.invokevirtual 135, 3) := by decide +kernel
theorem dX0_week_18 : decode cX0_week 18 = .ok (.iadd, 1) := by decide +kernel
theorem dX0_week_19 : decode cX0_week 19 = .ok (.istore_n 1, 1) := by decide +kernel
theorem dX0_week_20 : decode cX0_week 20 = .ok (.iinc 2 1, 3) := by decide +kernel
theorem dX0_week_23 : decode cX0_week 23 = .ok (.goto (-19), 3) := by decide +kernel
theorem dX0_week_26 : decode cX0_week 26 = .ok (.iload_n 1, 1) := by decide +kernel
theorem dX0_week_27 : decode cX0_week 27 = .ok (.ireturn, 1) := by decide +kernel
theorem dX0_isShort_0 : decode cX0_isShort 0 = .ok (.aload_n 0, 1) := by decide +kernel
theorem dX0_isShort_1 : decode cX0_isShort 1 = .ok (.invokevirtual 132, 3) := by decide +kernel
theorem dX0_isShort_4 : decode cX0_isShort 4 = .ok (.bipush 35, 2) := by decide +kernel
theorem dX0_isShort_6 : decode cX0_isShort 6 = .ok (.if_icmp .ne 16, 3) := by decide +kernel
theorem dX0_isShort_9 : decode cX0_isShort 9 = .ok (.aload_n 0, 1) := by decide +kernel
theorem dX0_isShort_10 : decode cX0_isShort 10 = .ok (.invokevirtual 138, 3) := by decide +kernel
theorem dX0_isShort_13 : decode cX0_isShort 13 = .ok (.bipush 100, 2) := by decide +kernel
theorem dX0_isShort_15 : decode cX0_isShort 15 = .ok (.if_icmp .ge 7, 3) := by decide +kernel
theorem dX0_isShort_18 : decode cX0_isShort 18 = .ok (.iconst 1, 1) := by decide +kernel
theorem dX0_isShort_19 : decode cX0_isShort 19 = .ok (.goto 4, 3) := by decide +kernel
theorem dX0_isShort_22 : decode cX0_isShort 22 = .ok (.iconst 0, 1) := by decide +kernel
theorem dX0_isShort_23 : decode cX0_isShort 23 = .ok (.ireturn, 1) := by decide +kernel
theorem dX0_freeSpotsOf_0 : decode cX0_freeSpotsOf 0 = .ok (.iconst 0, 1) := by decide +kernel
theorem dX0_freeSpotsOf_1 : decode cX0_freeSpotsOf 1 = .ok (.istore_n 2, 1) := by decide +kernel
theorem dX0_freeSpotsOf_2 : decode cX0_freeSpotsOf 2 = .ok (.iload_n 2, 1) := by decide +kernel
theorem dX0_freeSpotsOf_3 : decode cX0_freeSpotsOf 3 = .ok (.bipush 10, 2) := by decide +kernel
theorem dX0_freeSpotsOf_5 : decode cX0_freeSpotsOf 5 = .ok (.if_icmp .ge 26, 3) := by decide +kernel
theorem dX0_freeSpotsOf_8 : decode cX0_freeSpotsOf 8 = .ok (.aload_n 0, 1) := by decide +kernel
theorem dX0_freeSpotsOf_9 : decode cX0_freeSpotsOf 9 = .ok (.getfield 62, 3) := by decide +kernel
theorem dX0_freeSpotsOf_12 : decode cX0_freeSpotsOf 12 = .ok (.iload_n 2, 1) := by decide +kernel
theorem dX0_freeSpotsOf_13 : decode cX0_freeSpotsOf 13 = .ok (.iaload, 1) := by decide +kernel
theorem dX0_freeSpotsOf_14 : decode cX0_freeSpotsOf 14 = .ok (.iload_n 1, 1) := by decide +kernel
theorem dX0_freeSpotsOf_15 : decode cX0_freeSpotsOf 15 = .ok (.if_icmp .ne 10, 3) := by decide +kernel
theorem dX0_freeSpotsOf_18 : decode cX0_freeSpotsOf 18 = .ok (.aload_n 0, 1) := by decide +kernel
theorem dX0_freeSpotsOf_19 : decode cX0_freeSpotsOf 19 = .ok (.getfield 62, 3) := by decide +kernel
theorem dX0_freeSpotsOf_22 : decode cX0_freeSpotsOf 22 = .ok (.iload_n 2, 1) := by decide +kernel
theorem dX0_freeSpotsOf_23 : decode cX0_freeSpotsOf 23 = .ok (.iconst (-1), 1) := by decide +kernel
theorem dX0_freeSpotsOf_24 : decode cX0_freeSpotsOf 24 = .ok (.iastore, 1) := by decide +kernel
theorem dX0_freeSpotsOf_25 : decode cX0_freeSpotsOf 25 = .ok (.iinc 2 1, 3) := by decide +kernel
theorem dX0_freeSpotsOf_28 : decode cX0_freeSpotsOf 28 = .ok (.goto (-26), 3) := by decide +kernel
theorem dX0_freeSpotsOf_31 : decode cX0_freeSpotsOf 31 = .ok (.return_, 1) := by decide +kernel
theorem dX0_spotsInUse_0 : decode cX0_spotsInUse 0 = .ok (.iconst 0, 1) := by decide +kernel
theorem dX0_spotsInUse_1 : decode cX0_spotsInUse 1 = .ok (.istore_n 1, 1) := by decide +kernel
theorem dX0_spotsInUse_2 : decode cX0_spotsInUse 2 = .ok (.iconst 0, 1) := by decide +kernel
theorem dX0_spotsInUse_3 : decode cX0_spotsInUse 3 = .ok (.istore_n 2, 1) := by decide +kernel
theorem dX0_spotsInUse_4 : decode cX0_spotsInUse 4 = .ok (.iload_n 2, 1) := by decide +kernel
theorem dX0_spotsInUse_5 : decode cX0_spotsInUse 5 = .ok (.bipush 10, 2) := by decide +kernel
theorem dX0_spotsInUse_7 : decode cX0_spotsInUse 7 = .ok (.if_icmp .ge 21, 3) := by decide +kernel
theorem dX0_spotsInUse_10 : decode cX0_spotsInUse 10 = .ok (.aload_n 0, 1) := by decide +kernel
theorem dX0_spotsInUse_11 : decode cX0_spotsInUse 11 = .ok (.getfield 62, 3) := by decide +kernel
theorem dX0_spotsInUse_14 : decode cX0_spotsInUse 14 = .ok (.iload_n 2, 1) := by decide +kernel
theorem dX0_spotsInUse_15 : decode cX0_spotsInUse 15 = .ok (.iaload, 1) := by decide +kernel
theorem dX0_spotsInUse_16 : decode cX0_spotsInUse 16 = .ok (.ifCond .lt 6, 3) := by decide +kernel
theorem dX0_spotsInUse_19 : decode cX0_spotsInUse 19 = .ok (.iinc 1 1, 3) := by decide +kernel
theorem dX0_spotsInUse_22 : decode cX0_spotsInUse 22 = .ok (.iinc 2 1, 3) := by decide +kernel
theorem dX0_spotsInUse_25 : decode cX0_spotsInUse 25 = .ok (.goto (-21), 3) := by decide +kernel
theorem dX0_spotsInUse_28 : decode cX0_spotsInUse 28 = .ok (.iload_n 1, 1) := by decide +kernel
theorem dX0_spotsInUse_29 : decode cX0_spotsInUse 29 = .ok (.ireturn, 1) := by decide +kernel
theorem dX1_init_0 : decode cX1_init 0 = .ok (.aload_n 0, 1) := by decide +kernel
theorem dX1_init_1 : decode cX1_init 1 = .ok (.invokespecial 3, 3) := by decide +kernel
theorem dX1_init_4 : decode cX1_init 4 = .ok (.aload_n 0, 1) := by decide +kernel
theorem dX1_init_5 : decode cX1_init 5 = .ok (.bipush 10, 2) := by decide +kernel
theorem dX1_init_7 : decode cX1_init 7 = .ok (.newarray .int, 2) := by decide +kernel
theorem dX1_init_9 : decode cX1_init 9 = .ok (.putfield 9, 3) := by decide +kernel
theorem dX1_init_12 : decode cX1_init 12 = .ok (.aload_n 0, 1) := by decide +kernel
theorem dX1_init_13 : decode cX1_init 13 = .ok (.bipush 10, 2) := by decide +kernel
theorem dX1_init_15 : decode cX1_init 15 = .ok (.newarray .int, 2) := by decide +kernel
theorem dX1_init_17 : decode cX1_init 17 = .ok (.putfield 15, 3) := by decide +kernel
theorem dX1_init_20 : decode cX1_init 20 = .ok (.aload_n 0, 1) := by decide +kernel
theorem dX1_init_21 : decode cX1_init 21 = .ok (.bipush 10, 2) := by decide +kernel
theorem dX1_init_23 : decode cX1_init 23 = .ok (.newarray .int, 2) := by decide +kernel
theorem dX1_init_25 : decode cX1_init 25 = .ok (.putfield 18, 3) := by decide +kernel
theorem dX1_init_28 : decode cX1_init 28 = .ok (.aload_n 0, 1) := by decide +kernel
theorem dX1_init_29 : decode cX1_init 29 = .ok (.iconst 0, 1) := by decide +kernel
theorem dX1_init_30 : decode cX1_init 30 = .ok (.putfield 21, 3) := by decide +kernel
theorem dX1_init_33 : decode cX1_init 33 = .ok (.return_, 1) := by decide +kernel
theorem dX1_becomePlan_0 : decode cX1_becomePlan 0 = .ok (.aload_n 1, 1) := by decide +kernel
theorem dX1_becomePlan_1 : decode cX1_becomePlan 1 = .ok (.getfield 9, 3) := by decide +kernel
theorem dX1_becomePlan_4 : decode cX1_becomePlan 4 = .ok (.iconst 0, 1) := by decide +kernel
theorem dX1_becomePlan_5 : decode cX1_becomePlan 5 = .ok (.aload_n 0, 1) := by decide +kernel
theorem dX1_becomePlan_6 : decode cX1_becomePlan 6 = .ok (.getfield 9, 3) := by decide +kernel
theorem dX1_becomePlan_9 : decode cX1_becomePlan 9 = .ok (.iconst 0, 1) := by decide +kernel
theorem dX1_becomePlan_10 : decode cX1_becomePlan 10 = .ok (.bipush 10, 2) := by decide +kernel
theorem dX1_becomePlan_12 : decode cX1_becomePlan 12 = .ok (.invokestatic 25, 3) := by decide +kernel
theorem dX1_becomePlan_15 : decode cX1_becomePlan 15 = .ok (.aload_n 1, 1) := by decide +kernel
theorem dX1_becomePlan_16 : decode cX1_becomePlan 16 = .ok (.getfield 15, 3) := by decide +kernel
theorem dX1_becomePlan_19 : decode cX1_becomePlan 19 = .ok (.iconst 0, 1) := by decide +kernel
theorem dX1_becomePlan_20 : decode cX1_becomePlan 20 = .ok (.aload_n 0, 1) := by decide +kernel
theorem dX1_becomePlan_21 : decode cX1_becomePlan 21 = .ok (.getfield 15, 3) := by decide +kernel
theorem dX1_becomePlan_24 : decode cX1_becomePlan 24 = .ok (.iconst 0, 1) := by decide +kernel
theorem dX1_becomePlan_25 : decode cX1_becomePlan 25 = .ok (.bipush 10, 2) := by decide +kernel
theorem dX1_becomePlan_27 : decode cX1_becomePlan 27 = .ok (.invokestatic 25, 3) := by decide +kernel
theorem dX1_becomePlan_30 : decode cX1_becomePlan 30 = .ok (.aload_n 1, 1) := by decide +kernel
theorem dX1_becomePlan_31 : decode cX1_becomePlan 31 = .ok (.getfield 18, 3) := by decide +kernel
theorem dX1_becomePlan_34 : decode cX1_becomePlan 34 = .ok (.iconst 0, 1) := by decide +kernel
theorem dX1_becomePlan_35 : decode cX1_becomePlan 35 = .ok (.aload_n 0, 1) := by decide +kernel
theorem dX1_becomePlan_36 : decode cX1_becomePlan 36 = .ok (.getfield 18, 3) := by decide +kernel
theorem dX1_becomePlan_39 : decode cX1_becomePlan 39 = .ok (.iconst 0, 1) := by decide +kernel
theorem dX1_becomePlan_40 : decode cX1_becomePlan 40 = .ok (.bipush 10, 2) := by decide +kernel
theorem dX1_becomePlan_42 : decode cX1_becomePlan 42 = .ok (.invokestatic 25, 3) := by decide +kernel
theorem dX1_becomePlan_45 : decode cX1_becomePlan 45 = .ok (.aload_n 0, 1) := by decide +kernel
theorem dX1_becomePlan_46 : decode cX1_becomePlan 46 = .ok (.aload_n 1, 1) := by decide +kernel
theorem dX1_becomePlan_47 : decode cX1_becomePlan 47 = .ok (.getfield 21, 3) := by decide +kernel
theorem dX1_becomePlan_50 : decode cX1_becomePlan 50 = .ok (.putfield 21, 3) := by decide +kernel
theorem dX1_becomePlan_53 : decode cX1_becomePlan 53 = .ok (.return_, 1) := by decide +kernel
theorem dX1_row_0 : decode cX1_row 0 = .ok (.iload_n 1, 1) := by decide +kernel
theorem dX1_row_1 : decode cX1_row 1 = .ok (.lookupswitch 37 #[(0, 27), (1, 32)], 27) := by decide +kernel
theorem dX1_row_28 : decode cX1_row 28 = .ok (.aload_n 0, 1) := by decide +kernel
theorem dX1_row_29 : decode cX1_row 29 = .ok (.getfield 9, 3) := by decide +kernel
theorem dX1_row_32 : decode cX1_row 32 = .ok (.areturn, 1) := by decide +kernel
theorem dX1_row_33 : decode cX1_row 33 = .ok (.aload_n 0, 1) := by decide +kernel
theorem dX1_row_34 : decode cX1_row 34 = .ok (.getfield 15, 3) := by decide +kernel
theorem dX1_row_37 : decode cX1_row 37 = .ok (.areturn, 1) := by decide +kernel
theorem dX1_row_38 : decode cX1_row 38 = .ok (.aload_n 0, 1) := by decide +kernel
theorem dX1_row_39 : decode cX1_row 39 = .ok (.getfield 18, 3) := by decide +kernel
theorem dX1_row_42 : decode cX1_row 42 = .ok (.areturn, 1) := by decide +kernel
theorem dX1_isFull_0 : decode cX1_isFull 0 = .ok (.aload_n 0, 1) := by decide +kernel
theorem dX1_isFull_1 : decode cX1_isFull 1 = .ok (.getfield 21, 3) := by decide +kernel
theorem dX1_isFull_4 : decode cX1_isFull 4 = .ok (.bipush 10, 2) := by decide +kernel
theorem dX1_isFull_6 : decode cX1_isFull 6 = .ok (.if_icmp .lt 7, 3) := by decide +kernel
theorem dX1_isFull_9 : decode cX1_isFull 9 = .ok (.iconst 1, 1) := by decide +kernel
theorem dX1_isFull_10 : decode cX1_isFull 10 = .ok (.goto 4, 3) := by decide +kernel
theorem dX1_isFull_13 : decode cX1_isFull 13 = .ok (.iconst 0, 1) := by decide +kernel
theorem dX1_isFull_14 : decode cX1_isFull 14 = .ok (.ireturn, 1) := by decide +kernel
theorem dX1_add_0 : decode cX1_add 0 = .ok (.aload_n 0, 1) := by decide +kernel
theorem dX1_add_1 : decode cX1_add 1 = .ok (.getfield 21, 3) := by decide +kernel
theorem dX1_add_4 : decode cX1_add 4 = .ok (.istore 4, 2) := by decide +kernel
theorem dX1_add_6 : decode cX1_add 6 = .ok (.aload_n 0, 1) := by decide +kernel
theorem dX1_add_7 : decode cX1_add 7 = .ok (.getfield 9, 3) := by decide +kernel
theorem dX1_add_10 : decode cX1_add 10 = .ok (.iload 4, 2) := by decide +kernel
theorem dX1_add_12 : decode cX1_add 12 = .ok (.iload_n 1, 1) := by decide +kernel
theorem dX1_add_13 : decode cX1_add 13 = .ok (.iastore, 1) := by decide +kernel
theorem dX1_add_14 : decode cX1_add 14 = .ok (.aload_n 0, 1) := by decide +kernel
theorem dX1_add_15 : decode cX1_add 15 = .ok (.getfield 15, 3) := by decide +kernel
theorem dX1_add_18 : decode cX1_add 18 = .ok (.iload 4, 2) := by decide +kernel
theorem dX1_add_20 : decode cX1_add 20 = .ok (.iload_n 2, 1) := by decide +kernel
theorem dX1_add_21 : decode cX1_add 21 = .ok (.iastore, 1) := by decide +kernel
theorem dX1_add_22 : decode cX1_add 22 = .ok (.aload_n 0, 1) := by decide +kernel
theorem dX1_add_23 : decode cX1_add 23 = .ok (.getfield 18, 3) := by decide +kernel
theorem dX1_add_26 : decode cX1_add 26 = .ok (.iload 4, 2) := by decide +kernel
theorem dX1_add_28 : decode cX1_add 28 = .ok (.iload_n 3, 1) := by decide +kernel
theorem dX1_add_29 : decode cX1_add 29 = .ok (.iastore, 1) := by decide +kernel
theorem dX1_add_30 : decode cX1_add 30 = .ok (.aload_n 0, 1) := by decide +kernel
theorem dX1_add_31 : decode cX1_add 31 = .ok (.dup, 1) := by decide +kernel
theorem dX1_add_32 : decode cX1_add 32 = .ok (.getfield 21, 3) := by decide +kernel
theorem dX1_add_35 : decode cX1_add 35 = .ok (.iconst 1, 1) := by decide +kernel
theorem dX1_add_36 : decode cX1_add 36 = .ok (.iadd, 1) := by decide +kernel
theorem dX1_add_37 : decode cX1_add 37 = .ok (.putfield 21, 3) := by decide +kernel
theorem dX1_add_40 : decode cX1_add 40 = .ok (.iload 4, 2) := by decide +kernel
theorem dX1_add_42 : decode cX1_add 42 = .ok (.ireturn, 1) := by decide +kernel
theorem dX1_exchange_0 : decode cX1_exchange 0 = .ok (.aload_n 0, 1) := by decide +kernel
theorem dX1_exchange_1 : decode cX1_exchange 1 = .ok (.getfield 9, 3) := by decide +kernel
theorem dX1_exchange_4 : decode cX1_exchange 4 = .ok (.iload_n 1, 1) := by decide +kernel
theorem dX1_exchange_5 : decode cX1_exchange 5 = .ok (.iload_n 2, 1) := by decide +kernel
theorem dX1_exchange_6 : decode cX1_exchange 6 = .ok (.invokestatic 31, 3) := by decide +kernel
theorem dX1_exchange_9 : decode cX1_exchange 9 = .ok (.aload_n 0, 1) := by decide +kernel
theorem dX1_exchange_10 : decode cX1_exchange 10 = .ok (.getfield 15, 3) := by decide +kernel
theorem dX1_exchange_13 : decode cX1_exchange 13 = .ok (.iload_n 1, 1) := by decide +kernel
theorem dX1_exchange_14 : decode cX1_exchange 14 = .ok (.iload_n 2, 1) := by decide +kernel
theorem dX1_exchange_15 : decode cX1_exchange 15 = .ok (.invokestatic 31, 3) := by decide +kernel
theorem dX1_exchange_18 : decode cX1_exchange 18 = .ok (.aload_n 0, 1) := by decide +kernel
theorem dX1_exchange_19 : decode cX1_exchange 19 = .ok (.getfield 18, 3) := by decide +kernel
theorem dX1_exchange_22 : decode cX1_exchange 22 = .ok (.iload_n 1, 1) := by decide +kernel
theorem dX1_exchange_23 : decode cX1_exchange 23 = .ok (.iload_n 2, 1) := by decide +kernel
theorem dX1_exchange_24 : decode cX1_exchange 24 = .ok (.invokestatic 31, 3) := by decide +kernel
theorem dX1_exchange_27 : decode cX1_exchange 27 = .ok (.return_, 1) := by decide +kernel
theorem dX1_exchangeIn_0 : decode cX1_exchangeIn 0 = .ok (.aload_n 0, 1) := by decide +kernel
theorem dX1_exchangeIn_1 : decode cX1_exchangeIn 1 = .ok (.iload_n 1, 1) := by decide +kernel
theorem dX1_exchangeIn_2 : decode cX1_exchangeIn 2 = .ok (.iaload, 1) := by decide +kernel
theorem dX1_exchangeIn_3 : decode cX1_exchangeIn 3 = .ok (.istore_n 3, 1) := by decide +kernel
theorem dX1_exchangeIn_4 : decode cX1_exchangeIn 4 = .ok (.aload_n 0, 1) := by decide +kernel
theorem dX1_exchangeIn_5 : decode cX1_exchangeIn 5 = .ok (.iload_n 1, 1) := by decide +kernel
theorem dX1_exchangeIn_6 : decode cX1_exchangeIn 6 = .ok (.aload_n 0, 1) := by decide +kernel
theorem dX1_exchangeIn_7 : decode cX1_exchangeIn 7 = .ok (.iload_n 2, 1) := by decide +kernel
theorem dX1_exchangeIn_8 : decode cX1_exchangeIn 8 = .ok (.iaload, 1) := by decide +kernel
theorem dX1_exchangeIn_9 : decode cX1_exchangeIn 9 = .ok (.iastore, 1) := by decide +kernel
theorem dX1_exchangeIn_10 : decode cX1_exchangeIn 10 = .ok (.aload_n 0, 1) := by decide +kernel
theorem dX1_exchangeIn_11 : decode cX1_exchangeIn 11 = .ok (.iload_n 2, 1) := by decide +kernel
theorem dX1_exchangeIn_12 : decode cX1_exchangeIn 12 = .ok (.iload_n 3, 1) := by decide +kernel
theorem dX1_exchangeIn_13 : decode cX1_exchangeIn 13 = .ok (.iastore, 1) := by decide +kernel
theorem dX1_exchangeIn_14 : decode cX1_exchangeIn 14 = .ok (.return_, 1) := by decide +kernel
theorem dX1_keepOnly_0 : decode cX1_keepOnly 0 = .ok (.aload_n 0, 1) := by decide +kernel
theorem dX1_keepOnly_1 : decode cX1_keepOnly 1 = .ok (.iconst 0, 1) := by decide +kernel
theorem dX1_keepOnly_2 : decode cX1_keepOnly 2 = .ok (.iload_n 1, 1) := by decide +kernel
theorem dX1_keepOnly_3 : decode cX1_keepOnly 3 = .ok (.invokevirtual 35, 3) := by decide +kernel
theorem dX1_keepOnly_6 : decode cX1_keepOnly 6 = .ok (.aload_n 0, 1) := by decide +kernel
theorem dX1_keepOnly_7 : decode cX1_keepOnly 7 = .ok (.iconst 1, 1) := by decide +kernel
theorem dX1_keepOnly_8 : decode cX1_keepOnly 8 = .ok (.putfield 21, 3) := by decide +kernel
theorem dX1_keepOnly_11 : decode cX1_keepOnly 11 = .ok (.return_, 1) := by decide +kernel
theorem dX1_pressThePaid_0 : decode cX1_pressThePaid 0 = .ok (.iconst 0, 1) := by decide +kernel
theorem dX1_pressThePaid_1 : decode cX1_pressThePaid 1 = .ok (.istore_n 1, 1) := by decide +kernel
theorem dX1_pressThePaid_2 : decode cX1_pressThePaid 2 = .ok (.iload_n 1, 1) := by decide +kernel
theorem dX1_pressThePaid_3 : decode cX1_pressThePaid 3 = .ok (.aload_n 0, 1) := by decide +kernel
theorem dX1_pressThePaid_4 : decode cX1_pressThePaid 4 = .ok (.getfield 21, 3) := by decide +kernel
theorem dX1_pressThePaid_7 : decode cX1_pressThePaid 7 = .ok (.if_icmp .ge 26, 3) := by decide +kernel
theorem dX1_pressThePaid_10 : decode cX1_pressThePaid 10 = .ok (.aload_n 0, 1) := by decide +kernel
theorem dX1_pressThePaid_11 : decode cX1_pressThePaid 11 = .ok (.getfield 9, 3) := by decide +kernel
theorem dX1_pressThePaid_14 : decode cX1_pressThePaid 14 = .ok (.iload_n 1, 1) := by decide +kernel
theorem dX1_pressThePaid_15 : decode cX1_pressThePaid 15 = .ok (.iaload, 1) := by decide +kernel
theorem dX1_pressThePaid_16 : decode cX1_pressThePaid 16 = .ok (.iconst 3, 1) := by decide +kernel
theorem dX1_pressThePaid_17 : decode cX1_pressThePaid 17 = .ok (.if_icmp .ne 10, 3) := by decide +kernel
theorem dX1_pressThePaid_20 : decode cX1_pressThePaid 20 = .ok (.aload_n 0, 1) := by decide +kernel
theorem dX1_pressThePaid_21 : decode cX1_pressThePaid 21 = .ok (.getfield 9, 3) := by decide +kernel
theorem dX1_pressThePaid_24 : decode cX1_pressThePaid 24 = .ok (.iload_n 1, 1) := by decide +kernel
theorem dX1_pressThePaid_25 : decode cX1_pressThePaid 25 = .ok (.iconst 2, 1) := by decide +kernel
theorem dX1_pressThePaid_26 : decode cX1_pressThePaid 26 = .ok (.iastore, 1) := by decide +kernel
theorem dX1_pressThePaid_27 : decode cX1_pressThePaid 27 = .ok (.iinc 1 1, 3) := by decide +kernel
theorem dX1_pressThePaid_30 : decode cX1_pressThePaid 30 = .ok (.goto (-28), 3) := by decide +kernel
theorem dX1_pressThePaid_33 : decode cX1_pressThePaid 33 = .ok (.return_, 1) := by decide +kernel
theorem dX2_init_0 : decode cX2_init 0 = .ok (.aload_n 0, 1) := by decide +kernel
theorem dX2_init_1 : decode cX2_init 1 = .ok (.invokespecial 3, 3) := by decide +kernel
theorem dX2_init_4 : decode cX2_init 4 = .ok (.aload_n 0, 1) := by decide +kernel
theorem dX2_init_5 : decode cX2_init 5 = .ok (.bipush 40, 2) := by decide +kernel
theorem dX2_init_7 : decode cX2_init 7 = .ok (.newarray .int, 2) := by decide +kernel
theorem dX2_init_9 : decode cX2_init 9 = .ok (.putfield 9, 3) := by decide +kernel
theorem dX2_init_12 : decode cX2_init 12 = .ok (.aload_n 0, 1) := by decide +kernel
theorem dX2_init_13 : decode cX2_init 13 = .ok (.iconst 0, 1) := by decide +kernel
theorem dX2_init_14 : decode cX2_init 14 = .ok (.putfield 15, 3) := by decide +kernel
theorem dX2_init_17 : decode cX2_init 17 = .ok (.aload_n 0, 1) := by decide +kernel
theorem dX2_init_18 : decode cX2_init 18 = .ok (.iconst 0, 1) := by decide +kernel
theorem dX2_init_19 : decode cX2_init 19 = .ok (.putfield 19, 3) := by decide +kernel
theorem dX2_init_22 : decode cX2_init 22 = .ok (.return_, 1) := by decide +kernel
theorem dX2_isMissing_0 : decode cX2_isMissing 0 = .ok (.aload_n 0, 1) := by decide +kernel
theorem dX2_isMissing_1 : decode cX2_isMissing 1 = .ok (.getfield 15, 3) := by decide +kernel
theorem dX2_isMissing_4 : decode cX2_isMissing 4 = .ok (.ifCond .ne 7, 3) := by decide +kernel
theorem dX2_isMissing_7 : decode cX2_isMissing 7 = .ok (.iconst 1, 1) := by decide +kernel
theorem dX2_isMissing_8 : decode cX2_isMissing 8 = .ok (.goto 4, 3) := by decide +kernel
theorem dX2_isMissing_11 : decode cX2_isMissing 11 = .ok (.iconst 0, 1) := by decide +kernel
theorem dX2_isMissing_12 : decode cX2_isMissing 12 = .ok (.ireturn, 1) := by decide +kernel
theorem dX2_lay_0 : decode cX2_lay 0 = .ok (.aload_n 0, 1) := by decide +kernel
theorem dX2_lay_1 : decode cX2_lay 1 = .ok (.iload_n 1, 1) := by decide +kernel
theorem dX2_lay_2 : decode cX2_lay 2 = .ok (.putfield 15, 3) := by decide +kernel
theorem dX2_lay_5 : decode cX2_lay 5 = .ok (.aload_n 0, 1) := by decide +kernel
theorem dX2_lay_6 : decode cX2_lay 6 = .ok (.iload_n 1, 1) := by decide +kernel
theorem dX2_lay_7 : decode cX2_lay 7 = .ok (.ifCond .ne 7, 3) := by decide +kernel
theorem dX2_lay_10 : decode cX2_lay 10 = .ok (.iconst 0, 1) := by decide +kernel
theorem dX2_lay_11 : decode cX2_lay 11 = .ok (.goto 4, 3) := by decide +kernel
theorem dX2_lay_14 : decode cX2_lay 14 = .ok (.iload_n 2, 1) := by decide +kernel
theorem dX2_lay_15 : decode cX2_lay 15 = .ok (.putfield 19, 3) := by decide +kernel
theorem dX2_lay_18 : decode cX2_lay 18 = .ok (.aload_n 0, 1) := by decide +kernel
theorem dX2_lay_19 : decode cX2_lay 19 = .ok (.getfield 9, 3) := by decide +kernel
theorem dX2_lay_22 : decode cX2_lay 22 = .ok (.iconst 0, 1) := by decide +kernel
theorem dX2_lay_23 : decode cX2_lay 23 = .ok (.invokestatic 22, 3) := by decide +kernel
theorem dX2_lay_26 : decode cX2_lay 26 = .ok (.return_, 1) := by decide +kernel
theorem dX2_has_0 : decode cX2_has 0 = .ok (.iload_n 1, 1) := by decide +kernel
theorem dX2_has_1 : decode cX2_has 1 = .ok (.ifCond .lt 21, 3) := by decide +kernel
theorem dX2_has_4 : decode cX2_has 4 = .ok (.iload_n 2, 1) := by decide +kernel
theorem dX2_has_5 : decode cX2_has 5 = .ok (.ifCond .lt 17, 3) := by decide +kernel
theorem dX2_has_8 : decode cX2_has 8 = .ok (.iload_n 1, 1) := by decide +kernel
theorem dX2_has_9 : decode cX2_has 9 = .ok (.aload_n 0, 1) := by decide +kernel
theorem dX2_has_10 : decode cX2_has 10 = .ok (.getfield 19, 3) := by decide +kernel
theorem dX2_has_13 : decode cX2_has 13 = .ok (.iload_n 2, 1) := by decide +kernel
theorem dX2_has_14 : decode cX2_has 14 = .ok (.isub, 1) := by decide +kernel
theorem dX2_has_15 : decode cX2_has 15 = .ok (.if_icmp .gt 7, 3) := by decide +kernel
theorem dX2_has_18 : decode cX2_has 18 = .ok (.iconst 1, 1) := by decide +kernel
theorem dX2_has_19 : decode cX2_has 19 = .ok (.goto 4, 3) := by decide +kernel
theorem dX2_has_22 : decode cX2_has 22 = .ok (.iconst 0, 1) := by decide +kernel
theorem dX2_has_23 : decode cX2_has 23 = .ok (.ireturn, 1) := by decide +kernel
theorem dX2_put_0 : decode cX2_put 0 = .ok (.aload_n 0, 1) := by decide +kernel
theorem dX2_put_1 : decode cX2_put 1 = .ok (.getfield 15, 3) := by decide +kernel
theorem dX2_put_4 : decode cX2_put 4 = .ok (.lookupswitch 50 #[(8, 28), (16, 39)], 28) := by decide +kernel
theorem dX2_put_32 : decode cX2_put 32 = .ok (.aload_n 0, 1) := by decide +kernel
theorem dX2_put_33 : decode cX2_put 33 = .ok (.getfield 9, 3) := by decide +kernel
theorem dX2_put_36 : decode cX2_put 36 = .ok (.iload_n 1, 1) := by decide +kernel
theorem dX2_put_37 : decode cX2_put 37 = .ok (.iload_n 2, 1) := by decide +kernel
theorem dX2_put_38 : decode cX2_put 38 = .ok (.i2b, 1) := by decide +kernel
theorem dX2_put_39 : decode cX2_put 39 = .ok (.iastore, 1) := by decide +kernel
theorem dX2_put_40 : decode cX2_put 40 = .ok (.goto 21, 3) := by decide +kernel
theorem dX2_put_43 : decode cX2_put 43 = .ok (.aload_n 0, 1) := by decide +kernel
theorem dX2_put_44 : decode cX2_put 44 = .ok (.getfield 9, 3) := by decide +kernel
theorem dX2_put_47 : decode cX2_put 47 = .ok (.iload_n 1, 1) := by decide +kernel
theorem dX2_put_48 : decode cX2_put 48 = .ok (.iload_n 2, 1) := by decide +kernel
theorem dX2_put_49 : decode cX2_put 49 = .ok (.i2s, 1) := by decide +kernel
theorem dX2_put_50 : decode cX2_put 50 = .ok (.iastore, 1) := by decide +kernel
theorem dX2_put_51 : decode cX2_put 51 = .ok (.goto 10, 3) := by decide +kernel
theorem dX2_put_54 : decode cX2_put 54 = .ok (.aload_n 0, 1) := by decide +kernel
theorem dX2_put_55 : decode cX2_put 55 = .ok (.getfield 9, 3) := by decide +kernel
theorem dX2_put_58 : decode cX2_put 58 = .ok (.iload_n 1, 1) := by decide +kernel
theorem dX2_put_59 : decode cX2_put 59 = .ok (.iload_n 2, 1) := by decide +kernel
theorem dX2_put_60 : decode cX2_put 60 = .ok (.iastore, 1) := by decide +kernel
theorem dX2_put_61 : decode cX2_put 61 = .ok (.return_, 1) := by decide +kernel
theorem dX3_init_0 : decode cX3_init 0 = .ok (.aload_n 0, 1) := by decide +kernel
theorem dX3_init_1 : decode cX3_init 1 = .ok (.invokespecial 3, 3) := by decide +kernel
theorem dX3_init_4 : decode cX3_init 4 = .ok (.aload_n 0, 1) := by decide +kernel
theorem dX3_init_5 : decode cX3_init 5 = .ok (.bipush 120, 2) := by decide +kernel
theorem dX3_init_7 : decode cX3_init 7 = .ok (.newarray .int, 2) := by decide +kernel
theorem dX3_init_9 : decode cX3_init 9 = .ok (.putfield 9, 3) := by decide +kernel
theorem dX3_init_12 : decode cX3_init 12 = .ok (.aload_n 0, 1) := by decide +kernel
theorem dX3_init_13 : decode cX3_init 13 = .ok (.iconst 0, 1) := by decide +kernel
theorem dX3_init_14 : decode cX3_init 14 = .ok (.putfield 15, 3) := by decide +kernel
theorem dX3_init_17 : decode cX3_init 17 = .ok (.aload_n 0, 1) := by decide +kernel
theorem dX3_init_18 : decode cX3_init 18 = .ok (.bipush 121, 2) := by decide +kernel
theorem dX3_init_20 : decode cX3_init 20 = .ok (.newarray .int, 2) := by decide +kernel
theorem dX3_init_22 : decode cX3_init 22 = .ok (.putfield 19, 3) := by decide +kernel
theorem dX3_init_25 : decode cX3_init 25 = .ok (.aload_n 0, 1) := by decide +kernel
theorem dX3_init_26 : decode cX3_init 26 = .ok (.bipush 121, 2) := by decide +kernel
theorem dX3_init_28 : decode cX3_init 28 = .ok (.newarray .int, 2) := by decide +kernel
theorem dX3_init_30 : decode cX3_init 30 = .ok (.putfield 22, 3) := by decide +kernel
theorem dX3_init_33 : decode cX3_init 33 = .ok (.aload_n 0, 1) := by decide +kernel
theorem dX3_init_34 : decode cX3_init 34 = .ok (.bipush 121, 2) := by decide +kernel
theorem dX3_init_36 : decode cX3_init 36 = .ok (.newarray .int, 2) := by decide +kernel
theorem dX3_init_38 : decode cX3_init 38 = .ok (.putfield 25, 3) := by decide +kernel
theorem dX3_init_41 : decode cX3_init 41 = .ok (.aload_n 0, 1) := by decide +kernel
theorem dX3_init_42 : decode cX3_init 42 = .ok (.bipush 121, 2) := by decide +kernel
theorem dX3_init_44 : decode cX3_init 44 = .ok (.newarray .int, 2) := by decide +kernel
theorem dX3_init_46 : decode cX3_init 46 = .ok (.putfield 28, 3) := by decide +kernel
theorem dX3_init_49 : decode cX3_init 49 = .ok (.aload_n 0, 1) := by decide +kernel
theorem dX3_init_50 : decode cX3_init 50 = .ok (.iconst 0, 1) := by decide +kernel
theorem dX3_init_51 : decode cX3_init 51 = .ok (.putfield 31, 3) := by decide +kernel
theorem dX3_init_54 : decode cX3_init 54 = .ok (.aload_n 0, 1) := by decide +kernel
theorem dX3_init_55 : decode cX3_init 55 = .ok (.iconst 0, 1) := by decide +kernel
theorem dX3_init_56 : decode cX3_init 56 = .ok (.putfield 34, 3) := by decide +kernel
theorem dX3_init_59 : decode cX3_init 59 = .ok (.return_, 1) := by decide +kernel
theorem dX3_add_0 : decode cX3_add 0 = .ok (.aload_n 0, 1) := by decide +kernel
theorem dX3_add_1 : decode cX3_add 1 = .ok (.getfield 15, 3) := by decide +kernel
theorem dX3_add_4 : decode cX3_add 4 = .ok (.bipush 120, 2) := by decide +kernel
theorem dX3_add_6 : decode cX3_add 6 = .ok (.if_icmp .ge 23, 3) := by decide +kernel
theorem dX3_add_9 : decode cX3_add 9 = .ok (.aload_n 0, 1) := by decide +kernel
theorem dX3_add_10 : decode cX3_add 10 = .ok (.getfield 9, 3) := by decide +kernel
theorem dX3_add_13 : decode cX3_add 13 = .ok (.aload_n 0, 1) := by decide +kernel
theorem dX3_add_14 : decode cX3_add 14 = .ok (.getfield 15, 3) := by decide +kernel
theorem dX3_add_17 : decode cX3_add 17 = .ok (.iload_n 1, 1) := by decide +kernel
theorem dX3_add_18 : decode cX3_add 18 = .ok (.iastore, 1) := by decide +kernel
theorem dX3_add_19 : decode cX3_add 19 = .ok (.aload_n 0, 1) := by decide +kernel
theorem dX3_add_20 : decode cX3_add 20 = .ok (.dup, 1) := by decide +kernel
theorem dX3_add_21 : decode cX3_add 21 = .ok (.getfield 15, 3) := by decide +kernel
theorem dX3_add_24 : decode cX3_add 24 = .ok (.iconst 1, 1) := by decide +kernel
theorem dX3_add_25 : decode cX3_add 25 = .ok (.iadd, 1) := by decide +kernel
theorem dX3_add_26 : decode cX3_add 26 = .ok (.putfield 15, 3) := by decide +kernel
theorem dX3_add_29 : decode cX3_add 29 = .ok (.return_, 1) := by decide +kernel
theorem dX3_cut_0 : decode cX3_cut 0 = .ok (.aload_n 0, 1) := by decide +kernel
theorem dX3_cut_1 : decode cX3_cut 1 = .ok (.iconst 0, 1) := by decide +kernel
theorem dX3_cut_2 : decode cX3_cut 2 = .ok (.putfield 31, 3) := by decide +kernel
theorem dX3_cut_5 : decode cX3_cut 5 = .ok (.aload_n 0, 1) := by decide +kernel
theorem dX3_cut_6 : decode cX3_cut 6 = .ok (.iconst 0, 1) := by decide +kernel
theorem dX3_cut_7 : decode cX3_cut 7 = .ok (.putfield 34, 3) := by decide +kernel
theorem dX3_cut_10 : decode cX3_cut 10 = .ok (.iconst 0, 1) := by decide +kernel
theorem dX3_cut_11 : decode cX3_cut 11 = .ok (.istore_n 1, 1) := by decide +kernel
theorem dX3_cut_12 : decode cX3_cut 12 = .ok (.iconst 0, 1) := by decide +kernel
theorem dX3_cut_13 : decode cX3_cut 13 = .ok (.istore_n 2, 1) := by decide +kernel
theorem dX3_cut_14 : decode cX3_cut 14 = .ok (.iload_n 2, 1) := by decide +kernel
theorem dX3_cut_15 : decode cX3_cut 15 = .ok (.aload_n 0, 1) := by decide +kernel
theorem dX3_cut_16 : decode cX3_cut 16 = .ok (.getfield 15, 3) := by decide +kernel
theorem dX3_cut_19 : decode cX3_cut 19 = .ok (.if_icmp .ge 67, 3) := by decide +kernel
theorem dX3_cut_22 : decode cX3_cut 22 = .ok (.aload_n 0, 1) := by decide +kernel
theorem dX3_cut_23 : decode cX3_cut 23 = .ok (.getfield 9, 3) := by decide +kernel
theorem dX3_cut_26 : decode cX3_cut 26 = .ok (.iload_n 2, 1) := by decide +kernel
theorem dX3_cut_27 : decode cX3_cut 27 = .ok (.iaload, 1) := by decide +kernel
theorem dX3_cut_28 : decode cX3_cut 28 = .ok (.invokestatic 37, 3) := by decide +kernel
theorem dX3_cut_31 : decode cX3_cut 31 = .ok (.istore_n 3, 1) := by decide +kernel
theorem dX3_cut_32 : decode cX3_cut 32 = .ok (.iload_n 3, 1) := by decide +kernel
theorem dX3_cut_33 : decode cX3_cut 33 = .ok (.iload_n 1, 1) := by decide +kernel
theorem dX3_cut_34 : decode cX3_cut 34 = .ok (.if_icmp .ne 17, 3) := by decide +kernel
theorem dX3_cut_37 : decode cX3_cut 37 = .ok (.iload_n 3, 1) := by decide +kernel
theorem dX3_cut_38 : decode cX3_cut 38 = .ok (.iconst 1, 1) := by decide +kernel
theorem dX3_cut_39 : decode cX3_cut 39 = .ok (.if_icmp .eq 8, 3) := by decide +kernel
theorem dX3_cut_42 : decode cX3_cut 42 = .ok (.iload_n 3, 1) := by decide +kernel
theorem dX3_cut_43 : decode cX3_cut 43 = .ok (.iconst 2, 1) := by decide +kernel
theorem dX3_cut_44 : decode cX3_cut 44 = .ok (.if_icmp .ne 7, 3) := by decide +kernel
theorem dX3_cut_47 : decode cX3_cut 47 = .ok (.iconst 1, 1) := by decide +kernel
theorem dX3_cut_48 : decode cX3_cut 48 = .ok (.goto 4, 3) := by decide +kernel
theorem dX3_cut_51 : decode cX3_cut 51 = .ok (.iconst 0, 1) := by decide +kernel
theorem dX3_cut_52 : decode cX3_cut 52 = .ok (.istore 4, 2) := by decide +kernel
theorem dX3_cut_54 : decode cX3_cut 54 = .ok (.iload 4, 2) := by decide +kernel
theorem dX3_cut_56 : decode cX3_cut 56 = .ok (.ifCond .ne 13, 3) := by decide +kernel
theorem dX3_cut_59 : decode cX3_cut 59 = .ok (.iload_n 3, 1) := by decide +kernel
theorem dX3_cut_60 : decode cX3_cut 60 = .ok (.ifCond .eq 9, 3) := by decide +kernel
theorem dX3_cut_63 : decode cX3_cut 63 = .ok (.aload_n 0, 1) := by decide +kernel
theorem dX3_cut_64 : decode cX3_cut 64 = .ok (.iload_n 3, 1) := by decide +kernel
theorem dX3_cut_65 : decode cX3_cut 65 = .ok (.iload_n 2, 1) := by decide +kernel
theorem dX3_cut_66 : decode cX3_cut 66 = .ok (.invokevirtual 41, 3) := by decide +kernel
theorem dX3_cut_69 : decode cX3_cut 69 = .ok (.iload_n 3, 1) := by decide +kernel
theorem dX3_cut_70 : decode cX3_cut 70 = .ok (.ifCond .eq 8, 3) := by decide +kernel
theorem dX3_cut_73 : decode cX3_cut 73 = .ok (.aload_n 0, 1) := by decide +kernel
theorem dX3_cut_74 : decode cX3_cut 74 = .ok (.iload_n 2, 1) := by decide +kernel
theorem dX3_cut_75 : decode cX3_cut 75 = .ok (.invokevirtual 45, 3) := by decide +kernel
theorem dX3_cut_78 : decode cX3_cut 78 = .ok (.iload_n 3, 1) := by decide +kernel
theorem dX3_cut_79 : decode cX3_cut 79 = .ok (.istore_n 1, 1) := by decide +kernel
theorem dX3_cut_80 : decode cX3_cut 80 = .ok (.iinc 2 1, 3) := by decide +kernel
theorem dX3_cut_83 : decode cX3_cut 83 = .ok (.goto (-69), 3) := by decide +kernel
theorem dX3_cut_86 : decode cX3_cut 86 = .ok (.aload_n 0, 1) := by decide +kernel
theorem dX3_cut_87 : decode cX3_cut 87 = .ok (.iconst 5, 1) := by decide +kernel
theorem dX3_cut_88 : decode cX3_cut 88 = .ok (.aload_n 0, 1) := by decide +kernel
theorem dX3_cut_89 : decode cX3_cut 89 = .ok (.getfield 15, 3) := by decide +kernel
theorem dX3_cut_92 : decode cX3_cut 92 = .ok (.invokevirtual 41, 3) := by decide +kernel
theorem dX3_cut_95 : decode cX3_cut 95 = .ok (.return_, 1) := by decide +kernel
theorem dX3_kindOf_0 : decode cX3_kindOf 0 = .ok (.iload_n 0, 1) := by decide +kernel
theorem dX3_kindOf_1 : decode cX3_kindOf 1 = .ok (.bipush 97, 2) := by decide +kernel
theorem dX3_kindOf_3 : decode cX3_kindOf 3 = .ok (.bipush 122, 2) := by decide +kernel
theorem dX3_kindOf_5 : decode cX3_kindOf 5 = .ok (.invokestatic 49, 3) := by decide +kernel
theorem dX3_kindOf_8 : decode cX3_kindOf 8 = .ok (.ifCond .eq 5, 3) := by decide +kernel
theorem dX3_kindOf_11 : decode cX3_kindOf 11 = .ok (.iconst 1, 1) := by decide +kernel
theorem dX3_kindOf_12 : decode cX3_kindOf 12 = .ok (.ireturn, 1) := by decide +kernel
theorem dX3_kindOf_13 : decode cX3_kindOf 13 = .ok (.iload_n 0, 1) := by decide +kernel
theorem dX3_kindOf_14 : decode cX3_kindOf 14 = .ok (.bipush 48, 2) := by decide +kernel
theorem dX3_kindOf_16 : decode cX3_kindOf 16 = .ok (.bipush 57, 2) := by decide +kernel
theorem dX3_kindOf_18 : decode cX3_kindOf 18 = .ok (.invokestatic 49, 3) := by decide +kernel
theorem dX3_kindOf_21 : decode cX3_kindOf 21 = .ok (.ifCond .eq 5, 3) := by decide +kernel
theorem dX3_kindOf_24 : decode cX3_kindOf 24 = .ok (.iconst 2, 1) := by decide +kernel
theorem dX3_kindOf_25 : decode cX3_kindOf 25 = .ok (.ireturn, 1) := by decide +kernel
theorem dX3_kindOf_26 : decode cX3_kindOf 26 = .ok (.iload_n 0, 1) := by decide +kernel
theorem dX3_kindOf_27 : decode cX3_kindOf 27 = .ok (.bipush 59, 2) := by decide +kernel
theorem dX3_kindOf_29 : decode cX3_kindOf 29 = .ok (.if_icmp .ne 5, 3) := by decide +kernel
theorem dX3_kindOf_32 : decode cX3_kindOf 32 = .ok (.iconst 3, 1) := by decide +kernel
theorem dX3_kindOf_33 : decode cX3_kindOf 33 = .ok (.ireturn, 1) := by decide +kernel
theorem dX3_kindOf_34 : decode cX3_kindOf 34 = .ok (.iload_n 0, 1) := by decide +kernel
theorem dX3_kindOf_35 : decode cX3_kindOf 35 = .ok (.bipush 32, 2) := by decide +kernel
theorem dX3_kindOf_37 : decode cX3_kindOf 37 = .ok (.if_icmp .ne 7, 3) := by decide +kernel
theorem dX3_kindOf_40 : decode cX3_kindOf 40 = .ok (.iconst 0, 1) := by decide +kernel
theorem dX3_kindOf_41 : decode cX3_kindOf 41 = .ok (.goto 4, 3) := by decide +kernel
theorem dX3_kindOf_44 : decode cX3_kindOf 44 = .ok (.iconst 4, 1) := by decide +kernel
theorem dX3_kindOf_45 : decode cX3_kindOf 45 = .ok (.ireturn, 1) := by decide +kernel
theorem dX3_begin_0 : decode cX3_begin 0 = .ok (.aload_n 0, 1) := by decide +kernel
theorem dX3_begin_1 : decode cX3_begin 1 = .ok (.getfield 31, 3) := by decide +kernel
theorem dX3_begin_4 : decode cX3_begin 4 = .ok (.bipush 120, 2) := by decide +kernel
theorem dX3_begin_6 : decode cX3_begin 6 = .ok (.if_icmp .gt 53, 3) := by decide +kernel
theorem dX3_begin_9 : decode cX3_begin 9 = .ok (.aload_n 0, 1) := by decide +kernel
theorem dX3_begin_10 : decode cX3_begin 10 = .ok (.getfield 19, 3) := by decide +kernel
theorem dX3_begin_13 : decode cX3_begin 13 = .ok (.aload_n 0, 1) := by decide +kernel
theorem dX3_begin_14 : decode cX3_begin 14 = .ok (.getfield 31, 3) := by decide +kernel
theorem dX3_begin_17 : decode cX3_begin 17 = .ok (.iload_n 1, 1) := by decide +kernel
theorem dX3_begin_18 : decode cX3_begin 18 = .ok (.iastore, 1) := by decide +kernel
theorem dX3_begin_19 : decode cX3_begin 19 = .ok (.aload_n 0, 1) := by decide +kernel
theorem dX3_begin_20 : decode cX3_begin 20 = .ok (.getfield 22, 3) := by decide +kernel
theorem dX3_begin_23 : decode cX3_begin 23 = .ok (.aload_n 0, 1) := by decide +kernel
theorem dX3_begin_24 : decode cX3_begin 24 = .ok (.getfield 31, 3) := by decide +kernel
theorem dX3_begin_27 : decode cX3_begin 27 = .ok (.iload_n 2, 1) := by decide +kernel
theorem dX3_begin_28 : decode cX3_begin 28 = .ok (.iastore, 1) := by decide +kernel
theorem dX3_begin_29 : decode cX3_begin 29 = .ok (.aload_n 0, 1) := by decide +kernel
theorem dX3_begin_30 : decode cX3_begin 30 = .ok (.getfield 25, 3) := by decide +kernel
theorem dX3_begin_33 : decode cX3_begin 33 = .ok (.aload_n 0, 1) := by decide +kernel
theorem dX3_begin_34 : decode cX3_begin 34 = .ok (.getfield 31, 3) := by decide +kernel
theorem dX3_begin_37 : decode cX3_begin 37 = .ok (.iconst 0, 1) := by decide +kernel
theorem dX3_begin_38 : decode cX3_begin 38 = .ok (.iastore, 1) := by decide +kernel
theorem dX3_begin_39 : decode cX3_begin 39 = .ok (.aload_n 0, 1) := by decide +kernel
theorem dX3_begin_40 : decode cX3_begin 40 = .ok (.getfield 28, 3) := by decide +kernel
theorem dX3_begin_43 : decode cX3_begin 43 = .ok (.aload_n 0, 1) := by decide +kernel
theorem dX3_begin_44 : decode cX3_begin 44 = .ok (.getfield 31, 3) := by decide +kernel
theorem dX3_begin_47 : decode cX3_begin 47 = .ok (.iconst 0, 1) := by decide +kernel
theorem dX3_begin_48 : decode cX3_begin 48 = .ok (.iastore, 1) := by decide +kernel
theorem dX3_begin_49 : decode cX3_begin 49 = .ok (.aload_n 0, 1) := by decide +kernel
theorem dX3_begin_50 : decode cX3_begin 50 = .ok (.dup, 1) := by decide +kernel
theorem dX3_begin_51 : decode cX3_begin 51 = .ok (.getfield 31, 3) := by decide +kernel
theorem dX3_begin_54 : decode cX3_begin 54 = .ok (.iconst 1, 1) := by decide +kernel
theorem dX3_begin_55 : decode cX3_begin 55 = .ok (.iadd, 1) := by decide +kernel
theorem dX3_begin_56 : decode cX3_begin 56 = .ok (.putfield 31, 3) := by decide +kernel
theorem dX3_begin_59 : decode cX3_begin 59 = .ok (.return_, 1) := by decide +kernel
theorem dX3_lengthen_0 : decode cX3_lengthen 0 = .ok (.aload_n 0, 1) := by decide +kernel
theorem dX3_lengthen_1 : decode cX3_lengthen 1 = .ok (.getfield 31, 3) := by decide +kernel
theorem dX3_lengthen_4 : decode cX3_lengthen 4 = .ok (.iconst 1, 1) := by decide +kernel
theorem dX3_lengthen_5 : decode cX3_lengthen 5 = .ok (.isub, 1) := by decide +kernel
theorem dX3_lengthen_6 : decode cX3_lengthen 6 = .ok (.istore_n 2, 1) := by decide +kernel
theorem dX3_lengthen_7 : decode cX3_lengthen 7 = .ok (.iload_n 2, 1) := by decide +kernel
theorem dX3_lengthen_8 : decode cX3_lengthen 8 = .ok (.ifCond .lt 54, 3) := by decide +kernel
theorem dX3_lengthen_11 : decode cX3_lengthen 11 = .ok (.aload_n 0, 1) := by decide +kernel
theorem dX3_lengthen_12 : decode cX3_lengthen 12 = .ok (.getfield 25, 3) := by decide +kernel
theorem dX3_lengthen_15 : decode cX3_lengthen 15 = .ok (.iload_n 2, 1) := by decide +kernel
theorem dX3_lengthen_16 : decode cX3_lengthen 16 = .ok (.dup2, 1) := by decide +kernel
theorem dX3_lengthen_17 : decode cX3_lengthen 17 = .ok (.iaload, 1) := by decide +kernel
theorem dX3_lengthen_18 : decode cX3_lengthen 18 = .ok (.iconst 1, 1) := by decide +kernel
theorem dX3_lengthen_19 : decode cX3_lengthen 19 = .ok (.iadd, 1) := by decide +kernel
theorem dX3_lengthen_20 : decode cX3_lengthen 20 = .ok (.iastore, 1) := by decide +kernel
theorem dX3_lengthen_21 : decode cX3_lengthen 21 = .ok (.aload_n 0, 1) := by decide +kernel
theorem dX3_lengthen_22 : decode cX3_lengthen 22 = .ok (.getfield 19, 3) := by decide +kernel
theorem dX3_lengthen_25 : decode cX3_lengthen 25 = .ok (.iload_n 2, 1) := by decide +kernel
theorem dX3_lengthen_26 : decode cX3_lengthen 26 = .ok (.iaload, 1) := by decide +kernel
theorem dX3_lengthen_27 : decode cX3_lengthen 27 = .ok (.iconst 2, 1) := by decide +kernel
theorem dX3_lengthen_28 : decode cX3_lengthen 28 = .ok (.if_icmp .ne 34, 3) := by decide +kernel
theorem dX3_lengthen_31 : decode cX3_lengthen 31 = .ok (.aload_n 0, 1) := by decide +kernel
theorem dX3_lengthen_32 : decode cX3_lengthen 32 = .ok (.getfield 28, 3) := by decide +kernel
theorem dX3_lengthen_35 : decode cX3_lengthen 35 = .ok (.iload_n 2, 1) := by decide +kernel
theorem dX3_lengthen_36 : decode cX3_lengthen 36 = .ok (.sipush 10000, 3) := by decide +kernel
theorem dX3_lengthen_39 : decode cX3_lengthen 39 = .ok (.aload_n 0, 1) := by decide +kernel
theorem dX3_lengthen_40 : decode cX3_lengthen 40 = .ok (.getfield 28, 3) := by decide +kernel
theorem dX3_lengthen_43 : decode cX3_lengthen 43 = .ok (.iload_n 2, 1) := by decide +kernel
theorem dX3_lengthen_44 : decode cX3_lengthen 44 = .ok (.iaload, 1) := by decide +kernel
theorem dX3_lengthen_45 : decode cX3_lengthen 45 = .ok (.bipush 10, 2) := by decide +kernel
theorem dX3_lengthen_47 : decode cX3_lengthen 47 = .ok (.imul, 1) := by decide +kernel
theorem dX3_lengthen_48 : decode cX3_lengthen 48 = .ok (.aload_n 0, 1) := by decide +kernel
theorem dX3_lengthen_49 : decode cX3_lengthen 49 = .ok (.getfield 9, 3) := by decide +kernel
theorem dX3_lengthen_52 : decode cX3_lengthen 52 = .ok (.iload_n 1, 1) := by decide +kernel
theorem dX3_lengthen_53 : decode cX3_lengthen 53 = .ok (.iaload, 1) := by decide +kernel
theorem dX3_lengthen_54 : decode cX3_lengthen 54 = .ok (.iadd, 1) := by decide +kernel
theorem dX3_lengthen_55 : decode cX3_lengthen 55 = .ok (.bipush 48, 2) := by decide +kernel
theorem dX3_lengthen_57 : decode cX3_lengthen 57 = .ok (.isub, 1) := by decide +kernel
theorem dX3_lengthen_58 : decode cX3_lengthen 58 = .ok (.invokestatic 53, 3) := by decide +kernel
theorem dX3_lengthen_61 : decode cX3_lengthen 61 = .ok (.iastore, 1) := by decide +kernel
theorem dX3_lengthen_62 : decode cX3_lengthen 62 = .ok (.return_, 1) := by decide +kernel
theorem dX3_place_0 : decode cX3_place 0 = .ok (.aload_n 0, 1) := by decide +kernel
theorem dX3_place_1 : decode cX3_place 1 = .ok (.getfield 22, 3) := by decide +kernel
theorem dX3_place_4 : decode cX3_place 4 = .ok (.aload_n 0, 1) := by decide +kernel
theorem dX3_place_5 : decode cX3_place 5 = .ok (.getfield 34, 3) := by decide +kernel
theorem dX3_place_8 : decode cX3_place 8 = .ok (.iaload, 1) := by decide +kernel
theorem dX3_place_9 : decode cX3_place 9 = .ok (.ireturn, 1) := by decide +kernel
theorem dX3_isAtEnd_0 : decode cX3_isAtEnd 0 = .ok (.aload_n 0, 1) := by decide +kernel
theorem dX3_isAtEnd_1 : decode cX3_isAtEnd 1 = .ok (.getfield 19, 3) := by decide +kernel
theorem dX3_isAtEnd_4 : decode cX3_isAtEnd 4 = .ok (.aload_n 0, 1) := by decide +kernel
theorem dX3_isAtEnd_5 : decode cX3_isAtEnd 5 = .ok (.getfield 34, 3) := by decide +kernel
theorem dX3_isAtEnd_8 : decode cX3_isAtEnd 8 = .ok (.iaload, 1) := by decide +kernel
theorem dX3_isAtEnd_9 : decode cX3_isAtEnd 9 = .ok (.iconst 5, 1) := by decide +kernel
theorem dX3_isAtEnd_10 : decode cX3_isAtEnd 10 = .ok (.if_icmp .ne 7, 3) := by decide +kernel
theorem dX3_isAtEnd_13 : decode cX3_isAtEnd 13 = .ok (.iconst 1, 1) := by decide +kernel
theorem dX3_isAtEnd_14 : decode cX3_isAtEnd 14 = .ok (.goto 4, 3) := by decide +kernel
theorem dX3_isAtEnd_17 : decode cX3_isAtEnd 17 = .ok (.iconst 0, 1) := by decide +kernel
theorem dX3_isAtEnd_18 : decode cX3_isAtEnd 18 = .ok (.ireturn, 1) := by decide +kernel
theorem dX3_isAtNumber_0 : decode cX3_isAtNumber 0 = .ok (.aload_n 0, 1) := by decide +kernel
theorem dX3_isAtNumber_1 : decode cX3_isAtNumber 1 = .ok (.getfield 19, 3) := by decide +kernel
theorem dX3_isAtNumber_4 : decode cX3_isAtNumber 4 = .ok (.aload_n 0, 1) := by decide +kernel
theorem dX3_isAtNumber_5 : decode cX3_isAtNumber 5 = .ok (.getfield 34, 3) := by decide +kernel
theorem dX3_isAtNumber_8 : decode cX3_isAtNumber 8 = .ok (.iaload, 1) := by decide +kernel
theorem dX3_isAtNumber_9 : decode cX3_isAtNumber 9 = .ok (.iconst 2, 1) := by decide +kernel
theorem dX3_isAtNumber_10 : decode cX3_isAtNumber 10 = .ok (.if_icmp .ne 7, 3) := by decide +kernel
theorem dX3_isAtNumber_13 : decode cX3_isAtNumber 13 = .ok (.iconst 1, 1) := by decide +kernel
theorem dX3_isAtNumber_14 : decode cX3_isAtNumber 14 = .ok (.goto 4, 3) := by decide +kernel
theorem dX3_isAtNumber_17 : decode cX3_isAtNumber 17 = .ok (.iconst 0, 1) := by decide +kernel
theorem dX3_isAtNumber_18 : decode cX3_isAtNumber 18 = .ok (.ireturn, 1) := by decide +kernel
theorem dX3_isAtWord_0 : decode cX3_isAtWord 0 = .ok (.aload_n 0, 1) := by decide +kernel
theorem dX3_isAtWord_1 : decode cX3_isAtWord 1 = .ok (.getfield 19, 3) := by decide +kernel
theorem dX3_isAtWord_4 : decode cX3_isAtWord 4 = .ok (.aload_n 0, 1) := by decide +kernel
theorem dX3_isAtWord_5 : decode cX3_isAtWord 5 = .ok (.getfield 34, 3) := by decide +kernel
theorem dX3_isAtWord_8 : decode cX3_isAtWord 8 = .ok (.iaload, 1) := by decide +kernel
theorem dX3_isAtWord_9 : decode cX3_isAtWord 9 = .ok (.iconst 1, 1) := by decide +kernel
theorem dX3_isAtWord_10 : decode cX3_isAtWord 10 = .ok (.if_icmp .ne 19, 3) := by decide +kernel
theorem dX3_isAtWord_13 : decode cX3_isAtWord 13 = .ok (.aload_n 0, 1) := by decide +kernel
theorem dX3_isAtWord_14 : decode cX3_isAtWord 14 = .ok (.getfield 25, 3) := by decide +kernel
theorem dX3_isAtWord_17 : decode cX3_isAtWord 17 = .ok (.aload_n 0, 1) := by decide +kernel
theorem dX3_isAtWord_18 : decode cX3_isAtWord 18 = .ok (.getfield 34, 3) := by decide +kernel
theorem dX3_isAtWord_21 : decode cX3_isAtWord 21 = .ok (.iaload, 1) := by decide +kernel
theorem dX3_isAtWord_22 : decode cX3_isAtWord 22 = .ok (.aload_n 1, 1) := by decide +kernel
theorem dX3_isAtWord_23 : decode cX3_isAtWord 23 = .ok (.invokevirtual 59, 3) := by decide +kernel
theorem dX3_isAtWord_26 : decode cX3_isAtWord 26 = .ok (.if_icmp .eq 5, 3) := by decide +kernel
theorem dX3_isAtWord_29 : decode cX3_isAtWord 29 = .ok (.iconst 0, 1) := by decide +kernel
theorem dX3_isAtWord_30 : decode cX3_isAtWord 30 = .ok (.ireturn, 1) := by decide +kernel
theorem dX3_isAtWord_31 : decode cX3_isAtWord 31 = .ok (.iconst 0, 1) := by decide +kernel
theorem dX3_isAtWord_32 : decode cX3_isAtWord 32 = .ok (.istore_n 2, 1) := by decide +kernel
theorem dX3_isAtWord_33 : decode cX3_isAtWord 33 = .ok (.iload_n 2, 1) := by decide +kernel
theorem dX3_isAtWord_34 : decode cX3_isAtWord 34 = .ok (.aload_n 1, 1) := by decide +kernel
theorem dX3_isAtWord_35 : decode cX3_isAtWord 35 = .ok (.invokevirtual 59, 3) := by decide +kernel
theorem dX3_isAtWord_38 : decode cX3_isAtWord 38 = .ok (.if_icmp .ge 35, 3) := by decide +kernel
theorem dX3_isAtWord_41 : decode cX3_isAtWord 41 = .ok (.aload_n 0, 1) := by decide +kernel
theorem dX3_isAtWord_42 : decode cX3_isAtWord 42 = .ok (.getfield 9, 3) := by decide +kernel
theorem dX3_isAtWord_45 : decode cX3_isAtWord 45 = .ok (.aload_n 0, 1) := by decide +kernel
theorem dX3_isAtWord_46 : decode cX3_isAtWord 46 = .ok (.getfield 22, 3) := by decide +kernel
theorem dX3_isAtWord_49 : decode cX3_isAtWord 49 = .ok (.aload_n 0, 1) := by decide +kernel
theorem dX3_isAtWord_50 : decode cX3_isAtWord 50 = .ok (.getfield 34, 3) := by decide +kernel
theorem dX3_isAtWord_53 : decode cX3_isAtWord 53 = .ok (.iaload, 1) := by decide +kernel
theorem dX3_isAtWord_54 : decode cX3_isAtWord 54 = .ok (.iload_n 2, 1) := by decide +kernel
theorem dX3_isAtWord_55 : decode cX3_isAtWord 55 = .ok (.iadd, 1) := by decide +kernel
theorem dX3_isAtWord_56 : decode cX3_isAtWord 56 = .ok (.iaload, 1) := by decide +kernel
theorem dX3_isAtWord_57 : decode cX3_isAtWord 57 = .ok (.aload_n 1, 1) := by decide +kernel
theorem dX3_isAtWord_58 : decode cX3_isAtWord 58 = .ok (.iload_n 2, 1) := by decide +kernel
theorem dX3_isAtWord_59 : decode cX3_isAtWord 59 = .ok (.invokevirtual 65, 3) := by decide +kernel
theorem dX3_isAtWord_62 : decode cX3_isAtWord 62 = .ok (.if_icmp .eq 5, 3) := by decide +kernel
theorem dX3_isAtWord_65 : decode cX3_isAtWord 65 = .ok (.iconst 0, 1) := by decide +kernel
theorem dX3_isAtWord_66 : decode cX3_isAtWord 66 = .ok (.ireturn, 1) := by decide +kernel
theorem dX3_isAtWord_67 : decode cX3_isAtWord 67 = .ok (.iinc 2 1, 3) := by decide +kernel
theorem dX3_isAtWord_70 : decode cX3_isAtWord 70 = .ok (.goto (-37), 3) := by decide +kernel
theorem dX3_isAtWord_73 : decode cX3_isAtWord 73 = .ok (.iconst 1, 1) := by decide +kernel
theorem dX3_isAtWord_74 : decode cX3_isAtWord 74 = .ok (.ireturn, 1) := by decide +kernel
theorem dX3_step_0 : decode cX3_step 0 = .ok (.aload_n 0, 1) := by decide +kernel
theorem dX3_step_1 : decode cX3_step 1 = .ok (.getfield 19, 3) := by decide +kernel
theorem dX3_step_4 : decode cX3_step 4 = .ok (.aload_n 0, 1) := by decide +kernel
theorem dX3_step_5 : decode cX3_step 5 = .ok (.getfield 34, 3) := by decide +kernel
theorem dX3_step_8 : decode cX3_step 8 = .ok (.iaload, 1) := by decide +kernel
theorem dX3_step_9 : decode cX3_step 9 = .ok (.iconst 5, 1) := by decide +kernel
theorem dX3_step_10 : decode cX3_step 10 = .ok (.if_icmp .eq 13, 3) := by decide +kernel
theorem dX3_step_13 : decode cX3_step 13 = .ok (.aload_n 0, 1) := by decide +kernel
theorem dX3_step_14 : decode cX3_step 14 = .ok (.dup, 1) := by decide +kernel
theorem dX3_step_15 : decode cX3_step 15 = .ok (.getfield 34, 3) := by decide +kernel
theorem dX3_step_18 : decode cX3_step 18 = .ok (.iconst 1, 1) := by decide +kernel
theorem dX3_step_19 : decode cX3_step 19 = .ok (.iadd, 1) := by decide +kernel
theorem dX3_step_20 : decode cX3_step 20 = .ok (.putfield 34, 3) := by decide +kernel
theorem dX3_step_23 : decode cX3_step 23 = .ok (.return_, 1) := by decide +kernel
theorem dX3_takesSign_0 : decode cX3_takesSign 0 = .ok (.aload_n 0, 1) := by decide +kernel
theorem dX3_takesSign_1 : decode cX3_takesSign 1 = .ok (.getfield 19, 3) := by decide +kernel
theorem dX3_takesSign_4 : decode cX3_takesSign 4 = .ok (.aload_n 0, 1) := by decide +kernel
theorem dX3_takesSign_5 : decode cX3_takesSign 5 = .ok (.getfield 34, 3) := by decide +kernel
theorem dX3_takesSign_8 : decode cX3_takesSign 8 = .ok (.iaload, 1) := by decide +kernel
theorem dX3_takesSign_9 : decode cX3_takesSign 9 = .ok (.iconst 3, 1) := by decide +kernel
theorem dX3_takesSign_10 : decode cX3_takesSign 10 = .ok (.if_icmp .ne 7, 3) := by decide +kernel
theorem dX3_takesSign_13 : decode cX3_takesSign 13 = .ok (.iconst 1, 1) := by decide +kernel
theorem dX3_takesSign_14 : decode cX3_takesSign 14 = .ok (.goto 4, 3) := by decide +kernel
theorem dX3_takesSign_17 : decode cX3_takesSign 17 = .ok (.iconst 0, 1) := by decide +kernel
theorem dX3_takesSign_18 : decode cX3_takesSign 18 = .ok (.istore_n 1, 1) := by decide +kernel
theorem dX3_takesSign_19 : decode cX3_takesSign 19 = .ok (.iload_n 1, 1) := by decide +kernel
theorem dX3_takesSign_20 : decode cX3_takesSign 20 = .ok (.ifCond .eq 7, 3) := by decide +kernel
theorem dX3_takesSign_23 : decode cX3_takesSign 23 = .ok (.aload_n 0, 1) := by decide +kernel
theorem dX3_takesSign_24 : decode cX3_takesSign 24 = .ok (.invokevirtual 69, 3) := by decide +kernel
theorem dX3_takesSign_27 : decode cX3_takesSign 27 = .ok (.iload_n 1, 1) := by decide +kernel
theorem dX3_takesSign_28 : decode cX3_takesSign 28 = .ok (.ireturn, 1) := by decide +kernel
theorem dX3_takenNumber_0 : decode cX3_takenNumber 0 = .ok (.aload_n 0, 1) := by decide +kernel
theorem dX3_takenNumber_1 : decode cX3_takenNumber 1 = .ok (.getfield 19, 3) := by decide +kernel
theorem dX3_takenNumber_4 : decode cX3_takenNumber 4 = .ok (.aload_n 0, 1) := by decide +kernel
theorem dX3_takenNumber_5 : decode cX3_takenNumber 5 = .ok (.getfield 34, 3) := by decide +kernel
theorem dX3_takenNumber_8 : decode cX3_takenNumber 8 = .ok (.iaload, 1) := by decide +kernel
theorem dX3_takenNumber_9 : decode cX3_takenNumber 9 = .ok (.iconst 2, 1) := by decide +kernel
theorem dX3_takenNumber_10 : decode cX3_takenNumber 10 = .ok (.if_icmp .ne 20, 3) := by decide +kernel
theorem dX3_takenNumber_13 : decode cX3_takenNumber 13 = .ok (.aload_n 0, 1) := by decide +kernel
theorem dX3_takenNumber_14 : decode cX3_takenNumber 14 = .ok (.getfield 28, 3) := by decide +kernel
theorem dX3_takenNumber_17 : decode cX3_takenNumber 17 = .ok (.aload_n 0, 1) := by decide +kernel
theorem dX3_takenNumber_18 : decode cX3_takenNumber 18 = .ok (.getfield 34, 3) := by decide +kernel
theorem dX3_takenNumber_21 : decode cX3_takenNumber 21 = .ok (.iaload, 1) := by decide +kernel
theorem dX3_takenNumber_22 : decode cX3_takenNumber 22 = .ok (.iload_n 1, 1) := by decide +kernel
theorem dX3_takenNumber_23 : decode cX3_takenNumber 23 = .ok (.iload_n 2, 1) := by decide +kernel
theorem dX3_takenNumber_24 : decode cX3_takenNumber 24 = .ok (.invokestatic 49, 3) := by decide +kernel
theorem dX3_takenNumber_27 : decode cX3_takenNumber 27 = .ok (.ifCond .ne 5, 3) := by decide +kernel
theorem dX3_takenNumber_30 : decode cX3_takenNumber 30 = .ok (.iconst (-1), 1) := by decide +kernel
theorem dX3_takenNumber_31 : decode cX3_takenNumber 31 = .ok (.ireturn, 1) := by decide +kernel
theorem dX3_takenNumber_32 : decode cX3_takenNumber 32 = .ok (.aload_n 0, 1) := by decide +kernel
theorem dX3_takenNumber_33 : decode cX3_takenNumber 33 = .ok (.getfield 28, 3) := by decide +kernel
theorem dX3_takenNumber_36 : decode cX3_takenNumber 36 = .ok (.aload_n 0, 1) := by decide +kernel
theorem dX3_takenNumber_37 : decode cX3_takenNumber 37 = .ok (.getfield 34, 3) := by decide +kernel
theorem dX3_takenNumber_40 : decode cX3_takenNumber 40 = .ok (.iaload, 1) := by decide +kernel
theorem dX3_takenNumber_41 : decode cX3_takenNumber 41 = .ok (.istore_n 3, 1) := by decide +kernel
theorem dX3_takenNumber_42 : decode cX3_takenNumber 42 = .ok (.aload_n 0, 1) := by decide +kernel
theorem dX3_takenNumber_43 : decode cX3_takenNumber 43 = .ok (.invokevirtual 69, 3) := by decide +kernel
theorem dX3_takenNumber_46 : decode cX3_takenNumber 46 = .ok (.iload_n 3, 1) := by decide +kernel
theorem dX3_takenNumber_47 : decode cX3_takenNumber 47 = .ok (.ireturn, 1) := by decide +kernel
theorem dX3_takenNumberBehindWord_0 : decode cX3_takenNumberBehindWord 0 = .ok (.aload_n 0, 1) := by decide +kernel
theorem dX3_takenNumberBehindWord_1 : decode cX3_takenNumberBehindWord 1 = .ok (.invokevirtual 69, 3) := by decide +kernel
theorem dX3_takenNumberBehindWord_4 : decode cX3_takenNumberBehindWord 4 = .ok (.aload_n 0, 1) := by decide +kernel
theorem dX3_takenNumberBehindWord_5 : decode cX3_takenNumberBehindWord 5 = .ok (.iload_n 1, 1) := by decide +kernel
theorem dX3_takenNumberBehindWord_6 : decode cX3_takenNumberBehindWord 6 = .ok (.iload_n 2, 1) := by decide +kernel
theorem dX3_takenNumberBehindWord_7 : decode cX3_takenNumberBehindWord 7 = .ok (.invokevirtual 72, 3) := by decide +kernel
theorem dX3_takenNumberBehindWord_10 : decode cX3_takenNumberBehindWord 10 = .ok (.ireturn, 1) := by decide +kernel
theorem dX4_read_0 : decode cX4_read 0 = .ok (.aload_n 0, 1) := by decide +kernel
theorem dX4_read_1 : decode cX4_read 1 = .ok (.invokevirtual 9, 3) := by decide +kernel
theorem dX4_read_4 : decode cX4_read 4 = .ok (.iconst 1, 1) := by decide +kernel
theorem dX4_read_5 : decode cX4_read 5 = .ok (.istore_n 2, 1) := by decide +kernel
theorem dX4_read_6 : decode cX4_read 6 = .ok (.iload_n 2, 1) := by decide +kernel
theorem dX4_read_7 : decode cX4_read 7 = .ok (.bipush 120, 2) := by decide +kernel
theorem dX4_read_9 : decode cX4_read 9 = .ok (.if_icmp .gt 39, 3) := by decide +kernel
theorem dX4_read_12 : decode cX4_read 12 = .ok (.aload_n 0, 1) := by decide +kernel
theorem dX4_read_13 : decode cX4_read 13 = .ok (.aload_n 1, 1) := by decide +kernel
theorem dX4_read_14 : decode cX4_read 14 = .ok (.invokestatic 14, 3) := by decide +kernel
theorem dX4_read_17 : decode cX4_read 17 = .ok (.ifCond .ne 5, 3) := by decide +kernel
theorem dX4_read_20 : decode cX4_read 20 = .ok (.iconst (-1), 1) := by decide +kernel
theorem dX4_read_21 : decode cX4_read 21 = .ok (.ireturn, 1) := by decide +kernel
theorem dX4_read_22 : decode cX4_read 22 = .ok (.aload_n 0, 1) := by decide +kernel
theorem dX4_read_23 : decode cX4_read 23 = .ok (.invokevirtual 20, 3) := by decide +kernel
theorem dX4_read_26 : decode cX4_read 26 = .ok (.ifCond .ne 16, 3) := by decide +kernel
theorem dX4_read_29 : decode cX4_read 29 = .ok (.aload_n 0, 1) := by decide +kernel
theorem dX4_read_30 : decode cX4_read 30 = .ok (.invokevirtual 24, 3) := by decide +kernel
theorem dX4_read_33 : decode cX4_read 33 = .ok (.ifCond .eq 7, 3) := by decide +kernel
theorem dX4_read_36 : decode cX4_read 36 = .ok (.iload_n 2, 1) := by decide +kernel
theorem dX4_read_37 : decode cX4_read 37 = .ok (.goto 4, 3) := by decide +kernel
theorem dX4_read_40 : decode cX4_read 40 = .ok (.iconst (-1), 1) := by decide +kernel
theorem dX4_read_41 : decode cX4_read 41 = .ok (.ireturn, 1) := by decide +kernel
theorem dX4_read_42 : decode cX4_read 42 = .ok (.iinc 2 1, 3) := by decide +kernel
theorem dX4_read_45 : decode cX4_read 45 = .ok (.goto (-39), 3) := by decide +kernel
theorem dX4_read_48 : decode cX4_read 48 = .ok (.iconst (-1), 1) := by decide +kernel
theorem dX4_read_49 : decode cX4_read 49 = .ok (.ireturn, 1) := by decide +kernel
theorem dX4_readItem_0 : decode cX4_readItem 0 = .ok (.aload_n 0, 1) := by decide +kernel
theorem dX4_readItem_1 : decode cX4_readItem 1 = .ok (.invokestatic 27, 3) := by decide +kernel
theorem dX4_readItem_4 : decode cX4_readItem 4 = .ok (.istore_n 2, 1) := by decide +kernel
theorem dX4_readItem_5 : decode cX4_readItem 5 = .ok (.iload_n 2, 1) := by decide +kernel
theorem dX4_readItem_6 : decode cX4_readItem 6 = .ok (.ifCond .lt 10, 3) := by decide +kernel
theorem dX4_readItem_9 : decode cX4_readItem 9 = .ok (.aload_n 0, 1) := by decide +kernel
theorem dX4_readItem_10 : decode cX4_readItem 10 = .ok (.aload_n 1, 1) := by decide +kernel
theorem dX4_readItem_11 : decode cX4_readItem 11 = .ok (.iload_n 2, 1) := by decide +kernel
theorem dX4_readItem_12 : decode cX4_readItem 12 = .ok (.invokestatic 31, 3) := by decide +kernel
theorem dX4_readItem_15 : decode cX4_readItem 15 = .ok (.ireturn, 1) := by decide +kernel
theorem dX4_readItem_16 : decode cX4_readItem 16 = .ok (.aload_n 0, 1) := by decide +kernel
theorem dX4_readItem_17 : decode cX4_readItem 17 = .ok (.invokestatic 35, 3) := by decide +kernel
theorem dX4_readItem_20 : decode cX4_readItem 20 = .ok (.istore_n 3, 1) := by decide +kernel
theorem dX4_readItem_21 : decode cX4_readItem 21 = .ok (.iload_n 3, 1) := by decide +kernel
theorem dX4_readItem_22 : decode cX4_readItem 22 = .ok (.ifCond .lt 10, 3) := by decide +kernel
theorem dX4_readItem_25 : decode cX4_readItem 25 = .ok (.aload_n 0, 1) := by decide +kernel
theorem dX4_readItem_26 : decode cX4_readItem 26 = .ok (.aload_n 1, 1) := by decide +kernel
theorem dX4_readItem_27 : decode cX4_readItem 27 = .ok (.iload_n 3, 1) := by decide +kernel
theorem dX4_readItem_28 : decode cX4_readItem 28 = .ok (.invokestatic 38, 3) := by decide +kernel
theorem dX4_readItem_31 : decode cX4_readItem 31 = .ok (.ireturn, 1) := by decide +kernel
theorem dX4_readItem_32 : decode cX4_readItem 32 = .ok (.aload_n 0, 1) := by decide +kernel
theorem dX4_readItem_33 : decode cX4_readItem 33 = .ok (.ldc 41, 2) := by decide +kernel
theorem dX4_readItem_35 : decode cX4_readItem 35 = .ok (.invokevirtual 43, 3) := by decide +kernel
theorem dX4_readItem_38 : decode cX4_readItem 38 = .ok (.ifCond .eq 9, 3) := by decide +kernel
theorem dX4_readItem_41 : decode cX4_readItem 41 = .ok (.aload_n 0, 1) := by decide +kernel
theorem dX4_readItem_42 : decode cX4_readItem 42 = .ok (.aload_n 1, 1) := by decide +kernel
theorem dX4_readItem_43 : decode cX4_readItem 43 = .ok (.invokestatic 47, 3) := by decide +kernel
theorem dX4_readItem_46 : decode cX4_readItem 46 = .ok (.ireturn, 1) := by decide +kernel
theorem dX4_readItem_47 : decode cX4_readItem 47 = .ok (.aload_n 0, 1) := by decide +kernel
theorem dX4_readItem_48 : decode cX4_readItem 48 = .ok (.ldc 50, 2) := by decide +kernel
theorem dX4_readItem_50 : decode cX4_readItem 50 = .ok (.invokevirtual 43, 3) := by decide +kernel
theorem dX4_readItem_53 : decode cX4_readItem 53 = .ok (.ifCond .eq 9, 3) := by decide +kernel
theorem dX4_readItem_56 : decode cX4_readItem 56 = .ok (.aload_n 0, 1) := by decide +kernel
theorem dX4_readItem_57 : decode cX4_readItem 57 = .ok (.aload_n 1, 1) := by decide +kernel
theorem dX4_readItem_58 : decode cX4_readItem 58 = .ok (.invokestatic 52, 3) := by decide +kernel
theorem dX4_readItem_61 : decode cX4_readItem 61 = .ok (.ireturn, 1) := by decide +kernel
theorem dX4_readItem_62 : decode cX4_readItem 62 = .ok (.aload_n 0, 1) := by decide +kernel
theorem dX4_readItem_63 : decode cX4_readItem 63 = .ok (.ldc 55, 2) := by decide +kernel
theorem dX4_readItem_65 : decode cX4_readItem 65 = .ok (.invokevirtual 43, 3) := by decide +kernel
theorem dX4_readItem_68 : decode cX4_readItem 68 = .ok (.ifCond .eq 15, 3) := by decide +kernel
theorem dX4_readItem_71 : decode cX4_readItem 71 = .ok (.aload_n 0, 1) := by decide +kernel
theorem dX4_readItem_72 : decode cX4_readItem 72 = .ok (.aload_n 1, 1) := by decide +kernel
theorem dX4_readItem_73 : decode cX4_readItem 73 = .ok (.invokestatic 57, 3) := by decide +kernel
theorem dX4_readItem_76 : decode cX4_readItem 76 = .ok (.ifCond .eq 7, 3) := by decide +kernel
theorem dX4_readItem_79 : decode cX4_readItem 79 = .ok (.iconst 1, 1) := by decide +kernel
theorem dX4_readItem_80 : decode cX4_readItem 80 = .ok (.goto 4, 3) := by decide +kernel
theorem dX4_readItem_83 : decode cX4_readItem 83 = .ok (.iconst 0, 1) := by decide +kernel
theorem dX4_readItem_84 : decode cX4_readItem 84 = .ok (.ireturn, 1) := by decide +kernel
theorem dX4_partTold_0 : decode cX4_partTold 0 = .ok (.aload_n 0, 1) := by decide +kernel
theorem dX4_partTold_1 : decode cX4_partTold 1 = .ok (.ldc 60, 2) := by decide +kernel
theorem dX4_partTold_3 : decode cX4_partTold 3 = .ok (.invokevirtual 43, 3) := by decide +kernel
theorem dX4_partTold_6 : decode cX4_partTold 6 = .ok (.ifCond .eq 5, 3) := by decide +kernel
theorem dX4_partTold_9 : decode cX4_partTold 9 = .ok (.iconst 0, 1) := by decide +kernel
theorem dX4_partTold_10 : decode cX4_partTold 10 = .ok (.ireturn, 1) := by decide +kernel
theorem dX4_partTold_11 : decode cX4_partTold 11 = .ok (.aload_n 0, 1) := by decide +kernel
theorem dX4_partTold_12 : decode cX4_partTold 12 = .ok (.ldc 62, 2) := by decide +kernel
theorem dX4_partTold_14 : decode cX4_partTold 14 = .ok (.invokevirtual 43, 3) := by decide +kernel
theorem dX4_partTold_17 : decode cX4_partTold 17 = .ok (.ifCond .eq 5, 3) := by decide +kernel
theorem dX4_partTold_20 : decode cX4_partTold 20 = .ok (.iconst 1, 1) := by decide +kernel
theorem dX4_partTold_21 : decode cX4_partTold 21 = .ok (.ireturn, 1) := by decide +kernel
theorem dX4_partTold_22 : decode cX4_partTold 22 = .ok (.aload_n 0, 1) := by decide +kernel
theorem dX4_partTold_23 : decode cX4_partTold 23 = .ok (.ldc 64, 2) := by decide +kernel
theorem dX4_partTold_25 : decode cX4_partTold 25 = .ok (.invokevirtual 43, 3) := by decide +kernel
theorem dX4_partTold_28 : decode cX4_partTold 28 = .ok (.ifCond .eq 5, 3) := by decide +kernel
theorem dX4_partTold_31 : decode cX4_partTold 31 = .ok (.iconst 2, 1) := by decide +kernel
theorem dX4_partTold_32 : decode cX4_partTold 32 = .ok (.ireturn, 1) := by decide +kernel
theorem dX4_partTold_33 : decode cX4_partTold 33 = .ok (.aload_n 0, 1) := by decide +kernel
theorem dX4_partTold_34 : decode cX4_partTold 34 = .ok (.ldc 66, 2) := by decide +kernel
theorem dX4_partTold_36 : decode cX4_partTold 36 = .ok (.invokevirtual 43, 3) := by decide +kernel
theorem dX4_partTold_39 : decode cX4_partTold 39 = .ok (.ifCond .eq 7, 3) := by decide +kernel
theorem dX4_partTold_42 : decode cX4_partTold 42 = .ok (.iconst 3, 1) := by decide +kernel
theorem dX4_partTold_43 : decode cX4_partTold 43 = .ok (.goto 4, 3) := by decide +kernel
theorem dX4_partTold_46 : decode cX4_partTold 46 = .ok (.iconst (-1), 1) := by decide +kernel
theorem dX4_partTold_47 : decode cX4_partTold 47 = .ok (.ireturn, 1) := by decide +kernel
theorem dX4_kindTold_0 : decode cX4_kindTold 0 = .ok (.iconst 0, 1) := by decide +kernel
theorem dX4_kindTold_1 : decode cX4_kindTold 1 = .ok (.istore_n 1, 1) := by decide +kernel
theorem dX4_kindTold_2 : decode cX4_kindTold 2 = .ok (.iload_n 1, 1) := by decide +kernel
theorem dX4_kindTold_3 : decode cX4_kindTold 3 = .ok (.bipush 7, 2) := by decide +kernel
theorem dX4_kindTold_5 : decode cX4_kindTold 5 = .ok (.if_icmp .ge 22, 3) := by decide +kernel
theorem dX4_kindTold_8 : decode cX4_kindTold 8 = .ok (.aload_n 0, 1) := by decide +kernel
theorem dX4_kindTold_9 : decode cX4_kindTold 9 = .ok (.iload_n 1, 1) := by decide +kernel
theorem dX4_kindTold_10 : decode cX4_kindTold 10 = .ok (.invokestatic 68, 3) := by decide +kernel
theorem dX4_kindTold_13 : decode cX4_kindTold 13 = .ok (.invokevirtual 43, 3) := by decide +kernel
theorem dX4_kindTold_16 : decode cX4_kindTold 16 = .ok (.ifCond .eq 5, 3) := by decide +kernel
theorem dX4_kindTold_19 : decode cX4_kindTold 19 = .ok (.iload_n 1, 1) := by decide +kernel
theorem dX4_kindTold_20 : decode cX4_kindTold 20 = .ok (.ireturn, 1) := by decide +kernel
theorem dX4_kindTold_21 : decode cX4_kindTold 21 = .ok (.iinc 1 1, 3) := by decide +kernel
theorem dX4_kindTold_24 : decode cX4_kindTold 24 = .ok (.goto (-22), 3) := by decide +kernel
theorem dX4_kindTold_27 : decode cX4_kindTold 27 = .ok (.iconst (-1), 1) := by decide +kernel
theorem dX4_kindTold_28 : decode cX4_kindTold 28 = .ok (.ireturn, 1) := by decide +kernel
theorem dX4_kindWord_0 : decode cX4_kindWord 0 = .ok (.iload_n 0, 1) := by decide +kernel
theorem dX4_kindWord_1 : decode cX4_kindWord 1 = .ok (.tableswitch 57 1 6 #[39, 42, 45, 48, 51, 54], 39) := by decide +kernel
theorem dX4_kindWord_40 : decode cX4_kindWord 40 = .ok (.ldc 72, 2) := by decide +kernel
theorem dX4_kindWord_42 : decode cX4_kindWord 42 = .ok (.areturn, 1) := by decide +kernel
theorem dX4_kindWord_43 : decode cX4_kindWord 43 = .ok (.ldc 74, 2) := by decide +kernel
theorem dX4_kindWord_45 : decode cX4_kindWord 45 = .ok (.areturn, 1) := by decide +kernel
theorem dX4_kindWord_46 : decode cX4_kindWord 46 = .ok (.ldc 76, 2) := by decide +kernel
theorem dX4_kindWord_48 : decode cX4_kindWord 48 = .ok (.areturn, 1) := by decide +kernel
theorem dX4_kindWord_49 : decode cX4_kindWord 49 = .ok (.ldc 78, 2) := by decide +kernel
theorem dX4_kindWord_51 : decode cX4_kindWord 51 = .ok (.areturn, 1) := by decide +kernel
theorem dX4_kindWord_52 : decode cX4_kindWord 52 = .ok (.ldc 80, 2) := by decide +kernel
theorem dX4_kindWord_54 : decode cX4_kindWord 54 = .ok (.areturn, 1) := by decide +kernel
theorem dX4_kindWord_55 : decode cX4_kindWord 55 = .ok (.ldc 82, 2) := by decide +kernel
theorem dX4_kindWord_57 : decode cX4_kindWord 57 = .ok (.areturn, 1) := by decide +kernel
theorem dX4_kindWord_58 : decode cX4_kindWord 58 = .ok (.ldc 84, 2) := by decide +kernel
theorem dX4_kindWord_60 : decode cX4_kindWord 60 = .ok (.areturn, 1) := by decide +kernel
theorem dX4_readPart_0 : decode cX4_readPart 0 = .ok (.aload_n 0, 1) := by decide +kernel
theorem dX4_readPart_1 : decode cX4_readPart 1 = .ok (.iload_n 2, 1) := by decide +kernel
theorem dX4_readPart_2 : decode cX4_readPart 2 = .ok (.invokestatic 86, 3) := by decide +kernel
theorem dX4_readPart_5 : decode cX4_readPart 5 = .ok (.iload_n 2, 1) := by decide +kernel
theorem dX4_readPart_6 : decode cX4_readPart 6 = .ok (.invokestatic 90, 3) := by decide +kernel
theorem dX4_readPart_9 : decode cX4_readPart 9 = .ok (.invokevirtual 93, 3) := by decide +kernel
theorem dX4_readPart_12 : decode cX4_readPart 12 = .ok (.istore_n 3, 1) := by decide +kernel
theorem dX4_readPart_13 : decode cX4_readPart 13 = .ok (.iload_n 3, 1) := by decide +kernel
theorem dX4_readPart_14 : decode cX4_readPart 14 = .ok (.ifCond .ge 5, 3) := by decide +kernel
theorem dX4_readPart_17 : decode cX4_readPart 17 = .ok (.iconst 0, 1) := by decide +kernel
theorem dX4_readPart_18 : decode cX4_readPart 18 = .ok (.ireturn, 1) := by decide +kernel
theorem dX4_readPart_19 : decode cX4_readPart 19 = .ok (.aload_n 1, 1) := by decide +kernel
theorem dX4_readPart_20 : decode cX4_readPart 20 = .ok (.iload_n 2, 1) := by decide +kernel
theorem dX4_readPart_21 : decode cX4_readPart 21 = .ok (.iload_n 3, 1) := by decide +kernel
theorem dX4_readPart_22 : decode cX4_readPart 22 = .ok (.invokevirtual 97, 3) := by decide +kernel
theorem dX4_readPart_25 : decode cX4_readPart 25 = .ok (.iconst 1, 1) := by decide +kernel
theorem dX4_readPart_26 : decode cX4_readPart 26 = .ok (.ireturn, 1) := by decide +kernel
theorem dX4_readTaste_0 : decode cX4_readTaste 0 = .ok (.aload_n 1, 1) := by decide +kernel
theorem dX4_readTaste_1 : decode cX4_readTaste 1 = .ok (.getfield 103, 3) := by decide +kernel
theorem dX4_readTaste_4 : decode cX4_readTaste 4 = .ok (.invokevirtual 107, 3) := by decide +kernel
theorem dX4_readTaste_7 : decode cX4_readTaste 7 = .ok (.ifCond .eq 5, 3) := by decide +kernel
theorem dX4_readTaste_10 : decode cX4_readTaste 10 = .ok (.iconst 0, 1) := by decide +kernel
theorem dX4_readTaste_11 : decode cX4_readTaste 11 = .ok (.ireturn, 1) := by decide +kernel
theorem dX4_readTaste_12 : decode cX4_readTaste 12 = .ok (.aload_n 0, 1) := by decide +kernel
theorem dX4_readTaste_13 : decode cX4_readTaste 13 = .ok (.iconst 0, 1) := by decide +kernel
theorem dX4_readTaste_14 : decode cX4_readTaste 14 = .ok (.bipush 9, 2) := by decide +kernel
theorem dX4_readTaste_16 : decode cX4_readTaste 16 = .ok (.invokevirtual 93, 3) := by decide +kernel
theorem dX4_readTaste_19 : decode cX4_readTaste 19 = .ok (.istore_n 3, 1) := by decide +kernel
theorem dX4_readTaste_20 : decode cX4_readTaste 20 = .ok (.iload_n 3, 1) := by decide +kernel
theorem dX4_readTaste_21 : decode cX4_readTaste 21 = .ok (.ifCond .ge 5, 3) := by decide +kernel
theorem dX4_readTaste_24 : decode cX4_readTaste 24 = .ok (.iconst 0, 1) := by decide +kernel
theorem dX4_readTaste_25 : decode cX4_readTaste 25 = .ok (.ireturn, 1) := by decide +kernel
theorem dX4_readTaste_26 : decode cX4_readTaste 26 = .ok (.iconst 5, 1) := by decide +kernel
theorem dX4_readTaste_27 : decode cX4_readTaste 27 = .ok (.istore 4, 2) := by decide +kernel
theorem dX4_readTaste_29 : decode cX4_readTaste 29 = .ok (.aload_n 0, 1) := by decide +kernel
theorem dX4_readTaste_30 : decode cX4_readTaste 30 = .ok (.ldc 112, 2) := by decide +kernel
theorem dX4_readTaste_32 : decode cX4_readTaste 32 = .ok (.invokevirtual 43, 3) := by decide +kernel
theorem dX4_readTaste_35 : decode cX4_readTaste 35 = .ok (.ifCond .eq 19, 3) := by decide +kernel
theorem dX4_readTaste_38 : decode cX4_readTaste 38 = .ok (.aload_n 0, 1) := by decide +kernel
theorem dX4_readTaste_39 : decode cX4_readTaste 39 = .ok (.iconst 1, 1) := by decide +kernel
theorem dX4_readTaste_40 : decode cX4_readTaste 40 = .ok (.bipush 20, 2) := by decide +kernel
theorem dX4_readTaste_42 : decode cX4_readTaste 42 = .ok (.invokevirtual 93, 3) := by decide +kernel
theorem dX4_readTaste_45 : decode cX4_readTaste 45 = .ok (.istore 4, 2) := by decide +kernel
theorem dX4_readTaste_47 : decode cX4_readTaste 47 = .ok (.iload 4, 2) := by decide +kernel
theorem dX4_readTaste_49 : decode cX4_readTaste 49 = .ok (.ifCond .ge 5, 3) := by decide +kernel
theorem dX4_readTaste_52 : decode cX4_readTaste 52 = .ok (.iconst 0, 1) := by decide +kernel
theorem dX4_readTaste_53 : decode cX4_readTaste 53 = .ok (.ireturn, 1) := by decide +kernel
theorem dX4_readTaste_54 : decode cX4_readTaste 54 = .ok (.aload_n 1, 1) := by decide +kernel
theorem dX4_readTaste_55 : decode cX4_readTaste 55 = .ok (.getfield 103, 3) := by decide +kernel
theorem dX4_readTaste_58 : decode cX4_readTaste 58 = .ok (.iload_n 2, 1) := by decide +kernel
theorem dX4_readTaste_59 : decode cX4_readTaste 59 = .ok (.iload_n 3, 1) := by decide +kernel
theorem dX4_readTaste_60 : decode cX4_readTaste 60 = .ok (.iload 4, 2) := by decide +kernel
theorem dX4_readTaste_62 : decode cX4_readTaste 62 = .ok (.invokevirtual 114, 3) := by decide +kernel
theorem dX4_readTaste_65 : decode cX4_readTaste 65 = .ok (.pop, 1) := by decide +kernel
theorem dX4_readTaste_66 : decode cX4_readTaste 66 = .ok (.iconst 1, 1) := by decide +kernel
theorem dX4_readTaste_67 : decode cX4_readTaste 67 = .ok (.ireturn, 1) := by decide +kernel
theorem dX4_readFood_0 : decode cX4_readFood 0 = .ok (.aload_n 0, 1) := by decide +kernel
theorem dX4_readFood_1 : decode cX4_readFood 1 = .ok (.iconst 0, 1) := by decide +kernel
theorem dX4_readFood_2 : decode cX4_readFood 2 = .ok (.bipush 9, 2) := by decide +kernel
theorem dX4_readFood_4 : decode cX4_readFood 4 = .ok (.invokevirtual 93, 3) := by decide +kernel
theorem dX4_readFood_7 : decode cX4_readFood 7 = .ok (.istore_n 2, 1) := by decide +kernel
theorem dX4_readFood_8 : decode cX4_readFood 8 = .ok (.iload_n 2, 1) := by decide +kernel
theorem dX4_readFood_9 : decode cX4_readFood 9 = .ok (.ifCond .ge 5, 3) := by decide +kernel
theorem dX4_readFood_12 : decode cX4_readFood 12 = .ok (.iconst 0, 1) := by decide +kernel
theorem dX4_readFood_13 : decode cX4_readFood 13 = .ok (.ireturn, 1) := by decide +kernel
theorem dX4_readFood_14 : decode cX4_readFood 14 = .ok (.aload_n 0, 1) := by decide +kernel
theorem dX4_readFood_15 : decode cX4_readFood 15 = .ok (.ldc 118, 2) := by decide +kernel
theorem dX4_readFood_17 : decode cX4_readFood 17 = .ok (.invokevirtual 43, 3) := by decide +kernel
theorem dX4_readFood_20 : decode cX4_readFood 20 = .ok (.ifCond .eq 24, 3) := by decide +kernel
theorem dX4_readFood_23 : decode cX4_readFood 23 = .ok (.aload_n 0, 1) := by decide +kernel
theorem dX4_readFood_24 : decode cX4_readFood 24 = .ok (.iconst 0, 1) := by decide +kernel
theorem dX4_readFood_25 : decode cX4_readFood 25 = .ok (.bipush 99, 2) := by decide +kernel
theorem dX4_readFood_27 : decode cX4_readFood 27 = .ok (.invokevirtual 93, 3) := by decide +kernel
theorem dX4_readFood_30 : decode cX4_readFood 30 = .ok (.istore_n 3, 1) := by decide +kernel
theorem dX4_readFood_31 : decode cX4_readFood 31 = .ok (.iload_n 3, 1) := by decide +kernel
theorem dX4_readFood_32 : decode cX4_readFood 32 = .ok (.ifCond .ge 5, 3) := by decide +kernel
theorem dX4_readFood_35 : decode cX4_readFood 35 = .ok (.iconst 0, 1) := by decide +kernel
theorem dX4_readFood_36 : decode cX4_readFood 36 = .ok (.ireturn, 1) := by decide +kernel
theorem dX4_readFood_37 : decode cX4_readFood 37 = .ok (.aload_n 1, 1) := by decide +kernel
theorem dX4_readFood_38 : decode cX4_readFood 38 = .ok (.getfield 120, 3) := by decide +kernel
theorem dX4_readFood_41 : decode cX4_readFood 41 = .ok (.iload_n 2, 1) := by decide +kernel
theorem dX4_readFood_42 : decode cX4_readFood 42 = .ok (.iload_n 3, 1) := by decide +kernel
theorem dX4_readFood_43 : decode cX4_readFood 43 = .ok (.iastore, 1) := by decide +kernel
theorem dX4_readFood_44 : decode cX4_readFood 44 = .ok (.aload_n 0, 1) := by decide +kernel
theorem dX4_readFood_45 : decode cX4_readFood 45 = .ok (.ldc 123, 2) := by decide +kernel
theorem dX4_readFood_47 : decode cX4_readFood 47 = .ok (.invokevirtual 43, 3) := by decide +kernel
theorem dX4_readFood_50 : decode cX4_readFood 50 = .ok (.ifCond .eq 24, 3) := by decide +kernel
theorem dX4_readFood_53 : decode cX4_readFood 53 = .ok (.aload_n 0, 1) := by decide +kernel
theorem dX4_readFood_54 : decode cX4_readFood 54 = .ok (.iconst 0, 1) := by decide +kernel
theorem dX4_readFood_55 : decode cX4_readFood 55 = .ok (.bipush 9, 2) := by decide +kernel
theorem dX4_readFood_57 : decode cX4_readFood 57 = .ok (.invokevirtual 93, 3) := by decide +kernel
theorem dX4_readFood_60 : decode cX4_readFood 60 = .ok (.istore_n 3, 1) := by decide +kernel
theorem dX4_readFood_61 : decode cX4_readFood 61 = .ok (.iload_n 3, 1) := by decide +kernel
theorem dX4_readFood_62 : decode cX4_readFood 62 = .ok (.ifCond .ge 5, 3) := by decide +kernel
theorem dX4_readFood_65 : decode cX4_readFood 65 = .ok (.iconst 0, 1) := by decide +kernel
theorem dX4_readFood_66 : decode cX4_readFood 66 = .ok (.ireturn, 1) := by decide +kernel
theorem dX4_readFood_67 : decode cX4_readFood 67 = .ok (.aload_n 1, 1) := by decide +kernel
theorem dX4_readFood_68 : decode cX4_readFood 68 = .ok (.getfield 125, 3) := by decide +kernel
theorem dX4_readFood_71 : decode cX4_readFood 71 = .ok (.iload_n 2, 1) := by decide +kernel
theorem dX4_readFood_72 : decode cX4_readFood 72 = .ok (.iload_n 3, 1) := by decide +kernel
theorem dX4_readFood_73 : decode cX4_readFood 73 = .ok (.iastore, 1) := by decide +kernel
theorem dX4_readFood_74 : decode cX4_readFood 74 = .ok (.iconst 1, 1) := by decide +kernel
theorem dX4_readFood_75 : decode cX4_readFood 75 = .ok (.ireturn, 1) := by decide +kernel
theorem dX4_readPudding_0 : decode cX4_readPudding 0 = .ok (.aload_n 0, 1) := by decide +kernel
theorem dX4_readPudding_1 : decode cX4_readPudding 1 = .ok (.iconst 0, 1) := by decide +kernel
theorem dX4_readPudding_2 : decode cX4_readPudding 2 = .ok (.bipush 9, 2) := by decide +kernel
theorem dX4_readPudding_4 : decode cX4_readPudding 4 = .ok (.invokevirtual 93, 3) := by decide +kernel
theorem dX4_readPudding_7 : decode cX4_readPudding 7 = .ok (.istore_n 2, 1) := by decide +kernel
theorem dX4_readPudding_8 : decode cX4_readPudding 8 = .ok (.iload_n 2, 1) := by decide +kernel
theorem dX4_readPudding_9 : decode cX4_readPudding 9 = .ok (.ifCond .ge 5, 3) := by decide +kernel
theorem dX4_readPudding_12 : decode cX4_readPudding 12 = .ok (.iconst 0, 1) := by decide +kernel
theorem dX4_readPudding_13 : decode cX4_readPudding 13 = .ok (.ireturn, 1) := by decide +kernel
theorem dX4_readPudding_14 : decode cX4_readPudding 14 = .ok (.aload_n 1, 1) := by decide +kernel
theorem dX4_readPudding_15 : decode cX4_readPudding 15 = .ok (.iload_n 2, 1) := by decide +kernel
theorem dX4_readPudding_16 : decode cX4_readPudding 16 = .ok (.putfield 127, 3) := by decide +kernel
theorem dX4_readPudding_19 : decode cX4_readPudding 19 = .ok (.iconst 1, 1) := by decide +kernel
theorem dX4_readPudding_20 : decode cX4_readPudding 20 = .ok (.ireturn, 1) := by decide +kernel
theorem dX4_readFriend_0 : decode cX4_readFriend 0 = .ok (.aload_n 0, 1) := by decide +kernel
theorem dX4_readFriend_1 : decode cX4_readFriend 1 = .ok (.iconst 0, 1) := by decide +kernel
theorem dX4_readFriend_2 : decode cX4_readFriend 2 = .ok (.bipush 9, 2) := by decide +kernel
theorem dX4_readFriend_4 : decode cX4_readFriend 4 = .ok (.invokevirtual 93, 3) := by decide +kernel
theorem dX4_readFriend_7 : decode cX4_readFriend 7 = .ok (.istore_n 2, 1) := by decide +kernel
theorem dX4_readFriend_8 : decode cX4_readFriend 8 = .ok (.iconst 0, 1) := by decide +kernel
theorem dX4_readFriend_9 : decode cX4_readFriend 9 = .ok (.istore_n 3, 1) := by decide +kernel
theorem dX4_readFriend_10 : decode cX4_readFriend 10 = .ok (.iconst 0, 1) := by decide +kernel
theorem dX4_readFriend_11 : decode cX4_readFriend 11 = .ok (.istore 4, 2) := by decide +kernel
theorem dX4_readFriend_13 : decode cX4_readFriend 13 = .ok (.iload 4, 2) := by decide +kernel
theorem dX4_readFriend_15 : decode cX4_readFriend 15 = .ok (.bipush 10, 2) := by decide +kernel
theorem dX4_readFriend_17 : decode cX4_readFriend 17 = .ok (.if_icmp .ge 43, 3) := by decide +kernel
theorem dX4_readFriend_20 : decode cX4_readFriend 20 = .ok (.iload_n 2, 1) := by decide +kernel
theorem dX4_readFriend_21 : decode cX4_readFriend 21 = .ok (.ifCond .lt 39, 3) := by decide +kernel
theorem dX4_readFriend_24 : decode cX4_readFriend 24 = .ok (.iload_n 3, 1) := by decide +kernel
theorem dX4_readFriend_25 : decode cX4_readFriend 25 = .ok (.iconst 1, 1) := by decide +kernel
theorem dX4_readFriend_26 : decode cX4_readFriend 26 = .ok (.iload_n 2, 1) := by decide +kernel
theorem dX4_readFriend_27 : decode cX4_readFriend 27 = .ok (.ishl, 1) := by decide +kernel
theorem dX4_readFriend_28 : decode cX4_readFriend 28 = .ok (.ior, 1) := by decide +kernel
theorem dX4_readFriend_29 : decode cX4_readFriend 29 = .ok (.istore_n 3, 1) := by decide +kernel
theorem dX4_readFriend_30 : decode cX4_readFriend 30 = .ok (.aload_n 0, 1) := by decide +kernel
theorem dX4_readFriend_31 : decode cX4_readFriend 31 = .ok (.invokevirtual 130, 3) := by decide +kernel
theorem dX4_readFriend_34 : decode cX4_readFriend 34 = .ok (.ifCond .ne 10, 3) := by decide +kernel
theorem dX4_readFriend_37 : decode cX4_readFriend 37 = .ok (.aload_n 1, 1) := by decide +kernel
theorem dX4_readFriend_38 : decode cX4_readFriend 38 = .ok (.iload_n 3, 1) := by decide +kernel
theorem dX4_readFriend_39 : decode cX4_readFriend 39 = .ok (.putfield 133, 3) := by decide +kernel
theorem dX4_readFriend_42 : decode cX4_readFriend 42 = .ok (.iconst 1, 1) := by decide +kernel
theorem dX4_readFriend_43 : decode cX4_readFriend 43 = .ok (.ireturn, 1) := by decide +kernel
theorem dX4_readFriend_44 : decode cX4_readFriend 44 = .ok (.aload_n 0, 1) := by decide +kernel
theorem dX4_readFriend_45 : decode cX4_readFriend 45 = .ok (.iload_n 2, 1) := by decide +kernel
theorem dX4_readFriend_46 : decode cX4_readFriend 46 = .ok (.iconst 1, 1) := by decide +kernel
theorem dX4_readFriend_47 : decode cX4_readFriend 47 = .ok (.iadd, 1) := by decide +kernel
theorem dX4_readFriend_48 : decode cX4_readFriend 48 = .ok (.bipush 9, 2) := by decide +kernel
theorem dX4_readFriend_50 : decode cX4_readFriend 50 = .ok (.invokevirtual 135, 3) := by decide +kernel
theorem dX4_readFriend_53 : decode cX4_readFriend 53 = .ok (.istore_n 2, 1) := by decide +kernel
theorem dX4_readFriend_54 : decode cX4_readFriend 54 = .ok (.iinc 4 1, 3) := by decide +kernel
theorem dX4_readFriend_57 : decode cX4_readFriend 57 = .ok (.goto (-44), 3) := by decide +kernel
theorem dX4_readFriend_60 : decode cX4_readFriend 60 = .ok (.iconst 0, 1) := by decide +kernel
theorem dX4_readFriend_61 : decode cX4_readFriend 61 = .ok (.ireturn, 1) := by decide +kernel
end
section
theorem dX5_init_0 : decode cX5_init 0 = .ok (.aload_n 0, 1) := by decide +kernel
theorem dX5_init_1 : decode cX5_init 1 = .ok (.invokespecial 3, 3) := by decide +kernel
theorem dX5_init_4 : decode cX5_init 4 = .ok (.aload_n 0, 1) := by decide +kernel
theorem dX5_init_5 : decode cX5_init 5 = .ok (.new 9, 3) := by decide +kernel
theorem dX5_init_8 : decode cX5_init 8 = .ok (.dup, 1) := by decide +kernel
theorem dX5_init_9 : decode cX5_init 9 = .ok (.invokespecial 11, 3) := by decide +kernel
theorem dX5_init_12 : decode cX5_init 12 = .ok (.putfield 12, 3) := by decide +kernel
theorem dX5_init_15 : decode cX5_init 15 = .ok (.aload_n 0, 1) := by decide +kernel
theorem dX5_init_16 : decode cX5_init 16 = .ok (.new 9, 3) := by decide +kernel
theorem dX5_init_19 : decode cX5_init 19 = .ok (.dup, 1) := by decide +kernel
theorem dX5_init_20 : decode cX5_init 20 = .ok (.invokespecial 11, 3) := by decide +kernel
theorem dX5_init_23 : decode cX5_init 23 = .ok (.putfield 16, 3) := by decide +kernel
theorem dX5_init_26 : decode cX5_init 26 = .ok (.aload_n 0, 1) := by decide +kernel
theorem dX5_init_27 : decode cX5_init 27 = .ok (.new 9, 3) := by decide +kernel
theorem dX5_init_30 : decode cX5_init 30 = .ok (.dup, 1) := by decide +kernel
theorem dX5_init_31 : decode cX5_init 31 = .ok (.invokespecial 11, 3) := by decide +kernel
theorem dX5_init_34 : decode cX5_init 34 = .ok (.putfield 19, 3) := by decide +kernel
theorem dX5_init_37 : decode cX5_init 37 = .ok (.aload_n 0, 1) := by decide +kernel
theorem dX5_init_38 : decode cX5_init 38 = .ok (.iconst 0, 1) := by decide +kernel
theorem dX5_init_39 : decode cX5_init 39 = .ok (.putfield 22, 3) := by decide +kernel
theorem dX5_init_42 : decode cX5_init 42 = .ok (.aload_n 0, 1) := by decide +kernel
theorem dX5_init_43 : decode cX5_init 43 = .ok (.new 26, 3) := by decide +kernel
theorem dX5_init_46 : decode cX5_init 46 = .ok (.dup, 1) := by decide +kernel
theorem dX5_init_47 : decode cX5_init 47 = .ok (.invokespecial 28, 3) := by decide +kernel
theorem dX5_init_50 : decode cX5_init 50 = .ok (.putfield 29, 3) := by decide +kernel
theorem dX5_init_53 : decode cX5_init 53 = .ok (.aload_n 0, 1) := by decide +kernel
theorem dX5_init_54 : decode cX5_init 54 = .ok (.iconst 4, 1) := by decide +kernel
theorem dX5_init_55 : decode cX5_init 55 = .ok (.anewarray 33, 3) := by decide +kernel
theorem dX5_init_58 : decode cX5_init 58 = .ok (.putfield 35, 3) := by decide +kernel
theorem dX5_init_61 : decode cX5_init 61 = .ok (.iconst 0, 1) := by decide +kernel
theorem dX5_init_62 : decode cX5_init 62 = .ok (.istore_n 1, 1) := by decide +kernel
theorem dX5_init_63 : decode cX5_init 63 = .ok (.iload_n 1, 1) := by decide +kernel
theorem dX5_init_64 : decode cX5_init 64 = .ok (.iconst 4, 1) := by decide +kernel
theorem dX5_init_65 : decode cX5_init 65 = .ok (.if_icmp .ge 22, 3) := by decide +kernel
theorem dX5_init_68 : decode cX5_init 68 = .ok (.aload_n 0, 1) := by decide +kernel
theorem dX5_init_69 : decode cX5_init 69 = .ok (.getfield 35, 3) := by decide +kernel
theorem dX5_init_72 : decode cX5_init 72 = .ok (.iload_n 1, 1) := by decide +kernel
theorem dX5_init_73 : decode cX5_init 73 = .ok (.new 33, 3) := by decide +kernel
theorem dX5_init_76 : decode cX5_init 76 = .ok (.dup, 1) := by decide +kernel
theorem dX5_init_77 : decode cX5_init 77 = .ok (.invokespecial 39, 3) := by decide +kernel
theorem dX5_init_80 : decode cX5_init 80 = .ok (.aastore, 1) := by decide +kernel
theorem dX5_init_81 : decode cX5_init 81 = .ok (.iinc 1 1, 3) := by decide +kernel
theorem dX5_init_84 : decode cX5_init 84 = .ok (.goto (-21), 3) := by decide +kernel
theorem dX5_init_87 : decode cX5_init 87 = .ok (.aload_n 0, 1) := by decide +kernel
theorem dX5_init_88 : decode cX5_init 88 = .ok (.bipush 7, 2) := by decide +kernel
theorem dX5_init_90 : decode cX5_init 90 = .ok (.newarray .int, 2) := by decide +kernel
theorem dX5_init_92 : decode cX5_init 92 = .ok (.putfield 40, 3) := by decide +kernel
theorem dX5_init_95 : decode cX5_init 95 = .ok (.return_, 1) := by decide +kernel
theorem dX5_finding_0 : decode cX5_finding 0 = .ok (.ldc 44, 2) := by decide +kernel
theorem dX5_finding_2 : decode cX5_finding 2 = .ok (.iload_n 1, 1) := by decide +kernel
theorem dX5_finding_3 : decode cX5_finding 3 = .ok (.isub, 1) := by decide +kernel
theorem dX5_finding_4 : decode cX5_finding 4 = .ok (.istore_n 2, 1) := by decide +kernel
theorem dX5_finding_5 : decode cX5_finding 5 = .ok (.iload_n 2, 1) := by decide +kernel
theorem dX5_finding_6 : decode cX5_finding 6 = .ok (.iconst 0, 1) := by decide +kernel
theorem dX5_finding_7 : decode cX5_finding 7 = .ok (.bipush 6, 2) := by decide +kernel
theorem dX5_finding_9 : decode cX5_finding 9 = .ok (.invokestatic 45, 3) := by decide +kernel
theorem dX5_finding_12 : decode cX5_finding 12 = .ok (.ifCond .eq 13, 3) := by decide +kernel
theorem dX5_finding_15 : decode cX5_finding 15 = .ok (.aload_n 0, 1) := by decide +kernel
theorem dX5_finding_16 : decode cX5_finding 16 = .ok (.getfield 40, 3) := by decide +kernel
theorem dX5_finding_19 : decode cX5_finding 19 = .ok (.iload_n 2, 1) := by decide +kernel
theorem dX5_finding_20 : decode cX5_finding 20 = .ok (.dup2, 1) := by decide +kernel
theorem dX5_finding_21 : decode cX5_finding 21 = .ok (.iaload, 1) := by decide +kernel
theorem dX5_finding_22 : decode cX5_finding 22 = .ok (.iconst 1, 1) := by decide +kernel
theorem dX5_finding_23 : decode cX5_finding 23 = .ok (.iadd, 1) := by decide +kernel
theorem dX5_finding_24 : decode cX5_finding 24 = .ok (.iastore, 1) := by decide +kernel
theorem dX5_finding_25 : decode cX5_finding 25 = .ok (.iload_n 1, 1) := by decide +kernel
theorem dX5_finding_26 : decode cX5_finding 26 = .ok (.ireturn, 1) := by decide +kernel
theorem dX5_within_0 : decode cX5_within 0 = .ok (.iload_n 0, 1) := by decide +kernel
theorem dX5_within_1 : decode cX5_within 1 = .ok (.iload_n 1, 1) := by decide +kernel
theorem dX5_within_2 : decode cX5_within 2 = .ok (.if_icmp .lt 12, 3) := by decide +kernel
theorem dX5_within_5 : decode cX5_within 5 = .ok (.iload_n 0, 1) := by decide +kernel
theorem dX5_within_6 : decode cX5_within 6 = .ok (.iload_n 2, 1) := by decide +kernel
theorem dX5_within_7 : decode cX5_within 7 = .ok (.if_icmp .gt 7, 3) := by decide +kernel
theorem dX5_within_10 : decode cX5_within 10 = .ok (.iconst 1, 1) := by decide +kernel
theorem dX5_within_11 : decode cX5_within 11 = .ok (.goto 4, 3) := by decide +kernel
theorem dX5_within_14 : decode cX5_within 14 = .ok (.iconst 0, 1) := by decide +kernel
theorem dX5_within_15 : decode cX5_within 15 = .ok (.ireturn, 1) := by decide +kernel
theorem dX5_isFood_0 : decode cX5_isFood 0 = .ok (.iload_n 0, 1) := by decide +kernel
theorem dX5_isFood_1 : decode cX5_isFood 1 = .ok (.iconst 0, 1) := by decide +kernel
theorem dX5_isFood_2 : decode cX5_isFood 2 = .ok (.bipush 9, 2) := by decide +kernel
theorem dX5_isFood_4 : decode cX5_isFood 4 = .ok (.invokestatic 45, 3) := by decide +kernel
theorem dX5_isFood_7 : decode cX5_isFood 7 = .ok (.ireturn, 1) := by decide +kernel
theorem dX5_isKind_0 : decode cX5_isKind 0 = .ok (.iload_n 0, 1) := by decide +kernel
theorem dX5_isKind_1 : decode cX5_isKind 1 = .ok (.iconst 0, 1) := by decide +kernel
theorem dX5_isKind_2 : decode cX5_isKind 2 = .ok (.bipush 6, 2) := by decide +kernel
theorem dX5_isKind_4 : decode cX5_isKind 4 = .ok (.invokestatic 45, 3) := by decide +kernel
theorem dX5_isKind_7 : decode cX5_isKind 7 = .ok (.ireturn, 1) := by decide +kernel
theorem dX5_isPut_0 : decode cX5_isPut 0 = .ok (.iload_n 0, 1) := by decide +kernel
theorem dX5_isPut_1 : decode cX5_isPut 1 = .ok (.iconst 1, 1) := by decide +kernel
theorem dX5_isPut_2 : decode cX5_isPut 2 = .ok (.bipush 20, 2) := by decide +kernel
theorem dX5_isPut_4 : decode cX5_isPut 4 = .ok (.invokestatic 45, 3) := by decide +kernel
theorem dX5_isPut_7 : decode cX5_isPut 7 = .ok (.ireturn, 1) := by decide +kernel
theorem dX5_partLow_0 : decode cX5_partLow 0 = .ok (.iload_n 0, 1) := by decide +kernel
theorem dX5_partLow_1 : decode cX5_partLow 1 = .ok (.iconst 3, 1) := by decide +kernel
theorem dX5_partLow_2 : decode cX5_partLow 2 = .ok (.if_icmp .ne 7, 3) := by decide +kernel
theorem dX5_partLow_5 : decode cX5_partLow 5 = .ok (.iconst 1, 1) := by decide +kernel
theorem dX5_partLow_6 : decode cX5_partLow 6 = .ok (.goto 4, 3) := by decide +kernel
theorem dX5_partLow_9 : decode cX5_partLow 9 = .ok (.iconst 0, 1) := by decide +kernel
theorem dX5_partLow_10 : decode cX5_partLow 10 = .ok (.ireturn, 1) := by decide +kernel
theorem dX5_partTop_0 : decode cX5_partTop 0 = .ok (.iload_n 0, 1) := by decide +kernel
theorem dX5_partTop_1 : decode cX5_partTop 1 = .ok (.tableswitch 44 0 3 #[31, 34, 37, 41], 31) := by decide +kernel
theorem dX5_partTop_32 : decode cX5_partTop 32 = .ok (.bipush 9, 2) := by decide +kernel
theorem dX5_partTop_34 : decode cX5_partTop 34 = .ok (.ireturn, 1) := by decide +kernel
theorem dX5_partTop_35 : decode cX5_partTop 35 = .ok (.bipush 99, 2) := by decide +kernel
theorem dX5_partTop_37 : decode cX5_partTop 37 = .ok (.ireturn, 1) := by decide +kernel
theorem dX5_partTop_38 : decode cX5_partTop 38 = .ok (.sipush 9999, 3) := by decide +kernel
theorem dX5_partTop_41 : decode cX5_partTop 41 = .ok (.ireturn, 1) := by decide +kernel
theorem dX5_partTop_42 : decode cX5_partTop 42 = .ok (.bipush 99, 2) := by decide +kernel
theorem dX5_partTop_44 : decode cX5_partTop 44 = .ok (.ireturn, 1) := by decide +kernel
theorem dX5_partTop_45 : decode cX5_partTop 45 = .ok (.iconst (-1), 1) := by decide +kernel
theorem dX5_partTop_46 : decode cX5_partTop 46 = .ok (.ireturn, 1) := by decide +kernel
theorem dX5_traitLow_0 : decode cX5_traitLow 0 = .ok (.iload_n 0, 1) := by decide +kernel
theorem dX5_traitLow_1 : decode cX5_traitLow 1 = .ok (.iconst 2, 1) := by decide +kernel
theorem dX5_traitLow_2 : decode cX5_traitLow 2 = .ok (.if_icmp .ne 7, 3) := by decide +kernel
theorem dX5_traitLow_5 : decode cX5_traitLow 5 = .ok (.iconst 1, 1) := by decide +kernel
theorem dX5_traitLow_6 : decode cX5_traitLow 6 = .ok (.goto 4, 3) := by decide +kernel
theorem dX5_traitLow_9 : decode cX5_traitLow 9 = .ok (.iconst 0, 1) := by decide +kernel
theorem dX5_traitLow_10 : decode cX5_traitLow 10 = .ok (.ireturn, 1) := by decide +kernel
theorem dX5_traitTop_0 : decode cX5_traitTop 0 = .ok (.iload_n 0, 1) := by decide +kernel
theorem dX5_traitTop_1 : decode cX5_traitTop 1 = .ok (.tableswitch 36 0 2 #[27, 30, 33], 27) := by decide +kernel
theorem dX5_traitTop_28 : decode cX5_traitTop 28 = .ok (.bipush 6, 2) := by decide +kernel
theorem dX5_traitTop_30 : decode cX5_traitTop 30 = .ok (.ireturn, 1) := by decide +kernel
theorem dX5_traitTop_31 : decode cX5_traitTop 31 = .ok (.bipush 9, 2) := by decide +kernel
theorem dX5_traitTop_33 : decode cX5_traitTop 33 = .ok (.ireturn, 1) := by decide +kernel
theorem dX5_traitTop_34 : decode cX5_traitTop 34 = .ok (.bipush 20, 2) := by decide +kernel
theorem dX5_traitTop_36 : decode cX5_traitTop 36 = .ok (.ireturn, 1) := by decide +kernel
theorem dX5_traitTop_37 : decode cX5_traitTop 37 = .ok (.iconst (-1), 1) := by decide +kernel
theorem dX5_traitTop_38 : decode cX5_traitTop 38 = .ok (.ireturn, 1) := by decide +kernel
theorem dX5_isTaste_0 : decode cX5_isTaste 0 = .ok (.iload_n 1, 1) := by decide +kernel
theorem dX5_isTaste_1 : decode cX5_isTaste 1 = .ok (.iconst 0, 1) := by decide +kernel
theorem dX5_isTaste_2 : decode cX5_isTaste 2 = .ok (.aload_n 0, 1) := by decide +kernel
theorem dX5_isTaste_3 : decode cX5_isTaste 3 = .ok (.getfield 12, 3) := by decide +kernel
theorem dX5_isTaste_6 : decode cX5_isTaste 6 = .ok (.getfield 49, 3) := by decide +kernel
theorem dX5_isTaste_9 : decode cX5_isTaste 9 = .ok (.getfield 53, 3) := by decide +kernel
theorem dX5_isTaste_12 : decode cX5_isTaste 12 = .ok (.iconst 1, 1) := by decide +kernel
theorem dX5_isTaste_13 : decode cX5_isTaste 13 = .ok (.isub, 1) := by decide +kernel
theorem dX5_isTaste_14 : decode cX5_isTaste 14 = .ok (.invokestatic 45, 3) := by decide +kernel
theorem dX5_isTaste_17 : decode cX5_isTaste 17 = .ok (.ireturn, 1) := by decide +kernel
theorem dX5_isPastLast_0 : decode cX5_isPastLast 0 = .ok (.aload_n 0, 1) := by decide +kernel
theorem dX5_isPastLast_1 : decode cX5_isPastLast 1 = .ok (.getfield 12, 3) := by decide +kernel
theorem dX5_isPastLast_4 : decode cX5_isPastLast 4 = .ok (.getfield 59, 3) := by decide +kernel
theorem dX5_isPastLast_7 : decode cX5_isPastLast 7 = .ok (.ldc 62, 2) := by decide +kernel
theorem dX5_isPastLast_9 : decode cX5_isPastLast 9 = .ok (.iload_n 1, 1) := by decide +kernel
theorem dX5_isPastLast_10 : decode cX5_isPastLast 10 = .ok (.isub, 1) := by decide +kernel
theorem dX5_isPastLast_11 : decode cX5_isPastLast 11 = .ok (.if_icmp .le 7, 3) := by decide +kernel
theorem dX5_isPastLast_14 : decode cX5_isPastLast 14 = .ok (.iconst 1, 1) := by decide +kernel
theorem dX5_isPastLast_15 : decode cX5_isPastLast 15 = .ok (.goto 4, 3) := by decide +kernel
theorem dX5_isPastLast_18 : decode cX5_isPastLast 18 = .ok (.iconst 0, 1) := by decide +kernel
theorem dX5_isPastLast_19 : decode cX5_isPastLast 19 = .ok (.ireturn, 1) := by decide +kernel
theorem dX5_food_0 : decode cX5_food 0 = .ok (.iload_n 1, 1) := by decide +kernel
theorem dX5_food_1 : decode cX5_food 1 = .ok (.invokestatic 63, 3) := by decide +kernel
theorem dX5_food_4 : decode cX5_food 4 = .ok (.ifCond .ne 10, 3) := by decide +kernel
theorem dX5_food_7 : decode cX5_food 7 = .ok (.aload_n 0, 1) := by decide +kernel
theorem dX5_food_8 : decode cX5_food 8 = .ok (.ldc 44, 2) := by decide +kernel
theorem dX5_food_10 : decode cX5_food 10 = .ok (.invokevirtual 67, 3) := by decide +kernel
theorem dX5_food_13 : decode cX5_food 13 = .ok (.ireturn, 1) := by decide +kernel
theorem dX5_food_14 : decode cX5_food 14 = .ok (.iload_n 2, 1) := by decide +kernel
theorem dX5_food_15 : decode cX5_food 15 = .ok (.ifCond .ne 26, 3) := by decide +kernel
theorem dX5_food_18 : decode cX5_food 18 = .ok (.iload_n 3, 1) := by decide +kernel
theorem dX5_food_19 : decode cX5_food 19 = .ok (.iconst 0, 1) := by decide +kernel
theorem dX5_food_20 : decode cX5_food 20 = .ok (.bipush 99, 2) := by decide +kernel
theorem dX5_food_22 : decode cX5_food 22 = .ok (.invokestatic 45, 3) := by decide +kernel
theorem dX5_food_25 : decode cX5_food 25 = .ok (.ifCond .eq 16, 3) := by decide +kernel
theorem dX5_food_28 : decode cX5_food 28 = .ok (.aload_n 0, 1) := by decide +kernel
theorem dX5_food_29 : decode cX5_food 29 = .ok (.getfield 12, 3) := by decide +kernel
theorem dX5_food_32 : decode cX5_food 32 = .ok (.getfield 71, 3) := by decide +kernel
theorem dX5_food_35 : decode cX5_food 35 = .ok (.iload_n 1, 1) := by decide +kernel
theorem dX5_food_36 : decode cX5_food 36 = .ok (.iload_n 3, 1) := by decide +kernel
theorem dX5_food_37 : decode cX5_food 37 = .ok (.invokestatic 74, 3) := by decide +kernel
theorem dX5_food_40 : decode cX5_food 40 = .ok (.ireturn, 1) := by decide +kernel
theorem dX5_food_41 : decode cX5_food 41 = .ok (.iload_n 2, 1) := by decide +kernel
theorem dX5_food_42 : decode cX5_food 42 = .ok (.iconst 1, 1) := by decide +kernel
theorem dX5_food_43 : decode cX5_food 43 = .ok (.if_icmp .ne 26, 3) := by decide +kernel
theorem dX5_food_46 : decode cX5_food 46 = .ok (.iload_n 3, 1) := by decide +kernel
theorem dX5_food_47 : decode cX5_food 47 = .ok (.iconst 0, 1) := by decide +kernel
theorem dX5_food_48 : decode cX5_food 48 = .ok (.bipush 9, 2) := by decide +kernel
theorem dX5_food_50 : decode cX5_food 50 = .ok (.invokestatic 45, 3) := by decide +kernel
theorem dX5_food_53 : decode cX5_food 53 = .ok (.ifCond .eq 16, 3) := by decide +kernel
theorem dX5_food_56 : decode cX5_food 56 = .ok (.aload_n 0, 1) := by decide +kernel
theorem dX5_food_57 : decode cX5_food 57 = .ok (.getfield 12, 3) := by decide +kernel
theorem dX5_food_60 : decode cX5_food 60 = .ok (.getfield 78, 3) := by decide +kernel
theorem dX5_food_63 : decode cX5_food 63 = .ok (.iload_n 1, 1) := by decide +kernel
theorem dX5_food_64 : decode cX5_food 64 = .ok (.iload_n 3, 1) := by decide +kernel
theorem dX5_food_65 : decode cX5_food 65 = .ok (.invokestatic 74, 3) := by decide +kernel
theorem dX5_food_68 : decode cX5_food 68 = .ok (.ireturn, 1) := by decide +kernel
theorem dX5_food_69 : decode cX5_food 69 = .ok (.aload_n 0, 1) := by decide +kernel
theorem dX5_food_70 : decode cX5_food 70 = .ok (.ldc 44, 2) := by decide +kernel
theorem dX5_food_72 : decode cX5_food 72 = .ok (.invokevirtual 67, 3) := by decide +kernel
theorem dX5_food_75 : decode cX5_food 75 = .ok (.ireturn, 1) := by decide +kernel
theorem dX5_replaced_0 : decode cX5_replaced 0 = .ok (.aload_n 0, 1) := by decide +kernel
theorem dX5_replaced_1 : decode cX5_replaced 1 = .ok (.iload_n 1, 1) := by decide +kernel
theorem dX5_replaced_2 : decode cX5_replaced 2 = .ok (.iaload, 1) := by decide +kernel
theorem dX5_replaced_3 : decode cX5_replaced 3 = .ok (.istore_n 3, 1) := by decide +kernel
theorem dX5_replaced_4 : decode cX5_replaced 4 = .ok (.aload_n 0, 1) := by decide +kernel
theorem dX5_replaced_5 : decode cX5_replaced 5 = .ok (.iload_n 1, 1) := by decide +kernel
theorem dX5_replaced_6 : decode cX5_replaced 6 = .ok (.iload_n 2, 1) := by decide +kernel
theorem dX5_replaced_7 : decode cX5_replaced 7 = .ok (.iastore, 1) := by decide +kernel
theorem dX5_replaced_8 : decode cX5_replaced 8 = .ok (.iload_n 3, 1) := by decide +kernel
theorem dX5_replaced_9 : decode cX5_replaced 9 = .ok (.ireturn, 1) := by decide +kernel
theorem dX5_foodOf_0 : decode cX5_foodOf 0 = .ok (.iload_n 1, 1) := by decide +kernel
theorem dX5_foodOf_1 : decode cX5_foodOf 1 = .ok (.invokestatic 63, 3) := by decide +kernel
theorem dX5_foodOf_4 : decode cX5_foodOf 4 = .ok (.ifCond .ne 10, 3) := by decide +kernel
theorem dX5_foodOf_7 : decode cX5_foodOf 7 = .ok (.aload_n 0, 1) := by decide +kernel
theorem dX5_foodOf_8 : decode cX5_foodOf 8 = .ok (.ldc 44, 2) := by decide +kernel
theorem dX5_foodOf_10 : decode cX5_foodOf 10 = .ok (.invokevirtual 67, 3) := by decide +kernel
theorem dX5_foodOf_13 : decode cX5_foodOf 13 = .ok (.ireturn, 1) := by decide +kernel
theorem dX5_foodOf_14 : decode cX5_foodOf 14 = .ok (.iload_n 2, 1) := by decide +kernel
theorem dX5_foodOf_15 : decode cX5_foodOf 15 = .ok (.tableswitch 76 0 3 #[29, 39, 49, 59], 29) := by decide +kernel
theorem dX5_foodOf_44 : decode cX5_foodOf 44 = .ok (.aload_n 0, 1) := by decide +kernel
theorem dX5_foodOf_45 : decode cX5_foodOf 45 = .ok (.getfield 12, 3) := by decide +kernel
theorem dX5_foodOf_48 : decode cX5_foodOf 48 = .ok (.getfield 71, 3) := by decide +kernel
theorem dX5_foodOf_51 : decode cX5_foodOf 51 = .ok (.iload_n 1, 1) := by decide +kernel
theorem dX5_foodOf_52 : decode cX5_foodOf 52 = .ok (.iaload, 1) := by decide +kernel
theorem dX5_foodOf_53 : decode cX5_foodOf 53 = .ok (.ireturn, 1) := by decide +kernel
theorem dX5_foodOf_54 : decode cX5_foodOf 54 = .ok (.aload_n 0, 1) := by decide +kernel
theorem dX5_foodOf_55 : decode cX5_foodOf 55 = .ok (.getfield 12, 3) := by decide +kernel
theorem dX5_foodOf_58 : decode cX5_foodOf 58 = .ok (.getfield 78, 3) := by decide +kernel
theorem dX5_foodOf_61 : decode cX5_foodOf 61 = .ok (.iload_n 1, 1) := by decide +kernel
theorem dX5_foodOf_62 : decode cX5_foodOf 62 = .ok (.iaload, 1) := by decide +kernel
theorem dX5_foodOf_63 : decode cX5_foodOf 63 = .ok (.ireturn, 1) := by decide +kernel
theorem dX5_foodOf_64 : decode cX5_foodOf 64 = .ok (.aload_n 0, 1) := by decide +kernel
theorem dX5_foodOf_65 : decode cX5_foodOf 65 = .ok (.getfield 12, 3) := by decide +kernel
theorem dX5_foodOf_68 : decode cX5_foodOf 68 = .ok (.getfield 81, 3) := by decide +kernel
theorem dX5_foodOf_71 : decode cX5_foodOf 71 = .ok (.iload_n 1, 1) := by decide +kernel
theorem dX5_foodOf_72 : decode cX5_foodOf 72 = .ok (.iaload, 1) := by decide +kernel
theorem dX5_foodOf_73 : decode cX5_foodOf 73 = .ok (.ireturn, 1) := by decide +kernel
theorem dX5_foodOf_74 : decode cX5_foodOf 74 = .ok (.aload_n 0, 1) := by decide +kernel
theorem dX5_foodOf_75 : decode cX5_foodOf 75 = .ok (.getfield 12, 3) := by decide +kernel
theorem dX5_foodOf_78 : decode cX5_foodOf 78 = .ok (.iload_n 1, 1) := by decide +kernel
theorem dX5_foodOf_79 : decode cX5_foodOf 79 = .ok (.invokevirtual 84, 3) := by decide +kernel
theorem dX5_foodOf_82 : decode cX5_foodOf 82 = .ok (.ifCond .eq 7, 3) := by decide +kernel
theorem dX5_foodOf_85 : decode cX5_foodOf 85 = .ok (.iconst 1, 1) := by decide +kernel
theorem dX5_foodOf_86 : decode cX5_foodOf 86 = .ok (.goto 4, 3) := by decide +kernel
theorem dX5_foodOf_89 : decode cX5_foodOf 89 = .ok (.iconst 0, 1) := by decide +kernel
theorem dX5_foodOf_90 : decode cX5_foodOf 90 = .ok (.ireturn, 1) := by decide +kernel
theorem dX5_foodOf_91 : decode cX5_foodOf 91 = .ok (.aload_n 0, 1) := by decide +kernel
theorem dX5_foodOf_92 : decode cX5_foodOf 92 = .ok (.ldc 44, 2) := by decide +kernel
theorem dX5_foodOf_94 : decode cX5_foodOf 94 = .ok (.invokevirtual 67, 3) := by decide +kernel
theorem dX5_foodOf_97 : decode cX5_foodOf 97 = .ok (.ireturn, 1) := by decide +kernel
theorem dX5_child_0 : decode cX5_child 0 = .ok (.iload_n 2, 1) := by decide +kernel
theorem dX5_child_1 : decode cX5_child 1 = .ok (.iload_n 1, 1) := by decide +kernel
theorem dX5_child_2 : decode cX5_child 2 = .ok (.invokestatic 87, 3) := by decide +kernel
theorem dX5_child_5 : decode cX5_child 5 = .ok (.iload_n 1, 1) := by decide +kernel
theorem dX5_child_6 : decode cX5_child 6 = .ok (.invokestatic 90, 3) := by decide +kernel
theorem dX5_child_9 : decode cX5_child 9 = .ok (.invokestatic 45, 3) := by decide +kernel
theorem dX5_child_12 : decode cX5_child 12 = .ok (.ifCond .ne 10, 3) := by decide +kernel
theorem dX5_child_15 : decode cX5_child 15 = .ok (.aload_n 0, 1) := by decide +kernel
theorem dX5_child_16 : decode cX5_child 16 = .ok (.ldc 44, 2) := by decide +kernel
theorem dX5_child_18 : decode cX5_child 18 = .ok (.invokevirtual 67, 3) := by decide +kernel
theorem dX5_child_21 : decode cX5_child 21 = .ok (.ireturn, 1) := by decide +kernel
theorem dX5_child_22 : decode cX5_child 22 = .ok (.aload_n 0, 1) := by decide +kernel
theorem dX5_child_23 : decode cX5_child 23 = .ok (.getfield 12, 3) := by decide +kernel
theorem dX5_child_26 : decode cX5_child 26 = .ok (.iload_n 1, 1) := by decide +kernel
theorem dX5_child_27 : decode cX5_child 27 = .ok (.invokevirtual 93, 3) := by decide +kernel
theorem dX5_child_30 : decode cX5_child 30 = .ok (.istore_n 3, 1) := by decide +kernel
theorem dX5_child_31 : decode cX5_child 31 = .ok (.aload_n 0, 1) := by decide +kernel
theorem dX5_child_32 : decode cX5_child 32 = .ok (.getfield 12, 3) := by decide +kernel
theorem dX5_child_35 : decode cX5_child 35 = .ok (.iload_n 1, 1) := by decide +kernel
theorem dX5_child_36 : decode cX5_child 36 = .ok (.iload_n 2, 1) := by decide +kernel
theorem dX5_child_37 : decode cX5_child 37 = .ok (.invokevirtual 96, 3) := by decide +kernel
theorem dX5_child_40 : decode cX5_child 40 = .ok (.iload_n 3, 1) := by decide +kernel
theorem dX5_child_41 : decode cX5_child 41 = .ok (.ireturn, 1) := by decide +kernel
theorem dX5_pudding_0 : decode cX5_pudding 0 = .ok (.iload_n 1, 1) := by decide +kernel
theorem dX5_pudding_1 : decode cX5_pudding 1 = .ok (.iconst (-1), 1) := by decide +kernel
theorem dX5_pudding_2 : decode cX5_pudding 2 = .ok (.if_icmp .eq 17, 3) := by decide +kernel
theorem dX5_pudding_5 : decode cX5_pudding 5 = .ok (.iload_n 1, 1) := by decide +kernel
theorem dX5_pudding_6 : decode cX5_pudding 6 = .ok (.invokestatic 63, 3) := by decide +kernel
theorem dX5_pudding_9 : decode cX5_pudding 9 = .ok (.ifCond .ne 10, 3) := by decide +kernel
theorem dX5_pudding_12 : decode cX5_pudding 12 = .ok (.aload_n 0, 1) := by decide +kernel
theorem dX5_pudding_13 : decode cX5_pudding 13 = .ok (.ldc 44, 2) := by decide +kernel
theorem dX5_pudding_15 : decode cX5_pudding 15 = .ok (.invokevirtual 67, 3) := by decide +kernel
theorem dX5_pudding_18 : decode cX5_pudding 18 = .ok (.ireturn, 1) := by decide +kernel
theorem dX5_pudding_19 : decode cX5_pudding 19 = .ok (.aload_n 0, 1) := by decide +kernel
theorem dX5_pudding_20 : decode cX5_pudding 20 = .ok (.getfield 12, 3) := by decide +kernel
theorem dX5_pudding_23 : decode cX5_pudding 23 = .ok (.getfield 100, 3) := by decide +kernel
theorem dX5_pudding_26 : decode cX5_pudding 26 = .ok (.istore_n 2, 1) := by decide +kernel
theorem dX5_pudding_27 : decode cX5_pudding 27 = .ok (.aload_n 0, 1) := by decide +kernel
theorem dX5_pudding_28 : decode cX5_pudding 28 = .ok (.getfield 12, 3) := by decide +kernel
theorem dX5_pudding_31 : decode cX5_pudding 31 = .ok (.iload_n 1, 1) := by decide +kernel
theorem dX5_pudding_32 : decode cX5_pudding 32 = .ok (.putfield 100, 3) := by decide +kernel
theorem dX5_pudding_35 : decode cX5_pudding 35 = .ok (.iload_n 2, 1) := by decide +kernel
theorem dX5_pudding_36 : decode cX5_pudding 36 = .ok (.ireturn, 1) := by decide +kernel
theorem dX5_friend_0 : decode cX5_friend 0 = .ok (.iload_n 1, 1) := by decide +kernel
theorem dX5_friend_1 : decode cX5_friend 1 = .ok (.iconst 0, 1) := by decide +kernel
theorem dX5_friend_2 : decode cX5_friend 2 = .ok (.sipush 1023, 3) := by decide +kernel
theorem dX5_friend_5 : decode cX5_friend 5 = .ok (.invokestatic 45, 3) := by decide +kernel
theorem dX5_friend_8 : decode cX5_friend 8 = .ok (.ifCond .ne 10, 3) := by decide +kernel
theorem dX5_friend_11 : decode cX5_friend 11 = .ok (.aload_n 0, 1) := by decide +kernel
theorem dX5_friend_12 : decode cX5_friend 12 = .ok (.ldc 44, 2) := by decide +kernel
theorem dX5_friend_14 : decode cX5_friend 14 = .ok (.invokevirtual 67, 3) := by decide +kernel
theorem dX5_friend_17 : decode cX5_friend 17 = .ok (.ireturn, 1) := by decide +kernel
theorem dX5_friend_18 : decode cX5_friend 18 = .ok (.aload_n 0, 1) := by decide +kernel
theorem dX5_friend_19 : decode cX5_friend 19 = .ok (.getfield 12, 3) := by decide +kernel
theorem dX5_friend_22 : decode cX5_friend 22 = .ok (.getfield 103, 3) := by decide +kernel
theorem dX5_friend_25 : decode cX5_friend 25 = .ok (.istore_n 2, 1) := by decide +kernel
theorem dX5_friend_26 : decode cX5_friend 26 = .ok (.aload_n 0, 1) := by decide +kernel
theorem dX5_friend_27 : decode cX5_friend 27 = .ok (.getfield 12, 3) := by decide +kernel
theorem dX5_friend_30 : decode cX5_friend 30 = .ok (.iload_n 1, 1) := by decide +kernel
theorem dX5_friend_31 : decode cX5_friend 31 = .ok (.putfield 103, 3) := by decide +kernel
theorem dX5_friend_34 : decode cX5_friend 34 = .ok (.iload_n 2, 1) := by decide +kernel
theorem dX5_friend_35 : decode cX5_friend 35 = .ok (.ireturn, 1) := by decide +kernel
theorem dX5_liked_0 : decode cX5_liked 0 = .ok (.aload_n 0, 1) := by decide +kernel
theorem dX5_liked_1 : decode cX5_liked 1 = .ok (.getfield 12, 3) := by decide +kernel
theorem dX5_liked_4 : decode cX5_liked 4 = .ok (.invokevirtual 106, 3) := by decide +kernel
theorem dX5_liked_7 : decode cX5_liked 7 = .ok (.ireturn, 1) := by decide +kernel
theorem dX5_next_0 : decode cX5_next 0 = .ok (.iconst (-1), 1) := by decide +kernel
theorem dX5_next_1 : decode cX5_next 1 = .ok (.istore_n 1, 1) := by decide +kernel
theorem dX5_next_2 : decode cX5_next 2 = .ok (.iconst 0, 1) := by decide +kernel
theorem dX5_next_3 : decode cX5_next 3 = .ok (.istore_n 2, 1) := by decide +kernel
theorem dX5_next_4 : decode cX5_next 4 = .ok (.iload_n 2, 1) := by decide +kernel
theorem dX5_next_5 : decode cX5_next 5 = .ok (.bipush 10, 2) := by decide +kernel
theorem dX5_next_7 : decode cX5_next 7 = .ok (.if_icmp .ge 47, 3) := by decide +kernel
theorem dX5_next_10 : decode cX5_next 10 = .ok (.aload_n 0, 1) := by decide +kernel
theorem dX5_next_11 : decode cX5_next 11 = .ok (.getfield 12, 3) := by decide +kernel
theorem dX5_next_14 : decode cX5_next 14 = .ok (.iload_n 2, 1) := by decide +kernel
theorem dX5_next_15 : decode cX5_next 15 = .ok (.invokevirtual 84, 3) := by decide +kernel
theorem dX5_next_18 : decode cX5_next 18 = .ok (.ifCond .ne 30, 3) := by decide +kernel
theorem dX5_next_21 : decode cX5_next 21 = .ok (.iload_n 1, 1) := by decide +kernel
theorem dX5_next_22 : decode cX5_next 22 = .ok (.ifCond .lt 24, 3) := by decide +kernel
theorem dX5_next_25 : decode cX5_next 25 = .ok (.aload_n 0, 1) := by decide +kernel
theorem dX5_next_26 : decode cX5_next 26 = .ok (.getfield 12, 3) := by decide +kernel
theorem dX5_next_29 : decode cX5_next 29 = .ok (.getfield 71, 3) := by decide +kernel
theorem dX5_next_32 : decode cX5_next 32 = .ok (.iload_n 2, 1) := by decide +kernel
theorem dX5_next_33 : decode cX5_next 33 = .ok (.iaload, 1) := by decide +kernel
theorem dX5_next_34 : decode cX5_next 34 = .ok (.aload_n 0, 1) := by decide +kernel
theorem dX5_next_35 : decode cX5_next 35 = .ok (.getfield 12, 3) := by decide +kernel
theorem dX5_next_38 : decode cX5_next 38 = .ok (.getfield 71, 3) := by decide +kernel
theorem dX5_next_41 : decode cX5_next 41 = .ok (.iload_n 1, 1) := by decide +kernel
theorem dX5_next_42 : decode cX5_next 42 = .ok (.iaload, 1) := by decide +kernel
theorem dX5_next_43 : decode cX5_next 43 = .ok (.if_icmp .le 5, 3) := by decide +kernel
theorem dX5_next_46 : decode cX5_next 46 = .ok (.iload_n 2, 1) := by decide +kernel
theorem dX5_next_47 : decode cX5_next 47 = .ok (.istore_n 1, 1) := by decide +kernel
theorem dX5_next_48 : decode cX5_next 48 = .ok (.iinc 2 1, 3) := by decide +kernel
theorem dX5_next_51 : decode cX5_next 51 = .ok (.goto (-47), 3) := by decide +kernel
theorem dX5_next_54 : decode cX5_next 54 = .ok (.iload_n 1, 1) := by decide +kernel
theorem dX5_next_55 : decode cX5_next 55 = .ok (.ifCond .ge 12, 3) := by decide +kernel
theorem dX5_next_58 : decode cX5_next 58 = .ok (.aload_n 0, 1) := by decide +kernel
theorem dX5_next_59 : decode cX5_next 59 = .ok (.ldc 110, 2) := by decide +kernel
theorem dX5_next_61 : decode cX5_next 61 = .ok (.invokevirtual 67, 3) := by decide +kernel
theorem dX5_next_64 : decode cX5_next 64 = .ok (.goto 4, 3) := by decide +kernel
theorem dX5_next_67 : decode cX5_next 67 = .ok (.iload_n 1, 1) := by decide +kernel
theorem dX5_next_68 : decode cX5_next 68 = .ok (.ireturn, 1) := by decide +kernel
theorem dX5_taste_0 : decode cX5_taste 0 = .ok (.iload_n 1, 1) := by decide +kernel
theorem dX5_taste_1 : decode cX5_taste 1 = .ok (.invokestatic 111, 3) := by decide +kernel
theorem dX5_taste_4 : decode cX5_taste 4 = .ok (.ifCond .eq 17, 3) := by decide +kernel
theorem dX5_taste_7 : decode cX5_taste 7 = .ok (.iload_n 2, 1) := by decide +kernel
theorem dX5_taste_8 : decode cX5_taste 8 = .ok (.invokestatic 63, 3) := by decide +kernel
theorem dX5_taste_11 : decode cX5_taste 11 = .ok (.ifCond .eq 10, 3) := by decide +kernel
theorem dX5_taste_14 : decode cX5_taste 14 = .ok (.iload_n 3, 1) := by decide +kernel
theorem dX5_taste_15 : decode cX5_taste 15 = .ok (.invokestatic 114, 3) := by decide +kernel
theorem dX5_taste_18 : decode cX5_taste 18 = .ok (.ifCond .ne 10, 3) := by decide +kernel
theorem dX5_taste_21 : decode cX5_taste 21 = .ok (.aload_n 0, 1) := by decide +kernel
theorem dX5_taste_22 : decode cX5_taste 22 = .ok (.ldc 44, 2) := by decide +kernel
theorem dX5_taste_24 : decode cX5_taste 24 = .ok (.invokevirtual 67, 3) := by decide +kernel
theorem dX5_taste_27 : decode cX5_taste 27 = .ok (.ireturn, 1) := by decide +kernel
theorem dX5_taste_28 : decode cX5_taste 28 = .ok (.aload_n 0, 1) := by decide +kernel
theorem dX5_taste_29 : decode cX5_taste 29 = .ok (.getfield 12, 3) := by decide +kernel
theorem dX5_taste_32 : decode cX5_taste 32 = .ok (.getfield 49, 3) := by decide +kernel
theorem dX5_taste_35 : decode cX5_taste 35 = .ok (.invokevirtual 117, 3) := by decide +kernel
theorem dX5_taste_38 : decode cX5_taste 38 = .ok (.ifCond .eq 10, 3) := by decide +kernel
theorem dX5_taste_41 : decode cX5_taste 41 = .ok (.aload_n 0, 1) := by decide +kernel
theorem dX5_taste_42 : decode cX5_taste 42 = .ok (.ldc 121, 2) := by decide +kernel
theorem dX5_taste_44 : decode cX5_taste 44 = .ok (.invokevirtual 67, 3) := by decide +kernel
theorem dX5_taste_47 : decode cX5_taste 47 = .ok (.ireturn, 1) := by decide +kernel
theorem dX5_taste_48 : decode cX5_taste 48 = .ok (.aload_n 0, 1) := by decide +kernel
theorem dX5_taste_49 : decode cX5_taste 49 = .ok (.getfield 12, 3) := by decide +kernel
theorem dX5_taste_52 : decode cX5_taste 52 = .ok (.getfield 49, 3) := by decide +kernel
theorem dX5_taste_55 : decode cX5_taste 55 = .ok (.iload_n 1, 1) := by decide +kernel
theorem dX5_taste_56 : decode cX5_taste 56 = .ok (.iload_n 2, 1) := by decide +kernel
theorem dX5_taste_57 : decode cX5_taste 57 = .ok (.iload_n 3, 1) := by decide +kernel
theorem dX5_taste_58 : decode cX5_taste 58 = .ok (.invokevirtual 122, 3) := by decide +kernel
theorem dX5_taste_61 : decode cX5_taste 61 = .ok (.ireturn, 1) := by decide +kernel
theorem dX5_tasteOf_0 : decode cX5_tasteOf 0 = .ok (.aload_n 0, 1) := by decide +kernel
theorem dX5_tasteOf_1 : decode cX5_tasteOf 1 = .ok (.iload_n 1, 1) := by decide +kernel
theorem dX5_tasteOf_2 : decode cX5_tasteOf 2 = .ok (.invokevirtual 126, 3) := by decide +kernel
theorem dX5_tasteOf_5 : decode cX5_tasteOf 5 = .ok (.ifCond .ne 10, 3) := by decide +kernel
theorem dX5_tasteOf_8 : decode cX5_tasteOf 8 = .ok (.aload_n 0, 1) := by decide +kernel
theorem dX5_tasteOf_9 : decode cX5_tasteOf 9 = .ok (.ldc 44, 2) := by decide +kernel
theorem dX5_tasteOf_11 : decode cX5_tasteOf 11 = .ok (.invokevirtual 67, 3) := by decide +kernel
theorem dX5_tasteOf_14 : decode cX5_tasteOf 14 = .ok (.ireturn, 1) := by decide +kernel
theorem dX5_tasteOf_15 : decode cX5_tasteOf 15 = .ok (.iload_n 2, 1) := by decide +kernel
theorem dX5_tasteOf_16 : decode cX5_tasteOf 16 = .ok (.tableswitch 95 0 4 #[36, 49, 62, 75, 85], 36) := by decide +kernel
theorem dX5_tasteOf_52 : decode cX5_tasteOf 52 = .ok (.aload_n 0, 1) := by decide +kernel
theorem dX5_tasteOf_53 : decode cX5_tasteOf 53 = .ok (.getfield 12, 3) := by decide +kernel
theorem dX5_tasteOf_56 : decode cX5_tasteOf 56 = .ok (.getfield 49, 3) := by decide +kernel
theorem dX5_tasteOf_59 : decode cX5_tasteOf 59 = .ok (.getfield 129, 3) := by decide +kernel
theorem dX5_tasteOf_62 : decode cX5_tasteOf 62 = .ok (.iload_n 1, 1) := by decide +kernel
theorem dX5_tasteOf_63 : decode cX5_tasteOf 63 = .ok (.iaload, 1) := by decide +kernel
theorem dX5_tasteOf_64 : decode cX5_tasteOf 64 = .ok (.ireturn, 1) := by decide +kernel
theorem dX5_tasteOf_65 : decode cX5_tasteOf 65 = .ok (.aload_n 0, 1) := by decide +kernel
theorem dX5_tasteOf_66 : decode cX5_tasteOf 66 = .ok (.getfield 12, 3) := by decide +kernel
theorem dX5_tasteOf_69 : decode cX5_tasteOf 69 = .ok (.getfield 49, 3) := by decide +kernel
theorem dX5_tasteOf_72 : decode cX5_tasteOf 72 = .ok (.getfield 132, 3) := by decide +kernel
theorem dX5_tasteOf_75 : decode cX5_tasteOf 75 = .ok (.iload_n 1, 1) := by decide +kernel
theorem dX5_tasteOf_76 : decode cX5_tasteOf 76 = .ok (.iaload, 1) := by decide +kernel
theorem dX5_tasteOf_77 : decode cX5_tasteOf 77 = .ok (.ireturn, 1) := by decide +kernel
theorem dX5_tasteOf_78 : decode cX5_tasteOf 78 = .ok (.aload_n 0, 1) := by decide +kernel
theorem dX5_tasteOf_79 : decode cX5_tasteOf 79 = .ok (.getfield 12, 3) := by decide +kernel
theorem dX5_tasteOf_82 : decode cX5_tasteOf 82 = .ok (.getfield 49, 3) := by decide +kernel
theorem dX5_tasteOf_85 : decode cX5_tasteOf 85 = .ok (.getfield 135, 3) := by decide +kernel
theorem dX5_tasteOf_88 : decode cX5_tasteOf 88 = .ok (.iload_n 1, 1) := by decide +kernel
theorem dX5_tasteOf_89 : decode cX5_tasteOf 89 = .ok (.iaload, 1) := by decide +kernel
theorem dX5_tasteOf_90 : decode cX5_tasteOf 90 = .ok (.ireturn, 1) := by decide +kernel
theorem dX5_tasteOf_91 : decode cX5_tasteOf 91 = .ok (.aload_n 0, 1) := by decide +kernel
theorem dX5_tasteOf_92 : decode cX5_tasteOf 92 = .ok (.getfield 12, 3) := by decide +kernel
theorem dX5_tasteOf_95 : decode cX5_tasteOf 95 = .ok (.iload_n 1, 1) := by decide +kernel
theorem dX5_tasteOf_96 : decode cX5_tasteOf 96 = .ok (.iconst 0, 1) := by decide +kernel
theorem dX5_tasteOf_97 : decode cX5_tasteOf 97 = .ok (.invokevirtual 138, 3) := by decide +kernel
theorem dX5_tasteOf_100 : decode cX5_tasteOf 100 = .ok (.ireturn, 1) := by decide +kernel
theorem dX5_tasteOf_101 : decode cX5_tasteOf 101 = .ok (.aload_n 0, 1) := by decide +kernel
theorem dX5_tasteOf_102 : decode cX5_tasteOf 102 = .ok (.getfield 12, 3) := by decide +kernel
theorem dX5_tasteOf_105 : decode cX5_tasteOf 105 = .ok (.iload_n 1, 1) := by decide +kernel
theorem dX5_tasteOf_106 : decode cX5_tasteOf 106 = .ok (.iconst 0, 1) := by decide +kernel
theorem dX5_tasteOf_107 : decode cX5_tasteOf 107 = .ok (.invokevirtual 142, 3) := by decide +kernel
theorem dX5_tasteOf_110 : decode cX5_tasteOf 110 = .ok (.ireturn, 1) := by decide +kernel
theorem dX5_tasteOf_111 : decode cX5_tasteOf 111 = .ok (.aload_n 0, 1) := by decide +kernel
theorem dX5_tasteOf_112 : decode cX5_tasteOf 112 = .ok (.ldc 44, 2) := by decide +kernel
theorem dX5_tasteOf_114 : decode cX5_tasteOf 114 = .ok (.invokevirtual 67, 3) := by decide +kernel
theorem dX5_tasteOf_117 : decode cX5_tasteOf 117 = .ok (.ireturn, 1) := by decide +kernel
theorem dX5_change_0 : decode cX5_change 0 = .ok (.aload_n 0, 1) := by decide +kernel
theorem dX5_change_1 : decode cX5_change 1 = .ok (.iload_n 1, 1) := by decide +kernel
theorem dX5_change_2 : decode cX5_change 2 = .ok (.invokevirtual 126, 3) := by decide +kernel
theorem dX5_change_5 : decode cX5_change 5 = .ok (.ifCond .ne 10, 3) := by decide +kernel
theorem dX5_change_8 : decode cX5_change 8 = .ok (.aload_n 0, 1) := by decide +kernel
theorem dX5_change_9 : decode cX5_change 9 = .ok (.ldc 44, 2) := by decide +kernel
theorem dX5_change_11 : decode cX5_change 11 = .ok (.invokevirtual 67, 3) := by decide +kernel
theorem dX5_change_14 : decode cX5_change 14 = .ok (.ireturn, 1) := by decide +kernel
theorem dX5_change_15 : decode cX5_change 15 = .ok (.iload_n 3, 1) := by decide +kernel
theorem dX5_change_16 : decode cX5_change 16 = .ok (.iload_n 2, 1) := by decide +kernel
theorem dX5_change_17 : decode cX5_change 17 = .ok (.invokestatic 145, 3) := by decide +kernel
theorem dX5_change_20 : decode cX5_change 20 = .ok (.iload_n 2, 1) := by decide +kernel
theorem dX5_change_21 : decode cX5_change 21 = .ok (.invokestatic 148, 3) := by decide +kernel
theorem dX5_change_24 : decode cX5_change 24 = .ok (.invokestatic 45, 3) := by decide +kernel
theorem dX5_change_27 : decode cX5_change 27 = .ok (.ifCond .ne 10, 3) := by decide +kernel
theorem dX5_change_30 : decode cX5_change 30 = .ok (.aload_n 0, 1) := by decide +kernel
theorem dX5_change_31 : decode cX5_change 31 = .ok (.ldc 44, 2) := by decide +kernel
theorem dX5_change_33 : decode cX5_change 33 = .ok (.invokevirtual 67, 3) := by decide +kernel
theorem dX5_change_36 : decode cX5_change 36 = .ok (.ireturn, 1) := by decide +kernel
theorem dX5_change_37 : decode cX5_change 37 = .ok (.aload_n 0, 1) := by decide +kernel
theorem dX5_change_38 : decode cX5_change 38 = .ok (.getfield 12, 3) := by decide +kernel
theorem dX5_change_41 : decode cX5_change 41 = .ok (.getfield 49, 3) := by decide +kernel
theorem dX5_change_44 : decode cX5_change 44 = .ok (.iload_n 2, 1) := by decide +kernel
theorem dX5_change_45 : decode cX5_change 45 = .ok (.invokevirtual 151, 3) := by decide +kernel
theorem dX5_change_48 : decode cX5_change 48 = .ok (.iload_n 1, 1) := by decide +kernel
theorem dX5_change_49 : decode cX5_change 49 = .ok (.iload_n 3, 1) := by decide +kernel
theorem dX5_change_50 : decode cX5_change 50 = .ok (.invokestatic 74, 3) := by decide +kernel
theorem dX5_change_53 : decode cX5_change 53 = .ok (.ireturn, 1) := by decide +kernel
theorem dX5_swap_0 : decode cX5_swap 0 = .ok (.aload_n 0, 1) := by decide +kernel
theorem dX5_swap_1 : decode cX5_swap 1 = .ok (.iload_n 1, 1) := by decide +kernel
theorem dX5_swap_2 : decode cX5_swap 2 = .ok (.invokevirtual 126, 3) := by decide +kernel
theorem dX5_swap_5 : decode cX5_swap 5 = .ok (.ifCond .eq 11, 3) := by decide +kernel
theorem dX5_swap_8 : decode cX5_swap 8 = .ok (.aload_n 0, 1) := by decide +kernel
theorem dX5_swap_9 : decode cX5_swap 9 = .ok (.iload_n 2, 1) := by decide +kernel
theorem dX5_swap_10 : decode cX5_swap 10 = .ok (.invokevirtual 126, 3) := by decide +kernel
theorem dX5_swap_13 : decode cX5_swap 13 = .ok (.ifCond .ne 10, 3) := by decide +kernel
theorem dX5_swap_16 : decode cX5_swap 16 = .ok (.aload_n 0, 1) := by decide +kernel
theorem dX5_swap_17 : decode cX5_swap 17 = .ok (.ldc 44, 2) := by decide +kernel
theorem dX5_swap_19 : decode cX5_swap 19 = .ok (.invokevirtual 67, 3) := by decide +kernel
theorem dX5_swap_22 : decode cX5_swap 22 = .ok (.ireturn, 1) := by decide +kernel
theorem dX5_swap_23 : decode cX5_swap 23 = .ok (.aload_n 0, 1) := by decide +kernel
theorem dX5_swap_24 : decode cX5_swap 24 = .ok (.getfield 12, 3) := by decide +kernel
theorem dX5_swap_27 : decode cX5_swap 27 = .ok (.getfield 49, 3) := by decide +kernel
theorem dX5_swap_30 : decode cX5_swap 30 = .ok (.iload_n 1, 1) := by decide +kernel
theorem dX5_swap_31 : decode cX5_swap 31 = .ok (.iload_n 2, 1) := by decide +kernel
theorem dX5_swap_32 : decode cX5_swap 32 = .ok (.invokevirtual 155, 3) := by decide +kernel
theorem dX5_swap_35 : decode cX5_swap 35 = .ok (.iconst 1, 1) := by decide +kernel
theorem dX5_swap_36 : decode cX5_swap 36 = .ok (.ireturn, 1) := by decide +kernel
theorem dX5_drop_0 : decode cX5_drop 0 = .ok (.aload_n 0, 1) := by decide +kernel
theorem dX5_drop_1 : decode cX5_drop 1 = .ok (.getfield 12, 3) := by decide +kernel
theorem dX5_drop_4 : decode cX5_drop 4 = .ok (.getfield 49, 3) := by decide +kernel
theorem dX5_drop_7 : decode cX5_drop 7 = .ok (.getfield 53, 3) := by decide +kernel
theorem dX5_drop_10 : decode cX5_drop 10 = .ok (.ifCond .ne 10, 3) := by decide +kernel
theorem dX5_drop_13 : decode cX5_drop 13 = .ok (.aload_n 0, 1) := by decide +kernel
theorem dX5_drop_14 : decode cX5_drop 14 = .ok (.ldc 110, 2) := by decide +kernel
theorem dX5_drop_16 : decode cX5_drop 16 = .ok (.invokevirtual 67, 3) := by decide +kernel
theorem dX5_drop_19 : decode cX5_drop 19 = .ok (.ireturn, 1) := by decide +kernel
theorem dX5_drop_20 : decode cX5_drop 20 = .ok (.aload_n 0, 1) := by decide +kernel
theorem dX5_drop_21 : decode cX5_drop 21 = .ok (.getfield 12, 3) := by decide +kernel
theorem dX5_drop_24 : decode cX5_drop 24 = .ok (.getfield 49, 3) := by decide +kernel
theorem dX5_drop_27 : decode cX5_drop 27 = .ok (.dup, 1) := by decide +kernel
theorem dX5_drop_28 : decode cX5_drop 28 = .ok (.getfield 53, 3) := by decide +kernel
theorem dX5_drop_31 : decode cX5_drop 31 = .ok (.iconst 1, 1) := by decide +kernel
theorem dX5_drop_32 : decode cX5_drop 32 = .ok (.isub, 1) := by decide +kernel
theorem dX5_drop_33 : decode cX5_drop 33 = .ok (.putfield 53, 3) := by decide +kernel
theorem dX5_drop_36 : decode cX5_drop 36 = .ok (.aload_n 0, 1) := by decide +kernel
theorem dX5_drop_37 : decode cX5_drop 37 = .ok (.getfield 12, 3) := by decide +kernel
theorem dX5_drop_40 : decode cX5_drop 40 = .ok (.aload_n 0, 1) := by decide +kernel
theorem dX5_drop_41 : decode cX5_drop 41 = .ok (.getfield 12, 3) := by decide +kernel
theorem dX5_drop_44 : decode cX5_drop 44 = .ok (.getfield 49, 3) := by decide +kernel
theorem dX5_drop_47 : decode cX5_drop 47 = .ok (.getfield 53, 3) := by decide +kernel
theorem dX5_drop_50 : decode cX5_drop 50 = .ok (.invokevirtual 158, 3) := by decide +kernel
theorem dX5_drop_53 : decode cX5_drop 53 = .ok (.aload_n 0, 1) := by decide +kernel
theorem dX5_drop_54 : decode cX5_drop 54 = .ok (.getfield 12, 3) := by decide +kernel
theorem dX5_drop_57 : decode cX5_drop 57 = .ok (.getfield 49, 3) := by decide +kernel
theorem dX5_drop_60 : decode cX5_drop 60 = .ok (.getfield 53, 3) := by decide +kernel
theorem dX5_drop_63 : decode cX5_drop 63 = .ok (.ireturn, 1) := by decide +kernel
theorem dX5_meals_0 : decode cX5_meals 0 = .ok (.iload_n 1, 1) := by decide +kernel
theorem dX5_meals_1 : decode cX5_meals 1 = .ok (.iconst 1, 1) := by decide +kernel
theorem dX5_meals_2 : decode cX5_meals 2 = .ok (.bipush 70, 2) := by decide +kernel
theorem dX5_meals_4 : decode cX5_meals 4 = .ok (.invokestatic 45, 3) := by decide +kernel
theorem dX5_meals_7 : decode cX5_meals 7 = .ok (.ifCond .ne 10, 3) := by decide +kernel
theorem dX5_meals_10 : decode cX5_meals 10 = .ok (.aload_n 0, 1) := by decide +kernel
theorem dX5_meals_11 : decode cX5_meals 11 = .ok (.ldc 44, 2) := by decide +kernel
theorem dX5_meals_13 : decode cX5_meals 13 = .ok (.invokevirtual 67, 3) := by decide +kernel
theorem dX5_meals_16 : decode cX5_meals 16 = .ok (.ireturn, 1) := by decide +kernel
theorem dX5_meals_17 : decode cX5_meals 17 = .ok (.aload_n 0, 1) := by decide +kernel
theorem dX5_meals_18 : decode cX5_meals 18 = .ok (.iload_n 1, 1) := by decide +kernel
theorem dX5_meals_19 : decode cX5_meals 19 = .ok (.invokevirtual 162, 3) := by decide +kernel
theorem dX5_meals_22 : decode cX5_meals 22 = .ok (.ifCond .eq 10, 3) := by decide +kernel
theorem dX5_meals_25 : decode cX5_meals 25 = .ok (.aload_n 0, 1) := by decide +kernel
theorem dX5_meals_26 : decode cX5_meals 26 = .ok (.ldc 165, 2) := by decide +kernel
theorem dX5_meals_28 : decode cX5_meals 28 = .ok (.invokevirtual 67, 3) := by decide +kernel
theorem dX5_meals_31 : decode cX5_meals 31 = .ok (.ireturn, 1) := by decide +kernel
theorem dX5_meals_32 : decode cX5_meals 32 = .ok (.aload_n 0, 1) := by decide +kernel
theorem dX5_meals_33 : decode cX5_meals 33 = .ok (.getfield 12, 3) := by decide +kernel
theorem dX5_meals_36 : decode cX5_meals 36 = .ok (.iload_n 1, 1) := by decide +kernel
theorem dX5_meals_37 : decode cX5_meals 37 = .ok (.invokevirtual 166, 3) := by decide +kernel
theorem dX5_meals_40 : decode cX5_meals 40 = .ok (.ireturn, 1) := by decide +kernel
theorem dX5_now_0 : decode cX5_now 0 = .ok (.iload_n 1, 1) := by decide +kernel
theorem dX5_now_1 : decode cX5_now 1 = .ok (.tableswitch 157 0 10 #[59, 67, 77, 85, 93, 101, 109, 117, 125, 133, 141], 59) := by decide +kernel
theorem dX5_now_60 : decode cX5_now 60 = .ok (.aload_n 0, 1) := by decide +kernel
theorem dX5_now_61 : decode cX5_now 61 = .ok (.getfield 12, 3) := by decide +kernel
theorem dX5_now_64 : decode cX5_now 64 = .ok (.getfield 59, 3) := by decide +kernel
theorem dX5_now_67 : decode cX5_now 67 = .ok (.ireturn, 1) := by decide +kernel
theorem dX5_now_68 : decode cX5_now 68 = .ok (.aload_n 0, 1) := by decide +kernel
theorem dX5_now_69 : decode cX5_now 69 = .ok (.getfield 12, 3) := by decide +kernel
theorem dX5_now_72 : decode cX5_now 72 = .ok (.getfield 59, 3) := by decide +kernel
theorem dX5_now_75 : decode cX5_now 75 = .ok (.iconst 5, 1) := by decide +kernel
theorem dX5_now_76 : decode cX5_now 76 = .ok (.idiv, 1) := by decide +kernel
theorem dX5_now_77 : decode cX5_now 77 = .ok (.ireturn, 1) := by decide +kernel
theorem dX5_now_78 : decode cX5_now 78 = .ok (.aload_n 0, 1) := by decide +kernel
theorem dX5_now_79 : decode cX5_now 79 = .ok (.getfield 12, 3) := by decide +kernel
theorem dX5_now_82 : decode cX5_now 82 = .ok (.getfield 169, 3) := by decide +kernel
theorem dX5_now_85 : decode cX5_now 85 = .ok (.ireturn, 1) := by decide +kernel
theorem dX5_now_86 : decode cX5_now 86 = .ok (.aload_n 0, 1) := by decide +kernel
theorem dX5_now_87 : decode cX5_now 87 = .ok (.getfield 12, 3) := by decide +kernel
theorem dX5_now_90 : decode cX5_now 90 = .ok (.getfield 172, 3) := by decide +kernel
theorem dX5_now_93 : decode cX5_now 93 = .ok (.ireturn, 1) := by decide +kernel
theorem dX5_now_94 : decode cX5_now 94 = .ok (.aload_n 0, 1) := by decide +kernel
theorem dX5_now_95 : decode cX5_now 95 = .ok (.getfield 12, 3) := by decide +kernel
theorem dX5_now_98 : decode cX5_now 98 = .ok (.getfield 175, 3) := by decide +kernel
theorem dX5_now_101 : decode cX5_now 101 = .ok (.ireturn, 1) := by decide +kernel
theorem dX5_now_102 : decode cX5_now 102 = .ok (.aload_n 0, 1) := by decide +kernel
theorem dX5_now_103 : decode cX5_now 103 = .ok (.getfield 12, 3) := by decide +kernel
theorem dX5_now_106 : decode cX5_now 106 = .ok (.getfield 178, 3) := by decide +kernel
theorem dX5_now_109 : decode cX5_now 109 = .ok (.ireturn, 1) := by decide +kernel
theorem dX5_now_110 : decode cX5_now 110 = .ok (.aload_n 0, 1) := by decide +kernel
theorem dX5_now_111 : decode cX5_now 111 = .ok (.getfield 12, 3) := by decide +kernel
theorem dX5_now_114 : decode cX5_now 114 = .ok (.getfield 100, 3) := by decide +kernel
theorem dX5_now_117 : decode cX5_now 117 = .ok (.ireturn, 1) := by decide +kernel
theorem dX5_now_118 : decode cX5_now 118 = .ok (.aload_n 0, 1) := by decide +kernel
theorem dX5_now_119 : decode cX5_now 119 = .ok (.getfield 12, 3) := by decide +kernel
theorem dX5_now_122 : decode cX5_now 122 = .ok (.getfield 103, 3) := by decide +kernel
theorem dX5_now_125 : decode cX5_now 125 = .ok (.ireturn, 1) := by decide +kernel
theorem dX5_now_126 : decode cX5_now 126 = .ok (.aload_n 0, 1) := by decide +kernel
theorem dX5_now_127 : decode cX5_now 127 = .ok (.getfield 12, 3) := by decide +kernel
theorem dX5_now_130 : decode cX5_now 130 = .ok (.invokevirtual 181, 3) := by decide +kernel
theorem dX5_now_133 : decode cX5_now 133 = .ok (.ireturn, 1) := by decide +kernel
theorem dX5_now_134 : decode cX5_now 134 = .ok (.aload_n 0, 1) := by decide +kernel
theorem dX5_now_135 : decode cX5_now 135 = .ok (.getfield 12, 3) := by decide +kernel
theorem dX5_now_138 : decode cX5_now 138 = .ok (.invokevirtual 184, 3) := by decide +kernel
theorem dX5_now_141 : decode cX5_now 141 = .ok (.ireturn, 1) := by decide +kernel
theorem dX5_now_142 : decode cX5_now 142 = .ok (.aload_n 0, 1) := by decide +kernel
theorem dX5_now_143 : decode cX5_now 143 = .ok (.getfield 12, 3) := by decide +kernel
theorem dX5_now_146 : decode cX5_now 146 = .ok (.invokevirtual 187, 3) := by decide +kernel
theorem dX5_now_149 : decode cX5_now 149 = .ok (.ifCond .eq 7, 3) := by decide +kernel
theorem dX5_now_152 : decode cX5_now 152 = .ok (.iconst 1, 1) := by decide +kernel
theorem dX5_now_153 : decode cX5_now 153 = .ok (.goto 4, 3) := by decide +kernel
theorem dX5_now_156 : decode cX5_now 156 = .ok (.iconst 0, 1) := by decide +kernel
theorem dX5_now_157 : decode cX5_now 157 = .ok (.ireturn, 1) := by decide +kernel
theorem dX5_now_158 : decode cX5_now 158 = .ok (.aload_n 0, 1) := by decide +kernel
theorem dX5_now_159 : decode cX5_now 159 = .ok (.ldc 44, 2) := by decide +kernel
theorem dX5_now_161 : decode cX5_now 161 = .ok (.invokevirtual 67, 3) := by decide +kernel
theorem dX5_now_164 : decode cX5_now 164 = .ok (.ireturn, 1) := by decide +kernel
theorem dX5_book_0 : decode cX5_book 0 = .ok (.iload_n 1, 1) := by decide +kernel
theorem dX5_book_1 : decode cX5_book 1 = .ok (.iconst 0, 1) := by decide +kernel
theorem dX5_book_2 : decode cX5_book 2 = .ok (.aload_n 0, 1) := by decide +kernel
theorem dX5_book_3 : decode cX5_book 3 = .ok (.getfield 12, 3) := by decide +kernel
theorem dX5_book_6 : decode cX5_book 6 = .ok (.invokevirtual 184, 3) := by decide +kernel
theorem dX5_book_9 : decode cX5_book 9 = .ok (.iconst 1, 1) := by decide +kernel
theorem dX5_book_10 : decode cX5_book 10 = .ok (.isub, 1) := by decide +kernel
theorem dX5_book_11 : decode cX5_book 11 = .ok (.invokestatic 45, 3) := by decide +kernel
theorem dX5_book_14 : decode cX5_book 14 = .ok (.ifCond .ne 10, 3) := by decide +kernel
theorem dX5_book_17 : decode cX5_book 17 = .ok (.aload_n 0, 1) := by decide +kernel
theorem dX5_book_18 : decode cX5_book 18 = .ok (.ldc 44, 2) := by decide +kernel
theorem dX5_book_20 : decode cX5_book 20 = .ok (.invokevirtual 67, 3) := by decide +kernel
theorem dX5_book_23 : decode cX5_book 23 = .ok (.ireturn, 1) := by decide +kernel
theorem dX5_book_24 : decode cX5_book 24 = .ok (.aload_n 0, 1) := by decide +kernel
theorem dX5_book_25 : decode cX5_book 25 = .ok (.getfield 12, 3) := by decide +kernel
theorem dX5_book_28 : decode cX5_book 28 = .ok (.iload_n 1, 1) := by decide +kernel
theorem dX5_book_29 : decode cX5_book 29 = .ok (.invokevirtual 190, 3) := by decide +kernel
theorem dX5_book_32 : decode cX5_book 32 = .ok (.ireturn, 1) := by decide +kernel
theorem dX5_day_0 : decode cX5_day 0 = .ok (.iload_n 1, 1) := by decide +kernel
theorem dX5_day_1 : decode cX5_day 1 = .ok (.iconst 0, 1) := by decide +kernel
theorem dX5_day_2 : decode cX5_day 2 = .ok (.bipush 7, 2) := by decide +kernel
theorem dX5_day_4 : decode cX5_day 4 = .ok (.invokestatic 45, 3) := by decide +kernel
theorem dX5_day_7 : decode cX5_day 7 = .ok (.ifCond .ne 10, 3) := by decide +kernel
theorem dX5_day_10 : decode cX5_day 10 = .ok (.aload_n 0, 1) := by decide +kernel
theorem dX5_day_11 : decode cX5_day 11 = .ok (.ldc 44, 2) := by decide +kernel
theorem dX5_day_13 : decode cX5_day 13 = .ok (.invokevirtual 67, 3) := by decide +kernel
theorem dX5_day_16 : decode cX5_day 16 = .ok (.ireturn, 1) := by decide +kernel
theorem dX5_day_17 : decode cX5_day 17 = .ok (.aload_n 0, 1) := by decide +kernel
theorem dX5_day_18 : decode cX5_day 18 = .ok (.getfield 12, 3) := by decide +kernel
theorem dX5_day_21 : decode cX5_day 21 = .ok (.invokevirtual 184, 3) := by decide +kernel
theorem dX5_day_24 : decode cX5_day 24 = .ok (.ifCond .ne 10, 3) := by decide +kernel
theorem dX5_day_27 : decode cX5_day 27 = .ok (.aload_n 0, 1) := by decide +kernel
theorem dX5_day_28 : decode cX5_day 28 = .ok (.ldc 110, 2) := by decide +kernel
theorem dX5_day_30 : decode cX5_day 30 = .ok (.invokevirtual 67, 3) := by decide +kernel
theorem dX5_day_33 : decode cX5_day 33 = .ok (.ireturn, 1) := by decide +kernel
theorem dX5_day_34 : decode cX5_day 34 = .ok (.aload_n 0, 1) := by decide +kernel
theorem dX5_day_35 : decode cX5_day 35 = .ok (.getfield 12, 3) := by decide +kernel
theorem dX5_day_38 : decode cX5_day 38 = .ok (.getfield 59, 3) := by decide +kernel
theorem dX5_day_41 : decode cX5_day 41 = .ok (.iconst 1, 1) := by decide +kernel
theorem dX5_day_42 : decode cX5_day 42 = .ok (.isub, 1) := by decide +kernel
theorem dX5_day_43 : decode cX5_day 43 = .ok (.istore_n 2, 1) := by decide +kernel
theorem dX5_day_44 : decode cX5_day 44 = .ok (.iload_n 2, 1) := by decide +kernel
theorem dX5_day_45 : decode cX5_day 45 = .ok (.iconst 5, 1) := by decide +kernel
theorem dX5_day_46 : decode cX5_day 46 = .ok (.idiv, 1) := by decide +kernel
theorem dX5_day_47 : decode cX5_day 47 = .ok (.iload_n 1, 1) := by decide +kernel
theorem dX5_day_48 : decode cX5_day 48 = .ok (.isub, 1) := by decide +kernel
theorem dX5_day_49 : decode cX5_day 49 = .ok (.istore_n 3, 1) := by decide +kernel
theorem dX5_day_50 : decode cX5_day 50 = .ok (.iconst 0, 1) := by decide +kernel
theorem dX5_day_51 : decode cX5_day 51 = .ok (.istore 4, 2) := by decide +kernel
theorem dX5_day_53 : decode cX5_day 53 = .ok (.iconst 0, 1) := by decide +kernel
theorem dX5_day_54 : decode cX5_day 54 = .ok (.istore 5, 2) := by decide +kernel
theorem dX5_day_56 : decode cX5_day 56 = .ok (.iload 5, 2) := by decide +kernel
theorem dX5_day_58 : decode cX5_day 58 = .ok (.aload_n 0, 1) := by decide +kernel
theorem dX5_day_59 : decode cX5_day 59 = .ok (.getfield 12, 3) := by decide +kernel
theorem dX5_day_62 : decode cX5_day 62 = .ok (.invokevirtual 184, 3) := by decide +kernel
theorem dX5_day_65 : decode cX5_day 65 = .ok (.if_icmp .ge 33, 3) := by decide +kernel
theorem dX5_day_68 : decode cX5_day 68 = .ok (.iload_n 2, 1) := by decide +kernel
theorem dX5_day_69 : decode cX5_day 69 = .ok (.iload 5, 2) := by decide +kernel
theorem dX5_day_71 : decode cX5_day 71 = .ok (.isub, 1) := by decide +kernel
theorem dX5_day_72 : decode cX5_day 72 = .ok (.iconst 5, 1) := by decide +kernel
theorem dX5_day_73 : decode cX5_day 73 = .ok (.idiv, 1) := by decide +kernel
theorem dX5_day_74 : decode cX5_day 74 = .ok (.iload_n 3, 1) := by decide +kernel
theorem dX5_day_75 : decode cX5_day 75 = .ok (.if_icmp .ne 17, 3) := by decide +kernel
theorem dX5_day_78 : decode cX5_day 78 = .ok (.iload 4, 2) := by decide +kernel
theorem dX5_day_80 : decode cX5_day 80 = .ok (.aload_n 0, 1) := by decide +kernel
theorem dX5_day_81 : decode cX5_day 81 = .ok (.getfield 12, 3) := by decide +kernel
theorem dX5_day_84 : decode cX5_day 84 = .ok (.iload 5, 2) := by decide +kernel
theorem dX5_day_86 : decode cX5_day 86 = .ok (.invokevirtual 190, 3) := by decide +kernel
theorem dX5_day_89 : decode cX5_day 89 = .ok (.iadd, 1) := by decide +kernel
theorem dX5_day_90 : decode cX5_day 90 = .ok (.istore 4, 2) := by decide +kernel
theorem dX5_day_92 : decode cX5_day 92 = .ok (.iinc 5 1, 3) := by decide +kernel
theorem dX5_day_95 : decode cX5_day 95 = .ok (.goto (-39), 3) := by decide +kernel
theorem dX5_day_98 : decode cX5_day 98 = .ok (.iload 4, 2) := by decide +kernel
theorem dX5_day_100 : decode cX5_day 100 = .ok (.ireturn, 1) := by decide +kernel
theorem dX5_spread_0 : decode cX5_spread 0 = .ok (.aload_n 0, 1) := by decide +kernel
theorem dX5_spread_1 : decode cX5_spread 1 = .ok (.getfield 12, 3) := by decide +kernel
theorem dX5_spread_4 : decode cX5_spread 4 = .ok (.invokevirtual 184, 3) := by decide +kernel
theorem dX5_spread_7 : decode cX5_spread 7 = .ok (.ifCond .ne 10, 3) := by decide +kernel
theorem dX5_spread_10 : decode cX5_spread 10 = .ok (.aload_n 0, 1) := by decide +kernel
theorem dX5_spread_11 : decode cX5_spread 11 = .ok (.ldc 110, 2) := by decide +kernel
theorem dX5_spread_13 : decode cX5_spread 13 = .ok (.invokevirtual 67, 3) := by decide +kernel
theorem dX5_spread_16 : decode cX5_spread 16 = .ok (.ireturn, 1) := by decide +kernel
theorem dX5_spread_17 : decode cX5_spread 17 = .ok (.aload_n 0, 1) := by decide +kernel
theorem dX5_spread_18 : decode cX5_spread 18 = .ok (.getfield 12, 3) := by decide +kernel
theorem dX5_spread_21 : decode cX5_spread 21 = .ok (.iconst 0, 1) := by decide +kernel
theorem dX5_spread_22 : decode cX5_spread 22 = .ok (.invokevirtual 190, 3) := by decide +kernel
theorem dX5_spread_25 : decode cX5_spread 25 = .ok (.istore_n 1, 1) := by decide +kernel
theorem dX5_spread_26 : decode cX5_spread 26 = .ok (.iload_n 1, 1) := by decide +kernel
theorem dX5_spread_27 : decode cX5_spread 27 = .ok (.istore_n 2, 1) := by decide +kernel
theorem dX5_spread_28 : decode cX5_spread 28 = .ok (.iconst 1, 1) := by decide +kernel
theorem dX5_spread_29 : decode cX5_spread 29 = .ok (.istore_n 3, 1) := by decide +kernel
theorem dX5_spread_30 : decode cX5_spread 30 = .ok (.iload_n 3, 1) := by decide +kernel
theorem dX5_spread_31 : decode cX5_spread 31 = .ok (.aload_n 0, 1) := by decide +kernel
theorem dX5_spread_32 : decode cX5_spread 32 = .ok (.getfield 12, 3) := by decide +kernel
theorem dX5_spread_35 : decode cX5_spread 35 = .ok (.invokevirtual 184, 3) := by decide +kernel
theorem dX5_spread_38 : decode cX5_spread 38 = .ok (.if_icmp .ge 35, 3) := by decide +kernel
theorem dX5_spread_41 : decode cX5_spread 41 = .ok (.iload_n 1, 1) := by decide +kernel
theorem dX5_spread_42 : decode cX5_spread 42 = .ok (.aload_n 0, 1) := by decide +kernel
theorem dX5_spread_43 : decode cX5_spread 43 = .ok (.getfield 12, 3) := by decide +kernel
theorem dX5_spread_46 : decode cX5_spread 46 = .ok (.iload_n 3, 1) := by decide +kernel
theorem dX5_spread_47 : decode cX5_spread 47 = .ok (.invokevirtual 190, 3) := by decide +kernel
theorem dX5_spread_50 : decode cX5_spread 50 = .ok (.invokestatic 193, 3) := by decide +kernel
theorem dX5_spread_53 : decode cX5_spread 53 = .ok (.istore_n 1, 1) := by decide +kernel
theorem dX5_spread_54 : decode cX5_spread 54 = .ok (.iload_n 2, 1) := by decide +kernel
theorem dX5_spread_55 : decode cX5_spread 55 = .ok (.aload_n 0, 1) := by decide +kernel
theorem dX5_spread_56 : decode cX5_spread 56 = .ok (.getfield 12, 3) := by decide +kernel
theorem dX5_spread_59 : decode cX5_spread 59 = .ok (.iload_n 3, 1) := by decide +kernel
theorem dX5_spread_60 : decode cX5_spread 60 = .ok (.invokevirtual 190, 3) := by decide +kernel
theorem dX5_spread_63 : decode cX5_spread 63 = .ok (.invokestatic 199, 3) := by decide +kernel
theorem dX5_spread_66 : decode cX5_spread 66 = .ok (.istore_n 2, 1) := by decide +kernel
theorem dX5_spread_67 : decode cX5_spread 67 = .ok (.iinc 3 1, 3) := by decide +kernel
theorem dX5_spread_70 : decode cX5_spread 70 = .ok (.goto (-40), 3) := by decide +kernel
theorem dX5_spread_73 : decode cX5_spread 73 = .ok (.iload_n 2, 1) := by decide +kernel
theorem dX5_spread_74 : decode cX5_spread 74 = .ok (.iload_n 1, 1) := by decide +kernel
theorem dX5_spread_75 : decode cX5_spread 75 = .ok (.isub, 1) := by decide +kernel
theorem dX5_spread_76 : decode cX5_spread 76 = .ok (.ireturn, 1) := by decide +kernel
theorem dX5_ahead_0 : decode cX5_ahead 0 = .ok (.iload_n 1, 1) := by decide +kernel
theorem dX5_ahead_1 : decode cX5_ahead 1 = .ok (.iconst 0, 1) := by decide +kernel
theorem dX5_ahead_2 : decode cX5_ahead 2 = .ok (.sipush 350, 3) := by decide +kernel
theorem dX5_ahead_5 : decode cX5_ahead 5 = .ok (.invokestatic 45, 3) := by decide +kernel
theorem dX5_ahead_8 : decode cX5_ahead 8 = .ok (.ifCond .eq 13, 3) := by decide +kernel
theorem dX5_ahead_11 : decode cX5_ahead 11 = .ok (.iload_n 2, 1) := by decide +kernel
theorem dX5_ahead_12 : decode cX5_ahead 12 = .ok (.iconst 0, 1) := by decide +kernel
theorem dX5_ahead_13 : decode cX5_ahead 13 = .ok (.bipush 13, 2) := by decide +kernel
theorem dX5_ahead_15 : decode cX5_ahead 15 = .ok (.invokestatic 45, 3) := by decide +kernel
theorem dX5_ahead_18 : decode cX5_ahead 18 = .ok (.ifCond .ne 10, 3) := by decide +kernel
theorem dX5_ahead_21 : decode cX5_ahead 21 = .ok (.aload_n 0, 1) := by decide +kernel
theorem dX5_ahead_22 : decode cX5_ahead 22 = .ok (.ldc 44, 2) := by decide +kernel
theorem dX5_ahead_24 : decode cX5_ahead 24 = .ok (.invokevirtual 67, 3) := by decide +kernel
theorem dX5_ahead_27 : decode cX5_ahead 27 = .ok (.ireturn, 1) := by decide +kernel
theorem dX5_ahead_28 : decode cX5_ahead 28 = .ok (.aload_n 0, 1) := by decide +kernel
theorem dX5_ahead_29 : decode cX5_ahead 29 = .ok (.iload_n 1, 1) := by decide +kernel
theorem dX5_ahead_30 : decode cX5_ahead 30 = .ok (.invokevirtual 162, 3) := by decide +kernel
theorem dX5_ahead_33 : decode cX5_ahead 33 = .ok (.ifCond .eq 10, 3) := by decide +kernel
theorem dX5_ahead_36 : decode cX5_ahead 36 = .ok (.aload_n 0, 1) := by decide +kernel
theorem dX5_ahead_37 : decode cX5_ahead 37 = .ok (.ldc 165, 2) := by decide +kernel
theorem dX5_ahead_39 : decode cX5_ahead 39 = .ok (.invokevirtual 67, 3) := by decide +kernel
theorem dX5_ahead_42 : decode cX5_ahead 42 = .ok (.ireturn, 1) := by decide +kernel
theorem dX5_ahead_43 : decode cX5_ahead 43 = .ok (.aload_n 0, 1) := by decide +kernel
theorem dX5_ahead_44 : decode cX5_ahead 44 = .ok (.getfield 16, 3) := by decide +kernel
theorem dX5_ahead_47 : decode cX5_ahead 47 = .ok (.aload_n 0, 1) := by decide +kernel
theorem dX5_ahead_48 : decode cX5_ahead 48 = .ok (.getfield 12, 3) := by decide +kernel
theorem dX5_ahead_51 : decode cX5_ahead 51 = .ok (.invokevirtual 202, 3) := by decide +kernel
theorem dX5_ahead_54 : decode cX5_ahead 54 = .ok (.aload_n 0, 1) := by decide +kernel
theorem dX5_ahead_55 : decode cX5_ahead 55 = .ok (.getfield 16, 3) := by decide +kernel
theorem dX5_ahead_58 : decode cX5_ahead 58 = .ok (.iload_n 1, 1) := by decide +kernel
theorem dX5_ahead_59 : decode cX5_ahead 59 = .ok (.invokevirtual 166, 3) := by decide +kernel
theorem dX5_ahead_62 : decode cX5_ahead 62 = .ok (.istore_n 3, 1) := by decide +kernel
theorem dX5_ahead_63 : decode cX5_ahead 63 = .ok (.iload_n 2, 1) := by decide +kernel
theorem dX5_ahead_64 : decode cX5_ahead 64 = .ok (.tableswitch 58 0 3 #[32, 34, 42, 50], 32) := by decide +kernel
theorem dX5_ahead_96 : decode cX5_ahead 96 = .ok (.iload_n 3, 1) := by decide +kernel
theorem dX5_ahead_97 : decode cX5_ahead 97 = .ok (.ireturn, 1) := by decide +kernel
theorem dX5_ahead_98 : decode cX5_ahead 98 = .ok (.aload_n 0, 1) := by decide +kernel
theorem dX5_ahead_99 : decode cX5_ahead 99 = .ok (.getfield 16, 3) := by decide +kernel
theorem dX5_ahead_102 : decode cX5_ahead 102 = .ok (.invokevirtual 106, 3) := by decide +kernel
theorem dX5_ahead_105 : decode cX5_ahead 105 = .ok (.ireturn, 1) := by decide +kernel
theorem dX5_ahead_106 : decode cX5_ahead 106 = .ok (.aload_n 0, 1) := by decide +kernel
theorem dX5_ahead_107 : decode cX5_ahead 107 = .ok (.getfield 16, 3) := by decide +kernel
theorem dX5_ahead_110 : decode cX5_ahead 110 = .ok (.getfield 175, 3) := by decide +kernel
theorem dX5_ahead_113 : decode cX5_ahead 113 = .ok (.ireturn, 1) := by decide +kernel
theorem dX5_ahead_114 : decode cX5_ahead 114 = .ok (.aload_n 0, 1) := by decide +kernel
theorem dX5_ahead_115 : decode cX5_ahead 115 = .ok (.getfield 16, 3) := by decide +kernel
theorem dX5_ahead_118 : decode cX5_ahead 118 = .ok (.getfield 172, 3) := by decide +kernel
theorem dX5_ahead_121 : decode cX5_ahead 121 = .ok (.ireturn, 1) := by decide +kernel
theorem dX5_ahead_122 : decode cX5_ahead 122 = .ok (.aload_n 0, 1) := by decide +kernel
theorem dX5_ahead_123 : decode cX5_ahead 123 = .ok (.getfield 16, 3) := by decide +kernel
theorem dX5_ahead_126 : decode cX5_ahead 126 = .ok (.getfield 71, 3) := by decide +kernel
theorem dX5_ahead_129 : decode cX5_ahead 129 = .ok (.iload_n 2, 1) := by decide +kernel
theorem dX5_ahead_130 : decode cX5_ahead 130 = .ok (.iconst 4, 1) := by decide +kernel
theorem dX5_ahead_131 : decode cX5_ahead 131 = .ok (.isub, 1) := by decide +kernel
theorem dX5_ahead_132 : decode cX5_ahead 132 = .ok (.iaload, 1) := by decide +kernel
theorem dX5_ahead_133 : decode cX5_ahead 133 = .ok (.ireturn, 1) := by decide +kernel
theorem dX5_when_0 : decode cX5_when 0 = .ok (.iload_n 1, 1) := by decide +kernel
theorem dX5_when_1 : decode cX5_when 1 = .ok (.invokestatic 63, 3) := by decide +kernel
theorem dX5_when_4 : decode cX5_when 4 = .ok (.ifCond .ne 10, 3) := by decide +kernel
theorem dX5_when_7 : decode cX5_when 7 = .ok (.aload_n 0, 1) := by decide +kernel
theorem dX5_when_8 : decode cX5_when 8 = .ok (.ldc 44, 2) := by decide +kernel
theorem dX5_when_10 : decode cX5_when 10 = .ok (.invokevirtual 67, 3) := by decide +kernel
theorem dX5_when_13 : decode cX5_when 13 = .ok (.ireturn, 1) := by decide +kernel
theorem dX5_when_14 : decode cX5_when 14 = .ok (.aload_n 0, 1) := by decide +kernel
theorem dX5_when_15 : decode cX5_when 15 = .ok (.sipush 350, 3) := by decide +kernel
theorem dX5_when_18 : decode cX5_when 18 = .ok (.invokevirtual 162, 3) := by decide +kernel
theorem dX5_when_21 : decode cX5_when 21 = .ok (.ifCond .eq 10, 3) := by decide +kernel
theorem dX5_when_24 : decode cX5_when 24 = .ok (.aload_n 0, 1) := by decide +kernel
theorem dX5_when_25 : decode cX5_when 25 = .ok (.ldc 165, 2) := by decide +kernel
theorem dX5_when_27 : decode cX5_when 27 = .ok (.invokevirtual 67, 3) := by decide +kernel
theorem dX5_when_30 : decode cX5_when 30 = .ok (.ireturn, 1) := by decide +kernel
theorem dX5_when_31 : decode cX5_when 31 = .ok (.aload_n 0, 1) := by decide +kernel
theorem dX5_when_32 : decode cX5_when 32 = .ok (.getfield 16, 3) := by decide +kernel
theorem dX5_when_35 : decode cX5_when 35 = .ok (.aload_n 0, 1) := by decide +kernel
theorem dX5_when_36 : decode cX5_when 36 = .ok (.getfield 12, 3) := by decide +kernel
theorem dX5_when_39 : decode cX5_when 39 = .ok (.invokevirtual 202, 3) := by decide +kernel
theorem dX5_when_42 : decode cX5_when 42 = .ok (.aload_n 0, 1) := by decide +kernel
theorem dX5_when_43 : decode cX5_when 43 = .ok (.iload_n 1, 1) := by decide +kernel
theorem dX5_when_44 : decode cX5_when 44 = .ok (.sipush 350, 3) := by decide +kernel
theorem dX5_when_47 : decode cX5_when 47 = .ok (.invokevirtual 206, 3) := by decide +kernel
theorem dX5_when_50 : decode cX5_when 50 = .ok (.ireturn, 1) := by decide +kernel
theorem dX5_times_0 : decode cX5_times 0 = .ok (.aload_n 0, 1) := by decide +kernel
theorem dX5_times_1 : decode cX5_times 1 = .ok (.iload_n 1, 1) := by decide +kernel
theorem dX5_times_2 : decode cX5_times 2 = .ok (.invokevirtual 126, 3) := by decide +kernel
theorem dX5_times_5 : decode cX5_times 5 = .ok (.ifCond .ne 10, 3) := by decide +kernel
theorem dX5_times_8 : decode cX5_times 8 = .ok (.aload_n 0, 1) := by decide +kernel
theorem dX5_times_9 : decode cX5_times 9 = .ok (.ldc 44, 2) := by decide +kernel
theorem dX5_times_11 : decode cX5_times 11 = .ok (.invokevirtual 67, 3) := by decide +kernel
theorem dX5_times_14 : decode cX5_times 14 = .ok (.ireturn, 1) := by decide +kernel
theorem dX5_times_15 : decode cX5_times 15 = .ok (.aload_n 0, 1) := by decide +kernel
theorem dX5_times_16 : decode cX5_times 16 = .ok (.bipush 99, 2) := by decide +kernel
theorem dX5_times_18 : decode cX5_times 18 = .ok (.invokevirtual 162, 3) := by decide +kernel
theorem dX5_times_21 : decode cX5_times 21 = .ok (.ifCond .eq 10, 3) := by decide +kernel
theorem dX5_times_24 : decode cX5_times 24 = .ok (.aload_n 0, 1) := by decide +kernel
theorem dX5_times_25 : decode cX5_times 25 = .ok (.ldc 165, 2) := by decide +kernel
theorem dX5_times_27 : decode cX5_times 27 = .ok (.invokevirtual 67, 3) := by decide +kernel
theorem dX5_times_30 : decode cX5_times 30 = .ok (.ireturn, 1) := by decide +kernel
theorem dX5_times_31 : decode cX5_times 31 = .ok (.aload_n 0, 1) := by decide +kernel
theorem dX5_times_32 : decode cX5_times 32 = .ok (.getfield 16, 3) := by decide +kernel
theorem dX5_times_35 : decode cX5_times 35 = .ok (.aload_n 0, 1) := by decide +kernel
theorem dX5_times_36 : decode cX5_times 36 = .ok (.getfield 12, 3) := by decide +kernel
theorem dX5_times_39 : decode cX5_times 39 = .ok (.invokevirtual 202, 3) := by decide +kernel
theorem dX5_times_42 : decode cX5_times 42 = .ok (.aload_n 0, 1) := by decide +kernel
theorem dX5_times_43 : decode cX5_times 43 = .ok (.getfield 16, 3) := by decide +kernel
theorem dX5_times_46 : decode cX5_times 46 = .ok (.getfield 49, 3) := by decide +kernel
theorem dX5_times_49 : decode cX5_times 49 = .ok (.iload_n 1, 1) := by decide +kernel
theorem dX5_times_50 : decode cX5_times 50 = .ok (.invokevirtual 209, 3) := by decide +kernel
theorem dX5_times_53 : decode cX5_times 53 = .ok (.aload_n 0, 1) := by decide +kernel
theorem dX5_times_54 : decode cX5_times 54 = .ok (.aload_n 0, 1) := by decide +kernel
theorem dX5_times_55 : decode cX5_times 55 = .ok (.getfield 12, 3) := by decide +kernel
theorem dX5_times_58 : decode cX5_times 58 = .ok (.getfield 49, 3) := by decide +kernel
theorem dX5_times_61 : decode cX5_times 61 = .ok (.getfield 132, 3) := by decide +kernel
theorem dX5_times_64 : decode cX5_times 64 = .ok (.iload_n 1, 1) := by decide +kernel
theorem dX5_times_65 : decode cX5_times 65 = .ok (.iaload, 1) := by decide +kernel
theorem dX5_times_66 : decode cX5_times 66 = .ok (.bipush 99, 2) := by decide +kernel
theorem dX5_times_68 : decode cX5_times 68 = .ok (.invokevirtual 206, 3) := by decide +kernel
theorem dX5_times_71 : decode cX5_times 71 = .ok (.ireturn, 1) := by decide +kernel
theorem dX5_mealsTillLiked_0 : decode cX5_mealsTillLiked 0 = .ok (.iconst 0, 1) := by decide +kernel
theorem dX5_mealsTillLiked_1 : decode cX5_mealsTillLiked 1 = .ok (.istore_n 3, 1) := by decide +kernel
theorem dX5_mealsTillLiked_2 : decode cX5_mealsTillLiked 2 = .ok (.iload_n 3, 1) := by decide +kernel
theorem dX5_mealsTillLiked_3 : decode cX5_mealsTillLiked 3 = .ok (.iload_n 2, 1) := by decide +kernel
theorem dX5_mealsTillLiked_4 : decode cX5_mealsTillLiked 4 = .ok (.if_icmp .ge 30, 3) := by decide +kernel
theorem dX5_mealsTillLiked_7 : decode cX5_mealsTillLiked 7 = .ok (.aload_n 0, 1) := by decide +kernel
theorem dX5_mealsTillLiked_8 : decode cX5_mealsTillLiked 8 = .ok (.getfield 16, 3) := by decide +kernel
theorem dX5_mealsTillLiked_11 : decode cX5_mealsTillLiked 11 = .ok (.iload_n 1, 1) := by decide +kernel
theorem dX5_mealsTillLiked_12 : decode cX5_mealsTillLiked 12 = .ok (.invokevirtual 84, 3) := by decide +kernel
theorem dX5_mealsTillLiked_15 : decode cX5_mealsTillLiked 15 = .ok (.ifCond .eq 5, 3) := by decide +kernel
theorem dX5_mealsTillLiked_18 : decode cX5_mealsTillLiked 18 = .ok (.iload_n 3, 1) := by decide +kernel
theorem dX5_mealsTillLiked_19 : decode cX5_mealsTillLiked 19 = .ok (.ireturn, 1) := by decide +kernel
theorem dX5_mealsTillLiked_20 : decode cX5_mealsTillLiked 20 = .ok (.aload_n 0, 1) := by decide +kernel
theorem dX5_mealsTillLiked_21 : decode cX5_mealsTillLiked 21 = .ok (.getfield 16, 3) := by decide +kernel
theorem dX5_mealsTillLiked_24 : decode cX5_mealsTillLiked 24 = .ok (.invokevirtual 212, 3) := by decide +kernel
theorem dX5_mealsTillLiked_27 : decode cX5_mealsTillLiked 27 = .ok (.pop, 1) := by decide +kernel
theorem dX5_mealsTillLiked_28 : decode cX5_mealsTillLiked 28 = .ok (.iinc 3 1, 3) := by decide +kernel
theorem dX5_mealsTillLiked_31 : decode cX5_mealsTillLiked 31 = .ok (.goto (-29), 3) := by decide +kernel
theorem dX5_mealsTillLiked_34 : decode cX5_mealsTillLiked 34 = .ok (.aload_n 0, 1) := by decide +kernel
theorem dX5_mealsTillLiked_35 : decode cX5_mealsTillLiked 35 = .ok (.getfield 16, 3) := by decide +kernel
theorem dX5_mealsTillLiked_38 : decode cX5_mealsTillLiked 38 = .ok (.iload_n 1, 1) := by decide +kernel
theorem dX5_mealsTillLiked_39 : decode cX5_mealsTillLiked 39 = .ok (.invokevirtual 84, 3) := by decide +kernel
theorem dX5_mealsTillLiked_42 : decode cX5_mealsTillLiked 42 = .ok (.ifCond .eq 7, 3) := by decide +kernel
theorem dX5_mealsTillLiked_45 : decode cX5_mealsTillLiked 45 = .ok (.iload_n 2, 1) := by decide +kernel
theorem dX5_mealsTillLiked_46 : decode cX5_mealsTillLiked 46 = .ok (.goto 9, 3) := by decide +kernel
theorem dX5_mealsTillLiked_49 : decode cX5_mealsTillLiked 49 = .ok (.aload_n 0, 1) := by decide +kernel
theorem dX5_mealsTillLiked_50 : decode cX5_mealsTillLiked 50 = .ok (.ldc 110, 2) := by decide +kernel
theorem dX5_mealsTillLiked_52 : decode cX5_mealsTillLiked 52 = .ok (.invokevirtual 67, 3) := by decide +kernel
theorem dX5_mealsTillLiked_55 : decode cX5_mealsTillLiked 55 = .ok (.ireturn, 1) := by decide +kernel
theorem dX5_kindFor_0 : decode cX5_kindFor 0 = .ok (.aload_n 0, 1) := by decide +kernel
theorem dX5_kindFor_1 : decode cX5_kindFor 1 = .ok (.iload_n 1, 1) := by decide +kernel
theorem dX5_kindFor_2 : decode cX5_kindFor 2 = .ok (.iload_n 2, 1) := by decide +kernel
theorem dX5_kindFor_3 : decode cX5_kindFor 3 = .ok (.iconst 0, 1) := by decide +kernel
theorem dX5_kindFor_4 : decode cX5_kindFor 4 = .ok (.invokevirtual 215, 3) := by decide +kernel
theorem dX5_kindFor_7 : decode cX5_kindFor 7 = .ok (.ireturn, 1) := by decide +kernel
theorem dX5_foodFor_0 : decode cX5_foodFor 0 = .ok (.aload_n 0, 1) := by decide +kernel
theorem dX5_foodFor_1 : decode cX5_foodFor 1 = .ok (.iload_n 1, 1) := by decide +kernel
theorem dX5_foodFor_2 : decode cX5_foodFor 2 = .ok (.iload_n 2, 1) := by decide +kernel
theorem dX5_foodFor_3 : decode cX5_foodFor 3 = .ok (.iconst 1, 1) := by decide +kernel
theorem dX5_foodFor_4 : decode cX5_foodFor 4 = .ok (.invokevirtual 215, 3) := by decide +kernel
theorem dX5_foodFor_7 : decode cX5_foodFor 7 = .ok (.ireturn, 1) := by decide +kernel
theorem dX5_putFor_0 : decode cX5_putFor 0 = .ok (.aload_n 0, 1) := by decide +kernel
theorem dX5_putFor_1 : decode cX5_putFor 1 = .ok (.iload_n 1, 1) := by decide +kernel
theorem dX5_putFor_2 : decode cX5_putFor 2 = .ok (.iload_n 2, 1) := by decide +kernel
theorem dX5_putFor_3 : decode cX5_putFor 3 = .ok (.iconst 2, 1) := by decide +kernel
theorem dX5_putFor_4 : decode cX5_putFor 4 = .ok (.invokevirtual 215, 3) := by decide +kernel
theorem dX5_putFor_7 : decode cX5_putFor 7 = .ok (.ireturn, 1) := by decide +kernel
theorem dX5_bestFor_0 : decode cX5_bestFor 0 = .ok (.aload_n 0, 1) := by decide +kernel
theorem dX5_bestFor_1 : decode cX5_bestFor 1 = .ok (.iload_n 1, 1) := by decide +kernel
theorem dX5_bestFor_2 : decode cX5_bestFor 2 = .ok (.invokevirtual 126, 3) := by decide +kernel
theorem dX5_bestFor_5 : decode cX5_bestFor 5 = .ok (.ifCond .eq 14, 3) := by decide +kernel
theorem dX5_bestFor_8 : decode cX5_bestFor 8 = .ok (.iload_n 2, 1) := by decide +kernel
theorem dX5_bestFor_9 : decode cX5_bestFor 9 = .ok (.iconst 1, 1) := by decide +kernel
theorem dX5_bestFor_10 : decode cX5_bestFor 10 = .ok (.sipush 175, 3) := by decide +kernel
theorem dX5_bestFor_13 : decode cX5_bestFor 13 = .ok (.invokestatic 45, 3) := by decide +kernel
theorem dX5_bestFor_16 : decode cX5_bestFor 16 = .ok (.ifCond .ne 10, 3) := by decide +kernel
theorem dX5_bestFor_19 : decode cX5_bestFor 19 = .ok (.aload_n 0, 1) := by decide +kernel
theorem dX5_bestFor_20 : decode cX5_bestFor 20 = .ok (.ldc 44, 2) := by decide +kernel
theorem dX5_bestFor_22 : decode cX5_bestFor 22 = .ok (.invokevirtual 67, 3) := by decide +kernel
theorem dX5_bestFor_25 : decode cX5_bestFor 25 = .ok (.ireturn, 1) := by decide +kernel
theorem dX5_bestFor_26 : decode cX5_bestFor 26 = .ok (.aload_n 0, 1) := by decide +kernel
theorem dX5_bestFor_27 : decode cX5_bestFor 27 = .ok (.iload_n 2, 1) := by decide +kernel
theorem dX5_bestFor_28 : decode cX5_bestFor 28 = .ok (.invokevirtual 162, 3) := by decide +kernel
theorem dX5_bestFor_31 : decode cX5_bestFor 31 = .ok (.ifCond .eq 10, 3) := by decide +kernel
theorem dX5_bestFor_34 : decode cX5_bestFor 34 = .ok (.aload_n 0, 1) := by decide +kernel
theorem dX5_bestFor_35 : decode cX5_bestFor 35 = .ok (.ldc 165, 2) := by decide +kernel
theorem dX5_bestFor_37 : decode cX5_bestFor 37 = .ok (.invokevirtual 67, 3) := by decide +kernel
theorem dX5_bestFor_40 : decode cX5_bestFor 40 = .ok (.ireturn, 1) := by decide +kernel
theorem dX5_bestFor_41 : decode cX5_bestFor 41 = .ok (.iconst (-1), 1) := by decide +kernel
theorem dX5_bestFor_42 : decode cX5_bestFor 42 = .ok (.istore 4, 2) := by decide +kernel
theorem dX5_bestFor_44 : decode cX5_bestFor 44 = .ok (.iconst (-1), 1) := by decide +kernel
theorem dX5_bestFor_45 : decode cX5_bestFor 45 = .ok (.istore 5, 2) := by decide +kernel
theorem dX5_bestFor_47 : decode cX5_bestFor 47 = .ok (.iload_n 3, 1) := by decide +kernel
theorem dX5_bestFor_48 : decode cX5_bestFor 48 = .ok (.invokestatic 145, 3) := by decide +kernel
theorem dX5_bestFor_51 : decode cX5_bestFor 51 = .ok (.istore 6, 2) := by decide +kernel
theorem dX5_bestFor_53 : decode cX5_bestFor 53 = .ok (.iload 6, 2) := by decide +kernel
theorem dX5_bestFor_55 : decode cX5_bestFor 55 = .ok (.iload_n 3, 1) := by decide +kernel
theorem dX5_bestFor_56 : decode cX5_bestFor 56 = .ok (.invokestatic 148, 3) := by decide +kernel
theorem dX5_bestFor_59 : decode cX5_bestFor 59 = .ok (.if_icmp .gt 82, 3) := by decide +kernel
theorem dX5_bestFor_62 : decode cX5_bestFor 62 = .ok (.aload_n 0, 1) := by decide +kernel
theorem dX5_bestFor_63 : decode cX5_bestFor 63 = .ok (.getfield 16, 3) := by decide +kernel
theorem dX5_bestFor_66 : decode cX5_bestFor 66 = .ok (.aload_n 0, 1) := by decide +kernel
theorem dX5_bestFor_67 : decode cX5_bestFor 67 = .ok (.getfield 12, 3) := by decide +kernel
theorem dX5_bestFor_70 : decode cX5_bestFor 70 = .ok (.invokevirtual 202, 3) := by decide +kernel
theorem dX5_bestFor_73 : decode cX5_bestFor 73 = .ok (.aload_n 0, 1) := by decide +kernel
theorem dX5_bestFor_74 : decode cX5_bestFor 74 = .ok (.getfield 16, 3) := by decide +kernel
theorem dX5_bestFor_77 : decode cX5_bestFor 77 = .ok (.getfield 49, 3) := by decide +kernel
theorem dX5_bestFor_80 : decode cX5_bestFor 80 = .ok (.iload_n 3, 1) := by decide +kernel
theorem dX5_bestFor_81 : decode cX5_bestFor 81 = .ok (.invokevirtual 151, 3) := by decide +kernel
theorem dX5_bestFor_84 : decode cX5_bestFor 84 = .ok (.iload_n 1, 1) := by decide +kernel
theorem dX5_bestFor_85 : decode cX5_bestFor 85 = .ok (.iload 6, 2) := by decide +kernel
theorem dX5_bestFor_87 : decode cX5_bestFor 87 = .ok (.iastore, 1) := by decide +kernel
theorem dX5_bestFor_88 : decode cX5_bestFor 88 = .ok (.aload_n 0, 1) := by decide +kernel
theorem dX5_bestFor_89 : decode cX5_bestFor 89 = .ok (.getfield 16, 3) := by decide +kernel
theorem dX5_bestFor_92 : decode cX5_bestFor 92 = .ok (.iload_n 2, 1) := by decide +kernel
theorem dX5_bestFor_93 : decode cX5_bestFor 93 = .ok (.invokevirtual 166, 3) := by decide +kernel
theorem dX5_bestFor_96 : decode cX5_bestFor 96 = .ok (.istore 7, 2) := by decide +kernel
theorem dX5_bestFor_98 : decode cX5_bestFor 98 = .ok (.iload_n 3, 1) := by decide +kernel
theorem dX5_bestFor_99 : decode cX5_bestFor 99 = .ok (.iconst 2, 1) := by decide +kernel
theorem dX5_bestFor_100 : decode cX5_bestFor 100 = .ok (.if_icmp .ne 8, 3) := by decide +kernel
theorem dX5_bestFor_103 : decode cX5_bestFor 103 = .ok (.iload 7, 2) := by decide +kernel
theorem dX5_bestFor_105 : decode cX5_bestFor 105 = .ok (.goto 13, 3) := by decide +kernel
theorem dX5_bestFor_108 : decode cX5_bestFor 108 = .ok (.aload_n 0, 1) := by decide +kernel
theorem dX5_bestFor_109 : decode cX5_bestFor 109 = .ok (.getfield 16, 3) := by decide +kernel
theorem dX5_bestFor_112 : decode cX5_bestFor 112 = .ok (.invokevirtual 106, 3) := by decide +kernel
theorem dX5_bestFor_115 : decode cX5_bestFor 115 = .ok (.invokestatic 218, 3) := by decide +kernel
theorem dX5_bestFor_118 : decode cX5_bestFor 118 = .ok (.istore 8, 2) := by decide +kernel
theorem dX5_bestFor_120 : decode cX5_bestFor 120 = .ok (.iload 8, 2) := by decide +kernel
theorem dX5_bestFor_122 : decode cX5_bestFor 122 = .ok (.iload 5, 2) := by decide +kernel
theorem dX5_bestFor_124 : decode cX5_bestFor 124 = .ok (.if_icmp .le 11, 3) := by decide +kernel
theorem dX5_bestFor_127 : decode cX5_bestFor 127 = .ok (.iload 8, 2) := by decide +kernel
theorem dX5_bestFor_129 : decode cX5_bestFor 129 = .ok (.istore 5, 2) := by decide +kernel
theorem dX5_bestFor_131 : decode cX5_bestFor 131 = .ok (.iload 6, 2) := by decide +kernel
theorem dX5_bestFor_133 : decode cX5_bestFor 133 = .ok (.istore 4, 2) := by decide +kernel
theorem dX5_bestFor_135 : decode cX5_bestFor 135 = .ok (.iinc 6 1, 3) := by decide +kernel
theorem dX5_bestFor_138 : decode cX5_bestFor 138 = .ok (.goto (-85), 3) := by decide +kernel
theorem dX5_bestFor_141 : decode cX5_bestFor 141 = .ok (.iload 4, 2) := by decide +kernel
theorem dX5_bestFor_143 : decode cX5_bestFor 143 = .ok (.ireturn, 1) := by decide +kernel
theorem dX5_paid_0 : decode cX5_paid 0 = .ok (.iload_n 1, 1) := by decide +kernel
theorem dX5_paid_1 : decode cX5_paid 1 = .ok (.iconst 0, 1) := by decide +kernel
theorem dX5_paid_2 : decode cX5_paid 2 = .ok (.sipush 175, 3) := by decide +kernel
theorem dX5_paid_5 : decode cX5_paid 5 = .ok (.invokestatic 45, 3) := by decide +kernel
theorem dX5_paid_8 : decode cX5_paid 8 = .ok (.ifCond .ne 10, 3) := by decide +kernel
theorem dX5_paid_11 : decode cX5_paid 11 = .ok (.aload_n 0, 1) := by decide +kernel
theorem dX5_paid_12 : decode cX5_paid 12 = .ok (.ldc 44, 2) := by decide +kernel
theorem dX5_paid_14 : decode cX5_paid 14 = .ok (.invokevirtual 67, 3) := by decide +kernel
theorem dX5_paid_17 : decode cX5_paid 17 = .ok (.ireturn, 1) := by decide +kernel
theorem dX5_paid_18 : decode cX5_paid 18 = .ok (.aload_n 0, 1) := by decide +kernel
theorem dX5_paid_19 : decode cX5_paid 19 = .ok (.iload_n 1, 1) := by decide +kernel
theorem dX5_paid_20 : decode cX5_paid 20 = .ok (.invokevirtual 162, 3) := by decide +kernel
theorem dX5_paid_23 : decode cX5_paid 23 = .ok (.ifCond .eq 10, 3) := by decide +kernel
theorem dX5_paid_26 : decode cX5_paid 26 = .ok (.aload_n 0, 1) := by decide +kernel
theorem dX5_paid_27 : decode cX5_paid 27 = .ok (.ldc 165, 2) := by decide +kernel
theorem dX5_paid_29 : decode cX5_paid 29 = .ok (.invokevirtual 67, 3) := by decide +kernel
theorem dX5_paid_32 : decode cX5_paid 32 = .ok (.ireturn, 1) := by decide +kernel
theorem dX5_paid_33 : decode cX5_paid 33 = .ok (.aload_n 0, 1) := by decide +kernel
theorem dX5_paid_34 : decode cX5_paid 34 = .ok (.getfield 12, 3) := by decide +kernel
theorem dX5_paid_37 : decode cX5_paid 37 = .ok (.getfield 100, 3) := by decide +kernel
theorem dX5_paid_40 : decode cX5_paid 40 = .ok (.istore_n 2, 1) := by decide +kernel
theorem dX5_paid_41 : decode cX5_paid 41 = .ok (.iload_n 2, 1) := by decide +kernel
theorem dX5_paid_42 : decode cX5_paid 42 = .ok (.invokestatic 63, 3) := by decide +kernel
theorem dX5_paid_45 : decode cX5_paid 45 = .ok (.ifCond .ne 10, 3) := by decide +kernel
theorem dX5_paid_48 : decode cX5_paid 48 = .ok (.aload_n 0, 1) := by decide +kernel
theorem dX5_paid_49 : decode cX5_paid 49 = .ok (.ldc 110, 2) := by decide +kernel
theorem dX5_paid_51 : decode cX5_paid 51 = .ok (.invokevirtual 67, 3) := by decide +kernel
theorem dX5_paid_54 : decode cX5_paid 54 = .ok (.ireturn, 1) := by decide +kernel
theorem dX5_paid_55 : decode cX5_paid 55 = .ok (.aload_n 0, 1) := by decide +kernel
theorem dX5_paid_56 : decode cX5_paid 56 = .ok (.getfield 16, 3) := by decide +kernel
theorem dX5_paid_59 : decode cX5_paid 59 = .ok (.aload_n 0, 1) := by decide +kernel
theorem dX5_paid_60 : decode cX5_paid 60 = .ok (.getfield 12, 3) := by decide +kernel
theorem dX5_paid_63 : decode cX5_paid 63 = .ok (.invokevirtual 202, 3) := by decide +kernel
theorem dX5_paid_66 : decode cX5_paid 66 = .ok (.aload_n 0, 1) := by decide +kernel
theorem dX5_paid_67 : decode cX5_paid 67 = .ok (.getfield 16, 3) := by decide +kernel
theorem dX5_paid_70 : decode cX5_paid 70 = .ok (.iload_n 1, 1) := by decide +kernel
theorem dX5_paid_71 : decode cX5_paid 71 = .ok (.invokevirtual 166, 3) := by decide +kernel
theorem dX5_paid_74 : decode cX5_paid 74 = .ok (.pop, 1) := by decide +kernel
theorem dX5_paid_75 : decode cX5_paid 75 = .ok (.aload_n 0, 1) := by decide +kernel
theorem dX5_paid_76 : decode cX5_paid 76 = .ok (.getfield 16, 3) := by decide +kernel
theorem dX5_paid_79 : decode cX5_paid 79 = .ok (.getfield 71, 3) := by decide +kernel
theorem dX5_paid_82 : decode cX5_paid 82 = .ok (.iload_n 2, 1) := by decide +kernel
theorem dX5_paid_83 : decode cX5_paid 83 = .ok (.iaload, 1) := by decide +kernel
theorem dX5_paid_84 : decode cX5_paid 84 = .ok (.istore_n 3, 1) := by decide +kernel
theorem dX5_paid_85 : decode cX5_paid 85 = .ok (.aload_n 0, 1) := by decide +kernel
theorem dX5_paid_86 : decode cX5_paid 86 = .ok (.getfield 16, 3) := by decide +kernel
theorem dX5_paid_89 : decode cX5_paid 89 = .ok (.aload_n 0, 1) := by decide +kernel
theorem dX5_paid_90 : decode cX5_paid 90 = .ok (.getfield 12, 3) := by decide +kernel
theorem dX5_paid_93 : decode cX5_paid 93 = .ok (.invokevirtual 202, 3) := by decide +kernel
theorem dX5_paid_96 : decode cX5_paid 96 = .ok (.aload_n 0, 1) := by decide +kernel
theorem dX5_paid_97 : decode cX5_paid 97 = .ok (.getfield 16, 3) := by decide +kernel
theorem dX5_paid_100 : decode cX5_paid 100 = .ok (.getfield 49, 3) := by decide +kernel
theorem dX5_paid_103 : decode cX5_paid 103 = .ok (.invokevirtual 223, 3) := by decide +kernel
theorem dX5_paid_106 : decode cX5_paid 106 = .ok (.aload_n 0, 1) := by decide +kernel
theorem dX5_paid_107 : decode cX5_paid 107 = .ok (.getfield 16, 3) := by decide +kernel
theorem dX5_paid_110 : decode cX5_paid 110 = .ok (.iload_n 1, 1) := by decide +kernel
theorem dX5_paid_111 : decode cX5_paid 111 = .ok (.invokevirtual 166, 3) := by decide +kernel
theorem dX5_paid_114 : decode cX5_paid 114 = .ok (.pop, 1) := by decide +kernel
theorem dX5_paid_115 : decode cX5_paid 115 = .ok (.iload_n 3, 1) := by decide +kernel
theorem dX5_paid_116 : decode cX5_paid 116 = .ok (.aload_n 0, 1) := by decide +kernel
theorem dX5_paid_117 : decode cX5_paid 117 = .ok (.getfield 16, 3) := by decide +kernel
theorem dX5_paid_120 : decode cX5_paid 120 = .ok (.getfield 71, 3) := by decide +kernel
theorem dX5_paid_123 : decode cX5_paid 123 = .ok (.iload_n 2, 1) := by decide +kernel
theorem dX5_paid_124 : decode cX5_paid 124 = .ok (.iaload, 1) := by decide +kernel
theorem dX5_paid_125 : decode cX5_paid 125 = .ok (.isub, 1) := by decide +kernel
theorem dX5_paid_126 : decode cX5_paid 126 = .ok (.ireturn, 1) := by decide +kernel
theorem dX5_worry_0 : decode cX5_worry 0 = .ok (.aload_n 0, 1) := by decide +kernel
theorem dX5_worry_1 : decode cX5_worry 1 = .ok (.sipush 175, 3) := by decide +kernel
theorem dX5_worry_4 : decode cX5_worry 4 = .ok (.invokevirtual 162, 3) := by decide +kernel
theorem dX5_worry_7 : decode cX5_worry 7 = .ok (.ifCond .eq 10, 3) := by decide +kernel
theorem dX5_worry_10 : decode cX5_worry 10 = .ok (.aload_n 0, 1) := by decide +kernel
theorem dX5_worry_11 : decode cX5_worry 11 = .ok (.ldc 165, 2) := by decide +kernel
theorem dX5_worry_13 : decode cX5_worry 13 = .ok (.invokevirtual 67, 3) := by decide +kernel
theorem dX5_worry_16 : decode cX5_worry 16 = .ok (.ireturn, 1) := by decide +kernel
theorem dX5_worry_17 : decode cX5_worry 17 = .ok (.aload_n 0, 1) := by decide +kernel
theorem dX5_worry_18 : decode cX5_worry 18 = .ok (.getfield 16, 3) := by decide +kernel
theorem dX5_worry_21 : decode cX5_worry 21 = .ok (.aload_n 0, 1) := by decide +kernel
theorem dX5_worry_22 : decode cX5_worry 22 = .ok (.getfield 12, 3) := by decide +kernel
theorem dX5_worry_25 : decode cX5_worry 25 = .ok (.invokevirtual 202, 3) := by decide +kernel
theorem dX5_worry_28 : decode cX5_worry 28 = .ok (.iconst 1, 1) := by decide +kernel
theorem dX5_worry_29 : decode cX5_worry 29 = .ok (.istore_n 1, 1) := by decide +kernel
theorem dX5_worry_30 : decode cX5_worry 30 = .ok (.iload_n 1, 1) := by decide +kernel
theorem dX5_worry_31 : decode cX5_worry 31 = .ok (.sipush 175, 3) := by decide +kernel
theorem dX5_worry_34 : decode cX5_worry 34 = .ok (.if_icmp .gt 29, 3) := by decide +kernel
theorem dX5_worry_37 : decode cX5_worry 37 = .ok (.aload_n 0, 1) := by decide +kernel
theorem dX5_worry_38 : decode cX5_worry 38 = .ok (.getfield 16, 3) := by decide +kernel
theorem dX5_worry_41 : decode cX5_worry 41 = .ok (.invokevirtual 212, 3) := by decide +kernel
theorem dX5_worry_44 : decode cX5_worry 44 = .ok (.pop, 1) := by decide +kernel
theorem dX5_worry_45 : decode cX5_worry 45 = .ok (.aload_n 0, 1) := by decide +kernel
theorem dX5_worry_46 : decode cX5_worry 46 = .ok (.getfield 16, 3) := by decide +kernel
theorem dX5_worry_49 : decode cX5_worry 49 = .ok (.invokevirtual 187, 3) := by decide +kernel
theorem dX5_worry_52 : decode cX5_worry 52 = .ok (.ifCond .eq 5, 3) := by decide +kernel
theorem dX5_worry_55 : decode cX5_worry 55 = .ok (.iload_n 1, 1) := by decide +kernel
theorem dX5_worry_56 : decode cX5_worry 56 = .ok (.ireturn, 1) := by decide +kernel
theorem dX5_worry_57 : decode cX5_worry 57 = .ok (.iinc 1 1, 3) := by decide +kernel
theorem dX5_worry_60 : decode cX5_worry 60 = .ok (.goto (-30), 3) := by decide +kernel
theorem dX5_worry_63 : decode cX5_worry 63 = .ok (.aload_n 0, 1) := by decide +kernel
theorem dX5_worry_64 : decode cX5_worry 64 = .ok (.ldc 110, 2) := by decide +kernel
theorem dX5_worry_66 : decode cX5_worry 66 = .ok (.invokevirtual 67, 3) := by decide +kernel
theorem dX5_worry_69 : decode cX5_worry 69 = .ok (.ireturn, 1) := by decide +kernel
theorem dX5_likedBehind_0 : decode cX5_likedBehind 0 = .ok (.aload_n 0, 1) := by decide +kernel
theorem dX5_likedBehind_1 : decode cX5_likedBehind 1 = .ok (.getfield 16, 3) := by decide +kernel
theorem dX5_likedBehind_4 : decode cX5_likedBehind 4 = .ok (.iload_n 1, 1) := by decide +kernel
theorem dX5_likedBehind_5 : decode cX5_likedBehind 5 = .ok (.invokevirtual 166, 3) := by decide +kernel
theorem dX5_likedBehind_8 : decode cX5_likedBehind 8 = .ok (.pop, 1) := by decide +kernel
theorem dX5_likedBehind_9 : decode cX5_likedBehind 9 = .ok (.aload_n 0, 1) := by decide +kernel
theorem dX5_likedBehind_10 : decode cX5_likedBehind 10 = .ok (.getfield 16, 3) := by decide +kernel
theorem dX5_likedBehind_13 : decode cX5_likedBehind 13 = .ok (.invokevirtual 106, 3) := by decide +kernel
theorem dX5_likedBehind_16 : decode cX5_likedBehind 16 = .ok (.invokestatic 218, 3) := by decide +kernel
theorem dX5_likedBehind_19 : decode cX5_likedBehind 19 = .ok (.ireturn, 1) := by decide +kernel
theorem dX5_order_0 : decode cX5_order 0 = .ok (.iload_n 1, 1) := by decide +kernel
theorem dX5_order_1 : decode cX5_order 1 = .ok (.iconst 1, 1) := by decide +kernel
theorem dX5_order_2 : decode cX5_order 2 = .ok (.bipush 70, 2) := by decide +kernel
theorem dX5_order_4 : decode cX5_order 4 = .ok (.invokestatic 45, 3) := by decide +kernel
theorem dX5_order_7 : decode cX5_order 7 = .ok (.ifCond .ne 10, 3) := by decide +kernel
theorem dX5_order_10 : decode cX5_order 10 = .ok (.aload_n 0, 1) := by decide +kernel
theorem dX5_order_11 : decode cX5_order 11 = .ok (.ldc 44, 2) := by decide +kernel
theorem dX5_order_13 : decode cX5_order 13 = .ok (.invokevirtual 67, 3) := by decide +kernel
theorem dX5_order_16 : decode cX5_order 16 = .ok (.ireturn, 1) := by decide +kernel
theorem dX5_order_17 : decode cX5_order 17 = .ok (.aload_n 0, 1) := by decide +kernel
theorem dX5_order_18 : decode cX5_order 18 = .ok (.iload_n 1, 1) := by decide +kernel
theorem dX5_order_19 : decode cX5_order 19 = .ok (.invokevirtual 162, 3) := by decide +kernel
theorem dX5_order_22 : decode cX5_order 22 = .ok (.ifCond .eq 10, 3) := by decide +kernel
theorem dX5_order_25 : decode cX5_order 25 = .ok (.aload_n 0, 1) := by decide +kernel
theorem dX5_order_26 : decode cX5_order 26 = .ok (.ldc 165, 2) := by decide +kernel
theorem dX5_order_28 : decode cX5_order 28 = .ok (.invokevirtual 67, 3) := by decide +kernel
theorem dX5_order_31 : decode cX5_order 31 = .ok (.ireturn, 1) := by decide +kernel
theorem dX5_order_32 : decode cX5_order 32 = .ok (.aload_n 0, 1) := by decide +kernel
theorem dX5_order_33 : decode cX5_order 33 = .ok (.getfield 16, 3) := by decide +kernel
theorem dX5_order_36 : decode cX5_order 36 = .ok (.aload_n 0, 1) := by decide +kernel
theorem dX5_order_37 : decode cX5_order 37 = .ok (.getfield 12, 3) := by decide +kernel
theorem dX5_order_40 : decode cX5_order 40 = .ok (.invokevirtual 202, 3) := by decide +kernel
theorem dX5_order_43 : decode cX5_order 43 = .ok (.aload_n 0, 1) := by decide +kernel
theorem dX5_order_44 : decode cX5_order 44 = .ok (.iload_n 1, 1) := by decide +kernel
theorem dX5_order_45 : decode cX5_order 45 = .ok (.invokevirtual 226, 3) := by decide +kernel
theorem dX5_order_48 : decode cX5_order 48 = .ok (.istore_n 2, 1) := by decide +kernel
theorem dX5_order_49 : decode cX5_order 49 = .ok (.iconst (-1), 1) := by decide +kernel
theorem dX5_order_50 : decode cX5_order 50 = .ok (.istore_n 3, 1) := by decide +kernel
theorem dX5_order_51 : decode cX5_order 51 = .ok (.iconst 0, 1) := by decide +kernel
theorem dX5_order_52 : decode cX5_order 52 = .ok (.istore 4, 2) := by decide +kernel
theorem dX5_order_54 : decode cX5_order 54 = .ok (.iload 4, 2) := by decide +kernel
theorem dX5_order_56 : decode cX5_order 56 = .ok (.aload_n 0, 1) := by decide +kernel
theorem dX5_order_57 : decode cX5_order 57 = .ok (.getfield 12, 3) := by decide +kernel
theorem dX5_order_60 : decode cX5_order 60 = .ok (.getfield 49, 3) := by decide +kernel
theorem dX5_order_63 : decode cX5_order 63 = .ok (.getfield 53, 3) := by decide +kernel
theorem dX5_order_66 : decode cX5_order 66 = .ok (.if_icmp .ge 86, 3) := by decide +kernel
theorem dX5_order_69 : decode cX5_order 69 = .ok (.iload 4, 2) := by decide +kernel
theorem dX5_order_71 : decode cX5_order 71 = .ok (.iconst 1, 1) := by decide +kernel
theorem dX5_order_72 : decode cX5_order 72 = .ok (.iadd, 1) := by decide +kernel
theorem dX5_order_73 : decode cX5_order 73 = .ok (.istore 5, 2) := by decide +kernel
theorem dX5_order_75 : decode cX5_order 75 = .ok (.iload 5, 2) := by decide +kernel
theorem dX5_order_77 : decode cX5_order 77 = .ok (.aload_n 0, 1) := by decide +kernel
theorem dX5_order_78 : decode cX5_order 78 = .ok (.getfield 12, 3) := by decide +kernel
theorem dX5_order_81 : decode cX5_order 81 = .ok (.getfield 49, 3) := by decide +kernel
theorem dX5_order_84 : decode cX5_order 84 = .ok (.getfield 53, 3) := by decide +kernel
theorem dX5_order_87 : decode cX5_order 87 = .ok (.if_icmp .ge 59, 3) := by decide +kernel
theorem dX5_order_90 : decode cX5_order 90 = .ok (.aload_n 0, 1) := by decide +kernel
theorem dX5_order_91 : decode cX5_order 91 = .ok (.getfield 16, 3) := by decide +kernel
theorem dX5_order_94 : decode cX5_order 94 = .ok (.aload_n 0, 1) := by decide +kernel
theorem dX5_order_95 : decode cX5_order 95 = .ok (.getfield 12, 3) := by decide +kernel
theorem dX5_order_98 : decode cX5_order 98 = .ok (.invokevirtual 202, 3) := by decide +kernel
theorem dX5_order_101 : decode cX5_order 101 = .ok (.aload_n 0, 1) := by decide +kernel
theorem dX5_order_102 : decode cX5_order 102 = .ok (.getfield 16, 3) := by decide +kernel
theorem dX5_order_105 : decode cX5_order 105 = .ok (.getfield 49, 3) := by decide +kernel
theorem dX5_order_108 : decode cX5_order 108 = .ok (.iload 4, 2) := by decide +kernel
theorem dX5_order_110 : decode cX5_order 110 = .ok (.iload 5, 2) := by decide +kernel
theorem dX5_order_112 : decode cX5_order 112 = .ok (.invokevirtual 155, 3) := by decide +kernel
theorem dX5_order_115 : decode cX5_order 115 = .ok (.aload_n 0, 1) := by decide +kernel
theorem dX5_order_116 : decode cX5_order 116 = .ok (.iload_n 1, 1) := by decide +kernel
theorem dX5_order_117 : decode cX5_order 117 = .ok (.invokevirtual 226, 3) := by decide +kernel
theorem dX5_order_120 : decode cX5_order 120 = .ok (.istore 6, 2) := by decide +kernel
theorem dX5_order_122 : decode cX5_order 122 = .ok (.iload 6, 2) := by decide +kernel
theorem dX5_order_124 : decode cX5_order 124 = .ok (.iload_n 2, 1) := by decide +kernel
theorem dX5_order_125 : decode cX5_order 125 = .ok (.if_icmp .le 15, 3) := by decide +kernel
theorem dX5_order_128 : decode cX5_order 128 = .ok (.iload 6, 2) := by decide +kernel
theorem dX5_order_130 : decode cX5_order 130 = .ok (.istore_n 2, 1) := by decide +kernel
theorem dX5_order_131 : decode cX5_order 131 = .ok (.bipush 10, 2) := by decide +kernel
theorem dX5_order_133 : decode cX5_order 133 = .ok (.iload 4, 2) := by decide +kernel
theorem dX5_order_135 : decode cX5_order 135 = .ok (.imul, 1) := by decide +kernel
theorem dX5_order_136 : decode cX5_order 136 = .ok (.iload 5, 2) := by decide +kernel
theorem dX5_order_138 : decode cX5_order 138 = .ok (.iadd, 1) := by decide +kernel
theorem dX5_order_139 : decode cX5_order 139 = .ok (.istore_n 3, 1) := by decide +kernel
theorem dX5_order_140 : decode cX5_order 140 = .ok (.iinc 5 1, 3) := by decide +kernel
theorem dX5_order_143 : decode cX5_order 143 = .ok (.goto (-68), 3) := by decide +kernel
theorem dX5_order_146 : decode cX5_order 146 = .ok (.iinc 4 1, 3) := by decide +kernel
theorem dX5_order_149 : decode cX5_order 149 = .ok (.goto (-95), 3) := by decide +kernel
theorem dX5_order_152 : decode cX5_order 152 = .ok (.iload_n 3, 1) := by decide +kernel
theorem dX5_order_153 : decode cX5_order 153 = .ok (.ifCond .ge 12, 3) := by decide +kernel
theorem dX5_order_156 : decode cX5_order 156 = .ok (.aload_n 0, 1) := by decide +kernel
theorem dX5_order_157 : decode cX5_order 157 = .ok (.ldc 110, 2) := by decide +kernel
theorem dX5_order_159 : decode cX5_order 159 = .ok (.invokevirtual 67, 3) := by decide +kernel
theorem dX5_order_162 : decode cX5_order 162 = .ok (.goto 4, 3) := by decide +kernel
theorem dX5_order_165 : decode cX5_order 165 = .ok (.iload_n 3, 1) := by decide +kernel
theorem dX5_order_166 : decode cX5_order 166 = .ok (.ireturn, 1) := by decide +kernel
theorem dX5_chance_0 : decode cX5_chance 0 = .ok (.iload_n 1, 1) := by decide +kernel
theorem dX5_chance_1 : decode cX5_chance 1 = .ok (.invokestatic 63, 3) := by decide +kernel
theorem dX5_chance_4 : decode cX5_chance 4 = .ok (.ifCond .eq 23, 3) := by decide +kernel
theorem dX5_chance_7 : decode cX5_chance 7 = .ok (.iload_n 2, 1) := by decide +kernel
theorem dX5_chance_8 : decode cX5_chance 8 = .ok (.iconst 1, 1) := by decide +kernel
theorem dX5_chance_9 : decode cX5_chance 9 = .ok (.bipush 20, 2) := by decide +kernel
theorem dX5_chance_11 : decode cX5_chance 11 = .ok (.invokestatic 45, 3) := by decide +kernel
theorem dX5_chance_14 : decode cX5_chance 14 = .ok (.ifCond .eq 13, 3) := by decide +kernel
theorem dX5_chance_17 : decode cX5_chance 17 = .ok (.iload_n 3, 1) := by decide +kernel
theorem dX5_chance_18 : decode cX5_chance 18 = .ok (.iconst 0, 1) := by decide +kernel
theorem dX5_chance_19 : decode cX5_chance 19 = .ok (.bipush 70, 2) := by decide +kernel
theorem dX5_chance_21 : decode cX5_chance 21 = .ok (.invokestatic 45, 3) := by decide +kernel
theorem dX5_chance_24 : decode cX5_chance 24 = .ok (.ifCond .ne 10, 3) := by decide +kernel
theorem dX5_chance_27 : decode cX5_chance 27 = .ok (.aload_n 0, 1) := by decide +kernel
theorem dX5_chance_28 : decode cX5_chance 28 = .ok (.ldc 44, 2) := by decide +kernel
theorem dX5_chance_30 : decode cX5_chance 30 = .ok (.invokevirtual 67, 3) := by decide +kernel
theorem dX5_chance_33 : decode cX5_chance 33 = .ok (.ireturn, 1) := by decide +kernel
theorem dX5_chance_34 : decode cX5_chance 34 = .ok (.aload_n 0, 1) := by decide +kernel
theorem dX5_chance_35 : decode cX5_chance 35 = .ok (.iload_n 3, 1) := by decide +kernel
theorem dX5_chance_36 : decode cX5_chance 36 = .ok (.invokevirtual 162, 3) := by decide +kernel
theorem dX5_chance_39 : decode cX5_chance 39 = .ok (.ifCond .eq 10, 3) := by decide +kernel
theorem dX5_chance_42 : decode cX5_chance 42 = .ok (.aload_n 0, 1) := by decide +kernel
theorem dX5_chance_43 : decode cX5_chance 43 = .ok (.ldc 165, 2) := by decide +kernel
theorem dX5_chance_45 : decode cX5_chance 45 = .ok (.invokevirtual 67, 3) := by decide +kernel
theorem dX5_chance_48 : decode cX5_chance 48 = .ok (.ireturn, 1) := by decide +kernel
theorem dX5_chance_49 : decode cX5_chance 49 = .ok (.iconst 0, 1) := by decide +kernel
theorem dX5_chance_50 : decode cX5_chance 50 = .ok (.istore 4, 2) := by decide +kernel
theorem dX5_chance_52 : decode cX5_chance 52 = .ok (.iconst 0, 1) := by decide +kernel
theorem dX5_chance_53 : decode cX5_chance 53 = .ok (.istore 5, 2) := by decide +kernel
theorem dX5_chance_55 : decode cX5_chance 55 = .ok (.iload 5, 2) := by decide +kernel
theorem dX5_chance_57 : decode cX5_chance 57 = .ok (.iload_n 2, 1) := by decide +kernel
theorem dX5_chance_58 : decode cX5_chance 58 = .ok (.if_icmp .ge 57, 3) := by decide +kernel
theorem dX5_chance_61 : decode cX5_chance 61 = .ok (.aload_n 0, 1) := by decide +kernel
theorem dX5_chance_62 : decode cX5_chance 62 = .ok (.getfield 16, 3) := by decide +kernel
theorem dX5_chance_65 : decode cX5_chance 65 = .ok (.aload_n 0, 1) := by decide +kernel
theorem dX5_chance_66 : decode cX5_chance 66 = .ok (.getfield 12, 3) := by decide +kernel
theorem dX5_chance_69 : decode cX5_chance 69 = .ok (.invokevirtual 202, 3) := by decide +kernel
theorem dX5_chance_72 : decode cX5_chance 72 = .ok (.aload_n 0, 1) := by decide +kernel
theorem dX5_chance_73 : decode cX5_chance 73 = .ok (.getfield 16, 3) := by decide +kernel
theorem dX5_chance_76 : decode cX5_chance 76 = .ok (.iload_n 3, 1) := by decide +kernel
theorem dX5_chance_77 : decode cX5_chance 77 = .ok (.invokevirtual 166, 3) := by decide +kernel
theorem dX5_chance_80 : decode cX5_chance 80 = .ok (.pop, 1) := by decide +kernel
theorem dX5_chance_81 : decode cX5_chance 81 = .ok (.aload_n 0, 1) := by decide +kernel
theorem dX5_chance_82 : decode cX5_chance 82 = .ok (.getfield 12, 3) := by decide +kernel
theorem dX5_chance_85 : decode cX5_chance 85 = .ok (.aload_n 0, 1) := by decide +kernel
theorem dX5_chance_86 : decode cX5_chance 86 = .ok (.getfield 16, 3) := by decide +kernel
theorem dX5_chance_89 : decode cX5_chance 89 = .ok (.getfield 229, 3) := by decide +kernel
theorem dX5_chance_92 : decode cX5_chance 92 = .ok (.putfield 229, 3) := by decide +kernel
theorem dX5_chance_95 : decode cX5_chance 95 = .ok (.aload_n 0, 1) := by decide +kernel
theorem dX5_chance_96 : decode cX5_chance 96 = .ok (.getfield 16, 3) := by decide +kernel
theorem dX5_chance_99 : decode cX5_chance 99 = .ok (.iload_n 1, 1) := by decide +kernel
theorem dX5_chance_100 : decode cX5_chance 100 = .ok (.invokevirtual 84, 3) := by decide +kernel
theorem dX5_chance_103 : decode cX5_chance 103 = .ok (.ifCond .eq 6, 3) := by decide +kernel
theorem dX5_chance_106 : decode cX5_chance 106 = .ok (.iinc 4 1, 3) := by decide +kernel
theorem dX5_chance_109 : decode cX5_chance 109 = .ok (.iinc 5 1, 3) := by decide +kernel
theorem dX5_chance_112 : decode cX5_chance 112 = .ok (.goto (-57), 3) := by decide +kernel
theorem dX5_chance_115 : decode cX5_chance 115 = .ok (.iload 4, 2) := by decide +kernel
theorem dX5_chance_117 : decode cX5_chance 117 = .ok (.ireturn, 1) := by decide +kernel
theorem dX5_seed_0 : decode cX5_seed 0 = .ok (.aload_n 0, 1) := by decide +kernel
theorem dX5_seed_1 : decode cX5_seed 1 = .ok (.getfield 12, 3) := by decide +kernel
theorem dX5_seed_4 : decode cX5_seed 4 = .ok (.getfield 229, 3) := by decide +kernel
theorem dX5_seed_7 : decode cX5_seed 7 = .ok (.istore_n 2, 1) := by decide +kernel
theorem dX5_seed_8 : decode cX5_seed 8 = .ok (.aload_n 0, 1) := by decide +kernel
theorem dX5_seed_9 : decode cX5_seed 9 = .ok (.getfield 12, 3) := by decide +kernel
theorem dX5_seed_12 : decode cX5_seed 12 = .ok (.iload_n 1, 1) := by decide +kernel
theorem dX5_seed_13 : decode cX5_seed 13 = .ok (.putfield 229, 3) := by decide +kernel
theorem dX5_seed_16 : decode cX5_seed 16 = .ok (.iload_n 2, 1) := by decide +kernel
theorem dX5_seed_17 : decode cX5_seed 17 = .ok (.ireturn, 1) := by decide +kernel
theorem dX5_feed_0 : decode cX5_feed 0 = .ok (.iload_n 2, 1) := by decide +kernel
theorem dX5_feed_1 : decode cX5_feed 1 = .ok (.iconst 1, 1) := by decide +kernel
theorem dX5_feed_2 : decode cX5_feed 2 = .ok (.iconst 4, 1) := by decide +kernel
theorem dX5_feed_3 : decode cX5_feed 3 = .ok (.invokestatic 45, 3) := by decide +kernel
theorem dX5_feed_6 : decode cX5_feed 6 = .ok (.ifCond .ne 10, 3) := by decide +kernel
theorem dX5_feed_9 : decode cX5_feed 9 = .ok (.aload_n 0, 1) := by decide +kernel
theorem dX5_feed_10 : decode cX5_feed 10 = .ok (.ldc 44, 2) := by decide +kernel
theorem dX5_feed_12 : decode cX5_feed 12 = .ok (.invokevirtual 67, 3) := by decide +kernel
theorem dX5_feed_15 : decode cX5_feed 15 = .ok (.ireturn, 1) := by decide +kernel
theorem dX5_feed_16 : decode cX5_feed 16 = .ok (.aload_n 0, 1) := by decide +kernel
theorem dX5_feed_17 : decode cX5_feed 17 = .ok (.getfield 29, 3) := by decide +kernel
theorem dX5_feed_20 : decode cX5_feed 20 = .ok (.getfield 232, 3) := by decide +kernel
theorem dX5_feed_23 : decode cX5_feed 23 = .ok (.bipush 120, 2) := by decide +kernel
theorem dX5_feed_25 : decode cX5_feed 25 = .ok (.iload_n 2, 1) := by decide +kernel
theorem dX5_feed_26 : decode cX5_feed 26 = .ok (.isub, 1) := by decide +kernel
theorem dX5_feed_27 : decode cX5_feed 27 = .ok (.if_icmp .le 10, 3) := by decide +kernel
theorem dX5_feed_30 : decode cX5_feed 30 = .ok (.aload_n 0, 1) := by decide +kernel
theorem dX5_feed_31 : decode cX5_feed 31 = .ok (.ldc 121, 2) := by decide +kernel
theorem dX5_feed_33 : decode cX5_feed 33 = .ok (.invokevirtual 67, 3) := by decide +kernel
theorem dX5_feed_36 : decode cX5_feed 36 = .ok (.ireturn, 1) := by decide +kernel
theorem dX5_feed_37 : decode cX5_feed 37 = .ok (.iload_n 2, 1) := by decide +kernel
theorem dX5_feed_38 : decode cX5_feed 38 = .ok (.iconst 1, 1) := by decide +kernel
theorem dX5_feed_39 : decode cX5_feed 39 = .ok (.isub, 1) := by decide +kernel
theorem dX5_feed_40 : decode cX5_feed 40 = .ok (.istore_n 3, 1) := by decide +kernel
theorem dX5_feed_41 : decode cX5_feed 41 = .ok (.iload_n 3, 1) := by decide +kernel
theorem dX5_feed_42 : decode cX5_feed 42 = .ok (.ifCond .lt 26, 3) := by decide +kernel
theorem dX5_feed_45 : decode cX5_feed 45 = .ok (.aload_n 0, 1) := by decide +kernel
theorem dX5_feed_46 : decode cX5_feed 46 = .ok (.getfield 29, 3) := by decide +kernel
theorem dX5_feed_49 : decode cX5_feed 49 = .ok (.iload_n 1, 1) := by decide +kernel
theorem dX5_feed_50 : decode cX5_feed 50 = .ok (.bipush 8, 2) := by decide +kernel
theorem dX5_feed_52 : decode cX5_feed 52 = .ok (.iload_n 3, 1) := by decide +kernel
theorem dX5_feed_53 : decode cX5_feed 53 = .ok (.imul, 1) := by decide +kernel
theorem dX5_feed_54 : decode cX5_feed 54 = .ok (.iushr, 1) := by decide +kernel
theorem dX5_feed_55 : decode cX5_feed 55 = .ok (.sipush 255, 3) := by decide +kernel
theorem dX5_feed_58 : decode cX5_feed 58 = .ok (.iand, 1) := by decide +kernel
theorem dX5_feed_59 : decode cX5_feed 59 = .ok (.invokevirtual 233, 3) := by decide +kernel
theorem dX5_feed_62 : decode cX5_feed 62 = .ok (.iinc 3 (-1), 3) := by decide +kernel
theorem dX5_feed_65 : decode cX5_feed 65 = .ok (.goto (-24), 3) := by decide +kernel
theorem dX5_feed_68 : decode cX5_feed 68 = .ok (.aload_n 0, 1) := by decide +kernel
theorem dX5_feed_69 : decode cX5_feed 69 = .ok (.getfield 29, 3) := by decide +kernel
theorem dX5_feed_72 : decode cX5_feed 72 = .ok (.getfield 232, 3) := by decide +kernel
theorem dX5_feed_75 : decode cX5_feed 75 = .ok (.ireturn, 1) := by decide +kernel
theorem dX5_wipe_0 : decode cX5_wipe 0 = .ok (.aload_n 0, 1) := by decide +kernel
theorem dX5_wipe_1 : decode cX5_wipe 1 = .ok (.getfield 29, 3) := by decide +kernel
theorem dX5_wipe_4 : decode cX5_wipe 4 = .ok (.getfield 232, 3) := by decide +kernel
theorem dX5_wipe_7 : decode cX5_wipe 7 = .ok (.istore_n 1, 1) := by decide +kernel
theorem dX5_wipe_8 : decode cX5_wipe 8 = .ok (.aload_n 0, 1) := by decide +kernel
theorem dX5_wipe_9 : decode cX5_wipe 9 = .ok (.getfield 29, 3) := by decide +kernel
theorem dX5_wipe_12 : decode cX5_wipe 12 = .ok (.iconst 0, 1) := by decide +kernel
theorem dX5_wipe_13 : decode cX5_wipe 13 = .ok (.putfield 232, 3) := by decide +kernel
theorem dX5_wipe_16 : decode cX5_wipe 16 = .ok (.iload_n 1, 1) := by decide +kernel
theorem dX5_wipe_17 : decode cX5_wipe 17 = .ok (.ireturn, 1) := by decide +kernel
theorem dX5_text_0 : decode cX5_text 0 = .ok (.aload_n 0, 1) := by decide +kernel
theorem dX5_text_1 : decode cX5_text 1 = .ok (.getfield 16, 3) := by decide +kernel
theorem dX5_text_4 : decode cX5_text 4 = .ok (.aload_n 0, 1) := by decide +kernel
theorem dX5_text_5 : decode cX5_text 5 = .ok (.getfield 12, 3) := by decide +kernel
theorem dX5_text_8 : decode cX5_text 8 = .ok (.invokevirtual 202, 3) := by decide +kernel
theorem dX5_text_11 : decode cX5_text 11 = .ok (.aload_n 0, 1) := by decide +kernel
theorem dX5_text_12 : decode cX5_text 12 = .ok (.getfield 29, 3) := by decide +kernel
theorem dX5_text_15 : decode cX5_text 15 = .ok (.aload_n 0, 1) := by decide +kernel
theorem dX5_text_16 : decode cX5_text 16 = .ok (.getfield 16, 3) := by decide +kernel
theorem dX5_text_19 : decode cX5_text 19 = .ok (.invokestatic 235, 3) := by decide +kernel
theorem dX5_text_22 : decode cX5_text 22 = .ok (.istore_n 1, 1) := by decide +kernel
theorem dX5_text_23 : decode cX5_text 23 = .ok (.aload_n 0, 1) := by decide +kernel
theorem dX5_text_24 : decode cX5_text 24 = .ok (.getfield 29, 3) := by decide +kernel
theorem dX5_text_27 : decode cX5_text 27 = .ok (.iconst 0, 1) := by decide +kernel
theorem dX5_text_28 : decode cX5_text 28 = .ok (.putfield 232, 3) := by decide +kernel
theorem dX5_text_31 : decode cX5_text 31 = .ok (.iload_n 1, 1) := by decide +kernel
theorem dX5_text_32 : decode cX5_text 32 = .ok (.ifCond .ge 13, 3) := by decide +kernel
theorem dX5_text_35 : decode cX5_text 35 = .ok (.iconst (-1), 1) := by decide +kernel
theorem dX5_text_36 : decode cX5_text 36 = .ok (.aload_n 0, 1) := by decide +kernel
theorem dX5_text_37 : decode cX5_text 37 = .ok (.getfield 29, 3) := by decide +kernel
theorem dX5_text_40 : decode cX5_text 40 = .ok (.invokevirtual 241, 3) := by decide +kernel
theorem dX5_text_43 : decode cX5_text 43 = .ok (.isub, 1) := by decide +kernel
theorem dX5_text_44 : decode cX5_text 44 = .ok (.ireturn, 1) := by decide +kernel
theorem dX5_text_45 : decode cX5_text 45 = .ok (.aload_n 0, 1) := by decide +kernel
theorem dX5_text_46 : decode cX5_text 46 = .ok (.getfield 12, 3) := by decide +kernel
theorem dX5_text_49 : decode cX5_text 49 = .ok (.aload_n 0, 1) := by decide +kernel
theorem dX5_text_50 : decode cX5_text 50 = .ok (.getfield 16, 3) := by decide +kernel
theorem dX5_text_53 : decode cX5_text 53 = .ok (.invokevirtual 202, 3) := by decide +kernel
theorem dX5_text_56 : decode cX5_text 56 = .ok (.iload_n 1, 1) := by decide +kernel
theorem dX5_text_57 : decode cX5_text 57 = .ok (.ireturn, 1) := by decide +kernel
theorem dX5_hold_0 : decode cX5_hold 0 = .ok (.iload_n 1, 1) := by decide +kernel
theorem dX5_hold_1 : decode cX5_hold 1 = .ok (.iconst 0, 1) := by decide +kernel
theorem dX5_hold_2 : decode cX5_hold 2 = .ok (.bipush 9, 2) := by decide +kernel
theorem dX5_hold_4 : decode cX5_hold 4 = .ok (.invokestatic 45, 3) := by decide +kernel
theorem dX5_hold_7 : decode cX5_hold 7 = .ok (.ifCond .eq 16, 3) := by decide +kernel
theorem dX5_hold_10 : decode cX5_hold 10 = .ok (.iload_n 2, 1) := by decide +kernel
theorem dX5_hold_11 : decode cX5_hold 11 = .ok (.iconst (-1), 1) := by decide +kernel
theorem dX5_hold_12 : decode cX5_hold 12 = .ok (.if_icmp .eq 18, 3) := by decide +kernel
theorem dX5_hold_15 : decode cX5_hold 15 = .ok (.aload_n 0, 1) := by decide +kernel
theorem dX5_hold_16 : decode cX5_hold 16 = .ok (.iload_n 2, 1) := by decide +kernel
theorem dX5_hold_17 : decode cX5_hold 17 = .ok (.invokevirtual 126, 3) := by decide +kernel
theorem dX5_hold_20 : decode cX5_hold 20 = .ok (.ifCond .ne 10, 3) := by decide +kernel
theorem dX5_hold_23 : decode cX5_hold 23 = .ok (.aload_n 0, 1) := by decide +kernel
theorem dX5_hold_24 : decode cX5_hold 24 = .ok (.ldc 44, 2) := by decide +kernel
theorem dX5_hold_26 : decode cX5_hold 26 = .ok (.invokevirtual 67, 3) := by decide +kernel
theorem dX5_hold_29 : decode cX5_hold 29 = .ok (.ireturn, 1) := by decide +kernel
theorem dX5_hold_30 : decode cX5_hold 30 = .ok (.aload_n 0, 1) := by decide +kernel
theorem dX5_hold_31 : decode cX5_hold 31 = .ok (.getfield 12, 3) := by decide +kernel
theorem dX5_hold_34 : decode cX5_hold 34 = .ok (.getfield 244, 3) := by decide +kernel
theorem dX5_hold_37 : decode cX5_hold 37 = .ok (.iload_n 1, 1) := by decide +kernel
theorem dX5_hold_38 : decode cX5_hold 38 = .ok (.iload_n 2, 1) := by decide +kernel
theorem dX5_hold_39 : decode cX5_hold 39 = .ok (.iastore, 1) := by decide +kernel
theorem dX5_hold_40 : decode cX5_hold 40 = .ok (.iconst 1, 1) := by decide +kernel
theorem dX5_hold_41 : decode cX5_hold 41 = .ok (.ireturn, 1) := by decide +kernel
theorem dX5_as_0 : decode cX5_as 0 = .ok (.iload_n 1, 1) := by decide +kernel
theorem dX5_as_1 : decode cX5_as 1 = .ok (.iconst 0, 1) := by decide +kernel
theorem dX5_as_2 : decode cX5_as 2 = .ok (.bipush 9, 2) := by decide +kernel
theorem dX5_as_4 : decode cX5_as 4 = .ok (.invokestatic 45, 3) := by decide +kernel
theorem dX5_as_7 : decode cX5_as 7 = .ok (.ifCond .eq 10, 3) := by decide +kernel
theorem dX5_as_10 : decode cX5_as 10 = .ok (.iload_n 2, 1) := by decide +kernel
theorem dX5_as_11 : decode cX5_as 11 = .ok (.invokestatic 111, 3) := by decide +kernel
theorem dX5_as_14 : decode cX5_as 14 = .ok (.ifCond .ne 10, 3) := by decide +kernel
theorem dX5_as_17 : decode cX5_as 17 = .ok (.aload_n 0, 1) := by decide +kernel
theorem dX5_as_18 : decode cX5_as 18 = .ok (.ldc 44, 2) := by decide +kernel
theorem dX5_as_20 : decode cX5_as 20 = .ok (.invokevirtual 67, 3) := by decide +kernel
theorem dX5_as_23 : decode cX5_as 23 = .ok (.ireturn, 1) := by decide +kernel
theorem dX5_as_24 : decode cX5_as 24 = .ok (.aload_n 0, 1) := by decide +kernel
theorem dX5_as_25 : decode cX5_as 25 = .ok (.getfield 12, 3) := by decide +kernel
theorem dX5_as_28 : decode cX5_as 28 = .ok (.getfield 244, 3) := by decide +kernel
theorem dX5_as_31 : decode cX5_as 31 = .ok (.iload_n 1, 1) := by decide +kernel
theorem dX5_as_32 : decode cX5_as 32 = .ok (.iaload, 1) := by decide +kernel
theorem dX5_as_33 : decode cX5_as 33 = .ok (.istore_n 3, 1) := by decide +kernel
theorem dX5_as_34 : decode cX5_as 34 = .ok (.aload_n 0, 1) := by decide +kernel
theorem dX5_as_35 : decode cX5_as 35 = .ok (.iload_n 3, 1) := by decide +kernel
theorem dX5_as_36 : decode cX5_as 36 = .ok (.invokevirtual 126, 3) := by decide +kernel
theorem dX5_as_39 : decode cX5_as 39 = .ok (.ifCond .ne 10, 3) := by decide +kernel
theorem dX5_as_42 : decode cX5_as 42 = .ok (.aload_n 0, 1) := by decide +kernel
theorem dX5_as_43 : decode cX5_as 43 = .ok (.ldc 247, 2) := by decide +kernel
theorem dX5_as_45 : decode cX5_as 45 = .ok (.invokevirtual 67, 3) := by decide +kernel
theorem dX5_as_48 : decode cX5_as 48 = .ok (.ireturn, 1) := by decide +kernel
theorem dX5_as_49 : decode cX5_as 49 = .ok (.aload_n 0, 1) := by decide +kernel
theorem dX5_as_50 : decode cX5_as 50 = .ok (.getfield 12, 3) := by decide +kernel
theorem dX5_as_53 : decode cX5_as 53 = .ok (.getfield 49, 3) := by decide +kernel
theorem dX5_as_56 : decode cX5_as 56 = .ok (.getfield 129, 3) := by decide +kernel
theorem dX5_as_59 : decode cX5_as 59 = .ok (.iload_n 3, 1) := by decide +kernel
theorem dX5_as_60 : decode cX5_as 60 = .ok (.iaload, 1) := by decide +kernel
theorem dX5_as_61 : decode cX5_as 61 = .ok (.iload_n 2, 1) := by decide +kernel
theorem dX5_as_62 : decode cX5_as 62 = .ok (.invokestatic 248, 3) := by decide +kernel
theorem dX5_as_65 : decode cX5_as 65 = .ok (.ifCond .eq 7, 3) := by decide +kernel
theorem dX5_as_68 : decode cX5_as 68 = .ok (.iload_n 3, 1) := by decide +kernel
theorem dX5_as_69 : decode cX5_as 69 = .ok (.goto 9, 3) := by decide +kernel
theorem dX5_as_72 : decode cX5_as 72 = .ok (.aload_n 0, 1) := by decide +kernel
theorem dX5_as_73 : decode cX5_as 73 = .ok (.ldc 252, 2) := by decide +kernel
theorem dX5_as_75 : decode cX5_as 75 = .ok (.invokevirtual 67, 3) := by decide +kernel
theorem dX5_as_78 : decode cX5_as 78 = .ok (.ireturn, 1) := by decide +kernel
theorem dX5_isUnder_0 : decode cX5_isUnder 0 = .ok (.iload_n 0, 1) := by decide +kernel
theorem dX5_isUnder_1 : decode cX5_isUnder 1 = .ok (.istore_n 2, 1) := by decide +kernel
theorem dX5_isUnder_2 : decode cX5_isUnder 2 = .ok (.iconst 0, 1) := by decide +kernel
theorem dX5_isUnder_3 : decode cX5_isUnder 3 = .ok (.istore_n 3, 1) := by decide +kernel
theorem dX5_isUnder_4 : decode cX5_isUnder 4 = .ok (.iload_n 3, 1) := by decide +kernel
theorem dX5_isUnder_5 : decode cX5_isUnder 5 = .ok (.bipush 7, 2) := by decide +kernel
theorem dX5_isUnder_7 : decode cX5_isUnder 7 = .ok (.if_icmp .ge 29, 3) := by decide +kernel
theorem dX5_isUnder_10 : decode cX5_isUnder 10 = .ok (.iload_n 2, 1) := by decide +kernel
theorem dX5_isUnder_11 : decode cX5_isUnder 11 = .ok (.invokestatic 111, 3) := by decide +kernel
theorem dX5_isUnder_14 : decode cX5_isUnder 14 = .ok (.ifCond .eq 22, 3) := by decide +kernel
theorem dX5_isUnder_17 : decode cX5_isUnder 17 = .ok (.iload_n 2, 1) := by decide +kernel
theorem dX5_isUnder_18 : decode cX5_isUnder 18 = .ok (.iload_n 1, 1) := by decide +kernel
theorem dX5_isUnder_19 : decode cX5_isUnder 19 = .ok (.if_icmp .ne 5, 3) := by decide +kernel
theorem dX5_isUnder_22 : decode cX5_isUnder 22 = .ok (.iconst 1, 1) := by decide +kernel
theorem dX5_isUnder_23 : decode cX5_isUnder 23 = .ok (.ireturn, 1) := by decide +kernel
theorem dX5_isUnder_24 : decode cX5_isUnder 24 = .ok (.getstatic 253, 3) := by decide +kernel
theorem dX5_isUnder_27 : decode cX5_isUnder 27 = .ok (.iload_n 2, 1) := by decide +kernel
theorem dX5_isUnder_28 : decode cX5_isUnder 28 = .ok (.iaload, 1) := by decide +kernel
theorem dX5_isUnder_29 : decode cX5_isUnder 29 = .ok (.istore_n 2, 1) := by decide +kernel
theorem dX5_isUnder_30 : decode cX5_isUnder 30 = .ok (.iinc 3 1, 3) := by decide +kernel
theorem dX5_isUnder_33 : decode cX5_isUnder 33 = .ok (.goto (-29), 3) := by decide +kernel
theorem dX5_isUnder_36 : decode cX5_isUnder 36 = .ok (.iconst 0, 1) := by decide +kernel
theorem dX5_isUnder_37 : decode cX5_isUnder 37 = .ok (.ireturn, 1) := by decide +kernel
theorem dX5_isSheet_0 : decode cX5_isSheet 0 = .ok (.iload_n 0, 1) := by decide +kernel
theorem dX5_isSheet_1 : decode cX5_isSheet 1 = .ok (.iconst 0, 1) := by decide +kernel
theorem dX5_isSheet_2 : decode cX5_isSheet 2 = .ok (.iconst 3, 1) := by decide +kernel
theorem dX5_isSheet_3 : decode cX5_isSheet 3 = .ok (.invokestatic 45, 3) := by decide +kernel
theorem dX5_isSheet_6 : decode cX5_isSheet 6 = .ok (.ireturn, 1) := by decide +kernel
theorem dX5_sheet_0 : decode cX5_sheet 0 = .ok (.iload_n 1, 1) := by decide +kernel
theorem dX5_sheet_1 : decode cX5_sheet 1 = .ok (.invokestatic 256, 3) := by decide +kernel
theorem dX5_sheet_4 : decode cX5_sheet 4 = .ok (.ifCond .eq 25, 3) := by decide +kernel
theorem dX5_sheet_7 : decode cX5_sheet 7 = .ok (.iload_n 2, 1) := by decide +kernel
theorem dX5_sheet_8 : decode cX5_sheet 8 = .ok (.ifCond .eq 28, 3) := by decide +kernel
theorem dX5_sheet_11 : decode cX5_sheet 11 = .ok (.iload_n 2, 1) := by decide +kernel
theorem dX5_sheet_12 : decode cX5_sheet 12 = .ok (.bipush 8, 2) := by decide +kernel
theorem dX5_sheet_14 : decode cX5_sheet 14 = .ok (.if_icmp .eq 22, 3) := by decide +kernel
theorem dX5_sheet_17 : decode cX5_sheet 17 = .ok (.iload_n 2, 1) := by decide +kernel
theorem dX5_sheet_18 : decode cX5_sheet 18 = .ok (.bipush 16, 2) := by decide +kernel
theorem dX5_sheet_20 : decode cX5_sheet 20 = .ok (.if_icmp .eq 16, 3) := by decide +kernel
theorem dX5_sheet_23 : decode cX5_sheet 23 = .ok (.iload_n 2, 1) := by decide +kernel
theorem dX5_sheet_24 : decode cX5_sheet 24 = .ok (.bipush 32, 2) := by decide +kernel
theorem dX5_sheet_26 : decode cX5_sheet 26 = .ok (.if_icmp .eq 10, 3) := by decide +kernel
theorem dX5_sheet_29 : decode cX5_sheet 29 = .ok (.aload_n 0, 1) := by decide +kernel
theorem dX5_sheet_30 : decode cX5_sheet 30 = .ok (.ldc 44, 2) := by decide +kernel
theorem dX5_sheet_32 : decode cX5_sheet 32 = .ok (.invokevirtual 67, 3) := by decide +kernel
theorem dX5_sheet_35 : decode cX5_sheet 35 = .ok (.ireturn, 1) := by decide +kernel
theorem dX5_sheet_36 : decode cX5_sheet 36 = .ok (.iload_n 3, 1) := by decide +kernel
theorem dX5_sheet_37 : decode cX5_sheet 37 = .ok (.ifCond .ge 11, 3) := by decide +kernel
theorem dX5_sheet_40 : decode cX5_sheet 40 = .ok (.aload_n 0, 1) := by decide +kernel
theorem dX5_sheet_41 : decode cX5_sheet 41 = .ok (.ldc_w 259, 3) := by decide +kernel
theorem dX5_sheet_44 : decode cX5_sheet 44 = .ok (.invokevirtual 67, 3) := by decide +kernel
theorem dX5_sheet_47 : decode cX5_sheet 47 = .ok (.ireturn, 1) := by decide +kernel
theorem dX5_sheet_48 : decode cX5_sheet 48 = .ok (.iload_n 3, 1) := by decide +kernel
theorem dX5_sheet_49 : decode cX5_sheet 49 = .ok (.bipush 40, 2) := by decide +kernel
theorem dX5_sheet_51 : decode cX5_sheet 51 = .ok (.if_icmp .le 10, 3) := by decide +kernel
theorem dX5_sheet_54 : decode cX5_sheet 54 = .ok (.aload_n 0, 1) := by decide +kernel
theorem dX5_sheet_55 : decode cX5_sheet 55 = .ok (.ldc 44, 2) := by decide +kernel
theorem dX5_sheet_57 : decode cX5_sheet 57 = .ok (.invokevirtual 67, 3) := by decide +kernel
theorem dX5_sheet_60 : decode cX5_sheet 60 = .ok (.ireturn, 1) := by decide +kernel
theorem dX5_sheet_61 : decode cX5_sheet 61 = .ok (.aload_n 0, 1) := by decide +kernel
theorem dX5_sheet_62 : decode cX5_sheet 62 = .ok (.getfield 35, 3) := by decide +kernel
theorem dX5_sheet_65 : decode cX5_sheet 65 = .ok (.iload_n 1, 1) := by decide +kernel
theorem dX5_sheet_66 : decode cX5_sheet 66 = .ok (.aaload, 1) := by decide +kernel
theorem dX5_sheet_67 : decode cX5_sheet 67 = .ok (.iload_n 2, 1) := by decide +kernel
theorem dX5_sheet_68 : decode cX5_sheet 68 = .ok (.iload_n 3, 1) := by decide +kernel
theorem dX5_sheet_69 : decode cX5_sheet 69 = .ok (.invokevirtual 260, 3) := by decide +kernel
theorem dX5_sheet_72 : decode cX5_sheet 72 = .ok (.aload_n 0, 1) := by decide +kernel
theorem dX5_sheet_73 : decode cX5_sheet 73 = .ok (.getfield 35, 3) := by decide +kernel
theorem dX5_sheet_76 : decode cX5_sheet 76 = .ok (.iload_n 1, 1) := by decide +kernel
theorem dX5_sheet_77 : decode cX5_sheet 77 = .ok (.aaload, 1) := by decide +kernel
theorem dX5_sheet_78 : decode cX5_sheet 78 = .ok (.getfield 263, 3) := by decide +kernel
theorem dX5_sheet_81 : decode cX5_sheet 81 = .ok (.ireturn, 1) := by decide +kernel
theorem dX5_write_0 : decode cX5_write 0 = .ok (.iload_n 1, 1) := by decide +kernel
theorem dX5_write_1 : decode cX5_write 1 = .ok (.invokestatic 256, 3) := by decide +kernel
theorem dX5_write_4 : decode cX5_write 4 = .ok (.ifCond .ne 10, 3) := by decide +kernel
theorem dX5_write_7 : decode cX5_write 7 = .ok (.aload_n 0, 1) := by decide +kernel
theorem dX5_write_8 : decode cX5_write 8 = .ok (.ldc 44, 2) := by decide +kernel
theorem dX5_write_10 : decode cX5_write 10 = .ok (.invokevirtual 67, 3) := by decide +kernel
theorem dX5_write_13 : decode cX5_write 13 = .ok (.ireturn, 1) := by decide +kernel
theorem dX5_write_14 : decode cX5_write 14 = .ok (.aload_n 0, 1) := by decide +kernel
theorem dX5_write_15 : decode cX5_write 15 = .ok (.getfield 35, 3) := by decide +kernel
theorem dX5_write_18 : decode cX5_write 18 = .ok (.iload_n 1, 1) := by decide +kernel
theorem dX5_write_19 : decode cX5_write 19 = .ok (.aaload, 1) := by decide +kernel
theorem dX5_write_20 : decode cX5_write 20 = .ok (.astore 4, 2) := by decide +kernel
theorem dX5_write_22 : decode cX5_write 22 = .ok (.aload 4, 2) := by decide +kernel
theorem dX5_write_24 : decode cX5_write 24 = .ok (.invokevirtual 264, 3) := by decide +kernel
theorem dX5_write_27 : decode cX5_write 27 = .ok (.ifCond .eq 10, 3) := by decide +kernel
theorem dX5_write_30 : decode cX5_write 30 = .ok (.aload_n 0, 1) := by decide +kernel
theorem dX5_write_31 : decode cX5_write 31 = .ok (.ldc 247, 2) := by decide +kernel
theorem dX5_write_33 : decode cX5_write 33 = .ok (.invokevirtual 67, 3) := by decide +kernel
theorem dX5_write_36 : decode cX5_write 36 = .ok (.ireturn, 1) := by decide +kernel
theorem dX5_write_37 : decode cX5_write 37 = .ok (.iload_n 2, 1) := by decide +kernel
theorem dX5_write_38 : decode cX5_write 38 = .ok (.iconst 0, 1) := by decide +kernel
theorem dX5_write_39 : decode cX5_write 39 = .ok (.aload 4, 2) := by decide +kernel
theorem dX5_write_41 : decode cX5_write 41 = .ok (.getfield 263, 3) := by decide +kernel
theorem dX5_write_44 : decode cX5_write 44 = .ok (.iconst 1, 1) := by decide +kernel
theorem dX5_write_45 : decode cX5_write 45 = .ok (.isub, 1) := by decide +kernel
theorem dX5_write_46 : decode cX5_write 46 = .ok (.invokestatic 45, 3) := by decide +kernel
theorem dX5_write_49 : decode cX5_write 49 = .ok (.ifCond .ne 10, 3) := by decide +kernel
theorem dX5_write_52 : decode cX5_write 52 = .ok (.aload_n 0, 1) := by decide +kernel
theorem dX5_write_53 : decode cX5_write 53 = .ok (.ldc 44, 2) := by decide +kernel
theorem dX5_write_55 : decode cX5_write 55 = .ok (.invokevirtual 67, 3) := by decide +kernel
theorem dX5_write_58 : decode cX5_write 58 = .ok (.ireturn, 1) := by decide +kernel
theorem dX5_write_59 : decode cX5_write 59 = .ok (.aload 4, 2) := by decide +kernel
theorem dX5_write_61 : decode cX5_write 61 = .ok (.iload_n 2, 1) := by decide +kernel
theorem dX5_write_62 : decode cX5_write 62 = .ok (.iload_n 3, 1) := by decide +kernel
theorem dX5_write_63 : decode cX5_write 63 = .ok (.invokevirtual 267, 3) := by decide +kernel
theorem dX5_write_66 : decode cX5_write 66 = .ok (.iconst 1, 1) := by decide +kernel
theorem dX5_write_67 : decode cX5_write 67 = .ok (.ireturn, 1) := by decide +kernel
theorem dX5_copy_0 : decode cX5_copy 0 = .ok (.iload_n 1, 1) := by decide +kernel
theorem dX5_copy_1 : decode cX5_copy 1 = .ok (.invokestatic 256, 3) := by decide +kernel
theorem dX5_copy_4 : decode cX5_copy 4 = .ok (.ifCond .eq 10, 3) := by decide +kernel
theorem dX5_copy_7 : decode cX5_copy 7 = .ok (.iload_n 3, 1) := by decide +kernel
theorem dX5_copy_8 : decode cX5_copy 8 = .ok (.invokestatic 256, 3) := by decide +kernel
theorem dX5_copy_11 : decode cX5_copy 11 = .ok (.ifCond .ne 10, 3) := by decide +kernel
theorem dX5_copy_14 : decode cX5_copy 14 = .ok (.aload_n 0, 1) := by decide +kernel
theorem dX5_copy_15 : decode cX5_copy 15 = .ok (.ldc 44, 2) := by decide +kernel
theorem dX5_copy_17 : decode cX5_copy 17 = .ok (.invokevirtual 67, 3) := by decide +kernel
theorem dX5_copy_20 : decode cX5_copy 20 = .ok (.ireturn, 1) := by decide +kernel
theorem dX5_copy_21 : decode cX5_copy 21 = .ok (.aload_n 0, 1) := by decide +kernel
theorem dX5_copy_22 : decode cX5_copy 22 = .ok (.getfield 35, 3) := by decide +kernel
theorem dX5_copy_25 : decode cX5_copy 25 = .ok (.iload_n 1, 1) := by decide +kernel
theorem dX5_copy_26 : decode cX5_copy 26 = .ok (.aaload, 1) := by decide +kernel
theorem dX5_copy_27 : decode cX5_copy 27 = .ok (.astore 6, 2) := by decide +kernel
theorem dX5_copy_29 : decode cX5_copy 29 = .ok (.aload_n 0, 1) := by decide +kernel
theorem dX5_copy_30 : decode cX5_copy 30 = .ok (.getfield 35, 3) := by decide +kernel
theorem dX5_copy_33 : decode cX5_copy 33 = .ok (.iload_n 3, 1) := by decide +kernel
theorem dX5_copy_34 : decode cX5_copy 34 = .ok (.aaload, 1) := by decide +kernel
theorem dX5_copy_35 : decode cX5_copy 35 = .ok (.astore 7, 2) := by decide +kernel
theorem dX5_copy_37 : decode cX5_copy 37 = .ok (.aload 6, 2) := by decide +kernel
theorem dX5_copy_39 : decode cX5_copy 39 = .ok (.invokevirtual 264, 3) := by decide +kernel
theorem dX5_copy_42 : decode cX5_copy 42 = .ok (.ifCond .ne 11, 3) := by decide +kernel
theorem dX5_copy_45 : decode cX5_copy 45 = .ok (.aload 7, 2) := by decide +kernel
theorem dX5_copy_47 : decode cX5_copy 47 = .ok (.invokevirtual 264, 3) := by decide +kernel
theorem dX5_copy_50 : decode cX5_copy 50 = .ok (.ifCond .eq 10, 3) := by decide +kernel
theorem dX5_copy_53 : decode cX5_copy 53 = .ok (.aload_n 0, 1) := by decide +kernel
theorem dX5_copy_54 : decode cX5_copy 54 = .ok (.ldc 247, 2) := by decide +kernel
theorem dX5_copy_56 : decode cX5_copy 56 = .ok (.invokevirtual 67, 3) := by decide +kernel
theorem dX5_copy_59 : decode cX5_copy 59 = .ok (.ireturn, 1) := by decide +kernel
theorem dX5_copy_60 : decode cX5_copy 60 = .ok (.aload 6, 2) := by decide +kernel
theorem dX5_copy_62 : decode cX5_copy 62 = .ok (.getfield 270, 3) := by decide +kernel
theorem dX5_copy_65 : decode cX5_copy 65 = .ok (.aload 7, 2) := by decide +kernel
theorem dX5_copy_67 : decode cX5_copy 67 = .ok (.getfield 270, 3) := by decide +kernel
theorem dX5_copy_70 : decode cX5_copy 70 = .ok (.if_icmp .eq 10, 3) := by decide +kernel
theorem dX5_copy_73 : decode cX5_copy 73 = .ok (.aload_n 0, 1) := by decide +kernel
theorem dX5_copy_74 : decode cX5_copy 74 = .ok (.ldc 252, 2) := by decide +kernel
theorem dX5_copy_76 : decode cX5_copy 76 = .ok (.invokevirtual 67, 3) := by decide +kernel
theorem dX5_copy_79 : decode cX5_copy 79 = .ok (.ireturn, 1) := by decide +kernel
theorem dX5_copy_80 : decode cX5_copy 80 = .ok (.aload 6, 2) := by decide +kernel
theorem dX5_copy_82 : decode cX5_copy 82 = .ok (.iload_n 2, 1) := by decide +kernel
theorem dX5_copy_83 : decode cX5_copy 83 = .ok (.iload 5, 2) := by decide +kernel
theorem dX5_copy_85 : decode cX5_copy 85 = .ok (.invokevirtual 273, 3) := by decide +kernel
theorem dX5_copy_88 : decode cX5_copy 88 = .ok (.ifCond .eq 15, 3) := by decide +kernel
theorem dX5_copy_91 : decode cX5_copy 91 = .ok (.aload 7, 2) := by decide +kernel
theorem dX5_copy_93 : decode cX5_copy 93 = .ok (.iload 4, 2) := by decide +kernel
theorem dX5_copy_95 : decode cX5_copy 95 = .ok (.iload 5, 2) := by decide +kernel
theorem dX5_copy_97 : decode cX5_copy 97 = .ok (.invokevirtual 273, 3) := by decide +kernel
theorem dX5_copy_100 : decode cX5_copy 100 = .ok (.ifCond .ne 10, 3) := by decide +kernel
theorem dX5_copy_103 : decode cX5_copy 103 = .ok (.aload_n 0, 1) := by decide +kernel
theorem dX5_copy_104 : decode cX5_copy 104 = .ok (.ldc 44, 2) := by decide +kernel
theorem dX5_copy_106 : decode cX5_copy 106 = .ok (.invokevirtual 67, 3) := by decide +kernel
theorem dX5_copy_109 : decode cX5_copy 109 = .ok (.ireturn, 1) := by decide +kernel
theorem dX5_copy_110 : decode cX5_copy 110 = .ok (.aload 6, 2) := by decide +kernel
theorem dX5_copy_112 : decode cX5_copy 112 = .ok (.getfield 276, 3) := by decide +kernel
theorem dX5_copy_115 : decode cX5_copy 115 = .ok (.iload_n 2, 1) := by decide +kernel
theorem dX5_copy_116 : decode cX5_copy 116 = .ok (.aload 7, 2) := by decide +kernel
theorem dX5_copy_118 : decode cX5_copy 118 = .ok (.getfield 276, 3) := by decide +kernel
theorem dX5_copy_121 : decode cX5_copy 121 = .ok (.iload 4, 2) := by decide +kernel
theorem dX5_copy_123 : decode cX5_copy 123 = .ok (.iload 5, 2) := by decide +kernel
theorem dX5_copy_125 : decode cX5_copy 125 = .ok (.invokestatic 279, 3) := by decide +kernel
theorem dX5_copy_128 : decode cX5_copy 128 = .ok (.iload 5, 2) := by decide +kernel
theorem dX5_copy_130 : decode cX5_copy 130 = .ok (.ireturn, 1) := by decide +kernel
theorem dX5_load_0 : decode cX5_load 0 = .ok (.iload_n 1, 1) := by decide +kernel
theorem dX5_load_1 : decode cX5_load 1 = .ok (.invokestatic 256, 3) := by decide +kernel
theorem dX5_load_4 : decode cX5_load 4 = .ok (.ifCond .ne 10, 3) := by decide +kernel
theorem dX5_load_7 : decode cX5_load 7 = .ok (.aload_n 0, 1) := by decide +kernel
theorem dX5_load_8 : decode cX5_load 8 = .ok (.ldc 44, 2) := by decide +kernel
theorem dX5_load_10 : decode cX5_load 10 = .ok (.invokevirtual 67, 3) := by decide +kernel
theorem dX5_load_13 : decode cX5_load 13 = .ok (.ireturn, 1) := by decide +kernel
theorem dX5_load_14 : decode cX5_load 14 = .ok (.aload_n 0, 1) := by decide +kernel
theorem dX5_load_15 : decode cX5_load 15 = .ok (.getfield 35, 3) := by decide +kernel
theorem dX5_load_18 : decode cX5_load 18 = .ok (.iload_n 1, 1) := by decide +kernel
theorem dX5_load_19 : decode cX5_load 19 = .ok (.aaload, 1) := by decide +kernel
theorem dX5_load_20 : decode cX5_load 20 = .ok (.astore_n 2, 1) := by decide +kernel
theorem dX5_load_21 : decode cX5_load 21 = .ok (.aload_n 2, 1) := by decide +kernel
theorem dX5_load_22 : decode cX5_load 22 = .ok (.invokevirtual 264, 3) := by decide +kernel
theorem dX5_load_25 : decode cX5_load 25 = .ok (.ifCond .eq 10, 3) := by decide +kernel
theorem dX5_load_28 : decode cX5_load 28 = .ok (.aload_n 0, 1) := by decide +kernel
theorem dX5_load_29 : decode cX5_load 29 = .ok (.ldc 247, 2) := by decide +kernel
theorem dX5_load_31 : decode cX5_load 31 = .ok (.invokevirtual 67, 3) := by decide +kernel
theorem dX5_load_34 : decode cX5_load 34 = .ok (.ireturn, 1) := by decide +kernel
theorem dX5_load_35 : decode cX5_load 35 = .ok (.iconst 0, 1) := by decide +kernel
theorem dX5_load_36 : decode cX5_load 36 = .ok (.istore_n 3, 1) := by decide +kernel
theorem dX5_load_37 : decode cX5_load 37 = .ok (.iload_n 3, 1) := by decide +kernel
theorem dX5_load_38 : decode cX5_load 38 = .ok (.aload_n 2, 1) := by decide +kernel
theorem dX5_load_39 : decode cX5_load 39 = .ok (.getfield 263, 3) := by decide +kernel
theorem dX5_load_42 : decode cX5_load 42 = .ok (.if_icmp .ge 45, 3) := by decide +kernel
theorem dX5_load_45 : decode cX5_load 45 = .ok (.iload_n 3, 1) := by decide +kernel
theorem dX5_load_46 : decode cX5_load 46 = .ok (.bipush 10, 2) := by decide +kernel
theorem dX5_load_48 : decode cX5_load 48 = .ok (.if_icmp .ge 39, 3) := by decide +kernel
theorem dX5_load_51 : decode cX5_load 51 = .ok (.aload_n 2, 1) := by decide +kernel
theorem dX5_load_52 : decode cX5_load 52 = .ok (.getfield 276, 3) := by decide +kernel
theorem dX5_load_55 : decode cX5_load 55 = .ok (.iload_n 3, 1) := by decide +kernel
theorem dX5_load_56 : decode cX5_load 56 = .ok (.iaload, 1) := by decide +kernel
theorem dX5_load_57 : decode cX5_load 57 = .ok (.iconst 0, 1) := by decide +kernel
theorem dX5_load_58 : decode cX5_load 58 = .ok (.bipush 99, 2) := by decide +kernel
theorem dX5_load_60 : decode cX5_load 60 = .ok (.invokestatic 45, 3) := by decide +kernel
theorem dX5_load_63 : decode cX5_load 63 = .ok (.ifCond .eq 24, 3) := by decide +kernel
theorem dX5_load_66 : decode cX5_load 66 = .ok (.aload_n 0, 1) := by decide +kernel
theorem dX5_load_67 : decode cX5_load 67 = .ok (.getfield 12, 3) := by decide +kernel
theorem dX5_load_70 : decode cX5_load 70 = .ok (.getfield 71, 3) := by decide +kernel
theorem dX5_load_73 : decode cX5_load 73 = .ok (.iload_n 3, 1) := by decide +kernel
theorem dX5_load_74 : decode cX5_load 74 = .ok (.aload_n 2, 1) := by decide +kernel
theorem dX5_load_75 : decode cX5_load 75 = .ok (.getfield 276, 3) := by decide +kernel
theorem dX5_load_78 : decode cX5_load 78 = .ok (.iload_n 3, 1) := by decide +kernel
theorem dX5_load_79 : decode cX5_load 79 = .ok (.iaload, 1) := by decide +kernel
theorem dX5_load_80 : decode cX5_load 80 = .ok (.iastore, 1) := by decide +kernel
theorem dX5_load_81 : decode cX5_load 81 = .ok (.iinc 3 1, 3) := by decide +kernel
theorem dX5_load_84 : decode cX5_load 84 = .ok (.goto (-47), 3) := by decide +kernel
theorem dX5_load_87 : decode cX5_load 87 = .ok (.iload_n 3, 1) := by decide +kernel
theorem dX5_load_88 : decode cX5_load 88 = .ok (.ireturn, 1) := by decide +kernel
theorem dX5_judge_0 : decode cX5_judge 0 = .ok (.iload_n 1, 1) := by decide +kernel
theorem dX5_judge_1 : decode cX5_judge 1 = .ok (.invokestatic 256, 3) := by decide +kernel
theorem dX5_judge_4 : decode cX5_judge 4 = .ok (.ifCond .ne 10, 3) := by decide +kernel
theorem dX5_judge_7 : decode cX5_judge 7 = .ok (.aload_n 0, 1) := by decide +kernel
theorem dX5_judge_8 : decode cX5_judge 8 = .ok (.ldc 44, 2) := by decide +kernel
theorem dX5_judge_10 : decode cX5_judge 10 = .ok (.invokevirtual 67, 3) := by decide +kernel
theorem dX5_judge_13 : decode cX5_judge 13 = .ok (.ireturn, 1) := by decide +kernel
theorem dX5_judge_14 : decode cX5_judge 14 = .ok (.aload_n 0, 1) := by decide +kernel
theorem dX5_judge_15 : decode cX5_judge 15 = .ok (.getfield 35, 3) := by decide +kernel
theorem dX5_judge_18 : decode cX5_judge 18 = .ok (.iload_n 1, 1) := by decide +kernel
theorem dX5_judge_19 : decode cX5_judge 19 = .ok (.aaload, 1) := by decide +kernel
theorem dX5_judge_20 : decode cX5_judge 20 = .ok (.astore_n 2, 1) := by decide +kernel
theorem dX5_judge_21 : decode cX5_judge 21 = .ok (.aload_n 2, 1) := by decide +kernel
theorem dX5_judge_22 : decode cX5_judge 22 = .ok (.invokevirtual 264, 3) := by decide +kernel
theorem dX5_judge_25 : decode cX5_judge 25 = .ok (.ifCond .eq 10, 3) := by decide +kernel
theorem dX5_judge_28 : decode cX5_judge 28 = .ok (.aload_n 0, 1) := by decide +kernel
theorem dX5_judge_29 : decode cX5_judge 29 = .ok (.ldc 247, 2) := by decide +kernel
theorem dX5_judge_31 : decode cX5_judge 31 = .ok (.invokevirtual 67, 3) := by decide +kernel
theorem dX5_judge_34 : decode cX5_judge 34 = .ok (.ireturn, 1) := by decide +kernel
theorem dX5_judge_35 : decode cX5_judge 35 = .ok (.aload_n 0, 1) := by decide +kernel
theorem dX5_judge_36 : decode cX5_judge 36 = .ok (.aload_n 2, 1) := by decide +kernel
theorem dX5_judge_37 : decode cX5_judge 37 = .ok (.getfield 263, 3) := by decide +kernel
theorem dX5_judge_40 : decode cX5_judge 40 = .ok (.invokevirtual 162, 3) := by decide +kernel
theorem dX5_judge_43 : decode cX5_judge 43 = .ok (.ifCond .eq 10, 3) := by decide +kernel
theorem dX5_judge_46 : decode cX5_judge 46 = .ok (.aload_n 0, 1) := by decide +kernel
theorem dX5_judge_47 : decode cX5_judge 47 = .ok (.ldc 165, 2) := by decide +kernel
theorem dX5_judge_49 : decode cX5_judge 49 = .ok (.invokevirtual 67, 3) := by decide +kernel
theorem dX5_judge_52 : decode cX5_judge 52 = .ok (.ireturn, 1) := by decide +kernel
theorem dX5_judge_53 : decode cX5_judge 53 = .ok (.aload_n 0, 1) := by decide +kernel
theorem dX5_judge_54 : decode cX5_judge 54 = .ok (.getfield 16, 3) := by decide +kernel
theorem dX5_judge_57 : decode cX5_judge 57 = .ok (.aload_n 0, 1) := by decide +kernel
theorem dX5_judge_58 : decode cX5_judge 58 = .ok (.getfield 12, 3) := by decide +kernel
theorem dX5_judge_61 : decode cX5_judge 61 = .ok (.invokevirtual 202, 3) := by decide +kernel
theorem dX5_judge_64 : decode cX5_judge 64 = .ok (.iconst 0, 1) := by decide +kernel
theorem dX5_judge_65 : decode cX5_judge 65 = .ok (.istore_n 3, 1) := by decide +kernel
theorem dX5_judge_66 : decode cX5_judge 66 = .ok (.iload_n 3, 1) := by decide +kernel
theorem dX5_judge_67 : decode cX5_judge 67 = .ok (.aload_n 2, 1) := by decide +kernel
theorem dX5_judge_68 : decode cX5_judge 68 = .ok (.getfield 263, 3) := by decide +kernel
theorem dX5_judge_71 : decode cX5_judge 71 = .ok (.if_icmp .ge 29, 3) := by decide +kernel
theorem dX5_judge_74 : decode cX5_judge 74 = .ok (.aload_n 0, 1) := by decide +kernel
theorem dX5_judge_75 : decode cX5_judge 75 = .ok (.getfield 16, 3) := by decide +kernel
theorem dX5_judge_78 : decode cX5_judge 78 = .ok (.invokevirtual 212, 3) := by decide +kernel
theorem dX5_judge_81 : decode cX5_judge 81 = .ok (.aload_n 2, 1) := by decide +kernel
theorem dX5_judge_82 : decode cX5_judge 82 = .ok (.getfield 276, 3) := by decide +kernel
theorem dX5_judge_85 : decode cX5_judge 85 = .ok (.iload_n 3, 1) := by decide +kernel
theorem dX5_judge_86 : decode cX5_judge 86 = .ok (.iaload, 1) := by decide +kernel
theorem dX5_judge_87 : decode cX5_judge 87 = .ok (.if_icmp .eq 7, 3) := by decide +kernel
theorem dX5_judge_90 : decode cX5_judge 90 = .ok (.iconst 1, 1) := by decide +kernel
theorem dX5_judge_91 : decode cX5_judge 91 = .ok (.iload_n 3, 1) := by decide +kernel
theorem dX5_judge_92 : decode cX5_judge 92 = .ok (.iadd, 1) := by decide +kernel
theorem dX5_judge_93 : decode cX5_judge 93 = .ok (.ireturn, 1) := by decide +kernel
theorem dX5_judge_94 : decode cX5_judge 94 = .ok (.iinc 3 1, 3) := by decide +kernel
theorem dX5_judge_97 : decode cX5_judge 97 = .ok (.goto (-31), 3) := by decide +kernel
theorem dX5_judge_100 : decode cX5_judge 100 = .ok (.iconst 0, 1) := by decide +kernel
theorem dX5_judge_101 : decode cX5_judge 101 = .ok (.ireturn, 1) := by decide +kernel
theorem dX5_image_0 : decode cX5_image 0 = .ok (.aload_n 0, 1) := by decide +kernel
theorem dX5_image_1 : decode cX5_image 1 = .ok (.getfield 19, 3) := by decide +kernel
theorem dX5_image_4 : decode cX5_image 4 = .ok (.aload_n 0, 1) := by decide +kernel
theorem dX5_image_5 : decode cX5_image 5 = .ok (.getfield 12, 3) := by decide +kernel
theorem dX5_image_8 : decode cX5_image 8 = .ok (.invokevirtual 202, 3) := by decide +kernel
theorem dX5_image_11 : decode cX5_image 11 = .ok (.aload_n 0, 1) := by decide +kernel
theorem dX5_image_12 : decode cX5_image 12 = .ok (.iconst 1, 1) := by decide +kernel
theorem dX5_image_13 : decode cX5_image 13 = .ok (.putfield 22, 3) := by decide +kernel
theorem dX5_image_16 : decode cX5_image 16 = .ok (.iconst 1, 1) := by decide +kernel
theorem dX5_image_17 : decode cX5_image 17 = .ok (.ireturn, 1) := by decide +kernel
theorem dX5_undo_0 : decode cX5_undo 0 = .ok (.aload_n 0, 1) := by decide +kernel
theorem dX5_undo_1 : decode cX5_undo 1 = .ok (.getfield 22, 3) := by decide +kernel
theorem dX5_undo_4 : decode cX5_undo 4 = .ok (.ifCond .ne 10, 3) := by decide +kernel
theorem dX5_undo_7 : decode cX5_undo 7 = .ok (.aload_n 0, 1) := by decide +kernel
theorem dX5_undo_8 : decode cX5_undo 8 = .ok (.ldc 110, 2) := by decide +kernel
theorem dX5_undo_10 : decode cX5_undo 10 = .ok (.invokevirtual 67, 3) := by decide +kernel
theorem dX5_undo_13 : decode cX5_undo 13 = .ok (.ireturn, 1) := by decide +kernel
theorem dX5_undo_14 : decode cX5_undo 14 = .ok (.aload_n 0, 1) := by decide +kernel
theorem dX5_undo_15 : decode cX5_undo 15 = .ok (.getfield 12, 3) := by decide +kernel
theorem dX5_undo_18 : decode cX5_undo 18 = .ok (.aload_n 0, 1) := by decide +kernel
theorem dX5_undo_19 : decode cX5_undo 19 = .ok (.getfield 19, 3) := by decide +kernel
theorem dX5_undo_22 : decode cX5_undo 22 = .ok (.invokevirtual 202, 3) := by decide +kernel
theorem dX5_undo_25 : decode cX5_undo 25 = .ok (.aload_n 0, 1) := by decide +kernel
theorem dX5_undo_26 : decode cX5_undo 26 = .ok (.getfield 12, 3) := by decide +kernel
theorem dX5_undo_29 : decode cX5_undo 29 = .ok (.getfield 59, 3) := by decide +kernel
theorem dX5_undo_32 : decode cX5_undo 32 = .ok (.ireturn, 1) := by decide +kernel
theorem dX5_tear_0 : decode cX5_tear 0 = .ok (.aload_n 0, 1) := by decide +kernel
theorem dX5_tear_1 : decode cX5_tear 1 = .ok (.getfield 22, 3) := by decide +kernel
theorem dX5_tear_4 : decode cX5_tear 4 = .ok (.ifCond .eq 7, 3) := by decide +kernel
theorem dX5_tear_7 : decode cX5_tear 7 = .ok (.iconst 1, 1) := by decide +kernel
theorem dX5_tear_8 : decode cX5_tear 8 = .ok (.goto 4, 3) := by decide +kernel
theorem dX5_tear_11 : decode cX5_tear 11 = .ok (.iconst 0, 1) := by decide +kernel
theorem dX5_tear_12 : decode cX5_tear 12 = .ok (.istore_n 1, 1) := by decide +kernel
theorem dX5_tear_13 : decode cX5_tear 13 = .ok (.aload_n 0, 1) := by decide +kernel
theorem dX5_tear_14 : decode cX5_tear 14 = .ok (.iconst 0, 1) := by decide +kernel
theorem dX5_tear_15 : decode cX5_tear 15 = .ok (.putfield 22, 3) := by decide +kernel
theorem dX5_tear_18 : decode cX5_tear 18 = .ok (.iload_n 1, 1) := by decide +kernel
theorem dX5_tear_19 : decode cX5_tear 19 = .ok (.ireturn, 1) := by decide +kernel
theorem dX5_count_0 : decode cX5_count 0 = .ok (.iload_n 1, 1) := by decide +kernel
theorem dX5_count_1 : decode cX5_count 1 = .ok (.tableswitch 93 0 5 #[39, 50, 61, 69, 77, 85], 39) := by decide +kernel
theorem dX5_count_40 : decode cX5_count 40 = .ok (.aload_n 0, 1) := by decide +kernel
theorem dX5_count_41 : decode cX5_count 41 = .ok (.getfield 12, 3) := by decide +kernel
theorem dX5_count_44 : decode cX5_count 44 = .ok (.getfield 49, 3) := by decide +kernel
theorem dX5_count_47 : decode cX5_count 47 = .ok (.getfield 53, 3) := by decide +kernel
theorem dX5_count_50 : decode cX5_count 50 = .ok (.ireturn, 1) := by decide +kernel
theorem dX5_count_51 : decode cX5_count 51 = .ok (.aload_n 0, 1) := by decide +kernel
theorem dX5_count_52 : decode cX5_count 52 = .ok (.getfield 12, 3) := by decide +kernel
theorem dX5_count_55 : decode cX5_count 55 = .ok (.invokevirtual 106, 3) := by decide +kernel
theorem dX5_count_58 : decode cX5_count 58 = .ok (.invokestatic 218, 3) := by decide +kernel
theorem dX5_count_61 : decode cX5_count 61 = .ok (.ireturn, 1) := by decide +kernel
theorem dX5_count_62 : decode cX5_count 62 = .ok (.aload_n 0, 1) := by decide +kernel
theorem dX5_count_63 : decode cX5_count 63 = .ok (.getfield 12, 3) := by decide +kernel
theorem dX5_count_66 : decode cX5_count 66 = .ok (.invokevirtual 285, 3) := by decide +kernel
theorem dX5_count_69 : decode cX5_count 69 = .ok (.ireturn, 1) := by decide +kernel
theorem dX5_count_70 : decode cX5_count 70 = .ok (.aload_n 0, 1) := by decide +kernel
theorem dX5_count_71 : decode cX5_count 71 = .ok (.getfield 29, 3) := by decide +kernel
theorem dX5_count_74 : decode cX5_count 74 = .ok (.getfield 232, 3) := by decide +kernel
theorem dX5_count_77 : decode cX5_count 77 = .ok (.ireturn, 1) := by decide +kernel
theorem dX5_count_78 : decode cX5_count 78 = .ok (.aload_n 0, 1) := by decide +kernel
theorem dX5_count_79 : decode cX5_count 79 = .ok (.getfield 12, 3) := by decide +kernel
theorem dX5_count_82 : decode cX5_count 82 = .ok (.getfield 229, 3) := by decide +kernel
theorem dX5_count_85 : decode cX5_count 85 = .ok (.ireturn, 1) := by decide +kernel
theorem dX5_count_86 : decode cX5_count 86 = .ok (.aload_n 0, 1) := by decide +kernel
theorem dX5_count_87 : decode cX5_count 87 = .ok (.getfield 12, 3) := by decide +kernel
theorem dX5_count_90 : decode cX5_count 90 = .ok (.invokevirtual 288, 3) := by decide +kernel
theorem dX5_count_93 : decode cX5_count 93 = .ok (.ireturn, 1) := by decide +kernel
theorem dX5_count_94 : decode cX5_count 94 = .ok (.aload_n 0, 1) := by decide +kernel
theorem dX5_count_95 : decode cX5_count 95 = .ok (.ldc 44, 2) := by decide +kernel
theorem dX5_count_97 : decode cX5_count 97 = .ok (.invokevirtual 67, 3) := by decide +kernel
theorem dX5_count_100 : decode cX5_count 100 = .ok (.ireturn, 1) := by decide +kernel
theorem dX5_status_0 : decode cX5_status 0 = .ok (.iload_n 1, 1) := by decide +kernel
theorem dX5_status_1 : decode cX5_status 1 = .ok (.iconst (-1), 1) := by decide +kernel
theorem dX5_status_2 : decode cX5_status 2 = .ok (.bipush 6, 2) := by decide +kernel
theorem dX5_status_4 : decode cX5_status 4 = .ok (.invokestatic 45, 3) := by decide +kernel
theorem dX5_status_7 : decode cX5_status 7 = .ok (.ifCond .ne 10, 3) := by decide +kernel
theorem dX5_status_10 : decode cX5_status 10 = .ok (.aload_n 0, 1) := by decide +kernel
theorem dX5_status_11 : decode cX5_status 11 = .ok (.ldc 44, 2) := by decide +kernel
theorem dX5_status_13 : decode cX5_status 13 = .ok (.invokevirtual 67, 3) := by decide +kernel
theorem dX5_status_16 : decode cX5_status 16 = .ok (.ireturn, 1) := by decide +kernel
theorem dX5_status_17 : decode cX5_status 17 = .ok (.iload_n 1, 1) := by decide +kernel
theorem dX5_status_18 : decode cX5_status 18 = .ok (.ifCond .lt 10, 3) := by decide +kernel
theorem dX5_status_21 : decode cX5_status 21 = .ok (.aload_n 0, 1) := by decide +kernel
theorem dX5_status_22 : decode cX5_status 22 = .ok (.getfield 40, 3) := by decide +kernel
theorem dX5_status_25 : decode cX5_status 25 = .ok (.iload_n 1, 1) := by decide +kernel
theorem dX5_status_26 : decode cX5_status 26 = .ok (.iaload, 1) := by decide +kernel
theorem dX5_status_27 : decode cX5_status 27 = .ok (.ireturn, 1) := by decide +kernel
theorem dX5_status_28 : decode cX5_status 28 = .ok (.iconst 0, 1) := by decide +kernel
theorem dX5_status_29 : decode cX5_status 29 = .ok (.istore_n 2, 1) := by decide +kernel
theorem dX5_status_30 : decode cX5_status 30 = .ok (.iconst 0, 1) := by decide +kernel
theorem dX5_status_31 : decode cX5_status 31 = .ok (.istore_n 3, 1) := by decide +kernel
theorem dX5_status_32 : decode cX5_status 32 = .ok (.iload_n 3, 1) := by decide +kernel
theorem dX5_status_33 : decode cX5_status 33 = .ok (.bipush 7, 2) := by decide +kernel
theorem dX5_status_35 : decode cX5_status 35 = .ok (.if_icmp .ge 18, 3) := by decide +kernel
theorem dX5_status_38 : decode cX5_status 38 = .ok (.iload_n 2, 1) := by decide +kernel
theorem dX5_status_39 : decode cX5_status 39 = .ok (.aload_n 0, 1) := by decide +kernel
theorem dX5_status_40 : decode cX5_status 40 = .ok (.getfield 40, 3) := by decide +kernel
theorem dX5_status_43 : decode cX5_status 43 = .ok (.iload_n 3, 1) := by decide +kernel
theorem dX5_status_44 : decode cX5_status 44 = .ok (.iaload, 1) := by decide +kernel
theorem dX5_status_45 : decode cX5_status 45 = .ok (.iadd, 1) := by decide +kernel
theorem dX5_status_46 : decode cX5_status 46 = .ok (.istore_n 2, 1) := by decide +kernel
theorem dX5_status_47 : decode cX5_status 47 = .ok (.iinc 3 1, 3) := by decide +kernel
theorem dX5_status_50 : decode cX5_status 50 = .ok (.goto (-18), 3) := by decide +kernel
theorem dX5_status_53 : decode cX5_status 53 = .ok (.iload_n 2, 1) := by decide +kernel
theorem dX5_status_54 : decode cX5_status 54 = .ok (.ireturn, 1) := by decide +kernel
end
section
theorem dX6_init_0 : decode cX6_init 0 = .ok (.aload_n 0, 1) := by decide +kernel
theorem dX6_init_1 : decode cX6_init 1 = .ok (.invokespecial 3, 3) := by decide +kernel
theorem dX6_init_4 : decode cX6_init 4 = .ok (.aload_n 0, 1) := by decide +kernel
theorem dX6_init_5 : decode cX6_init 5 = .ok (.bipush 115, 2) := by decide +kernel
theorem dX6_init_7 : decode cX6_init 7 = .ok (.newarray .int, 2) := by decide +kernel
theorem dX6_init_9 : decode cX6_init 9 = .ok (.putfield 9, 3) := by decide +kernel
theorem dX6_init_12 : decode cX6_init 12 = .ok (.aload_n 0, 1) := by decide +kernel
theorem dX6_init_13 : decode cX6_init 13 = .ok (.bipush 115, 2) := by decide +kernel
theorem dX6_init_15 : decode cX6_init 15 = .ok (.newarray .int, 2) := by decide +kernel
theorem dX6_init_17 : decode cX6_init 17 = .ok (.putfield 13, 3) := by decide +kernel
theorem dX6_init_20 : decode cX6_init 20 = .ok (.aload_n 0, 1) := by decide +kernel
theorem dX6_init_21 : decode cX6_init 21 = .ok (.bipush 115, 2) := by decide +kernel
theorem dX6_init_23 : decode cX6_init 23 = .ok (.newarray .int, 2) := by decide +kernel
theorem dX6_init_25 : decode cX6_init 25 = .ok (.putfield 16, 3) := by decide +kernel
theorem dX6_init_28 : decode cX6_init 28 = .ok (.aload_n 0, 1) := by decide +kernel
theorem dX6_init_29 : decode cX6_init 29 = .ok (.bipush 7, 2) := by decide +kernel
theorem dX6_init_31 : decode cX6_init 31 = .ok (.newarray .int, 2) := by decide +kernel
theorem dX6_init_33 : decode cX6_init 33 = .ok (.putfield 19, 3) := by decide +kernel
theorem dX6_init_36 : decode cX6_init 36 = .ok (.aload_n 0, 1) := by decide +kernel
theorem dX6_init_37 : decode cX6_init 37 = .ok (.bipush 120, 2) := by decide +kernel
theorem dX6_init_39 : decode cX6_init 39 = .ok (.newarray .int, 2) := by decide +kernel
theorem dX6_init_41 : decode cX6_init 41 = .ok (.putfield 22, 3) := by decide +kernel
theorem dX6_init_44 : decode cX6_init 44 = .ok (.aload_n 0, 1) := by decide +kernel
theorem dX6_init_45 : decode cX6_init 45 = .ok (.iconst 4, 1) := by decide +kernel
theorem dX6_init_46 : decode cX6_init 46 = .ok (.newarray .int, 2) := by decide +kernel
theorem dX6_init_48 : decode cX6_init 48 = .ok (.putfield 25, 3) := by decide +kernel
theorem dX6_init_51 : decode cX6_init 51 = .ok (.aload_n 0, 1) := by decide +kernel
theorem dX6_init_52 : decode cX6_init 52 = .ok (.iconst 4, 1) := by decide +kernel
theorem dX6_init_53 : decode cX6_init 53 = .ok (.newarray .int, 2) := by decide +kernel
theorem dX6_init_55 : decode cX6_init 55 = .ok (.putfield 28, 3) := by decide +kernel
theorem dX6_init_58 : decode cX6_init 58 = .ok (.aload_n 0, 1) := by decide +kernel
theorem dX6_init_59 : decode cX6_init 59 = .ok (.sipush 160, 3) := by decide +kernel
theorem dX6_init_62 : decode cX6_init 62 = .ok (.newarray .int, 2) := by decide +kernel
theorem dX6_init_64 : decode cX6_init 64 = .ok (.putfield 31, 3) := by decide +kernel
theorem dX6_init_67 : decode cX6_init 67 = .ok (.aload_n 0, 1) := by decide +kernel
theorem dX6_init_68 : decode cX6_init 68 = .ok (.getfield 9, 3) := by decide +kernel
theorem dX6_init_71 : decode cX6_init 71 = .ok (.iconst 1, 1) := by decide +kernel
theorem dX6_init_72 : decode cX6_init 72 = .ok (.iconst 1, 1) := by decide +kernel
theorem dX6_init_73 : decode cX6_init 73 = .ok (.iastore, 1) := by decide +kernel
theorem dX6_init_74 : decode cX6_init 74 = .ok (.aload_n 0, 1) := by decide +kernel
theorem dX6_init_75 : decode cX6_init 75 = .ok (.getfield 9, 3) := by decide +kernel
theorem dX6_init_78 : decode cX6_init 78 = .ok (.iconst 2, 1) := by decide +kernel
theorem dX6_init_79 : decode cX6_init 79 = .ok (.iconst 3, 1) := by decide +kernel
theorem dX6_init_80 : decode cX6_init 80 = .ok (.iastore, 1) := by decide +kernel
theorem dX6_init_81 : decode cX6_init 81 = .ok (.aload_n 0, 1) := by decide +kernel
theorem dX6_init_82 : decode cX6_init 82 = .ok (.getfield 9, 3) := by decide +kernel
theorem dX6_init_85 : decode cX6_init 85 = .ok (.iconst 3, 1) := by decide +kernel
theorem dX6_init_86 : decode cX6_init 86 = .ok (.bipush 40, 2) := by decide +kernel
theorem dX6_init_88 : decode cX6_init 88 = .ok (.iastore, 1) := by decide +kernel
theorem dX6_init_89 : decode cX6_init 89 = .ok (.aload_n 0, 1) := by decide +kernel
theorem dX6_init_90 : decode cX6_init 90 = .ok (.getfield 9, 3) := by decide +kernel
theorem dX6_init_93 : decode cX6_init 93 = .ok (.iconst 4, 1) := by decide +kernel
theorem dX6_init_94 : decode cX6_init 94 = .ok (.sipush 1500, 3) := by decide +kernel
theorem dX6_init_97 : decode cX6_init 97 = .ok (.iastore, 1) := by decide +kernel
theorem dX6_init_98 : decode cX6_init 98 = .ok (.aload_n 0, 1) := by decide +kernel
theorem dX6_init_99 : decode cX6_init 99 = .ok (.getfield 9, 3) := by decide +kernel
theorem dX6_init_102 : decode cX6_init 102 = .ok (.iconst 5, 1) := by decide +kernel
theorem dX6_init_103 : decode cX6_init 103 = .ok (.bipush 50, 2) := by decide +kernel
theorem dX6_init_105 : decode cX6_init 105 = .ok (.iastore, 1) := by decide +kernel
theorem dX6_init_106 : decode cX6_init 106 = .ok (.aload_n 0, 1) := by decide +kernel
theorem dX6_init_107 : decode cX6_init 107 = .ok (.getfield 9, 3) := by decide +kernel
theorem dX6_init_110 : decode cX6_init 110 = .ok (.bipush 6, 2) := by decide +kernel
theorem dX6_init_112 : decode cX6_init 112 = .ok (.iconst (-1), 1) := by decide +kernel
theorem dX6_init_113 : decode cX6_init 113 = .ok (.iastore, 1) := by decide +kernel
theorem dX6_init_114 : decode cX6_init 114 = .ok (.iconst 0, 1) := by decide +kernel
theorem dX6_init_115 : decode cX6_init 115 = .ok (.istore_n 1, 1) := by decide +kernel
theorem dX6_init_116 : decode cX6_init 116 = .ok (.iload_n 1, 1) := by decide +kernel
theorem dX6_init_117 : decode cX6_init 117 = .ok (.bipush 10, 2) := by decide +kernel
theorem dX6_init_119 : decode cX6_init 119 = .ok (.if_icmp .ge 22, 3) := by decide +kernel
theorem dX6_init_122 : decode cX6_init 122 = .ok (.aload_n 0, 1) := by decide +kernel
theorem dX6_init_123 : decode cX6_init 123 = .ok (.getfield 9, 3) := by decide +kernel
theorem dX6_init_126 : decode cX6_init 126 = .ok (.bipush 10, 2) := by decide +kernel
theorem dX6_init_128 : decode cX6_init 128 = .ok (.iconst 3, 1) := by decide +kernel
theorem dX6_init_129 : decode cX6_init 129 = .ok (.iload_n 1, 1) := by decide +kernel
theorem dX6_init_130 : decode cX6_init 130 = .ok (.imul, 1) := by decide +kernel
theorem dX6_init_131 : decode cX6_init 131 = .ok (.iadd, 1) := by decide +kernel
theorem dX6_init_132 : decode cX6_init 132 = .ok (.bipush 20, 2) := by decide +kernel
theorem dX6_init_134 : decode cX6_init 134 = .ok (.iastore, 1) := by decide +kernel
theorem dX6_init_135 : decode cX6_init 135 = .ok (.iinc 1 1, 3) := by decide +kernel
theorem dX6_init_138 : decode cX6_init 138 = .ok (.goto (-22), 3) := by decide +kernel
theorem dX6_init_141 : decode cX6_init 141 = .ok (.iconst 0, 1) := by decide +kernel
theorem dX6_init_142 : decode cX6_init 142 = .ok (.istore_n 1, 1) := by decide +kernel
theorem dX6_init_143 : decode cX6_init 143 = .ok (.iload_n 1, 1) := by decide +kernel
theorem dX6_init_144 : decode cX6_init 144 = .ok (.bipush 10, 2) := by decide +kernel
theorem dX6_init_146 : decode cX6_init 146 = .ok (.if_icmp .ge 19, 3) := by decide +kernel
theorem dX6_init_149 : decode cX6_init 149 = .ok (.aload_n 0, 1) := by decide +kernel
theorem dX6_init_150 : decode cX6_init 150 = .ok (.getfield 9, 3) := by decide +kernel
theorem dX6_init_153 : decode cX6_init 153 = .ok (.bipush 70, 2) := by decide +kernel
theorem dX6_init_155 : decode cX6_init 155 = .ok (.iload_n 1, 1) := by decide +kernel
theorem dX6_init_156 : decode cX6_init 156 = .ok (.iadd, 1) := by decide +kernel
theorem dX6_init_157 : decode cX6_init 157 = .ok (.iconst (-1), 1) := by decide +kernel
theorem dX6_init_158 : decode cX6_init 158 = .ok (.iastore, 1) := by decide +kernel
theorem dX6_init_159 : decode cX6_init 159 = .ok (.iinc 1 1, 3) := by decide +kernel
theorem dX6_init_162 : decode cX6_init 162 = .ok (.goto (-19), 3) := by decide +kernel
theorem dX6_init_165 : decode cX6_init 165 = .ok (.return_, 1) := by decide +kernel
theorem dX6_finds_0 : decode cX6_finds 0 = .ok (.aload_n 0, 1) := by decide +kernel
theorem dX6_finds_1 : decode cX6_finds 1 = .ok (.getfield 19, 3) := by decide +kernel
theorem dX6_finds_4 : decode cX6_finds 4 = .ok (.ldc 34, 2) := by decide +kernel
theorem dX6_finds_6 : decode cX6_finds 6 = .ok (.iload_n 1, 1) := by decide +kernel
theorem dX6_finds_7 : decode cX6_finds 7 = .ok (.isub, 1) := by decide +kernel
theorem dX6_finds_8 : decode cX6_finds 8 = .ok (.dup2, 1) := by decide +kernel
theorem dX6_finds_9 : decode cX6_finds 9 = .ok (.iaload, 1) := by decide +kernel
theorem dX6_finds_10 : decode cX6_finds 10 = .ok (.iconst 1, 1) := by decide +kernel
theorem dX6_finds_11 : decode cX6_finds 11 = .ok (.iadd, 1) := by decide +kernel
theorem dX6_finds_12 : decode cX6_finds 12 = .ok (.iastore, 1) := by decide +kernel
theorem dX6_finds_13 : decode cX6_finds 13 = .ok (.iload_n 1, 1) := by decide +kernel
theorem dX6_finds_14 : decode cX6_finds 14 = .ok (.ireturn, 1) := by decide +kernel
theorem dX6_orNone_0 : decode cX6_orNone 0 = .ok (.iload_n 1, 1) := by decide +kernel
theorem dX6_orNone_1 : decode cX6_orNone 1 = .ok (.ifCond .ge 12, 3) := by decide +kernel
theorem dX6_orNone_4 : decode cX6_orNone 4 = .ok (.aload_n 0, 1) := by decide +kernel
theorem dX6_orNone_5 : decode cX6_orNone 5 = .ok (.ldc 35, 2) := by decide +kernel
theorem dX6_orNone_7 : decode cX6_orNone 7 = .ok (.invokevirtual 36, 3) := by decide +kernel
theorem dX6_orNone_10 : decode cX6_orNone 10 = .ok (.goto 4, 3) := by decide +kernel
theorem dX6_orNone_13 : decode cX6_orNone 13 = .ok (.iload_n 1, 1) := by decide +kernel
theorem dX6_orNone_14 : decode cX6_orNone 14 = .ok (.ireturn, 1) := by decide +kernel
theorem dX6_in_0 : decode cX6_in 0 = .ok (.lload_n 0, 1) := by decide +kernel
theorem dX6_in_1 : decode cX6_in 1 = .ok (.lload_n 2, 1) := by decide +kernel
theorem dX6_in_2 : decode cX6_in 2 = .ok (.lcmp, 1) := by decide +kernel
theorem dX6_in_3 : decode cX6_in 3 = .ok (.ifCond .lt 14, 3) := by decide +kernel
theorem dX6_in_6 : decode cX6_in 6 = .ok (.lload_n 0, 1) := by decide +kernel
theorem dX6_in_7 : decode cX6_in 7 = .ok (.lload 4, 2) := by decide +kernel
theorem dX6_in_9 : decode cX6_in 9 = .ok (.lcmp, 1) := by decide +kernel
theorem dX6_in_10 : decode cX6_in 10 = .ok (.ifCond .gt 7, 3) := by decide +kernel
theorem dX6_in_13 : decode cX6_in 13 = .ok (.iconst 1, 1) := by decide +kernel
theorem dX6_in_14 : decode cX6_in 14 = .ok (.goto 4, 3) := by decide +kernel
theorem dX6_in_17 : decode cX6_in 17 = .ok (.iconst 0, 1) := by decide +kernel
theorem dX6_in_18 : decode cX6_in 18 = .ok (.ireturn, 1) := by decide +kernel
theorem dX6_held_0 : decode cX6_held 0 = .ok (.iload_n 0, 1) := by decide +kernel
theorem dX6_held_1 : decode cX6_held 1 = .ok (.ifCond .ge 7, 3) := by decide +kernel
theorem dX6_held_4 : decode cX6_held 4 = .ok (.iconst 0, 1) := by decide +kernel
theorem dX6_held_5 : decode cX6_held 5 = .ok (.goto 13, 3) := by decide +kernel
theorem dX6_held_8 : decode cX6_held 8 = .ok (.iload_n 0, 1) := by decide +kernel
theorem dX6_held_9 : decode cX6_held 9 = .ok (.iload_n 1, 1) := by decide +kernel
theorem dX6_held_10 : decode cX6_held 10 = .ok (.if_icmp .le 7, 3) := by decide +kernel
theorem dX6_held_13 : decode cX6_held 13 = .ok (.iload_n 1, 1) := by decide +kernel
theorem dX6_held_14 : decode cX6_held 14 = .ok (.goto 4, 3) := by decide +kernel
theorem dX6_held_17 : decode cX6_held 17 = .ok (.iload_n 0, 1) := by decide +kernel
theorem dX6_held_18 : decode cX6_held 18 = .ok (.ireturn, 1) := by decide +kernel
theorem dX6_row_0 : decode cX6_row 0 = .ok (.iconst 0, 1) := by decide +kernel
theorem dX6_row_1 : decode cX6_row 1 = .ok (.istore_n 2, 1) := by decide +kernel
theorem dX6_row_2 : decode cX6_row 2 = .ok (.iload_n 2, 1) := by decide +kernel
theorem dX6_row_3 : decode cX6_row 3 = .ok (.bipush 115, 2) := by decide +kernel
theorem dX6_row_5 : decode cX6_row 5 = .ok (.if_icmp .ge 15, 3) := by decide +kernel
theorem dX6_row_8 : decode cX6_row 8 = .ok (.aload_n 1, 1) := by decide +kernel
theorem dX6_row_9 : decode cX6_row 9 = .ok (.iload_n 2, 1) := by decide +kernel
theorem dX6_row_10 : decode cX6_row 10 = .ok (.aload_n 0, 1) := by decide +kernel
theorem dX6_row_11 : decode cX6_row 11 = .ok (.iload_n 2, 1) := by decide +kernel
theorem dX6_row_12 : decode cX6_row 12 = .ok (.iaload, 1) := by decide +kernel
theorem dX6_row_13 : decode cX6_row 13 = .ok (.iastore, 1) := by decide +kernel
theorem dX6_row_14 : decode cX6_row 14 = .ok (.iinc 2 1, 3) := by decide +kernel
theorem dX6_row_17 : decode cX6_row 17 = .ok (.goto (-15), 3) := by decide +kernel
theorem dX6_row_20 : decode cX6_row 20 = .ok (.return_, 1) := by decide +kernel
theorem dX6_becomes_0 : decode cX6_becomes 0 = .ok (.aload_n 0, 1) := by decide +kernel
theorem dX6_becomes_1 : decode cX6_becomes 1 = .ok (.getfield 9, 3) := by decide +kernel
theorem dX6_becomes_4 : decode cX6_becomes 4 = .ok (.iload_n 1, 1) := by decide +kernel
theorem dX6_becomes_5 : decode cX6_becomes 5 = .ok (.iaload, 1) := by decide +kernel
theorem dX6_becomes_6 : decode cX6_becomes 6 = .ok (.istore_n 3, 1) := by decide +kernel
theorem dX6_becomes_7 : decode cX6_becomes 7 = .ok (.aload_n 0, 1) := by decide +kernel
theorem dX6_becomes_8 : decode cX6_becomes 8 = .ok (.getfield 9, 3) := by decide +kernel
theorem dX6_becomes_11 : decode cX6_becomes 11 = .ok (.iload_n 1, 1) := by decide +kernel
theorem dX6_becomes_12 : decode cX6_becomes 12 = .ok (.iload_n 2, 1) := by decide +kernel
theorem dX6_becomes_13 : decode cX6_becomes 13 = .ok (.iastore, 1) := by decide +kernel
theorem dX6_becomes_14 : decode cX6_becomes 14 = .ok (.iload_n 3, 1) := by decide +kernel
theorem dX6_becomes_15 : decode cX6_becomes 15 = .ok (.ireturn, 1) := by decide +kernel
theorem dX6_isFood_0 : decode cX6_isFood 0 = .ok (.iload_n 0, 1) := by decide +kernel
theorem dX6_isFood_1 : decode cX6_isFood 1 = .ok (.i2l, 1) := by decide +kernel
theorem dX6_isFood_2 : decode cX6_isFood 2 = .ok (.lconst 0, 1) := by decide +kernel
theorem dX6_isFood_3 : decode cX6_isFood 3 = .ok (.ldc2_w 40, 3) := by decide +kernel
theorem dX6_isFood_6 : decode cX6_isFood 6 = .ok (.invokestatic 42, 3) := by decide +kernel
theorem dX6_isFood_9 : decode cX6_isFood 9 = .ok (.ireturn, 1) := by decide +kernel
theorem dX6_isTaste_0 : decode cX6_isTaste 0 = .ok (.iload_n 1, 1) := by decide +kernel
theorem dX6_isTaste_1 : decode cX6_isTaste 1 = .ok (.i2l, 1) := by decide +kernel
theorem dX6_isTaste_2 : decode cX6_isTaste 2 = .ok (.lconst 0, 1) := by decide +kernel
theorem dX6_isTaste_3 : decode cX6_isTaste 3 = .ok (.aload_n 0, 1) := by decide +kernel
theorem dX6_isTaste_4 : decode cX6_isTaste 4 = .ok (.getfield 9, 3) := by decide +kernel
theorem dX6_isTaste_7 : decode cX6_isTaste 7 = .ok (.bipush 8, 2) := by decide +kernel
theorem dX6_isTaste_9 : decode cX6_isTaste 9 = .ok (.iaload, 1) := by decide +kernel
theorem dX6_isTaste_10 : decode cX6_isTaste 10 = .ok (.iconst 1, 1) := by decide +kernel
theorem dX6_isTaste_11 : decode cX6_isTaste 11 = .ok (.isub, 1) := by decide +kernel
theorem dX6_isTaste_12 : decode cX6_isTaste 12 = .ok (.i2l, 1) := by decide +kernel
theorem dX6_isTaste_13 : decode cX6_isTaste 13 = .ok (.invokestatic 42, 3) := by decide +kernel
theorem dX6_isTaste_16 : decode cX6_isTaste 16 = .ok (.ireturn, 1) := by decide +kernel
theorem dX6_isKind_0 : decode cX6_isKind 0 = .ok (.iload_n 0, 1) := by decide +kernel
theorem dX6_isKind_1 : decode cX6_isKind 1 = .ok (.i2l, 1) := by decide +kernel
theorem dX6_isKind_2 : decode cX6_isKind 2 = .ok (.lconst 0, 1) := by decide +kernel
theorem dX6_isKind_3 : decode cX6_isKind 3 = .ok (.ldc2_w 46, 3) := by decide +kernel
theorem dX6_isKind_6 : decode cX6_isKind 6 = .ok (.invokestatic 42, 3) := by decide +kernel
theorem dX6_isKind_9 : decode cX6_isKind 9 = .ok (.ireturn, 1) := by decide +kernel
theorem dX6_isPut_0 : decode cX6_isPut 0 = .ok (.iload_n 0, 1) := by decide +kernel
theorem dX6_isPut_1 : decode cX6_isPut 1 = .ok (.i2l, 1) := by decide +kernel
theorem dX6_isPut_2 : decode cX6_isPut 2 = .ok (.lconst 1, 1) := by decide +kernel
theorem dX6_isPut_3 : decode cX6_isPut 3 = .ok (.ldc2_w 48, 3) := by decide +kernel
theorem dX6_isPut_6 : decode cX6_isPut 6 = .ok (.invokestatic 42, 3) := by decide +kernel
theorem dX6_isPut_9 : decode cX6_isPut 9 = .ok (.ireturn, 1) := by decide +kernel
theorem dX6_of_0 : decode cX6_of 0 = .ok (.aload_n 0, 1) := by decide +kernel
theorem dX6_of_1 : decode cX6_of 1 = .ok (.getfield 9, 3) := by decide +kernel
theorem dX6_of_4 : decode cX6_of 4 = .ok (.bipush 40, 2) := by decide +kernel
theorem dX6_of_6 : decode cX6_of 6 = .ok (.iconst 3, 1) := by decide +kernel
theorem dX6_of_7 : decode cX6_of 7 = .ok (.iload_n 1, 1) := by decide +kernel
theorem dX6_of_8 : decode cX6_of 8 = .ok (.imul, 1) := by decide +kernel
theorem dX6_of_9 : decode cX6_of 9 = .ok (.iadd, 1) := by decide +kernel
theorem dX6_of_10 : decode cX6_of 10 = .ok (.iload_n 2, 1) := by decide +kernel
theorem dX6_of_11 : decode cX6_of 11 = .ok (.iadd, 1) := by decide +kernel
theorem dX6_of_12 : decode cX6_of 12 = .ok (.iaload, 1) := by decide +kernel
theorem dX6_of_13 : decode cX6_of 13 = .ok (.ireturn, 1) := by decide +kernel
theorem dX6_like_0 : decode cX6_like 0 = .ok (.aload_n 0, 1) := by decide +kernel
theorem dX6_like_1 : decode cX6_like 1 = .ok (.getfield 9, 3) := by decide +kernel
theorem dX6_like_4 : decode cX6_like 4 = .ok (.bipush 10, 2) := by decide +kernel
theorem dX6_like_6 : decode cX6_like 6 = .ok (.iconst 3, 1) := by decide +kernel
theorem dX6_like_7 : decode cX6_like 7 = .ok (.iload_n 1, 1) := by decide +kernel
theorem dX6_like_8 : decode cX6_like 8 = .ok (.imul, 1) := by decide +kernel
theorem dX6_like_9 : decode cX6_like 9 = .ok (.iadd, 1) := by decide +kernel
theorem dX6_like_10 : decode cX6_like 10 = .ok (.iaload, 1) := by decide +kernel
theorem dX6_like_11 : decode cX6_like 11 = .ok (.ireturn, 1) := by decide +kernel
theorem dX6_isLiked_0 : decode cX6_isLiked 0 = .ok (.aload_n 0, 1) := by decide +kernel
theorem dX6_isLiked_1 : decode cX6_isLiked 1 = .ok (.iload_n 1, 1) := by decide +kernel
theorem dX6_isLiked_2 : decode cX6_isLiked 2 = .ok (.invokevirtual 50, 3) := by decide +kernel
theorem dX6_isLiked_5 : decode cX6_isLiked 5 = .ok (.aload_n 0, 1) := by decide +kernel
theorem dX6_isLiked_6 : decode cX6_isLiked 6 = .ok (.getfield 9, 3) := by decide +kernel
theorem dX6_isLiked_9 : decode cX6_isLiked 9 = .ok (.iconst 5, 1) := by decide +kernel
theorem dX6_isLiked_10 : decode cX6_isLiked 10 = .ok (.iaload, 1) := by decide +kernel
theorem dX6_isLiked_11 : decode cX6_isLiked 11 = .ok (.if_icmp .lt 7, 3) := by decide +kernel
theorem dX6_isLiked_14 : decode cX6_isLiked 14 = .ok (.iconst 1, 1) := by decide +kernel
theorem dX6_isLiked_15 : decode cX6_isLiked 15 = .ok (.goto 4, 3) := by decide +kernel
theorem dX6_isLiked_18 : decode cX6_isLiked 18 = .ok (.iconst 0, 1) := by decide +kernel
theorem dX6_isLiked_19 : decode cX6_isLiked 19 = .ok (.ireturn, 1) := by decide +kernel
theorem dX6_food_0 : decode cX6_food 0 = .ok (.iload_n 2, 1) := by decide +kernel
theorem dX6_food_1 : decode cX6_food 1 = .ok (.ifCond .ne 15, 3) := by decide +kernel
theorem dX6_food_4 : decode cX6_food 4 = .ok (.iload_n 3, 1) := by decide +kernel
theorem dX6_food_5 : decode cX6_food 5 = .ok (.i2l, 1) := by decide +kernel
theorem dX6_food_6 : decode cX6_food 6 = .ok (.lconst 0, 1) := by decide +kernel
theorem dX6_food_7 : decode cX6_food 7 = .ok (.ldc2_w 53, 3) := by decide +kernel
theorem dX6_food_10 : decode cX6_food 10 = .ok (.invokestatic 42, 3) := by decide +kernel
theorem dX6_food_13 : decode cX6_food 13 = .ok (.goto 25, 3) := by decide +kernel
theorem dX6_food_16 : decode cX6_food 16 = .ok (.iload_n 2, 1) := by decide +kernel
theorem dX6_food_17 : decode cX6_food 17 = .ok (.iconst 1, 1) := by decide +kernel
theorem dX6_food_18 : decode cX6_food 18 = .ok (.if_icmp .ne 19, 3) := by decide +kernel
theorem dX6_food_21 : decode cX6_food 21 = .ok (.iload_n 3, 1) := by decide +kernel
theorem dX6_food_22 : decode cX6_food 22 = .ok (.i2l, 1) := by decide +kernel
theorem dX6_food_23 : decode cX6_food 23 = .ok (.lconst 0, 1) := by decide +kernel
theorem dX6_food_24 : decode cX6_food 24 = .ok (.ldc2_w 40, 3) := by decide +kernel
theorem dX6_food_27 : decode cX6_food 27 = .ok (.invokestatic 42, 3) := by decide +kernel
theorem dX6_food_30 : decode cX6_food 30 = .ok (.ifCond .eq 7, 3) := by decide +kernel
theorem dX6_food_33 : decode cX6_food 33 = .ok (.iconst 1, 1) := by decide +kernel
theorem dX6_food_34 : decode cX6_food 34 = .ok (.goto 4, 3) := by decide +kernel
theorem dX6_food_37 : decode cX6_food 37 = .ok (.iconst 0, 1) := by decide +kernel
theorem dX6_food_38 : decode cX6_food 38 = .ok (.istore 4, 2) := by decide +kernel
theorem dX6_food_40 : decode cX6_food 40 = .ok (.iload_n 1, 1) := by decide +kernel
theorem dX6_food_41 : decode cX6_food 41 = .ok (.invokestatic 55, 3) := by decide +kernel
theorem dX6_food_44 : decode cX6_food 44 = .ok (.ifCond .eq 24, 3) := by decide +kernel
theorem dX6_food_47 : decode cX6_food 47 = .ok (.iload 4, 2) := by decide +kernel
theorem dX6_food_49 : decode cX6_food 49 = .ok (.ifCond .eq 19, 3) := by decide +kernel
theorem dX6_food_52 : decode cX6_food 52 = .ok (.aload_n 0, 1) := by decide +kernel
theorem dX6_food_53 : decode cX6_food 53 = .ok (.bipush 10, 2) := by decide +kernel
theorem dX6_food_55 : decode cX6_food 55 = .ok (.iconst 3, 1) := by decide +kernel
theorem dX6_food_56 : decode cX6_food 56 = .ok (.iload_n 1, 1) := by decide +kernel
theorem dX6_food_57 : decode cX6_food 57 = .ok (.imul, 1) := by decide +kernel
theorem dX6_food_58 : decode cX6_food 58 = .ok (.iadd, 1) := by decide +kernel
theorem dX6_food_59 : decode cX6_food 59 = .ok (.iload_n 2, 1) := by decide +kernel
theorem dX6_food_60 : decode cX6_food 60 = .ok (.iadd, 1) := by decide +kernel
theorem dX6_food_61 : decode cX6_food 61 = .ok (.iload_n 3, 1) := by decide +kernel
theorem dX6_food_62 : decode cX6_food 62 = .ok (.invokevirtual 59, 3) := by decide +kernel
theorem dX6_food_65 : decode cX6_food 65 = .ok (.goto 9, 3) := by decide +kernel
theorem dX6_food_68 : decode cX6_food 68 = .ok (.aload_n 0, 1) := by decide +kernel
theorem dX6_food_69 : decode cX6_food 69 = .ok (.ldc 34, 2) := by decide +kernel
theorem dX6_food_71 : decode cX6_food 71 = .ok (.invokevirtual 36, 3) := by decide +kernel
theorem dX6_food_74 : decode cX6_food 74 = .ok (.ireturn, 1) := by decide +kernel
theorem dX6_foodOf_0 : decode cX6_foodOf 0 = .ok (.iload_n 1, 1) := by decide +kernel
theorem dX6_foodOf_1 : decode cX6_foodOf 1 = .ok (.invokestatic 55, 3) := by decide +kernel
theorem dX6_foodOf_4 : decode cX6_foodOf 4 = .ok (.ifCond .eq 15, 3) := by decide +kernel
theorem dX6_foodOf_7 : decode cX6_foodOf 7 = .ok (.iload_n 2, 1) := by decide +kernel
theorem dX6_foodOf_8 : decode cX6_foodOf 8 = .ok (.i2l, 1) := by decide +kernel
theorem dX6_foodOf_9 : decode cX6_foodOf 9 = .ok (.lconst 0, 1) := by decide +kernel
theorem dX6_foodOf_10 : decode cX6_foodOf 10 = .ok (.ldc2_w 63, 3) := by decide +kernel
theorem dX6_foodOf_13 : decode cX6_foodOf 13 = .ok (.invokestatic 42, 3) := by decide +kernel
theorem dX6_foodOf_16 : decode cX6_foodOf 16 = .ok (.ifCond .ne 10, 3) := by decide +kernel
theorem dX6_foodOf_19 : decode cX6_foodOf 19 = .ok (.aload_n 0, 1) := by decide +kernel
theorem dX6_foodOf_20 : decode cX6_foodOf 20 = .ok (.ldc 34, 2) := by decide +kernel
theorem dX6_foodOf_22 : decode cX6_foodOf 22 = .ok (.invokevirtual 36, 3) := by decide +kernel
theorem dX6_foodOf_25 : decode cX6_foodOf 25 = .ok (.ireturn, 1) := by decide +kernel
theorem dX6_foodOf_26 : decode cX6_foodOf 26 = .ok (.iload_n 2, 1) := by decide +kernel
theorem dX6_foodOf_27 : decode cX6_foodOf 27 = .ok (.iconst 3, 1) := by decide +kernel
theorem dX6_foodOf_28 : decode cX6_foodOf 28 = .ok (.if_icmp .ge 19, 3) := by decide +kernel
theorem dX6_foodOf_31 : decode cX6_foodOf 31 = .ok (.aload_n 0, 1) := by decide +kernel
theorem dX6_foodOf_32 : decode cX6_foodOf 32 = .ok (.getfield 9, 3) := by decide +kernel
theorem dX6_foodOf_35 : decode cX6_foodOf 35 = .ok (.bipush 10, 2) := by decide +kernel
theorem dX6_foodOf_37 : decode cX6_foodOf 37 = .ok (.iconst 3, 1) := by decide +kernel
theorem dX6_foodOf_38 : decode cX6_foodOf 38 = .ok (.iload_n 1, 1) := by decide +kernel
theorem dX6_foodOf_39 : decode cX6_foodOf 39 = .ok (.imul, 1) := by decide +kernel
theorem dX6_foodOf_40 : decode cX6_foodOf 40 = .ok (.iadd, 1) := by decide +kernel
theorem dX6_foodOf_41 : decode cX6_foodOf 41 = .ok (.iload_n 2, 1) := by decide +kernel
theorem dX6_foodOf_42 : decode cX6_foodOf 42 = .ok (.iadd, 1) := by decide +kernel
theorem dX6_foodOf_43 : decode cX6_foodOf 43 = .ok (.iaload, 1) := by decide +kernel
theorem dX6_foodOf_44 : decode cX6_foodOf 44 = .ok (.goto 16, 3) := by decide +kernel
theorem dX6_foodOf_47 : decode cX6_foodOf 47 = .ok (.aload_n 0, 1) := by decide +kernel
theorem dX6_foodOf_48 : decode cX6_foodOf 48 = .ok (.iload_n 1, 1) := by decide +kernel
theorem dX6_foodOf_49 : decode cX6_foodOf 49 = .ok (.invokevirtual 65, 3) := by decide +kernel
theorem dX6_foodOf_52 : decode cX6_foodOf 52 = .ok (.ifCond .eq 7, 3) := by decide +kernel
theorem dX6_foodOf_55 : decode cX6_foodOf 55 = .ok (.iconst 1, 1) := by decide +kernel
theorem dX6_foodOf_56 : decode cX6_foodOf 56 = .ok (.goto 4, 3) := by decide +kernel
theorem dX6_foodOf_59 : decode cX6_foodOf 59 = .ok (.iconst 0, 1) := by decide +kernel
theorem dX6_foodOf_60 : decode cX6_foodOf 60 = .ok (.ireturn, 1) := by decide +kernel
theorem dX6_isPart_0 : decode cX6_isPart 0 = .ok (.iload_n 0, 1) := by decide +kernel
theorem dX6_isPart_1 : decode cX6_isPart 1 = .ok (.tableswitch 57 0 2 #[27, 37, 47], 27) := by decide +kernel
theorem dX6_isPart_28 : decode cX6_isPart 28 = .ok (.iload_n 1, 1) := by decide +kernel
theorem dX6_isPart_29 : decode cX6_isPart 29 = .ok (.i2l, 1) := by decide +kernel
theorem dX6_isPart_30 : decode cX6_isPart 30 = .ok (.lconst 0, 1) := by decide +kernel
theorem dX6_isPart_31 : decode cX6_isPart 31 = .ok (.ldc2_w 40, 3) := by decide +kernel
theorem dX6_isPart_34 : decode cX6_isPart 34 = .ok (.invokestatic 42, 3) := by decide +kernel
theorem dX6_isPart_37 : decode cX6_isPart 37 = .ok (.ireturn, 1) := by decide +kernel
theorem dX6_isPart_38 : decode cX6_isPart 38 = .ok (.iload_n 1, 1) := by decide +kernel
theorem dX6_isPart_39 : decode cX6_isPart 39 = .ok (.i2l, 1) := by decide +kernel
theorem dX6_isPart_40 : decode cX6_isPart 40 = .ok (.lconst 0, 1) := by decide +kernel
theorem dX6_isPart_41 : decode cX6_isPart 41 = .ok (.ldc2_w 53, 3) := by decide +kernel
theorem dX6_isPart_44 : decode cX6_isPart 44 = .ok (.invokestatic 42, 3) := by decide +kernel
theorem dX6_isPart_47 : decode cX6_isPart 47 = .ok (.ireturn, 1) := by decide +kernel
theorem dX6_isPart_48 : decode cX6_isPart 48 = .ok (.iload_n 1, 1) := by decide +kernel
theorem dX6_isPart_49 : decode cX6_isPart 49 = .ok (.i2l, 1) := by decide +kernel
theorem dX6_isPart_50 : decode cX6_isPart 50 = .ok (.lconst 0, 1) := by decide +kernel
theorem dX6_isPart_51 : decode cX6_isPart 51 = .ok (.ldc2_w 68, 3) := by decide +kernel
theorem dX6_isPart_54 : decode cX6_isPart 54 = .ok (.invokestatic 42, 3) := by decide +kernel
theorem dX6_isPart_57 : decode cX6_isPart 57 = .ok (.ireturn, 1) := by decide +kernel
theorem dX6_isPart_58 : decode cX6_isPart 58 = .ok (.iload_n 0, 1) := by decide +kernel
theorem dX6_isPart_59 : decode cX6_isPart 59 = .ok (.iconst 3, 1) := by decide +kernel
theorem dX6_isPart_60 : decode cX6_isPart 60 = .ok (.if_icmp .ne 19, 3) := by decide +kernel
theorem dX6_isPart_63 : decode cX6_isPart 63 = .ok (.iload_n 1, 1) := by decide +kernel
theorem dX6_isPart_64 : decode cX6_isPart 64 = .ok (.i2l, 1) := by decide +kernel
theorem dX6_isPart_65 : decode cX6_isPart 65 = .ok (.lconst 1, 1) := by decide +kernel
theorem dX6_isPart_66 : decode cX6_isPart 66 = .ok (.ldc2_w 53, 3) := by decide +kernel
theorem dX6_isPart_69 : decode cX6_isPart 69 = .ok (.invokestatic 42, 3) := by decide +kernel
theorem dX6_isPart_72 : decode cX6_isPart 72 = .ok (.ifCond .eq 7, 3) := by decide +kernel
theorem dX6_isPart_75 : decode cX6_isPart 75 = .ok (.iconst 1, 1) := by decide +kernel
theorem dX6_isPart_76 : decode cX6_isPart 76 = .ok (.goto 4, 3) := by decide +kernel
theorem dX6_isPart_79 : decode cX6_isPart 79 = .ok (.iconst 0, 1) := by decide +kernel
theorem dX6_isPart_80 : decode cX6_isPart 80 = .ok (.ireturn, 1) := by decide +kernel
theorem dX6_child_0 : decode cX6_child 0 = .ok (.iload_n 1, 1) := by decide +kernel
theorem dX6_child_1 : decode cX6_child 1 = .ok (.iload_n 2, 1) := by decide +kernel
theorem dX6_child_2 : decode cX6_child 2 = .ok (.invokestatic 70, 3) := by decide +kernel
theorem dX6_child_5 : decode cX6_child 5 = .ok (.ifCond .eq 14, 3) := by decide +kernel
theorem dX6_child_8 : decode cX6_child 8 = .ok (.aload_n 0, 1) := by decide +kernel
theorem dX6_child_9 : decode cX6_child 9 = .ok (.iconst 2, 1) := by decide +kernel
theorem dX6_child_10 : decode cX6_child 10 = .ok (.iload_n 1, 1) := by decide +kernel
theorem dX6_child_11 : decode cX6_child 11 = .ok (.iadd, 1) := by decide +kernel
theorem dX6_child_12 : decode cX6_child 12 = .ok (.iload_n 2, 1) := by decide +kernel
theorem dX6_child_13 : decode cX6_child 13 = .ok (.invokevirtual 59, 3) := by decide +kernel
theorem dX6_child_16 : decode cX6_child 16 = .ok (.goto 9, 3) := by decide +kernel
theorem dX6_child_19 : decode cX6_child 19 = .ok (.aload_n 0, 1) := by decide +kernel
theorem dX6_child_20 : decode cX6_child 20 = .ok (.ldc 34, 2) := by decide +kernel
theorem dX6_child_22 : decode cX6_child 22 = .ok (.invokevirtual 36, 3) := by decide +kernel
theorem dX6_child_25 : decode cX6_child 25 = .ok (.ireturn, 1) := by decide +kernel
theorem dX6_pudding_0 : decode cX6_pudding 0 = .ok (.iload_n 1, 1) := by decide +kernel
theorem dX6_pudding_1 : decode cX6_pudding 1 = .ok (.iconst (-1), 1) := by decide +kernel
theorem dX6_pudding_2 : decode cX6_pudding 2 = .ok (.if_icmp .eq 10, 3) := by decide +kernel
theorem dX6_pudding_5 : decode cX6_pudding 5 = .ok (.iload_n 1, 1) := by decide +kernel
theorem dX6_pudding_6 : decode cX6_pudding 6 = .ok (.invokestatic 55, 3) := by decide +kernel
theorem dX6_pudding_9 : decode cX6_pudding 9 = .ok (.ifCond .eq 13, 3) := by decide +kernel
theorem dX6_pudding_12 : decode cX6_pudding 12 = .ok (.aload_n 0, 1) := by decide +kernel
theorem dX6_pudding_13 : decode cX6_pudding 13 = .ok (.bipush 6, 2) := by decide +kernel
theorem dX6_pudding_15 : decode cX6_pudding 15 = .ok (.iload_n 1, 1) := by decide +kernel
theorem dX6_pudding_16 : decode cX6_pudding 16 = .ok (.invokevirtual 59, 3) := by decide +kernel
theorem dX6_pudding_19 : decode cX6_pudding 19 = .ok (.goto 9, 3) := by decide +kernel
theorem dX6_pudding_22 : decode cX6_pudding 22 = .ok (.aload_n 0, 1) := by decide +kernel
theorem dX6_pudding_23 : decode cX6_pudding 23 = .ok (.ldc 34, 2) := by decide +kernel
theorem dX6_pudding_25 : decode cX6_pudding 25 = .ok (.invokevirtual 36, 3) := by decide +kernel
theorem dX6_pudding_28 : decode cX6_pudding 28 = .ok (.ireturn, 1) := by decide +kernel
theorem dX6_friend_0 : decode cX6_friend 0 = .ok (.iload_n 1, 1) := by decide +kernel
theorem dX6_friend_1 : decode cX6_friend 1 = .ok (.i2l, 1) := by decide +kernel
theorem dX6_friend_2 : decode cX6_friend 2 = .ok (.lconst 0, 1) := by decide +kernel
theorem dX6_friend_3 : decode cX6_friend 3 = .ok (.ldc2_w 74, 3) := by decide +kernel
theorem dX6_friend_6 : decode cX6_friend 6 = .ok (.invokestatic 42, 3) := by decide +kernel
theorem dX6_friend_9 : decode cX6_friend 9 = .ok (.ifCond .eq 13, 3) := by decide +kernel
theorem dX6_friend_12 : decode cX6_friend 12 = .ok (.aload_n 0, 1) := by decide +kernel
theorem dX6_friend_13 : decode cX6_friend 13 = .ok (.bipush 7, 2) := by decide +kernel
theorem dX6_friend_15 : decode cX6_friend 15 = .ok (.iload_n 1, 1) := by decide +kernel
theorem dX6_friend_16 : decode cX6_friend 16 = .ok (.invokevirtual 59, 3) := by decide +kernel
theorem dX6_friend_19 : decode cX6_friend 19 = .ok (.goto 9, 3) := by decide +kernel
theorem dX6_friend_22 : decode cX6_friend 22 = .ok (.aload_n 0, 1) := by decide +kernel
theorem dX6_friend_23 : decode cX6_friend 23 = .ok (.ldc 34, 2) := by decide +kernel
theorem dX6_friend_25 : decode cX6_friend 25 = .ok (.invokevirtual 36, 3) := by decide +kernel
theorem dX6_friend_28 : decode cX6_friend 28 = .ok (.ireturn, 1) := by decide +kernel
theorem dX6_liked_0 : decode cX6_liked 0 = .ok (.iconst 0, 1) := by decide +kernel
theorem dX6_liked_1 : decode cX6_liked 1 = .ok (.istore_n 1, 1) := by decide +kernel
theorem dX6_liked_2 : decode cX6_liked 2 = .ok (.iconst 0, 1) := by decide +kernel
theorem dX6_liked_3 : decode cX6_liked 3 = .ok (.istore_n 2, 1) := by decide +kernel
theorem dX6_liked_4 : decode cX6_liked 4 = .ok (.iload_n 2, 1) := by decide +kernel
theorem dX6_liked_5 : decode cX6_liked 5 = .ok (.bipush 10, 2) := by decide +kernel
theorem dX6_liked_7 : decode cX6_liked 7 = .ok (.if_icmp .ge 27, 3) := by decide +kernel
theorem dX6_liked_10 : decode cX6_liked 10 = .ok (.iload_n 1, 1) := by decide +kernel
theorem dX6_liked_11 : decode cX6_liked 11 = .ok (.aload_n 0, 1) := by decide +kernel
theorem dX6_liked_12 : decode cX6_liked 12 = .ok (.iload_n 2, 1) := by decide +kernel
theorem dX6_liked_13 : decode cX6_liked 13 = .ok (.invokevirtual 65, 3) := by decide +kernel
theorem dX6_liked_16 : decode cX6_liked 16 = .ok (.ifCond .eq 9, 3) := by decide +kernel
theorem dX6_liked_19 : decode cX6_liked 19 = .ok (.iconst 1, 1) := by decide +kernel
theorem dX6_liked_20 : decode cX6_liked 20 = .ok (.iload_n 2, 1) := by decide +kernel
theorem dX6_liked_21 : decode cX6_liked 21 = .ok (.ishl, 1) := by decide +kernel
theorem dX6_liked_22 : decode cX6_liked 22 = .ok (.goto 4, 3) := by decide +kernel
theorem dX6_liked_25 : decode cX6_liked 25 = .ok (.iconst 0, 1) := by decide +kernel
theorem dX6_liked_26 : decode cX6_liked 26 = .ok (.ior, 1) := by decide +kernel
theorem dX6_liked_27 : decode cX6_liked 27 = .ok (.istore_n 1, 1) := by decide +kernel
theorem dX6_liked_28 : decode cX6_liked 28 = .ok (.iinc 2 1, 3) := by decide +kernel
theorem dX6_liked_31 : decode cX6_liked 31 = .ok (.goto (-27), 3) := by decide +kernel
theorem dX6_liked_34 : decode cX6_liked 34 = .ok (.iload_n 1, 1) := by decide +kernel
theorem dX6_liked_35 : decode cX6_liked 35 = .ok (.ireturn, 1) := by decide +kernel
theorem dX6_manyLiked_0 : decode cX6_manyLiked 0 = .ok (.iconst 0, 1) := by decide +kernel
theorem dX6_manyLiked_1 : decode cX6_manyLiked 1 = .ok (.istore_n 1, 1) := by decide +kernel
theorem dX6_manyLiked_2 : decode cX6_manyLiked 2 = .ok (.iconst 0, 1) := by decide +kernel
theorem dX6_manyLiked_3 : decode cX6_manyLiked 3 = .ok (.istore_n 2, 1) := by decide +kernel
theorem dX6_manyLiked_4 : decode cX6_manyLiked 4 = .ok (.iload_n 2, 1) := by decide +kernel
theorem dX6_manyLiked_5 : decode cX6_manyLiked 5 = .ok (.bipush 10, 2) := by decide +kernel
theorem dX6_manyLiked_7 : decode cX6_manyLiked 7 = .ok (.if_icmp .ge 25, 3) := by decide +kernel
theorem dX6_manyLiked_10 : decode cX6_manyLiked 10 = .ok (.iload_n 1, 1) := by decide +kernel
theorem dX6_manyLiked_11 : decode cX6_manyLiked 11 = .ok (.aload_n 0, 1) := by decide +kernel
theorem dX6_manyLiked_12 : decode cX6_manyLiked 12 = .ok (.iload_n 2, 1) := by decide +kernel
theorem dX6_manyLiked_13 : decode cX6_manyLiked 13 = .ok (.invokevirtual 65, 3) := by decide +kernel
theorem dX6_manyLiked_16 : decode cX6_manyLiked 16 = .ok (.ifCond .eq 7, 3) := by decide +kernel
theorem dX6_manyLiked_19 : decode cX6_manyLiked 19 = .ok (.iconst 1, 1) := by decide +kernel
theorem dX6_manyLiked_20 : decode cX6_manyLiked 20 = .ok (.goto 4, 3) := by decide +kernel
theorem dX6_manyLiked_23 : decode cX6_manyLiked 23 = .ok (.iconst 0, 1) := by decide +kernel
theorem dX6_manyLiked_24 : decode cX6_manyLiked 24 = .ok (.iadd, 1) := by decide +kernel
theorem dX6_manyLiked_25 : decode cX6_manyLiked 25 = .ok (.istore_n 1, 1) := by decide +kernel
theorem dX6_manyLiked_26 : decode cX6_manyLiked 26 = .ok (.iinc 2 1, 3) := by decide +kernel
theorem dX6_manyLiked_29 : decode cX6_manyLiked 29 = .ok (.goto (-25), 3) := by decide +kernel
theorem dX6_manyLiked_32 : decode cX6_manyLiked 32 = .ok (.iload_n 1, 1) := by decide +kernel
theorem dX6_manyLiked_33 : decode cX6_manyLiked 33 = .ok (.ireturn, 1) := by decide +kernel
theorem dX6_next_0 : decode cX6_next 0 = .ok (.iconst (-1), 1) := by decide +kernel
theorem dX6_next_1 : decode cX6_next 1 = .ok (.istore_n 1, 1) := by decide +kernel
theorem dX6_next_2 : decode cX6_next 2 = .ok (.iconst 0, 1) := by decide +kernel
theorem dX6_next_3 : decode cX6_next 3 = .ok (.istore_n 2, 1) := by decide +kernel
theorem dX6_next_4 : decode cX6_next 4 = .ok (.iload_n 2, 1) := by decide +kernel
theorem dX6_next_5 : decode cX6_next 5 = .ok (.bipush 10, 2) := by decide +kernel
theorem dX6_next_7 : decode cX6_next 7 = .ok (.if_icmp .ge 36, 3) := by decide +kernel
theorem dX6_next_10 : decode cX6_next 10 = .ok (.aload_n 0, 1) := by decide +kernel
theorem dX6_next_11 : decode cX6_next 11 = .ok (.iload_n 2, 1) := by decide +kernel
theorem dX6_next_12 : decode cX6_next 12 = .ok (.invokevirtual 65, 3) := by decide +kernel
theorem dX6_next_15 : decode cX6_next 15 = .ok (.ifCond .ne 22, 3) := by decide +kernel
theorem dX6_next_18 : decode cX6_next 18 = .ok (.iload_n 1, 1) := by decide +kernel
theorem dX6_next_19 : decode cX6_next 19 = .ok (.ifCond .lt 16, 3) := by decide +kernel
theorem dX6_next_22 : decode cX6_next 22 = .ok (.aload_n 0, 1) := by decide +kernel
theorem dX6_next_23 : decode cX6_next 23 = .ok (.iload_n 2, 1) := by decide +kernel
theorem dX6_next_24 : decode cX6_next 24 = .ok (.invokevirtual 50, 3) := by decide +kernel
theorem dX6_next_27 : decode cX6_next 27 = .ok (.aload_n 0, 1) := by decide +kernel
theorem dX6_next_28 : decode cX6_next 28 = .ok (.iload_n 1, 1) := by decide +kernel
theorem dX6_next_29 : decode cX6_next 29 = .ok (.invokevirtual 50, 3) := by decide +kernel
theorem dX6_next_32 : decode cX6_next 32 = .ok (.if_icmp .le 5, 3) := by decide +kernel
theorem dX6_next_35 : decode cX6_next 35 = .ok (.iload_n 2, 1) := by decide +kernel
theorem dX6_next_36 : decode cX6_next 36 = .ok (.istore_n 1, 1) := by decide +kernel
theorem dX6_next_37 : decode cX6_next 37 = .ok (.iinc 2 1, 3) := by decide +kernel
theorem dX6_next_40 : decode cX6_next 40 = .ok (.goto (-36), 3) := by decide +kernel
theorem dX6_next_43 : decode cX6_next 43 = .ok (.aload_n 0, 1) := by decide +kernel
theorem dX6_next_44 : decode cX6_next 44 = .ok (.iload_n 1, 1) := by decide +kernel
theorem dX6_next_45 : decode cX6_next 45 = .ok (.invokevirtual 76, 3) := by decide +kernel
theorem dX6_next_48 : decode cX6_next 48 = .ok (.ireturn, 1) := by decide +kernel
theorem dX6_comes_0 : decode cX6_comes 0 = .ok (.bipush 40, 2) := by decide +kernel
theorem dX6_comes_2 : decode cX6_comes 2 = .ok (.iconst 3, 1) := by decide +kernel
theorem dX6_comes_3 : decode cX6_comes 3 = .ok (.aload_n 0, 1) := by decide +kernel
theorem dX6_comes_4 : decode cX6_comes 4 = .ok (.getfield 9, 3) := by decide +kernel
theorem dX6_comes_7 : decode cX6_comes 7 = .ok (.bipush 8, 2) := by decide +kernel
theorem dX6_comes_9 : decode cX6_comes 9 = .ok (.iaload, 1) := by decide +kernel
theorem dX6_comes_10 : decode cX6_comes 10 = .ok (.imul, 1) := by decide +kernel
theorem dX6_comes_11 : decode cX6_comes 11 = .ok (.iadd, 1) := by decide +kernel
theorem dX6_comes_12 : decode cX6_comes 12 = .ok (.istore 4, 2) := by decide +kernel
theorem dX6_comes_14 : decode cX6_comes 14 = .ok (.aload_n 0, 1) := by decide +kernel
theorem dX6_comes_15 : decode cX6_comes 15 = .ok (.getfield 9, 3) := by decide +kernel
theorem dX6_comes_18 : decode cX6_comes 18 = .ok (.iload 4, 2) := by decide +kernel
theorem dX6_comes_20 : decode cX6_comes 20 = .ok (.iload_n 1, 1) := by decide +kernel
theorem dX6_comes_21 : decode cX6_comes 21 = .ok (.iastore, 1) := by decide +kernel
theorem dX6_comes_22 : decode cX6_comes 22 = .ok (.aload_n 0, 1) := by decide +kernel
theorem dX6_comes_23 : decode cX6_comes 23 = .ok (.getfield 9, 3) := by decide +kernel
theorem dX6_comes_26 : decode cX6_comes 26 = .ok (.iload 4, 2) := by decide +kernel
theorem dX6_comes_28 : decode cX6_comes 28 = .ok (.iconst 1, 1) := by decide +kernel
theorem dX6_comes_29 : decode cX6_comes 29 = .ok (.iadd, 1) := by decide +kernel
theorem dX6_comes_30 : decode cX6_comes 30 = .ok (.iload_n 2, 1) := by decide +kernel
theorem dX6_comes_31 : decode cX6_comes 31 = .ok (.iastore, 1) := by decide +kernel
theorem dX6_comes_32 : decode cX6_comes 32 = .ok (.aload_n 0, 1) := by decide +kernel
theorem dX6_comes_33 : decode cX6_comes 33 = .ok (.getfield 9, 3) := by decide +kernel
theorem dX6_comes_36 : decode cX6_comes 36 = .ok (.iload 4, 2) := by decide +kernel
theorem dX6_comes_38 : decode cX6_comes 38 = .ok (.iconst 2, 1) := by decide +kernel
theorem dX6_comes_39 : decode cX6_comes 39 = .ok (.iadd, 1) := by decide +kernel
theorem dX6_comes_40 : decode cX6_comes 40 = .ok (.iload_n 3, 1) := by decide +kernel
theorem dX6_comes_41 : decode cX6_comes 41 = .ok (.iastore, 1) := by decide +kernel
theorem dX6_comes_42 : decode cX6_comes 42 = .ok (.aload_n 0, 1) := by decide +kernel
theorem dX6_comes_43 : decode cX6_comes 43 = .ok (.getfield 9, 3) := by decide +kernel
theorem dX6_comes_46 : decode cX6_comes 46 = .ok (.bipush 8, 2) := by decide +kernel
theorem dX6_comes_48 : decode cX6_comes 48 = .ok (.dup2, 1) := by decide +kernel
theorem dX6_comes_49 : decode cX6_comes 49 = .ok (.iaload, 1) := by decide +kernel
theorem dX6_comes_50 : decode cX6_comes 50 = .ok (.iconst 1, 1) := by decide +kernel
theorem dX6_comes_51 : decode cX6_comes 51 = .ok (.iadd, 1) := by decide +kernel
theorem dX6_comes_52 : decode cX6_comes 52 = .ok (.iastore, 1) := by decide +kernel
theorem dX6_comes_53 : decode cX6_comes 53 = .ok (.return_, 1) := by decide +kernel
theorem dX6_taste_0 : decode cX6_taste 0 = .ok (.iload_n 1, 1) := by decide +kernel
theorem dX6_taste_1 : decode cX6_taste 1 = .ok (.invokestatic 79, 3) := by decide +kernel
theorem dX6_taste_4 : decode cX6_taste 4 = .ok (.ifCond .eq 17, 3) := by decide +kernel
theorem dX6_taste_7 : decode cX6_taste 7 = .ok (.iload_n 2, 1) := by decide +kernel
theorem dX6_taste_8 : decode cX6_taste 8 = .ok (.invokestatic 55, 3) := by decide +kernel
theorem dX6_taste_11 : decode cX6_taste 11 = .ok (.ifCond .eq 10, 3) := by decide +kernel
theorem dX6_taste_14 : decode cX6_taste 14 = .ok (.iload_n 3, 1) := by decide +kernel
theorem dX6_taste_15 : decode cX6_taste 15 = .ok (.invokestatic 82, 3) := by decide +kernel
theorem dX6_taste_18 : decode cX6_taste 18 = .ok (.ifCond .ne 10, 3) := by decide +kernel
theorem dX6_taste_21 : decode cX6_taste 21 = .ok (.aload_n 0, 1) := by decide +kernel
theorem dX6_taste_22 : decode cX6_taste 22 = .ok (.ldc 34, 2) := by decide +kernel
theorem dX6_taste_24 : decode cX6_taste 24 = .ok (.invokevirtual 36, 3) := by decide +kernel
theorem dX6_taste_27 : decode cX6_taste 27 = .ok (.ireturn, 1) := by decide +kernel
theorem dX6_taste_28 : decode cX6_taste 28 = .ok (.aload_n 0, 1) := by decide +kernel
theorem dX6_taste_29 : decode cX6_taste 29 = .ok (.getfield 9, 3) := by decide +kernel
theorem dX6_taste_32 : decode cX6_taste 32 = .ok (.bipush 8, 2) := by decide +kernel
theorem dX6_taste_34 : decode cX6_taste 34 = .ok (.iaload, 1) := by decide +kernel
theorem dX6_taste_35 : decode cX6_taste 35 = .ok (.bipush 10, 2) := by decide +kernel
theorem dX6_taste_37 : decode cX6_taste 37 = .ok (.if_icmp .ne 10, 3) := by decide +kernel
theorem dX6_taste_40 : decode cX6_taste 40 = .ok (.aload_n 0, 1) := by decide +kernel
theorem dX6_taste_41 : decode cX6_taste 41 = .ok (.ldc 85, 2) := by decide +kernel
theorem dX6_taste_43 : decode cX6_taste 43 = .ok (.invokevirtual 36, 3) := by decide +kernel
theorem dX6_taste_46 : decode cX6_taste 46 = .ok (.ireturn, 1) := by decide +kernel
theorem dX6_taste_47 : decode cX6_taste 47 = .ok (.aload_n 0, 1) := by decide +kernel
theorem dX6_taste_48 : decode cX6_taste 48 = .ok (.iload_n 1, 1) := by decide +kernel
theorem dX6_taste_49 : decode cX6_taste 49 = .ok (.iload_n 2, 1) := by decide +kernel
theorem dX6_taste_50 : decode cX6_taste 50 = .ok (.iload_n 3, 1) := by decide +kernel
theorem dX6_taste_51 : decode cX6_taste 51 = .ok (.invokevirtual 86, 3) := by decide +kernel
theorem dX6_taste_54 : decode cX6_taste 54 = .ok (.aload_n 0, 1) := by decide +kernel
theorem dX6_taste_55 : decode cX6_taste 55 = .ok (.getfield 9, 3) := by decide +kernel
theorem dX6_taste_58 : decode cX6_taste 58 = .ok (.bipush 8, 2) := by decide +kernel
theorem dX6_taste_60 : decode cX6_taste 60 = .ok (.iaload, 1) := by decide +kernel
theorem dX6_taste_61 : decode cX6_taste 61 = .ok (.iconst 1, 1) := by decide +kernel
theorem dX6_taste_62 : decode cX6_taste 62 = .ok (.isub, 1) := by decide +kernel
theorem dX6_taste_63 : decode cX6_taste 63 = .ok (.ireturn, 1) := by decide +kernel
theorem dX6_isFriends_0 : decode cX6_isFriends 0 = .ok (.aload_n 0, 1) := by decide +kernel
theorem dX6_isFriends_1 : decode cX6_isFriends 1 = .ok (.getfield 9, 3) := by decide +kernel
theorem dX6_isFriends_4 : decode cX6_isFriends 4 = .ok (.bipush 7, 2) := by decide +kernel
theorem dX6_isFriends_6 : decode cX6_isFriends 6 = .ok (.iaload, 1) := by decide +kernel
theorem dX6_isFriends_7 : decode cX6_isFriends 7 = .ok (.aload_n 0, 1) := by decide +kernel
theorem dX6_isFriends_8 : decode cX6_isFriends 8 = .ok (.iload_n 1, 1) := by decide +kernel
theorem dX6_isFriends_9 : decode cX6_isFriends 9 = .ok (.iconst 1, 1) := by decide +kernel
theorem dX6_isFriends_10 : decode cX6_isFriends 10 = .ok (.invokevirtual 90, 3) := by decide +kernel
theorem dX6_isFriends_13 : decode cX6_isFriends 13 = .ok (.ishr, 1) := by decide +kernel
theorem dX6_isFriends_14 : decode cX6_isFriends 14 = .ok (.iconst 1, 1) := by decide +kernel
theorem dX6_isFriends_15 : decode cX6_isFriends 15 = .ok (.iand, 1) := by decide +kernel
theorem dX6_isFriends_16 : decode cX6_isFriends 16 = .ok (.iconst 1, 1) := by decide +kernel
theorem dX6_isFriends_17 : decode cX6_isFriends 17 = .ok (.if_icmp .ne 7, 3) := by decide +kernel
theorem dX6_isFriends_20 : decode cX6_isFriends 20 = .ok (.iconst 1, 1) := by decide +kernel
theorem dX6_isFriends_21 : decode cX6_isFriends 21 = .ok (.goto 4, 3) := by decide +kernel
theorem dX6_isFriends_24 : decode cX6_isFriends 24 = .ok (.iconst 0, 1) := by decide +kernel
theorem dX6_isFriends_25 : decode cX6_isFriends 25 = .ok (.ireturn, 1) := by decide +kernel
theorem dX6_eats_0 : decode cX6_eats 0 = .ok (.aload_n 0, 1) := by decide +kernel
theorem dX6_eats_1 : decode cX6_eats 1 = .ok (.iload_n 1, 1) := by decide +kernel
theorem dX6_eats_2 : decode cX6_eats 2 = .ok (.iconst 2, 1) := by decide +kernel
theorem dX6_eats_3 : decode cX6_eats 3 = .ok (.invokevirtual 90, 3) := by decide +kernel
theorem dX6_eats_6 : decode cX6_eats 6 = .ok (.istore_n 3, 1) := by decide +kernel
theorem dX6_eats_7 : decode cX6_eats 7 = .ok (.iload_n 3, 1) := by decide +kernel
theorem dX6_eats_8 : decode cX6_eats 8 = .ok (.aload_n 0, 1) := by decide +kernel
theorem dX6_eats_9 : decode cX6_eats 9 = .ok (.aload_n 0, 1) := by decide +kernel
theorem dX6_eats_10 : decode cX6_eats 10 = .ok (.iload_n 1, 1) := by decide +kernel
theorem dX6_eats_11 : decode cX6_eats 11 = .ok (.iconst 1, 1) := by decide +kernel
theorem dX6_eats_12 : decode cX6_eats 12 = .ok (.invokevirtual 90, 3) := by decide +kernel
theorem dX6_eats_15 : decode cX6_eats 15 = .ok (.invokevirtual 50, 3) := by decide +kernel
theorem dX6_eats_18 : decode cX6_eats 18 = .ok (.imul, 1) := by decide +kernel
theorem dX6_eats_19 : decode cX6_eats 19 = .ok (.aload_n 0, 1) := by decide +kernel
theorem dX6_eats_20 : decode cX6_eats 20 = .ok (.getfield 9, 3) := by decide +kernel
theorem dX6_eats_23 : decode cX6_eats 23 = .ok (.iconst 3, 1) := by decide +kernel
theorem dX6_eats_24 : decode cX6_eats 24 = .ok (.iaload, 1) := by decide +kernel
theorem dX6_eats_25 : decode cX6_eats 25 = .ok (.bipush 20, 2) := by decide +kernel
theorem dX6_eats_27 : decode cX6_eats 27 = .ok (.iadd, 1) := by decide +kernel
theorem dX6_eats_28 : decode cX6_eats 28 = .ok (.imul, 1) := by decide +kernel
theorem dX6_eats_29 : decode cX6_eats 29 = .ok (.sipush 10000, 3) := by decide +kernel
theorem dX6_eats_32 : decode cX6_eats 32 = .ok (.idiv, 1) := by decide +kernel
theorem dX6_eats_33 : decode cX6_eats 33 = .ok (.istore 4, 2) := by decide +kernel
theorem dX6_eats_35 : decode cX6_eats 35 = .ok (.iload 4, 2) := by decide +kernel
theorem dX6_eats_37 : decode cX6_eats 37 = .ok (.istore 5, 2) := by decide +kernel
theorem dX6_eats_39 : decode cX6_eats 39 = .ok (.aload_n 0, 1) := by decide +kernel
theorem dX6_eats_40 : decode cX6_eats 40 = .ok (.iload_n 1, 1) := by decide +kernel
theorem dX6_eats_41 : decode cX6_eats 41 = .ok (.iconst 0, 1) := by decide +kernel
theorem dX6_eats_42 : decode cX6_eats 42 = .ok (.invokevirtual 90, 3) := by decide +kernel
theorem dX6_eats_45 : decode cX6_eats 45 = .ok (.tableswitch 102 1 6 #[39, 45, 54, 63, 63, 88], 39) := by decide +kernel
theorem dX6_eats_84 : decode cX6_eats 84 = .ok (.iconst 0, 1) := by decide +kernel
theorem dX6_eats_85 : decode cX6_eats 85 = .ok (.istore 5, 2) := by decide +kernel
theorem dX6_eats_87 : decode cX6_eats 87 = .ok (.goto 60, 3) := by decide +kernel
theorem dX6_eats_90 : decode cX6_eats 90 = .ok (.iload 4, 2) := by decide +kernel
theorem dX6_eats_92 : decode cX6_eats 92 = .ok (.iconst 2, 1) := by decide +kernel
theorem dX6_eats_93 : decode cX6_eats 93 = .ok (.iadd, 1) := by decide +kernel
theorem dX6_eats_94 : decode cX6_eats 94 = .ok (.istore 5, 2) := by decide +kernel
theorem dX6_eats_96 : decode cX6_eats 96 = .ok (.goto 51, 3) := by decide +kernel
theorem dX6_eats_99 : decode cX6_eats 99 = .ok (.iload 4, 2) := by decide +kernel
theorem dX6_eats_101 : decode cX6_eats 101 = .ok (.iconst 5, 1) := by decide +kernel
theorem dX6_eats_102 : decode cX6_eats 102 = .ok (.iadd, 1) := by decide +kernel
theorem dX6_eats_103 : decode cX6_eats 103 = .ok (.istore 5, 2) := by decide +kernel
theorem dX6_eats_105 : decode cX6_eats 105 = .ok (.goto 42, 3) := by decide +kernel
theorem dX6_eats_108 : decode cX6_eats 108 = .ok (.aload_n 0, 1) := by decide +kernel
theorem dX6_eats_109 : decode cX6_eats 109 = .ok (.iload_n 1, 1) := by decide +kernel
theorem dX6_eats_110 : decode cX6_eats 110 = .ok (.invokevirtual 93, 3) := by decide +kernel
theorem dX6_eats_113 : decode cX6_eats 113 = .ok (.ifCond .eq 13, 3) := by decide +kernel
theorem dX6_eats_116 : decode cX6_eats 116 = .ok (.iload 4, 2) := by decide +kernel
theorem dX6_eats_118 : decode cX6_eats 118 = .ok (.iload 4, 2) := by decide +kernel
theorem dX6_eats_120 : decode cX6_eats 120 = .ok (.iconst 2, 1) := by decide +kernel
theorem dX6_eats_121 : decode cX6_eats 121 = .ok (.idiv, 1) := by decide +kernel
theorem dX6_eats_122 : decode cX6_eats 122 = .ok (.iadd, 1) := by decide +kernel
theorem dX6_eats_123 : decode cX6_eats 123 = .ok (.goto 5, 3) := by decide +kernel
theorem dX6_eats_126 : decode cX6_eats 126 = .ok (.iload 4, 2) := by decide +kernel
theorem dX6_eats_128 : decode cX6_eats 128 = .ok (.istore 5, 2) := by decide +kernel
theorem dX6_eats_130 : decode cX6_eats 130 = .ok (.goto 17, 3) := by decide +kernel
theorem dX6_eats_133 : decode cX6_eats 133 = .ok (.iload_n 2, 1) := by decide +kernel
theorem dX6_eats_134 : decode cX6_eats 134 = .ok (.ifCond .eq 7, 3) := by decide +kernel
theorem dX6_eats_137 : decode cX6_eats 137 = .ok (.iconst 0, 1) := by decide +kernel
theorem dX6_eats_138 : decode cX6_eats 138 = .ok (.goto 4, 3) := by decide +kernel
theorem dX6_eats_141 : decode cX6_eats 141 = .ok (.iload_n 3, 1) := by decide +kernel
theorem dX6_eats_142 : decode cX6_eats 142 = .ok (.istore 5, 2) := by decide +kernel
theorem dX6_eats_144 : decode cX6_eats 144 = .ok (.goto 3, 3) := by decide +kernel
theorem dX6_eats_147 : decode cX6_eats 147 = .ok (.iload 5, 2) := by decide +kernel
theorem dX6_eats_149 : decode cX6_eats 149 = .ok (.iload_n 3, 1) := by decide +kernel
theorem dX6_eats_150 : decode cX6_eats 150 = .ok (.invokestatic 96, 3) := by decide +kernel
theorem dX6_eats_153 : decode cX6_eats 153 = .ok (.ireturn, 1) := by decide +kernel
theorem dX6_moves_0 : decode cX6_moves 0 = .ok (.bipush 6, 2) := by decide +kernel
theorem dX6_moves_2 : decode cX6_moves 2 = .ok (.aload_n 0, 1) := by decide +kernel
theorem dX6_moves_3 : decode cX6_moves 3 = .ok (.getfield 9, 3) := by decide +kernel
theorem dX6_moves_6 : decode cX6_moves 6 = .ok (.bipush 10, 2) := by decide +kernel
theorem dX6_moves_8 : decode cX6_moves 8 = .ok (.iconst 3, 1) := by decide +kernel
theorem dX6_moves_9 : decode cX6_moves 9 = .ok (.aload_n 0, 1) := by decide +kernel
theorem dX6_moves_10 : decode cX6_moves 10 = .ok (.iload_n 1, 1) := by decide +kernel
theorem dX6_moves_11 : decode cX6_moves 11 = .ok (.iconst 1, 1) := by decide +kernel
theorem dX6_moves_12 : decode cX6_moves 12 = .ok (.invokevirtual 90, 3) := by decide +kernel
theorem dX6_moves_15 : decode cX6_moves 15 = .ok (.imul, 1) := by decide +kernel
theorem dX6_moves_16 : decode cX6_moves 16 = .ok (.iadd, 1) := by decide +kernel
theorem dX6_moves_17 : decode cX6_moves 17 = .ok (.iconst 1, 1) := by decide +kernel
theorem dX6_moves_18 : decode cX6_moves 18 = .ok (.iadd, 1) := by decide +kernel
theorem dX6_moves_19 : decode cX6_moves 19 = .ok (.iaload, 1) := by decide +kernel
theorem dX6_moves_20 : decode cX6_moves 20 = .ok (.aload_n 0, 1) := by decide +kernel
theorem dX6_moves_21 : decode cX6_moves 21 = .ok (.getfield 9, 3) := by decide +kernel
theorem dX6_moves_24 : decode cX6_moves 24 = .ok (.iconst 2, 1) := by decide +kernel
theorem dX6_moves_25 : decode cX6_moves 25 = .ok (.iaload, 1) := by decide +kernel
theorem dX6_moves_26 : decode cX6_moves 26 = .ok (.imul, 1) := by decide +kernel
theorem dX6_moves_27 : decode cX6_moves 27 = .ok (.bipush 10, 2) := by decide +kernel
theorem dX6_moves_29 : decode cX6_moves 29 = .ok (.idiv, 1) := by decide +kernel
theorem dX6_moves_30 : decode cX6_moves 30 = .ok (.isub, 1) := by decide +kernel
theorem dX6_moves_31 : decode cX6_moves 31 = .ok (.istore_n 3, 1) := by decide +kernel
theorem dX6_moves_32 : decode cX6_moves 32 = .ok (.iload_n 3, 1) := by decide +kernel
theorem dX6_moves_33 : decode cX6_moves 33 = .ok (.aload_n 0, 1) := by decide +kernel
theorem dX6_moves_34 : decode cX6_moves 34 = .ok (.iload_n 1, 1) := by decide +kernel
theorem dX6_moves_35 : decode cX6_moves 35 = .ok (.invokevirtual 93, 3) := by decide +kernel
theorem dX6_moves_38 : decode cX6_moves 38 = .ok (.ifCond .eq 7, 3) := by decide +kernel
theorem dX6_moves_41 : decode cX6_moves 41 = .ok (.iconst 3, 1) := by decide +kernel
theorem dX6_moves_42 : decode cX6_moves 42 = .ok (.goto 4, 3) := by decide +kernel
theorem dX6_moves_45 : decode cX6_moves 45 = .ok (.iconst 0, 1) := by decide +kernel
theorem dX6_moves_46 : decode cX6_moves 46 = .ok (.iadd, 1) := by decide +kernel
theorem dX6_moves_47 : decode cX6_moves 47 = .ok (.istore 4, 2) := by decide +kernel
theorem dX6_moves_49 : decode cX6_moves 49 = .ok (.aload_n 0, 1) := by decide +kernel
theorem dX6_moves_50 : decode cX6_moves 50 = .ok (.iload_n 1, 1) := by decide +kernel
theorem dX6_moves_51 : decode cX6_moves 51 = .ok (.iconst 0, 1) := by decide +kernel
theorem dX6_moves_52 : decode cX6_moves 52 = .ok (.invokevirtual 90, 3) := by decide +kernel
theorem dX6_moves_55 : decode cX6_moves 55 = .ok (.tableswitch 70 1 6 #[37, 41, 46, 51, 54, 59], 37) := by decide +kernel
theorem dX6_moves_92 : decode cX6_moves 92 = .ok (.iload_n 3, 1) := by decide +kernel
theorem dX6_moves_93 : decode cX6_moves 93 = .ok (.iconst 2, 1) := by decide +kernel
theorem dX6_moves_94 : decode cX6_moves 94 = .ok (.idiv, 1) := by decide +kernel
theorem dX6_moves_95 : decode cX6_moves 95 = .ok (.ireturn, 1) := by decide +kernel
theorem dX6_moves_96 : decode cX6_moves 96 = .ok (.iload_n 3, 1) := by decide +kernel
theorem dX6_moves_97 : decode cX6_moves 97 = .ok (.bipush 8, 2) := by decide +kernel
theorem dX6_moves_99 : decode cX6_moves 99 = .ok (.isub, 1) := by decide +kernel
theorem dX6_moves_100 : decode cX6_moves 100 = .ok (.ireturn, 1) := by decide +kernel
theorem dX6_moves_101 : decode cX6_moves 101 = .ok (.iload_n 3, 1) := by decide +kernel
theorem dX6_moves_102 : decode cX6_moves 102 = .ok (.bipush 6, 2) := by decide +kernel
theorem dX6_moves_104 : decode cX6_moves 104 = .ok (.isub, 1) := by decide +kernel
theorem dX6_moves_105 : decode cX6_moves 105 = .ok (.ireturn, 1) := by decide +kernel
theorem dX6_moves_106 : decode cX6_moves 106 = .ok (.iload 4, 2) := by decide +kernel
theorem dX6_moves_108 : decode cX6_moves 108 = .ok (.ireturn, 1) := by decide +kernel
theorem dX6_moves_109 : decode cX6_moves 109 = .ok (.iload 4, 2) := by decide +kernel
theorem dX6_moves_111 : decode cX6_moves 111 = .ok (.iconst 2, 1) := by decide +kernel
theorem dX6_moves_112 : decode cX6_moves 112 = .ok (.iadd, 1) := by decide +kernel
theorem dX6_moves_113 : decode cX6_moves 113 = .ok (.ireturn, 1) := by decide +kernel
theorem dX6_moves_114 : decode cX6_moves 114 = .ok (.iload_n 2, 1) := by decide +kernel
theorem dX6_moves_115 : decode cX6_moves 115 = .ok (.ifCond .eq 8, 3) := by decide +kernel
theorem dX6_moves_118 : decode cX6_moves 118 = .ok (.bipush (-10), 2) := by decide +kernel
theorem dX6_moves_120 : decode cX6_moves 120 = .ok (.goto 4, 3) := by decide +kernel
theorem dX6_moves_123 : decode cX6_moves 123 = .ok (.iconst 1, 1) := by decide +kernel
theorem dX6_moves_124 : decode cX6_moves 124 = .ok (.ireturn, 1) := by decide +kernel
theorem dX6_moves_125 : decode cX6_moves 125 = .ok (.iload_n 3, 1) := by decide +kernel
theorem dX6_moves_126 : decode cX6_moves 126 = .ok (.ireturn, 1) := by decide +kernel
theorem dX6_tasteOf_0 : decode cX6_tasteOf 0 = .ok (.aload_n 0, 1) := by decide +kernel
theorem dX6_tasteOf_1 : decode cX6_tasteOf 1 = .ok (.iload_n 1, 1) := by decide +kernel
theorem dX6_tasteOf_2 : decode cX6_tasteOf 2 = .ok (.invokevirtual 99, 3) := by decide +kernel
theorem dX6_tasteOf_5 : decode cX6_tasteOf 5 = .ok (.ifCond .eq 15, 3) := by decide +kernel
theorem dX6_tasteOf_8 : decode cX6_tasteOf 8 = .ok (.iload_n 2, 1) := by decide +kernel
theorem dX6_tasteOf_9 : decode cX6_tasteOf 9 = .ok (.i2l, 1) := by decide +kernel
theorem dX6_tasteOf_10 : decode cX6_tasteOf 10 = .ok (.lconst 0, 1) := by decide +kernel
theorem dX6_tasteOf_11 : decode cX6_tasteOf 11 = .ok (.ldc2_w 102, 3) := by decide +kernel
theorem dX6_tasteOf_14 : decode cX6_tasteOf 14 = .ok (.invokestatic 42, 3) := by decide +kernel
theorem dX6_tasteOf_17 : decode cX6_tasteOf 17 = .ok (.ifCond .ne 10, 3) := by decide +kernel
theorem dX6_tasteOf_20 : decode cX6_tasteOf 20 = .ok (.aload_n 0, 1) := by decide +kernel
theorem dX6_tasteOf_21 : decode cX6_tasteOf 21 = .ok (.ldc 34, 2) := by decide +kernel
theorem dX6_tasteOf_23 : decode cX6_tasteOf 23 = .ok (.invokevirtual 36, 3) := by decide +kernel
theorem dX6_tasteOf_26 : decode cX6_tasteOf 26 = .ok (.ireturn, 1) := by decide +kernel
theorem dX6_tasteOf_27 : decode cX6_tasteOf 27 = .ok (.iload_n 2, 1) := by decide +kernel
theorem dX6_tasteOf_28 : decode cX6_tasteOf 28 = .ok (.iconst 3, 1) := by decide +kernel
theorem dX6_tasteOf_29 : decode cX6_tasteOf 29 = .ok (.if_icmp .ge 12, 3) := by decide +kernel
theorem dX6_tasteOf_32 : decode cX6_tasteOf 32 = .ok (.aload_n 0, 1) := by decide +kernel
theorem dX6_tasteOf_33 : decode cX6_tasteOf 33 = .ok (.iload_n 1, 1) := by decide +kernel
theorem dX6_tasteOf_34 : decode cX6_tasteOf 34 = .ok (.iload_n 2, 1) := by decide +kernel
theorem dX6_tasteOf_35 : decode cX6_tasteOf 35 = .ok (.invokevirtual 90, 3) := by decide +kernel
theorem dX6_tasteOf_38 : decode cX6_tasteOf 38 = .ok (.goto 23, 3) := by decide +kernel
theorem dX6_tasteOf_41 : decode cX6_tasteOf 41 = .ok (.iload_n 2, 1) := by decide +kernel
theorem dX6_tasteOf_42 : decode cX6_tasteOf 42 = .ok (.iconst 3, 1) := by decide +kernel
theorem dX6_tasteOf_43 : decode cX6_tasteOf 43 = .ok (.if_icmp .ne 12, 3) := by decide +kernel
theorem dX6_tasteOf_46 : decode cX6_tasteOf 46 = .ok (.aload_n 0, 1) := by decide +kernel
theorem dX6_tasteOf_47 : decode cX6_tasteOf 47 = .ok (.iload_n 1, 1) := by decide +kernel
theorem dX6_tasteOf_48 : decode cX6_tasteOf 48 = .ok (.iconst 0, 1) := by decide +kernel
theorem dX6_tasteOf_49 : decode cX6_tasteOf 49 = .ok (.invokevirtual 104, 3) := by decide +kernel
theorem dX6_tasteOf_52 : decode cX6_tasteOf 52 = .ok (.goto 9, 3) := by decide +kernel
theorem dX6_tasteOf_55 : decode cX6_tasteOf 55 = .ok (.aload_n 0, 1) := by decide +kernel
theorem dX6_tasteOf_56 : decode cX6_tasteOf 56 = .ok (.iload_n 1, 1) := by decide +kernel
theorem dX6_tasteOf_57 : decode cX6_tasteOf 57 = .ok (.iconst 0, 1) := by decide +kernel
theorem dX6_tasteOf_58 : decode cX6_tasteOf 58 = .ok (.invokevirtual 108, 3) := by decide +kernel
theorem dX6_tasteOf_61 : decode cX6_tasteOf 61 = .ok (.ireturn, 1) := by decide +kernel
theorem dX6_change_0 : decode cX6_change 0 = .ok (.iload_n 2, 1) := by decide +kernel
theorem dX6_change_1 : decode cX6_change 1 = .ok (.ifCond .ne 10, 3) := by decide +kernel
theorem dX6_change_4 : decode cX6_change 4 = .ok (.iload_n 3, 1) := by decide +kernel
theorem dX6_change_5 : decode cX6_change 5 = .ok (.invokestatic 79, 3) := by decide +kernel
theorem dX6_change_8 : decode cX6_change 8 = .ok (.goto 32, 3) := by decide +kernel
theorem dX6_change_11 : decode cX6_change 11 = .ok (.iload_n 2, 1) := by decide +kernel
theorem dX6_change_12 : decode cX6_change 12 = .ok (.iconst 1, 1) := by decide +kernel
theorem dX6_change_13 : decode cX6_change 13 = .ok (.if_icmp .ne 10, 3) := by decide +kernel
theorem dX6_change_16 : decode cX6_change 16 = .ok (.iload_n 3, 1) := by decide +kernel
theorem dX6_change_17 : decode cX6_change 17 = .ok (.invokestatic 55, 3) := by decide +kernel
theorem dX6_change_20 : decode cX6_change 20 = .ok (.goto 20, 3) := by decide +kernel
theorem dX6_change_23 : decode cX6_change 23 = .ok (.iload_n 2, 1) := by decide +kernel
theorem dX6_change_24 : decode cX6_change 24 = .ok (.iconst 2, 1) := by decide +kernel
theorem dX6_change_25 : decode cX6_change 25 = .ok (.if_icmp .ne 14, 3) := by decide +kernel
theorem dX6_change_28 : decode cX6_change 28 = .ok (.iload_n 3, 1) := by decide +kernel
theorem dX6_change_29 : decode cX6_change 29 = .ok (.invokestatic 82, 3) := by decide +kernel
theorem dX6_change_32 : decode cX6_change 32 = .ok (.ifCond .eq 7, 3) := by decide +kernel
theorem dX6_change_35 : decode cX6_change 35 = .ok (.iconst 1, 1) := by decide +kernel
theorem dX6_change_36 : decode cX6_change 36 = .ok (.goto 4, 3) := by decide +kernel
theorem dX6_change_39 : decode cX6_change 39 = .ok (.iconst 0, 1) := by decide +kernel
theorem dX6_change_40 : decode cX6_change 40 = .ok (.istore 4, 2) := by decide +kernel
theorem dX6_change_42 : decode cX6_change 42 = .ok (.aload_n 0, 1) := by decide +kernel
theorem dX6_change_43 : decode cX6_change 43 = .ok (.iload_n 1, 1) := by decide +kernel
theorem dX6_change_44 : decode cX6_change 44 = .ok (.invokevirtual 99, 3) := by decide +kernel
theorem dX6_change_47 : decode cX6_change 47 = .ok (.ifCond .eq 24, 3) := by decide +kernel
theorem dX6_change_50 : decode cX6_change 50 = .ok (.iload 4, 2) := by decide +kernel
theorem dX6_change_52 : decode cX6_change 52 = .ok (.ifCond .eq 19, 3) := by decide +kernel
theorem dX6_change_55 : decode cX6_change 55 = .ok (.aload_n 0, 1) := by decide +kernel
theorem dX6_change_56 : decode cX6_change 56 = .ok (.bipush 40, 2) := by decide +kernel
theorem dX6_change_58 : decode cX6_change 58 = .ok (.iconst 3, 1) := by decide +kernel
theorem dX6_change_59 : decode cX6_change 59 = .ok (.iload_n 1, 1) := by decide +kernel
theorem dX6_change_60 : decode cX6_change 60 = .ok (.imul, 1) := by decide +kernel
theorem dX6_change_61 : decode cX6_change 61 = .ok (.iadd, 1) := by decide +kernel
theorem dX6_change_62 : decode cX6_change 62 = .ok (.iload_n 2, 1) := by decide +kernel
theorem dX6_change_63 : decode cX6_change 63 = .ok (.iadd, 1) := by decide +kernel
theorem dX6_change_64 : decode cX6_change 64 = .ok (.iload_n 3, 1) := by decide +kernel
theorem dX6_change_65 : decode cX6_change 65 = .ok (.invokevirtual 59, 3) := by decide +kernel
theorem dX6_change_68 : decode cX6_change 68 = .ok (.goto 9, 3) := by decide +kernel
theorem dX6_change_71 : decode cX6_change 71 = .ok (.aload_n 0, 1) := by decide +kernel
theorem dX6_change_72 : decode cX6_change 72 = .ok (.ldc 34, 2) := by decide +kernel
theorem dX6_change_74 : decode cX6_change 74 = .ok (.invokevirtual 36, 3) := by decide +kernel
theorem dX6_change_77 : decode cX6_change 77 = .ok (.ireturn, 1) := by decide +kernel
theorem dX6_swaps_0 : decode cX6_swaps 0 = .ok (.iconst 0, 1) := by decide +kernel
theorem dX6_swaps_1 : decode cX6_swaps 1 = .ok (.istore_n 3, 1) := by decide +kernel
theorem dX6_swaps_2 : decode cX6_swaps 2 = .ok (.iload_n 3, 1) := by decide +kernel
theorem dX6_swaps_3 : decode cX6_swaps 3 = .ok (.iconst 3, 1) := by decide +kernel
theorem dX6_swaps_4 : decode cX6_swaps 4 = .ok (.if_icmp .ge 40, 3) := by decide +kernel
theorem dX6_swaps_7 : decode cX6_swaps 7 = .ok (.aload_n 0, 1) := by decide +kernel
theorem dX6_swaps_8 : decode cX6_swaps 8 = .ok (.getfield 9, 3) := by decide +kernel
theorem dX6_swaps_11 : decode cX6_swaps 11 = .ok (.bipush 40, 2) := by decide +kernel
theorem dX6_swaps_13 : decode cX6_swaps 13 = .ok (.iconst 3, 1) := by decide +kernel
theorem dX6_swaps_14 : decode cX6_swaps 14 = .ok (.iload_n 2, 1) := by decide +kernel
theorem dX6_swaps_15 : decode cX6_swaps 15 = .ok (.imul, 1) := by decide +kernel
theorem dX6_swaps_16 : decode cX6_swaps 16 = .ok (.iadd, 1) := by decide +kernel
theorem dX6_swaps_17 : decode cX6_swaps 17 = .ok (.iload_n 3, 1) := by decide +kernel
theorem dX6_swaps_18 : decode cX6_swaps 18 = .ok (.iadd, 1) := by decide +kernel
theorem dX6_swaps_19 : decode cX6_swaps 19 = .ok (.aload_n 0, 1) := by decide +kernel
theorem dX6_swaps_20 : decode cX6_swaps 20 = .ok (.bipush 40, 2) := by decide +kernel
theorem dX6_swaps_22 : decode cX6_swaps 22 = .ok (.iconst 3, 1) := by decide +kernel
theorem dX6_swaps_23 : decode cX6_swaps 23 = .ok (.iload_n 1, 1) := by decide +kernel
theorem dX6_swaps_24 : decode cX6_swaps 24 = .ok (.imul, 1) := by decide +kernel
theorem dX6_swaps_25 : decode cX6_swaps 25 = .ok (.iadd, 1) := by decide +kernel
theorem dX6_swaps_26 : decode cX6_swaps 26 = .ok (.iload_n 3, 1) := by decide +kernel
theorem dX6_swaps_27 : decode cX6_swaps 27 = .ok (.iadd, 1) := by decide +kernel
theorem dX6_swaps_28 : decode cX6_swaps 28 = .ok (.aload_n 0, 1) := by decide +kernel
theorem dX6_swaps_29 : decode cX6_swaps 29 = .ok (.iload_n 2, 1) := by decide +kernel
theorem dX6_swaps_30 : decode cX6_swaps 30 = .ok (.iload_n 3, 1) := by decide +kernel
theorem dX6_swaps_31 : decode cX6_swaps 31 = .ok (.invokevirtual 90, 3) := by decide +kernel
theorem dX6_swaps_34 : decode cX6_swaps 34 = .ok (.invokevirtual 59, 3) := by decide +kernel
theorem dX6_swaps_37 : decode cX6_swaps 37 = .ok (.iastore, 1) := by decide +kernel
theorem dX6_swaps_38 : decode cX6_swaps 38 = .ok (.iinc 3 1, 3) := by decide +kernel
theorem dX6_swaps_41 : decode cX6_swaps 41 = .ok (.goto (-39), 3) := by decide +kernel
theorem dX6_swaps_44 : decode cX6_swaps 44 = .ok (.return_, 1) := by decide +kernel
theorem dX6_swap_0 : decode cX6_swap 0 = .ok (.aload_n 0, 1) := by decide +kernel
theorem dX6_swap_1 : decode cX6_swap 1 = .ok (.iload_n 1, 1) := by decide +kernel
theorem dX6_swap_2 : decode cX6_swap 2 = .ok (.invokevirtual 99, 3) := by decide +kernel
theorem dX6_swap_5 : decode cX6_swap 5 = .ok (.ifCond .eq 11, 3) := by decide +kernel
theorem dX6_swap_8 : decode cX6_swap 8 = .ok (.aload_n 0, 1) := by decide +kernel
theorem dX6_swap_9 : decode cX6_swap 9 = .ok (.iload_n 2, 1) := by decide +kernel
theorem dX6_swap_10 : decode cX6_swap 10 = .ok (.invokevirtual 99, 3) := by decide +kernel
theorem dX6_swap_13 : decode cX6_swap 13 = .ok (.ifCond .ne 10, 3) := by decide +kernel
theorem dX6_swap_16 : decode cX6_swap 16 = .ok (.aload_n 0, 1) := by decide +kernel
theorem dX6_swap_17 : decode cX6_swap 17 = .ok (.ldc 34, 2) := by decide +kernel
theorem dX6_swap_19 : decode cX6_swap 19 = .ok (.invokevirtual 36, 3) := by decide +kernel
theorem dX6_swap_22 : decode cX6_swap 22 = .ok (.ireturn, 1) := by decide +kernel
theorem dX6_swap_23 : decode cX6_swap 23 = .ok (.aload_n 0, 1) := by decide +kernel
theorem dX6_swap_24 : decode cX6_swap 24 = .ok (.iload_n 1, 1) := by decide +kernel
theorem dX6_swap_25 : decode cX6_swap 25 = .ok (.iload_n 2, 1) := by decide +kernel
theorem dX6_swap_26 : decode cX6_swap 26 = .ok (.invokevirtual 111, 3) := by decide +kernel
theorem dX6_swap_29 : decode cX6_swap 29 = .ok (.iconst 1, 1) := by decide +kernel
theorem dX6_swap_30 : decode cX6_swap 30 = .ok (.ireturn, 1) := by decide +kernel
theorem dX6_drop_0 : decode cX6_drop 0 = .ok (.aload_n 0, 1) := by decide +kernel
theorem dX6_drop_1 : decode cX6_drop 1 = .ok (.getfield 9, 3) := by decide +kernel
theorem dX6_drop_4 : decode cX6_drop 4 = .ok (.bipush 8, 2) := by decide +kernel
theorem dX6_drop_6 : decode cX6_drop 6 = .ok (.iaload, 1) := by decide +kernel
theorem dX6_drop_7 : decode cX6_drop 7 = .ok (.ifCond .ne 10, 3) := by decide +kernel
theorem dX6_drop_10 : decode cX6_drop 10 = .ok (.aload_n 0, 1) := by decide +kernel
theorem dX6_drop_11 : decode cX6_drop 11 = .ok (.ldc 35, 2) := by decide +kernel
theorem dX6_drop_13 : decode cX6_drop 13 = .ok (.invokevirtual 36, 3) := by decide +kernel
theorem dX6_drop_16 : decode cX6_drop 16 = .ok (.ireturn, 1) := by decide +kernel
theorem dX6_drop_17 : decode cX6_drop 17 = .ok (.aload_n 0, 1) := by decide +kernel
theorem dX6_drop_18 : decode cX6_drop 18 = .ok (.getfield 9, 3) := by decide +kernel
theorem dX6_drop_21 : decode cX6_drop 21 = .ok (.bipush 8, 2) := by decide +kernel
theorem dX6_drop_23 : decode cX6_drop 23 = .ok (.dup2, 1) := by decide +kernel
theorem dX6_drop_24 : decode cX6_drop 24 = .ok (.iaload, 1) := by decide +kernel
theorem dX6_drop_25 : decode cX6_drop 25 = .ok (.iconst 1, 1) := by decide +kernel
theorem dX6_drop_26 : decode cX6_drop 26 = .ok (.isub, 1) := by decide +kernel
theorem dX6_drop_27 : decode cX6_drop 27 = .ok (.iastore, 1) := by decide +kernel
theorem dX6_drop_28 : decode cX6_drop 28 = .ok (.iconst 0, 1) := by decide +kernel
theorem dX6_drop_29 : decode cX6_drop 29 = .ok (.istore_n 1, 1) := by decide +kernel
theorem dX6_drop_30 : decode cX6_drop 30 = .ok (.iload_n 1, 1) := by decide +kernel
theorem dX6_drop_31 : decode cX6_drop 31 = .ok (.bipush 10, 2) := by decide +kernel
theorem dX6_drop_33 : decode cX6_drop 33 = .ok (.if_icmp .ge 50, 3) := by decide +kernel
theorem dX6_drop_36 : decode cX6_drop 36 = .ok (.aload_n 0, 1) := by decide +kernel
theorem dX6_drop_37 : decode cX6_drop 37 = .ok (.getfield 9, 3) := by decide +kernel
theorem dX6_drop_40 : decode cX6_drop 40 = .ok (.bipush 70, 2) := by decide +kernel
theorem dX6_drop_42 : decode cX6_drop 42 = .ok (.iload_n 1, 1) := by decide +kernel
theorem dX6_drop_43 : decode cX6_drop 43 = .ok (.iadd, 1) := by decide +kernel
theorem dX6_drop_44 : decode cX6_drop 44 = .ok (.aload_n 0, 1) := by decide +kernel
theorem dX6_drop_45 : decode cX6_drop 45 = .ok (.getfield 9, 3) := by decide +kernel
theorem dX6_drop_48 : decode cX6_drop 48 = .ok (.bipush 70, 2) := by decide +kernel
theorem dX6_drop_50 : decode cX6_drop 50 = .ok (.iload_n 1, 1) := by decide +kernel
theorem dX6_drop_51 : decode cX6_drop 51 = .ok (.iadd, 1) := by decide +kernel
theorem dX6_drop_52 : decode cX6_drop 52 = .ok (.iaload, 1) := by decide +kernel
theorem dX6_drop_53 : decode cX6_drop 53 = .ok (.aload_n 0, 1) := by decide +kernel
theorem dX6_drop_54 : decode cX6_drop 54 = .ok (.getfield 9, 3) := by decide +kernel
theorem dX6_drop_57 : decode cX6_drop 57 = .ok (.bipush 8, 2) := by decide +kernel
theorem dX6_drop_59 : decode cX6_drop 59 = .ok (.iaload, 1) := by decide +kernel
theorem dX6_drop_60 : decode cX6_drop 60 = .ok (.if_icmp .ne 7, 3) := by decide +kernel
theorem dX6_drop_63 : decode cX6_drop 63 = .ok (.iconst (-1), 1) := by decide +kernel
theorem dX6_drop_64 : decode cX6_drop 64 = .ok (.goto 12, 3) := by decide +kernel
theorem dX6_drop_67 : decode cX6_drop 67 = .ok (.aload_n 0, 1) := by decide +kernel
theorem dX6_drop_68 : decode cX6_drop 68 = .ok (.getfield 9, 3) := by decide +kernel
theorem dX6_drop_71 : decode cX6_drop 71 = .ok (.bipush 70, 2) := by decide +kernel
theorem dX6_drop_73 : decode cX6_drop 73 = .ok (.iload_n 1, 1) := by decide +kernel
theorem dX6_drop_74 : decode cX6_drop 74 = .ok (.iadd, 1) := by decide +kernel
theorem dX6_drop_75 : decode cX6_drop 75 = .ok (.iaload, 1) := by decide +kernel
theorem dX6_drop_76 : decode cX6_drop 76 = .ok (.iastore, 1) := by decide +kernel
theorem dX6_drop_77 : decode cX6_drop 77 = .ok (.iinc 1 1, 3) := by decide +kernel
theorem dX6_drop_80 : decode cX6_drop 80 = .ok (.goto (-50), 3) := by decide +kernel
theorem dX6_drop_83 : decode cX6_drop 83 = .ok (.aload_n 0, 1) := by decide +kernel
theorem dX6_drop_84 : decode cX6_drop 84 = .ok (.getfield 9, 3) := by decide +kernel
theorem dX6_drop_87 : decode cX6_drop 87 = .ok (.bipush 8, 2) := by decide +kernel
theorem dX6_drop_89 : decode cX6_drop 89 = .ok (.iaload, 1) := by decide +kernel
theorem dX6_drop_90 : decode cX6_drop 90 = .ok (.ireturn, 1) := by decide +kernel
theorem dX6_draw_0 : decode cX6_draw 0 = .ok (.aload_n 0, 1) := by decide +kernel
theorem dX6_draw_1 : decode cX6_draw 1 = .ok (.getfield 9, 3) := by decide +kernel
theorem dX6_draw_4 : decode cX6_draw 4 = .ok (.iconst 1, 1) := by decide +kernel
theorem dX6_draw_5 : decode cX6_draw 5 = .ok (.aload_n 0, 1) := by decide +kernel
theorem dX6_draw_6 : decode cX6_draw 6 = .ok (.getfield 9, 3) := by decide +kernel
theorem dX6_draw_9 : decode cX6_draw 9 = .ok (.iconst 1, 1) := by decide +kernel
theorem dX6_draw_10 : decode cX6_draw 10 = .ok (.iaload, 1) := by decide +kernel
theorem dX6_draw_11 : decode cX6_draw 11 = .ok (.ldc 115, 2) := by decide +kernel
theorem dX6_draw_13 : decode cX6_draw 13 = .ok (.imul, 1) := by decide +kernel
theorem dX6_draw_14 : decode cX6_draw 14 = .ok (.sipush 12345, 3) := by decide +kernel
theorem dX6_draw_17 : decode cX6_draw 17 = .ok (.iadd, 1) := by decide +kernel
theorem dX6_draw_18 : decode cX6_draw 18 = .ok (.iastore, 1) := by decide +kernel
theorem dX6_draw_19 : decode cX6_draw 19 = .ok (.aload_n 0, 1) := by decide +kernel
theorem dX6_draw_20 : decode cX6_draw 20 = .ok (.getfield 9, 3) := by decide +kernel
theorem dX6_draw_23 : decode cX6_draw 23 = .ok (.iconst 1, 1) := by decide +kernel
theorem dX6_draw_24 : decode cX6_draw 24 = .ok (.iaload, 1) := by decide +kernel
theorem dX6_draw_25 : decode cX6_draw 25 = .ok (.bipush 8, 2) := by decide +kernel
theorem dX6_draw_27 : decode cX6_draw 27 = .ok (.iushr, 1) := by decide +kernel
theorem dX6_draw_28 : decode cX6_draw 28 = .ok (.ireturn, 1) := by decide +kernel
theorem dX6_likesMore_0 : decode cX6_likesMore 0 = .ok (.aload_n 0, 1) := by decide +kernel
theorem dX6_likesMore_1 : decode cX6_likesMore 1 = .ok (.getfield 9, 3) := by decide +kernel
theorem dX6_likesMore_4 : decode cX6_likesMore 4 = .ok (.bipush 10, 2) := by decide +kernel
theorem dX6_likesMore_6 : decode cX6_likesMore 6 = .ok (.iconst 3, 1) := by decide +kernel
theorem dX6_likesMore_7 : decode cX6_likesMore 7 = .ok (.iload_n 1, 1) := by decide +kernel
theorem dX6_likesMore_8 : decode cX6_likesMore 8 = .ok (.imul, 1) := by decide +kernel
theorem dX6_likesMore_9 : decode cX6_likesMore 9 = .ok (.iadd, 1) := by decide +kernel
theorem dX6_likesMore_10 : decode cX6_likesMore 10 = .ok (.aload_n 0, 1) := by decide +kernel
theorem dX6_likesMore_11 : decode cX6_likesMore 11 = .ok (.iload_n 1, 1) := by decide +kernel
theorem dX6_likesMore_12 : decode cX6_likesMore 12 = .ok (.invokevirtual 50, 3) := by decide +kernel
theorem dX6_likesMore_15 : decode cX6_likesMore 15 = .ok (.iload_n 2, 1) := by decide +kernel
theorem dX6_likesMore_16 : decode cX6_likesMore 16 = .ok (.iadd, 1) := by decide +kernel
theorem dX6_likesMore_17 : decode cX6_likesMore 17 = .ok (.bipush 99, 2) := by decide +kernel
theorem dX6_likesMore_19 : decode cX6_likesMore 19 = .ok (.invokestatic 96, 3) := by decide +kernel
theorem dX6_likesMore_22 : decode cX6_likesMore 22 = .ok (.iastore, 1) := by decide +kernel
theorem dX6_likesMore_23 : decode cX6_likesMore 23 = .ok (.return_, 1) := by decide +kernel
theorem dX6_serves_0 : decode cX6_serves 0 = .ok (.aload_n 0, 1) := by decide +kernel
theorem dX6_serves_1 : decode cX6_serves 1 = .ok (.iload_n 1, 1) := by decide +kernel
theorem dX6_serves_2 : decode cX6_serves 2 = .ok (.iconst 1, 1) := by decide +kernel
theorem dX6_serves_3 : decode cX6_serves 3 = .ok (.invokevirtual 90, 3) := by decide +kernel
theorem dX6_serves_6 : decode cX6_serves 6 = .ok (.istore_n 2, 1) := by decide +kernel
theorem dX6_serves_7 : decode cX6_serves 7 = .ok (.aload_n 0, 1) := by decide +kernel
theorem dX6_serves_8 : decode cX6_serves 8 = .ok (.iload_n 1, 1) := by decide +kernel
theorem dX6_serves_9 : decode cX6_serves 9 = .ok (.iconst 0, 1) := by decide +kernel
theorem dX6_serves_10 : decode cX6_serves 10 = .ok (.invokevirtual 90, 3) := by decide +kernel
theorem dX6_serves_13 : decode cX6_serves 13 = .ok (.bipush 6, 2) := by decide +kernel
theorem dX6_serves_15 : decode cX6_serves 15 = .ok (.if_icmp .ne 32, 3) := by decide +kernel
theorem dX6_serves_18 : decode cX6_serves 18 = .ok (.aload_n 0, 1) := by decide +kernel
theorem dX6_serves_19 : decode cX6_serves 19 = .ok (.invokevirtual 116, 3) := by decide +kernel
theorem dX6_serves_22 : decode cX6_serves 22 = .ok (.bipush 10, 2) := by decide +kernel
theorem dX6_serves_24 : decode cX6_serves 24 = .ok (.irem, 1) := by decide +kernel
theorem dX6_serves_25 : decode cX6_serves 25 = .ok (.aload_n 0, 1) := by decide +kernel
theorem dX6_serves_26 : decode cX6_serves 26 = .ok (.getfield 9, 3) := by decide +kernel
theorem dX6_serves_29 : decode cX6_serves 29 = .ok (.bipush 10, 2) := by decide +kernel
theorem dX6_serves_31 : decode cX6_serves 31 = .ok (.iconst 3, 1) := by decide +kernel
theorem dX6_serves_32 : decode cX6_serves 32 = .ok (.iload_n 2, 1) := by decide +kernel
theorem dX6_serves_33 : decode cX6_serves 33 = .ok (.imul, 1) := by decide +kernel
theorem dX6_serves_34 : decode cX6_serves 34 = .ok (.iadd, 1) := by decide +kernel
theorem dX6_serves_35 : decode cX6_serves 35 = .ok (.iconst 1, 1) := by decide +kernel
theorem dX6_serves_36 : decode cX6_serves 36 = .ok (.iadd, 1) := by decide +kernel
theorem dX6_serves_37 : decode cX6_serves 37 = .ok (.iaload, 1) := by decide +kernel
theorem dX6_serves_38 : decode cX6_serves 38 = .ok (.iconst 1, 1) := by decide +kernel
theorem dX6_serves_39 : decode cX6_serves 39 = .ok (.iadd, 1) := by decide +kernel
theorem dX6_serves_40 : decode cX6_serves 40 = .ok (.if_icmp .ge 7, 3) := by decide +kernel
theorem dX6_serves_43 : decode cX6_serves 43 = .ok (.iconst 1, 1) := by decide +kernel
theorem dX6_serves_44 : decode cX6_serves 44 = .ok (.goto 4, 3) := by decide +kernel
theorem dX6_serves_47 : decode cX6_serves 47 = .ok (.iconst 0, 1) := by decide +kernel
theorem dX6_serves_48 : decode cX6_serves 48 = .ok (.istore_n 3, 1) := by decide +kernel
theorem dX6_serves_49 : decode cX6_serves 49 = .ok (.aload_n 0, 1) := by decide +kernel
theorem dX6_serves_50 : decode cX6_serves 50 = .ok (.iload_n 1, 1) := by decide +kernel
theorem dX6_serves_51 : decode cX6_serves 51 = .ok (.iload_n 3, 1) := by decide +kernel
theorem dX6_serves_52 : decode cX6_serves 52 = .ok (.invokevirtual 104, 3) := by decide +kernel
theorem dX6_serves_55 : decode cX6_serves 55 = .ok (.istore 4, 2) := by decide +kernel
theorem dX6_serves_57 : decode cX6_serves 57 = .ok (.aload_n 0, 1) := by decide +kernel
theorem dX6_serves_58 : decode cX6_serves 58 = .ok (.iload_n 2, 1) := by decide +kernel
theorem dX6_serves_59 : decode cX6_serves 59 = .ok (.aload_n 0, 1) := by decide +kernel
theorem dX6_serves_60 : decode cX6_serves 60 = .ok (.iload_n 1, 1) := by decide +kernel
theorem dX6_serves_61 : decode cX6_serves 61 = .ok (.iload_n 3, 1) := by decide +kernel
theorem dX6_serves_62 : decode cX6_serves 62 = .ok (.invokevirtual 108, 3) := by decide +kernel
theorem dX6_serves_65 : decode cX6_serves 65 = .ok (.invokevirtual 120, 3) := by decide +kernel
theorem dX6_serves_68 : decode cX6_serves 68 = .ok (.aload_n 0, 1) := by decide +kernel
theorem dX6_serves_69 : decode cX6_serves 69 = .ok (.iload_n 1, 1) := by decide +kernel
theorem dX6_serves_70 : decode cX6_serves 70 = .ok (.iconst 0, 1) := by decide +kernel
theorem dX6_serves_71 : decode cX6_serves 71 = .ok (.invokevirtual 90, 3) := by decide +kernel
theorem dX6_serves_74 : decode cX6_serves 74 = .ok (.iconst 3, 1) := by decide +kernel
theorem dX6_serves_75 : decode cX6_serves 75 = .ok (.if_icmp .ne 25, 3) := by decide +kernel
theorem dX6_serves_78 : decode cX6_serves 78 = .ok (.aload_n 0, 1) := by decide +kernel
theorem dX6_serves_79 : decode cX6_serves 79 = .ok (.getfield 9, 3) := by decide +kernel
theorem dX6_serves_82 : decode cX6_serves 82 = .ok (.bipush 6, 2) := by decide +kernel
theorem dX6_serves_84 : decode cX6_serves 84 = .ok (.iaload, 1) := by decide +kernel
theorem dX6_serves_85 : decode cX6_serves 85 = .ok (.ifCond .lt 15, 3) := by decide +kernel
theorem dX6_serves_88 : decode cX6_serves 88 = .ok (.aload_n 0, 1) := by decide +kernel
theorem dX6_serves_89 : decode cX6_serves 89 = .ok (.aload_n 0, 1) := by decide +kernel
theorem dX6_serves_90 : decode cX6_serves 90 = .ok (.getfield 9, 3) := by decide +kernel
theorem dX6_serves_93 : decode cX6_serves 93 = .ok (.bipush 6, 2) := by decide +kernel
theorem dX6_serves_95 : decode cX6_serves 95 = .ok (.iaload, 1) := by decide +kernel
theorem dX6_serves_96 : decode cX6_serves 96 = .ok (.iconst 5, 1) := by decide +kernel
theorem dX6_serves_97 : decode cX6_serves 97 = .ok (.invokevirtual 120, 3) := by decide +kernel
theorem dX6_serves_100 : decode cX6_serves 100 = .ok (.aload_n 0, 1) := by decide +kernel
theorem dX6_serves_101 : decode cX6_serves 101 = .ok (.getfield 9, 3) := by decide +kernel
theorem dX6_serves_104 : decode cX6_serves 104 = .ok (.bipush 10, 2) := by decide +kernel
theorem dX6_serves_106 : decode cX6_serves 106 = .ok (.iconst 3, 1) := by decide +kernel
theorem dX6_serves_107 : decode cX6_serves 107 = .ok (.iload_n 2, 1) := by decide +kernel
theorem dX6_serves_108 : decode cX6_serves 108 = .ok (.imul, 1) := by decide +kernel
theorem dX6_serves_109 : decode cX6_serves 109 = .ok (.iadd, 1) := by decide +kernel
theorem dX6_serves_110 : decode cX6_serves 110 = .ok (.iconst 2, 1) := by decide +kernel
theorem dX6_serves_111 : decode cX6_serves 111 = .ok (.iadd, 1) := by decide +kernel
theorem dX6_serves_112 : decode cX6_serves 112 = .ok (.aload_n 0, 1) := by decide +kernel
theorem dX6_serves_113 : decode cX6_serves 113 = .ok (.getfield 9, 3) := by decide +kernel
theorem dX6_serves_116 : decode cX6_serves 116 = .ok (.bipush 10, 2) := by decide +kernel
theorem dX6_serves_118 : decode cX6_serves 118 = .ok (.iconst 3, 1) := by decide +kernel
theorem dX6_serves_119 : decode cX6_serves 119 = .ok (.iload_n 2, 1) := by decide +kernel
theorem dX6_serves_120 : decode cX6_serves 120 = .ok (.imul, 1) := by decide +kernel
theorem dX6_serves_121 : decode cX6_serves 121 = .ok (.iadd, 1) := by decide +kernel
theorem dX6_serves_122 : decode cX6_serves 122 = .ok (.iconst 2, 1) := by decide +kernel
theorem dX6_serves_123 : decode cX6_serves 123 = .ok (.iadd, 1) := by decide +kernel
theorem dX6_serves_124 : decode cX6_serves 124 = .ok (.iaload, 1) := by decide +kernel
theorem dX6_serves_125 : decode cX6_serves 125 = .ok (.iconst 1, 1) := by decide +kernel
theorem dX6_serves_126 : decode cX6_serves 126 = .ok (.iadd, 1) := by decide +kernel
theorem dX6_serves_127 : decode cX6_serves 127 = .ok (.sipush 999, 3) := by decide +kernel
theorem dX6_serves_130 : decode cX6_serves 130 = .ok (.invokestatic 96, 3) := by decide +kernel
theorem dX6_serves_133 : decode cX6_serves 133 = .ok (.iastore, 1) := by decide +kernel
theorem dX6_serves_134 : decode cX6_serves 134 = .ok (.iload 4, 2) := by decide +kernel
theorem dX6_serves_136 : decode cX6_serves 136 = .ok (.ireturn, 1) := by decide +kernel
theorem dX6_meal_0 : decode cX6_meal 0 = .ok (.iload_n 1, 1) := by decide +kernel
theorem dX6_meal_1 : decode cX6_meal 1 = .ok (.ifCond .ge 7, 3) := by decide +kernel
theorem dX6_meal_4 : decode cX6_meal 4 = .ok (.iconst 0, 1) := by decide +kernel
theorem dX6_meal_5 : decode cX6_meal 5 = .ok (.goto 8, 3) := by decide +kernel
theorem dX6_meal_8 : decode cX6_meal 8 = .ok (.aload_n 0, 1) := by decide +kernel
theorem dX6_meal_9 : decode cX6_meal 9 = .ok (.iload_n 1, 1) := by decide +kernel
theorem dX6_meal_10 : decode cX6_meal 10 = .ok (.invokevirtual 123, 3) := by decide +kernel
theorem dX6_meal_13 : decode cX6_meal 13 = .ok (.istore_n 2, 1) := by decide +kernel
theorem dX6_meal_14 : decode cX6_meal 14 = .ok (.aload_n 0, 1) := by decide +kernel
theorem dX6_meal_15 : decode cX6_meal 15 = .ok (.getfield 9, 3) := by decide +kernel
theorem dX6_meal_18 : decode cX6_meal 18 = .ok (.iconst 3, 1) := by decide +kernel
theorem dX6_meal_19 : decode cX6_meal 19 = .ok (.aload_n 0, 1) := by decide +kernel
theorem dX6_meal_20 : decode cX6_meal 20 = .ok (.getfield 9, 3) := by decide +kernel
theorem dX6_meal_23 : decode cX6_meal 23 = .ok (.iconst 3, 1) := by decide +kernel
theorem dX6_meal_24 : decode cX6_meal 24 = .ok (.iaload, 1) := by decide +kernel
theorem dX6_meal_25 : decode cX6_meal 25 = .ok (.iconst 3, 1) := by decide +kernel
theorem dX6_meal_26 : decode cX6_meal 26 = .ok (.iload_n 2, 1) := by decide +kernel
theorem dX6_meal_27 : decode cX6_meal 27 = .ok (.imul, 1) := by decide +kernel
theorem dX6_meal_28 : decode cX6_meal 28 = .ok (.isub, 1) := by decide +kernel
theorem dX6_meal_29 : decode cX6_meal 29 = .ok (.bipush 99, 2) := by decide +kernel
theorem dX6_meal_31 : decode cX6_meal 31 = .ok (.invokestatic 96, 3) := by decide +kernel
theorem dX6_meal_34 : decode cX6_meal 34 = .ok (.bipush 12, 2) := by decide +kernel
theorem dX6_meal_36 : decode cX6_meal 36 = .ok (.iadd, 1) := by decide +kernel
theorem dX6_meal_37 : decode cX6_meal 37 = .ok (.bipush 99, 2) := by decide +kernel
theorem dX6_meal_39 : decode cX6_meal 39 = .ok (.invokestatic 96, 3) := by decide +kernel
theorem dX6_meal_42 : decode cX6_meal 42 = .ok (.iastore, 1) := by decide +kernel
theorem dX6_meal_43 : decode cX6_meal 43 = .ok (.aload_n 0, 1) := by decide +kernel
theorem dX6_meal_44 : decode cX6_meal 44 = .ok (.getfield 9, 3) := by decide +kernel
theorem dX6_meal_47 : decode cX6_meal 47 = .ok (.iconst 4, 1) := by decide +kernel
theorem dX6_meal_48 : decode cX6_meal 48 = .ok (.aload_n 0, 1) := by decide +kernel
theorem dX6_meal_49 : decode cX6_meal 49 = .ok (.getfield 9, 3) := by decide +kernel
theorem dX6_meal_52 : decode cX6_meal 52 = .ok (.iconst 4, 1) := by decide +kernel
theorem dX6_meal_53 : decode cX6_meal 53 = .ok (.iaload, 1) := by decide +kernel
theorem dX6_meal_54 : decode cX6_meal 54 = .ok (.iload_n 2, 1) := by decide +kernel
theorem dX6_meal_55 : decode cX6_meal 55 = .ok (.iadd, 1) := by decide +kernel
theorem dX6_meal_56 : decode cX6_meal 56 = .ok (.iconst 4, 1) := by decide +kernel
theorem dX6_meal_57 : decode cX6_meal 57 = .ok (.isub, 1) := by decide +kernel
theorem dX6_meal_58 : decode cX6_meal 58 = .ok (.sipush 9999, 3) := by decide +kernel
theorem dX6_meal_61 : decode cX6_meal 61 = .ok (.invokestatic 96, 3) := by decide +kernel
theorem dX6_meal_64 : decode cX6_meal 64 = .ok (.iastore, 1) := by decide +kernel
theorem dX6_meal_65 : decode cX6_meal 65 = .ok (.bipush 34, 2) := by decide +kernel
theorem dX6_meal_67 : decode cX6_meal 67 = .ok (.istore_n 3, 1) := by decide +kernel
theorem dX6_meal_68 : decode cX6_meal 68 = .ok (.iload_n 3, 1) := by decide +kernel
theorem dX6_meal_69 : decode cX6_meal 69 = .ok (.ifCond .le 29, 3) := by decide +kernel
theorem dX6_meal_72 : decode cX6_meal 72 = .ok (.aload_n 0, 1) := by decide +kernel
theorem dX6_meal_73 : decode cX6_meal 73 = .ok (.getfield 9, 3) := by decide +kernel
theorem dX6_meal_76 : decode cX6_meal 76 = .ok (.bipush 80, 2) := by decide +kernel
theorem dX6_meal_78 : decode cX6_meal 78 = .ok (.iload_n 3, 1) := by decide +kernel
theorem dX6_meal_79 : decode cX6_meal 79 = .ok (.iadd, 1) := by decide +kernel
theorem dX6_meal_80 : decode cX6_meal 80 = .ok (.aload_n 0, 1) := by decide +kernel
theorem dX6_meal_81 : decode cX6_meal 81 = .ok (.getfield 9, 3) := by decide +kernel
theorem dX6_meal_84 : decode cX6_meal 84 = .ok (.bipush 80, 2) := by decide +kernel
theorem dX6_meal_86 : decode cX6_meal 86 = .ok (.iload_n 3, 1) := by decide +kernel
theorem dX6_meal_87 : decode cX6_meal 87 = .ok (.iadd, 1) := by decide +kernel
theorem dX6_meal_88 : decode cX6_meal 88 = .ok (.iconst 1, 1) := by decide +kernel
theorem dX6_meal_89 : decode cX6_meal 89 = .ok (.isub, 1) := by decide +kernel
theorem dX6_meal_90 : decode cX6_meal 90 = .ok (.iaload, 1) := by decide +kernel
theorem dX6_meal_91 : decode cX6_meal 91 = .ok (.iastore, 1) := by decide +kernel
theorem dX6_meal_92 : decode cX6_meal 92 = .ok (.iinc 3 (-1), 3) := by decide +kernel
theorem dX6_meal_95 : decode cX6_meal 95 = .ok (.goto (-27), 3) := by decide +kernel
theorem dX6_meal_98 : decode cX6_meal 98 = .ok (.aload_n 0, 1) := by decide +kernel
theorem dX6_meal_99 : decode cX6_meal 99 = .ok (.getfield 9, 3) := by decide +kernel
theorem dX6_meal_102 : decode cX6_meal 102 = .ok (.bipush 80, 2) := by decide +kernel
theorem dX6_meal_104 : decode cX6_meal 104 = .ok (.iload_n 2, 1) := by decide +kernel
theorem dX6_meal_105 : decode cX6_meal 105 = .ok (.iastore, 1) := by decide +kernel
theorem dX6_meal_106 : decode cX6_meal 106 = .ok (.aload_n 0, 1) := by decide +kernel
theorem dX6_meal_107 : decode cX6_meal 107 = .ok (.getfield 9, 3) := by decide +kernel
theorem dX6_meal_110 : decode cX6_meal 110 = .ok (.bipush 9, 2) := by decide +kernel
theorem dX6_meal_112 : decode cX6_meal 112 = .ok (.aload_n 0, 1) := by decide +kernel
theorem dX6_meal_113 : decode cX6_meal 113 = .ok (.getfield 9, 3) := by decide +kernel
theorem dX6_meal_116 : decode cX6_meal 116 = .ok (.bipush 9, 2) := by decide +kernel
theorem dX6_meal_118 : decode cX6_meal 118 = .ok (.iaload, 1) := by decide +kernel
theorem dX6_meal_119 : decode cX6_meal 119 = .ok (.iconst 1, 1) := by decide +kernel
theorem dX6_meal_120 : decode cX6_meal 120 = .ok (.iadd, 1) := by decide +kernel
theorem dX6_meal_121 : decode cX6_meal 121 = .ok (.bipush 35, 2) := by decide +kernel
theorem dX6_meal_123 : decode cX6_meal 123 = .ok (.invokestatic 96, 3) := by decide +kernel
theorem dX6_meal_126 : decode cX6_meal 126 = .ok (.iastore, 1) := by decide +kernel
theorem dX6_meal_127 : decode cX6_meal 127 = .ok (.aload_n 0, 1) := by decide +kernel
theorem dX6_meal_128 : decode cX6_meal 128 = .ok (.getfield 9, 3) := by decide +kernel
theorem dX6_meal_131 : decode cX6_meal 131 = .ok (.iconst 0, 1) := by decide +kernel
theorem dX6_meal_132 : decode cX6_meal 132 = .ok (.dup2, 1) := by decide +kernel
theorem dX6_meal_133 : decode cX6_meal 133 = .ok (.iaload, 1) := by decide +kernel
theorem dX6_meal_134 : decode cX6_meal 134 = .ok (.iconst 1, 1) := by decide +kernel
theorem dX6_meal_135 : decode cX6_meal 135 = .ok (.iadd, 1) := by decide +kernel
theorem dX6_meal_136 : decode cX6_meal 136 = .ok (.iastore, 1) := by decide +kernel
theorem dX6_meal_137 : decode cX6_meal 137 = .ok (.iload_n 2, 1) := by decide +kernel
theorem dX6_meal_138 : decode cX6_meal 138 = .ok (.ireturn, 1) := by decide +kernel
theorem dX6_served_0 : decode cX6_served 0 = .ok (.aload_n 0, 1) := by decide +kernel
theorem dX6_served_1 : decode cX6_served 1 = .ok (.getfield 9, 3) := by decide +kernel
theorem dX6_served_4 : decode cX6_served 4 = .ok (.bipush 8, 2) := by decide +kernel
theorem dX6_served_6 : decode cX6_served 6 = .ok (.iaload, 1) := by decide +kernel
theorem dX6_served_7 : decode cX6_served 7 = .ok (.ifCond .ne 7, 3) := by decide +kernel
theorem dX6_served_10 : decode cX6_served 10 = .ok (.iconst (-1), 1) := by decide +kernel
theorem dX6_served_11 : decode cX6_served 11 = .ok (.goto 17, 3) := by decide +kernel
theorem dX6_served_14 : decode cX6_served 14 = .ok (.aload_n 0, 1) := by decide +kernel
theorem dX6_served_15 : decode cX6_served 15 = .ok (.getfield 9, 3) := by decide +kernel
theorem dX6_served_18 : decode cX6_served 18 = .ok (.iconst 0, 1) := by decide +kernel
theorem dX6_served_19 : decode cX6_served 19 = .ok (.iaload, 1) := by decide +kernel
theorem dX6_served_20 : decode cX6_served 20 = .ok (.aload_n 0, 1) := by decide +kernel
theorem dX6_served_21 : decode cX6_served 21 = .ok (.getfield 9, 3) := by decide +kernel
theorem dX6_served_24 : decode cX6_served 24 = .ok (.bipush 8, 2) := by decide +kernel
theorem dX6_served_26 : decode cX6_served 26 = .ok (.iaload, 1) := by decide +kernel
theorem dX6_served_27 : decode cX6_served 27 = .ok (.irem, 1) := by decide +kernel
theorem dX6_served_28 : decode cX6_served 28 = .ok (.ireturn, 1) := by decide +kernel
theorem dX6_mealsOf_0 : decode cX6_mealsOf 0 = .ok (.iconst 0, 1) := by decide +kernel
theorem dX6_mealsOf_1 : decode cX6_mealsOf 1 = .ok (.istore_n 2, 1) := by decide +kernel
theorem dX6_mealsOf_2 : decode cX6_mealsOf 2 = .ok (.iconst 0, 1) := by decide +kernel
theorem dX6_mealsOf_3 : decode cX6_mealsOf 3 = .ok (.istore_n 3, 1) := by decide +kernel
theorem dX6_mealsOf_4 : decode cX6_mealsOf 4 = .ok (.iload_n 3, 1) := by decide +kernel
theorem dX6_mealsOf_5 : decode cX6_mealsOf 5 = .ok (.iload_n 1, 1) := by decide +kernel
theorem dX6_mealsOf_6 : decode cX6_mealsOf 6 = .ok (.if_icmp .ge 20, 3) := by decide +kernel
theorem dX6_mealsOf_9 : decode cX6_mealsOf 9 = .ok (.iload_n 2, 1) := by decide +kernel
theorem dX6_mealsOf_10 : decode cX6_mealsOf 10 = .ok (.aload_n 0, 1) := by decide +kernel
theorem dX6_mealsOf_11 : decode cX6_mealsOf 11 = .ok (.aload_n 0, 1) := by decide +kernel
theorem dX6_mealsOf_12 : decode cX6_mealsOf 12 = .ok (.invokevirtual 126, 3) := by decide +kernel
theorem dX6_mealsOf_15 : decode cX6_mealsOf 15 = .ok (.invokevirtual 129, 3) := by decide +kernel
theorem dX6_mealsOf_18 : decode cX6_mealsOf 18 = .ok (.iadd, 1) := by decide +kernel
theorem dX6_mealsOf_19 : decode cX6_mealsOf 19 = .ok (.istore_n 2, 1) := by decide +kernel
theorem dX6_mealsOf_20 : decode cX6_mealsOf 20 = .ok (.iinc 3 1, 3) := by decide +kernel
theorem dX6_mealsOf_23 : decode cX6_mealsOf 23 = .ok (.goto (-19), 3) := by decide +kernel
theorem dX6_mealsOf_26 : decode cX6_mealsOf 26 = .ok (.iload_n 2, 1) := by decide +kernel
theorem dX6_mealsOf_27 : decode cX6_mealsOf 27 = .ok (.ireturn, 1) := by decide +kernel
theorem dX6_meals_0 : decode cX6_meals 0 = .ok (.iload_n 1, 1) := by decide +kernel
theorem dX6_meals_1 : decode cX6_meals 1 = .ok (.i2l, 1) := by decide +kernel
theorem dX6_meals_2 : decode cX6_meals 2 = .ok (.lconst 1, 1) := by decide +kernel
theorem dX6_meals_3 : decode cX6_meals 3 = .ok (.ldc2_w 132, 3) := by decide +kernel
theorem dX6_meals_6 : decode cX6_meals 6 = .ok (.invokestatic 42, 3) := by decide +kernel
theorem dX6_meals_9 : decode cX6_meals 9 = .ok (.ifCond .ne 10, 3) := by decide +kernel
theorem dX6_meals_12 : decode cX6_meals 12 = .ok (.aload_n 0, 1) := by decide +kernel
theorem dX6_meals_13 : decode cX6_meals 13 = .ok (.ldc 34, 2) := by decide +kernel
theorem dX6_meals_15 : decode cX6_meals 15 = .ok (.invokevirtual 36, 3) := by decide +kernel
theorem dX6_meals_18 : decode cX6_meals 18 = .ok (.ireturn, 1) := by decide +kernel
theorem dX6_meals_19 : decode cX6_meals 19 = .ok (.aload_n 0, 1) := by decide +kernel
theorem dX6_meals_20 : decode cX6_meals 20 = .ok (.getfield 9, 3) := by decide +kernel
theorem dX6_meals_23 : decode cX6_meals 23 = .ok (.iconst 0, 1) := by decide +kernel
theorem dX6_meals_24 : decode cX6_meals 24 = .ok (.iaload, 1) := by decide +kernel
theorem dX6_meals_25 : decode cX6_meals 25 = .ok (.iload_n 1, 1) := by decide +kernel
theorem dX6_meals_26 : decode cX6_meals 26 = .ok (.iadd, 1) := by decide +kernel
theorem dX6_meals_27 : decode cX6_meals 27 = .ok (.ldc 134, 2) := by decide +kernel
theorem dX6_meals_29 : decode cX6_meals 29 = .ok (.if_icmp .le 12, 3) := by decide +kernel
theorem dX6_meals_32 : decode cX6_meals 32 = .ok (.aload_n 0, 1) := by decide +kernel
theorem dX6_meals_33 : decode cX6_meals 33 = .ok (.ldc 135, 2) := by decide +kernel
theorem dX6_meals_35 : decode cX6_meals 35 = .ok (.invokevirtual 36, 3) := by decide +kernel
theorem dX6_meals_38 : decode cX6_meals 38 = .ok (.goto 8, 3) := by decide +kernel
theorem dX6_meals_41 : decode cX6_meals 41 = .ok (.aload_n 0, 1) := by decide +kernel
theorem dX6_meals_42 : decode cX6_meals 42 = .ok (.iload_n 1, 1) := by decide +kernel
theorem dX6_meals_43 : decode cX6_meals 43 = .ok (.invokevirtual 136, 3) := by decide +kernel
theorem dX6_meals_46 : decode cX6_meals 46 = .ok (.ireturn, 1) := by decide +kernel
theorem dX6_week_0 : decode cX6_week 0 = .ok (.iconst 0, 1) := by decide +kernel
theorem dX6_week_1 : decode cX6_week 1 = .ok (.istore_n 1, 1) := by decide +kernel
theorem dX6_week_2 : decode cX6_week 2 = .ok (.iconst 0, 1) := by decide +kernel
theorem dX6_week_3 : decode cX6_week 3 = .ok (.istore_n 2, 1) := by decide +kernel
theorem dX6_week_4 : decode cX6_week 4 = .ok (.iload_n 2, 1) := by decide +kernel
theorem dX6_week_5 : decode cX6_week 5 = .ok (.aload_n 0, 1) := by decide +kernel
theorem dX6_week_6 : decode cX6_week 6 = .ok (.getfield 9, 3) := by decide +kernel
theorem dX6_week_9 : decode cX6_week 9 = .ok (.bipush 9, 2) := by decide +kernel
theorem dX6_week_11 : decode cX6_week 11 = .ok (.iaload, 1) := by decide +kernel
theorem dX6_week_12 : decode cX6_week 12 = .ok (.if_icmp .ge 21, 3) := by decide +kernel
theorem dX6_week_15 : decode cX6_week 15 = .ok (.iload_n 1, 1) := by decide +kernel
theorem dX6_week_16 : decode cX6_week 16 = .ok (.aload_n 0, 1) := by decide +kernel
theorem dX6_week_17 : decode cX6_week 17 = .ok (.getfield 9, 3) := by decide +kernel
theorem dX6_week_20 : decode cX6_week 20 = .ok (.bipush 80, 2) := by decide +kernel
theorem dX6_week_22 : decode cX6_week 22 = .ok (.iload_n 2, 1) := by decide +kernel
theorem dX6_week_23 : decode cX6_week 23 = .ok (.iadd, 1) := by decide +kernel
theorem dX6_week_24 : decode cX6_week 24 = .ok (.iaload, 1) := by decide +kernel
theorem dX6_week_25 : decode cX6_week 25 = .ok (.iadd, 1) := by decide +kernel
theorem dX6_week_26 : decode cX6_week 26 = .ok (.istore_n 1, 1) := by decide +kernel
theorem dX6_week_27 : decode cX6_week 27 = .ok (.iinc 2 1, 3) := by decide +kernel
theorem dX6_week_30 : decode cX6_week 30 = .ok (.goto (-26), 3) := by decide +kernel
theorem dX6_week_33 : decode cX6_week 33 = .ok (.iload_n 1, 1) := by decide +kernel
theorem dX6_week_34 : decode cX6_week 34 = .ok (.ireturn, 1) := by decide +kernel
theorem dX6_isShort_0 : decode cX6_isShort 0 = .ok (.aload_n 0, 1) := by decide +kernel
theorem dX6_isShort_1 : decode cX6_isShort 1 = .ok (.getfield 9, 3) := by decide +kernel
theorem dX6_isShort_4 : decode cX6_isShort 4 = .ok (.bipush 9, 2) := by decide +kernel
theorem dX6_isShort_6 : decode cX6_isShort 6 = .ok (.iaload, 1) := by decide +kernel
theorem dX6_isShort_7 : decode cX6_isShort 7 = .ok (.bipush 35, 2) := by decide +kernel
theorem dX6_isShort_9 : decode cX6_isShort 9 = .ok (.if_icmp .ne 16, 3) := by decide +kernel
theorem dX6_isShort_12 : decode cX6_isShort 12 = .ok (.aload_n 0, 1) := by decide +kernel
theorem dX6_isShort_13 : decode cX6_isShort 13 = .ok (.invokevirtual 139, 3) := by decide +kernel
theorem dX6_isShort_16 : decode cX6_isShort 16 = .ok (.bipush 100, 2) := by decide +kernel
theorem dX6_isShort_18 : decode cX6_isShort 18 = .ok (.if_icmp .ge 7, 3) := by decide +kernel
theorem dX6_isShort_21 : decode cX6_isShort 21 = .ok (.iconst 1, 1) := by decide +kernel
theorem dX6_isShort_22 : decode cX6_isShort 22 = .ok (.goto 4, 3) := by decide +kernel
theorem dX6_isShort_25 : decode cX6_isShort 25 = .ok (.iconst 0, 1) := by decide +kernel
theorem dX6_isShort_26 : decode cX6_isShort 26 = .ok (.ireturn, 1) := by decide +kernel
theorem dX6_now_0 : decode cX6_now 0 = .ok (.iload_n 1, 1) := by decide +kernel
theorem dX6_now_1 : decode cX6_now 1 = .ok (.i2l, 1) := by decide +kernel
theorem dX6_now_2 : decode cX6_now 2 = .ok (.lconst 0, 1) := by decide +kernel
theorem dX6_now_3 : decode cX6_now 3 = .ok (.ldc2_w 142, 3) := by decide +kernel
theorem dX6_now_6 : decode cX6_now 6 = .ok (.invokestatic 42, 3) := by decide +kernel
theorem dX6_now_9 : decode cX6_now 9 = .ok (.ifCond .ne 10, 3) := by decide +kernel
theorem dX6_now_12 : decode cX6_now 12 = .ok (.aload_n 0, 1) := by decide +kernel
theorem dX6_now_13 : decode cX6_now 13 = .ok (.ldc 34, 2) := by decide +kernel
theorem dX6_now_15 : decode cX6_now 15 = .ok (.invokevirtual 36, 3) := by decide +kernel
theorem dX6_now_18 : decode cX6_now 18 = .ok (.ireturn, 1) := by decide +kernel
theorem dX6_now_19 : decode cX6_now 19 = .ok (.iload_n 1, 1) := by decide +kernel
theorem dX6_now_20 : decode cX6_now 20 = .ok (.tableswitch 102 0 10 #[60, 67, 102, 102, 102, 102, 102, 102, 76, 81, 89], 60) := by decide +kernel
theorem dX6_now_80 : decode cX6_now 80 = .ok (.aload_n 0, 1) := by decide +kernel
theorem dX6_now_81 : decode cX6_now 81 = .ok (.getfield 9, 3) := by decide +kernel
theorem dX6_now_84 : decode cX6_now 84 = .ok (.iconst 0, 1) := by decide +kernel
theorem dX6_now_85 : decode cX6_now 85 = .ok (.iaload, 1) := by decide +kernel
theorem dX6_now_86 : decode cX6_now 86 = .ok (.ireturn, 1) := by decide +kernel
theorem dX6_now_87 : decode cX6_now 87 = .ok (.aload_n 0, 1) := by decide +kernel
theorem dX6_now_88 : decode cX6_now 88 = .ok (.getfield 9, 3) := by decide +kernel
theorem dX6_now_91 : decode cX6_now 91 = .ok (.iconst 0, 1) := by decide +kernel
theorem dX6_now_92 : decode cX6_now 92 = .ok (.iaload, 1) := by decide +kernel
theorem dX6_now_93 : decode cX6_now 93 = .ok (.iconst 5, 1) := by decide +kernel
theorem dX6_now_94 : decode cX6_now 94 = .ok (.idiv, 1) := by decide +kernel
theorem dX6_now_95 : decode cX6_now 95 = .ok (.ireturn, 1) := by decide +kernel
theorem dX6_now_96 : decode cX6_now 96 = .ok (.aload_n 0, 1) := by decide +kernel
theorem dX6_now_97 : decode cX6_now 97 = .ok (.invokevirtual 139, 3) := by decide +kernel
theorem dX6_now_100 : decode cX6_now 100 = .ok (.ireturn, 1) := by decide +kernel
theorem dX6_now_101 : decode cX6_now 101 = .ok (.aload_n 0, 1) := by decide +kernel
theorem dX6_now_102 : decode cX6_now 102 = .ok (.getfield 9, 3) := by decide +kernel
theorem dX6_now_105 : decode cX6_now 105 = .ok (.bipush 9, 2) := by decide +kernel
theorem dX6_now_107 : decode cX6_now 107 = .ok (.iaload, 1) := by decide +kernel
theorem dX6_now_108 : decode cX6_now 108 = .ok (.ireturn, 1) := by decide +kernel
theorem dX6_now_109 : decode cX6_now 109 = .ok (.aload_n 0, 1) := by decide +kernel
theorem dX6_now_110 : decode cX6_now 110 = .ok (.invokevirtual 144, 3) := by decide +kernel
theorem dX6_now_113 : decode cX6_now 113 = .ok (.ifCond .eq 7, 3) := by decide +kernel
theorem dX6_now_116 : decode cX6_now 116 = .ok (.iconst 1, 1) := by decide +kernel
theorem dX6_now_117 : decode cX6_now 117 = .ok (.goto 4, 3) := by decide +kernel
theorem dX6_now_120 : decode cX6_now 120 = .ok (.iconst 0, 1) := by decide +kernel
theorem dX6_now_121 : decode cX6_now 121 = .ok (.ireturn, 1) := by decide +kernel
theorem dX6_now_122 : decode cX6_now 122 = .ok (.aload_n 0, 1) := by decide +kernel
theorem dX6_now_123 : decode cX6_now 123 = .ok (.getfield 9, 3) := by decide +kernel
theorem dX6_now_126 : decode cX6_now 126 = .ok (.iload_n 1, 1) := by decide +kernel
theorem dX6_now_127 : decode cX6_now 127 = .ok (.iaload, 1) := by decide +kernel
theorem dX6_now_128 : decode cX6_now 128 = .ok (.ireturn, 1) := by decide +kernel
theorem dX6_book_0 : decode cX6_book 0 = .ok (.iload_n 1, 1) := by decide +kernel
theorem dX6_book_1 : decode cX6_book 1 = .ok (.i2l, 1) := by decide +kernel
theorem dX6_book_2 : decode cX6_book 2 = .ok (.lconst 0, 1) := by decide +kernel
theorem dX6_book_3 : decode cX6_book 3 = .ok (.aload_n 0, 1) := by decide +kernel
theorem dX6_book_4 : decode cX6_book 4 = .ok (.getfield 9, 3) := by decide +kernel
theorem dX6_book_7 : decode cX6_book 7 = .ok (.bipush 9, 2) := by decide +kernel
theorem dX6_book_9 : decode cX6_book 9 = .ok (.iaload, 1) := by decide +kernel
theorem dX6_book_10 : decode cX6_book 10 = .ok (.iconst 1, 1) := by decide +kernel
theorem dX6_book_11 : decode cX6_book 11 = .ok (.isub, 1) := by decide +kernel
theorem dX6_book_12 : decode cX6_book 12 = .ok (.i2l, 1) := by decide +kernel
theorem dX6_book_13 : decode cX6_book 13 = .ok (.invokestatic 42, 3) := by decide +kernel
theorem dX6_book_16 : decode cX6_book 16 = .ok (.ifCond .eq 15, 3) := by decide +kernel
theorem dX6_book_19 : decode cX6_book 19 = .ok (.aload_n 0, 1) := by decide +kernel
theorem dX6_book_20 : decode cX6_book 20 = .ok (.getfield 9, 3) := by decide +kernel
theorem dX6_book_23 : decode cX6_book 23 = .ok (.bipush 80, 2) := by decide +kernel
theorem dX6_book_25 : decode cX6_book 25 = .ok (.iload_n 1, 1) := by decide +kernel
theorem dX6_book_26 : decode cX6_book 26 = .ok (.iadd, 1) := by decide +kernel
theorem dX6_book_27 : decode cX6_book 27 = .ok (.iaload, 1) := by decide +kernel
theorem dX6_book_28 : decode cX6_book 28 = .ok (.goto 9, 3) := by decide +kernel
theorem dX6_book_31 : decode cX6_book 31 = .ok (.aload_n 0, 1) := by decide +kernel
theorem dX6_book_32 : decode cX6_book 32 = .ok (.ldc 34, 2) := by decide +kernel
theorem dX6_book_34 : decode cX6_book 34 = .ok (.invokevirtual 36, 3) := by decide +kernel
theorem dX6_book_37 : decode cX6_book 37 = .ok (.ireturn, 1) := by decide +kernel
theorem dX6_day_0 : decode cX6_day 0 = .ok (.iload_n 1, 1) := by decide +kernel
theorem dX6_day_1 : decode cX6_day 1 = .ok (.i2l, 1) := by decide +kernel
theorem dX6_day_2 : decode cX6_day 2 = .ok (.lconst 0, 1) := by decide +kernel
theorem dX6_day_3 : decode cX6_day 3 = .ok (.ldc2_w 148, 3) := by decide +kernel
theorem dX6_day_6 : decode cX6_day 6 = .ok (.invokestatic 42, 3) := by decide +kernel
theorem dX6_day_9 : decode cX6_day 9 = .ok (.ifCond .ne 10, 3) := by decide +kernel
theorem dX6_day_12 : decode cX6_day 12 = .ok (.aload_n 0, 1) := by decide +kernel
theorem dX6_day_13 : decode cX6_day 13 = .ok (.ldc 34, 2) := by decide +kernel
theorem dX6_day_15 : decode cX6_day 15 = .ok (.invokevirtual 36, 3) := by decide +kernel
theorem dX6_day_18 : decode cX6_day 18 = .ok (.ireturn, 1) := by decide +kernel
theorem dX6_day_19 : decode cX6_day 19 = .ok (.aload_n 0, 1) := by decide +kernel
theorem dX6_day_20 : decode cX6_day 20 = .ok (.getfield 9, 3) := by decide +kernel
theorem dX6_day_23 : decode cX6_day 23 = .ok (.bipush 9, 2) := by decide +kernel
theorem dX6_day_25 : decode cX6_day 25 = .ok (.iaload, 1) := by decide +kernel
theorem dX6_day_26 : decode cX6_day 26 = .ok (.ifCond .ne 10, 3) := by decide +kernel
theorem dX6_day_29 : decode cX6_day 29 = .ok (.aload_n 0, 1) := by decide +kernel
theorem dX6_day_30 : decode cX6_day 30 = .ok (.ldc 35, 2) := by decide +kernel
theorem dX6_day_32 : decode cX6_day 32 = .ok (.invokevirtual 36, 3) := by decide +kernel
theorem dX6_day_35 : decode cX6_day 35 = .ok (.ireturn, 1) := by decide +kernel
theorem dX6_day_36 : decode cX6_day 36 = .ok (.aload_n 0, 1) := by decide +kernel
theorem dX6_day_37 : decode cX6_day 37 = .ok (.getfield 9, 3) := by decide +kernel
theorem dX6_day_40 : decode cX6_day 40 = .ok (.iconst 0, 1) := by decide +kernel
theorem dX6_day_41 : decode cX6_day 41 = .ok (.iaload, 1) := by decide +kernel
theorem dX6_day_42 : decode cX6_day 42 = .ok (.iconst 1, 1) := by decide +kernel
theorem dX6_day_43 : decode cX6_day 43 = .ok (.isub, 1) := by decide +kernel
theorem dX6_day_44 : decode cX6_day 44 = .ok (.istore_n 2, 1) := by decide +kernel
theorem dX6_day_45 : decode cX6_day 45 = .ok (.iconst 0, 1) := by decide +kernel
theorem dX6_day_46 : decode cX6_day 46 = .ok (.istore_n 3, 1) := by decide +kernel
theorem dX6_day_47 : decode cX6_day 47 = .ok (.iconst 0, 1) := by decide +kernel
theorem dX6_day_48 : decode cX6_day 48 = .ok (.istore 4, 2) := by decide +kernel
theorem dX6_day_50 : decode cX6_day 50 = .ok (.iload 4, 2) := by decide +kernel
theorem dX6_day_52 : decode cX6_day 52 = .ok (.aload_n 0, 1) := by decide +kernel
theorem dX6_day_53 : decode cX6_day 53 = .ok (.getfield 9, 3) := by decide +kernel
theorem dX6_day_56 : decode cX6_day 56 = .ok (.bipush 9, 2) := by decide +kernel
theorem dX6_day_58 : decode cX6_day 58 = .ok (.iaload, 1) := by decide +kernel
theorem dX6_day_59 : decode cX6_day 59 = .ok (.if_icmp .ge 40, 3) := by decide +kernel
theorem dX6_day_62 : decode cX6_day 62 = .ok (.iload_n 3, 1) := by decide +kernel
theorem dX6_day_63 : decode cX6_day 63 = .ok (.iload_n 2, 1) := by decide +kernel
theorem dX6_day_64 : decode cX6_day 64 = .ok (.iload 4, 2) := by decide +kernel
theorem dX6_day_66 : decode cX6_day 66 = .ok (.isub, 1) := by decide +kernel
theorem dX6_day_67 : decode cX6_day 67 = .ok (.iconst 5, 1) := by decide +kernel
theorem dX6_day_68 : decode cX6_day 68 = .ok (.idiv, 1) := by decide +kernel
theorem dX6_day_69 : decode cX6_day 69 = .ok (.iload_n 2, 1) := by decide +kernel
theorem dX6_day_70 : decode cX6_day 70 = .ok (.iconst 5, 1) := by decide +kernel
theorem dX6_day_71 : decode cX6_day 71 = .ok (.idiv, 1) := by decide +kernel
theorem dX6_day_72 : decode cX6_day 72 = .ok (.iload_n 1, 1) := by decide +kernel
theorem dX6_day_73 : decode cX6_day 73 = .ok (.isub, 1) := by decide +kernel
theorem dX6_day_74 : decode cX6_day 74 = .ok (.if_icmp .ne 16, 3) := by decide +kernel
theorem dX6_day_77 : decode cX6_day 77 = .ok (.aload_n 0, 1) := by decide +kernel
theorem dX6_day_78 : decode cX6_day 78 = .ok (.getfield 9, 3) := by decide +kernel
theorem dX6_day_81 : decode cX6_day 81 = .ok (.bipush 80, 2) := by decide +kernel
theorem dX6_day_83 : decode cX6_day 83 = .ok (.iload 4, 2) := by decide +kernel
theorem dX6_day_85 : decode cX6_day 85 = .ok (.iadd, 1) := by decide +kernel
theorem dX6_day_86 : decode cX6_day 86 = .ok (.iaload, 1) := by decide +kernel
theorem dX6_day_87 : decode cX6_day 87 = .ok (.goto 4, 3) := by decide +kernel
theorem dX6_day_90 : decode cX6_day 90 = .ok (.iconst 0, 1) := by decide +kernel
theorem dX6_day_91 : decode cX6_day 91 = .ok (.iadd, 1) := by decide +kernel
theorem dX6_day_92 : decode cX6_day 92 = .ok (.istore_n 3, 1) := by decide +kernel
theorem dX6_day_93 : decode cX6_day 93 = .ok (.iinc 4 1, 3) := by decide +kernel
theorem dX6_day_96 : decode cX6_day 96 = .ok (.goto (-46), 3) := by decide +kernel
theorem dX6_day_99 : decode cX6_day 99 = .ok (.iload_n 3, 1) := by decide +kernel
theorem dX6_day_100 : decode cX6_day 100 = .ok (.ireturn, 1) := by decide +kernel
theorem dX6_spread_0 : decode cX6_spread 0 = .ok (.aload_n 0, 1) := by decide +kernel
theorem dX6_spread_1 : decode cX6_spread 1 = .ok (.getfield 9, 3) := by decide +kernel
theorem dX6_spread_4 : decode cX6_spread 4 = .ok (.bipush 9, 2) := by decide +kernel
theorem dX6_spread_6 : decode cX6_spread 6 = .ok (.iaload, 1) := by decide +kernel
theorem dX6_spread_7 : decode cX6_spread 7 = .ok (.ifCond .ne 10, 3) := by decide +kernel
theorem dX6_spread_10 : decode cX6_spread 10 = .ok (.aload_n 0, 1) := by decide +kernel
theorem dX6_spread_11 : decode cX6_spread 11 = .ok (.ldc 35, 2) := by decide +kernel
theorem dX6_spread_13 : decode cX6_spread 13 = .ok (.invokevirtual 36, 3) := by decide +kernel
theorem dX6_spread_16 : decode cX6_spread 16 = .ok (.ireturn, 1) := by decide +kernel
theorem dX6_spread_17 : decode cX6_spread 17 = .ok (.aload_n 0, 1) := by decide +kernel
theorem dX6_spread_18 : decode cX6_spread 18 = .ok (.getfield 9, 3) := by decide +kernel
theorem dX6_spread_21 : decode cX6_spread 21 = .ok (.bipush 80, 2) := by decide +kernel
theorem dX6_spread_23 : decode cX6_spread 23 = .ok (.iaload, 1) := by decide +kernel
theorem dX6_spread_24 : decode cX6_spread 24 = .ok (.istore_n 1, 1) := by decide +kernel
theorem dX6_spread_25 : decode cX6_spread 25 = .ok (.aload_n 0, 1) := by decide +kernel
theorem dX6_spread_26 : decode cX6_spread 26 = .ok (.getfield 9, 3) := by decide +kernel
theorem dX6_spread_29 : decode cX6_spread 29 = .ok (.bipush 80, 2) := by decide +kernel
theorem dX6_spread_31 : decode cX6_spread 31 = .ok (.iaload, 1) := by decide +kernel
theorem dX6_spread_32 : decode cX6_spread 32 = .ok (.istore_n 2, 1) := by decide +kernel
theorem dX6_spread_33 : decode cX6_spread 33 = .ok (.iconst 1, 1) := by decide +kernel
theorem dX6_spread_34 : decode cX6_spread 34 = .ok (.istore_n 3, 1) := by decide +kernel
theorem dX6_spread_35 : decode cX6_spread 35 = .ok (.iload_n 3, 1) := by decide +kernel
theorem dX6_spread_36 : decode cX6_spread 36 = .ok (.aload_n 0, 1) := by decide +kernel
theorem dX6_spread_37 : decode cX6_spread 37 = .ok (.getfield 9, 3) := by decide +kernel
theorem dX6_spread_40 : decode cX6_spread 40 = .ok (.bipush 9, 2) := by decide +kernel
theorem dX6_spread_42 : decode cX6_spread 42 = .ok (.iaload, 1) := by decide +kernel
theorem dX6_spread_43 : decode cX6_spread 43 = .ok (.if_icmp .ge 63, 3) := by decide +kernel
theorem dX6_spread_46 : decode cX6_spread 46 = .ok (.aload_n 0, 1) := by decide +kernel
theorem dX6_spread_47 : decode cX6_spread 47 = .ok (.getfield 9, 3) := by decide +kernel
theorem dX6_spread_50 : decode cX6_spread 50 = .ok (.bipush 80, 2) := by decide +kernel
theorem dX6_spread_52 : decode cX6_spread 52 = .ok (.iload_n 3, 1) := by decide +kernel
theorem dX6_spread_53 : decode cX6_spread 53 = .ok (.iadd, 1) := by decide +kernel
theorem dX6_spread_54 : decode cX6_spread 54 = .ok (.iaload, 1) := by decide +kernel
theorem dX6_spread_55 : decode cX6_spread 55 = .ok (.iload_n 1, 1) := by decide +kernel
theorem dX6_spread_56 : decode cX6_spread 56 = .ok (.if_icmp .ge 15, 3) := by decide +kernel
theorem dX6_spread_59 : decode cX6_spread 59 = .ok (.aload_n 0, 1) := by decide +kernel
theorem dX6_spread_60 : decode cX6_spread 60 = .ok (.getfield 9, 3) := by decide +kernel
theorem dX6_spread_63 : decode cX6_spread 63 = .ok (.bipush 80, 2) := by decide +kernel
theorem dX6_spread_65 : decode cX6_spread 65 = .ok (.iload_n 3, 1) := by decide +kernel
theorem dX6_spread_66 : decode cX6_spread 66 = .ok (.iadd, 1) := by decide +kernel
theorem dX6_spread_67 : decode cX6_spread 67 = .ok (.iaload, 1) := by decide +kernel
theorem dX6_spread_68 : decode cX6_spread 68 = .ok (.goto 4, 3) := by decide +kernel
theorem dX6_spread_71 : decode cX6_spread 71 = .ok (.iload_n 1, 1) := by decide +kernel
theorem dX6_spread_72 : decode cX6_spread 72 = .ok (.istore_n 1, 1) := by decide +kernel
theorem dX6_spread_73 : decode cX6_spread 73 = .ok (.aload_n 0, 1) := by decide +kernel
theorem dX6_spread_74 : decode cX6_spread 74 = .ok (.getfield 9, 3) := by decide +kernel
theorem dX6_spread_77 : decode cX6_spread 77 = .ok (.bipush 80, 2) := by decide +kernel
theorem dX6_spread_79 : decode cX6_spread 79 = .ok (.iload_n 3, 1) := by decide +kernel
theorem dX6_spread_80 : decode cX6_spread 80 = .ok (.iadd, 1) := by decide +kernel
theorem dX6_spread_81 : decode cX6_spread 81 = .ok (.iaload, 1) := by decide +kernel
theorem dX6_spread_82 : decode cX6_spread 82 = .ok (.iload_n 2, 1) := by decide +kernel
theorem dX6_spread_83 : decode cX6_spread 83 = .ok (.if_icmp .le 15, 3) := by decide +kernel
theorem dX6_spread_86 : decode cX6_spread 86 = .ok (.aload_n 0, 1) := by decide +kernel
theorem dX6_spread_87 : decode cX6_spread 87 = .ok (.getfield 9, 3) := by decide +kernel
theorem dX6_spread_90 : decode cX6_spread 90 = .ok (.bipush 80, 2) := by decide +kernel
theorem dX6_spread_92 : decode cX6_spread 92 = .ok (.iload_n 3, 1) := by decide +kernel
theorem dX6_spread_93 : decode cX6_spread 93 = .ok (.iadd, 1) := by decide +kernel
theorem dX6_spread_94 : decode cX6_spread 94 = .ok (.iaload, 1) := by decide +kernel
theorem dX6_spread_95 : decode cX6_spread 95 = .ok (.goto 4, 3) := by decide +kernel
theorem dX6_spread_98 : decode cX6_spread 98 = .ok (.iload_n 2, 1) := by decide +kernel
theorem dX6_spread_99 : decode cX6_spread 99 = .ok (.istore_n 2, 1) := by decide +kernel
theorem dX6_spread_100 : decode cX6_spread 100 = .ok (.iinc 3 1, 3) := by decide +kernel
theorem dX6_spread_103 : decode cX6_spread 103 = .ok (.goto (-68), 3) := by decide +kernel
theorem dX6_spread_106 : decode cX6_spread 106 = .ok (.iload_n 2, 1) := by decide +kernel
theorem dX6_spread_107 : decode cX6_spread 107 = .ok (.iload_n 1, 1) := by decide +kernel
theorem dX6_spread_108 : decode cX6_spread 108 = .ok (.isub, 1) := by decide +kernel
theorem dX6_spread_109 : decode cX6_spread 109 = .ok (.ireturn, 1) := by decide +kernel
theorem dX6_wrongMeals_0 : decode cX6_wrongMeals 0 = .ok (.iload 4, 2) := by decide +kernel
theorem dX6_wrongMeals_2 : decode cX6_wrongMeals 2 = .ok (.ifCond .eq 15, 3) := by decide +kernel
theorem dX6_wrongMeals_5 : decode cX6_wrongMeals 5 = .ok (.iload_n 1, 1) := by decide +kernel
theorem dX6_wrongMeals_6 : decode cX6_wrongMeals 6 = .ok (.i2l, 1) := by decide +kernel
theorem dX6_wrongMeals_7 : decode cX6_wrongMeals 7 = .ok (.iload_n 2, 1) := by decide +kernel
theorem dX6_wrongMeals_8 : decode cX6_wrongMeals 8 = .ok (.i2l, 1) := by decide +kernel
theorem dX6_wrongMeals_9 : decode cX6_wrongMeals 9 = .ok (.iload_n 3, 1) := by decide +kernel
theorem dX6_wrongMeals_10 : decode cX6_wrongMeals 10 = .ok (.i2l, 1) := by decide +kernel
theorem dX6_wrongMeals_11 : decode cX6_wrongMeals 11 = .ok (.invokestatic 42, 3) := by decide +kernel
theorem dX6_wrongMeals_14 : decode cX6_wrongMeals 14 = .ok (.ifCond .ne 8, 3) := by decide +kernel
theorem dX6_wrongMeals_17 : decode cX6_wrongMeals 17 = .ok (.ldc 34, 2) := by decide +kernel
theorem dX6_wrongMeals_19 : decode cX6_wrongMeals 19 = .ok (.goto 22, 3) := by decide +kernel
theorem dX6_wrongMeals_22 : decode cX6_wrongMeals 22 = .ok (.aload_n 0, 1) := by decide +kernel
theorem dX6_wrongMeals_23 : decode cX6_wrongMeals 23 = .ok (.getfield 9, 3) := by decide +kernel
theorem dX6_wrongMeals_26 : decode cX6_wrongMeals 26 = .ok (.iconst 0, 1) := by decide +kernel
theorem dX6_wrongMeals_27 : decode cX6_wrongMeals 27 = .ok (.iaload, 1) := by decide +kernel
theorem dX6_wrongMeals_28 : decode cX6_wrongMeals 28 = .ok (.iload_n 1, 1) := by decide +kernel
theorem dX6_wrongMeals_29 : decode cX6_wrongMeals 29 = .ok (.iadd, 1) := by decide +kernel
theorem dX6_wrongMeals_30 : decode cX6_wrongMeals 30 = .ok (.ldc 134, 2) := by decide +kernel
theorem dX6_wrongMeals_32 : decode cX6_wrongMeals 32 = .ok (.if_icmp .le 8, 3) := by decide +kernel
theorem dX6_wrongMeals_35 : decode cX6_wrongMeals 35 = .ok (.ldc 135, 2) := by decide +kernel
theorem dX6_wrongMeals_37 : decode cX6_wrongMeals 37 = .ok (.goto 4, 3) := by decide +kernel
theorem dX6_wrongMeals_40 : decode cX6_wrongMeals 40 = .ok (.iconst 0, 1) := by decide +kernel
theorem dX6_wrongMeals_41 : decode cX6_wrongMeals 41 = .ok (.ireturn, 1) := by decide +kernel
theorem dX6_ahead_0 : decode cX6_ahead 0 = .ok (.aload_n 0, 1) := by decide +kernel
theorem dX6_ahead_1 : decode cX6_ahead 1 = .ok (.iload_n 1, 1) := by decide +kernel
theorem dX6_ahead_2 : decode cX6_ahead 2 = .ok (.iconst 0, 1) := by decide +kernel
theorem dX6_ahead_3 : decode cX6_ahead 3 = .ok (.sipush 350, 3) := by decide +kernel
theorem dX6_ahead_6 : decode cX6_ahead 6 = .ok (.iload_n 2, 1) := by decide +kernel
theorem dX6_ahead_7 : decode cX6_ahead 7 = .ok (.i2l, 1) := by decide +kernel
theorem dX6_ahead_8 : decode cX6_ahead 8 = .ok (.lconst 0, 1) := by decide +kernel
theorem dX6_ahead_9 : decode cX6_ahead 9 = .ok (.ldc2_w 150, 3) := by decide +kernel
theorem dX6_ahead_12 : decode cX6_ahead 12 = .ok (.invokestatic 42, 3) := by decide +kernel
theorem dX6_ahead_15 : decode cX6_ahead 15 = .ok (.invokevirtual 152, 3) := by decide +kernel
theorem dX6_ahead_18 : decode cX6_ahead 18 = .ok (.istore_n 3, 1) := by decide +kernel
theorem dX6_ahead_19 : decode cX6_ahead 19 = .ok (.iload_n 3, 1) := by decide +kernel
theorem dX6_ahead_20 : decode cX6_ahead 20 = .ok (.ifCond .ge 9, 3) := by decide +kernel
theorem dX6_ahead_23 : decode cX6_ahead 23 = .ok (.aload_n 0, 1) := by decide +kernel
theorem dX6_ahead_24 : decode cX6_ahead 24 = .ok (.iload_n 3, 1) := by decide +kernel
theorem dX6_ahead_25 : decode cX6_ahead 25 = .ok (.invokevirtual 36, 3) := by decide +kernel
theorem dX6_ahead_28 : decode cX6_ahead 28 = .ok (.ireturn, 1) := by decide +kernel
theorem dX6_ahead_29 : decode cX6_ahead 29 = .ok (.aload_n 0, 1) := by decide +kernel
theorem dX6_ahead_30 : decode cX6_ahead 30 = .ok (.getfield 9, 3) := by decide +kernel
theorem dX6_ahead_33 : decode cX6_ahead 33 = .ok (.aload_n 0, 1) := by decide +kernel
theorem dX6_ahead_34 : decode cX6_ahead 34 = .ok (.getfield 16, 3) := by decide +kernel
theorem dX6_ahead_37 : decode cX6_ahead 37 = .ok (.invokestatic 156, 3) := by decide +kernel
theorem dX6_ahead_40 : decode cX6_ahead 40 = .ok (.aload_n 0, 1) := by decide +kernel
theorem dX6_ahead_41 : decode cX6_ahead 41 = .ok (.iload_n 1, 1) := by decide +kernel
theorem dX6_ahead_42 : decode cX6_ahead 42 = .ok (.invokevirtual 136, 3) := by decide +kernel
theorem dX6_ahead_45 : decode cX6_ahead 45 = .ok (.istore 4, 2) := by decide +kernel
theorem dX6_ahead_47 : decode cX6_ahead 47 = .ok (.iload_n 2, 1) := by decide +kernel
theorem dX6_ahead_48 : decode cX6_ahead 48 = .ok (.ifCond .ne 8, 3) := by decide +kernel
theorem dX6_ahead_51 : decode cX6_ahead 51 = .ok (.iload 4, 2) := by decide +kernel
theorem dX6_ahead_53 : decode cX6_ahead 53 = .ok (.goto 50, 3) := by decide +kernel
theorem dX6_ahead_56 : decode cX6_ahead 56 = .ok (.iload_n 2, 1) := by decide +kernel
theorem dX6_ahead_57 : decode cX6_ahead 57 = .ok (.iconst 1, 1) := by decide +kernel
theorem dX6_ahead_58 : decode cX6_ahead 58 = .ok (.if_icmp .ne 10, 3) := by decide +kernel
theorem dX6_ahead_61 : decode cX6_ahead 61 = .ok (.aload_n 0, 1) := by decide +kernel
theorem dX6_ahead_62 : decode cX6_ahead 62 = .ok (.invokevirtual 160, 3) := by decide +kernel
theorem dX6_ahead_65 : decode cX6_ahead 65 = .ok (.goto 38, 3) := by decide +kernel
theorem dX6_ahead_68 : decode cX6_ahead 68 = .ok (.iload_n 2, 1) := by decide +kernel
theorem dX6_ahead_69 : decode cX6_ahead 69 = .ok (.iconst 2, 1) := by decide +kernel
theorem dX6_ahead_70 : decode cX6_ahead 70 = .ok (.if_icmp .ne 12, 3) := by decide +kernel
theorem dX6_ahead_73 : decode cX6_ahead 73 = .ok (.aload_n 0, 1) := by decide +kernel
theorem dX6_ahead_74 : decode cX6_ahead 74 = .ok (.getfield 9, 3) := by decide +kernel
theorem dX6_ahead_77 : decode cX6_ahead 77 = .ok (.iconst 4, 1) := by decide +kernel
theorem dX6_ahead_78 : decode cX6_ahead 78 = .ok (.iaload, 1) := by decide +kernel
theorem dX6_ahead_79 : decode cX6_ahead 79 = .ok (.goto 24, 3) := by decide +kernel
theorem dX6_ahead_82 : decode cX6_ahead 82 = .ok (.iload_n 2, 1) := by decide +kernel
theorem dX6_ahead_83 : decode cX6_ahead 83 = .ok (.iconst 3, 1) := by decide +kernel
theorem dX6_ahead_84 : decode cX6_ahead 84 = .ok (.if_icmp .ne 12, 3) := by decide +kernel
theorem dX6_ahead_87 : decode cX6_ahead 87 = .ok (.aload_n 0, 1) := by decide +kernel
theorem dX6_ahead_88 : decode cX6_ahead 88 = .ok (.getfield 9, 3) := by decide +kernel
theorem dX6_ahead_91 : decode cX6_ahead 91 = .ok (.iconst 3, 1) := by decide +kernel
theorem dX6_ahead_92 : decode cX6_ahead 92 = .ok (.iaload, 1) := by decide +kernel
theorem dX6_ahead_93 : decode cX6_ahead 93 = .ok (.goto 10, 3) := by decide +kernel
theorem dX6_ahead_96 : decode cX6_ahead 96 = .ok (.aload_n 0, 1) := by decide +kernel
theorem dX6_ahead_97 : decode cX6_ahead 97 = .ok (.iload_n 2, 1) := by decide +kernel
theorem dX6_ahead_98 : decode cX6_ahead 98 = .ok (.iconst 4, 1) := by decide +kernel
theorem dX6_ahead_99 : decode cX6_ahead 99 = .ok (.isub, 1) := by decide +kernel
theorem dX6_ahead_100 : decode cX6_ahead 100 = .ok (.invokevirtual 50, 3) := by decide +kernel
theorem dX6_ahead_103 : decode cX6_ahead 103 = .ok (.istore 5, 2) := by decide +kernel
theorem dX6_ahead_105 : decode cX6_ahead 105 = .ok (.aload_n 0, 1) := by decide +kernel
theorem dX6_ahead_106 : decode cX6_ahead 106 = .ok (.getfield 16, 3) := by decide +kernel
theorem dX6_ahead_109 : decode cX6_ahead 109 = .ok (.aload_n 0, 1) := by decide +kernel
theorem dX6_ahead_110 : decode cX6_ahead 110 = .ok (.getfield 9, 3) := by decide +kernel
theorem dX6_ahead_113 : decode cX6_ahead 113 = .ok (.invokestatic 156, 3) := by decide +kernel
theorem dX6_ahead_116 : decode cX6_ahead 116 = .ok (.iload 5, 2) := by decide +kernel
theorem dX6_ahead_118 : decode cX6_ahead 118 = .ok (.ireturn, 1) := by decide +kernel
theorem dX6_when_0 : decode cX6_when 0 = .ok (.iload_n 1, 1) := by decide +kernel
theorem dX6_when_1 : decode cX6_when 1 = .ok (.invokestatic 55, 3) := by decide +kernel
theorem dX6_when_4 : decode cX6_when 4 = .ok (.ifCond .ne 10, 3) := by decide +kernel
theorem dX6_when_7 : decode cX6_when 7 = .ok (.aload_n 0, 1) := by decide +kernel
theorem dX6_when_8 : decode cX6_when 8 = .ok (.ldc 34, 2) := by decide +kernel
theorem dX6_when_10 : decode cX6_when 10 = .ok (.invokevirtual 36, 3) := by decide +kernel
theorem dX6_when_13 : decode cX6_when 13 = .ok (.ireturn, 1) := by decide +kernel
theorem dX6_when_14 : decode cX6_when 14 = .ok (.aload_n 0, 1) := by decide +kernel
theorem dX6_when_15 : decode cX6_when 15 = .ok (.getfield 9, 3) := by decide +kernel
theorem dX6_when_18 : decode cX6_when 18 = .ok (.iconst 0, 1) := by decide +kernel
theorem dX6_when_19 : decode cX6_when 19 = .ok (.iaload, 1) := by decide +kernel
theorem dX6_when_20 : decode cX6_when 20 = .ok (.sipush 350, 3) := by decide +kernel
theorem dX6_when_23 : decode cX6_when 23 = .ok (.iadd, 1) := by decide +kernel
theorem dX6_when_24 : decode cX6_when 24 = .ok (.ldc 134, 2) := by decide +kernel
theorem dX6_when_26 : decode cX6_when 26 = .ok (.if_icmp .le 10, 3) := by decide +kernel
theorem dX6_when_29 : decode cX6_when 29 = .ok (.aload_n 0, 1) := by decide +kernel
theorem dX6_when_30 : decode cX6_when 30 = .ok (.ldc 135, 2) := by decide +kernel
theorem dX6_when_32 : decode cX6_when 32 = .ok (.invokevirtual 36, 3) := by decide +kernel
theorem dX6_when_35 : decode cX6_when 35 = .ok (.ireturn, 1) := by decide +kernel
theorem dX6_when_36 : decode cX6_when 36 = .ok (.aload_n 0, 1) := by decide +kernel
theorem dX6_when_37 : decode cX6_when 37 = .ok (.getfield 9, 3) := by decide +kernel
theorem dX6_when_40 : decode cX6_when 40 = .ok (.aload_n 0, 1) := by decide +kernel
theorem dX6_when_41 : decode cX6_when 41 = .ok (.getfield 16, 3) := by decide +kernel
theorem dX6_when_44 : decode cX6_when 44 = .ok (.invokestatic 156, 3) := by decide +kernel
theorem dX6_when_47 : decode cX6_when 47 = .ok (.iconst 0, 1) := by decide +kernel
theorem dX6_when_48 : decode cX6_when 48 = .ok (.istore_n 2, 1) := by decide +kernel
theorem dX6_when_49 : decode cX6_when 49 = .ok (.iload_n 2, 1) := by decide +kernel
theorem dX6_when_50 : decode cX6_when 50 = .ok (.sipush 350, 3) := by decide +kernel
theorem dX6_when_53 : decode cX6_when 53 = .ok (.if_icmp .gt 26, 3) := by decide +kernel
theorem dX6_when_56 : decode cX6_when 56 = .ok (.aload_n 0, 1) := by decide +kernel
theorem dX6_when_57 : decode cX6_when 57 = .ok (.iload_n 1, 1) := by decide +kernel
theorem dX6_when_58 : decode cX6_when 58 = .ok (.invokevirtual 65, 3) := by decide +kernel
theorem dX6_when_61 : decode cX6_when 61 = .ok (.ifCond .ne 18, 3) := by decide +kernel
theorem dX6_when_64 : decode cX6_when 64 = .ok (.aload_n 0, 1) := by decide +kernel
theorem dX6_when_65 : decode cX6_when 65 = .ok (.aload_n 0, 1) := by decide +kernel
theorem dX6_when_66 : decode cX6_when 66 = .ok (.invokevirtual 126, 3) := by decide +kernel
theorem dX6_when_69 : decode cX6_when 69 = .ok (.invokevirtual 129, 3) := by decide +kernel
theorem dX6_when_72 : decode cX6_when 72 = .ok (.pop, 1) := by decide +kernel
theorem dX6_when_73 : decode cX6_when 73 = .ok (.iinc 2 1, 3) := by decide +kernel
theorem dX6_when_76 : decode cX6_when 76 = .ok (.goto (-27), 3) := by decide +kernel
theorem dX6_when_79 : decode cX6_when 79 = .ok (.aload_n 0, 1) := by decide +kernel
theorem dX6_when_80 : decode cX6_when 80 = .ok (.getfield 16, 3) := by decide +kernel
theorem dX6_when_83 : decode cX6_when 83 = .ok (.aload_n 0, 1) := by decide +kernel
theorem dX6_when_84 : decode cX6_when 84 = .ok (.getfield 9, 3) := by decide +kernel
theorem dX6_when_87 : decode cX6_when 87 = .ok (.invokestatic 156, 3) := by decide +kernel
theorem dX6_when_90 : decode cX6_when 90 = .ok (.iload_n 2, 1) := by decide +kernel
theorem dX6_when_91 : decode cX6_when 91 = .ok (.sipush 350, 3) := by decide +kernel
theorem dX6_when_94 : decode cX6_when 94 = .ok (.if_icmp .le 12, 3) := by decide +kernel
theorem dX6_when_97 : decode cX6_when 97 = .ok (.aload_n 0, 1) := by decide +kernel
theorem dX6_when_98 : decode cX6_when 98 = .ok (.ldc 35, 2) := by decide +kernel
theorem dX6_when_100 : decode cX6_when 100 = .ok (.invokevirtual 36, 3) := by decide +kernel
theorem dX6_when_103 : decode cX6_when 103 = .ok (.goto 4, 3) := by decide +kernel
theorem dX6_when_106 : decode cX6_when 106 = .ok (.iload_n 2, 1) := by decide +kernel
theorem dX6_when_107 : decode cX6_when 107 = .ok (.ireturn, 1) := by decide +kernel
theorem dX6_times_0 : decode cX6_times 0 = .ok (.aload_n 0, 1) := by decide +kernel
theorem dX6_times_1 : decode cX6_times 1 = .ok (.iload_n 1, 1) := by decide +kernel
theorem dX6_times_2 : decode cX6_times 2 = .ok (.invokevirtual 99, 3) := by decide +kernel
theorem dX6_times_5 : decode cX6_times 5 = .ok (.ifCond .ne 10, 3) := by decide +kernel
theorem dX6_times_8 : decode cX6_times 8 = .ok (.aload_n 0, 1) := by decide +kernel
theorem dX6_times_9 : decode cX6_times 9 = .ok (.ldc 34, 2) := by decide +kernel
theorem dX6_times_11 : decode cX6_times 11 = .ok (.invokevirtual 36, 3) := by decide +kernel
theorem dX6_times_14 : decode cX6_times 14 = .ok (.ireturn, 1) := by decide +kernel
theorem dX6_times_15 : decode cX6_times 15 = .ok (.aload_n 0, 1) := by decide +kernel
theorem dX6_times_16 : decode cX6_times 16 = .ok (.getfield 9, 3) := by decide +kernel
theorem dX6_times_19 : decode cX6_times 19 = .ok (.iconst 0, 1) := by decide +kernel
theorem dX6_times_20 : decode cX6_times 20 = .ok (.iaload, 1) := by decide +kernel
theorem dX6_times_21 : decode cX6_times 21 = .ok (.bipush 99, 2) := by decide +kernel
theorem dX6_times_23 : decode cX6_times 23 = .ok (.iadd, 1) := by decide +kernel
theorem dX6_times_24 : decode cX6_times 24 = .ok (.ldc 134, 2) := by decide +kernel
theorem dX6_times_26 : decode cX6_times 26 = .ok (.if_icmp .le 10, 3) := by decide +kernel
theorem dX6_times_29 : decode cX6_times 29 = .ok (.aload_n 0, 1) := by decide +kernel
theorem dX6_times_30 : decode cX6_times 30 = .ok (.ldc 135, 2) := by decide +kernel
theorem dX6_times_32 : decode cX6_times 32 = .ok (.invokevirtual 36, 3) := by decide +kernel
theorem dX6_times_35 : decode cX6_times 35 = .ok (.ireturn, 1) := by decide +kernel
theorem dX6_times_36 : decode cX6_times 36 = .ok (.aload_n 0, 1) := by decide +kernel
theorem dX6_times_37 : decode cX6_times 37 = .ok (.iload_n 1, 1) := by decide +kernel
theorem dX6_times_38 : decode cX6_times 38 = .ok (.iconst 1, 1) := by decide +kernel
theorem dX6_times_39 : decode cX6_times 39 = .ok (.invokevirtual 90, 3) := by decide +kernel
theorem dX6_times_42 : decode cX6_times 42 = .ok (.istore_n 2, 1) := by decide +kernel
theorem dX6_times_43 : decode cX6_times 43 = .ok (.aload_n 0, 1) := by decide +kernel
theorem dX6_times_44 : decode cX6_times 44 = .ok (.getfield 9, 3) := by decide +kernel
theorem dX6_times_47 : decode cX6_times 47 = .ok (.aload_n 0, 1) := by decide +kernel
theorem dX6_times_48 : decode cX6_times 48 = .ok (.getfield 16, 3) := by decide +kernel
theorem dX6_times_51 : decode cX6_times 51 = .ok (.invokestatic 156, 3) := by decide +kernel
theorem dX6_times_54 : decode cX6_times 54 = .ok (.iconst 0, 1) := by decide +kernel
theorem dX6_times_55 : decode cX6_times 55 = .ok (.istore_n 3, 1) := by decide +kernel
theorem dX6_times_56 : decode cX6_times 56 = .ok (.iload_n 3, 1) := by decide +kernel
theorem dX6_times_57 : decode cX6_times 57 = .ok (.bipush 99, 2) := by decide +kernel
theorem dX6_times_59 : decode cX6_times 59 = .ok (.if_icmp .gt 23, 3) := by decide +kernel
theorem dX6_times_62 : decode cX6_times 62 = .ok (.aload_n 0, 1) := by decide +kernel
theorem dX6_times_63 : decode cX6_times 63 = .ok (.iload_n 2, 1) := by decide +kernel
theorem dX6_times_64 : decode cX6_times 64 = .ok (.invokevirtual 65, 3) := by decide +kernel
theorem dX6_times_67 : decode cX6_times 67 = .ok (.ifCond .ne 15, 3) := by decide +kernel
theorem dX6_times_70 : decode cX6_times 70 = .ok (.aload_n 0, 1) := by decide +kernel
theorem dX6_times_71 : decode cX6_times 71 = .ok (.iload_n 1, 1) := by decide +kernel
theorem dX6_times_72 : decode cX6_times 72 = .ok (.invokevirtual 129, 3) := by decide +kernel
theorem dX6_times_75 : decode cX6_times 75 = .ok (.pop, 1) := by decide +kernel
theorem dX6_times_76 : decode cX6_times 76 = .ok (.iinc 3 1, 3) := by decide +kernel
theorem dX6_times_79 : decode cX6_times 79 = .ok (.goto (-23), 3) := by decide +kernel
theorem dX6_times_82 : decode cX6_times 82 = .ok (.aload_n 0, 1) := by decide +kernel
theorem dX6_times_83 : decode cX6_times 83 = .ok (.getfield 16, 3) := by decide +kernel
theorem dX6_times_86 : decode cX6_times 86 = .ok (.aload_n 0, 1) := by decide +kernel
theorem dX6_times_87 : decode cX6_times 87 = .ok (.getfield 9, 3) := by decide +kernel
theorem dX6_times_90 : decode cX6_times 90 = .ok (.invokestatic 156, 3) := by decide +kernel
theorem dX6_times_93 : decode cX6_times 93 = .ok (.iload_n 3, 1) := by decide +kernel
theorem dX6_times_94 : decode cX6_times 94 = .ok (.bipush 99, 2) := by decide +kernel
theorem dX6_times_96 : decode cX6_times 96 = .ok (.if_icmp .le 12, 3) := by decide +kernel
theorem dX6_times_99 : decode cX6_times 99 = .ok (.aload_n 0, 1) := by decide +kernel
theorem dX6_times_100 : decode cX6_times 100 = .ok (.ldc 35, 2) := by decide +kernel
theorem dX6_times_102 : decode cX6_times 102 = .ok (.invokevirtual 36, 3) := by decide +kernel
theorem dX6_times_105 : decode cX6_times 105 = .ok (.goto 4, 3) := by decide +kernel
theorem dX6_times_108 : decode cX6_times 108 = .ok (.iload_n 3, 1) := by decide +kernel
theorem dX6_times_109 : decode cX6_times 109 = .ok (.ireturn, 1) := by decide +kernel
theorem dX6_behind_0 : decode cX6_behind 0 = .ok (.aload_n 0, 1) := by decide +kernel
theorem dX6_behind_1 : decode cX6_behind 1 = .ok (.getfield 9, 3) := by decide +kernel
theorem dX6_behind_4 : decode cX6_behind 4 = .ok (.aload_n 0, 1) := by decide +kernel
theorem dX6_behind_5 : decode cX6_behind 5 = .ok (.getfield 16, 3) := by decide +kernel
theorem dX6_behind_8 : decode cX6_behind 8 = .ok (.invokestatic 156, 3) := by decide +kernel
theorem dX6_behind_11 : decode cX6_behind 11 = .ok (.aload_n 0, 1) := by decide +kernel
theorem dX6_behind_12 : decode cX6_behind 12 = .ok (.iload_n 1, 1) := by decide +kernel
theorem dX6_behind_13 : decode cX6_behind 13 = .ok (.invokevirtual 136, 3) := by decide +kernel
theorem dX6_behind_16 : decode cX6_behind 16 = .ok (.istore_n 3, 1) := by decide +kernel
theorem dX6_behind_17 : decode cX6_behind 17 = .ok (.iload_n 2, 1) := by decide +kernel
theorem dX6_behind_18 : decode cX6_behind 18 = .ok (.ifCond .eq 7, 3) := by decide +kernel
theorem dX6_behind_21 : decode cX6_behind 21 = .ok (.iload_n 3, 1) := by decide +kernel
theorem dX6_behind_22 : decode cX6_behind 22 = .ok (.goto 7, 3) := by decide +kernel
theorem dX6_behind_25 : decode cX6_behind 25 = .ok (.aload_n 0, 1) := by decide +kernel
theorem dX6_behind_26 : decode cX6_behind 26 = .ok (.invokevirtual 163, 3) := by decide +kernel
theorem dX6_behind_29 : decode cX6_behind 29 = .ok (.istore 4, 2) := by decide +kernel
theorem dX6_behind_31 : decode cX6_behind 31 = .ok (.aload_n 0, 1) := by decide +kernel
theorem dX6_behind_32 : decode cX6_behind 32 = .ok (.getfield 16, 3) := by decide +kernel
theorem dX6_behind_35 : decode cX6_behind 35 = .ok (.aload_n 0, 1) := by decide +kernel
theorem dX6_behind_36 : decode cX6_behind 36 = .ok (.getfield 9, 3) := by decide +kernel
theorem dX6_behind_39 : decode cX6_behind 39 = .ok (.invokestatic 156, 3) := by decide +kernel
theorem dX6_behind_42 : decode cX6_behind 42 = .ok (.iload 4, 2) := by decide +kernel
theorem dX6_behind_44 : decode cX6_behind 44 = .ok (.ireturn, 1) := by decide +kernel
theorem dX6_bestIn_0 : decode cX6_bestIn 0 = .ok (.aload_n 0, 1) := by decide +kernel
theorem dX6_bestIn_1 : decode cX6_bestIn 1 = .ok (.getfield 9, 3) := by decide +kernel
theorem dX6_bestIn_4 : decode cX6_bestIn 4 = .ok (.iload_n 1, 1) := by decide +kernel
theorem dX6_bestIn_5 : decode cX6_bestIn 5 = .ok (.iaload, 1) := by decide +kernel
theorem dX6_bestIn_6 : decode cX6_bestIn 6 = .ok (.istore 6, 2) := by decide +kernel
theorem dX6_bestIn_8 : decode cX6_bestIn 8 = .ok (.iconst (-1), 1) := by decide +kernel
theorem dX6_bestIn_9 : decode cX6_bestIn 9 = .ok (.istore 7, 2) := by decide +kernel
theorem dX6_bestIn_11 : decode cX6_bestIn 11 = .ok (.iconst 0, 1) := by decide +kernel
theorem dX6_bestIn_12 : decode cX6_bestIn 12 = .ok (.istore 8, 2) := by decide +kernel
theorem dX6_bestIn_14 : decode cX6_bestIn 14 = .ok (.iload_n 2, 1) := by decide +kernel
theorem dX6_bestIn_15 : decode cX6_bestIn 15 = .ok (.istore 9, 2) := by decide +kernel
theorem dX6_bestIn_17 : decode cX6_bestIn 17 = .ok (.iload 9, 2) := by decide +kernel
theorem dX6_bestIn_19 : decode cX6_bestIn 19 = .ok (.iload_n 3, 1) := by decide +kernel
theorem dX6_bestIn_20 : decode cX6_bestIn 20 = .ok (.if_icmp .gt 50, 3) := by decide +kernel
theorem dX6_bestIn_23 : decode cX6_bestIn 23 = .ok (.aload_n 0, 1) := by decide +kernel
theorem dX6_bestIn_24 : decode cX6_bestIn 24 = .ok (.getfield 9, 3) := by decide +kernel
theorem dX6_bestIn_27 : decode cX6_bestIn 27 = .ok (.iload_n 1, 1) := by decide +kernel
theorem dX6_bestIn_28 : decode cX6_bestIn 28 = .ok (.iload 9, 2) := by decide +kernel
theorem dX6_bestIn_30 : decode cX6_bestIn 30 = .ok (.iastore, 1) := by decide +kernel
theorem dX6_bestIn_31 : decode cX6_bestIn 31 = .ok (.aload_n 0, 1) := by decide +kernel
theorem dX6_bestIn_32 : decode cX6_bestIn 32 = .ok (.iload 4, 2) := by decide +kernel
theorem dX6_bestIn_34 : decode cX6_bestIn 34 = .ok (.iload 5, 2) := by decide +kernel
theorem dX6_bestIn_36 : decode cX6_bestIn 36 = .ok (.invokevirtual 166, 3) := by decide +kernel
theorem dX6_bestIn_39 : decode cX6_bestIn 39 = .ok (.istore 10, 2) := by decide +kernel
theorem dX6_bestIn_41 : decode cX6_bestIn 41 = .ok (.iload 7, 2) := by decide +kernel
theorem dX6_bestIn_43 : decode cX6_bestIn 43 = .ok (.ifCond .lt 13, 3) := by decide +kernel
theorem dX6_bestIn_46 : decode cX6_bestIn 46 = .ok (.iload 10, 2) := by decide +kernel
theorem dX6_bestIn_48 : decode cX6_bestIn 48 = .ok (.iload 8, 2) := by decide +kernel
theorem dX6_bestIn_50 : decode cX6_bestIn 50 = .ok (.if_icmp .gt 6, 3) := by decide +kernel
theorem dX6_bestIn_53 : decode cX6_bestIn 53 = .ok (.goto 11, 3) := by decide +kernel
theorem dX6_bestIn_56 : decode cX6_bestIn 56 = .ok (.iload 9, 2) := by decide +kernel
theorem dX6_bestIn_58 : decode cX6_bestIn 58 = .ok (.istore 7, 2) := by decide +kernel
theorem dX6_bestIn_60 : decode cX6_bestIn 60 = .ok (.iload 10, 2) := by decide +kernel
theorem dX6_bestIn_62 : decode cX6_bestIn 62 = .ok (.istore 8, 2) := by decide +kernel
theorem dX6_bestIn_64 : decode cX6_bestIn 64 = .ok (.iinc 9 1, 3) := by decide +kernel
theorem dX6_bestIn_67 : decode cX6_bestIn 67 = .ok (.goto (-50), 3) := by decide +kernel
theorem dX6_bestIn_70 : decode cX6_bestIn 70 = .ok (.aload_n 0, 1) := by decide +kernel
theorem dX6_bestIn_71 : decode cX6_bestIn 71 = .ok (.getfield 9, 3) := by decide +kernel
theorem dX6_bestIn_74 : decode cX6_bestIn 74 = .ok (.iload_n 1, 1) := by decide +kernel
theorem dX6_bestIn_75 : decode cX6_bestIn 75 = .ok (.iload 6, 2) := by decide +kernel
theorem dX6_bestIn_77 : decode cX6_bestIn 77 = .ok (.iastore, 1) := by decide +kernel
theorem dX6_bestIn_78 : decode cX6_bestIn 78 = .ok (.iload 7, 2) := by decide +kernel
theorem dX6_bestIn_80 : decode cX6_bestIn 80 = .ok (.ireturn, 1) := by decide +kernel
theorem dX6_kindFor_0 : decode cX6_kindFor 0 = .ok (.aload_n 0, 1) := by decide +kernel
theorem dX6_kindFor_1 : decode cX6_kindFor 1 = .ok (.iload_n 2, 1) := by decide +kernel
theorem dX6_kindFor_2 : decode cX6_kindFor 2 = .ok (.iconst 1, 1) := by decide +kernel
theorem dX6_kindFor_3 : decode cX6_kindFor 3 = .ok (.sipush 175, 3) := by decide +kernel
theorem dX6_kindFor_6 : decode cX6_kindFor 6 = .ok (.aload_n 0, 1) := by decide +kernel
theorem dX6_kindFor_7 : decode cX6_kindFor 7 = .ok (.iload_n 1, 1) := by decide +kernel
theorem dX6_kindFor_8 : decode cX6_kindFor 8 = .ok (.invokevirtual 99, 3) := by decide +kernel
theorem dX6_kindFor_11 : decode cX6_kindFor 11 = .ok (.invokevirtual 152, 3) := by decide +kernel
theorem dX6_kindFor_14 : decode cX6_kindFor 14 = .ok (.istore_n 3, 1) := by decide +kernel
theorem dX6_kindFor_15 : decode cX6_kindFor 15 = .ok (.iload_n 3, 1) := by decide +kernel
theorem dX6_kindFor_16 : decode cX6_kindFor 16 = .ok (.ifCond .ge 11, 3) := by decide +kernel
theorem dX6_kindFor_19 : decode cX6_kindFor 19 = .ok (.aload_n 0, 1) := by decide +kernel
theorem dX6_kindFor_20 : decode cX6_kindFor 20 = .ok (.iload_n 3, 1) := by decide +kernel
theorem dX6_kindFor_21 : decode cX6_kindFor 21 = .ok (.invokevirtual 36, 3) := by decide +kernel
theorem dX6_kindFor_24 : decode cX6_kindFor 24 = .ok (.goto 18, 3) := by decide +kernel
theorem dX6_kindFor_27 : decode cX6_kindFor 27 = .ok (.aload_n 0, 1) := by decide +kernel
theorem dX6_kindFor_28 : decode cX6_kindFor 28 = .ok (.bipush 40, 2) := by decide +kernel
theorem dX6_kindFor_30 : decode cX6_kindFor 30 = .ok (.iconst 3, 1) := by decide +kernel
theorem dX6_kindFor_31 : decode cX6_kindFor 31 = .ok (.iload_n 1, 1) := by decide +kernel
theorem dX6_kindFor_32 : decode cX6_kindFor 32 = .ok (.imul, 1) := by decide +kernel
theorem dX6_kindFor_33 : decode cX6_kindFor 33 = .ok (.iadd, 1) := by decide +kernel
theorem dX6_kindFor_34 : decode cX6_kindFor 34 = .ok (.iconst 0, 1) := by decide +kernel
theorem dX6_kindFor_35 : decode cX6_kindFor 35 = .ok (.bipush 6, 2) := by decide +kernel
theorem dX6_kindFor_37 : decode cX6_kindFor 37 = .ok (.iload_n 2, 1) := by decide +kernel
theorem dX6_kindFor_38 : decode cX6_kindFor 38 = .ok (.iconst 0, 1) := by decide +kernel
theorem dX6_kindFor_39 : decode cX6_kindFor 39 = .ok (.invokevirtual 169, 3) := by decide +kernel
theorem dX6_kindFor_42 : decode cX6_kindFor 42 = .ok (.ireturn, 1) := by decide +kernel
theorem dX6_foodFor_0 : decode cX6_foodFor 0 = .ok (.aload_n 0, 1) := by decide +kernel
theorem dX6_foodFor_1 : decode cX6_foodFor 1 = .ok (.iload_n 2, 1) := by decide +kernel
theorem dX6_foodFor_2 : decode cX6_foodFor 2 = .ok (.iconst 1, 1) := by decide +kernel
theorem dX6_foodFor_3 : decode cX6_foodFor 3 = .ok (.sipush 175, 3) := by decide +kernel
theorem dX6_foodFor_6 : decode cX6_foodFor 6 = .ok (.aload_n 0, 1) := by decide +kernel
theorem dX6_foodFor_7 : decode cX6_foodFor 7 = .ok (.iload_n 1, 1) := by decide +kernel
theorem dX6_foodFor_8 : decode cX6_foodFor 8 = .ok (.invokevirtual 99, 3) := by decide +kernel
theorem dX6_foodFor_11 : decode cX6_foodFor 11 = .ok (.invokevirtual 152, 3) := by decide +kernel
theorem dX6_foodFor_14 : decode cX6_foodFor 14 = .ok (.istore_n 3, 1) := by decide +kernel
theorem dX6_foodFor_15 : decode cX6_foodFor 15 = .ok (.iload_n 3, 1) := by decide +kernel
theorem dX6_foodFor_16 : decode cX6_foodFor 16 = .ok (.ifCond .ge 11, 3) := by decide +kernel
theorem dX6_foodFor_19 : decode cX6_foodFor 19 = .ok (.aload_n 0, 1) := by decide +kernel
theorem dX6_foodFor_20 : decode cX6_foodFor 20 = .ok (.iload_n 3, 1) := by decide +kernel
theorem dX6_foodFor_21 : decode cX6_foodFor 21 = .ok (.invokevirtual 36, 3) := by decide +kernel
theorem dX6_foodFor_24 : decode cX6_foodFor 24 = .ok (.goto 20, 3) := by decide +kernel
theorem dX6_foodFor_27 : decode cX6_foodFor 27 = .ok (.aload_n 0, 1) := by decide +kernel
theorem dX6_foodFor_28 : decode cX6_foodFor 28 = .ok (.bipush 40, 2) := by decide +kernel
theorem dX6_foodFor_30 : decode cX6_foodFor 30 = .ok (.iconst 3, 1) := by decide +kernel
theorem dX6_foodFor_31 : decode cX6_foodFor 31 = .ok (.iload_n 1, 1) := by decide +kernel
theorem dX6_foodFor_32 : decode cX6_foodFor 32 = .ok (.imul, 1) := by decide +kernel
theorem dX6_foodFor_33 : decode cX6_foodFor 33 = .ok (.iadd, 1) := by decide +kernel
theorem dX6_foodFor_34 : decode cX6_foodFor 34 = .ok (.iconst 1, 1) := by decide +kernel
theorem dX6_foodFor_35 : decode cX6_foodFor 35 = .ok (.iadd, 1) := by decide +kernel
theorem dX6_foodFor_36 : decode cX6_foodFor 36 = .ok (.iconst 0, 1) := by decide +kernel
theorem dX6_foodFor_37 : decode cX6_foodFor 37 = .ok (.bipush 9, 2) := by decide +kernel
theorem dX6_foodFor_39 : decode cX6_foodFor 39 = .ok (.iload_n 2, 1) := by decide +kernel
theorem dX6_foodFor_40 : decode cX6_foodFor 40 = .ok (.iconst 0, 1) := by decide +kernel
theorem dX6_foodFor_41 : decode cX6_foodFor 41 = .ok (.invokevirtual 169, 3) := by decide +kernel
theorem dX6_foodFor_44 : decode cX6_foodFor 44 = .ok (.ireturn, 1) := by decide +kernel
theorem dX6_putFor_0 : decode cX6_putFor 0 = .ok (.aload_n 0, 1) := by decide +kernel
theorem dX6_putFor_1 : decode cX6_putFor 1 = .ok (.iload_n 2, 1) := by decide +kernel
theorem dX6_putFor_2 : decode cX6_putFor 2 = .ok (.iconst 1, 1) := by decide +kernel
theorem dX6_putFor_3 : decode cX6_putFor 3 = .ok (.sipush 175, 3) := by decide +kernel
theorem dX6_putFor_6 : decode cX6_putFor 6 = .ok (.aload_n 0, 1) := by decide +kernel
theorem dX6_putFor_7 : decode cX6_putFor 7 = .ok (.iload_n 1, 1) := by decide +kernel
theorem dX6_putFor_8 : decode cX6_putFor 8 = .ok (.invokevirtual 99, 3) := by decide +kernel
theorem dX6_putFor_11 : decode cX6_putFor 11 = .ok (.invokevirtual 152, 3) := by decide +kernel
theorem dX6_putFor_14 : decode cX6_putFor 14 = .ok (.istore_n 3, 1) := by decide +kernel
theorem dX6_putFor_15 : decode cX6_putFor 15 = .ok (.iload_n 3, 1) := by decide +kernel
theorem dX6_putFor_16 : decode cX6_putFor 16 = .ok (.ifCond .ge 11, 3) := by decide +kernel
theorem dX6_putFor_19 : decode cX6_putFor 19 = .ok (.aload_n 0, 1) := by decide +kernel
theorem dX6_putFor_20 : decode cX6_putFor 20 = .ok (.iload_n 3, 1) := by decide +kernel
theorem dX6_putFor_21 : decode cX6_putFor 21 = .ok (.invokevirtual 36, 3) := by decide +kernel
theorem dX6_putFor_24 : decode cX6_putFor 24 = .ok (.goto 20, 3) := by decide +kernel
theorem dX6_putFor_27 : decode cX6_putFor 27 = .ok (.aload_n 0, 1) := by decide +kernel
theorem dX6_putFor_28 : decode cX6_putFor 28 = .ok (.bipush 40, 2) := by decide +kernel
theorem dX6_putFor_30 : decode cX6_putFor 30 = .ok (.iconst 3, 1) := by decide +kernel
theorem dX6_putFor_31 : decode cX6_putFor 31 = .ok (.iload_n 1, 1) := by decide +kernel
theorem dX6_putFor_32 : decode cX6_putFor 32 = .ok (.imul, 1) := by decide +kernel
theorem dX6_putFor_33 : decode cX6_putFor 33 = .ok (.iadd, 1) := by decide +kernel
theorem dX6_putFor_34 : decode cX6_putFor 34 = .ok (.iconst 2, 1) := by decide +kernel
theorem dX6_putFor_35 : decode cX6_putFor 35 = .ok (.iadd, 1) := by decide +kernel
theorem dX6_putFor_36 : decode cX6_putFor 36 = .ok (.iconst 1, 1) := by decide +kernel
theorem dX6_putFor_37 : decode cX6_putFor 37 = .ok (.bipush 20, 2) := by decide +kernel
theorem dX6_putFor_39 : decode cX6_putFor 39 = .ok (.iload_n 2, 1) := by decide +kernel
theorem dX6_putFor_40 : decode cX6_putFor 40 = .ok (.iconst 1, 1) := by decide +kernel
theorem dX6_putFor_41 : decode cX6_putFor 41 = .ok (.invokevirtual 169, 3) := by decide +kernel
theorem dX6_putFor_44 : decode cX6_putFor 44 = .ok (.ireturn, 1) := by decide +kernel
theorem dX6_paid_0 : decode cX6_paid 0 = .ok (.aload_n 0, 1) := by decide +kernel
theorem dX6_paid_1 : decode cX6_paid 1 = .ok (.iload_n 1, 1) := by decide +kernel
theorem dX6_paid_2 : decode cX6_paid 2 = .ok (.iconst 0, 1) := by decide +kernel
theorem dX6_paid_3 : decode cX6_paid 3 = .ok (.sipush 175, 3) := by decide +kernel
theorem dX6_paid_6 : decode cX6_paid 6 = .ok (.iconst 1, 1) := by decide +kernel
theorem dX6_paid_7 : decode cX6_paid 7 = .ok (.invokevirtual 152, 3) := by decide +kernel
theorem dX6_paid_10 : decode cX6_paid 10 = .ok (.istore_n 2, 1) := by decide +kernel
theorem dX6_paid_11 : decode cX6_paid 11 = .ok (.iload_n 2, 1) := by decide +kernel
theorem dX6_paid_12 : decode cX6_paid 12 = .ok (.ifCond .ge 9, 3) := by decide +kernel
theorem dX6_paid_15 : decode cX6_paid 15 = .ok (.aload_n 0, 1) := by decide +kernel
theorem dX6_paid_16 : decode cX6_paid 16 = .ok (.iload_n 2, 1) := by decide +kernel
theorem dX6_paid_17 : decode cX6_paid 17 = .ok (.invokevirtual 36, 3) := by decide +kernel
theorem dX6_paid_20 : decode cX6_paid 20 = .ok (.ireturn, 1) := by decide +kernel
theorem dX6_paid_21 : decode cX6_paid 21 = .ok (.aload_n 0, 1) := by decide +kernel
theorem dX6_paid_22 : decode cX6_paid 22 = .ok (.getfield 9, 3) := by decide +kernel
theorem dX6_paid_25 : decode cX6_paid 25 = .ok (.bipush 6, 2) := by decide +kernel
theorem dX6_paid_27 : decode cX6_paid 27 = .ok (.iaload, 1) := by decide +kernel
theorem dX6_paid_28 : decode cX6_paid 28 = .ok (.ifCond .ge 10, 3) := by decide +kernel
theorem dX6_paid_31 : decode cX6_paid 31 = .ok (.aload_n 0, 1) := by decide +kernel
theorem dX6_paid_32 : decode cX6_paid 32 = .ok (.ldc 35, 2) := by decide +kernel
theorem dX6_paid_34 : decode cX6_paid 34 = .ok (.invokevirtual 36, 3) := by decide +kernel
theorem dX6_paid_37 : decode cX6_paid 37 = .ok (.ireturn, 1) := by decide +kernel
theorem dX6_paid_38 : decode cX6_paid 38 = .ok (.aload_n 0, 1) := by decide +kernel
theorem dX6_paid_39 : decode cX6_paid 39 = .ok (.getfield 9, 3) := by decide +kernel
theorem dX6_paid_42 : decode cX6_paid 42 = .ok (.aload_n 0, 1) := by decide +kernel
theorem dX6_paid_43 : decode cX6_paid 43 = .ok (.getfield 16, 3) := by decide +kernel
theorem dX6_paid_46 : decode cX6_paid 46 = .ok (.invokestatic 156, 3) := by decide +kernel
theorem dX6_paid_49 : decode cX6_paid 49 = .ok (.aload_n 0, 1) := by decide +kernel
theorem dX6_paid_50 : decode cX6_paid 50 = .ok (.iload_n 1, 1) := by decide +kernel
theorem dX6_paid_51 : decode cX6_paid 51 = .ok (.invokevirtual 136, 3) := by decide +kernel
theorem dX6_paid_54 : decode cX6_paid 54 = .ok (.pop, 1) := by decide +kernel
theorem dX6_paid_55 : decode cX6_paid 55 = .ok (.aload_n 0, 1) := by decide +kernel
theorem dX6_paid_56 : decode cX6_paid 56 = .ok (.aload_n 0, 1) := by decide +kernel
theorem dX6_paid_57 : decode cX6_paid 57 = .ok (.getfield 9, 3) := by decide +kernel
theorem dX6_paid_60 : decode cX6_paid 60 = .ok (.bipush 6, 2) := by decide +kernel
theorem dX6_paid_62 : decode cX6_paid 62 = .ok (.iaload, 1) := by decide +kernel
theorem dX6_paid_63 : decode cX6_paid 63 = .ok (.invokevirtual 50, 3) := by decide +kernel
theorem dX6_paid_66 : decode cX6_paid 66 = .ok (.istore_n 3, 1) := by decide +kernel
theorem dX6_paid_67 : decode cX6_paid 67 = .ok (.aload_n 0, 1) := by decide +kernel
theorem dX6_paid_68 : decode cX6_paid 68 = .ok (.getfield 16, 3) := by decide +kernel
theorem dX6_paid_71 : decode cX6_paid 71 = .ok (.aload_n 0, 1) := by decide +kernel
theorem dX6_paid_72 : decode cX6_paid 72 = .ok (.getfield 9, 3) := by decide +kernel
theorem dX6_paid_75 : decode cX6_paid 75 = .ok (.invokestatic 156, 3) := by decide +kernel
theorem dX6_paid_78 : decode cX6_paid 78 = .ok (.iconst 0, 1) := by decide +kernel
theorem dX6_paid_79 : decode cX6_paid 79 = .ok (.istore 4, 2) := by decide +kernel
theorem dX6_paid_81 : decode cX6_paid 81 = .ok (.iload 4, 2) := by decide +kernel
theorem dX6_paid_83 : decode cX6_paid 83 = .ok (.aload_n 0, 1) := by decide +kernel
theorem dX6_paid_84 : decode cX6_paid 84 = .ok (.getfield 9, 3) := by decide +kernel
theorem dX6_paid_87 : decode cX6_paid 87 = .ok (.bipush 8, 2) := by decide +kernel
theorem dX6_paid_89 : decode cX6_paid 89 = .ok (.iaload, 1) := by decide +kernel
theorem dX6_paid_90 : decode cX6_paid 90 = .ok (.if_icmp .ge 43, 3) := by decide +kernel
theorem dX6_paid_93 : decode cX6_paid 93 = .ok (.aload_n 0, 1) := by decide +kernel
theorem dX6_paid_94 : decode cX6_paid 94 = .ok (.getfield 9, 3) := by decide +kernel
theorem dX6_paid_97 : decode cX6_paid 97 = .ok (.bipush 40, 2) := by decide +kernel
theorem dX6_paid_99 : decode cX6_paid 99 = .ok (.iconst 3, 1) := by decide +kernel
theorem dX6_paid_100 : decode cX6_paid 100 = .ok (.iload 4, 2) := by decide +kernel
theorem dX6_paid_102 : decode cX6_paid 102 = .ok (.imul, 1) := by decide +kernel
theorem dX6_paid_103 : decode cX6_paid 103 = .ok (.iadd, 1) := by decide +kernel
theorem dX6_paid_104 : decode cX6_paid 104 = .ok (.aload_n 0, 1) := by decide +kernel
theorem dX6_paid_105 : decode cX6_paid 105 = .ok (.iload 4, 2) := by decide +kernel
theorem dX6_paid_107 : decode cX6_paid 107 = .ok (.iconst 0, 1) := by decide +kernel
theorem dX6_paid_108 : decode cX6_paid 108 = .ok (.invokevirtual 90, 3) := by decide +kernel
theorem dX6_paid_111 : decode cX6_paid 111 = .ok (.iconst 3, 1) := by decide +kernel
theorem dX6_paid_112 : decode cX6_paid 112 = .ok (.if_icmp .ne 7, 3) := by decide +kernel
theorem dX6_paid_115 : decode cX6_paid 115 = .ok (.iconst 2, 1) := by decide +kernel
theorem dX6_paid_116 : decode cX6_paid 116 = .ok (.goto 10, 3) := by decide +kernel
theorem dX6_paid_119 : decode cX6_paid 119 = .ok (.aload_n 0, 1) := by decide +kernel
theorem dX6_paid_120 : decode cX6_paid 120 = .ok (.iload 4, 2) := by decide +kernel
theorem dX6_paid_122 : decode cX6_paid 122 = .ok (.iconst 0, 1) := by decide +kernel
theorem dX6_paid_123 : decode cX6_paid 123 = .ok (.invokevirtual 90, 3) := by decide +kernel
theorem dX6_paid_126 : decode cX6_paid 126 = .ok (.iastore, 1) := by decide +kernel
theorem dX6_paid_127 : decode cX6_paid 127 = .ok (.iinc 4 1, 3) := by decide +kernel
theorem dX6_paid_130 : decode cX6_paid 130 = .ok (.goto (-49), 3) := by decide +kernel
theorem dX6_paid_133 : decode cX6_paid 133 = .ok (.aload_n 0, 1) := by decide +kernel
theorem dX6_paid_134 : decode cX6_paid 134 = .ok (.iload_n 1, 1) := by decide +kernel
theorem dX6_paid_135 : decode cX6_paid 135 = .ok (.invokevirtual 136, 3) := by decide +kernel
theorem dX6_paid_138 : decode cX6_paid 138 = .ok (.pop, 1) := by decide +kernel
theorem dX6_paid_139 : decode cX6_paid 139 = .ok (.aload_n 0, 1) := by decide +kernel
theorem dX6_paid_140 : decode cX6_paid 140 = .ok (.aload_n 0, 1) := by decide +kernel
theorem dX6_paid_141 : decode cX6_paid 141 = .ok (.getfield 9, 3) := by decide +kernel
theorem dX6_paid_144 : decode cX6_paid 144 = .ok (.bipush 6, 2) := by decide +kernel
theorem dX6_paid_146 : decode cX6_paid 146 = .ok (.iaload, 1) := by decide +kernel
theorem dX6_paid_147 : decode cX6_paid 147 = .ok (.invokevirtual 50, 3) := by decide +kernel
theorem dX6_paid_150 : decode cX6_paid 150 = .ok (.istore 4, 2) := by decide +kernel
theorem dX6_paid_152 : decode cX6_paid 152 = .ok (.aload_n 0, 1) := by decide +kernel
theorem dX6_paid_153 : decode cX6_paid 153 = .ok (.getfield 16, 3) := by decide +kernel
theorem dX6_paid_156 : decode cX6_paid 156 = .ok (.aload_n 0, 1) := by decide +kernel
theorem dX6_paid_157 : decode cX6_paid 157 = .ok (.getfield 9, 3) := by decide +kernel
theorem dX6_paid_160 : decode cX6_paid 160 = .ok (.invokestatic 156, 3) := by decide +kernel
theorem dX6_paid_163 : decode cX6_paid 163 = .ok (.iload_n 3, 1) := by decide +kernel
theorem dX6_paid_164 : decode cX6_paid 164 = .ok (.iload 4, 2) := by decide +kernel
theorem dX6_paid_166 : decode cX6_paid 166 = .ok (.isub, 1) := by decide +kernel
theorem dX6_paid_167 : decode cX6_paid 167 = .ok (.ireturn, 1) := by decide +kernel
theorem dX6_worry_0 : decode cX6_worry 0 = .ok (.aload_n 0, 1) := by decide +kernel
theorem dX6_worry_1 : decode cX6_worry 1 = .ok (.getfield 9, 3) := by decide +kernel
theorem dX6_worry_4 : decode cX6_worry 4 = .ok (.iconst 0, 1) := by decide +kernel
theorem dX6_worry_5 : decode cX6_worry 5 = .ok (.iaload, 1) := by decide +kernel
theorem dX6_worry_6 : decode cX6_worry 6 = .ok (.sipush 175, 3) := by decide +kernel
theorem dX6_worry_9 : decode cX6_worry 9 = .ok (.iadd, 1) := by decide +kernel
theorem dX6_worry_10 : decode cX6_worry 10 = .ok (.ldc 134, 2) := by decide +kernel
theorem dX6_worry_12 : decode cX6_worry 12 = .ok (.if_icmp .le 10, 3) := by decide +kernel
theorem dX6_worry_15 : decode cX6_worry 15 = .ok (.aload_n 0, 1) := by decide +kernel
theorem dX6_worry_16 : decode cX6_worry 16 = .ok (.ldc 135, 2) := by decide +kernel
theorem dX6_worry_18 : decode cX6_worry 18 = .ok (.invokevirtual 36, 3) := by decide +kernel
theorem dX6_worry_21 : decode cX6_worry 21 = .ok (.ireturn, 1) := by decide +kernel
theorem dX6_worry_22 : decode cX6_worry 22 = .ok (.aload_n 0, 1) := by decide +kernel
theorem dX6_worry_23 : decode cX6_worry 23 = .ok (.getfield 9, 3) := by decide +kernel
theorem dX6_worry_26 : decode cX6_worry 26 = .ok (.aload_n 0, 1) := by decide +kernel
theorem dX6_worry_27 : decode cX6_worry 27 = .ok (.getfield 16, 3) := by decide +kernel
theorem dX6_worry_30 : decode cX6_worry 30 = .ok (.invokestatic 156, 3) := by decide +kernel
theorem dX6_worry_33 : decode cX6_worry 33 = .ok (.iconst (-1), 1) := by decide +kernel
theorem dX6_worry_34 : decode cX6_worry 34 = .ok (.istore_n 1, 1) := by decide +kernel
theorem dX6_worry_35 : decode cX6_worry 35 = .ok (.iconst 1, 1) := by decide +kernel
theorem dX6_worry_36 : decode cX6_worry 36 = .ok (.istore_n 2, 1) := by decide +kernel
theorem dX6_worry_37 : decode cX6_worry 37 = .ok (.iload_n 2, 1) := by decide +kernel
theorem dX6_worry_38 : decode cX6_worry 38 = .ok (.sipush 175, 3) := by decide +kernel
theorem dX6_worry_41 : decode cX6_worry 41 = .ok (.if_icmp .gt 35, 3) := by decide +kernel
theorem dX6_worry_44 : decode cX6_worry 44 = .ok (.iload_n 1, 1) := by decide +kernel
theorem dX6_worry_45 : decode cX6_worry 45 = .ok (.ifCond .ge 31, 3) := by decide +kernel
theorem dX6_worry_48 : decode cX6_worry 48 = .ok (.aload_n 0, 1) := by decide +kernel
theorem dX6_worry_49 : decode cX6_worry 49 = .ok (.aload_n 0, 1) := by decide +kernel
theorem dX6_worry_50 : decode cX6_worry 50 = .ok (.invokevirtual 126, 3) := by decide +kernel
theorem dX6_worry_53 : decode cX6_worry 53 = .ok (.invokevirtual 129, 3) := by decide +kernel
theorem dX6_worry_56 : decode cX6_worry 56 = .ok (.pop, 1) := by decide +kernel
theorem dX6_worry_57 : decode cX6_worry 57 = .ok (.aload_n 0, 1) := by decide +kernel
theorem dX6_worry_58 : decode cX6_worry 58 = .ok (.invokevirtual 144, 3) := by decide +kernel
theorem dX6_worry_61 : decode cX6_worry 61 = .ok (.ifCond .eq 7, 3) := by decide +kernel
theorem dX6_worry_64 : decode cX6_worry 64 = .ok (.iload_n 2, 1) := by decide +kernel
theorem dX6_worry_65 : decode cX6_worry 65 = .ok (.goto 4, 3) := by decide +kernel
theorem dX6_worry_68 : decode cX6_worry 68 = .ok (.iconst (-1), 1) := by decide +kernel
theorem dX6_worry_69 : decode cX6_worry 69 = .ok (.istore_n 1, 1) := by decide +kernel
theorem dX6_worry_70 : decode cX6_worry 70 = .ok (.iinc 2 1, 3) := by decide +kernel
theorem dX6_worry_73 : decode cX6_worry 73 = .ok (.goto (-36), 3) := by decide +kernel
theorem dX6_worry_76 : decode cX6_worry 76 = .ok (.aload_n 0, 1) := by decide +kernel
theorem dX6_worry_77 : decode cX6_worry 77 = .ok (.getfield 16, 3) := by decide +kernel
theorem dX6_worry_80 : decode cX6_worry 80 = .ok (.aload_n 0, 1) := by decide +kernel
theorem dX6_worry_81 : decode cX6_worry 81 = .ok (.getfield 9, 3) := by decide +kernel
theorem dX6_worry_84 : decode cX6_worry 84 = .ok (.invokestatic 156, 3) := by decide +kernel
theorem dX6_worry_87 : decode cX6_worry 87 = .ok (.aload_n 0, 1) := by decide +kernel
theorem dX6_worry_88 : decode cX6_worry 88 = .ok (.iload_n 1, 1) := by decide +kernel
theorem dX6_worry_89 : decode cX6_worry 89 = .ok (.invokevirtual 76, 3) := by decide +kernel
theorem dX6_worry_92 : decode cX6_worry 92 = .ok (.ireturn, 1) := by decide +kernel
theorem dX6_order_0 : decode cX6_order 0 = .ok (.aload_n 0, 1) := by decide +kernel
theorem dX6_order_1 : decode cX6_order 1 = .ok (.iload_n 1, 1) := by decide +kernel
theorem dX6_order_2 : decode cX6_order 2 = .ok (.iconst 1, 1) := by decide +kernel
theorem dX6_order_3 : decode cX6_order 3 = .ok (.bipush 70, 2) := by decide +kernel
theorem dX6_order_5 : decode cX6_order 5 = .ok (.iconst 1, 1) := by decide +kernel
theorem dX6_order_6 : decode cX6_order 6 = .ok (.invokevirtual 152, 3) := by decide +kernel
theorem dX6_order_9 : decode cX6_order 9 = .ok (.istore_n 2, 1) := by decide +kernel
theorem dX6_order_10 : decode cX6_order 10 = .ok (.iload_n 2, 1) := by decide +kernel
theorem dX6_order_11 : decode cX6_order 11 = .ok (.ifCond .ge 9, 3) := by decide +kernel
theorem dX6_order_14 : decode cX6_order 14 = .ok (.aload_n 0, 1) := by decide +kernel
theorem dX6_order_15 : decode cX6_order 15 = .ok (.iload_n 2, 1) := by decide +kernel
theorem dX6_order_16 : decode cX6_order 16 = .ok (.invokevirtual 36, 3) := by decide +kernel
theorem dX6_order_19 : decode cX6_order 19 = .ok (.ireturn, 1) := by decide +kernel
theorem dX6_order_20 : decode cX6_order 20 = .ok (.iconst (-1), 1) := by decide +kernel
theorem dX6_order_21 : decode cX6_order 21 = .ok (.istore_n 3, 1) := by decide +kernel
theorem dX6_order_22 : decode cX6_order 22 = .ok (.aload_n 0, 1) := by decide +kernel
theorem dX6_order_23 : decode cX6_order 23 = .ok (.iload_n 1, 1) := by decide +kernel
theorem dX6_order_24 : decode cX6_order 24 = .ok (.iconst 0, 1) := by decide +kernel
theorem dX6_order_25 : decode cX6_order 25 = .ok (.invokevirtual 166, 3) := by decide +kernel
theorem dX6_order_28 : decode cX6_order 28 = .ok (.istore 4, 2) := by decide +kernel
theorem dX6_order_30 : decode cX6_order 30 = .ok (.iconst 0, 1) := by decide +kernel
theorem dX6_order_31 : decode cX6_order 31 = .ok (.istore 5, 2) := by decide +kernel
theorem dX6_order_33 : decode cX6_order 33 = .ok (.iload 5, 2) := by decide +kernel
theorem dX6_order_35 : decode cX6_order 35 = .ok (.aload_n 0, 1) := by decide +kernel
theorem dX6_order_36 : decode cX6_order 36 = .ok (.getfield 9, 3) := by decide +kernel
theorem dX6_order_39 : decode cX6_order 39 = .ok (.bipush 8, 2) := by decide +kernel
theorem dX6_order_41 : decode cX6_order 41 = .ok (.iaload, 1) := by decide +kernel
theorem dX6_order_42 : decode cX6_order 42 = .ok (.if_icmp .ge 80, 3) := by decide +kernel
theorem dX6_order_45 : decode cX6_order 45 = .ok (.iload 5, 2) := by decide +kernel
theorem dX6_order_47 : decode cX6_order 47 = .ok (.iconst 1, 1) := by decide +kernel
theorem dX6_order_48 : decode cX6_order 48 = .ok (.iadd, 1) := by decide +kernel
theorem dX6_order_49 : decode cX6_order 49 = .ok (.istore 6, 2) := by decide +kernel
theorem dX6_order_51 : decode cX6_order 51 = .ok (.iload 6, 2) := by decide +kernel
theorem dX6_order_53 : decode cX6_order 53 = .ok (.aload_n 0, 1) := by decide +kernel
theorem dX6_order_54 : decode cX6_order 54 = .ok (.getfield 9, 3) := by decide +kernel
theorem dX6_order_57 : decode cX6_order 57 = .ok (.bipush 8, 2) := by decide +kernel
theorem dX6_order_59 : decode cX6_order 59 = .ok (.iaload, 1) := by decide +kernel
theorem dX6_order_60 : decode cX6_order 60 = .ok (.if_icmp .ge 56, 3) := by decide +kernel
theorem dX6_order_63 : decode cX6_order 63 = .ok (.aload_n 0, 1) := by decide +kernel
theorem dX6_order_64 : decode cX6_order 64 = .ok (.iload 5, 2) := by decide +kernel
theorem dX6_order_66 : decode cX6_order 66 = .ok (.iload 6, 2) := by decide +kernel
theorem dX6_order_68 : decode cX6_order 68 = .ok (.invokevirtual 111, 3) := by decide +kernel
theorem dX6_order_71 : decode cX6_order 71 = .ok (.aload_n 0, 1) := by decide +kernel
theorem dX6_order_72 : decode cX6_order 72 = .ok (.iload_n 1, 1) := by decide +kernel
theorem dX6_order_73 : decode cX6_order 73 = .ok (.iconst 0, 1) := by decide +kernel
theorem dX6_order_74 : decode cX6_order 74 = .ok (.invokevirtual 166, 3) := by decide +kernel
theorem dX6_order_77 : decode cX6_order 77 = .ok (.istore 7, 2) := by decide +kernel
theorem dX6_order_79 : decode cX6_order 79 = .ok (.aload_n 0, 1) := by decide +kernel
theorem dX6_order_80 : decode cX6_order 80 = .ok (.iload 5, 2) := by decide +kernel
theorem dX6_order_82 : decode cX6_order 82 = .ok (.iload 6, 2) := by decide +kernel
theorem dX6_order_84 : decode cX6_order 84 = .ok (.invokevirtual 111, 3) := by decide +kernel
theorem dX6_order_87 : decode cX6_order 87 = .ok (.iload 7, 2) := by decide +kernel
theorem dX6_order_89 : decode cX6_order 89 = .ok (.iload 4, 2) := by decide +kernel
theorem dX6_order_91 : decode cX6_order 91 = .ok (.if_icmp .gt 6, 3) := by decide +kernel
theorem dX6_order_94 : decode cX6_order 94 = .ok (.goto 16, 3) := by decide +kernel
theorem dX6_order_97 : decode cX6_order 97 = .ok (.bipush 10, 2) := by decide +kernel
theorem dX6_order_99 : decode cX6_order 99 = .ok (.iload 5, 2) := by decide +kernel
theorem dX6_order_101 : decode cX6_order 101 = .ok (.imul, 1) := by decide +kernel
theorem dX6_order_102 : decode cX6_order 102 = .ok (.iload 6, 2) := by decide +kernel
theorem dX6_order_104 : decode cX6_order 104 = .ok (.iadd, 1) := by decide +kernel
theorem dX6_order_105 : decode cX6_order 105 = .ok (.istore_n 3, 1) := by decide +kernel
theorem dX6_order_106 : decode cX6_order 106 = .ok (.iload 7, 2) := by decide +kernel
theorem dX6_order_108 : decode cX6_order 108 = .ok (.istore 4, 2) := by decide +kernel
theorem dX6_order_110 : decode cX6_order 110 = .ok (.iinc 6 1, 3) := by decide +kernel
theorem dX6_order_113 : decode cX6_order 113 = .ok (.goto (-62), 3) := by decide +kernel
theorem dX6_order_116 : decode cX6_order 116 = .ok (.iinc 5 1, 3) := by decide +kernel
theorem dX6_order_119 : decode cX6_order 119 = .ok (.goto (-86), 3) := by decide +kernel
theorem dX6_order_122 : decode cX6_order 122 = .ok (.aload_n 0, 1) := by decide +kernel
theorem dX6_order_123 : decode cX6_order 123 = .ok (.iload_n 3, 1) := by decide +kernel
theorem dX6_order_124 : decode cX6_order 124 = .ok (.invokevirtual 76, 3) := by decide +kernel
theorem dX6_order_127 : decode cX6_order 127 = .ok (.ireturn, 1) := by decide +kernel
theorem dX6_chance_0 : decode cX6_chance 0 = .ok (.aload_n 0, 1) := by decide +kernel
theorem dX6_chance_1 : decode cX6_chance 1 = .ok (.iload_n 3, 1) := by decide +kernel
theorem dX6_chance_2 : decode cX6_chance 2 = .ok (.iconst 0, 1) := by decide +kernel
theorem dX6_chance_3 : decode cX6_chance 3 = .ok (.bipush 70, 2) := by decide +kernel
theorem dX6_chance_5 : decode cX6_chance 5 = .ok (.iload_n 1, 1) := by decide +kernel
theorem dX6_chance_6 : decode cX6_chance 6 = .ok (.invokestatic 55, 3) := by decide +kernel
theorem dX6_chance_9 : decode cX6_chance 9 = .ok (.ifCond .eq 19, 3) := by decide +kernel
theorem dX6_chance_12 : decode cX6_chance 12 = .ok (.iload_n 2, 1) := by decide +kernel
theorem dX6_chance_13 : decode cX6_chance 13 = .ok (.i2l, 1) := by decide +kernel
theorem dX6_chance_14 : decode cX6_chance 14 = .ok (.lconst 1, 1) := by decide +kernel
theorem dX6_chance_15 : decode cX6_chance 15 = .ok (.ldc2_w 48, 3) := by decide +kernel
theorem dX6_chance_18 : decode cX6_chance 18 = .ok (.invokestatic 42, 3) := by decide +kernel
theorem dX6_chance_21 : decode cX6_chance 21 = .ok (.ifCond .eq 7, 3) := by decide +kernel
theorem dX6_chance_24 : decode cX6_chance 24 = .ok (.iconst 1, 1) := by decide +kernel
theorem dX6_chance_25 : decode cX6_chance 25 = .ok (.goto 4, 3) := by decide +kernel
theorem dX6_chance_28 : decode cX6_chance 28 = .ok (.iconst 0, 1) := by decide +kernel
theorem dX6_chance_29 : decode cX6_chance 29 = .ok (.invokevirtual 152, 3) := by decide +kernel
theorem dX6_chance_32 : decode cX6_chance 32 = .ok (.istore 4, 2) := by decide +kernel
theorem dX6_chance_34 : decode cX6_chance 34 = .ok (.iload 4, 2) := by decide +kernel
theorem dX6_chance_36 : decode cX6_chance 36 = .ok (.ifCond .ge 10, 3) := by decide +kernel
theorem dX6_chance_39 : decode cX6_chance 39 = .ok (.aload_n 0, 1) := by decide +kernel
theorem dX6_chance_40 : decode cX6_chance 40 = .ok (.iload 4, 2) := by decide +kernel
theorem dX6_chance_42 : decode cX6_chance 42 = .ok (.invokevirtual 36, 3) := by decide +kernel
theorem dX6_chance_45 : decode cX6_chance 45 = .ok (.ireturn, 1) := by decide +kernel
theorem dX6_chance_46 : decode cX6_chance 46 = .ok (.iconst 0, 1) := by decide +kernel
theorem dX6_chance_47 : decode cX6_chance 47 = .ok (.istore 5, 2) := by decide +kernel
theorem dX6_chance_49 : decode cX6_chance 49 = .ok (.iconst 0, 1) := by decide +kernel
theorem dX6_chance_50 : decode cX6_chance 50 = .ok (.istore 6, 2) := by decide +kernel
theorem dX6_chance_52 : decode cX6_chance 52 = .ok (.iload 6, 2) := by decide +kernel
theorem dX6_chance_54 : decode cX6_chance 54 = .ok (.iload_n 2, 1) := by decide +kernel
theorem dX6_chance_55 : decode cX6_chance 55 = .ok (.if_icmp .ge 71, 3) := by decide +kernel
theorem dX6_chance_58 : decode cX6_chance 58 = .ok (.aload_n 0, 1) := by decide +kernel
theorem dX6_chance_59 : decode cX6_chance 59 = .ok (.getfield 9, 3) := by decide +kernel
theorem dX6_chance_62 : decode cX6_chance 62 = .ok (.aload_n 0, 1) := by decide +kernel
theorem dX6_chance_63 : decode cX6_chance 63 = .ok (.getfield 16, 3) := by decide +kernel
theorem dX6_chance_66 : decode cX6_chance 66 = .ok (.invokestatic 156, 3) := by decide +kernel
theorem dX6_chance_69 : decode cX6_chance 69 = .ok (.aload_n 0, 1) := by decide +kernel
theorem dX6_chance_70 : decode cX6_chance 70 = .ok (.iload_n 3, 1) := by decide +kernel
theorem dX6_chance_71 : decode cX6_chance 71 = .ok (.invokevirtual 136, 3) := by decide +kernel
theorem dX6_chance_74 : decode cX6_chance 74 = .ok (.pop, 1) := by decide +kernel
theorem dX6_chance_75 : decode cX6_chance 75 = .ok (.iload 5, 2) := by decide +kernel
theorem dX6_chance_77 : decode cX6_chance 77 = .ok (.aload_n 0, 1) := by decide +kernel
theorem dX6_chance_78 : decode cX6_chance 78 = .ok (.iload_n 1, 1) := by decide +kernel
theorem dX6_chance_79 : decode cX6_chance 79 = .ok (.invokevirtual 65, 3) := by decide +kernel
theorem dX6_chance_82 : decode cX6_chance 82 = .ok (.ifCond .eq 7, 3) := by decide +kernel
theorem dX6_chance_85 : decode cX6_chance 85 = .ok (.iconst 1, 1) := by decide +kernel
theorem dX6_chance_86 : decode cX6_chance 86 = .ok (.goto 4, 3) := by decide +kernel
theorem dX6_chance_89 : decode cX6_chance 89 = .ok (.iconst 0, 1) := by decide +kernel
theorem dX6_chance_90 : decode cX6_chance 90 = .ok (.iadd, 1) := by decide +kernel
theorem dX6_chance_91 : decode cX6_chance 91 = .ok (.istore 5, 2) := by decide +kernel
theorem dX6_chance_93 : decode cX6_chance 93 = .ok (.aload_n 0, 1) := by decide +kernel
theorem dX6_chance_94 : decode cX6_chance 94 = .ok (.getfield 9, 3) := by decide +kernel
theorem dX6_chance_97 : decode cX6_chance 97 = .ok (.iconst 1, 1) := by decide +kernel
theorem dX6_chance_98 : decode cX6_chance 98 = .ok (.iaload, 1) := by decide +kernel
theorem dX6_chance_99 : decode cX6_chance 99 = .ok (.istore 7, 2) := by decide +kernel
theorem dX6_chance_101 : decode cX6_chance 101 = .ok (.aload_n 0, 1) := by decide +kernel
theorem dX6_chance_102 : decode cX6_chance 102 = .ok (.getfield 16, 3) := by decide +kernel
theorem dX6_chance_105 : decode cX6_chance 105 = .ok (.aload_n 0, 1) := by decide +kernel
theorem dX6_chance_106 : decode cX6_chance 106 = .ok (.getfield 9, 3) := by decide +kernel
theorem dX6_chance_109 : decode cX6_chance 109 = .ok (.invokestatic 156, 3) := by decide +kernel
theorem dX6_chance_112 : decode cX6_chance 112 = .ok (.aload_n 0, 1) := by decide +kernel
theorem dX6_chance_113 : decode cX6_chance 113 = .ok (.getfield 9, 3) := by decide +kernel
theorem dX6_chance_116 : decode cX6_chance 116 = .ok (.iconst 1, 1) := by decide +kernel
theorem dX6_chance_117 : decode cX6_chance 117 = .ok (.iload 7, 2) := by decide +kernel
theorem dX6_chance_119 : decode cX6_chance 119 = .ok (.iastore, 1) := by decide +kernel
theorem dX6_chance_120 : decode cX6_chance 120 = .ok (.iinc 6 1, 3) := by decide +kernel
theorem dX6_chance_123 : decode cX6_chance 123 = .ok (.goto (-71), 3) := by decide +kernel
theorem dX6_chance_126 : decode cX6_chance 126 = .ok (.iload 5, 2) := by decide +kernel
theorem dX6_chance_128 : decode cX6_chance 128 = .ok (.ireturn, 1) := by decide +kernel
theorem dX6_seed_0 : decode cX6_seed 0 = .ok (.aload_n 0, 1) := by decide +kernel
theorem dX6_seed_1 : decode cX6_seed 1 = .ok (.iconst 1, 1) := by decide +kernel
theorem dX6_seed_2 : decode cX6_seed 2 = .ok (.iload_n 1, 1) := by decide +kernel
theorem dX6_seed_3 : decode cX6_seed 3 = .ok (.invokevirtual 59, 3) := by decide +kernel
theorem dX6_seed_6 : decode cX6_seed 6 = .ok (.ireturn, 1) := by decide +kernel
theorem dX6_feed_0 : decode cX6_feed 0 = .ok (.iload_n 2, 1) := by decide +kernel
theorem dX6_feed_1 : decode cX6_feed 1 = .ok (.i2l, 1) := by decide +kernel
theorem dX6_feed_2 : decode cX6_feed 2 = .ok (.lconst 1, 1) := by decide +kernel
theorem dX6_feed_3 : decode cX6_feed 3 = .ok (.ldc2_w 102, 3) := by decide +kernel
theorem dX6_feed_6 : decode cX6_feed 6 = .ok (.invokestatic 42, 3) := by decide +kernel
theorem dX6_feed_9 : decode cX6_feed 9 = .ok (.ifCond .ne 10, 3) := by decide +kernel
theorem dX6_feed_12 : decode cX6_feed 12 = .ok (.aload_n 0, 1) := by decide +kernel
theorem dX6_feed_13 : decode cX6_feed 13 = .ok (.ldc 34, 2) := by decide +kernel
theorem dX6_feed_15 : decode cX6_feed 15 = .ok (.invokevirtual 36, 3) := by decide +kernel
theorem dX6_feed_18 : decode cX6_feed 18 = .ok (.ireturn, 1) := by decide +kernel
theorem dX6_feed_19 : decode cX6_feed 19 = .ok (.aload_n 0, 1) := by decide +kernel
theorem dX6_feed_20 : decode cX6_feed 20 = .ok (.getfield 173, 3) := by decide +kernel
theorem dX6_feed_23 : decode cX6_feed 23 = .ok (.iload_n 2, 1) := by decide +kernel
theorem dX6_feed_24 : decode cX6_feed 24 = .ok (.iadd, 1) := by decide +kernel
theorem dX6_feed_25 : decode cX6_feed 25 = .ok (.bipush 120, 2) := by decide +kernel
theorem dX6_feed_27 : decode cX6_feed 27 = .ok (.if_icmp .le 10, 3) := by decide +kernel
theorem dX6_feed_30 : decode cX6_feed 30 = .ok (.aload_n 0, 1) := by decide +kernel
theorem dX6_feed_31 : decode cX6_feed 31 = .ok (.ldc 85, 2) := by decide +kernel
theorem dX6_feed_33 : decode cX6_feed 33 = .ok (.invokevirtual 36, 3) := by decide +kernel
theorem dX6_feed_36 : decode cX6_feed 36 = .ok (.ireturn, 1) := by decide +kernel
theorem dX6_feed_37 : decode cX6_feed 37 = .ok (.iload_n 2, 1) := by decide +kernel
theorem dX6_feed_38 : decode cX6_feed 38 = .ok (.iconst 1, 1) := by decide +kernel
theorem dX6_feed_39 : decode cX6_feed 39 = .ok (.isub, 1) := by decide +kernel
theorem dX6_feed_40 : decode cX6_feed 40 = .ok (.istore_n 3, 1) := by decide +kernel
theorem dX6_feed_41 : decode cX6_feed 41 = .ok (.iload_n 3, 1) := by decide +kernel
theorem dX6_feed_42 : decode cX6_feed 42 = .ok (.ifCond .lt 38, 3) := by decide +kernel
theorem dX6_feed_45 : decode cX6_feed 45 = .ok (.aload_n 0, 1) := by decide +kernel
theorem dX6_feed_46 : decode cX6_feed 46 = .ok (.getfield 22, 3) := by decide +kernel
theorem dX6_feed_49 : decode cX6_feed 49 = .ok (.aload_n 0, 1) := by decide +kernel
theorem dX6_feed_50 : decode cX6_feed 50 = .ok (.getfield 173, 3) := by decide +kernel
theorem dX6_feed_53 : decode cX6_feed 53 = .ok (.iload_n 1, 1) := by decide +kernel
theorem dX6_feed_54 : decode cX6_feed 54 = .ok (.bipush 8, 2) := by decide +kernel
theorem dX6_feed_56 : decode cX6_feed 56 = .ok (.iload_n 3, 1) := by decide +kernel
theorem dX6_feed_57 : decode cX6_feed 57 = .ok (.imul, 1) := by decide +kernel
theorem dX6_feed_58 : decode cX6_feed 58 = .ok (.ishr, 1) := by decide +kernel
theorem dX6_feed_59 : decode cX6_feed 59 = .ok (.sipush 255, 3) := by decide +kernel
theorem dX6_feed_62 : decode cX6_feed 62 = .ok (.iand, 1) := by decide +kernel
theorem dX6_feed_63 : decode cX6_feed 63 = .ok (.iastore, 1) := by decide +kernel
theorem dX6_feed_64 : decode cX6_feed 64 = .ok (.aload_n 0, 1) := by decide +kernel
theorem dX6_feed_65 : decode cX6_feed 65 = .ok (.dup, 1) := by decide +kernel
theorem dX6_feed_66 : decode cX6_feed 66 = .ok (.getfield 173, 3) := by decide +kernel
theorem dX6_feed_69 : decode cX6_feed 69 = .ok (.iconst 1, 1) := by decide +kernel
theorem dX6_feed_70 : decode cX6_feed 70 = .ok (.iadd, 1) := by decide +kernel
theorem dX6_feed_71 : decode cX6_feed 71 = .ok (.putfield 173, 3) := by decide +kernel
theorem dX6_feed_74 : decode cX6_feed 74 = .ok (.iinc 3 (-1), 3) := by decide +kernel
theorem dX6_feed_77 : decode cX6_feed 77 = .ok (.goto (-36), 3) := by decide +kernel
theorem dX6_feed_80 : decode cX6_feed 80 = .ok (.aload_n 0, 1) := by decide +kernel
theorem dX6_feed_81 : decode cX6_feed 81 = .ok (.getfield 173, 3) := by decide +kernel
theorem dX6_feed_84 : decode cX6_feed 84 = .ok (.ireturn, 1) := by decide +kernel
theorem dX6_wipe_0 : decode cX6_wipe 0 = .ok (.aload_n 0, 1) := by decide +kernel
theorem dX6_wipe_1 : decode cX6_wipe 1 = .ok (.getfield 173, 3) := by decide +kernel
theorem dX6_wipe_4 : decode cX6_wipe 4 = .ok (.istore_n 1, 1) := by decide +kernel
theorem dX6_wipe_5 : decode cX6_wipe 5 = .ok (.aload_n 0, 1) := by decide +kernel
theorem dX6_wipe_6 : decode cX6_wipe 6 = .ok (.iconst 0, 1) := by decide +kernel
theorem dX6_wipe_7 : decode cX6_wipe 7 = .ok (.putfield 173, 3) := by decide +kernel
theorem dX6_wipe_10 : decode cX6_wipe 10 = .ok (.iload_n 1, 1) := by decide +kernel
theorem dX6_wipe_11 : decode cX6_wipe 11 = .ok (.ireturn, 1) := by decide +kernel
theorem dX6_isByte_0 : decode cX6_isByte 0 = .ok (.iload_n 1, 1) := by decide +kernel
theorem dX6_isByte_1 : decode cX6_isByte 1 = .ok (.aload_n 0, 1) := by decide +kernel
theorem dX6_isByte_2 : decode cX6_isByte 2 = .ok (.getfield 173, 3) := by decide +kernel
theorem dX6_isByte_5 : decode cX6_isByte 5 = .ok (.if_icmp .ge 24, 3) := by decide +kernel
theorem dX6_isByte_8 : decode cX6_isByte 8 = .ok (.aload_n 0, 1) := by decide +kernel
theorem dX6_isByte_9 : decode cX6_isByte 9 = .ok (.getfield 22, 3) := by decide +kernel
theorem dX6_isByte_12 : decode cX6_isByte 12 = .ok (.iload_n 1, 1) := by decide +kernel
theorem dX6_isByte_13 : decode cX6_isByte 13 = .ok (.iaload, 1) := by decide +kernel
theorem dX6_isByte_14 : decode cX6_isByte 14 = .ok (.i2l, 1) := by decide +kernel
theorem dX6_isByte_15 : decode cX6_isByte 15 = .ok (.iload_n 2, 1) := by decide +kernel
theorem dX6_isByte_16 : decode cX6_isByte 16 = .ok (.i2l, 1) := by decide +kernel
theorem dX6_isByte_17 : decode cX6_isByte 17 = .ok (.iload_n 3, 1) := by decide +kernel
theorem dX6_isByte_18 : decode cX6_isByte 18 = .ok (.i2l, 1) := by decide +kernel
theorem dX6_isByte_19 : decode cX6_isByte 19 = .ok (.invokestatic 42, 3) := by decide +kernel
theorem dX6_isByte_22 : decode cX6_isByte 22 = .ok (.ifCond .eq 7, 3) := by decide +kernel
theorem dX6_isByte_25 : decode cX6_isByte 25 = .ok (.iconst 1, 1) := by decide +kernel
theorem dX6_isByte_26 : decode cX6_isByte 26 = .ok (.goto 4, 3) := by decide +kernel
theorem dX6_isByte_29 : decode cX6_isByte 29 = .ok (.iconst 0, 1) := by decide +kernel
theorem dX6_isByte_30 : decode cX6_isByte 30 = .ok (.ireturn, 1) := by decide +kernel
theorem dX6_token_0 : decode cX6_token 0 = .ok (.aload_n 0, 1) := by decide +kernel
theorem dX6_token_1 : decode cX6_token 1 = .ok (.aload_n 0, 1) := by decide +kernel
theorem dX6_token_2 : decode cX6_token 2 = .ok (.getfield 177, 3) := by decide +kernel
theorem dX6_token_5 : decode cX6_token 5 = .ok (.putfield 180, 3) := by decide +kernel
theorem dX6_token_8 : decode cX6_token 8 = .ok (.aload_n 0, 1) := by decide +kernel
theorem dX6_token_9 : decode cX6_token 9 = .ok (.aload_n 0, 1) := by decide +kernel
theorem dX6_token_10 : decode cX6_token 10 = .ok (.getfield 180, 3) := by decide +kernel
theorem dX6_token_13 : decode cX6_token 13 = .ok (.bipush 32, 2) := by decide +kernel
theorem dX6_token_15 : decode cX6_token 15 = .ok (.bipush 32, 2) := by decide +kernel
theorem dX6_token_17 : decode cX6_token 17 = .ok (.invokevirtual 183, 3) := by decide +kernel
theorem dX6_token_20 : decode cX6_token 20 = .ok (.ifCond .eq 16, 3) := by decide +kernel
theorem dX6_token_23 : decode cX6_token 23 = .ok (.aload_n 0, 1) := by decide +kernel
theorem dX6_token_24 : decode cX6_token 24 = .ok (.dup, 1) := by decide +kernel
theorem dX6_token_25 : decode cX6_token 25 = .ok (.getfield 180, 3) := by decide +kernel
theorem dX6_token_28 : decode cX6_token 28 = .ok (.iconst 1, 1) := by decide +kernel
theorem dX6_token_29 : decode cX6_token 29 = .ok (.iadd, 1) := by decide +kernel
theorem dX6_token_30 : decode cX6_token 30 = .ok (.putfield 180, 3) := by decide +kernel
theorem dX6_token_33 : decode cX6_token 33 = .ok (.goto (-25), 3) := by decide +kernel
theorem dX6_token_36 : decode cX6_token 36 = .ok (.aload_n 0, 1) := by decide +kernel
theorem dX6_token_37 : decode cX6_token 37 = .ok (.aload_n 0, 1) := by decide +kernel
theorem dX6_token_38 : decode cX6_token 38 = .ok (.getfield 180, 3) := by decide +kernel
theorem dX6_token_41 : decode cX6_token 41 = .ok (.putfield 177, 3) := by decide +kernel
theorem dX6_token_44 : decode cX6_token 44 = .ok (.aload_n 0, 1) := by decide +kernel
theorem dX6_token_45 : decode cX6_token 45 = .ok (.iconst 0, 1) := by decide +kernel
theorem dX6_token_46 : decode cX6_token 46 = .ok (.putfield 187, 3) := by decide +kernel
theorem dX6_token_49 : decode cX6_token 49 = .ok (.aload_n 0, 1) := by decide +kernel
theorem dX6_token_50 : decode cX6_token 50 = .ok (.aload_n 0, 1) := by decide +kernel
theorem dX6_token_51 : decode cX6_token 51 = .ok (.getfield 180, 3) := by decide +kernel
theorem dX6_token_54 : decode cX6_token 54 = .ok (.aload_n 0, 1) := by decide +kernel
theorem dX6_token_55 : decode cX6_token 55 = .ok (.getfield 173, 3) := by decide +kernel
theorem dX6_token_58 : decode cX6_token 58 = .ok (.if_icmp .ne 7, 3) := by decide +kernel
theorem dX6_token_61 : decode cX6_token 61 = .ok (.iconst 0, 1) := by decide +kernel
theorem dX6_token_62 : decode cX6_token 62 = .ok (.goto 42, 3) := by decide +kernel
theorem dX6_token_65 : decode cX6_token 65 = .ok (.aload_n 0, 1) := by decide +kernel
theorem dX6_token_66 : decode cX6_token 66 = .ok (.aload_n 0, 1) := by decide +kernel
theorem dX6_token_67 : decode cX6_token 67 = .ok (.getfield 180, 3) := by decide +kernel
theorem dX6_token_70 : decode cX6_token 70 = .ok (.bipush 97, 2) := by decide +kernel
theorem dX6_token_72 : decode cX6_token 72 = .ok (.bipush 122, 2) := by decide +kernel
theorem dX6_token_74 : decode cX6_token 74 = .ok (.invokevirtual 183, 3) := by decide +kernel
theorem dX6_token_77 : decode cX6_token 77 = .ok (.ifCond .eq 7, 3) := by decide +kernel
theorem dX6_token_80 : decode cX6_token 80 = .ok (.iconst 1, 1) := by decide +kernel
theorem dX6_token_81 : decode cX6_token 81 = .ok (.goto 23, 3) := by decide +kernel
theorem dX6_token_84 : decode cX6_token 84 = .ok (.aload_n 0, 1) := by decide +kernel
theorem dX6_token_85 : decode cX6_token 85 = .ok (.aload_n 0, 1) := by decide +kernel
theorem dX6_token_86 : decode cX6_token 86 = .ok (.getfield 180, 3) := by decide +kernel
theorem dX6_token_89 : decode cX6_token 89 = .ok (.bipush 48, 2) := by decide +kernel
theorem dX6_token_91 : decode cX6_token 91 = .ok (.bipush 57, 2) := by decide +kernel
theorem dX6_token_93 : decode cX6_token 93 = .ok (.invokevirtual 183, 3) := by decide +kernel
theorem dX6_token_96 : decode cX6_token 96 = .ok (.ifCond .eq 7, 3) := by decide +kernel
theorem dX6_token_99 : decode cX6_token 99 = .ok (.iconst 2, 1) := by decide +kernel
theorem dX6_token_100 : decode cX6_token 100 = .ok (.goto 4, 3) := by decide +kernel
theorem dX6_token_103 : decode cX6_token 103 = .ok (.iconst 3, 1) := by decide +kernel
theorem dX6_token_104 : decode cX6_token 104 = .ok (.putfield 190, 3) := by decide +kernel
theorem dX6_token_107 : decode cX6_token 107 = .ok (.aload_n 0, 1) := by decide +kernel
theorem dX6_token_108 : decode cX6_token 108 = .ok (.getfield 190, 3) := by decide +kernel
theorem dX6_token_111 : decode cX6_token 111 = .ok (.iconst 3, 1) := by decide +kernel
theorem dX6_token_112 : decode cX6_token 112 = .ok (.if_icmp .ne 13, 3) := by decide +kernel
theorem dX6_token_115 : decode cX6_token 115 = .ok (.aload_n 0, 1) := by decide +kernel
theorem dX6_token_116 : decode cX6_token 116 = .ok (.dup, 1) := by decide +kernel
theorem dX6_token_117 : decode cX6_token 117 = .ok (.getfield 177, 3) := by decide +kernel
theorem dX6_token_120 : decode cX6_token 120 = .ok (.iconst 1, 1) := by decide +kernel
theorem dX6_token_121 : decode cX6_token 121 = .ok (.iadd, 1) := by decide +kernel
theorem dX6_token_122 : decode cX6_token 122 = .ok (.putfield 177, 3) := by decide +kernel
theorem dX6_token_125 : decode cX6_token 125 = .ok (.aload_n 0, 1) := by decide +kernel
theorem dX6_token_126 : decode cX6_token 126 = .ok (.getfield 190, 3) := by decide +kernel
theorem dX6_token_129 : decode cX6_token 129 = .ok (.iconst 1, 1) := by decide +kernel
theorem dX6_token_130 : decode cX6_token 130 = .ok (.if_icmp .ne 31, 3) := by decide +kernel
theorem dX6_token_133 : decode cX6_token 133 = .ok (.aload_n 0, 1) := by decide +kernel
theorem dX6_token_134 : decode cX6_token 134 = .ok (.aload_n 0, 1) := by decide +kernel
theorem dX6_token_135 : decode cX6_token 135 = .ok (.getfield 177, 3) := by decide +kernel
theorem dX6_token_138 : decode cX6_token 138 = .ok (.bipush 97, 2) := by decide +kernel
theorem dX6_token_140 : decode cX6_token 140 = .ok (.bipush 122, 2) := by decide +kernel
theorem dX6_token_142 : decode cX6_token 142 = .ok (.invokevirtual 183, 3) := by decide +kernel
theorem dX6_token_145 : decode cX6_token 145 = .ok (.ifCond .eq 16, 3) := by decide +kernel
theorem dX6_token_148 : decode cX6_token 148 = .ok (.aload_n 0, 1) := by decide +kernel
theorem dX6_token_149 : decode cX6_token 149 = .ok (.dup, 1) := by decide +kernel
theorem dX6_token_150 : decode cX6_token 150 = .ok (.getfield 177, 3) := by decide +kernel
theorem dX6_token_153 : decode cX6_token 153 = .ok (.iconst 1, 1) := by decide +kernel
theorem dX6_token_154 : decode cX6_token 154 = .ok (.iadd, 1) := by decide +kernel
theorem dX6_token_155 : decode cX6_token 155 = .ok (.putfield 177, 3) := by decide +kernel
theorem dX6_token_158 : decode cX6_token 158 = .ok (.goto (-33), 3) := by decide +kernel
theorem dX6_token_161 : decode cX6_token 161 = .ok (.aload_n 0, 1) := by decide +kernel
theorem dX6_token_162 : decode cX6_token 162 = .ok (.getfield 190, 3) := by decide +kernel
theorem dX6_token_165 : decode cX6_token 165 = .ok (.iconst 2, 1) := by decide +kernel
theorem dX6_token_166 : decode cX6_token 166 = .ok (.if_icmp .ne 72, 3) := by decide +kernel
theorem dX6_token_169 : decode cX6_token 169 = .ok (.aload_n 0, 1) := by decide +kernel
theorem dX6_token_170 : decode cX6_token 170 = .ok (.aload_n 0, 1) := by decide +kernel
theorem dX6_token_171 : decode cX6_token 171 = .ok (.getfield 177, 3) := by decide +kernel
theorem dX6_token_174 : decode cX6_token 174 = .ok (.bipush 48, 2) := by decide +kernel
theorem dX6_token_176 : decode cX6_token 176 = .ok (.bipush 57, 2) := by decide +kernel
theorem dX6_token_178 : decode cX6_token 178 = .ok (.invokevirtual 183, 3) := by decide +kernel
theorem dX6_token_181 : decode cX6_token 181 = .ok (.ifCond .eq 57, 3) := by decide +kernel
theorem dX6_token_184 : decode cX6_token 184 = .ok (.aload_n 0, 1) := by decide +kernel
theorem dX6_token_185 : decode cX6_token 185 = .ok (.aload_n 0, 1) := by decide +kernel
theorem dX6_token_186 : decode cX6_token 186 = .ok (.getfield 187, 3) := by decide +kernel
theorem dX6_token_189 : decode cX6_token 189 = .ok (.sipush 9999, 3) := by decide +kernel
theorem dX6_token_192 : decode cX6_token 192 = .ok (.if_icmp .le 10, 3) := by decide +kernel
theorem dX6_token_195 : decode cX6_token 195 = .ok (.aload_n 0, 1) := by decide +kernel
theorem dX6_token_196 : decode cX6_token 196 = .ok (.getfield 187, 3) := by decide +kernel
theorem dX6_token_199 : decode cX6_token 199 = .ok (.goto 23, 3) := by decide +kernel
theorem dX6_token_202 : decode cX6_token 202 = .ok (.bipush 10, 2) := by decide +kernel
theorem dX6_token_204 : decode cX6_token 204 = .ok (.aload_n 0, 1) := by decide +kernel
theorem dX6_token_205 : decode cX6_token 205 = .ok (.getfield 187, 3) := by decide +kernel
theorem dX6_token_208 : decode cX6_token 208 = .ok (.imul, 1) := by decide +kernel
theorem dX6_token_209 : decode cX6_token 209 = .ok (.aload_n 0, 1) := by decide +kernel
theorem dX6_token_210 : decode cX6_token 210 = .ok (.getfield 22, 3) := by decide +kernel
theorem dX6_token_213 : decode cX6_token 213 = .ok (.aload_n 0, 1) := by decide +kernel
theorem dX6_token_214 : decode cX6_token 214 = .ok (.getfield 177, 3) := by decide +kernel
theorem dX6_token_217 : decode cX6_token 217 = .ok (.iaload, 1) := by decide +kernel
theorem dX6_token_218 : decode cX6_token 218 = .ok (.iadd, 1) := by decide +kernel
theorem dX6_token_219 : decode cX6_token 219 = .ok (.bipush 48, 2) := by decide +kernel
theorem dX6_token_221 : decode cX6_token 221 = .ok (.isub, 1) := by decide +kernel
theorem dX6_token_222 : decode cX6_token 222 = .ok (.putfield 187, 3) := by decide +kernel
theorem dX6_token_225 : decode cX6_token 225 = .ok (.aload_n 0, 1) := by decide +kernel
theorem dX6_token_226 : decode cX6_token 226 = .ok (.dup, 1) := by decide +kernel
theorem dX6_token_227 : decode cX6_token 227 = .ok (.getfield 177, 3) := by decide +kernel
theorem dX6_token_230 : decode cX6_token 230 = .ok (.iconst 1, 1) := by decide +kernel
theorem dX6_token_231 : decode cX6_token 231 = .ok (.iadd, 1) := by decide +kernel
theorem dX6_token_232 : decode cX6_token 232 = .ok (.putfield 177, 3) := by decide +kernel
theorem dX6_token_235 : decode cX6_token 235 = .ok (.goto (-74), 3) := by decide +kernel
theorem dX6_token_238 : decode cX6_token 238 = .ok (.return_, 1) := by decide +kernel
theorem dX6_isWord_0 : decode cX6_isWord 0 = .ok (.aload_n 0, 1) := by decide +kernel
theorem dX6_isWord_1 : decode cX6_isWord 1 = .ok (.getfield 193, 3) := by decide +kernel
theorem dX6_isWord_4 : decode cX6_isWord 4 = .ok (.ifCond .ne 31, 3) := by decide +kernel
theorem dX6_isWord_7 : decode cX6_isWord 7 = .ok (.aload_n 0, 1) := by decide +kernel
theorem dX6_isWord_8 : decode cX6_isWord 8 = .ok (.getfield 190, 3) := by decide +kernel
theorem dX6_isWord_11 : decode cX6_isWord 11 = .ok (.iconst 1, 1) := by decide +kernel
theorem dX6_isWord_12 : decode cX6_isWord 12 = .ok (.if_icmp .ne 23, 3) := by decide +kernel
theorem dX6_isWord_15 : decode cX6_isWord 15 = .ok (.aload_n 0, 1) := by decide +kernel
theorem dX6_isWord_16 : decode cX6_isWord 16 = .ok (.getfield 177, 3) := by decide +kernel
theorem dX6_isWord_19 : decode cX6_isWord 19 = .ok (.aload_n 0, 1) := by decide +kernel
theorem dX6_isWord_20 : decode cX6_isWord 20 = .ok (.getfield 180, 3) := by decide +kernel
theorem dX6_isWord_23 : decode cX6_isWord 23 = .ok (.isub, 1) := by decide +kernel
theorem dX6_isWord_24 : decode cX6_isWord 24 = .ok (.aload_n 1, 1) := by decide +kernel
theorem dX6_isWord_25 : decode cX6_isWord 25 = .ok (.invokevirtual 197, 3) := by decide +kernel
theorem dX6_isWord_28 : decode cX6_isWord 28 = .ok (.if_icmp .ne 7, 3) := by decide +kernel
theorem dX6_isWord_31 : decode cX6_isWord 31 = .ok (.iconst 1, 1) := by decide +kernel
theorem dX6_isWord_32 : decode cX6_isWord 32 = .ok (.goto 4, 3) := by decide +kernel
theorem dX6_isWord_35 : decode cX6_isWord 35 = .ok (.iconst 0, 1) := by decide +kernel
theorem dX6_isWord_36 : decode cX6_isWord 36 = .ok (.istore_n 2, 1) := by decide +kernel
theorem dX6_isWord_37 : decode cX6_isWord 37 = .ok (.iconst 0, 1) := by decide +kernel
theorem dX6_isWord_38 : decode cX6_isWord 38 = .ok (.istore_n 3, 1) := by decide +kernel
theorem dX6_isWord_39 : decode cX6_isWord 39 = .ok (.iload_n 2, 1) := by decide +kernel
theorem dX6_isWord_40 : decode cX6_isWord 40 = .ok (.ifCond .eq 42, 3) := by decide +kernel
theorem dX6_isWord_43 : decode cX6_isWord 43 = .ok (.iload_n 3, 1) := by decide +kernel
theorem dX6_isWord_44 : decode cX6_isWord 44 = .ok (.aload_n 1, 1) := by decide +kernel
theorem dX6_isWord_45 : decode cX6_isWord 45 = .ok (.invokevirtual 197, 3) := by decide +kernel
theorem dX6_isWord_48 : decode cX6_isWord 48 = .ok (.if_icmp .ge 34, 3) := by decide +kernel
theorem dX6_isWord_51 : decode cX6_isWord 51 = .ok (.aload_n 0, 1) := by decide +kernel
theorem dX6_isWord_52 : decode cX6_isWord 52 = .ok (.getfield 22, 3) := by decide +kernel
theorem dX6_isWord_55 : decode cX6_isWord 55 = .ok (.aload_n 0, 1) := by decide +kernel
theorem dX6_isWord_56 : decode cX6_isWord 56 = .ok (.getfield 180, 3) := by decide +kernel
theorem dX6_isWord_59 : decode cX6_isWord 59 = .ok (.iload_n 3, 1) := by decide +kernel
theorem dX6_isWord_60 : decode cX6_isWord 60 = .ok (.iadd, 1) := by decide +kernel
theorem dX6_isWord_61 : decode cX6_isWord 61 = .ok (.iaload, 1) := by decide +kernel
theorem dX6_isWord_62 : decode cX6_isWord 62 = .ok (.aload_n 1, 1) := by decide +kernel
theorem dX6_isWord_63 : decode cX6_isWord 63 = .ok (.iload_n 3, 1) := by decide +kernel
theorem dX6_isWord_64 : decode cX6_isWord 64 = .ok (.invokevirtual 202, 3) := by decide +kernel
theorem dX6_isWord_67 : decode cX6_isWord 67 = .ok (.if_icmp .ne 7, 3) := by decide +kernel
theorem dX6_isWord_70 : decode cX6_isWord 70 = .ok (.iconst 1, 1) := by decide +kernel
theorem dX6_isWord_71 : decode cX6_isWord 71 = .ok (.goto 4, 3) := by decide +kernel
theorem dX6_isWord_74 : decode cX6_isWord 74 = .ok (.iconst 0, 1) := by decide +kernel
theorem dX6_isWord_75 : decode cX6_isWord 75 = .ok (.istore_n 2, 1) := by decide +kernel
theorem dX6_isWord_76 : decode cX6_isWord 76 = .ok (.iinc 3 1, 3) := by decide +kernel
theorem dX6_isWord_79 : decode cX6_isWord 79 = .ok (.goto (-40), 3) := by decide +kernel
theorem dX6_isWord_82 : decode cX6_isWord 82 = .ok (.iload_n 2, 1) := by decide +kernel
theorem dX6_isWord_83 : decode cX6_isWord 83 = .ok (.ireturn, 1) := by decide +kernel
theorem dX6_takes_0 : decode cX6_takes 0 = .ok (.aload_n 0, 1) := by decide +kernel
theorem dX6_takes_1 : decode cX6_takes 1 = .ok (.aload_n 1, 1) := by decide +kernel
theorem dX6_takes_2 : decode cX6_takes 2 = .ok (.invokevirtual 206, 3) := by decide +kernel
theorem dX6_takes_5 : decode cX6_takes 5 = .ok (.ifCond .ne 5, 3) := by decide +kernel
theorem dX6_takes_8 : decode cX6_takes 8 = .ok (.iconst 0, 1) := by decide +kernel
theorem dX6_takes_9 : decode cX6_takes 9 = .ok (.ireturn, 1) := by decide +kernel
theorem dX6_takes_10 : decode cX6_takes 10 = .ok (.aload_n 0, 1) := by decide +kernel
theorem dX6_takes_11 : decode cX6_takes 11 = .ok (.invokevirtual 210, 3) := by decide +kernel
theorem dX6_takes_14 : decode cX6_takes 14 = .ok (.iconst 1, 1) := by decide +kernel
theorem dX6_takes_15 : decode cX6_takes 15 = .ok (.ireturn, 1) := by decide +kernel
theorem dX6_isSign_0 : decode cX6_isSign 0 = .ok (.aload_n 0, 1) := by decide +kernel
theorem dX6_isSign_1 : decode cX6_isSign 1 = .ok (.getfield 193, 3) := by decide +kernel
theorem dX6_isSign_4 : decode cX6_isSign 4 = .ok (.ifCond .ne 28, 3) := by decide +kernel
theorem dX6_isSign_7 : decode cX6_isSign 7 = .ok (.aload_n 0, 1) := by decide +kernel
theorem dX6_isSign_8 : decode cX6_isSign 8 = .ok (.getfield 190, 3) := by decide +kernel
theorem dX6_isSign_11 : decode cX6_isSign 11 = .ok (.iconst 3, 1) := by decide +kernel
theorem dX6_isSign_12 : decode cX6_isSign 12 = .ok (.if_icmp .ne 20, 3) := by decide +kernel
theorem dX6_isSign_15 : decode cX6_isSign 15 = .ok (.aload_n 0, 1) := by decide +kernel
theorem dX6_isSign_16 : decode cX6_isSign 16 = .ok (.getfield 22, 3) := by decide +kernel
theorem dX6_isSign_19 : decode cX6_isSign 19 = .ok (.aload_n 0, 1) := by decide +kernel
theorem dX6_isSign_20 : decode cX6_isSign 20 = .ok (.getfield 180, 3) := by decide +kernel
theorem dX6_isSign_23 : decode cX6_isSign 23 = .ok (.iaload, 1) := by decide +kernel
theorem dX6_isSign_24 : decode cX6_isSign 24 = .ok (.iload_n 1, 1) := by decide +kernel
theorem dX6_isSign_25 : decode cX6_isSign 25 = .ok (.if_icmp .ne 7, 3) := by decide +kernel
theorem dX6_isSign_28 : decode cX6_isSign 28 = .ok (.iconst 1, 1) := by decide +kernel
theorem dX6_isSign_29 : decode cX6_isSign 29 = .ok (.goto 4, 3) := by decide +kernel
theorem dX6_isSign_32 : decode cX6_isSign 32 = .ok (.iconst 0, 1) := by decide +kernel
theorem dX6_isSign_33 : decode cX6_isSign 33 = .ok (.ireturn, 1) := by decide +kernel
theorem dX6_number_0 : decode cX6_number 0 = .ok (.aload_n 0, 1) := by decide +kernel
theorem dX6_number_1 : decode cX6_number 1 = .ok (.aload_n 0, 1) := by decide +kernel
theorem dX6_number_2 : decode cX6_number 2 = .ok (.getfield 193, 3) := by decide +kernel
theorem dX6_number_5 : decode cX6_number 5 = .ok (.ifCond .ne 26, 3) := by decide +kernel
theorem dX6_number_8 : decode cX6_number 8 = .ok (.aload_n 0, 1) := by decide +kernel
theorem dX6_number_9 : decode cX6_number 9 = .ok (.getfield 190, 3) := by decide +kernel
theorem dX6_number_12 : decode cX6_number 12 = .ok (.iconst 2, 1) := by decide +kernel
theorem dX6_number_13 : decode cX6_number 13 = .ok (.if_icmp .ne 18, 3) := by decide +kernel
theorem dX6_number_16 : decode cX6_number 16 = .ok (.aload_n 0, 1) := by decide +kernel
theorem dX6_number_17 : decode cX6_number 17 = .ok (.getfield 187, 3) := by decide +kernel
theorem dX6_number_20 : decode cX6_number 20 = .ok (.i2l, 1) := by decide +kernel
theorem dX6_number_21 : decode cX6_number 21 = .ok (.iload_n 1, 1) := by decide +kernel
theorem dX6_number_22 : decode cX6_number 22 = .ok (.i2l, 1) := by decide +kernel
theorem dX6_number_23 : decode cX6_number 23 = .ok (.iload_n 2, 1) := by decide +kernel
theorem dX6_number_24 : decode cX6_number 24 = .ok (.i2l, 1) := by decide +kernel
theorem dX6_number_25 : decode cX6_number 25 = .ok (.invokestatic 42, 3) := by decide +kernel
theorem dX6_number_28 : decode cX6_number 28 = .ok (.ifCond .ne 7, 3) := by decide +kernel
theorem dX6_number_31 : decode cX6_number 31 = .ok (.iconst 1, 1) := by decide +kernel
theorem dX6_number_32 : decode cX6_number 32 = .ok (.goto 4, 3) := by decide +kernel
theorem dX6_number_35 : decode cX6_number 35 = .ok (.iconst 0, 1) := by decide +kernel
theorem dX6_number_36 : decode cX6_number 36 = .ok (.putfield 193, 3) := by decide +kernel
theorem dX6_number_39 : decode cX6_number 39 = .ok (.aload_n 0, 1) := by decide +kernel
theorem dX6_number_40 : decode cX6_number 40 = .ok (.getfield 187, 3) := by decide +kernel
theorem dX6_number_43 : decode cX6_number 43 = .ok (.istore_n 3, 1) := by decide +kernel
theorem dX6_number_44 : decode cX6_number 44 = .ok (.aload_n 0, 1) := by decide +kernel
theorem dX6_number_45 : decode cX6_number 45 = .ok (.getfield 193, 3) := by decide +kernel
theorem dX6_number_48 : decode cX6_number 48 = .ok (.ifCond .ne 7, 3) := by decide +kernel
theorem dX6_number_51 : decode cX6_number 51 = .ok (.aload_n 0, 1) := by decide +kernel
theorem dX6_number_52 : decode cX6_number 52 = .ok (.invokevirtual 210, 3) := by decide +kernel
theorem dX6_number_55 : decode cX6_number 55 = .ok (.iload_n 3, 1) := by decide +kernel
theorem dX6_number_56 : decode cX6_number 56 = .ok (.ireturn, 1) := by decide +kernel
theorem dX6_tells_0 : decode cX6_tells 0 = .ok (.aload_n 0, 1) := by decide +kernel
theorem dX6_tells_1 : decode cX6_tells 1 = .ok (.getfield 193, 3) := by decide +kernel
theorem dX6_tells_4 : decode cX6_tells 4 = .ok (.ifCond .ne 10, 3) := by decide +kernel
theorem dX6_tells_7 : decode cX6_tells 7 = .ok (.aload_n 0, 1) := by decide +kernel
theorem dX6_tells_8 : decode cX6_tells 8 = .ok (.getfield 9, 3) := by decide +kernel
theorem dX6_tells_11 : decode cX6_tells 11 = .ok (.iload_n 1, 1) := by decide +kernel
theorem dX6_tells_12 : decode cX6_tells 12 = .ok (.iload_n 2, 1) := by decide +kernel
theorem dX6_tells_13 : decode cX6_tells 13 = .ok (.iastore, 1) := by decide +kernel
theorem dX6_tells_14 : decode cX6_tells 14 = .ok (.return_, 1) := by decide +kernel
theorem dX6_kindHere_0 : decode cX6_kindHere 0 = .ok (.aload_n 0, 1) := by decide +kernel
theorem dX6_kindHere_1 : decode cX6_kindHere 1 = .ok (.ldc 213, 2) := by decide +kernel
theorem dX6_kindHere_3 : decode cX6_kindHere 3 = .ok (.invokevirtual 206, 3) := by decide +kernel
theorem dX6_kindHere_6 : decode cX6_kindHere 6 = .ok (.ifCond .eq 5, 3) := by decide +kernel
theorem dX6_kindHere_9 : decode cX6_kindHere 9 = .ok (.iconst 0, 1) := by decide +kernel
theorem dX6_kindHere_10 : decode cX6_kindHere 10 = .ok (.ireturn, 1) := by decide +kernel
theorem dX6_kindHere_11 : decode cX6_kindHere 11 = .ok (.aload_n 0, 1) := by decide +kernel
theorem dX6_kindHere_12 : decode cX6_kindHere 12 = .ok (.ldc 215, 2) := by decide +kernel
theorem dX6_kindHere_14 : decode cX6_kindHere 14 = .ok (.invokevirtual 206, 3) := by decide +kernel
theorem dX6_kindHere_17 : decode cX6_kindHere 17 = .ok (.ifCond .eq 5, 3) := by decide +kernel
theorem dX6_kindHere_20 : decode cX6_kindHere 20 = .ok (.iconst 1, 1) := by decide +kernel
theorem dX6_kindHere_21 : decode cX6_kindHere 21 = .ok (.ireturn, 1) := by decide +kernel
theorem dX6_kindHere_22 : decode cX6_kindHere 22 = .ok (.aload_n 0, 1) := by decide +kernel
theorem dX6_kindHere_23 : decode cX6_kindHere 23 = .ok (.ldc 217, 2) := by decide +kernel
theorem dX6_kindHere_25 : decode cX6_kindHere 25 = .ok (.invokevirtual 206, 3) := by decide +kernel
theorem dX6_kindHere_28 : decode cX6_kindHere 28 = .ok (.ifCond .eq 5, 3) := by decide +kernel
theorem dX6_kindHere_31 : decode cX6_kindHere 31 = .ok (.iconst 2, 1) := by decide +kernel
theorem dX6_kindHere_32 : decode cX6_kindHere 32 = .ok (.ireturn, 1) := by decide +kernel
theorem dX6_kindHere_33 : decode cX6_kindHere 33 = .ok (.aload_n 0, 1) := by decide +kernel
theorem dX6_kindHere_34 : decode cX6_kindHere 34 = .ok (.ldc 219, 2) := by decide +kernel
theorem dX6_kindHere_36 : decode cX6_kindHere 36 = .ok (.invokevirtual 206, 3) := by decide +kernel
theorem dX6_kindHere_39 : decode cX6_kindHere 39 = .ok (.ifCond .eq 5, 3) := by decide +kernel
theorem dX6_kindHere_42 : decode cX6_kindHere 42 = .ok (.iconst 3, 1) := by decide +kernel
theorem dX6_kindHere_43 : decode cX6_kindHere 43 = .ok (.ireturn, 1) := by decide +kernel
theorem dX6_kindHere_44 : decode cX6_kindHere 44 = .ok (.aload_n 0, 1) := by decide +kernel
theorem dX6_kindHere_45 : decode cX6_kindHere 45 = .ok (.ldc 221, 2) := by decide +kernel
theorem dX6_kindHere_47 : decode cX6_kindHere 47 = .ok (.invokevirtual 206, 3) := by decide +kernel
theorem dX6_kindHere_50 : decode cX6_kindHere 50 = .ok (.ifCond .eq 5, 3) := by decide +kernel
theorem dX6_kindHere_53 : decode cX6_kindHere 53 = .ok (.iconst 4, 1) := by decide +kernel
theorem dX6_kindHere_54 : decode cX6_kindHere 54 = .ok (.ireturn, 1) := by decide +kernel
theorem dX6_kindHere_55 : decode cX6_kindHere 55 = .ok (.aload_n 0, 1) := by decide +kernel
theorem dX6_kindHere_56 : decode cX6_kindHere 56 = .ok (.ldc 223, 2) := by decide +kernel
theorem dX6_kindHere_58 : decode cX6_kindHere 58 = .ok (.invokevirtual 206, 3) := by decide +kernel
theorem dX6_kindHere_61 : decode cX6_kindHere 61 = .ok (.ifCond .eq 7, 3) := by decide +kernel
theorem dX6_kindHere_64 : decode cX6_kindHere 64 = .ok (.iconst 5, 1) := by decide +kernel
theorem dX6_kindHere_65 : decode cX6_kindHere 65 = .ok (.goto 18, 3) := by decide +kernel
theorem dX6_kindHere_68 : decode cX6_kindHere 68 = .ok (.aload_n 0, 1) := by decide +kernel
theorem dX6_kindHere_69 : decode cX6_kindHere 69 = .ok (.ldc 225, 2) := by decide +kernel
theorem dX6_kindHere_71 : decode cX6_kindHere 71 = .ok (.invokevirtual 206, 3) := by decide +kernel
theorem dX6_kindHere_74 : decode cX6_kindHere 74 = .ok (.ifCond .eq 8, 3) := by decide +kernel
theorem dX6_kindHere_77 : decode cX6_kindHere 77 = .ok (.bipush 6, 2) := by decide +kernel
theorem dX6_kindHere_79 : decode cX6_kindHere 79 = .ok (.goto 4, 3) := by decide +kernel
theorem dX6_kindHere_82 : decode cX6_kindHere 82 = .ok (.iconst (-1), 1) := by decide +kernel
theorem dX6_kindHere_83 : decode cX6_kindHere 83 = .ok (.ireturn, 1) := by decide +kernel
theorem dX6_foodItem_0 : decode cX6_foodItem 0 = .ok (.aload_n 0, 1) := by decide +kernel
theorem dX6_foodItem_1 : decode cX6_foodItem 1 = .ok (.iconst 0, 1) := by decide +kernel
theorem dX6_foodItem_2 : decode cX6_foodItem 2 = .ok (.bipush 9, 2) := by decide +kernel
theorem dX6_foodItem_4 : decode cX6_foodItem 4 = .ok (.invokevirtual 227, 3) := by decide +kernel
theorem dX6_foodItem_7 : decode cX6_foodItem 7 = .ok (.istore_n 1, 1) := by decide +kernel
theorem dX6_foodItem_8 : decode cX6_foodItem 8 = .ok (.aload_n 0, 1) := by decide +kernel
theorem dX6_foodItem_9 : decode cX6_foodItem 9 = .ok (.ldc 229, 2) := by decide +kernel
theorem dX6_foodItem_11 : decode cX6_foodItem 11 = .ok (.invokevirtual 230, 3) := by decide +kernel
theorem dX6_foodItem_14 : decode cX6_foodItem 14 = .ok (.ifCond .eq 20, 3) := by decide +kernel
theorem dX6_foodItem_17 : decode cX6_foodItem 17 = .ok (.aload_n 0, 1) := by decide +kernel
theorem dX6_foodItem_18 : decode cX6_foodItem 18 = .ok (.bipush 10, 2) := by decide +kernel
theorem dX6_foodItem_20 : decode cX6_foodItem 20 = .ok (.iconst 3, 1) := by decide +kernel
theorem dX6_foodItem_21 : decode cX6_foodItem 21 = .ok (.iload_n 1, 1) := by decide +kernel
theorem dX6_foodItem_22 : decode cX6_foodItem 22 = .ok (.imul, 1) := by decide +kernel
theorem dX6_foodItem_23 : decode cX6_foodItem 23 = .ok (.iadd, 1) := by decide +kernel
theorem dX6_foodItem_24 : decode cX6_foodItem 24 = .ok (.aload_n 0, 1) := by decide +kernel
theorem dX6_foodItem_25 : decode cX6_foodItem 25 = .ok (.iconst 0, 1) := by decide +kernel
theorem dX6_foodItem_26 : decode cX6_foodItem 26 = .ok (.bipush 99, 2) := by decide +kernel
theorem dX6_foodItem_28 : decode cX6_foodItem 28 = .ok (.invokevirtual 227, 3) := by decide +kernel
theorem dX6_foodItem_31 : decode cX6_foodItem 31 = .ok (.invokevirtual 233, 3) := by decide +kernel
theorem dX6_foodItem_34 : decode cX6_foodItem 34 = .ok (.aload_n 0, 1) := by decide +kernel
theorem dX6_foodItem_35 : decode cX6_foodItem 35 = .ok (.ldc 236, 2) := by decide +kernel
theorem dX6_foodItem_37 : decode cX6_foodItem 37 = .ok (.invokevirtual 230, 3) := by decide +kernel
theorem dX6_foodItem_40 : decode cX6_foodItem 40 = .ok (.ifCond .eq 22, 3) := by decide +kernel
theorem dX6_foodItem_43 : decode cX6_foodItem 43 = .ok (.aload_n 0, 1) := by decide +kernel
theorem dX6_foodItem_44 : decode cX6_foodItem 44 = .ok (.bipush 10, 2) := by decide +kernel
theorem dX6_foodItem_46 : decode cX6_foodItem 46 = .ok (.iconst 3, 1) := by decide +kernel
theorem dX6_foodItem_47 : decode cX6_foodItem 47 = .ok (.iload_n 1, 1) := by decide +kernel
theorem dX6_foodItem_48 : decode cX6_foodItem 48 = .ok (.imul, 1) := by decide +kernel
theorem dX6_foodItem_49 : decode cX6_foodItem 49 = .ok (.iadd, 1) := by decide +kernel
theorem dX6_foodItem_50 : decode cX6_foodItem 50 = .ok (.iconst 1, 1) := by decide +kernel
theorem dX6_foodItem_51 : decode cX6_foodItem 51 = .ok (.iadd, 1) := by decide +kernel
theorem dX6_foodItem_52 : decode cX6_foodItem 52 = .ok (.aload_n 0, 1) := by decide +kernel
theorem dX6_foodItem_53 : decode cX6_foodItem 53 = .ok (.iconst 0, 1) := by decide +kernel
theorem dX6_foodItem_54 : decode cX6_foodItem 54 = .ok (.bipush 9, 2) := by decide +kernel
theorem dX6_foodItem_56 : decode cX6_foodItem 56 = .ok (.invokevirtual 227, 3) := by decide +kernel
theorem dX6_foodItem_59 : decode cX6_foodItem 59 = .ok (.invokevirtual 233, 3) := by decide +kernel
theorem dX6_foodItem_62 : decode cX6_foodItem 62 = .ok (.return_, 1) := by decide +kernel
theorem dX6_friendItem_0 : decode cX6_friendItem 0 = .ok (.iconst 0, 1) := by decide +kernel
theorem dX6_friendItem_1 : decode cX6_friendItem 1 = .ok (.istore_n 1, 1) := by decide +kernel
theorem dX6_friendItem_2 : decode cX6_friendItem 2 = .ok (.iconst 0, 1) := by decide +kernel
theorem dX6_friendItem_3 : decode cX6_friendItem 3 = .ok (.istore_n 2, 1) := by decide +kernel
theorem dX6_friendItem_4 : decode cX6_friendItem 4 = .ok (.iconst 1, 1) := by decide +kernel
theorem dX6_friendItem_5 : decode cX6_friendItem 5 = .ok (.istore_n 3, 1) := by decide +kernel
theorem dX6_friendItem_6 : decode cX6_friendItem 6 = .ok (.iload_n 3, 1) := by decide +kernel
theorem dX6_friendItem_7 : decode cX6_friendItem 7 = .ok (.ifCond .eq 59, 3) := by decide +kernel
theorem dX6_friendItem_10 : decode cX6_friendItem 10 = .ok (.aload_n 0, 1) := by decide +kernel
theorem dX6_friendItem_11 : decode cX6_friendItem 11 = .ok (.iload_n 2, 1) := by decide +kernel
theorem dX6_friendItem_12 : decode cX6_friendItem 12 = .ok (.bipush 9, 2) := by decide +kernel
theorem dX6_friendItem_14 : decode cX6_friendItem 14 = .ok (.invokevirtual 227, 3) := by decide +kernel
theorem dX6_friendItem_17 : decode cX6_friendItem 17 = .ok (.istore 4, 2) := by decide +kernel
theorem dX6_friendItem_19 : decode cX6_friendItem 19 = .ok (.iload_n 1, 1) := by decide +kernel
theorem dX6_friendItem_20 : decode cX6_friendItem 20 = .ok (.aload_n 0, 1) := by decide +kernel
theorem dX6_friendItem_21 : decode cX6_friendItem 21 = .ok (.getfield 193, 3) := by decide +kernel
theorem dX6_friendItem_24 : decode cX6_friendItem 24 = .ok (.ifCond .eq 7, 3) := by decide +kernel
theorem dX6_friendItem_27 : decode cX6_friendItem 27 = .ok (.iconst 0, 1) := by decide +kernel
theorem dX6_friendItem_28 : decode cX6_friendItem 28 = .ok (.goto 7, 3) := by decide +kernel
theorem dX6_friendItem_31 : decode cX6_friendItem 31 = .ok (.iconst 1, 1) := by decide +kernel
theorem dX6_friendItem_32 : decode cX6_friendItem 32 = .ok (.iload 4, 2) := by decide +kernel
theorem dX6_friendItem_34 : decode cX6_friendItem 34 = .ok (.ishl, 1) := by decide +kernel
theorem dX6_friendItem_35 : decode cX6_friendItem 35 = .ok (.ior, 1) := by decide +kernel
theorem dX6_friendItem_36 : decode cX6_friendItem 36 = .ok (.istore_n 1, 1) := by decide +kernel
theorem dX6_friendItem_37 : decode cX6_friendItem 37 = .ok (.iload 4, 2) := by decide +kernel
theorem dX6_friendItem_39 : decode cX6_friendItem 39 = .ok (.iconst 1, 1) := by decide +kernel
theorem dX6_friendItem_40 : decode cX6_friendItem 40 = .ok (.iadd, 1) := by decide +kernel
theorem dX6_friendItem_41 : decode cX6_friendItem 41 = .ok (.istore_n 2, 1) := by decide +kernel
theorem dX6_friendItem_42 : decode cX6_friendItem 42 = .ok (.aload_n 0, 1) := by decide +kernel
theorem dX6_friendItem_43 : decode cX6_friendItem 43 = .ok (.getfield 193, 3) := by decide +kernel
theorem dX6_friendItem_46 : decode cX6_friendItem 46 = .ok (.ifCond .ne 15, 3) := by decide +kernel
theorem dX6_friendItem_49 : decode cX6_friendItem 49 = .ok (.aload_n 0, 1) := by decide +kernel
theorem dX6_friendItem_50 : decode cX6_friendItem 50 = .ok (.getfield 190, 3) := by decide +kernel
theorem dX6_friendItem_53 : decode cX6_friendItem 53 = .ok (.iconst 2, 1) := by decide +kernel
theorem dX6_friendItem_54 : decode cX6_friendItem 54 = .ok (.if_icmp .ne 7, 3) := by decide +kernel
theorem dX6_friendItem_57 : decode cX6_friendItem 57 = .ok (.iconst 1, 1) := by decide +kernel
theorem dX6_friendItem_58 : decode cX6_friendItem 58 = .ok (.goto 4, 3) := by decide +kernel
theorem dX6_friendItem_61 : decode cX6_friendItem 61 = .ok (.iconst 0, 1) := by decide +kernel
theorem dX6_friendItem_62 : decode cX6_friendItem 62 = .ok (.istore_n 3, 1) := by decide +kernel
theorem dX6_friendItem_63 : decode cX6_friendItem 63 = .ok (.goto (-57), 3) := by decide +kernel
theorem dX6_friendItem_66 : decode cX6_friendItem 66 = .ok (.aload_n 0, 1) := by decide +kernel
theorem dX6_friendItem_67 : decode cX6_friendItem 67 = .ok (.bipush 7, 2) := by decide +kernel
theorem dX6_friendItem_69 : decode cX6_friendItem 69 = .ok (.iload_n 1, 1) := by decide +kernel
theorem dX6_friendItem_70 : decode cX6_friendItem 70 = .ok (.invokevirtual 233, 3) := by decide +kernel
theorem dX6_friendItem_73 : decode cX6_friendItem 73 = .ok (.return_, 1) := by decide +kernel
theorem dX6_tasteItem_0 : decode cX6_tasteItem 0 = .ok (.aload_n 0, 1) := by decide +kernel
theorem dX6_tasteItem_1 : decode cX6_tasteItem 1 = .ok (.aload_n 0, 1) := by decide +kernel
theorem dX6_tasteItem_2 : decode cX6_tasteItem 2 = .ok (.getfield 193, 3) := by decide +kernel
theorem dX6_tasteItem_5 : decode cX6_tasteItem 5 = .ok (.ifCond .ne 19, 3) := by decide +kernel
theorem dX6_tasteItem_8 : decode cX6_tasteItem 8 = .ok (.iload_n 1, 1) := by decide +kernel
theorem dX6_tasteItem_9 : decode cX6_tasteItem 9 = .ok (.ifCond .lt 15, 3) := by decide +kernel
theorem dX6_tasteItem_12 : decode cX6_tasteItem 12 = .ok (.aload_n 0, 1) := by decide +kernel
theorem dX6_tasteItem_13 : decode cX6_tasteItem 13 = .ok (.getfield 9, 3) := by decide +kernel
theorem dX6_tasteItem_16 : decode cX6_tasteItem 16 = .ok (.bipush 8, 2) := by decide +kernel
theorem dX6_tasteItem_18 : decode cX6_tasteItem 18 = .ok (.iaload, 1) := by decide +kernel
theorem dX6_tasteItem_19 : decode cX6_tasteItem 19 = .ok (.bipush 10, 2) := by decide +kernel
theorem dX6_tasteItem_21 : decode cX6_tasteItem 21 = .ok (.if_icmp .ne 7, 3) := by decide +kernel
theorem dX6_tasteItem_24 : decode cX6_tasteItem 24 = .ok (.iconst 1, 1) := by decide +kernel
theorem dX6_tasteItem_25 : decode cX6_tasteItem 25 = .ok (.goto 4, 3) := by decide +kernel
theorem dX6_tasteItem_28 : decode cX6_tasteItem 28 = .ok (.iconst 0, 1) := by decide +kernel
theorem dX6_tasteItem_29 : decode cX6_tasteItem 29 = .ok (.putfield 193, 3) := by decide +kernel
theorem dX6_tasteItem_32 : decode cX6_tasteItem 32 = .ok (.aload_n 0, 1) := by decide +kernel
theorem dX6_tasteItem_33 : decode cX6_tasteItem 33 = .ok (.getfield 193, 3) := by decide +kernel
theorem dX6_tasteItem_36 : decode cX6_tasteItem 36 = .ok (.ifCond .eq 4, 3) := by decide +kernel
theorem dX6_tasteItem_39 : decode cX6_tasteItem 39 = .ok (.return_, 1) := by decide +kernel
theorem dX6_tasteItem_40 : decode cX6_tasteItem 40 = .ok (.aload_n 0, 1) := by decide +kernel
theorem dX6_tasteItem_41 : decode cX6_tasteItem 41 = .ok (.invokevirtual 210, 3) := by decide +kernel
theorem dX6_tasteItem_44 : decode cX6_tasteItem 44 = .ok (.aload_n 0, 1) := by decide +kernel
theorem dX6_tasteItem_45 : decode cX6_tasteItem 45 = .ok (.iconst 0, 1) := by decide +kernel
theorem dX6_tasteItem_46 : decode cX6_tasteItem 46 = .ok (.bipush 9, 2) := by decide +kernel
theorem dX6_tasteItem_48 : decode cX6_tasteItem 48 = .ok (.invokevirtual 227, 3) := by decide +kernel
theorem dX6_tasteItem_51 : decode cX6_tasteItem 51 = .ok (.istore_n 2, 1) := by decide +kernel
theorem dX6_tasteItem_52 : decode cX6_tasteItem 52 = .ok (.aload_n 0, 1) := by decide +kernel
theorem dX6_tasteItem_53 : decode cX6_tasteItem 53 = .ok (.ldc 238, 2) := by decide +kernel
theorem dX6_tasteItem_55 : decode cX6_tasteItem 55 = .ok (.invokevirtual 230, 3) := by decide +kernel
theorem dX6_tasteItem_58 : decode cX6_tasteItem 58 = .ok (.ifCond .eq 13, 3) := by decide +kernel
theorem dX6_tasteItem_61 : decode cX6_tasteItem 61 = .ok (.aload_n 0, 1) := by decide +kernel
theorem dX6_tasteItem_62 : decode cX6_tasteItem 62 = .ok (.iconst 1, 1) := by decide +kernel
theorem dX6_tasteItem_63 : decode cX6_tasteItem 63 = .ok (.bipush 20, 2) := by decide +kernel
theorem dX6_tasteItem_65 : decode cX6_tasteItem 65 = .ok (.invokevirtual 227, 3) := by decide +kernel
theorem dX6_tasteItem_68 : decode cX6_tasteItem 68 = .ok (.goto 4, 3) := by decide +kernel
theorem dX6_tasteItem_71 : decode cX6_tasteItem 71 = .ok (.iconst 5, 1) := by decide +kernel
theorem dX6_tasteItem_72 : decode cX6_tasteItem 72 = .ok (.istore_n 3, 1) := by decide +kernel
theorem dX6_tasteItem_73 : decode cX6_tasteItem 73 = .ok (.aload_n 0, 1) := by decide +kernel
theorem dX6_tasteItem_74 : decode cX6_tasteItem 74 = .ok (.getfield 193, 3) := by decide +kernel
theorem dX6_tasteItem_77 : decode cX6_tasteItem 77 = .ok (.ifCond .ne 10, 3) := by decide +kernel
theorem dX6_tasteItem_80 : decode cX6_tasteItem 80 = .ok (.aload_n 0, 1) := by decide +kernel
theorem dX6_tasteItem_81 : decode cX6_tasteItem 81 = .ok (.iload_n 1, 1) := by decide +kernel
theorem dX6_tasteItem_82 : decode cX6_tasteItem 82 = .ok (.iload_n 2, 1) := by decide +kernel
theorem dX6_tasteItem_83 : decode cX6_tasteItem 83 = .ok (.iload_n 3, 1) := by decide +kernel
theorem dX6_tasteItem_84 : decode cX6_tasteItem 84 = .ok (.invokevirtual 86, 3) := by decide +kernel
theorem dX6_tasteItem_87 : decode cX6_tasteItem 87 = .ok (.return_, 1) := by decide +kernel
theorem dX6_item_0 : decode cX6_item 0 = .ok (.aload_n 0, 1) := by decide +kernel
theorem dX6_item_1 : decode cX6_item 1 = .ok (.ldc 240, 2) := by decide +kernel
theorem dX6_item_3 : decode cX6_item 3 = .ok (.invokevirtual 230, 3) := by decide +kernel
theorem dX6_item_6 : decode cX6_item 6 = .ok (.ifCond .eq 10, 3) := by decide +kernel
theorem dX6_item_9 : decode cX6_item 9 = .ok (.aload_n 0, 1) := by decide +kernel
theorem dX6_item_10 : decode cX6_item 10 = .ok (.invokevirtual 242, 3) := by decide +kernel
theorem dX6_item_13 : decode cX6_item 13 = .ok (.goto 149, 3) := by decide +kernel
theorem dX6_item_16 : decode cX6_item 16 = .ok (.aload_n 0, 1) := by decide +kernel
theorem dX6_item_17 : decode cX6_item 17 = .ok (.ldc 245, 2) := by decide +kernel
theorem dX6_item_19 : decode cX6_item 19 = .ok (.invokevirtual 230, 3) := by decide +kernel
theorem dX6_item_22 : decode cX6_item 22 = .ok (.ifCond .eq 18, 3) := by decide +kernel
theorem dX6_item_25 : decode cX6_item 25 = .ok (.aload_n 0, 1) := by decide +kernel
theorem dX6_item_26 : decode cX6_item 26 = .ok (.iconst 2, 1) := by decide +kernel
theorem dX6_item_27 : decode cX6_item 27 = .ok (.aload_n 0, 1) := by decide +kernel
theorem dX6_item_28 : decode cX6_item 28 = .ok (.iconst 0, 1) := by decide +kernel
theorem dX6_item_29 : decode cX6_item 29 = .ok (.bipush 9, 2) := by decide +kernel
theorem dX6_item_31 : decode cX6_item 31 = .ok (.invokevirtual 227, 3) := by decide +kernel
theorem dX6_item_34 : decode cX6_item 34 = .ok (.invokevirtual 233, 3) := by decide +kernel
theorem dX6_item_37 : decode cX6_item 37 = .ok (.goto 125, 3) := by decide +kernel
theorem dX6_item_40 : decode cX6_item 40 = .ok (.aload_n 0, 1) := by decide +kernel
theorem dX6_item_41 : decode cX6_item 41 = .ok (.ldc 247, 2) := by decide +kernel
theorem dX6_item_43 : decode cX6_item 43 = .ok (.invokevirtual 230, 3) := by decide +kernel
theorem dX6_item_46 : decode cX6_item 46 = .ok (.ifCond .eq 18, 3) := by decide +kernel
theorem dX6_item_49 : decode cX6_item 49 = .ok (.aload_n 0, 1) := by decide +kernel
theorem dX6_item_50 : decode cX6_item 50 = .ok (.iconst 3, 1) := by decide +kernel
theorem dX6_item_51 : decode cX6_item 51 = .ok (.aload_n 0, 1) := by decide +kernel
theorem dX6_item_52 : decode cX6_item 52 = .ok (.iconst 0, 1) := by decide +kernel
theorem dX6_item_53 : decode cX6_item 53 = .ok (.bipush 99, 2) := by decide +kernel
theorem dX6_item_55 : decode cX6_item 55 = .ok (.invokevirtual 227, 3) := by decide +kernel
theorem dX6_item_58 : decode cX6_item 58 = .ok (.invokevirtual 233, 3) := by decide +kernel
theorem dX6_item_61 : decode cX6_item 61 = .ok (.goto 101, 3) := by decide +kernel
theorem dX6_item_64 : decode cX6_item 64 = .ok (.aload_n 0, 1) := by decide +kernel
theorem dX6_item_65 : decode cX6_item 65 = .ok (.ldc 249, 2) := by decide +kernel
theorem dX6_item_67 : decode cX6_item 67 = .ok (.invokevirtual 230, 3) := by decide +kernel
theorem dX6_item_70 : decode cX6_item 70 = .ok (.ifCond .eq 19, 3) := by decide +kernel
theorem dX6_item_73 : decode cX6_item 73 = .ok (.aload_n 0, 1) := by decide +kernel
theorem dX6_item_74 : decode cX6_item 74 = .ok (.iconst 4, 1) := by decide +kernel
theorem dX6_item_75 : decode cX6_item 75 = .ok (.aload_n 0, 1) := by decide +kernel
theorem dX6_item_76 : decode cX6_item 76 = .ok (.iconst 0, 1) := by decide +kernel
theorem dX6_item_77 : decode cX6_item 77 = .ok (.sipush 9999, 3) := by decide +kernel
theorem dX6_item_80 : decode cX6_item 80 = .ok (.invokevirtual 227, 3) := by decide +kernel
theorem dX6_item_83 : decode cX6_item 83 = .ok (.invokevirtual 233, 3) := by decide +kernel
theorem dX6_item_86 : decode cX6_item 86 = .ok (.goto 76, 3) := by decide +kernel
theorem dX6_item_89 : decode cX6_item 89 = .ok (.aload_n 0, 1) := by decide +kernel
theorem dX6_item_90 : decode cX6_item 90 = .ok (.ldc 251, 2) := by decide +kernel
theorem dX6_item_92 : decode cX6_item 92 = .ok (.invokevirtual 230, 3) := by decide +kernel
theorem dX6_item_95 : decode cX6_item 95 = .ok (.ifCond .eq 18, 3) := by decide +kernel
theorem dX6_item_98 : decode cX6_item 98 = .ok (.aload_n 0, 1) := by decide +kernel
theorem dX6_item_99 : decode cX6_item 99 = .ok (.iconst 5, 1) := by decide +kernel
theorem dX6_item_100 : decode cX6_item 100 = .ok (.aload_n 0, 1) := by decide +kernel
theorem dX6_item_101 : decode cX6_item 101 = .ok (.iconst 1, 1) := by decide +kernel
theorem dX6_item_102 : decode cX6_item 102 = .ok (.bipush 99, 2) := by decide +kernel
theorem dX6_item_104 : decode cX6_item 104 = .ok (.invokevirtual 227, 3) := by decide +kernel
theorem dX6_item_107 : decode cX6_item 107 = .ok (.invokevirtual 233, 3) := by decide +kernel
theorem dX6_item_110 : decode cX6_item 110 = .ok (.goto 52, 3) := by decide +kernel
theorem dX6_item_113 : decode cX6_item 113 = .ok (.aload_n 0, 1) := by decide +kernel
theorem dX6_item_114 : decode cX6_item 114 = .ok (.ldc 253, 2) := by decide +kernel
theorem dX6_item_116 : decode cX6_item 116 = .ok (.invokevirtual 230, 3) := by decide +kernel
theorem dX6_item_119 : decode cX6_item 119 = .ok (.ifCond .eq 19, 3) := by decide +kernel
theorem dX6_item_122 : decode cX6_item 122 = .ok (.aload_n 0, 1) := by decide +kernel
theorem dX6_item_123 : decode cX6_item 123 = .ok (.bipush 6, 2) := by decide +kernel
theorem dX6_item_125 : decode cX6_item 125 = .ok (.aload_n 0, 1) := by decide +kernel
theorem dX6_item_126 : decode cX6_item 126 = .ok (.iconst 0, 1) := by decide +kernel
theorem dX6_item_127 : decode cX6_item 127 = .ok (.bipush 9, 2) := by decide +kernel
theorem dX6_item_129 : decode cX6_item 129 = .ok (.invokevirtual 227, 3) := by decide +kernel
theorem dX6_item_132 : decode cX6_item 132 = .ok (.invokevirtual 233, 3) := by decide +kernel
theorem dX6_item_135 : decode cX6_item 135 = .ok (.goto 27, 3) := by decide +kernel
theorem dX6_item_138 : decode cX6_item 138 = .ok (.aload_n 0, 1) := by decide +kernel
theorem dX6_item_139 : decode cX6_item 139 = .ok (.ldc 255, 2) := by decide +kernel
theorem dX6_item_141 : decode cX6_item 141 = .ok (.invokevirtual 230, 3) := by decide +kernel
theorem dX6_item_144 : decode cX6_item 144 = .ok (.ifCond .eq 10, 3) := by decide +kernel
theorem dX6_item_147 : decode cX6_item 147 = .ok (.aload_n 0, 1) := by decide +kernel
theorem dX6_item_148 : decode cX6_item 148 = .ok (.invokevirtual 257, 3) := by decide +kernel
theorem dX6_item_151 : decode cX6_item 151 = .ok (.goto 11, 3) := by decide +kernel
theorem dX6_item_154 : decode cX6_item 154 = .ok (.aload_n 0, 1) := by decide +kernel
theorem dX6_item_155 : decode cX6_item 155 = .ok (.aload_n 0, 1) := by decide +kernel
theorem dX6_item_156 : decode cX6_item 156 = .ok (.invokevirtual 260, 3) := by decide +kernel
theorem dX6_item_159 : decode cX6_item 159 = .ok (.invokevirtual 263, 3) := by decide +kernel
theorem dX6_item_162 : decode cX6_item 162 = .ok (.return_, 1) := by decide +kernel
theorem dX6_text_0 : decode cX6_text 0 = .ok (.aload_n 0, 1) := by decide +kernel
theorem dX6_text_1 : decode cX6_text 1 = .ok (.getfield 9, 3) := by decide +kernel
theorem dX6_text_4 : decode cX6_text 4 = .ok (.aload_n 0, 1) := by decide +kernel
theorem dX6_text_5 : decode cX6_text 5 = .ok (.getfield 16, 3) := by decide +kernel
theorem dX6_text_8 : decode cX6_text 8 = .ok (.invokestatic 156, 3) := by decide +kernel
theorem dX6_text_11 : decode cX6_text 11 = .ok (.aload_n 0, 1) := by decide +kernel
theorem dX6_text_12 : decode cX6_text 12 = .ok (.iconst 0, 1) := by decide +kernel
theorem dX6_text_13 : decode cX6_text 13 = .ok (.putfield 177, 3) := by decide +kernel
theorem dX6_text_16 : decode cX6_text 16 = .ok (.aload_n 0, 1) := by decide +kernel
theorem dX6_text_17 : decode cX6_text 17 = .ok (.iconst 0, 1) := by decide +kernel
theorem dX6_text_18 : decode cX6_text 18 = .ok (.putfield 193, 3) := by decide +kernel
theorem dX6_text_21 : decode cX6_text 21 = .ok (.aload_n 0, 1) := by decide +kernel
theorem dX6_text_22 : decode cX6_text 22 = .ok (.invokevirtual 210, 3) := by decide +kernel
theorem dX6_text_25 : decode cX6_text 25 = .ok (.iconst 0, 1) := by decide +kernel
theorem dX6_text_26 : decode cX6_text 26 = .ok (.istore_n 1, 1) := by decide +kernel
theorem dX6_text_27 : decode cX6_text 27 = .ok (.iconst 1, 1) := by decide +kernel
theorem dX6_text_28 : decode cX6_text 28 = .ok (.istore_n 2, 1) := by decide +kernel
theorem dX6_text_29 : decode cX6_text 29 = .ok (.iload_n 2, 1) := by decide +kernel
theorem dX6_text_30 : decode cX6_text 30 = .ok (.ifCond .eq 28, 3) := by decide +kernel
theorem dX6_text_33 : decode cX6_text 33 = .ok (.aload_n 0, 1) := by decide +kernel
theorem dX6_text_34 : decode cX6_text 34 = .ok (.invokevirtual 267, 3) := by decide +kernel
theorem dX6_text_37 : decode cX6_text 37 = .ok (.iinc 1 1, 3) := by decide +kernel
theorem dX6_text_40 : decode cX6_text 40 = .ok (.aload_n 0, 1) := by decide +kernel
theorem dX6_text_41 : decode cX6_text 41 = .ok (.bipush 59, 2) := by decide +kernel
theorem dX6_text_43 : decode cX6_text 43 = .ok (.invokevirtual 270, 3) := by decide +kernel
theorem dX6_text_46 : decode cX6_text 46 = .ok (.istore_n 2, 1) := by decide +kernel
theorem dX6_text_47 : decode cX6_text 47 = .ok (.iload_n 2, 1) := by decide +kernel
theorem dX6_text_48 : decode cX6_text 48 = .ok (.ifCond .eq (-19), 3) := by decide +kernel
theorem dX6_text_51 : decode cX6_text 51 = .ok (.aload_n 0, 1) := by decide +kernel
theorem dX6_text_52 : decode cX6_text 52 = .ok (.invokevirtual 210, 3) := by decide +kernel
theorem dX6_text_55 : decode cX6_text 55 = .ok (.goto (-26), 3) := by decide +kernel
theorem dX6_text_58 : decode cX6_text 58 = .ok (.aload_n 0, 1) := by decide +kernel
theorem dX6_text_59 : decode cX6_text 59 = .ok (.aload_n 0, 1) := by decide +kernel
theorem dX6_text_60 : decode cX6_text 60 = .ok (.getfield 193, 3) := by decide +kernel
theorem dX6_text_63 : decode cX6_text 63 = .ok (.ifCond .ne 10, 3) := by decide +kernel
theorem dX6_text_66 : decode cX6_text 66 = .ok (.aload_n 0, 1) := by decide +kernel
theorem dX6_text_67 : decode cX6_text 67 = .ok (.getfield 190, 3) := by decide +kernel
theorem dX6_text_70 : decode cX6_text 70 = .ok (.ifCond .eq 7, 3) := by decide +kernel
theorem dX6_text_73 : decode cX6_text 73 = .ok (.iconst 1, 1) := by decide +kernel
theorem dX6_text_74 : decode cX6_text 74 = .ok (.goto 4, 3) := by decide +kernel
theorem dX6_text_77 : decode cX6_text 77 = .ok (.iconst 0, 1) := by decide +kernel
theorem dX6_text_78 : decode cX6_text 78 = .ok (.putfield 193, 3) := by decide +kernel
theorem dX6_text_81 : decode cX6_text 81 = .ok (.aload_n 0, 1) := by decide +kernel
theorem dX6_text_82 : decode cX6_text 82 = .ok (.getfield 180, 3) := by decide +kernel
theorem dX6_text_85 : decode cX6_text 85 = .ok (.istore_n 3, 1) := by decide +kernel
theorem dX6_text_86 : decode cX6_text 86 = .ok (.aload_n 0, 1) := by decide +kernel
theorem dX6_text_87 : decode cX6_text 87 = .ok (.iconst 0, 1) := by decide +kernel
theorem dX6_text_88 : decode cX6_text 88 = .ok (.putfield 173, 3) := by decide +kernel
theorem dX6_text_91 : decode cX6_text 91 = .ok (.aload_n 0, 1) := by decide +kernel
theorem dX6_text_92 : decode cX6_text 92 = .ok (.getfield 193, 3) := by decide +kernel
theorem dX6_text_95 : decode cX6_text 95 = .ok (.ifCond .ne 5, 3) := by decide +kernel
theorem dX6_text_98 : decode cX6_text 98 = .ok (.iload_n 1, 1) := by decide +kernel
theorem dX6_text_99 : decode cX6_text 99 = .ok (.ireturn, 1) := by decide +kernel
theorem dX6_text_100 : decode cX6_text 100 = .ok (.aload_n 0, 1) := by decide +kernel
theorem dX6_text_101 : decode cX6_text 101 = .ok (.getfield 16, 3) := by decide +kernel
theorem dX6_text_104 : decode cX6_text 104 = .ok (.aload_n 0, 1) := by decide +kernel
theorem dX6_text_105 : decode cX6_text 105 = .ok (.getfield 9, 3) := by decide +kernel
theorem dX6_text_108 : decode cX6_text 108 = .ok (.invokestatic 156, 3) := by decide +kernel
theorem dX6_text_111 : decode cX6_text 111 = .ok (.iconst (-1), 1) := by decide +kernel
theorem dX6_text_112 : decode cX6_text 112 = .ok (.iload_n 3, 1) := by decide +kernel
theorem dX6_text_113 : decode cX6_text 113 = .ok (.isub, 1) := by decide +kernel
theorem dX6_text_114 : decode cX6_text 114 = .ok (.ireturn, 1) := by decide +kernel
theorem dX6_hold_0 : decode cX6_hold 0 = .ok (.iload_n 1, 1) := by decide +kernel
theorem dX6_hold_1 : decode cX6_hold 1 = .ok (.i2l, 1) := by decide +kernel
theorem dX6_hold_2 : decode cX6_hold 2 = .ok (.lconst 0, 1) := by decide +kernel
theorem dX6_hold_3 : decode cX6_hold 3 = .ok (.ldc2_w 40, 3) := by decide +kernel
theorem dX6_hold_6 : decode cX6_hold 6 = .ok (.invokestatic 42, 3) := by decide +kernel
theorem dX6_hold_9 : decode cX6_hold 9 = .ok (.ifCond .eq 16, 3) := by decide +kernel
theorem dX6_hold_12 : decode cX6_hold 12 = .ok (.iload_n 2, 1) := by decide +kernel
theorem dX6_hold_13 : decode cX6_hold 13 = .ok (.iconst (-1), 1) := by decide +kernel
theorem dX6_hold_14 : decode cX6_hold 14 = .ok (.if_icmp .eq 18, 3) := by decide +kernel
theorem dX6_hold_17 : decode cX6_hold 17 = .ok (.aload_n 0, 1) := by decide +kernel
theorem dX6_hold_18 : decode cX6_hold 18 = .ok (.iload_n 2, 1) := by decide +kernel
theorem dX6_hold_19 : decode cX6_hold 19 = .ok (.invokevirtual 99, 3) := by decide +kernel
theorem dX6_hold_22 : decode cX6_hold 22 = .ok (.ifCond .ne 10, 3) := by decide +kernel
theorem dX6_hold_25 : decode cX6_hold 25 = .ok (.aload_n 0, 1) := by decide +kernel
theorem dX6_hold_26 : decode cX6_hold 26 = .ok (.ldc 34, 2) := by decide +kernel
theorem dX6_hold_28 : decode cX6_hold 28 = .ok (.invokevirtual 36, 3) := by decide +kernel
theorem dX6_hold_31 : decode cX6_hold 31 = .ok (.ireturn, 1) := by decide +kernel
theorem dX6_hold_32 : decode cX6_hold 32 = .ok (.aload_n 0, 1) := by decide +kernel
theorem dX6_hold_33 : decode cX6_hold 33 = .ok (.getfield 9, 3) := by decide +kernel
theorem dX6_hold_36 : decode cX6_hold 36 = .ok (.bipush 70, 2) := by decide +kernel
theorem dX6_hold_38 : decode cX6_hold 38 = .ok (.iload_n 1, 1) := by decide +kernel
theorem dX6_hold_39 : decode cX6_hold 39 = .ok (.iadd, 1) := by decide +kernel
theorem dX6_hold_40 : decode cX6_hold 40 = .ok (.iload_n 2, 1) := by decide +kernel
theorem dX6_hold_41 : decode cX6_hold 41 = .ok (.iastore, 1) := by decide +kernel
theorem dX6_hold_42 : decode cX6_hold 42 = .ok (.iconst 1, 1) := by decide +kernel
theorem dX6_hold_43 : decode cX6_hold 43 = .ok (.ireturn, 1) := by decide +kernel
theorem dX6_above_0 : decode cX6_above 0 = .ok (.iload_n 0, 1) := by decide +kernel
theorem dX6_above_1 : decode cX6_above 1 = .ok (.ifCond .ne 7, 3) := by decide +kernel
theorem dX6_above_4 : decode cX6_above 4 = .ok (.iconst (-1), 1) := by decide +kernel
theorem dX6_above_5 : decode cX6_above 5 = .ok (.goto 22, 3) := by decide +kernel
theorem dX6_above_8 : decode cX6_above 8 = .ok (.iload_n 0, 1) := by decide +kernel
theorem dX6_above_9 : decode cX6_above 9 = .ok (.iconst 3, 1) := by decide +kernel
theorem dX6_above_10 : decode cX6_above 10 = .ok (.if_icmp .ne 7, 3) := by decide +kernel
theorem dX6_above_13 : decode cX6_above 13 = .ok (.iconst 2, 1) := by decide +kernel
theorem dX6_above_14 : decode cX6_above 14 = .ok (.goto 13, 3) := by decide +kernel
theorem dX6_above_17 : decode cX6_above 17 = .ok (.iload_n 0, 1) := by decide +kernel
theorem dX6_above_18 : decode cX6_above 18 = .ok (.iconst 5, 1) := by decide +kernel
theorem dX6_above_19 : decode cX6_above 19 = .ok (.if_icmp .ne 7, 3) := by decide +kernel
theorem dX6_above_22 : decode cX6_above 22 = .ok (.iconst 4, 1) := by decide +kernel
theorem dX6_above_23 : decode cX6_above 23 = .ok (.goto 4, 3) := by decide +kernel
theorem dX6_above_26 : decode cX6_above 26 = .ok (.iconst 0, 1) := by decide +kernel
theorem dX6_above_27 : decode cX6_above 27 = .ok (.ireturn, 1) := by decide +kernel
theorem dX6_as_0 : decode cX6_as 0 = .ok (.iload_n 1, 1) := by decide +kernel
theorem dX6_as_1 : decode cX6_as 1 = .ok (.i2l, 1) := by decide +kernel
theorem dX6_as_2 : decode cX6_as 2 = .ok (.lconst 0, 1) := by decide +kernel
theorem dX6_as_3 : decode cX6_as 3 = .ok (.ldc2_w 40, 3) := by decide +kernel
theorem dX6_as_6 : decode cX6_as 6 = .ok (.invokestatic 42, 3) := by decide +kernel
theorem dX6_as_9 : decode cX6_as 9 = .ok (.ifCond .eq 10, 3) := by decide +kernel
theorem dX6_as_12 : decode cX6_as 12 = .ok (.iload_n 2, 1) := by decide +kernel
theorem dX6_as_13 : decode cX6_as 13 = .ok (.invokestatic 79, 3) := by decide +kernel
theorem dX6_as_16 : decode cX6_as 16 = .ok (.ifCond .ne 10, 3) := by decide +kernel
theorem dX6_as_19 : decode cX6_as 19 = .ok (.aload_n 0, 1) := by decide +kernel
theorem dX6_as_20 : decode cX6_as 20 = .ok (.ldc 34, 2) := by decide +kernel
theorem dX6_as_22 : decode cX6_as 22 = .ok (.invokevirtual 36, 3) := by decide +kernel
theorem dX6_as_25 : decode cX6_as 25 = .ok (.ireturn, 1) := by decide +kernel
theorem dX6_as_26 : decode cX6_as 26 = .ok (.aload_n 0, 1) := by decide +kernel
theorem dX6_as_27 : decode cX6_as 27 = .ok (.getfield 9, 3) := by decide +kernel
theorem dX6_as_30 : decode cX6_as 30 = .ok (.bipush 70, 2) := by decide +kernel
theorem dX6_as_32 : decode cX6_as 32 = .ok (.iload_n 1, 1) := by decide +kernel
theorem dX6_as_33 : decode cX6_as 33 = .ok (.iadd, 1) := by decide +kernel
theorem dX6_as_34 : decode cX6_as 34 = .ok (.iaload, 1) := by decide +kernel
theorem dX6_as_35 : decode cX6_as 35 = .ok (.istore_n 3, 1) := by decide +kernel
theorem dX6_as_36 : decode cX6_as 36 = .ok (.iload_n 3, 1) := by decide +kernel
theorem dX6_as_37 : decode cX6_as 37 = .ok (.ifCond .ge 11, 3) := by decide +kernel
theorem dX6_as_40 : decode cX6_as 40 = .ok (.aload_n 0, 1) := by decide +kernel
theorem dX6_as_41 : decode cX6_as 41 = .ok (.ldc_w 273, 3) := by decide +kernel
theorem dX6_as_44 : decode cX6_as 44 = .ok (.invokevirtual 36, 3) := by decide +kernel
theorem dX6_as_47 : decode cX6_as 47 = .ok (.ireturn, 1) := by decide +kernel
theorem dX6_as_48 : decode cX6_as 48 = .ok (.aload_n 0, 1) := by decide +kernel
theorem dX6_as_49 : decode cX6_as 49 = .ok (.iload_n 3, 1) := by decide +kernel
theorem dX6_as_50 : decode cX6_as 50 = .ok (.iconst 0, 1) := by decide +kernel
theorem dX6_as_51 : decode cX6_as 51 = .ok (.invokevirtual 90, 3) := by decide +kernel
theorem dX6_as_54 : decode cX6_as 54 = .ok (.istore 4, 2) := by decide +kernel
theorem dX6_as_56 : decode cX6_as 56 = .ok (.iload 4, 2) := by decide +kernel
theorem dX6_as_58 : decode cX6_as 58 = .ok (.ifCond .lt 21, 3) := by decide +kernel
theorem dX6_as_61 : decode cX6_as 61 = .ok (.iload 4, 2) := by decide +kernel
theorem dX6_as_63 : decode cX6_as 63 = .ok (.iload_n 2, 1) := by decide +kernel
theorem dX6_as_64 : decode cX6_as 64 = .ok (.if_icmp .ne 5, 3) := by decide +kernel
theorem dX6_as_67 : decode cX6_as 67 = .ok (.iload_n 3, 1) := by decide +kernel
theorem dX6_as_68 : decode cX6_as 68 = .ok (.ireturn, 1) := by decide +kernel
theorem dX6_as_69 : decode cX6_as 69 = .ok (.iload 4, 2) := by decide +kernel
theorem dX6_as_71 : decode cX6_as 71 = .ok (.invokestatic 274, 3) := by decide +kernel
theorem dX6_as_74 : decode cX6_as 74 = .ok (.istore 4, 2) := by decide +kernel
theorem dX6_as_76 : decode cX6_as 76 = .ok (.goto (-20), 3) := by decide +kernel
theorem dX6_as_79 : decode cX6_as 79 = .ok (.aload_n 0, 1) := by decide +kernel
theorem dX6_as_80 : decode cX6_as 80 = .ok (.ldc_w 277, 3) := by decide +kernel
theorem dX6_as_83 : decode cX6_as 83 = .ok (.invokevirtual 36, 3) := by decide +kernel
theorem dX6_as_86 : decode cX6_as 86 = .ok (.ireturn, 1) := by decide +kernel
theorem dX6_isSheet_0 : decode cX6_isSheet 0 = .ok (.iload_n 0, 1) := by decide +kernel
theorem dX6_isSheet_1 : decode cX6_isSheet 1 = .ok (.i2l, 1) := by decide +kernel
theorem dX6_isSheet_2 : decode cX6_isSheet 2 = .ok (.lconst 0, 1) := by decide +kernel
theorem dX6_isSheet_3 : decode cX6_isSheet 3 = .ok (.ldc2_w 63, 3) := by decide +kernel
theorem dX6_isSheet_6 : decode cX6_isSheet 6 = .ok (.invokestatic 42, 3) := by decide +kernel
theorem dX6_isSheet_9 : decode cX6_isSheet 9 = .ok (.ireturn, 1) := by decide +kernel
theorem dX6_sheet_0 : decode cX6_sheet 0 = .ok (.iload_n 1, 1) := by decide +kernel
theorem dX6_sheet_1 : decode cX6_sheet 1 = .ok (.invokestatic 278, 3) := by decide +kernel
theorem dX6_sheet_4 : decode cX6_sheet 4 = .ok (.ifCond .eq 25, 3) := by decide +kernel
theorem dX6_sheet_7 : decode cX6_sheet 7 = .ok (.iload_n 2, 1) := by decide +kernel
theorem dX6_sheet_8 : decode cX6_sheet 8 = .ok (.ifCond .eq 28, 3) := by decide +kernel
theorem dX6_sheet_11 : decode cX6_sheet 11 = .ok (.iload_n 2, 1) := by decide +kernel
theorem dX6_sheet_12 : decode cX6_sheet 12 = .ok (.bipush 8, 2) := by decide +kernel
theorem dX6_sheet_14 : decode cX6_sheet 14 = .ok (.if_icmp .eq 22, 3) := by decide +kernel
theorem dX6_sheet_17 : decode cX6_sheet 17 = .ok (.iload_n 2, 1) := by decide +kernel
theorem dX6_sheet_18 : decode cX6_sheet 18 = .ok (.bipush 16, 2) := by decide +kernel
theorem dX6_sheet_20 : decode cX6_sheet 20 = .ok (.if_icmp .eq 16, 3) := by decide +kernel
theorem dX6_sheet_23 : decode cX6_sheet 23 = .ok (.iload_n 2, 1) := by decide +kernel
theorem dX6_sheet_24 : decode cX6_sheet 24 = .ok (.bipush 32, 2) := by decide +kernel
theorem dX6_sheet_26 : decode cX6_sheet 26 = .ok (.if_icmp .eq 10, 3) := by decide +kernel
theorem dX6_sheet_29 : decode cX6_sheet 29 = .ok (.aload_n 0, 1) := by decide +kernel
theorem dX6_sheet_30 : decode cX6_sheet 30 = .ok (.ldc 34, 2) := by decide +kernel
theorem dX6_sheet_32 : decode cX6_sheet 32 = .ok (.invokevirtual 36, 3) := by decide +kernel
theorem dX6_sheet_35 : decode cX6_sheet 35 = .ok (.ireturn, 1) := by decide +kernel
theorem dX6_sheet_36 : decode cX6_sheet 36 = .ok (.iload_n 3, 1) := by decide +kernel
theorem dX6_sheet_37 : decode cX6_sheet 37 = .ok (.ifCond .ge 11, 3) := by decide +kernel
theorem dX6_sheet_40 : decode cX6_sheet 40 = .ok (.aload_n 0, 1) := by decide +kernel
theorem dX6_sheet_41 : decode cX6_sheet 41 = .ok (.ldc_w 281, 3) := by decide +kernel
theorem dX6_sheet_44 : decode cX6_sheet 44 = .ok (.invokevirtual 36, 3) := by decide +kernel
theorem dX6_sheet_47 : decode cX6_sheet 47 = .ok (.ireturn, 1) := by decide +kernel
theorem dX6_sheet_48 : decode cX6_sheet 48 = .ok (.iload_n 3, 1) := by decide +kernel
theorem dX6_sheet_49 : decode cX6_sheet 49 = .ok (.bipush 40, 2) := by decide +kernel
theorem dX6_sheet_51 : decode cX6_sheet 51 = .ok (.if_icmp .le 10, 3) := by decide +kernel
theorem dX6_sheet_54 : decode cX6_sheet 54 = .ok (.aload_n 0, 1) := by decide +kernel
theorem dX6_sheet_55 : decode cX6_sheet 55 = .ok (.ldc 34, 2) := by decide +kernel
theorem dX6_sheet_57 : decode cX6_sheet 57 = .ok (.invokevirtual 36, 3) := by decide +kernel
theorem dX6_sheet_60 : decode cX6_sheet 60 = .ok (.ireturn, 1) := by decide +kernel
theorem dX6_sheet_61 : decode cX6_sheet 61 = .ok (.aload_n 0, 1) := by decide +kernel
theorem dX6_sheet_62 : decode cX6_sheet 62 = .ok (.getfield 25, 3) := by decide +kernel
theorem dX6_sheet_65 : decode cX6_sheet 65 = .ok (.iload_n 1, 1) := by decide +kernel
theorem dX6_sheet_66 : decode cX6_sheet 66 = .ok (.iload_n 2, 1) := by decide +kernel
theorem dX6_sheet_67 : decode cX6_sheet 67 = .ok (.iastore, 1) := by decide +kernel
theorem dX6_sheet_68 : decode cX6_sheet 68 = .ok (.aload_n 0, 1) := by decide +kernel
theorem dX6_sheet_69 : decode cX6_sheet 69 = .ok (.getfield 28, 3) := by decide +kernel
theorem dX6_sheet_72 : decode cX6_sheet 72 = .ok (.iload_n 1, 1) := by decide +kernel
theorem dX6_sheet_73 : decode cX6_sheet 73 = .ok (.iload_n 2, 1) := by decide +kernel
theorem dX6_sheet_74 : decode cX6_sheet 74 = .ok (.ifCond .ne 7, 3) := by decide +kernel
theorem dX6_sheet_77 : decode cX6_sheet 77 = .ok (.iconst 0, 1) := by decide +kernel
theorem dX6_sheet_78 : decode cX6_sheet 78 = .ok (.goto 4, 3) := by decide +kernel
theorem dX6_sheet_81 : decode cX6_sheet 81 = .ok (.iload_n 3, 1) := by decide +kernel
theorem dX6_sheet_82 : decode cX6_sheet 82 = .ok (.iastore, 1) := by decide +kernel
theorem dX6_sheet_83 : decode cX6_sheet 83 = .ok (.iconst 0, 1) := by decide +kernel
theorem dX6_sheet_84 : decode cX6_sheet 84 = .ok (.istore 4, 2) := by decide +kernel
theorem dX6_sheet_86 : decode cX6_sheet 86 = .ok (.iload 4, 2) := by decide +kernel
theorem dX6_sheet_88 : decode cX6_sheet 88 = .ok (.bipush 40, 2) := by decide +kernel
theorem dX6_sheet_90 : decode cX6_sheet 90 = .ok (.if_icmp .ge 22, 3) := by decide +kernel
theorem dX6_sheet_93 : decode cX6_sheet 93 = .ok (.aload_n 0, 1) := by decide +kernel
theorem dX6_sheet_94 : decode cX6_sheet 94 = .ok (.getfield 31, 3) := by decide +kernel
theorem dX6_sheet_97 : decode cX6_sheet 97 = .ok (.bipush 40, 2) := by decide +kernel
theorem dX6_sheet_99 : decode cX6_sheet 99 = .ok (.iload_n 1, 1) := by decide +kernel
theorem dX6_sheet_100 : decode cX6_sheet 100 = .ok (.imul, 1) := by decide +kernel
theorem dX6_sheet_101 : decode cX6_sheet 101 = .ok (.iload 4, 2) := by decide +kernel
theorem dX6_sheet_103 : decode cX6_sheet 103 = .ok (.iadd, 1) := by decide +kernel
theorem dX6_sheet_104 : decode cX6_sheet 104 = .ok (.iconst 0, 1) := by decide +kernel
theorem dX6_sheet_105 : decode cX6_sheet 105 = .ok (.iastore, 1) := by decide +kernel
theorem dX6_sheet_106 : decode cX6_sheet 106 = .ok (.iinc 4 1, 3) := by decide +kernel
theorem dX6_sheet_109 : decode cX6_sheet 109 = .ok (.goto (-23), 3) := by decide +kernel
theorem dX6_sheet_112 : decode cX6_sheet 112 = .ok (.aload_n 0, 1) := by decide +kernel
theorem dX6_sheet_113 : decode cX6_sheet 113 = .ok (.getfield 28, 3) := by decide +kernel
theorem dX6_sheet_116 : decode cX6_sheet 116 = .ok (.iload_n 1, 1) := by decide +kernel
theorem dX6_sheet_117 : decode cX6_sheet 117 = .ok (.iaload, 1) := by decide +kernel
theorem dX6_sheet_118 : decode cX6_sheet 118 = .ok (.ireturn, 1) := by decide +kernel
theorem dX6_write_0 : decode cX6_write 0 = .ok (.iload_n 1, 1) := by decide +kernel
theorem dX6_write_1 : decode cX6_write 1 = .ok (.invokestatic 278, 3) := by decide +kernel
theorem dX6_write_4 : decode cX6_write 4 = .ok (.ifCond .ne 10, 3) := by decide +kernel
theorem dX6_write_7 : decode cX6_write 7 = .ok (.aload_n 0, 1) := by decide +kernel
theorem dX6_write_8 : decode cX6_write 8 = .ok (.ldc 34, 2) := by decide +kernel
theorem dX6_write_10 : decode cX6_write 10 = .ok (.invokevirtual 36, 3) := by decide +kernel
theorem dX6_write_13 : decode cX6_write 13 = .ok (.ireturn, 1) := by decide +kernel
theorem dX6_write_14 : decode cX6_write 14 = .ok (.aload_n 0, 1) := by decide +kernel
theorem dX6_write_15 : decode cX6_write 15 = .ok (.getfield 25, 3) := by decide +kernel
theorem dX6_write_18 : decode cX6_write 18 = .ok (.iload_n 1, 1) := by decide +kernel
theorem dX6_write_19 : decode cX6_write 19 = .ok (.iaload, 1) := by decide +kernel
theorem dX6_write_20 : decode cX6_write 20 = .ok (.ifCond .ne 11, 3) := by decide +kernel
theorem dX6_write_23 : decode cX6_write 23 = .ok (.aload_n 0, 1) := by decide +kernel
theorem dX6_write_24 : decode cX6_write 24 = .ok (.ldc_w 273, 3) := by decide +kernel
theorem dX6_write_27 : decode cX6_write 27 = .ok (.invokevirtual 36, 3) := by decide +kernel
theorem dX6_write_30 : decode cX6_write 30 = .ok (.ireturn, 1) := by decide +kernel
theorem dX6_write_31 : decode cX6_write 31 = .ok (.iload_n 2, 1) := by decide +kernel
theorem dX6_write_32 : decode cX6_write 32 = .ok (.i2l, 1) := by decide +kernel
theorem dX6_write_33 : decode cX6_write 33 = .ok (.lconst 0, 1) := by decide +kernel
theorem dX6_write_34 : decode cX6_write 34 = .ok (.aload_n 0, 1) := by decide +kernel
theorem dX6_write_35 : decode cX6_write 35 = .ok (.getfield 28, 3) := by decide +kernel
theorem dX6_write_38 : decode cX6_write 38 = .ok (.iload_n 1, 1) := by decide +kernel
theorem dX6_write_39 : decode cX6_write 39 = .ok (.iaload, 1) := by decide +kernel
theorem dX6_write_40 : decode cX6_write 40 = .ok (.iconst 1, 1) := by decide +kernel
theorem dX6_write_41 : decode cX6_write 41 = .ok (.isub, 1) := by decide +kernel
theorem dX6_write_42 : decode cX6_write 42 = .ok (.i2l, 1) := by decide +kernel
theorem dX6_write_43 : decode cX6_write 43 = .ok (.invokestatic 42, 3) := by decide +kernel
theorem dX6_write_46 : decode cX6_write 46 = .ok (.ifCond .ne 10, 3) := by decide +kernel
theorem dX6_write_49 : decode cX6_write 49 = .ok (.aload_n 0, 1) := by decide +kernel
theorem dX6_write_50 : decode cX6_write 50 = .ok (.ldc 34, 2) := by decide +kernel
theorem dX6_write_52 : decode cX6_write 52 = .ok (.invokevirtual 36, 3) := by decide +kernel
theorem dX6_write_55 : decode cX6_write 55 = .ok (.ireturn, 1) := by decide +kernel
theorem dX6_write_56 : decode cX6_write 56 = .ok (.aload_n 0, 1) := by decide +kernel
theorem dX6_write_57 : decode cX6_write 57 = .ok (.getfield 31, 3) := by decide +kernel
theorem dX6_write_60 : decode cX6_write 60 = .ok (.bipush 40, 2) := by decide +kernel
theorem dX6_write_62 : decode cX6_write 62 = .ok (.iload_n 1, 1) := by decide +kernel
theorem dX6_write_63 : decode cX6_write 63 = .ok (.imul, 1) := by decide +kernel
theorem dX6_write_64 : decode cX6_write 64 = .ok (.iload_n 2, 1) := by decide +kernel
theorem dX6_write_65 : decode cX6_write 65 = .ok (.iadd, 1) := by decide +kernel
theorem dX6_write_66 : decode cX6_write 66 = .ok (.aload_n 0, 1) := by decide +kernel
theorem dX6_write_67 : decode cX6_write 67 = .ok (.getfield 25, 3) := by decide +kernel
theorem dX6_write_70 : decode cX6_write 70 = .ok (.iload_n 1, 1) := by decide +kernel
theorem dX6_write_71 : decode cX6_write 71 = .ok (.iaload, 1) := by decide +kernel
theorem dX6_write_72 : decode cX6_write 72 = .ok (.bipush 8, 2) := by decide +kernel
theorem dX6_write_74 : decode cX6_write 74 = .ok (.if_icmp .ne 8, 3) := by decide +kernel
theorem dX6_write_77 : decode cX6_write 77 = .ok (.iload_n 3, 1) := by decide +kernel
theorem dX6_write_78 : decode cX6_write 78 = .ok (.i2b, 1) := by decide +kernel
theorem dX6_write_79 : decode cX6_write 79 = .ok (.goto 20, 3) := by decide +kernel
theorem dX6_write_82 : decode cX6_write 82 = .ok (.aload_n 0, 1) := by decide +kernel
theorem dX6_write_83 : decode cX6_write 83 = .ok (.getfield 25, 3) := by decide +kernel
theorem dX6_write_86 : decode cX6_write 86 = .ok (.iload_n 1, 1) := by decide +kernel
theorem dX6_write_87 : decode cX6_write 87 = .ok (.iaload, 1) := by decide +kernel
theorem dX6_write_88 : decode cX6_write 88 = .ok (.bipush 16, 2) := by decide +kernel
theorem dX6_write_90 : decode cX6_write 90 = .ok (.if_icmp .ne 8, 3) := by decide +kernel
theorem dX6_write_93 : decode cX6_write 93 = .ok (.iload_n 3, 1) := by decide +kernel
theorem dX6_write_94 : decode cX6_write 94 = .ok (.i2s, 1) := by decide +kernel
theorem dX6_write_95 : decode cX6_write 95 = .ok (.goto 4, 3) := by decide +kernel
theorem dX6_write_98 : decode cX6_write 98 = .ok (.iload_n 3, 1) := by decide +kernel
theorem dX6_write_99 : decode cX6_write 99 = .ok (.iastore, 1) := by decide +kernel
theorem dX6_write_100 : decode cX6_write 100 = .ok (.iconst 1, 1) := by decide +kernel
theorem dX6_write_101 : decode cX6_write 101 = .ok (.ireturn, 1) := by decide +kernel
theorem dX6_copy_0 : decode cX6_copy 0 = .ok (.iload_n 1, 1) := by decide +kernel
theorem dX6_copy_1 : decode cX6_copy 1 = .ok (.invokestatic 278, 3) := by decide +kernel
theorem dX6_copy_4 : decode cX6_copy 4 = .ok (.ifCond .eq 10, 3) := by decide +kernel
theorem dX6_copy_7 : decode cX6_copy 7 = .ok (.iload_n 3, 1) := by decide +kernel
theorem dX6_copy_8 : decode cX6_copy 8 = .ok (.invokestatic 278, 3) := by decide +kernel
theorem dX6_copy_11 : decode cX6_copy 11 = .ok (.ifCond .ne 10, 3) := by decide +kernel
theorem dX6_copy_14 : decode cX6_copy 14 = .ok (.aload_n 0, 1) := by decide +kernel
theorem dX6_copy_15 : decode cX6_copy 15 = .ok (.ldc 34, 2) := by decide +kernel
theorem dX6_copy_17 : decode cX6_copy 17 = .ok (.invokevirtual 36, 3) := by decide +kernel
theorem dX6_copy_20 : decode cX6_copy 20 = .ok (.ireturn, 1) := by decide +kernel
theorem dX6_copy_21 : decode cX6_copy 21 = .ok (.aload_n 0, 1) := by decide +kernel
theorem dX6_copy_22 : decode cX6_copy 22 = .ok (.getfield 25, 3) := by decide +kernel
theorem dX6_copy_25 : decode cX6_copy 25 = .ok (.iload_n 1, 1) := by decide +kernel
theorem dX6_copy_26 : decode cX6_copy 26 = .ok (.iaload, 1) := by decide +kernel
theorem dX6_copy_27 : decode cX6_copy 27 = .ok (.ifCond .eq 12, 3) := by decide +kernel
theorem dX6_copy_30 : decode cX6_copy 30 = .ok (.aload_n 0, 1) := by decide +kernel
theorem dX6_copy_31 : decode cX6_copy 31 = .ok (.getfield 25, 3) := by decide +kernel
theorem dX6_copy_34 : decode cX6_copy 34 = .ok (.iload_n 3, 1) := by decide +kernel
theorem dX6_copy_35 : decode cX6_copy 35 = .ok (.iaload, 1) := by decide +kernel
theorem dX6_copy_36 : decode cX6_copy 36 = .ok (.ifCond .ne 11, 3) := by decide +kernel
theorem dX6_copy_39 : decode cX6_copy 39 = .ok (.aload_n 0, 1) := by decide +kernel
theorem dX6_copy_40 : decode cX6_copy 40 = .ok (.ldc_w 273, 3) := by decide +kernel
theorem dX6_copy_43 : decode cX6_copy 43 = .ok (.invokevirtual 36, 3) := by decide +kernel
theorem dX6_copy_46 : decode cX6_copy 46 = .ok (.ireturn, 1) := by decide +kernel
theorem dX6_copy_47 : decode cX6_copy 47 = .ok (.aload_n 0, 1) := by decide +kernel
theorem dX6_copy_48 : decode cX6_copy 48 = .ok (.getfield 25, 3) := by decide +kernel
theorem dX6_copy_51 : decode cX6_copy 51 = .ok (.iload_n 1, 1) := by decide +kernel
theorem dX6_copy_52 : decode cX6_copy 52 = .ok (.iaload, 1) := by decide +kernel
theorem dX6_copy_53 : decode cX6_copy 53 = .ok (.aload_n 0, 1) := by decide +kernel
theorem dX6_copy_54 : decode cX6_copy 54 = .ok (.getfield 25, 3) := by decide +kernel
theorem dX6_copy_57 : decode cX6_copy 57 = .ok (.iload_n 3, 1) := by decide +kernel
theorem dX6_copy_58 : decode cX6_copy 58 = .ok (.iaload, 1) := by decide +kernel
theorem dX6_copy_59 : decode cX6_copy 59 = .ok (.if_icmp .eq 11, 3) := by decide +kernel
theorem dX6_copy_62 : decode cX6_copy 62 = .ok (.aload_n 0, 1) := by decide +kernel
theorem dX6_copy_63 : decode cX6_copy 63 = .ok (.ldc_w 277, 3) := by decide +kernel
theorem dX6_copy_66 : decode cX6_copy 66 = .ok (.invokevirtual 36, 3) := by decide +kernel
theorem dX6_copy_69 : decode cX6_copy 69 = .ok (.ireturn, 1) := by decide +kernel
theorem dX6_copy_70 : decode cX6_copy 70 = .ok (.iload 5, 2) := by decide +kernel
theorem dX6_copy_72 : decode cX6_copy 72 = .ok (.ifCond .lt 39, 3) := by decide +kernel
theorem dX6_copy_75 : decode cX6_copy 75 = .ok (.iload_n 2, 1) := by decide +kernel
theorem dX6_copy_76 : decode cX6_copy 76 = .ok (.ifCond .lt 35, 3) := by decide +kernel
theorem dX6_copy_79 : decode cX6_copy 79 = .ok (.iload 4, 2) := by decide +kernel
theorem dX6_copy_81 : decode cX6_copy 81 = .ok (.ifCond .lt 30, 3) := by decide +kernel
theorem dX6_copy_84 : decode cX6_copy 84 = .ok (.iload 5, 2) := by decide +kernel
theorem dX6_copy_86 : decode cX6_copy 86 = .ok (.aload_n 0, 1) := by decide +kernel
theorem dX6_copy_87 : decode cX6_copy 87 = .ok (.getfield 28, 3) := by decide +kernel
theorem dX6_copy_90 : decode cX6_copy 90 = .ok (.iload_n 1, 1) := by decide +kernel
theorem dX6_copy_91 : decode cX6_copy 91 = .ok (.iaload, 1) := by decide +kernel
theorem dX6_copy_92 : decode cX6_copy 92 = .ok (.iload_n 2, 1) := by decide +kernel
theorem dX6_copy_93 : decode cX6_copy 93 = .ok (.isub, 1) := by decide +kernel
theorem dX6_copy_94 : decode cX6_copy 94 = .ok (.if_icmp .gt 17, 3) := by decide +kernel
theorem dX6_copy_97 : decode cX6_copy 97 = .ok (.iload 5, 2) := by decide +kernel
theorem dX6_copy_99 : decode cX6_copy 99 = .ok (.aload_n 0, 1) := by decide +kernel
theorem dX6_copy_100 : decode cX6_copy 100 = .ok (.getfield 28, 3) := by decide +kernel
theorem dX6_copy_103 : decode cX6_copy 103 = .ok (.iload_n 3, 1) := by decide +kernel
theorem dX6_copy_104 : decode cX6_copy 104 = .ok (.iaload, 1) := by decide +kernel
theorem dX6_copy_105 : decode cX6_copy 105 = .ok (.iload 4, 2) := by decide +kernel
theorem dX6_copy_107 : decode cX6_copy 107 = .ok (.isub, 1) := by decide +kernel
theorem dX6_copy_108 : decode cX6_copy 108 = .ok (.if_icmp .le 10, 3) := by decide +kernel
theorem dX6_copy_111 : decode cX6_copy 111 = .ok (.aload_n 0, 1) := by decide +kernel
theorem dX6_copy_112 : decode cX6_copy 112 = .ok (.ldc 34, 2) := by decide +kernel
theorem dX6_copy_114 : decode cX6_copy 114 = .ok (.invokevirtual 36, 3) := by decide +kernel
theorem dX6_copy_117 : decode cX6_copy 117 = .ok (.ireturn, 1) := by decide +kernel
theorem dX6_copy_118 : decode cX6_copy 118 = .ok (.iload_n 1, 1) := by decide +kernel
theorem dX6_copy_119 : decode cX6_copy 119 = .ok (.iload_n 3, 1) := by decide +kernel
theorem dX6_copy_120 : decode cX6_copy 120 = .ok (.if_icmp .ne 13, 3) := by decide +kernel
theorem dX6_copy_123 : decode cX6_copy 123 = .ok (.iload_n 2, 1) := by decide +kernel
theorem dX6_copy_124 : decode cX6_copy 124 = .ok (.iload 4, 2) := by decide +kernel
theorem dX6_copy_126 : decode cX6_copy 126 = .ok (.if_icmp .ge 7, 3) := by decide +kernel
theorem dX6_copy_129 : decode cX6_copy 129 = .ok (.iconst 1, 1) := by decide +kernel
theorem dX6_copy_130 : decode cX6_copy 130 = .ok (.goto 4, 3) := by decide +kernel
theorem dX6_copy_133 : decode cX6_copy 133 = .ok (.iconst 0, 1) := by decide +kernel
theorem dX6_copy_134 : decode cX6_copy 134 = .ok (.istore 6, 2) := by decide +kernel
theorem dX6_copy_136 : decode cX6_copy 136 = .ok (.iconst 0, 1) := by decide +kernel
theorem dX6_copy_137 : decode cX6_copy 137 = .ok (.istore 7, 2) := by decide +kernel
theorem dX6_copy_139 : decode cX6_copy 139 = .ok (.iload 7, 2) := by decide +kernel
theorem dX6_copy_141 : decode cX6_copy 141 = .ok (.iload 5, 2) := by decide +kernel
theorem dX6_copy_143 : decode cX6_copy 143 = .ok (.if_icmp .ge 57, 3) := by decide +kernel
theorem dX6_copy_146 : decode cX6_copy 146 = .ok (.iload 6, 2) := by decide +kernel
theorem dX6_copy_148 : decode cX6_copy 148 = .ok (.ifCond .eq 13, 3) := by decide +kernel
theorem dX6_copy_151 : decode cX6_copy 151 = .ok (.iload 5, 2) := by decide +kernel
theorem dX6_copy_153 : decode cX6_copy 153 = .ok (.iconst 1, 1) := by decide +kernel
theorem dX6_copy_154 : decode cX6_copy 154 = .ok (.isub, 1) := by decide +kernel
theorem dX6_copy_155 : decode cX6_copy 155 = .ok (.iload 7, 2) := by decide +kernel
theorem dX6_copy_157 : decode cX6_copy 157 = .ok (.isub, 1) := by decide +kernel
theorem dX6_copy_158 : decode cX6_copy 158 = .ok (.goto 5, 3) := by decide +kernel
theorem dX6_copy_161 : decode cX6_copy 161 = .ok (.iload 7, 2) := by decide +kernel
theorem dX6_copy_163 : decode cX6_copy 163 = .ok (.istore 8, 2) := by decide +kernel
theorem dX6_copy_165 : decode cX6_copy 165 = .ok (.aload_n 0, 1) := by decide +kernel
theorem dX6_copy_166 : decode cX6_copy 166 = .ok (.getfield 31, 3) := by decide +kernel
theorem dX6_copy_169 : decode cX6_copy 169 = .ok (.bipush 40, 2) := by decide +kernel
theorem dX6_copy_171 : decode cX6_copy 171 = .ok (.iload_n 3, 1) := by decide +kernel
theorem dX6_copy_172 : decode cX6_copy 172 = .ok (.imul, 1) := by decide +kernel
theorem dX6_copy_173 : decode cX6_copy 173 = .ok (.iload 4, 2) := by decide +kernel
theorem dX6_copy_175 : decode cX6_copy 175 = .ok (.iadd, 1) := by decide +kernel
theorem dX6_copy_176 : decode cX6_copy 176 = .ok (.iload 8, 2) := by decide +kernel
theorem dX6_copy_178 : decode cX6_copy 178 = .ok (.iadd, 1) := by decide +kernel
theorem dX6_copy_179 : decode cX6_copy 179 = .ok (.aload_n 0, 1) := by decide +kernel
theorem dX6_copy_180 : decode cX6_copy 180 = .ok (.getfield 31, 3) := by decide +kernel
theorem dX6_copy_183 : decode cX6_copy 183 = .ok (.bipush 40, 2) := by decide +kernel
theorem dX6_copy_185 : decode cX6_copy 185 = .ok (.iload_n 1, 1) := by decide +kernel
theorem dX6_copy_186 : decode cX6_copy 186 = .ok (.imul, 1) := by decide +kernel
theorem dX6_copy_187 : decode cX6_copy 187 = .ok (.iload_n 2, 1) := by decide +kernel
theorem dX6_copy_188 : decode cX6_copy 188 = .ok (.iadd, 1) := by decide +kernel
theorem dX6_copy_189 : decode cX6_copy 189 = .ok (.iload 8, 2) := by decide +kernel
theorem dX6_copy_191 : decode cX6_copy 191 = .ok (.iadd, 1) := by decide +kernel
theorem dX6_copy_192 : decode cX6_copy 192 = .ok (.iaload, 1) := by decide +kernel
theorem dX6_copy_193 : decode cX6_copy 193 = .ok (.iastore, 1) := by decide +kernel
theorem dX6_copy_194 : decode cX6_copy 194 = .ok (.iinc 7 1, 3) := by decide +kernel
theorem dX6_copy_197 : decode cX6_copy 197 = .ok (.goto (-58), 3) := by decide +kernel
theorem dX6_copy_200 : decode cX6_copy 200 = .ok (.iload 5, 2) := by decide +kernel
theorem dX6_copy_202 : decode cX6_copy 202 = .ok (.ireturn, 1) := by decide +kernel
theorem dX6_load_0 : decode cX6_load 0 = .ok (.iload_n 1, 1) := by decide +kernel
theorem dX6_load_1 : decode cX6_load 1 = .ok (.invokestatic 278, 3) := by decide +kernel
theorem dX6_load_4 : decode cX6_load 4 = .ok (.ifCond .ne 10, 3) := by decide +kernel
theorem dX6_load_7 : decode cX6_load 7 = .ok (.aload_n 0, 1) := by decide +kernel
theorem dX6_load_8 : decode cX6_load 8 = .ok (.ldc 34, 2) := by decide +kernel
theorem dX6_load_10 : decode cX6_load 10 = .ok (.invokevirtual 36, 3) := by decide +kernel
theorem dX6_load_13 : decode cX6_load 13 = .ok (.ireturn, 1) := by decide +kernel
theorem dX6_load_14 : decode cX6_load 14 = .ok (.aload_n 0, 1) := by decide +kernel
theorem dX6_load_15 : decode cX6_load 15 = .ok (.getfield 25, 3) := by decide +kernel
theorem dX6_load_18 : decode cX6_load 18 = .ok (.iload_n 1, 1) := by decide +kernel
theorem dX6_load_19 : decode cX6_load 19 = .ok (.iaload, 1) := by decide +kernel
theorem dX6_load_20 : decode cX6_load 20 = .ok (.ifCond .ne 11, 3) := by decide +kernel
theorem dX6_load_23 : decode cX6_load 23 = .ok (.aload_n 0, 1) := by decide +kernel
theorem dX6_load_24 : decode cX6_load 24 = .ok (.ldc_w 273, 3) := by decide +kernel
theorem dX6_load_27 : decode cX6_load 27 = .ok (.invokevirtual 36, 3) := by decide +kernel
theorem dX6_load_30 : decode cX6_load 30 = .ok (.ireturn, 1) := by decide +kernel
theorem dX6_load_31 : decode cX6_load 31 = .ok (.iconst 0, 1) := by decide +kernel
theorem dX6_load_32 : decode cX6_load 32 = .ok (.istore_n 2, 1) := by decide +kernel
theorem dX6_load_33 : decode cX6_load 33 = .ok (.iload_n 2, 1) := by decide +kernel
theorem dX6_load_34 : decode cX6_load 34 = .ok (.aload_n 0, 1) := by decide +kernel
theorem dX6_load_35 : decode cX6_load 35 = .ok (.getfield 28, 3) := by decide +kernel
theorem dX6_load_38 : decode cX6_load 38 = .ok (.iload_n 1, 1) := by decide +kernel
theorem dX6_load_39 : decode cX6_load 39 = .ok (.iaload, 1) := by decide +kernel
theorem dX6_load_40 : decode cX6_load 40 = .ok (.if_icmp .ge 59, 3) := by decide +kernel
theorem dX6_load_43 : decode cX6_load 43 = .ok (.iload_n 2, 1) := by decide +kernel
theorem dX6_load_44 : decode cX6_load 44 = .ok (.bipush 10, 2) := by decide +kernel
theorem dX6_load_46 : decode cX6_load 46 = .ok (.if_icmp .ge 53, 3) := by decide +kernel
theorem dX6_load_49 : decode cX6_load 49 = .ok (.aload_n 0, 1) := by decide +kernel
theorem dX6_load_50 : decode cX6_load 50 = .ok (.getfield 31, 3) := by decide +kernel
theorem dX6_load_53 : decode cX6_load 53 = .ok (.bipush 40, 2) := by decide +kernel
theorem dX6_load_55 : decode cX6_load 55 = .ok (.iload_n 1, 1) := by decide +kernel
theorem dX6_load_56 : decode cX6_load 56 = .ok (.imul, 1) := by decide +kernel
theorem dX6_load_57 : decode cX6_load 57 = .ok (.iload_n 2, 1) := by decide +kernel
theorem dX6_load_58 : decode cX6_load 58 = .ok (.iadd, 1) := by decide +kernel
theorem dX6_load_59 : decode cX6_load 59 = .ok (.iaload, 1) := by decide +kernel
theorem dX6_load_60 : decode cX6_load 60 = .ok (.i2l, 1) := by decide +kernel
theorem dX6_load_61 : decode cX6_load 61 = .ok (.lconst 0, 1) := by decide +kernel
theorem dX6_load_62 : decode cX6_load 62 = .ok (.ldc2_w 53, 3) := by decide +kernel
theorem dX6_load_65 : decode cX6_load 65 = .ok (.invokestatic 42, 3) := by decide +kernel
theorem dX6_load_68 : decode cX6_load 68 = .ok (.ifCond .eq 31, 3) := by decide +kernel
theorem dX6_load_71 : decode cX6_load 71 = .ok (.aload_n 0, 1) := by decide +kernel
theorem dX6_load_72 : decode cX6_load 72 = .ok (.getfield 9, 3) := by decide +kernel
theorem dX6_load_75 : decode cX6_load 75 = .ok (.bipush 10, 2) := by decide +kernel
theorem dX6_load_77 : decode cX6_load 77 = .ok (.iconst 3, 1) := by decide +kernel
theorem dX6_load_78 : decode cX6_load 78 = .ok (.iload_n 2, 1) := by decide +kernel
theorem dX6_load_79 : decode cX6_load 79 = .ok (.imul, 1) := by decide +kernel
theorem dX6_load_80 : decode cX6_load 80 = .ok (.iadd, 1) := by decide +kernel
theorem dX6_load_81 : decode cX6_load 81 = .ok (.aload_n 0, 1) := by decide +kernel
theorem dX6_load_82 : decode cX6_load 82 = .ok (.getfield 31, 3) := by decide +kernel
theorem dX6_load_85 : decode cX6_load 85 = .ok (.bipush 40, 2) := by decide +kernel
theorem dX6_load_87 : decode cX6_load 87 = .ok (.iload_n 1, 1) := by decide +kernel
theorem dX6_load_88 : decode cX6_load 88 = .ok (.imul, 1) := by decide +kernel
theorem dX6_load_89 : decode cX6_load 89 = .ok (.iload_n 2, 1) := by decide +kernel
theorem dX6_load_90 : decode cX6_load 90 = .ok (.iadd, 1) := by decide +kernel
theorem dX6_load_91 : decode cX6_load 91 = .ok (.iaload, 1) := by decide +kernel
theorem dX6_load_92 : decode cX6_load 92 = .ok (.iastore, 1) := by decide +kernel
theorem dX6_load_93 : decode cX6_load 93 = .ok (.iinc 2 1, 3) := by decide +kernel
theorem dX6_load_96 : decode cX6_load 96 = .ok (.goto (-63), 3) := by decide +kernel
theorem dX6_load_99 : decode cX6_load 99 = .ok (.iload_n 2, 1) := by decide +kernel
theorem dX6_load_100 : decode cX6_load 100 = .ok (.ireturn, 1) := by decide +kernel
theorem dX6_judge_0 : decode cX6_judge 0 = .ok (.iload_n 1, 1) := by decide +kernel
theorem dX6_judge_1 : decode cX6_judge 1 = .ok (.invokestatic 278, 3) := by decide +kernel
theorem dX6_judge_4 : decode cX6_judge 4 = .ok (.ifCond .ne 10, 3) := by decide +kernel
theorem dX6_judge_7 : decode cX6_judge 7 = .ok (.aload_n 0, 1) := by decide +kernel
theorem dX6_judge_8 : decode cX6_judge 8 = .ok (.ldc 34, 2) := by decide +kernel
theorem dX6_judge_10 : decode cX6_judge 10 = .ok (.invokevirtual 36, 3) := by decide +kernel
theorem dX6_judge_13 : decode cX6_judge 13 = .ok (.ireturn, 1) := by decide +kernel
theorem dX6_judge_14 : decode cX6_judge 14 = .ok (.aload_n 0, 1) := by decide +kernel
theorem dX6_judge_15 : decode cX6_judge 15 = .ok (.getfield 25, 3) := by decide +kernel
theorem dX6_judge_18 : decode cX6_judge 18 = .ok (.iload_n 1, 1) := by decide +kernel
theorem dX6_judge_19 : decode cX6_judge 19 = .ok (.iaload, 1) := by decide +kernel
theorem dX6_judge_20 : decode cX6_judge 20 = .ok (.ifCond .ne 11, 3) := by decide +kernel
theorem dX6_judge_23 : decode cX6_judge 23 = .ok (.aload_n 0, 1) := by decide +kernel
theorem dX6_judge_24 : decode cX6_judge 24 = .ok (.ldc_w 273, 3) := by decide +kernel
theorem dX6_judge_27 : decode cX6_judge 27 = .ok (.invokevirtual 36, 3) := by decide +kernel
theorem dX6_judge_30 : decode cX6_judge 30 = .ok (.ireturn, 1) := by decide +kernel
theorem dX6_judge_31 : decode cX6_judge 31 = .ok (.aload_n 0, 1) := by decide +kernel
theorem dX6_judge_32 : decode cX6_judge 32 = .ok (.getfield 9, 3) := by decide +kernel
theorem dX6_judge_35 : decode cX6_judge 35 = .ok (.iconst 0, 1) := by decide +kernel
theorem dX6_judge_36 : decode cX6_judge 36 = .ok (.iaload, 1) := by decide +kernel
theorem dX6_judge_37 : decode cX6_judge 37 = .ok (.aload_n 0, 1) := by decide +kernel
theorem dX6_judge_38 : decode cX6_judge 38 = .ok (.getfield 28, 3) := by decide +kernel
theorem dX6_judge_41 : decode cX6_judge 41 = .ok (.iload_n 1, 1) := by decide +kernel
theorem dX6_judge_42 : decode cX6_judge 42 = .ok (.iaload, 1) := by decide +kernel
theorem dX6_judge_43 : decode cX6_judge 43 = .ok (.iadd, 1) := by decide +kernel
theorem dX6_judge_44 : decode cX6_judge 44 = .ok (.ldc 134, 2) := by decide +kernel
theorem dX6_judge_46 : decode cX6_judge 46 = .ok (.if_icmp .le 10, 3) := by decide +kernel
theorem dX6_judge_49 : decode cX6_judge 49 = .ok (.aload_n 0, 1) := by decide +kernel
theorem dX6_judge_50 : decode cX6_judge 50 = .ok (.ldc 135, 2) := by decide +kernel
theorem dX6_judge_52 : decode cX6_judge 52 = .ok (.invokevirtual 36, 3) := by decide +kernel
theorem dX6_judge_55 : decode cX6_judge 55 = .ok (.ireturn, 1) := by decide +kernel
theorem dX6_judge_56 : decode cX6_judge 56 = .ok (.aload_n 0, 1) := by decide +kernel
theorem dX6_judge_57 : decode cX6_judge 57 = .ok (.getfield 9, 3) := by decide +kernel
theorem dX6_judge_60 : decode cX6_judge 60 = .ok (.aload_n 0, 1) := by decide +kernel
theorem dX6_judge_61 : decode cX6_judge 61 = .ok (.getfield 16, 3) := by decide +kernel
theorem dX6_judge_64 : decode cX6_judge 64 = .ok (.invokestatic 156, 3) := by decide +kernel
theorem dX6_judge_67 : decode cX6_judge 67 = .ok (.iconst 0, 1) := by decide +kernel
theorem dX6_judge_68 : decode cX6_judge 68 = .ok (.istore_n 2, 1) := by decide +kernel
theorem dX6_judge_69 : decode cX6_judge 69 = .ok (.iload_n 2, 1) := by decide +kernel
theorem dX6_judge_70 : decode cX6_judge 70 = .ok (.aload_n 0, 1) := by decide +kernel
theorem dX6_judge_71 : decode cX6_judge 71 = .ok (.getfield 28, 3) := by decide +kernel
theorem dX6_judge_74 : decode cX6_judge 74 = .ok (.iload_n 1, 1) := by decide +kernel
theorem dX6_judge_75 : decode cX6_judge 75 = .ok (.iaload, 1) := by decide +kernel
theorem dX6_judge_76 : decode cX6_judge 76 = .ok (.if_icmp .ge 31, 3) := by decide +kernel
theorem dX6_judge_79 : decode cX6_judge 79 = .ok (.aload_n 0, 1) := by decide +kernel
theorem dX6_judge_80 : decode cX6_judge 80 = .ok (.aload_n 0, 1) := by decide +kernel
theorem dX6_judge_81 : decode cX6_judge 81 = .ok (.invokevirtual 126, 3) := by decide +kernel
theorem dX6_judge_84 : decode cX6_judge 84 = .ok (.invokevirtual 129, 3) := by decide +kernel
theorem dX6_judge_87 : decode cX6_judge 87 = .ok (.aload_n 0, 1) := by decide +kernel
theorem dX6_judge_88 : decode cX6_judge 88 = .ok (.getfield 31, 3) := by decide +kernel
theorem dX6_judge_91 : decode cX6_judge 91 = .ok (.bipush 40, 2) := by decide +kernel
theorem dX6_judge_93 : decode cX6_judge 93 = .ok (.iload_n 1, 1) := by decide +kernel
theorem dX6_judge_94 : decode cX6_judge 94 = .ok (.imul, 1) := by decide +kernel
theorem dX6_judge_95 : decode cX6_judge 95 = .ok (.iload_n 2, 1) := by decide +kernel
theorem dX6_judge_96 : decode cX6_judge 96 = .ok (.iadd, 1) := by decide +kernel
theorem dX6_judge_97 : decode cX6_judge 97 = .ok (.iaload, 1) := by decide +kernel
theorem dX6_judge_98 : decode cX6_judge 98 = .ok (.if_icmp .ne 9, 3) := by decide +kernel
theorem dX6_judge_101 : decode cX6_judge 101 = .ok (.iinc 2 1, 3) := by decide +kernel
theorem dX6_judge_104 : decode cX6_judge 104 = .ok (.goto (-35), 3) := by decide +kernel
theorem dX6_judge_107 : decode cX6_judge 107 = .ok (.aload_n 0, 1) := by decide +kernel
theorem dX6_judge_108 : decode cX6_judge 108 = .ok (.getfield 16, 3) := by decide +kernel
theorem dX6_judge_111 : decode cX6_judge 111 = .ok (.aload_n 0, 1) := by decide +kernel
theorem dX6_judge_112 : decode cX6_judge 112 = .ok (.getfield 9, 3) := by decide +kernel
theorem dX6_judge_115 : decode cX6_judge 115 = .ok (.invokestatic 156, 3) := by decide +kernel
theorem dX6_judge_118 : decode cX6_judge 118 = .ok (.iload_n 2, 1) := by decide +kernel
theorem dX6_judge_119 : decode cX6_judge 119 = .ok (.aload_n 0, 1) := by decide +kernel
theorem dX6_judge_120 : decode cX6_judge 120 = .ok (.getfield 28, 3) := by decide +kernel
theorem dX6_judge_123 : decode cX6_judge 123 = .ok (.iload_n 1, 1) := by decide +kernel
theorem dX6_judge_124 : decode cX6_judge 124 = .ok (.iaload, 1) := by decide +kernel
theorem dX6_judge_125 : decode cX6_judge 125 = .ok (.if_icmp .ne 7, 3) := by decide +kernel
theorem dX6_judge_128 : decode cX6_judge 128 = .ok (.iconst 0, 1) := by decide +kernel
theorem dX6_judge_129 : decode cX6_judge 129 = .ok (.goto 6, 3) := by decide +kernel
theorem dX6_judge_132 : decode cX6_judge 132 = .ok (.iconst 1, 1) := by decide +kernel
theorem dX6_judge_133 : decode cX6_judge 133 = .ok (.iload_n 2, 1) := by decide +kernel
theorem dX6_judge_134 : decode cX6_judge 134 = .ok (.iadd, 1) := by decide +kernel
theorem dX6_judge_135 : decode cX6_judge 135 = .ok (.ireturn, 1) := by decide +kernel
theorem dX6_image_0 : decode cX6_image 0 = .ok (.aload_n 0, 1) := by decide +kernel
theorem dX6_image_1 : decode cX6_image 1 = .ok (.getfield 9, 3) := by decide +kernel
theorem dX6_image_4 : decode cX6_image 4 = .ok (.aload_n 0, 1) := by decide +kernel
theorem dX6_image_5 : decode cX6_image 5 = .ok (.getfield 13, 3) := by decide +kernel
theorem dX6_image_8 : decode cX6_image 8 = .ok (.invokestatic 156, 3) := by decide +kernel
theorem dX6_image_11 : decode cX6_image 11 = .ok (.aload_n 0, 1) := by decide +kernel
theorem dX6_image_12 : decode cX6_image 12 = .ok (.iconst 1, 1) := by decide +kernel
theorem dX6_image_13 : decode cX6_image 13 = .ok (.putfield 282, 3) := by decide +kernel
theorem dX6_image_16 : decode cX6_image 16 = .ok (.iconst 1, 1) := by decide +kernel
theorem dX6_image_17 : decode cX6_image 17 = .ok (.ireturn, 1) := by decide +kernel
theorem dX6_undo_0 : decode cX6_undo 0 = .ok (.aload_n 0, 1) := by decide +kernel
theorem dX6_undo_1 : decode cX6_undo 1 = .ok (.getfield 282, 3) := by decide +kernel
theorem dX6_undo_4 : decode cX6_undo 4 = .ok (.ifCond .ne 10, 3) := by decide +kernel
theorem dX6_undo_7 : decode cX6_undo 7 = .ok (.aload_n 0, 1) := by decide +kernel
theorem dX6_undo_8 : decode cX6_undo 8 = .ok (.ldc 35, 2) := by decide +kernel
theorem dX6_undo_10 : decode cX6_undo 10 = .ok (.invokevirtual 36, 3) := by decide +kernel
theorem dX6_undo_13 : decode cX6_undo 13 = .ok (.ireturn, 1) := by decide +kernel
theorem dX6_undo_14 : decode cX6_undo 14 = .ok (.aload_n 0, 1) := by decide +kernel
theorem dX6_undo_15 : decode cX6_undo 15 = .ok (.getfield 13, 3) := by decide +kernel
theorem dX6_undo_18 : decode cX6_undo 18 = .ok (.aload_n 0, 1) := by decide +kernel
theorem dX6_undo_19 : decode cX6_undo 19 = .ok (.getfield 9, 3) := by decide +kernel
theorem dX6_undo_22 : decode cX6_undo 22 = .ok (.invokestatic 156, 3) := by decide +kernel
theorem dX6_undo_25 : decode cX6_undo 25 = .ok (.aload_n 0, 1) := by decide +kernel
theorem dX6_undo_26 : decode cX6_undo 26 = .ok (.getfield 9, 3) := by decide +kernel
theorem dX6_undo_29 : decode cX6_undo 29 = .ok (.iconst 0, 1) := by decide +kernel
theorem dX6_undo_30 : decode cX6_undo 30 = .ok (.iaload, 1) := by decide +kernel
theorem dX6_undo_31 : decode cX6_undo 31 = .ok (.ireturn, 1) := by decide +kernel
theorem dX6_tear_0 : decode cX6_tear 0 = .ok (.aload_n 0, 1) := by decide +kernel
theorem dX6_tear_1 : decode cX6_tear 1 = .ok (.getfield 282, 3) := by decide +kernel
theorem dX6_tear_4 : decode cX6_tear 4 = .ok (.ifCond .eq 7, 3) := by decide +kernel
theorem dX6_tear_7 : decode cX6_tear 7 = .ok (.iconst 1, 1) := by decide +kernel
theorem dX6_tear_8 : decode cX6_tear 8 = .ok (.goto 4, 3) := by decide +kernel
theorem dX6_tear_11 : decode cX6_tear 11 = .ok (.iconst 0, 1) := by decide +kernel
theorem dX6_tear_12 : decode cX6_tear 12 = .ok (.istore_n 1, 1) := by decide +kernel
theorem dX6_tear_13 : decode cX6_tear 13 = .ok (.aload_n 0, 1) := by decide +kernel
theorem dX6_tear_14 : decode cX6_tear 14 = .ok (.iconst 0, 1) := by decide +kernel
theorem dX6_tear_15 : decode cX6_tear 15 = .ok (.putfield 282, 3) := by decide +kernel
theorem dX6_tear_18 : decode cX6_tear 18 = .ok (.iload_n 1, 1) := by decide +kernel
theorem dX6_tear_19 : decode cX6_tear 19 = .ok (.ireturn, 1) := by decide +kernel
theorem dX6_count_0 : decode cX6_count 0 = .ok (.iconst 0, 1) := by decide +kernel
theorem dX6_count_1 : decode cX6_count 1 = .ok (.istore_n 2, 1) := by decide +kernel
theorem dX6_count_2 : decode cX6_count 2 = .ok (.iload_n 1, 1) := by decide +kernel
theorem dX6_count_3 : decode cX6_count 3 = .ok (.tableswitch 130 0 5 #[37, 45, 50, 82, 87, 94], 37) := by decide +kernel
theorem dX6_count_40 : decode cX6_count 40 = .ok (.aload_n 0, 1) := by decide +kernel
theorem dX6_count_41 : decode cX6_count 41 = .ok (.getfield 9, 3) := by decide +kernel
theorem dX6_count_44 : decode cX6_count 44 = .ok (.bipush 8, 2) := by decide +kernel
theorem dX6_count_46 : decode cX6_count 46 = .ok (.iaload, 1) := by decide +kernel
theorem dX6_count_47 : decode cX6_count 47 = .ok (.ireturn, 1) := by decide +kernel
theorem dX6_count_48 : decode cX6_count 48 = .ok (.aload_n 0, 1) := by decide +kernel
theorem dX6_count_49 : decode cX6_count 49 = .ok (.invokevirtual 163, 3) := by decide +kernel
theorem dX6_count_52 : decode cX6_count 52 = .ok (.ireturn, 1) := by decide +kernel
theorem dX6_count_53 : decode cX6_count 53 = .ok (.iconst 0, 1) := by decide +kernel
theorem dX6_count_54 : decode cX6_count 54 = .ok (.istore_n 3, 1) := by decide +kernel
theorem dX6_count_55 : decode cX6_count 55 = .ok (.iload_n 3, 1) := by decide +kernel
theorem dX6_count_56 : decode cX6_count 56 = .ok (.bipush 10, 2) := by decide +kernel
theorem dX6_count_58 : decode cX6_count 58 = .ok (.if_icmp .ge 25, 3) := by decide +kernel
theorem dX6_count_61 : decode cX6_count 61 = .ok (.iload_n 2, 1) := by decide +kernel
theorem dX6_count_62 : decode cX6_count 62 = .ok (.aload_n 0, 1) := by decide +kernel
theorem dX6_count_63 : decode cX6_count 63 = .ok (.getfield 9, 3) := by decide +kernel
theorem dX6_count_66 : decode cX6_count 66 = .ok (.bipush 10, 2) := by decide +kernel
theorem dX6_count_68 : decode cX6_count 68 = .ok (.iconst 3, 1) := by decide +kernel
theorem dX6_count_69 : decode cX6_count 69 = .ok (.iload_n 3, 1) := by decide +kernel
theorem dX6_count_70 : decode cX6_count 70 = .ok (.imul, 1) := by decide +kernel
theorem dX6_count_71 : decode cX6_count 71 = .ok (.iadd, 1) := by decide +kernel
theorem dX6_count_72 : decode cX6_count 72 = .ok (.iconst 2, 1) := by decide +kernel
theorem dX6_count_73 : decode cX6_count 73 = .ok (.iadd, 1) := by decide +kernel
theorem dX6_count_74 : decode cX6_count 74 = .ok (.iaload, 1) := by decide +kernel
theorem dX6_count_75 : decode cX6_count 75 = .ok (.iadd, 1) := by decide +kernel
theorem dX6_count_76 : decode cX6_count 76 = .ok (.istore_n 2, 1) := by decide +kernel
theorem dX6_count_77 : decode cX6_count 77 = .ok (.iinc 3 1, 3) := by decide +kernel
theorem dX6_count_80 : decode cX6_count 80 = .ok (.goto (-25), 3) := by decide +kernel
theorem dX6_count_83 : decode cX6_count 83 = .ok (.iload_n 2, 1) := by decide +kernel
theorem dX6_count_84 : decode cX6_count 84 = .ok (.ireturn, 1) := by decide +kernel
theorem dX6_count_85 : decode cX6_count 85 = .ok (.aload_n 0, 1) := by decide +kernel
theorem dX6_count_86 : decode cX6_count 86 = .ok (.getfield 173, 3) := by decide +kernel
theorem dX6_count_89 : decode cX6_count 89 = .ok (.ireturn, 1) := by decide +kernel
theorem dX6_count_90 : decode cX6_count 90 = .ok (.aload_n 0, 1) := by decide +kernel
theorem dX6_count_91 : decode cX6_count 91 = .ok (.getfield 9, 3) := by decide +kernel
theorem dX6_count_94 : decode cX6_count 94 = .ok (.iconst 1, 1) := by decide +kernel
theorem dX6_count_95 : decode cX6_count 95 = .ok (.iaload, 1) := by decide +kernel
theorem dX6_count_96 : decode cX6_count 96 = .ok (.ireturn, 1) := by decide +kernel
theorem dX6_count_97 : decode cX6_count 97 = .ok (.iconst 0, 1) := by decide +kernel
theorem dX6_count_98 : decode cX6_count 98 = .ok (.istore_n 3, 1) := by decide +kernel
theorem dX6_count_99 : decode cX6_count 99 = .ok (.iload_n 3, 1) := by decide +kernel
theorem dX6_count_100 : decode cX6_count 100 = .ok (.bipush 10, 2) := by decide +kernel
theorem dX6_count_102 : decode cX6_count 102 = .ok (.if_icmp .ge 29, 3) := by decide +kernel
theorem dX6_count_105 : decode cX6_count 105 = .ok (.iload_n 2, 1) := by decide +kernel
theorem dX6_count_106 : decode cX6_count 106 = .ok (.aload_n 0, 1) := by decide +kernel
theorem dX6_count_107 : decode cX6_count 107 = .ok (.getfield 9, 3) := by decide +kernel
theorem dX6_count_110 : decode cX6_count 110 = .ok (.bipush 70, 2) := by decide +kernel
theorem dX6_count_112 : decode cX6_count 112 = .ok (.iload_n 3, 1) := by decide +kernel
theorem dX6_count_113 : decode cX6_count 113 = .ok (.iadd, 1) := by decide +kernel
theorem dX6_count_114 : decode cX6_count 114 = .ok (.iaload, 1) := by decide +kernel
theorem dX6_count_115 : decode cX6_count 115 = .ok (.ifCond .ge 7, 3) := by decide +kernel
theorem dX6_count_118 : decode cX6_count 118 = .ok (.iconst 0, 1) := by decide +kernel
theorem dX6_count_119 : decode cX6_count 119 = .ok (.goto 4, 3) := by decide +kernel
theorem dX6_count_122 : decode cX6_count 122 = .ok (.iconst 1, 1) := by decide +kernel
theorem dX6_count_123 : decode cX6_count 123 = .ok (.iadd, 1) := by decide +kernel
theorem dX6_count_124 : decode cX6_count 124 = .ok (.istore_n 2, 1) := by decide +kernel
theorem dX6_count_125 : decode cX6_count 125 = .ok (.iinc 3 1, 3) := by decide +kernel
theorem dX6_count_128 : decode cX6_count 128 = .ok (.goto (-29), 3) := by decide +kernel
theorem dX6_count_131 : decode cX6_count 131 = .ok (.iload_n 2, 1) := by decide +kernel
theorem dX6_count_132 : decode cX6_count 132 = .ok (.ireturn, 1) := by decide +kernel
theorem dX6_count_133 : decode cX6_count 133 = .ok (.aload_n 0, 1) := by decide +kernel
theorem dX6_count_134 : decode cX6_count 134 = .ok (.ldc 34, 2) := by decide +kernel
theorem dX6_count_136 : decode cX6_count 136 = .ok (.invokevirtual 36, 3) := by decide +kernel
theorem dX6_count_139 : decode cX6_count 139 = .ok (.ireturn, 1) := by decide +kernel
theorem dX6_status_0 : decode cX6_status 0 = .ok (.iload_n 1, 1) := by decide +kernel
theorem dX6_status_1 : decode cX6_status 1 = .ok (.i2l, 1) := by decide +kernel
theorem dX6_status_2 : decode cX6_status 2 = .ok (.ldc2_w 285, 3) := by decide +kernel
theorem dX6_status_5 : decode cX6_status 5 = .ok (.ldc2_w 46, 3) := by decide +kernel
theorem dX6_status_8 : decode cX6_status 8 = .ok (.invokestatic 42, 3) := by decide +kernel
theorem dX6_status_11 : decode cX6_status 11 = .ok (.ifCond .ne 10, 3) := by decide +kernel
theorem dX6_status_14 : decode cX6_status 14 = .ok (.aload_n 0, 1) := by decide +kernel
theorem dX6_status_15 : decode cX6_status 15 = .ok (.ldc 34, 2) := by decide +kernel
theorem dX6_status_17 : decode cX6_status 17 = .ok (.invokevirtual 36, 3) := by decide +kernel
theorem dX6_status_20 : decode cX6_status 20 = .ok (.ireturn, 1) := by decide +kernel
theorem dX6_status_21 : decode cX6_status 21 = .ok (.iconst 0, 1) := by decide +kernel
theorem dX6_status_22 : decode cX6_status 22 = .ok (.istore_n 2, 1) := by decide +kernel
theorem dX6_status_23 : decode cX6_status 23 = .ok (.iconst 0, 1) := by decide +kernel
theorem dX6_status_24 : decode cX6_status 24 = .ok (.istore_n 3, 1) := by decide +kernel
theorem dX6_status_25 : decode cX6_status 25 = .ok (.iload_n 3, 1) := by decide +kernel
theorem dX6_status_26 : decode cX6_status 26 = .ok (.bipush 7, 2) := by decide +kernel
theorem dX6_status_28 : decode cX6_status 28 = .ok (.if_icmp .ge 31, 3) := by decide +kernel
theorem dX6_status_31 : decode cX6_status 31 = .ok (.iload_n 2, 1) := by decide +kernel
theorem dX6_status_32 : decode cX6_status 32 = .ok (.iload_n 1, 1) := by decide +kernel
theorem dX6_status_33 : decode cX6_status 33 = .ok (.ifCond .lt 8, 3) := by decide +kernel
theorem dX6_status_36 : decode cX6_status 36 = .ok (.iload_n 1, 1) := by decide +kernel
theorem dX6_status_37 : decode cX6_status 37 = .ok (.iload_n 3, 1) := by decide +kernel
theorem dX6_status_38 : decode cX6_status 38 = .ok (.if_icmp .ne 12, 3) := by decide +kernel
theorem dX6_status_41 : decode cX6_status 41 = .ok (.aload_n 0, 1) := by decide +kernel
theorem dX6_status_42 : decode cX6_status 42 = .ok (.getfield 19, 3) := by decide +kernel
theorem dX6_status_45 : decode cX6_status 45 = .ok (.iload_n 3, 1) := by decide +kernel
theorem dX6_status_46 : decode cX6_status 46 = .ok (.iaload, 1) := by decide +kernel
theorem dX6_status_47 : decode cX6_status 47 = .ok (.goto 4, 3) := by decide +kernel
theorem dX6_status_50 : decode cX6_status 50 = .ok (.iconst 0, 1) := by decide +kernel
theorem dX6_status_51 : decode cX6_status 51 = .ok (.iadd, 1) := by decide +kernel
theorem dX6_status_52 : decode cX6_status 52 = .ok (.istore_n 2, 1) := by decide +kernel
theorem dX6_status_53 : decode cX6_status 53 = .ok (.iinc 3 1, 3) := by decide +kernel
theorem dX6_status_56 : decode cX6_status 56 = .ok (.goto (-31), 3) := by decide +kernel
theorem dX6_status_59 : decode cX6_status 59 = .ok (.iload_n 2, 1) := by decide +kernel
theorem dX6_status_60 : decode cX6_status 60 = .ok (.ireturn, 1) := by decide +kernel
end
section
theorem dJ0_length_8abf5_0 : decode cJ0_length_8abf5 0 = .ok (.aload_n 0, 1) := by decide +kernel
theorem dJ0_length_8abf5_1 : decode cJ0_length_8abf5 1 = .ok (.getfield 9, 3) := by decide +kernel
theorem dJ0_length_8abf5_4 : decode cJ0_length_8abf5 4 = .ok (.arraylength, 1) := by decide +kernel
theorem dJ0_length_8abf5_5 : decode cJ0_length_8abf5 5 = .ok (.aload_n 0, 1) := by decide +kernel
theorem dJ0_length_8abf5_6 : decode cJ0_length_8abf5 6 = .ok (.invokevirtual 335, 3) := by decide +kernel
theorem dJ0_length_8abf5_9 : decode cJ0_length_8abf5 9 = .ok (.ishr, 1) := by decide +kernel
theorem dJ0_length_8abf5_10 : decode cJ0_length_8abf5 10 = .ok (.ireturn, 1) := by decide +kernel
theorem dJ0_charAt_5068e_0 : decode cJ0_charAt_5068e 0 = .ok (.aload_n 0, 1) := by decide +kernel
theorem dJ0_charAt_5068e_1 : decode cJ0_charAt_5068e 1 = .ok (.invokevirtual 492, 3) := by decide +kernel
theorem dJ0_charAt_5068e_4 : decode cJ0_charAt_5068e 4 = .ok (.ifCond .eq 12, 3) := by decide +kernel
theorem dJ0_charAt_5068e_7 : decode cJ0_charAt_5068e 7 = .ok (.aload_n 0, 1) := by decide +kernel
theorem dJ0_charAt_5068e_8 : decode cJ0_charAt_5068e 8 = .ok (.getfield 9, 3) := by decide +kernel
theorem dJ0_charAt_5068e_11 : decode cJ0_charAt_5068e 11 = .ok (.iload_n 1, 1) := by decide +kernel
theorem dJ0_charAt_5068e_12 : decode cJ0_charAt_5068e 12 = .ok (.invokestatic 495, 3) := by decide +kernel
theorem dJ0_charAt_5068e_15 : decode cJ0_charAt_5068e 15 = .ok (.ireturn, 1) := by decide +kernel
theorem dJ0_charAt_5068e_16 : decode cJ0_charAt_5068e 16 = .ok (.aload_n 0, 1) := by decide +kernel
theorem dJ0_charAt_5068e_17 : decode cJ0_charAt_5068e 17 = .ok (.getfield 9, 3) := by decide +kernel
theorem dJ0_charAt_5068e_20 : decode cJ0_charAt_5068e 20 = .ok (.iload_n 1, 1) := by decide +kernel
theorem dJ0_charAt_5068e_21 : decode cJ0_charAt_5068e 21 = .ok (.invokestatic 498, 3) := by decide +kernel
theorem dJ0_charAt_5068e_24 : decode cJ0_charAt_5068e 24 = .ok (.ireturn, 1) := by decide +kernel
theorem dJ0_coder_7d493_0 : decode cJ0_coder_7d493 0 = .ok (.getstatic 38, 3) := by decide +kernel
theorem dJ0_coder_7d493_3 : decode cJ0_coder_7d493 3 = .ok (.ifCond .eq 10, 3) := by decide +kernel
theorem dJ0_coder_7d493_6 : decode cJ0_coder_7d493 6 = .ok (.aload_n 0, 1) := by decide +kernel
theorem dJ0_coder_7d493_7 : decode cJ0_coder_7d493 7 = .ok (.getfield 15, 3) := by decide +kernel
theorem dJ0_coder_7d493_10 : decode cJ0_coder_7d493 10 = .ok (.goto 4, 3) := by decide +kernel
theorem dJ0_coder_7d493_13 : decode cJ0_coder_7d493 13 = .ok (.iconst 1, 1) := by decide +kernel
theorem dJ0_coder_7d493_14 : decode cJ0_coder_7d493 14 = .ok (.ireturn, 1) := by decide +kernel
theorem dJ0_isLatin1_aae02_0 : decode cJ0_isLatin1_aae02 0 = .ok (.getstatic 38, 3) := by decide +kernel
theorem dJ0_isLatin1_aae02_3 : decode cJ0_isLatin1_aae02 3 = .ok (.ifCond .eq 14, 3) := by decide +kernel
theorem dJ0_isLatin1_aae02_6 : decode cJ0_isLatin1_aae02 6 = .ok (.aload_n 0, 1) := by decide +kernel
theorem dJ0_isLatin1_aae02_7 : decode cJ0_isLatin1_aae02 7 = .ok (.getfield 15, 3) := by decide +kernel
theorem dJ0_isLatin1_aae02_10 : decode cJ0_isLatin1_aae02 10 = .ok (.ifCond .ne 7, 3) := by decide +kernel
theorem dJ0_isLatin1_aae02_13 : decode cJ0_isLatin1_aae02 13 = .ok (.iconst 1, 1) := by decide +kernel
theorem dJ0_isLatin1_aae02_14 : decode cJ0_isLatin1_aae02 14 = .ok (.goto 4, 3) := by decide +kernel
theorem dJ0_isLatin1_aae02_17 : decode cJ0_isLatin1_aae02 17 = .ok (.iconst 0, 1) := by decide +kernel
theorem dJ0_isLatin1_aae02_18 : decode cJ0_isLatin1_aae02 18 = .ok (.ireturn, 1) := by decide +kernel
theorem dJ0_checkIndex_df160_0 : decode cJ0_checkIndex_df160 0 = .ok (.iload_n 0, 1) := by decide +kernel
theorem dJ0_checkIndex_df160_1 : decode cJ0_checkIndex_df160 1 = .ok (.iload_n 1, 1) := by decide +kernel
theorem dJ0_checkIndex_df160_2 : decode cJ0_checkIndex_df160 2 = .ok (.getstatic 1053, 3) := by decide +kernel
theorem dJ0_checkIndex_df160_5 : decode cJ0_checkIndex_df160 5 = .ok (.invokestatic 1059, 3) := by decide +kernel
theorem dJ0_checkIndex_df160_8 : decode cJ0_checkIndex_df160 8 = .ok (.pop, 1) := by decide +kernel
theorem dJ0_checkIndex_df160_9 : decode cJ0_checkIndex_df160 9 = .ok (.return_, 1) := by decide +kernel
theorem dJ1_charAt_3b067_0 : decode cJ1_charAt_3b067 0 = .ok (.iload_n 1, 1) := by decide +kernel
theorem dJ1_charAt_3b067_1 : decode cJ1_charAt_3b067 1 = .ok (.aload_n 0, 1) := by decide +kernel
theorem dJ1_charAt_3b067_2 : decode cJ1_charAt_3b067 2 = .ok (.arraylength, 1) := by decide +kernel
theorem dJ1_charAt_3b067_3 : decode cJ1_charAt_3b067 3 = .ok (.invokestatic 9, 3) := by decide +kernel
theorem dJ1_charAt_3b067_6 : decode cJ1_charAt_3b067 6 = .ok (.aload_n 0, 1) := by decide +kernel
theorem dJ1_charAt_3b067_7 : decode cJ1_charAt_3b067 7 = .ok (.iload_n 1, 1) := by decide +kernel
theorem dJ1_charAt_3b067_8 : decode cJ1_charAt_3b067 8 = .ok (.baload, 1) := by decide +kernel
theorem dJ1_charAt_3b067_9 : decode cJ1_charAt_3b067 9 = .ok (.sipush 255, 3) := by decide +kernel
theorem dJ1_charAt_3b067_12 : decode cJ1_charAt_3b067 12 = .ok (.iand, 1) := by decide +kernel
theorem dJ1_charAt_3b067_13 : decode cJ1_charAt_3b067 13 = .ok (.i2c, 1) := by decide +kernel
theorem dJ1_charAt_3b067_14 : decode cJ1_charAt_3b067 14 = .ok (.ireturn, 1) := by decide +kernel
theorem dJ2_getChar_3b067_0 : decode cJ2_getChar_3b067 0 = .ok (.getstatic 44, 3) := by decide +kernel
theorem dJ2_getChar_3b067_3 : decode cJ2_getChar_3b067 3 = .ok (.ifCond .ne 25, 3) := by decide +kernel
theorem dJ2_getChar_3b067_6 : decode cJ2_getChar_3b067 6 = .ok (.iload_n 1, 1) := by decide +kernel
theorem dJ2_getChar_3b067_7 : decode cJ2_getChar_3b067 7 = .ok (.ifCond .lt 11, 3) := by decide +kernel
theorem dJ2_getChar_3b067_10 : decode cJ2_getChar_3b067 10 = .ok (.iload_n 1, 1) := by decide +kernel
theorem dJ2_getChar_3b067_11 : decode cJ2_getChar_3b067 11 = .ok (.aload_n 0, 1) := by decide +kernel
theorem dJ2_getChar_3b067_12 : decode cJ2_getChar_3b067 12 = .ok (.invokestatic 48, 3) := by decide +kernel
theorem dJ2_getChar_3b067_15 : decode cJ2_getChar_3b067 15 = .ok (.if_icmp .lt 13, 3) := by decide +kernel
theorem dJ2_getChar_3b067_18 : decode cJ2_getChar_3b067 18 = .ok (.new 52, 3) := by decide +kernel
theorem dJ2_getChar_3b067_21 : decode cJ2_getChar_3b067 21 = .ok (.dup, 1) := by decide +kernel
theorem dJ2_getChar_3b067_22 : decode cJ2_getChar_3b067 22 = .ok (.ldc 54, 2) := by decide +kernel
theorem dJ2_getChar_3b067_24 : decode cJ2_getChar_3b067 24 = .ok (.invokespecial 56, 3) := by decide +kernel
theorem dJ2_getChar_3b067_27 : decode cJ2_getChar_3b067 27 = .ok (.athrow, 1) := by decide +kernel
theorem dJ2_getChar_3b067_28 : decode cJ2_getChar_3b067 28 = .ok (.iload_n 1, 1) := by decide +kernel
theorem dJ2_getChar_3b067_29 : decode cJ2_getChar_3b067 29 = .ok (.iconst 1, 1) := by decide +kernel
theorem dJ2_getChar_3b067_30 : decode cJ2_getChar_3b067 30 = .ok (.ishl, 1) := by decide +kernel
theorem dJ2_getChar_3b067_31 : decode cJ2_getChar_3b067 31 = .ok (.istore_n 1, 1) := by decide +kernel
theorem dJ2_getChar_3b067_32 : decode cJ2_getChar_3b067 32 = .ok (.aload_n 0, 1) := by decide +kernel
theorem dJ2_getChar_3b067_33 : decode cJ2_getChar_3b067 33 = .ok (.iload_n 1, 1) := by decide +kernel
theorem dJ2_getChar_3b067_34 : decode cJ2_getChar_3b067 34 = .ok (.iinc 1 1, 3) := by decide +kernel
theorem dJ2_getChar_3b067_37 : decode cJ2_getChar_3b067 37 = .ok (.baload, 1) := by decide +kernel
theorem dJ2_getChar_3b067_38 : decode cJ2_getChar_3b067 38 = .ok (.sipush 255, 3) := by decide +kernel
theorem dJ2_getChar_3b067_41 : decode cJ2_getChar_3b067 41 = .ok (.iand, 1) := by decide +kernel
theorem dJ2_getChar_3b067_42 : decode cJ2_getChar_3b067 42 = .ok (.getstatic 59, 3) := by decide +kernel
theorem dJ2_getChar_3b067_45 : decode cJ2_getChar_3b067 45 = .ok (.ishl, 1) := by decide +kernel
theorem dJ2_getChar_3b067_46 : decode cJ2_getChar_3b067 46 = .ok (.aload_n 0, 1) := by decide +kernel
theorem dJ2_getChar_3b067_47 : decode cJ2_getChar_3b067 47 = .ok (.iload_n 1, 1) := by decide +kernel
theorem dJ2_getChar_3b067_48 : decode cJ2_getChar_3b067 48 = .ok (.baload, 1) := by decide +kernel
theorem dJ2_getChar_3b067_49 : decode cJ2_getChar_3b067 49 = .ok (.sipush 255, 3) := by decide +kernel
theorem dJ2_getChar_3b067_52 : decode cJ2_getChar_3b067 52 = .ok (.iand, 1) := by decide +kernel
theorem dJ2_getChar_3b067_53 : decode cJ2_getChar_3b067 53 = .ok (.getstatic 63, 3) := by decide +kernel
theorem dJ2_getChar_3b067_56 : decode cJ2_getChar_3b067 56 = .ok (.ishl, 1) := by decide +kernel
theorem dJ2_getChar_3b067_57 : decode cJ2_getChar_3b067 57 = .ok (.ior, 1) := by decide +kernel
theorem dJ2_getChar_3b067_58 : decode cJ2_getChar_3b067 58 = .ok (.i2c, 1) := by decide +kernel
theorem dJ2_getChar_3b067_59 : decode cJ2_getChar_3b067 59 = .ok (.ireturn, 1) := by decide +kernel
theorem dJ2_length_9d52b_0 : decode cJ2_length_9d52b 0 = .ok (.aload_n 0, 1) := by decide +kernel
theorem dJ2_length_9d52b_1 : decode cJ2_length_9d52b 1 = .ok (.arraylength, 1) := by decide +kernel
theorem dJ2_length_9d52b_2 : decode cJ2_length_9d52b 2 = .ok (.iconst 1, 1) := by decide +kernel
theorem dJ2_length_9d52b_3 : decode cJ2_length_9d52b 3 = .ok (.ishr, 1) := by decide +kernel
theorem dJ2_length_9d52b_4 : decode cJ2_length_9d52b 4 = .ok (.ireturn, 1) := by decide +kernel
theorem dJ2_charAt_3b067_0 : decode cJ2_charAt_3b067 0 = .ok (.iload_n 1, 1) := by decide +kernel
theorem dJ2_charAt_3b067_1 : decode cJ2_charAt_3b067 1 = .ok (.aload_n 0, 1) := by decide +kernel
theorem dJ2_charAt_3b067_2 : decode cJ2_charAt_3b067 2 = .ok (.invokestatic 67, 3) := by decide +kernel
theorem dJ2_charAt_3b067_5 : decode cJ2_charAt_3b067 5 = .ok (.aload_n 0, 1) := by decide +kernel
theorem dJ2_charAt_3b067_6 : decode cJ2_charAt_3b067 6 = .ok (.iload_n 1, 1) := by decide +kernel
theorem dJ2_charAt_3b067_7 : decode cJ2_charAt_3b067 7 = .ok (.invokestatic 71, 3) := by decide +kernel
theorem dJ2_charAt_3b067_10 : decode cJ2_charAt_3b067 10 = .ok (.ireturn, 1) := by decide +kernel
theorem dJ2_checkIndex_2214a_0 : decode cJ2_checkIndex_2214a 0 = .ok (.iload_n 0, 1) := by decide +kernel
theorem dJ2_checkIndex_2214a_1 : decode cJ2_checkIndex_2214a 1 = .ok (.aload_n 1, 1) := by decide +kernel
theorem dJ2_checkIndex_2214a_2 : decode cJ2_checkIndex_2214a 2 = .ok (.invokestatic 48, 3) := by decide +kernel
theorem dJ2_checkIndex_2214a_5 : decode cJ2_checkIndex_2214a 5 = .ok (.invokestatic 414, 3) := by decide +kernel
theorem dJ2_checkIndex_2214a_8 : decode cJ2_checkIndex_2214a 8 = .ok (.return_, 1) := by decide +kernel
theorem dJ3_checkIndex_8e157_0 : decode cJ3_checkIndex_8e157 0 = .ok (.iload_n 0, 1) := by decide +kernel
theorem dJ3_checkIndex_8e157_1 : decode cJ3_checkIndex_8e157 1 = .ok (.ifCond .lt 8, 3) := by decide +kernel
theorem dJ3_checkIndex_8e157_4 : decode cJ3_checkIndex_8e157 4 = .ok (.iload_n 0, 1) := by decide +kernel
theorem dJ3_checkIndex_8e157_5 : decode cJ3_checkIndex_8e157 5 = .ok (.iload_n 1, 1) := by decide +kernel
theorem dJ3_checkIndex_8e157_6 : decode cJ3_checkIndex_8e157 6 = .ok (.if_icmp .lt 10, 3) := by decide +kernel
theorem dJ3_checkIndex_8e157_9 : decode cJ3_checkIndex_8e157 9 = .ok (.aload_n 2, 1) := by decide +kernel
theorem dJ3_checkIndex_8e157_10 : decode cJ3_checkIndex_8e157 10 = .ok (.iload_n 0, 1) := by decide +kernel
theorem dJ3_checkIndex_8e157_11 : decode cJ3_checkIndex_8e157 11 = .ok (.iload_n 1, 1) := by decide +kernel
theorem dJ3_checkIndex_8e157_12 : decode cJ3_checkIndex_8e157 12 = .ok (.invokestatic 95, 3) := by decide +kernel
theorem dJ3_checkIndex_8e157_15 : decode cJ3_checkIndex_8e157 15 = .ok (.athrow, 1) := by decide +kernel
theorem dJ3_checkIndex_8e157_16 : decode cJ3_checkIndex_8e157 16 = .ok (.iload_n 0, 1) := by decide +kernel
theorem dJ3_checkIndex_8e157_17 : decode cJ3_checkIndex_8e157 17 = .ok (.ireturn, 1) := by decide +kernel
theorem dJ6_bitCount_0f7a4_0 : decode cJ6_bitCount_0f7a4 0 = .ok (.iload_n 0, 1) := by decide +kernel
theorem dJ6_bitCount_0f7a4_1 : decode cJ6_bitCount_0f7a4 1 = .ok (.iload_n 0, 1) := by decide +kernel
theorem dJ6_bitCount_0f7a4_2 : decode cJ6_bitCount_0f7a4 2 = .ok (.iconst 1, 1) := by decide +kernel
theorem dJ6_bitCount_0f7a4_3 : decode cJ6_bitCount_0f7a4 3 = .ok (.iushr, 1) := by decide +kernel
theorem dJ6_bitCount_0f7a4_4 : decode cJ6_bitCount_0f7a4 4 = .ok (.ldc_w 265, 3) := by decide +kernel
theorem dJ6_bitCount_0f7a4_7 : decode cJ6_bitCount_0f7a4 7 = .ok (.iand, 1) := by decide +kernel
theorem dJ6_bitCount_0f7a4_8 : decode cJ6_bitCount_0f7a4 8 = .ok (.isub, 1) := by decide +kernel
theorem dJ6_bitCount_0f7a4_9 : decode cJ6_bitCount_0f7a4 9 = .ok (.istore_n 0, 1) := by decide +kernel
theorem dJ6_bitCount_0f7a4_10 : decode cJ6_bitCount_0f7a4 10 = .ok (.iload_n 0, 1) := by decide +kernel
theorem dJ6_bitCount_0f7a4_11 : decode cJ6_bitCount_0f7a4 11 = .ok (.ldc_w 266, 3) := by decide +kernel
theorem dJ6_bitCount_0f7a4_14 : decode cJ6_bitCount_0f7a4 14 = .ok (.iand, 1) := by decide +kernel
theorem dJ6_bitCount_0f7a4_15 : decode cJ6_bitCount_0f7a4 15 = .ok (.iload_n 0, 1) := by decide +kernel
theorem dJ6_bitCount_0f7a4_16 : decode cJ6_bitCount_0f7a4 16 = .ok (.iconst 2, 1) := by decide +kernel
theorem dJ6_bitCount_0f7a4_17 : decode cJ6_bitCount_0f7a4 17 = .ok (.iushr, 1) := by decide +kernel
theorem dJ6_bitCount_0f7a4_18 : decode cJ6_bitCount_0f7a4 18 = .ok (.ldc_w 266, 3) := by decide +kernel
theorem dJ6_bitCount_0f7a4_21 : decode cJ6_bitCount_0f7a4 21 = .ok (.iand, 1) := by decide +kernel
theorem dJ6_bitCount_0f7a4_22 : decode cJ6_bitCount_0f7a4 22 = .ok (.iadd, 1) := by decide +kernel
theorem dJ6_bitCount_0f7a4_23 : decode cJ6_bitCount_0f7a4 23 = .ok (.istore_n 0, 1) := by decide +kernel
theorem dJ6_bitCount_0f7a4_24 : decode cJ6_bitCount_0f7a4 24 = .ok (.iload_n 0, 1) := by decide +kernel
theorem dJ6_bitCount_0f7a4_25 : decode cJ6_bitCount_0f7a4 25 = .ok (.iload_n 0, 1) := by decide +kernel
theorem dJ6_bitCount_0f7a4_26 : decode cJ6_bitCount_0f7a4 26 = .ok (.iconst 4, 1) := by decide +kernel
theorem dJ6_bitCount_0f7a4_27 : decode cJ6_bitCount_0f7a4 27 = .ok (.iushr, 1) := by decide +kernel
theorem dJ6_bitCount_0f7a4_28 : decode cJ6_bitCount_0f7a4 28 = .ok (.iadd, 1) := by decide +kernel
theorem dJ6_bitCount_0f7a4_29 : decode cJ6_bitCount_0f7a4 29 = .ok (.ldc_w 267, 3) := by decide +kernel
theorem dJ6_bitCount_0f7a4_32 : decode cJ6_bitCount_0f7a4 32 = .ok (.iand, 1) := by decide +kernel
theorem dJ6_bitCount_0f7a4_33 : decode cJ6_bitCount_0f7a4 33 = .ok (.istore_n 0, 1) := by decide +kernel
theorem dJ6_bitCount_0f7a4_34 : decode cJ6_bitCount_0f7a4 34 = .ok (.iload_n 0, 1) := by decide +kernel
theorem dJ6_bitCount_0f7a4_35 : decode cJ6_bitCount_0f7a4 35 = .ok (.iload_n 0, 1) := by decide +kernel
theorem dJ6_bitCount_0f7a4_36 : decode cJ6_bitCount_0f7a4 36 = .ok (.bipush 8, 2) := by decide +kernel
theorem dJ6_bitCount_0f7a4_38 : decode cJ6_bitCount_0f7a4 38 = .ok (.iushr, 1) := by decide +kernel
theorem dJ6_bitCount_0f7a4_39 : decode cJ6_bitCount_0f7a4 39 = .ok (.iadd, 1) := by decide +kernel
theorem dJ6_bitCount_0f7a4_40 : decode cJ6_bitCount_0f7a4 40 = .ok (.istore_n 0, 1) := by decide +kernel
theorem dJ6_bitCount_0f7a4_41 : decode cJ6_bitCount_0f7a4 41 = .ok (.iload_n 0, 1) := by decide +kernel
theorem dJ6_bitCount_0f7a4_42 : decode cJ6_bitCount_0f7a4 42 = .ok (.iload_n 0, 1) := by decide +kernel
theorem dJ6_bitCount_0f7a4_43 : decode cJ6_bitCount_0f7a4 43 = .ok (.bipush 16, 2) := by decide +kernel
theorem dJ6_bitCount_0f7a4_45 : decode cJ6_bitCount_0f7a4 45 = .ok (.iushr, 1) := by decide +kernel
theorem dJ6_bitCount_0f7a4_46 : decode cJ6_bitCount_0f7a4 46 = .ok (.iadd, 1) := by decide +kernel
theorem dJ6_bitCount_0f7a4_47 : decode cJ6_bitCount_0f7a4 47 = .ok (.istore_n 0, 1) := by decide +kernel
theorem dJ6_bitCount_0f7a4_48 : decode cJ6_bitCount_0f7a4 48 = .ok (.iload_n 0, 1) := by decide +kernel
theorem dJ6_bitCount_0f7a4_49 : decode cJ6_bitCount_0f7a4 49 = .ok (.bipush 63, 2) := by decide +kernel
theorem dJ6_bitCount_0f7a4_51 : decode cJ6_bitCount_0f7a4 51 = .ok (.iand, 1) := by decide +kernel
theorem dJ6_bitCount_0f7a4_52 : decode cJ6_bitCount_0f7a4 52 = .ok (.ireturn, 1) := by decide +kernel
theorem dJ7_fill_53178_0 : decode cJ7_fill_53178 0 = .ok (.iconst 0, 1) := by decide +kernel
theorem dJ7_fill_53178_1 : decode cJ7_fill_53178 1 = .ok (.istore_n 2, 1) := by decide +kernel
theorem dJ7_fill_53178_2 : decode cJ7_fill_53178 2 = .ok (.aload_n 0, 1) := by decide +kernel
theorem dJ7_fill_53178_3 : decode cJ7_fill_53178 3 = .ok (.arraylength, 1) := by decide +kernel
theorem dJ7_fill_53178_4 : decode cJ7_fill_53178 4 = .ok (.istore_n 3, 1) := by decide +kernel
theorem dJ7_fill_53178_5 : decode cJ7_fill_53178 5 = .ok (.iload_n 2, 1) := by decide +kernel
theorem dJ7_fill_53178_6 : decode cJ7_fill_53178 6 = .ok (.iload_n 3, 1) := by decide +kernel
theorem dJ7_fill_53178_7 : decode cJ7_fill_53178 7 = .ok (.if_icmp .ge 13, 3) := by decide +kernel
theorem dJ7_fill_53178_10 : decode cJ7_fill_53178 10 = .ok (.aload_n 0, 1) := by decide +kernel
theorem dJ7_fill_53178_11 : decode cJ7_fill_53178 11 = .ok (.iload_n 2, 1) := by decide +kernel
theorem dJ7_fill_53178_12 : decode cJ7_fill_53178 12 = .ok (.iload_n 1, 1) := by decide +kernel
theorem dJ7_fill_53178_13 : decode cJ7_fill_53178 13 = .ok (.iastore, 1) := by decide +kernel
theorem dJ7_fill_53178_14 : decode cJ7_fill_53178 14 = .ok (.iinc 2 1, 3) := by decide +kernel
theorem dJ7_fill_53178_17 : decode cJ7_fill_53178 17 = .ok (.goto (-12), 3) := by decide +kernel
theorem dJ7_fill_53178_20 : decode cJ7_fill_53178 20 = .ok (.return_, 1) := by decide +kernel
theorem dJ9_floorMod_7cf53_0 : decode cJ9_floorMod_7cf53 0 = .ok (.iload_n 0, 1) := by decide +kernel
theorem dJ9_floorMod_7cf53_1 : decode cJ9_floorMod_7cf53 1 = .ok (.iload_n 1, 1) := by decide +kernel
theorem dJ9_floorMod_7cf53_2 : decode cJ9_floorMod_7cf53 2 = .ok (.irem, 1) := by decide +kernel
theorem dJ9_floorMod_7cf53_3 : decode cJ9_floorMod_7cf53 3 = .ok (.istore_n 2, 1) := by decide +kernel
theorem dJ9_floorMod_7cf53_4 : decode cJ9_floorMod_7cf53 4 = .ok (.iload_n 0, 1) := by decide +kernel
theorem dJ9_floorMod_7cf53_5 : decode cJ9_floorMod_7cf53 5 = .ok (.iload_n 1, 1) := by decide +kernel
theorem dJ9_floorMod_7cf53_6 : decode cJ9_floorMod_7cf53 6 = .ok (.ixor, 1) := by decide +kernel
theorem dJ9_floorMod_7cf53_7 : decode cJ9_floorMod_7cf53 7 = .ok (.ifCond .ge 11, 3) := by decide +kernel
theorem dJ9_floorMod_7cf53_10 : decode cJ9_floorMod_7cf53 10 = .ok (.iload_n 2, 1) := by decide +kernel
theorem dJ9_floorMod_7cf53_11 : decode cJ9_floorMod_7cf53 11 = .ok (.ifCond .eq 7, 3) := by decide +kernel
theorem dJ9_floorMod_7cf53_14 : decode cJ9_floorMod_7cf53 14 = .ok (.iload_n 2, 1) := by decide +kernel
theorem dJ9_floorMod_7cf53_15 : decode cJ9_floorMod_7cf53 15 = .ok (.iload_n 1, 1) := by decide +kernel
theorem dJ9_floorMod_7cf53_16 : decode cJ9_floorMod_7cf53 16 = .ok (.iadd, 1) := by decide +kernel
theorem dJ9_floorMod_7cf53_17 : decode cJ9_floorMod_7cf53 17 = .ok (.ireturn, 1) := by decide +kernel
theorem dJ9_floorMod_7cf53_18 : decode cJ9_floorMod_7cf53 18 = .ok (.iload_n 2, 1) := by decide +kernel
theorem dJ9_floorMod_7cf53_19 : decode cJ9_floorMod_7cf53 19 = .ok (.ireturn, 1) := by decide +kernel
theorem dJ9_max_7cf53_0 : decode cJ9_max_7cf53 0 = .ok (.iload_n 0, 1) := by decide +kernel
theorem dJ9_max_7cf53_1 : decode cJ9_max_7cf53 1 = .ok (.iload_n 1, 1) := by decide +kernel
theorem dJ9_max_7cf53_2 : decode cJ9_max_7cf53 2 = .ok (.if_icmp .lt 7, 3) := by decide +kernel
theorem dJ9_max_7cf53_5 : decode cJ9_max_7cf53 5 = .ok (.iload_n 0, 1) := by decide +kernel
theorem dJ9_max_7cf53_6 : decode cJ9_max_7cf53 6 = .ok (.goto 4, 3) := by decide +kernel
theorem dJ9_max_7cf53_9 : decode cJ9_max_7cf53 9 = .ok (.iload_n 1, 1) := by decide +kernel
theorem dJ9_max_7cf53_10 : decode cJ9_max_7cf53 10 = .ok (.ireturn, 1) := by decide +kernel
theorem dJ9_min_7cf53_0 : decode cJ9_min_7cf53 0 = .ok (.iload_n 0, 1) := by decide +kernel
theorem dJ9_min_7cf53_1 : decode cJ9_min_7cf53 1 = .ok (.iload_n 1, 1) := by decide +kernel
theorem dJ9_min_7cf53_2 : decode cJ9_min_7cf53 2 = .ok (.if_icmp .gt 7, 3) := by decide +kernel
theorem dJ9_min_7cf53_5 : decode cJ9_min_7cf53 5 = .ok (.iload_n 0, 1) := by decide +kernel
theorem dJ9_min_7cf53_6 : decode cJ9_min_7cf53 6 = .ok (.goto 4, 3) := by decide +kernel
theorem dJ9_min_7cf53_9 : decode cJ9_min_7cf53 9 = .ok (.iload_n 1, 1) := by decide +kernel
theorem dJ9_min_7cf53_10 : decode cJ9_min_7cf53 10 = .ok (.ireturn, 1) := by decide +kernel
end
section
theorem dL_law_0 : decode cL_law 0 = .ok (.new 7, 3) := by decide +kernel
theorem dL_law_3 : decode cL_law 3 = .ok (.dup, 1) := by decide +kernel
theorem dL_law_4 : decode cL_law 4 = .ok (.invokespecial 9, 3) := by decide +kernel
theorem dL_law_7 : decode cL_law 7 = .ok (.astore_n 1, 1) := by decide +kernel
theorem dL_law_8 : decode cL_law 8 = .ok (.new 10, 3) := by decide +kernel
theorem dL_law_11 : decode cL_law 11 = .ok (.dup, 1) := by decide +kernel
theorem dL_law_12 : decode cL_law 12 = .ok (.invokespecial 12, 3) := by decide +kernel
theorem dL_law_15 : decode cL_law 15 = .ok (.astore_n 2, 1) := by decide +kernel
theorem dL_law_16 : decode cL_law 16 = .ok (.iconst 0, 1) := by decide +kernel
theorem dL_law_17 : decode cL_law 17 = .ok (.istore_n 3, 1) := by decide +kernel
theorem dL_law_18 : decode cL_law 18 = .ok (.iload_n 3, 1) := by decide +kernel
theorem dL_law_19 : decode cL_law 19 = .ok (.aload_n 0, 1) := by decide +kernel
theorem dL_law_20 : decode cL_law 20 = .ok (.arraylength, 1) := by decide +kernel
theorem dL_law_21 : decode cL_law 21 = .ok (.bipush 6, 2) := by decide +kernel
theorem dL_law_23 : decode cL_law 23 = .ok (.isub, 1) := by decide +kernel
theorem dL_law_24 : decode cL_law 24 = .ok (.if_icmp .gt 1361, 3) := by decide +kernel
theorem dL_law_27 : decode cL_law 27 = .ok (.aload_n 0, 1) := by decide +kernel
theorem dL_law_28 : decode cL_law 28 = .ok (.iload_n 3, 1) := by decide +kernel
theorem dL_law_29 : decode cL_law 29 = .ok (.iaload, 1) := by decide +kernel
theorem dL_law_30 : decode cL_law 30 = .ok (.bipush 63, 2) := by decide +kernel
theorem dL_law_32 : decode cL_law 32 = .ok (.iand, 1) := by decide +kernel
theorem dL_law_33 : decode cL_law 33 = .ok (.tableswitch 1346 0 42 #[187, 230, 263, 296, 319, 342, 355, 368, 411, 444, 487, 520, 533, 556, 579, 602, 625, 638, 671, 694, 717, 750, 783, 816, 839, 852, 875, 918, 941, 974, 987, 1000, 1033, 1066, 1109, 1152, 1215, 1238, 1261, 1274, 1287, 1300, 1323], 187) := by decide +kernel
theorem dL_law_220 : decode cL_law 220 = .ok (.aload_n 1, 1) := by decide +kernel
theorem dL_law_221 : decode cL_law 221 = .ok (.aload_n 0, 1) := by decide +kernel
theorem dL_law_222 : decode cL_law 222 = .ok (.iload_n 3, 1) := by decide +kernel
theorem dL_law_223 : decode cL_law 223 = .ok (.iconst 1, 1) := by decide +kernel
theorem dL_law_224 : decode cL_law 224 = .ok (.iadd, 1) := by decide +kernel
theorem dL_law_225 : decode cL_law 225 = .ok (.iaload, 1) := by decide +kernel
theorem dL_law_226 : decode cL_law 226 = .ok (.aload_n 0, 1) := by decide +kernel
theorem dL_law_227 : decode cL_law 227 = .ok (.iload_n 3, 1) := by decide +kernel
theorem dL_law_228 : decode cL_law 228 = .ok (.iconst 2, 1) := by decide +kernel
theorem dL_law_229 : decode cL_law 229 = .ok (.iadd, 1) := by decide +kernel
theorem dL_law_230 : decode cL_law 230 = .ok (.iaload, 1) := by decide +kernel
theorem dL_law_231 : decode cL_law 231 = .ok (.aload_n 0, 1) := by decide +kernel
theorem dL_law_232 : decode cL_law 232 = .ok (.iload_n 3, 1) := by decide +kernel
theorem dL_law_233 : decode cL_law 233 = .ok (.iconst 3, 1) := by decide +kernel
theorem dL_law_234 : decode cL_law 234 = .ok (.iadd, 1) := by decide +kernel
theorem dL_law_235 : decode cL_law 235 = .ok (.iaload, 1) := by decide +kernel
theorem dL_law_236 : decode cL_law 236 = .ok (.invokevirtual 13, 3) := by decide +kernel
theorem dL_law_239 : decode cL_law 239 = .ok (.aload_n 2, 1) := by decide +kernel
theorem dL_law_240 : decode cL_law 240 = .ok (.aload_n 0, 1) := by decide +kernel
theorem dL_law_241 : decode cL_law 241 = .ok (.iload_n 3, 1) := by decide +kernel
theorem dL_law_242 : decode cL_law 242 = .ok (.iconst 1, 1) := by decide +kernel
theorem dL_law_243 : decode cL_law 243 = .ok (.iadd, 1) := by decide +kernel
theorem dL_law_244 : decode cL_law 244 = .ok (.iaload, 1) := by decide +kernel
theorem dL_law_245 : decode cL_law 245 = .ok (.aload_n 0, 1) := by decide +kernel
theorem dL_law_246 : decode cL_law 246 = .ok (.iload_n 3, 1) := by decide +kernel
theorem dL_law_247 : decode cL_law 247 = .ok (.iconst 2, 1) := by decide +kernel
theorem dL_law_248 : decode cL_law 248 = .ok (.iadd, 1) := by decide +kernel
theorem dL_law_249 : decode cL_law 249 = .ok (.iaload, 1) := by decide +kernel
theorem dL_law_250 : decode cL_law 250 = .ok (.aload_n 0, 1) := by decide +kernel
theorem dL_law_251 : decode cL_law 251 = .ok (.iload_n 3, 1) := by decide +kernel
theorem dL_law_252 : decode cL_law 252 = .ok (.iconst 3, 1) := by decide +kernel
theorem dL_law_253 : decode cL_law 253 = .ok (.iadd, 1) := by decide +kernel
theorem dL_law_254 : decode cL_law 254 = .ok (.iaload, 1) := by decide +kernel
theorem dL_law_255 : decode cL_law 255 = .ok (.invokevirtual 17, 3) := by decide +kernel
theorem dL_law_258 : decode cL_law 258 = .ok (.if_icmp .eq 1121, 3) := by decide +kernel
theorem dL_law_261 : decode cL_law 261 = .ok (.iconst 0, 1) := by decide +kernel
theorem dL_law_262 : decode cL_law 262 = .ok (.ireturn, 1) := by decide +kernel
theorem dL_law_263 : decode cL_law 263 = .ok (.aload_n 1, 1) := by decide +kernel
theorem dL_law_264 : decode cL_law 264 = .ok (.aload_n 0, 1) := by decide +kernel
theorem dL_law_265 : decode cL_law 265 = .ok (.iload_n 3, 1) := by decide +kernel
theorem dL_law_266 : decode cL_law 266 = .ok (.iconst 1, 1) := by decide +kernel
theorem dL_law_267 : decode cL_law 267 = .ok (.iadd, 1) := by decide +kernel
theorem dL_law_268 : decode cL_law 268 = .ok (.iaload, 1) := by decide +kernel
theorem dL_law_269 : decode cL_law 269 = .ok (.aload_n 0, 1) := by decide +kernel
theorem dL_law_270 : decode cL_law 270 = .ok (.iload_n 3, 1) := by decide +kernel
theorem dL_law_271 : decode cL_law 271 = .ok (.iconst 2, 1) := by decide +kernel
theorem dL_law_272 : decode cL_law 272 = .ok (.iadd, 1) := by decide +kernel
theorem dL_law_273 : decode cL_law 273 = .ok (.iaload, 1) := by decide +kernel
theorem dL_law_274 : decode cL_law 274 = .ok (.invokevirtual 18, 3) := by decide +kernel
theorem dL_law_277 : decode cL_law 277 = .ok (.aload_n 2, 1) := by decide +kernel
theorem dL_law_278 : decode cL_law 278 = .ok (.aload_n 0, 1) := by decide +kernel
theorem dL_law_279 : decode cL_law 279 = .ok (.iload_n 3, 1) := by decide +kernel
theorem dL_law_280 : decode cL_law 280 = .ok (.iconst 1, 1) := by decide +kernel
theorem dL_law_281 : decode cL_law 281 = .ok (.iadd, 1) := by decide +kernel
theorem dL_law_282 : decode cL_law 282 = .ok (.iaload, 1) := by decide +kernel
theorem dL_law_283 : decode cL_law 283 = .ok (.aload_n 0, 1) := by decide +kernel
theorem dL_law_284 : decode cL_law 284 = .ok (.iload_n 3, 1) := by decide +kernel
theorem dL_law_285 : decode cL_law 285 = .ok (.iconst 2, 1) := by decide +kernel
theorem dL_law_286 : decode cL_law 286 = .ok (.iadd, 1) := by decide +kernel
theorem dL_law_287 : decode cL_law 287 = .ok (.iaload, 1) := by decide +kernel
theorem dL_law_288 : decode cL_law 288 = .ok (.invokevirtual 22, 3) := by decide +kernel
theorem dL_law_291 : decode cL_law 291 = .ok (.if_icmp .eq 1088, 3) := by decide +kernel
theorem dL_law_294 : decode cL_law 294 = .ok (.iconst 0, 1) := by decide +kernel
theorem dL_law_295 : decode cL_law 295 = .ok (.ireturn, 1) := by decide +kernel
theorem dL_law_296 : decode cL_law 296 = .ok (.aload_n 1, 1) := by decide +kernel
theorem dL_law_297 : decode cL_law 297 = .ok (.aload_n 0, 1) := by decide +kernel
theorem dL_law_298 : decode cL_law 298 = .ok (.iload_n 3, 1) := by decide +kernel
theorem dL_law_299 : decode cL_law 299 = .ok (.iconst 1, 1) := by decide +kernel
theorem dL_law_300 : decode cL_law 300 = .ok (.iadd, 1) := by decide +kernel
theorem dL_law_301 : decode cL_law 301 = .ok (.iaload, 1) := by decide +kernel
theorem dL_law_302 : decode cL_law 302 = .ok (.aload_n 0, 1) := by decide +kernel
theorem dL_law_303 : decode cL_law 303 = .ok (.iload_n 3, 1) := by decide +kernel
theorem dL_law_304 : decode cL_law 304 = .ok (.iconst 2, 1) := by decide +kernel
theorem dL_law_305 : decode cL_law 305 = .ok (.iadd, 1) := by decide +kernel
theorem dL_law_306 : decode cL_law 306 = .ok (.iaload, 1) := by decide +kernel
theorem dL_law_307 : decode cL_law 307 = .ok (.invokevirtual 23, 3) := by decide +kernel
theorem dL_law_310 : decode cL_law 310 = .ok (.aload_n 2, 1) := by decide +kernel
theorem dL_law_311 : decode cL_law 311 = .ok (.aload_n 0, 1) := by decide +kernel
theorem dL_law_312 : decode cL_law 312 = .ok (.iload_n 3, 1) := by decide +kernel
theorem dL_law_313 : decode cL_law 313 = .ok (.iconst 1, 1) := by decide +kernel
theorem dL_law_314 : decode cL_law 314 = .ok (.iadd, 1) := by decide +kernel
theorem dL_law_315 : decode cL_law 315 = .ok (.iaload, 1) := by decide +kernel
theorem dL_law_316 : decode cL_law 316 = .ok (.aload_n 0, 1) := by decide +kernel
theorem dL_law_317 : decode cL_law 317 = .ok (.iload_n 3, 1) := by decide +kernel
theorem dL_law_318 : decode cL_law 318 = .ok (.iconst 2, 1) := by decide +kernel
theorem dL_law_319 : decode cL_law 319 = .ok (.iadd, 1) := by decide +kernel
theorem dL_law_320 : decode cL_law 320 = .ok (.iaload, 1) := by decide +kernel
theorem dL_law_321 : decode cL_law 321 = .ok (.invokevirtual 26, 3) := by decide +kernel
theorem dL_law_324 : decode cL_law 324 = .ok (.if_icmp .eq 1055, 3) := by decide +kernel
theorem dL_law_327 : decode cL_law 327 = .ok (.iconst 0, 1) := by decide +kernel
theorem dL_law_328 : decode cL_law 328 = .ok (.ireturn, 1) := by decide +kernel
theorem dL_law_329 : decode cL_law 329 = .ok (.aload_n 1, 1) := by decide +kernel
theorem dL_law_330 : decode cL_law 330 = .ok (.aload_n 0, 1) := by decide +kernel
theorem dL_law_331 : decode cL_law 331 = .ok (.iload_n 3, 1) := by decide +kernel
theorem dL_law_332 : decode cL_law 332 = .ok (.iconst 1, 1) := by decide +kernel
theorem dL_law_333 : decode cL_law 333 = .ok (.iadd, 1) := by decide +kernel
theorem dL_law_334 : decode cL_law 334 = .ok (.iaload, 1) := by decide +kernel
theorem dL_law_335 : decode cL_law 335 = .ok (.invokevirtual 27, 3) := by decide +kernel
theorem dL_law_338 : decode cL_law 338 = .ok (.aload_n 2, 1) := by decide +kernel
theorem dL_law_339 : decode cL_law 339 = .ok (.aload_n 0, 1) := by decide +kernel
theorem dL_law_340 : decode cL_law 340 = .ok (.iload_n 3, 1) := by decide +kernel
theorem dL_law_341 : decode cL_law 341 = .ok (.iconst 1, 1) := by decide +kernel
theorem dL_law_342 : decode cL_law 342 = .ok (.iadd, 1) := by decide +kernel
theorem dL_law_343 : decode cL_law 343 = .ok (.iaload, 1) := by decide +kernel
theorem dL_law_344 : decode cL_law 344 = .ok (.invokevirtual 31, 3) := by decide +kernel
theorem dL_law_347 : decode cL_law 347 = .ok (.if_icmp .eq 1032, 3) := by decide +kernel
theorem dL_law_350 : decode cL_law 350 = .ok (.iconst 0, 1) := by decide +kernel
theorem dL_law_351 : decode cL_law 351 = .ok (.ireturn, 1) := by decide +kernel
theorem dL_law_352 : decode cL_law 352 = .ok (.aload_n 1, 1) := by decide +kernel
theorem dL_law_353 : decode cL_law 353 = .ok (.aload_n 0, 1) := by decide +kernel
theorem dL_law_354 : decode cL_law 354 = .ok (.iload_n 3, 1) := by decide +kernel
theorem dL_law_355 : decode cL_law 355 = .ok (.iconst 1, 1) := by decide +kernel
theorem dL_law_356 : decode cL_law 356 = .ok (.iadd, 1) := by decide +kernel
theorem dL_law_357 : decode cL_law 357 = .ok (.iaload, 1) := by decide +kernel
theorem dL_law_358 : decode cL_law 358 = .ok (.invokevirtual 32, 3) := by decide +kernel
theorem dL_law_361 : decode cL_law 361 = .ok (.aload_n 2, 1) := by decide +kernel
theorem dL_law_362 : decode cL_law 362 = .ok (.aload_n 0, 1) := by decide +kernel
theorem dL_law_363 : decode cL_law 363 = .ok (.iload_n 3, 1) := by decide +kernel
theorem dL_law_364 : decode cL_law 364 = .ok (.iconst 1, 1) := by decide +kernel
theorem dL_law_365 : decode cL_law 365 = .ok (.iadd, 1) := by decide +kernel
theorem dL_law_366 : decode cL_law 366 = .ok (.iaload, 1) := by decide +kernel
theorem dL_law_367 : decode cL_law 367 = .ok (.invokevirtual 35, 3) := by decide +kernel
theorem dL_law_370 : decode cL_law 370 = .ok (.if_icmp .eq 1009, 3) := by decide +kernel
theorem dL_law_373 : decode cL_law 373 = .ok (.iconst 0, 1) := by decide +kernel
theorem dL_law_374 : decode cL_law 374 = .ok (.ireturn, 1) := by decide +kernel
theorem dL_law_375 : decode cL_law 375 = .ok (.aload_n 1, 1) := by decide +kernel
theorem dL_law_376 : decode cL_law 376 = .ok (.invokevirtual 36, 3) := by decide +kernel
theorem dL_law_379 : decode cL_law 379 = .ok (.aload_n 2, 1) := by decide +kernel
theorem dL_law_380 : decode cL_law 380 = .ok (.invokevirtual 40, 3) := by decide +kernel
theorem dL_law_383 : decode cL_law 383 = .ok (.if_icmp .eq 996, 3) := by decide +kernel
theorem dL_law_386 : decode cL_law 386 = .ok (.iconst 0, 1) := by decide +kernel
theorem dL_law_387 : decode cL_law 387 = .ok (.ireturn, 1) := by decide +kernel
theorem dL_law_388 : decode cL_law 388 = .ok (.aload_n 1, 1) := by decide +kernel
theorem dL_law_389 : decode cL_law 389 = .ok (.invokevirtual 41, 3) := by decide +kernel
theorem dL_law_392 : decode cL_law 392 = .ok (.aload_n 2, 1) := by decide +kernel
theorem dL_law_393 : decode cL_law 393 = .ok (.invokevirtual 44, 3) := by decide +kernel
theorem dL_law_396 : decode cL_law 396 = .ok (.if_icmp .eq 983, 3) := by decide +kernel
theorem dL_law_399 : decode cL_law 399 = .ok (.iconst 0, 1) := by decide +kernel
theorem dL_law_400 : decode cL_law 400 = .ok (.ireturn, 1) := by decide +kernel
theorem dL_law_401 : decode cL_law 401 = .ok (.aload_n 1, 1) := by decide +kernel
theorem dL_law_402 : decode cL_law 402 = .ok (.aload_n 0, 1) := by decide +kernel
theorem dL_law_403 : decode cL_law 403 = .ok (.iload_n 3, 1) := by decide +kernel
theorem dL_law_404 : decode cL_law 404 = .ok (.iconst 1, 1) := by decide +kernel
theorem dL_law_405 : decode cL_law 405 = .ok (.iadd, 1) := by decide +kernel
theorem dL_law_406 : decode cL_law 406 = .ok (.iaload, 1) := by decide +kernel
theorem dL_law_407 : decode cL_law 407 = .ok (.aload_n 0, 1) := by decide +kernel
theorem dL_law_408 : decode cL_law 408 = .ok (.iload_n 3, 1) := by decide +kernel
theorem dL_law_409 : decode cL_law 409 = .ok (.iconst 2, 1) := by decide +kernel
theorem dL_law_410 : decode cL_law 410 = .ok (.iadd, 1) := by decide +kernel
theorem dL_law_411 : decode cL_law 411 = .ok (.iaload, 1) := by decide +kernel
theorem dL_law_412 : decode cL_law 412 = .ok (.aload_n 0, 1) := by decide +kernel
theorem dL_law_413 : decode cL_law 413 = .ok (.iload_n 3, 1) := by decide +kernel
theorem dL_law_414 : decode cL_law 414 = .ok (.iconst 3, 1) := by decide +kernel
theorem dL_law_415 : decode cL_law 415 = .ok (.iadd, 1) := by decide +kernel
theorem dL_law_416 : decode cL_law 416 = .ok (.iaload, 1) := by decide +kernel
theorem dL_law_417 : decode cL_law 417 = .ok (.invokevirtual 45, 3) := by decide +kernel
theorem dL_law_420 : decode cL_law 420 = .ok (.aload_n 2, 1) := by decide +kernel
theorem dL_law_421 : decode cL_law 421 = .ok (.aload_n 0, 1) := by decide +kernel
theorem dL_law_422 : decode cL_law 422 = .ok (.iload_n 3, 1) := by decide +kernel
theorem dL_law_423 : decode cL_law 423 = .ok (.iconst 1, 1) := by decide +kernel
theorem dL_law_424 : decode cL_law 424 = .ok (.iadd, 1) := by decide +kernel
theorem dL_law_425 : decode cL_law 425 = .ok (.iaload, 1) := by decide +kernel
theorem dL_law_426 : decode cL_law 426 = .ok (.aload_n 0, 1) := by decide +kernel
theorem dL_law_427 : decode cL_law 427 = .ok (.iload_n 3, 1) := by decide +kernel
theorem dL_law_428 : decode cL_law 428 = .ok (.iconst 2, 1) := by decide +kernel
theorem dL_law_429 : decode cL_law 429 = .ok (.iadd, 1) := by decide +kernel
theorem dL_law_430 : decode cL_law 430 = .ok (.iaload, 1) := by decide +kernel
theorem dL_law_431 : decode cL_law 431 = .ok (.aload_n 0, 1) := by decide +kernel
theorem dL_law_432 : decode cL_law 432 = .ok (.iload_n 3, 1) := by decide +kernel
theorem dL_law_433 : decode cL_law 433 = .ok (.iconst 3, 1) := by decide +kernel
theorem dL_law_434 : decode cL_law 434 = .ok (.iadd, 1) := by decide +kernel
theorem dL_law_435 : decode cL_law 435 = .ok (.iaload, 1) := by decide +kernel
theorem dL_law_436 : decode cL_law 436 = .ok (.invokevirtual 48, 3) := by decide +kernel
theorem dL_law_439 : decode cL_law 439 = .ok (.if_icmp .eq 940, 3) := by decide +kernel
theorem dL_law_442 : decode cL_law 442 = .ok (.iconst 0, 1) := by decide +kernel
theorem dL_law_443 : decode cL_law 443 = .ok (.ireturn, 1) := by decide +kernel
theorem dL_law_444 : decode cL_law 444 = .ok (.aload_n 1, 1) := by decide +kernel
theorem dL_law_445 : decode cL_law 445 = .ok (.aload_n 0, 1) := by decide +kernel
theorem dL_law_446 : decode cL_law 446 = .ok (.iload_n 3, 1) := by decide +kernel
theorem dL_law_447 : decode cL_law 447 = .ok (.iconst 1, 1) := by decide +kernel
theorem dL_law_448 : decode cL_law 448 = .ok (.iadd, 1) := by decide +kernel
theorem dL_law_449 : decode cL_law 449 = .ok (.iaload, 1) := by decide +kernel
theorem dL_law_450 : decode cL_law 450 = .ok (.aload_n 0, 1) := by decide +kernel
theorem dL_law_451 : decode cL_law 451 = .ok (.iload_n 3, 1) := by decide +kernel
theorem dL_law_452 : decode cL_law 452 = .ok (.iconst 2, 1) := by decide +kernel
theorem dL_law_453 : decode cL_law 453 = .ok (.iadd, 1) := by decide +kernel
theorem dL_law_454 : decode cL_law 454 = .ok (.iaload, 1) := by decide +kernel
theorem dL_law_455 : decode cL_law 455 = .ok (.invokevirtual 49, 3) := by decide +kernel
theorem dL_law_458 : decode cL_law 458 = .ok (.aload_n 2, 1) := by decide +kernel
theorem dL_law_459 : decode cL_law 459 = .ok (.aload_n 0, 1) := by decide +kernel
theorem dL_law_460 : decode cL_law 460 = .ok (.iload_n 3, 1) := by decide +kernel
theorem dL_law_461 : decode cL_law 461 = .ok (.iconst 1, 1) := by decide +kernel
theorem dL_law_462 : decode cL_law 462 = .ok (.iadd, 1) := by decide +kernel
theorem dL_law_463 : decode cL_law 463 = .ok (.iaload, 1) := by decide +kernel
theorem dL_law_464 : decode cL_law 464 = .ok (.aload_n 0, 1) := by decide +kernel
theorem dL_law_465 : decode cL_law 465 = .ok (.iload_n 3, 1) := by decide +kernel
theorem dL_law_466 : decode cL_law 466 = .ok (.iconst 2, 1) := by decide +kernel
theorem dL_law_467 : decode cL_law 467 = .ok (.iadd, 1) := by decide +kernel
theorem dL_law_468 : decode cL_law 468 = .ok (.iaload, 1) := by decide +kernel
theorem dL_law_469 : decode cL_law 469 = .ok (.invokevirtual 52, 3) := by decide +kernel
theorem dL_law_472 : decode cL_law 472 = .ok (.if_icmp .eq 907, 3) := by decide +kernel
theorem dL_law_475 : decode cL_law 475 = .ok (.iconst 0, 1) := by decide +kernel
theorem dL_law_476 : decode cL_law 476 = .ok (.ireturn, 1) := by decide +kernel
theorem dL_law_477 : decode cL_law 477 = .ok (.aload_n 1, 1) := by decide +kernel
theorem dL_law_478 : decode cL_law 478 = .ok (.aload_n 0, 1) := by decide +kernel
theorem dL_law_479 : decode cL_law 479 = .ok (.iload_n 3, 1) := by decide +kernel
theorem dL_law_480 : decode cL_law 480 = .ok (.iconst 1, 1) := by decide +kernel
theorem dL_law_481 : decode cL_law 481 = .ok (.iadd, 1) := by decide +kernel
theorem dL_law_482 : decode cL_law 482 = .ok (.iaload, 1) := by decide +kernel
theorem dL_law_483 : decode cL_law 483 = .ok (.aload_n 0, 1) := by decide +kernel
theorem dL_law_484 : decode cL_law 484 = .ok (.iload_n 3, 1) := by decide +kernel
theorem dL_law_485 : decode cL_law 485 = .ok (.iconst 2, 1) := by decide +kernel
theorem dL_law_486 : decode cL_law 486 = .ok (.iadd, 1) := by decide +kernel
theorem dL_law_487 : decode cL_law 487 = .ok (.iaload, 1) := by decide +kernel
theorem dL_law_488 : decode cL_law 488 = .ok (.aload_n 0, 1) := by decide +kernel
theorem dL_law_489 : decode cL_law 489 = .ok (.iload_n 3, 1) := by decide +kernel
theorem dL_law_490 : decode cL_law 490 = .ok (.iconst 3, 1) := by decide +kernel
theorem dL_law_491 : decode cL_law 491 = .ok (.iadd, 1) := by decide +kernel
theorem dL_law_492 : decode cL_law 492 = .ok (.iaload, 1) := by decide +kernel
theorem dL_law_493 : decode cL_law 493 = .ok (.invokevirtual 53, 3) := by decide +kernel
theorem dL_law_496 : decode cL_law 496 = .ok (.aload_n 2, 1) := by decide +kernel
theorem dL_law_497 : decode cL_law 497 = .ok (.aload_n 0, 1) := by decide +kernel
theorem dL_law_498 : decode cL_law 498 = .ok (.iload_n 3, 1) := by decide +kernel
theorem dL_law_499 : decode cL_law 499 = .ok (.iconst 1, 1) := by decide +kernel
theorem dL_law_500 : decode cL_law 500 = .ok (.iadd, 1) := by decide +kernel
theorem dL_law_501 : decode cL_law 501 = .ok (.iaload, 1) := by decide +kernel
theorem dL_law_502 : decode cL_law 502 = .ok (.aload_n 0, 1) := by decide +kernel
theorem dL_law_503 : decode cL_law 503 = .ok (.iload_n 3, 1) := by decide +kernel
theorem dL_law_504 : decode cL_law 504 = .ok (.iconst 2, 1) := by decide +kernel
theorem dL_law_505 : decode cL_law 505 = .ok (.iadd, 1) := by decide +kernel
theorem dL_law_506 : decode cL_law 506 = .ok (.iaload, 1) := by decide +kernel
theorem dL_law_507 : decode cL_law 507 = .ok (.aload_n 0, 1) := by decide +kernel
theorem dL_law_508 : decode cL_law 508 = .ok (.iload_n 3, 1) := by decide +kernel
theorem dL_law_509 : decode cL_law 509 = .ok (.iconst 3, 1) := by decide +kernel
theorem dL_law_510 : decode cL_law 510 = .ok (.iadd, 1) := by decide +kernel
theorem dL_law_511 : decode cL_law 511 = .ok (.iaload, 1) := by decide +kernel
theorem dL_law_512 : decode cL_law 512 = .ok (.invokevirtual 56, 3) := by decide +kernel
theorem dL_law_515 : decode cL_law 515 = .ok (.if_icmp .eq 864, 3) := by decide +kernel
theorem dL_law_518 : decode cL_law 518 = .ok (.iconst 0, 1) := by decide +kernel
theorem dL_law_519 : decode cL_law 519 = .ok (.ireturn, 1) := by decide +kernel
theorem dL_law_520 : decode cL_law 520 = .ok (.aload_n 1, 1) := by decide +kernel
theorem dL_law_521 : decode cL_law 521 = .ok (.aload_n 0, 1) := by decide +kernel
theorem dL_law_522 : decode cL_law 522 = .ok (.iload_n 3, 1) := by decide +kernel
theorem dL_law_523 : decode cL_law 523 = .ok (.iconst 1, 1) := by decide +kernel
theorem dL_law_524 : decode cL_law 524 = .ok (.iadd, 1) := by decide +kernel
theorem dL_law_525 : decode cL_law 525 = .ok (.iaload, 1) := by decide +kernel
theorem dL_law_526 : decode cL_law 526 = .ok (.aload_n 0, 1) := by decide +kernel
theorem dL_law_527 : decode cL_law 527 = .ok (.iload_n 3, 1) := by decide +kernel
theorem dL_law_528 : decode cL_law 528 = .ok (.iconst 2, 1) := by decide +kernel
theorem dL_law_529 : decode cL_law 529 = .ok (.iadd, 1) := by decide +kernel
theorem dL_law_530 : decode cL_law 530 = .ok (.iaload, 1) := by decide +kernel
theorem dL_law_531 : decode cL_law 531 = .ok (.invokevirtual 57, 3) := by decide +kernel
theorem dL_law_534 : decode cL_law 534 = .ok (.aload_n 2, 1) := by decide +kernel
theorem dL_law_535 : decode cL_law 535 = .ok (.aload_n 0, 1) := by decide +kernel
theorem dL_law_536 : decode cL_law 536 = .ok (.iload_n 3, 1) := by decide +kernel
theorem dL_law_537 : decode cL_law 537 = .ok (.iconst 1, 1) := by decide +kernel
theorem dL_law_538 : decode cL_law 538 = .ok (.iadd, 1) := by decide +kernel
theorem dL_law_539 : decode cL_law 539 = .ok (.iaload, 1) := by decide +kernel
theorem dL_law_540 : decode cL_law 540 = .ok (.aload_n 0, 1) := by decide +kernel
theorem dL_law_541 : decode cL_law 541 = .ok (.iload_n 3, 1) := by decide +kernel
theorem dL_law_542 : decode cL_law 542 = .ok (.iconst 2, 1) := by decide +kernel
theorem dL_law_543 : decode cL_law 543 = .ok (.iadd, 1) := by decide +kernel
theorem dL_law_544 : decode cL_law 544 = .ok (.iaload, 1) := by decide +kernel
theorem dL_law_545 : decode cL_law 545 = .ok (.invokevirtual 60, 3) := by decide +kernel
theorem dL_law_548 : decode cL_law 548 = .ok (.if_icmp .eq 831, 3) := by decide +kernel
theorem dL_law_551 : decode cL_law 551 = .ok (.iconst 0, 1) := by decide +kernel
theorem dL_law_552 : decode cL_law 552 = .ok (.ireturn, 1) := by decide +kernel
theorem dL_law_553 : decode cL_law 553 = .ok (.aload_n 1, 1) := by decide +kernel
theorem dL_law_554 : decode cL_law 554 = .ok (.invokevirtual 61, 3) := by decide +kernel
theorem dL_law_557 : decode cL_law 557 = .ok (.aload_n 2, 1) := by decide +kernel
theorem dL_law_558 : decode cL_law 558 = .ok (.invokevirtual 64, 3) := by decide +kernel
theorem dL_law_561 : decode cL_law 561 = .ok (.if_icmp .eq 818, 3) := by decide +kernel
theorem dL_law_564 : decode cL_law 564 = .ok (.iconst 0, 1) := by decide +kernel
theorem dL_law_565 : decode cL_law 565 = .ok (.ireturn, 1) := by decide +kernel
theorem dL_law_566 : decode cL_law 566 = .ok (.aload_n 1, 1) := by decide +kernel
theorem dL_law_567 : decode cL_law 567 = .ok (.aload_n 0, 1) := by decide +kernel
theorem dL_law_568 : decode cL_law 568 = .ok (.iload_n 3, 1) := by decide +kernel
theorem dL_law_569 : decode cL_law 569 = .ok (.iconst 1, 1) := by decide +kernel
theorem dL_law_570 : decode cL_law 570 = .ok (.iadd, 1) := by decide +kernel
theorem dL_law_571 : decode cL_law 571 = .ok (.iaload, 1) := by decide +kernel
theorem dL_law_572 : decode cL_law 572 = .ok (.invokevirtual 65, 3) := by decide +kernel
theorem dL_law_575 : decode cL_law 575 = .ok (.aload_n 2, 1) := by decide +kernel
theorem dL_law_576 : decode cL_law 576 = .ok (.aload_n 0, 1) := by decide +kernel
theorem dL_law_577 : decode cL_law 577 = .ok (.iload_n 3, 1) := by decide +kernel
theorem dL_law_578 : decode cL_law 578 = .ok (.iconst 1, 1) := by decide +kernel
theorem dL_law_579 : decode cL_law 579 = .ok (.iadd, 1) := by decide +kernel
theorem dL_law_580 : decode cL_law 580 = .ok (.iaload, 1) := by decide +kernel
theorem dL_law_581 : decode cL_law 581 = .ok (.invokevirtual 68, 3) := by decide +kernel
theorem dL_law_584 : decode cL_law 584 = .ok (.if_icmp .eq 795, 3) := by decide +kernel
theorem dL_law_587 : decode cL_law 587 = .ok (.iconst 0, 1) := by decide +kernel
theorem dL_law_588 : decode cL_law 588 = .ok (.ireturn, 1) := by decide +kernel
theorem dL_law_589 : decode cL_law 589 = .ok (.aload_n 1, 1) := by decide +kernel
theorem dL_law_590 : decode cL_law 590 = .ok (.aload_n 0, 1) := by decide +kernel
theorem dL_law_591 : decode cL_law 591 = .ok (.iload_n 3, 1) := by decide +kernel
theorem dL_law_592 : decode cL_law 592 = .ok (.iconst 1, 1) := by decide +kernel
theorem dL_law_593 : decode cL_law 593 = .ok (.iadd, 1) := by decide +kernel
theorem dL_law_594 : decode cL_law 594 = .ok (.iaload, 1) := by decide +kernel
theorem dL_law_595 : decode cL_law 595 = .ok (.invokevirtual 69, 3) := by decide +kernel
theorem dL_law_598 : decode cL_law 598 = .ok (.aload_n 2, 1) := by decide +kernel
theorem dL_law_599 : decode cL_law 599 = .ok (.aload_n 0, 1) := by decide +kernel
theorem dL_law_600 : decode cL_law 600 = .ok (.iload_n 3, 1) := by decide +kernel
theorem dL_law_601 : decode cL_law 601 = .ok (.iconst 1, 1) := by decide +kernel
theorem dL_law_602 : decode cL_law 602 = .ok (.iadd, 1) := by decide +kernel
theorem dL_law_603 : decode cL_law 603 = .ok (.iaload, 1) := by decide +kernel
theorem dL_law_604 : decode cL_law 604 = .ok (.invokevirtual 72, 3) := by decide +kernel
theorem dL_law_607 : decode cL_law 607 = .ok (.if_icmp .eq 772, 3) := by decide +kernel
theorem dL_law_610 : decode cL_law 610 = .ok (.iconst 0, 1) := by decide +kernel
theorem dL_law_611 : decode cL_law 611 = .ok (.ireturn, 1) := by decide +kernel
theorem dL_law_612 : decode cL_law 612 = .ok (.aload_n 1, 1) := by decide +kernel
theorem dL_law_613 : decode cL_law 613 = .ok (.aload_n 0, 1) := by decide +kernel
theorem dL_law_614 : decode cL_law 614 = .ok (.iload_n 3, 1) := by decide +kernel
theorem dL_law_615 : decode cL_law 615 = .ok (.iconst 1, 1) := by decide +kernel
theorem dL_law_616 : decode cL_law 616 = .ok (.iadd, 1) := by decide +kernel
theorem dL_law_617 : decode cL_law 617 = .ok (.iaload, 1) := by decide +kernel
theorem dL_law_618 : decode cL_law 618 = .ok (.invokevirtual 73, 3) := by decide +kernel
theorem dL_law_621 : decode cL_law 621 = .ok (.aload_n 2, 1) := by decide +kernel
theorem dL_law_622 : decode cL_law 622 = .ok (.aload_n 0, 1) := by decide +kernel
theorem dL_law_623 : decode cL_law 623 = .ok (.iload_n 3, 1) := by decide +kernel
theorem dL_law_624 : decode cL_law 624 = .ok (.iconst 1, 1) := by decide +kernel
theorem dL_law_625 : decode cL_law 625 = .ok (.iadd, 1) := by decide +kernel
theorem dL_law_626 : decode cL_law 626 = .ok (.iaload, 1) := by decide +kernel
theorem dL_law_627 : decode cL_law 627 = .ok (.invokevirtual 76, 3) := by decide +kernel
theorem dL_law_630 : decode cL_law 630 = .ok (.if_icmp .eq 749, 3) := by decide +kernel
theorem dL_law_633 : decode cL_law 633 = .ok (.iconst 0, 1) := by decide +kernel
theorem dL_law_634 : decode cL_law 634 = .ok (.ireturn, 1) := by decide +kernel
theorem dL_law_635 : decode cL_law 635 = .ok (.aload_n 1, 1) := by decide +kernel
theorem dL_law_636 : decode cL_law 636 = .ok (.aload_n 0, 1) := by decide +kernel
theorem dL_law_637 : decode cL_law 637 = .ok (.iload_n 3, 1) := by decide +kernel
theorem dL_law_638 : decode cL_law 638 = .ok (.iconst 1, 1) := by decide +kernel
theorem dL_law_639 : decode cL_law 639 = .ok (.iadd, 1) := by decide +kernel
theorem dL_law_640 : decode cL_law 640 = .ok (.iaload, 1) := by decide +kernel
theorem dL_law_641 : decode cL_law 641 = .ok (.invokevirtual 77, 3) := by decide +kernel
theorem dL_law_644 : decode cL_law 644 = .ok (.aload_n 2, 1) := by decide +kernel
theorem dL_law_645 : decode cL_law 645 = .ok (.aload_n 0, 1) := by decide +kernel
theorem dL_law_646 : decode cL_law 646 = .ok (.iload_n 3, 1) := by decide +kernel
theorem dL_law_647 : decode cL_law 647 = .ok (.iconst 1, 1) := by decide +kernel
theorem dL_law_648 : decode cL_law 648 = .ok (.iadd, 1) := by decide +kernel
theorem dL_law_649 : decode cL_law 649 = .ok (.iaload, 1) := by decide +kernel
theorem dL_law_650 : decode cL_law 650 = .ok (.invokevirtual 80, 3) := by decide +kernel
theorem dL_law_653 : decode cL_law 653 = .ok (.if_icmp .eq 726, 3) := by decide +kernel
theorem dL_law_656 : decode cL_law 656 = .ok (.iconst 0, 1) := by decide +kernel
theorem dL_law_657 : decode cL_law 657 = .ok (.ireturn, 1) := by decide +kernel
theorem dL_law_658 : decode cL_law 658 = .ok (.aload_n 1, 1) := by decide +kernel
theorem dL_law_659 : decode cL_law 659 = .ok (.invokevirtual 81, 3) := by decide +kernel
theorem dL_law_662 : decode cL_law 662 = .ok (.aload_n 2, 1) := by decide +kernel
theorem dL_law_663 : decode cL_law 663 = .ok (.invokevirtual 84, 3) := by decide +kernel
theorem dL_law_666 : decode cL_law 666 = .ok (.if_icmp .eq 713, 3) := by decide +kernel
theorem dL_law_669 : decode cL_law 669 = .ok (.iconst 0, 1) := by decide +kernel
theorem dL_law_670 : decode cL_law 670 = .ok (.ireturn, 1) := by decide +kernel
theorem dL_law_671 : decode cL_law 671 = .ok (.aload_n 1, 1) := by decide +kernel
theorem dL_law_672 : decode cL_law 672 = .ok (.aload_n 0, 1) := by decide +kernel
theorem dL_law_673 : decode cL_law 673 = .ok (.iload_n 3, 1) := by decide +kernel
theorem dL_law_674 : decode cL_law 674 = .ok (.iconst 1, 1) := by decide +kernel
theorem dL_law_675 : decode cL_law 675 = .ok (.iadd, 1) := by decide +kernel
theorem dL_law_676 : decode cL_law 676 = .ok (.iaload, 1) := by decide +kernel
theorem dL_law_677 : decode cL_law 677 = .ok (.aload_n 0, 1) := by decide +kernel
theorem dL_law_678 : decode cL_law 678 = .ok (.iload_n 3, 1) := by decide +kernel
theorem dL_law_679 : decode cL_law 679 = .ok (.iconst 2, 1) := by decide +kernel
theorem dL_law_680 : decode cL_law 680 = .ok (.iadd, 1) := by decide +kernel
theorem dL_law_681 : decode cL_law 681 = .ok (.iaload, 1) := by decide +kernel
theorem dL_law_682 : decode cL_law 682 = .ok (.invokevirtual 85, 3) := by decide +kernel
theorem dL_law_685 : decode cL_law 685 = .ok (.aload_n 2, 1) := by decide +kernel
theorem dL_law_686 : decode cL_law 686 = .ok (.aload_n 0, 1) := by decide +kernel
theorem dL_law_687 : decode cL_law 687 = .ok (.iload_n 3, 1) := by decide +kernel
theorem dL_law_688 : decode cL_law 688 = .ok (.iconst 1, 1) := by decide +kernel
theorem dL_law_689 : decode cL_law 689 = .ok (.iadd, 1) := by decide +kernel
theorem dL_law_690 : decode cL_law 690 = .ok (.iaload, 1) := by decide +kernel
theorem dL_law_691 : decode cL_law 691 = .ok (.aload_n 0, 1) := by decide +kernel
theorem dL_law_692 : decode cL_law 692 = .ok (.iload_n 3, 1) := by decide +kernel
theorem dL_law_693 : decode cL_law 693 = .ok (.iconst 2, 1) := by decide +kernel
theorem dL_law_694 : decode cL_law 694 = .ok (.iadd, 1) := by decide +kernel
theorem dL_law_695 : decode cL_law 695 = .ok (.iaload, 1) := by decide +kernel
theorem dL_law_696 : decode cL_law 696 = .ok (.invokevirtual 88, 3) := by decide +kernel
theorem dL_law_699 : decode cL_law 699 = .ok (.if_icmp .eq 680, 3) := by decide +kernel
theorem dL_law_702 : decode cL_law 702 = .ok (.iconst 0, 1) := by decide +kernel
theorem dL_law_703 : decode cL_law 703 = .ok (.ireturn, 1) := by decide +kernel
theorem dL_law_704 : decode cL_law 704 = .ok (.aload_n 1, 1) := by decide +kernel
theorem dL_law_705 : decode cL_law 705 = .ok (.aload_n 0, 1) := by decide +kernel
theorem dL_law_706 : decode cL_law 706 = .ok (.iload_n 3, 1) := by decide +kernel
theorem dL_law_707 : decode cL_law 707 = .ok (.iconst 1, 1) := by decide +kernel
theorem dL_law_708 : decode cL_law 708 = .ok (.iadd, 1) := by decide +kernel
theorem dL_law_709 : decode cL_law 709 = .ok (.iaload, 1) := by decide +kernel
theorem dL_law_710 : decode cL_law 710 = .ok (.invokevirtual 89, 3) := by decide +kernel
theorem dL_law_713 : decode cL_law 713 = .ok (.aload_n 2, 1) := by decide +kernel
theorem dL_law_714 : decode cL_law 714 = .ok (.aload_n 0, 1) := by decide +kernel
theorem dL_law_715 : decode cL_law 715 = .ok (.iload_n 3, 1) := by decide +kernel
theorem dL_law_716 : decode cL_law 716 = .ok (.iconst 1, 1) := by decide +kernel
theorem dL_law_717 : decode cL_law 717 = .ok (.iadd, 1) := by decide +kernel
theorem dL_law_718 : decode cL_law 718 = .ok (.iaload, 1) := by decide +kernel
theorem dL_law_719 : decode cL_law 719 = .ok (.invokevirtual 92, 3) := by decide +kernel
theorem dL_law_722 : decode cL_law 722 = .ok (.if_icmp .eq 657, 3) := by decide +kernel
theorem dL_law_725 : decode cL_law 725 = .ok (.iconst 0, 1) := by decide +kernel
theorem dL_law_726 : decode cL_law 726 = .ok (.ireturn, 1) := by decide +kernel
theorem dL_law_727 : decode cL_law 727 = .ok (.aload_n 1, 1) := by decide +kernel
theorem dL_law_728 : decode cL_law 728 = .ok (.aload_n 0, 1) := by decide +kernel
theorem dL_law_729 : decode cL_law 729 = .ok (.iload_n 3, 1) := by decide +kernel
theorem dL_law_730 : decode cL_law 730 = .ok (.iconst 1, 1) := by decide +kernel
theorem dL_law_731 : decode cL_law 731 = .ok (.iadd, 1) := by decide +kernel
theorem dL_law_732 : decode cL_law 732 = .ok (.iaload, 1) := by decide +kernel
theorem dL_law_733 : decode cL_law 733 = .ok (.invokevirtual 93, 3) := by decide +kernel
theorem dL_law_736 : decode cL_law 736 = .ok (.aload_n 2, 1) := by decide +kernel
theorem dL_law_737 : decode cL_law 737 = .ok (.aload_n 0, 1) := by decide +kernel
theorem dL_law_738 : decode cL_law 738 = .ok (.iload_n 3, 1) := by decide +kernel
theorem dL_law_739 : decode cL_law 739 = .ok (.iconst 1, 1) := by decide +kernel
theorem dL_law_740 : decode cL_law 740 = .ok (.iadd, 1) := by decide +kernel
theorem dL_law_741 : decode cL_law 741 = .ok (.iaload, 1) := by decide +kernel
theorem dL_law_742 : decode cL_law 742 = .ok (.invokevirtual 96, 3) := by decide +kernel
theorem dL_law_745 : decode cL_law 745 = .ok (.if_icmp .eq 634, 3) := by decide +kernel
theorem dL_law_748 : decode cL_law 748 = .ok (.iconst 0, 1) := by decide +kernel
theorem dL_law_749 : decode cL_law 749 = .ok (.ireturn, 1) := by decide +kernel
theorem dL_law_750 : decode cL_law 750 = .ok (.aload_n 1, 1) := by decide +kernel
theorem dL_law_751 : decode cL_law 751 = .ok (.aload_n 0, 1) := by decide +kernel
theorem dL_law_752 : decode cL_law 752 = .ok (.iload_n 3, 1) := by decide +kernel
theorem dL_law_753 : decode cL_law 753 = .ok (.iconst 1, 1) := by decide +kernel
theorem dL_law_754 : decode cL_law 754 = .ok (.iadd, 1) := by decide +kernel
theorem dL_law_755 : decode cL_law 755 = .ok (.iaload, 1) := by decide +kernel
theorem dL_law_756 : decode cL_law 756 = .ok (.aload_n 0, 1) := by decide +kernel
theorem dL_law_757 : decode cL_law 757 = .ok (.iload_n 3, 1) := by decide +kernel
theorem dL_law_758 : decode cL_law 758 = .ok (.iconst 2, 1) := by decide +kernel
theorem dL_law_759 : decode cL_law 759 = .ok (.iadd, 1) := by decide +kernel
theorem dL_law_760 : decode cL_law 760 = .ok (.iaload, 1) := by decide +kernel
theorem dL_law_761 : decode cL_law 761 = .ok (.invokevirtual 97, 3) := by decide +kernel
theorem dL_law_764 : decode cL_law 764 = .ok (.aload_n 2, 1) := by decide +kernel
theorem dL_law_765 : decode cL_law 765 = .ok (.aload_n 0, 1) := by decide +kernel
theorem dL_law_766 : decode cL_law 766 = .ok (.iload_n 3, 1) := by decide +kernel
theorem dL_law_767 : decode cL_law 767 = .ok (.iconst 1, 1) := by decide +kernel
theorem dL_law_768 : decode cL_law 768 = .ok (.iadd, 1) := by decide +kernel
theorem dL_law_769 : decode cL_law 769 = .ok (.iaload, 1) := by decide +kernel
theorem dL_law_770 : decode cL_law 770 = .ok (.aload_n 0, 1) := by decide +kernel
theorem dL_law_771 : decode cL_law 771 = .ok (.iload_n 3, 1) := by decide +kernel
theorem dL_law_772 : decode cL_law 772 = .ok (.iconst 2, 1) := by decide +kernel
theorem dL_law_773 : decode cL_law 773 = .ok (.iadd, 1) := by decide +kernel
theorem dL_law_774 : decode cL_law 774 = .ok (.iaload, 1) := by decide +kernel
theorem dL_law_775 : decode cL_law 775 = .ok (.invokevirtual 100, 3) := by decide +kernel
theorem dL_law_778 : decode cL_law 778 = .ok (.if_icmp .eq 601, 3) := by decide +kernel
theorem dL_law_781 : decode cL_law 781 = .ok (.iconst 0, 1) := by decide +kernel
theorem dL_law_782 : decode cL_law 782 = .ok (.ireturn, 1) := by decide +kernel
theorem dL_law_783 : decode cL_law 783 = .ok (.aload_n 1, 1) := by decide +kernel
theorem dL_law_784 : decode cL_law 784 = .ok (.aload_n 0, 1) := by decide +kernel
theorem dL_law_785 : decode cL_law 785 = .ok (.iload_n 3, 1) := by decide +kernel
theorem dL_law_786 : decode cL_law 786 = .ok (.iconst 1, 1) := by decide +kernel
theorem dL_law_787 : decode cL_law 787 = .ok (.iadd, 1) := by decide +kernel
theorem dL_law_788 : decode cL_law 788 = .ok (.iaload, 1) := by decide +kernel
theorem dL_law_789 : decode cL_law 789 = .ok (.aload_n 0, 1) := by decide +kernel
theorem dL_law_790 : decode cL_law 790 = .ok (.iload_n 3, 1) := by decide +kernel
theorem dL_law_791 : decode cL_law 791 = .ok (.iconst 2, 1) := by decide +kernel
theorem dL_law_792 : decode cL_law 792 = .ok (.iadd, 1) := by decide +kernel
theorem dL_law_793 : decode cL_law 793 = .ok (.iaload, 1) := by decide +kernel
theorem dL_law_794 : decode cL_law 794 = .ok (.invokevirtual 101, 3) := by decide +kernel
theorem dL_law_797 : decode cL_law 797 = .ok (.aload_n 2, 1) := by decide +kernel
theorem dL_law_798 : decode cL_law 798 = .ok (.aload_n 0, 1) := by decide +kernel
theorem dL_law_799 : decode cL_law 799 = .ok (.iload_n 3, 1) := by decide +kernel
theorem dL_law_800 : decode cL_law 800 = .ok (.iconst 1, 1) := by decide +kernel
theorem dL_law_801 : decode cL_law 801 = .ok (.iadd, 1) := by decide +kernel
theorem dL_law_802 : decode cL_law 802 = .ok (.iaload, 1) := by decide +kernel
theorem dL_law_803 : decode cL_law 803 = .ok (.aload_n 0, 1) := by decide +kernel
theorem dL_law_804 : decode cL_law 804 = .ok (.iload_n 3, 1) := by decide +kernel
theorem dL_law_805 : decode cL_law 805 = .ok (.iconst 2, 1) := by decide +kernel
theorem dL_law_806 : decode cL_law 806 = .ok (.iadd, 1) := by decide +kernel
theorem dL_law_807 : decode cL_law 807 = .ok (.iaload, 1) := by decide +kernel
theorem dL_law_808 : decode cL_law 808 = .ok (.invokevirtual 104, 3) := by decide +kernel
theorem dL_law_811 : decode cL_law 811 = .ok (.if_icmp .eq 568, 3) := by decide +kernel
theorem dL_law_814 : decode cL_law 814 = .ok (.iconst 0, 1) := by decide +kernel
theorem dL_law_815 : decode cL_law 815 = .ok (.ireturn, 1) := by decide +kernel
theorem dL_law_816 : decode cL_law 816 = .ok (.aload_n 1, 1) := by decide +kernel
theorem dL_law_817 : decode cL_law 817 = .ok (.aload_n 0, 1) := by decide +kernel
theorem dL_law_818 : decode cL_law 818 = .ok (.iload_n 3, 1) := by decide +kernel
theorem dL_law_819 : decode cL_law 819 = .ok (.iconst 1, 1) := by decide +kernel
theorem dL_law_820 : decode cL_law 820 = .ok (.iadd, 1) := by decide +kernel
theorem dL_law_821 : decode cL_law 821 = .ok (.iaload, 1) := by decide +kernel
theorem dL_law_822 : decode cL_law 822 = .ok (.aload_n 0, 1) := by decide +kernel
theorem dL_law_823 : decode cL_law 823 = .ok (.iload_n 3, 1) := by decide +kernel
theorem dL_law_824 : decode cL_law 824 = .ok (.iconst 2, 1) := by decide +kernel
theorem dL_law_825 : decode cL_law 825 = .ok (.iadd, 1) := by decide +kernel
theorem dL_law_826 : decode cL_law 826 = .ok (.iaload, 1) := by decide +kernel
theorem dL_law_827 : decode cL_law 827 = .ok (.invokevirtual 105, 3) := by decide +kernel
theorem dL_law_830 : decode cL_law 830 = .ok (.aload_n 2, 1) := by decide +kernel
theorem dL_law_831 : decode cL_law 831 = .ok (.aload_n 0, 1) := by decide +kernel
theorem dL_law_832 : decode cL_law 832 = .ok (.iload_n 3, 1) := by decide +kernel
theorem dL_law_833 : decode cL_law 833 = .ok (.iconst 1, 1) := by decide +kernel
theorem dL_law_834 : decode cL_law 834 = .ok (.iadd, 1) := by decide +kernel
theorem dL_law_835 : decode cL_law 835 = .ok (.iaload, 1) := by decide +kernel
theorem dL_law_836 : decode cL_law 836 = .ok (.aload_n 0, 1) := by decide +kernel
theorem dL_law_837 : decode cL_law 837 = .ok (.iload_n 3, 1) := by decide +kernel
theorem dL_law_838 : decode cL_law 838 = .ok (.iconst 2, 1) := by decide +kernel
theorem dL_law_839 : decode cL_law 839 = .ok (.iadd, 1) := by decide +kernel
theorem dL_law_840 : decode cL_law 840 = .ok (.iaload, 1) := by decide +kernel
theorem dL_law_841 : decode cL_law 841 = .ok (.invokevirtual 108, 3) := by decide +kernel
theorem dL_law_844 : decode cL_law 844 = .ok (.if_icmp .eq 535, 3) := by decide +kernel
theorem dL_law_847 : decode cL_law 847 = .ok (.iconst 0, 1) := by decide +kernel
theorem dL_law_848 : decode cL_law 848 = .ok (.ireturn, 1) := by decide +kernel
theorem dL_law_849 : decode cL_law 849 = .ok (.aload_n 1, 1) := by decide +kernel
theorem dL_law_850 : decode cL_law 850 = .ok (.aload_n 0, 1) := by decide +kernel
theorem dL_law_851 : decode cL_law 851 = .ok (.iload_n 3, 1) := by decide +kernel
theorem dL_law_852 : decode cL_law 852 = .ok (.iconst 1, 1) := by decide +kernel
theorem dL_law_853 : decode cL_law 853 = .ok (.iadd, 1) := by decide +kernel
theorem dL_law_854 : decode cL_law 854 = .ok (.iaload, 1) := by decide +kernel
theorem dL_law_855 : decode cL_law 855 = .ok (.invokevirtual 109, 3) := by decide +kernel
theorem dL_law_858 : decode cL_law 858 = .ok (.aload_n 2, 1) := by decide +kernel
theorem dL_law_859 : decode cL_law 859 = .ok (.aload_n 0, 1) := by decide +kernel
theorem dL_law_860 : decode cL_law 860 = .ok (.iload_n 3, 1) := by decide +kernel
theorem dL_law_861 : decode cL_law 861 = .ok (.iconst 1, 1) := by decide +kernel
theorem dL_law_862 : decode cL_law 862 = .ok (.iadd, 1) := by decide +kernel
theorem dL_law_863 : decode cL_law 863 = .ok (.iaload, 1) := by decide +kernel
theorem dL_law_864 : decode cL_law 864 = .ok (.invokevirtual 112, 3) := by decide +kernel
theorem dL_law_867 : decode cL_law 867 = .ok (.if_icmp .eq 512, 3) := by decide +kernel
theorem dL_law_870 : decode cL_law 870 = .ok (.iconst 0, 1) := by decide +kernel
theorem dL_law_871 : decode cL_law 871 = .ok (.ireturn, 1) := by decide +kernel
theorem dL_law_872 : decode cL_law 872 = .ok (.aload_n 1, 1) := by decide +kernel
theorem dL_law_873 : decode cL_law 873 = .ok (.invokevirtual 113, 3) := by decide +kernel
theorem dL_law_876 : decode cL_law 876 = .ok (.aload_n 2, 1) := by decide +kernel
theorem dL_law_877 : decode cL_law 877 = .ok (.invokevirtual 116, 3) := by decide +kernel
theorem dL_law_880 : decode cL_law 880 = .ok (.if_icmp .eq 499, 3) := by decide +kernel
theorem dL_law_883 : decode cL_law 883 = .ok (.iconst 0, 1) := by decide +kernel
theorem dL_law_884 : decode cL_law 884 = .ok (.ireturn, 1) := by decide +kernel
theorem dL_law_885 : decode cL_law 885 = .ok (.aload_n 1, 1) := by decide +kernel
theorem dL_law_886 : decode cL_law 886 = .ok (.aload_n 0, 1) := by decide +kernel
theorem dL_law_887 : decode cL_law 887 = .ok (.iload_n 3, 1) := by decide +kernel
theorem dL_law_888 : decode cL_law 888 = .ok (.iconst 1, 1) := by decide +kernel
theorem dL_law_889 : decode cL_law 889 = .ok (.iadd, 1) := by decide +kernel
theorem dL_law_890 : decode cL_law 890 = .ok (.iaload, 1) := by decide +kernel
theorem dL_law_891 : decode cL_law 891 = .ok (.invokevirtual 117, 3) := by decide +kernel
theorem dL_law_894 : decode cL_law 894 = .ok (.aload_n 2, 1) := by decide +kernel
theorem dL_law_895 : decode cL_law 895 = .ok (.aload_n 0, 1) := by decide +kernel
theorem dL_law_896 : decode cL_law 896 = .ok (.iload_n 3, 1) := by decide +kernel
theorem dL_law_897 : decode cL_law 897 = .ok (.iconst 1, 1) := by decide +kernel
theorem dL_law_898 : decode cL_law 898 = .ok (.iadd, 1) := by decide +kernel
theorem dL_law_899 : decode cL_law 899 = .ok (.iaload, 1) := by decide +kernel
theorem dL_law_900 : decode cL_law 900 = .ok (.invokevirtual 120, 3) := by decide +kernel
theorem dL_law_903 : decode cL_law 903 = .ok (.if_icmp .eq 476, 3) := by decide +kernel
theorem dL_law_906 : decode cL_law 906 = .ok (.iconst 0, 1) := by decide +kernel
theorem dL_law_907 : decode cL_law 907 = .ok (.ireturn, 1) := by decide +kernel
theorem dL_law_908 : decode cL_law 908 = .ok (.aload_n 1, 1) := by decide +kernel
theorem dL_law_909 : decode cL_law 909 = .ok (.aload_n 0, 1) := by decide +kernel
theorem dL_law_910 : decode cL_law 910 = .ok (.iload_n 3, 1) := by decide +kernel
theorem dL_law_911 : decode cL_law 911 = .ok (.iconst 1, 1) := by decide +kernel
theorem dL_law_912 : decode cL_law 912 = .ok (.iadd, 1) := by decide +kernel
theorem dL_law_913 : decode cL_law 913 = .ok (.iaload, 1) := by decide +kernel
theorem dL_law_914 : decode cL_law 914 = .ok (.aload_n 0, 1) := by decide +kernel
theorem dL_law_915 : decode cL_law 915 = .ok (.iload_n 3, 1) := by decide +kernel
theorem dL_law_916 : decode cL_law 916 = .ok (.iconst 2, 1) := by decide +kernel
theorem dL_law_917 : decode cL_law 917 = .ok (.iadd, 1) := by decide +kernel
theorem dL_law_918 : decode cL_law 918 = .ok (.iaload, 1) := by decide +kernel
theorem dL_law_919 : decode cL_law 919 = .ok (.aload_n 0, 1) := by decide +kernel
theorem dL_law_920 : decode cL_law 920 = .ok (.iload_n 3, 1) := by decide +kernel
theorem dL_law_921 : decode cL_law 921 = .ok (.iconst 3, 1) := by decide +kernel
theorem dL_law_922 : decode cL_law 922 = .ok (.iadd, 1) := by decide +kernel
theorem dL_law_923 : decode cL_law 923 = .ok (.iaload, 1) := by decide +kernel
theorem dL_law_924 : decode cL_law 924 = .ok (.invokevirtual 121, 3) := by decide +kernel
theorem dL_law_927 : decode cL_law 927 = .ok (.aload_n 2, 1) := by decide +kernel
theorem dL_law_928 : decode cL_law 928 = .ok (.aload_n 0, 1) := by decide +kernel
theorem dL_law_929 : decode cL_law 929 = .ok (.iload_n 3, 1) := by decide +kernel
theorem dL_law_930 : decode cL_law 930 = .ok (.iconst 1, 1) := by decide +kernel
theorem dL_law_931 : decode cL_law 931 = .ok (.iadd, 1) := by decide +kernel
theorem dL_law_932 : decode cL_law 932 = .ok (.iaload, 1) := by decide +kernel
theorem dL_law_933 : decode cL_law 933 = .ok (.aload_n 0, 1) := by decide +kernel
theorem dL_law_934 : decode cL_law 934 = .ok (.iload_n 3, 1) := by decide +kernel
theorem dL_law_935 : decode cL_law 935 = .ok (.iconst 2, 1) := by decide +kernel
theorem dL_law_936 : decode cL_law 936 = .ok (.iadd, 1) := by decide +kernel
theorem dL_law_937 : decode cL_law 937 = .ok (.iaload, 1) := by decide +kernel
theorem dL_law_938 : decode cL_law 938 = .ok (.aload_n 0, 1) := by decide +kernel
theorem dL_law_939 : decode cL_law 939 = .ok (.iload_n 3, 1) := by decide +kernel
theorem dL_law_940 : decode cL_law 940 = .ok (.iconst 3, 1) := by decide +kernel
theorem dL_law_941 : decode cL_law 941 = .ok (.iadd, 1) := by decide +kernel
theorem dL_law_942 : decode cL_law 942 = .ok (.iaload, 1) := by decide +kernel
theorem dL_law_943 : decode cL_law 943 = .ok (.invokevirtual 124, 3) := by decide +kernel
theorem dL_law_946 : decode cL_law 946 = .ok (.if_icmp .eq 433, 3) := by decide +kernel
theorem dL_law_949 : decode cL_law 949 = .ok (.iconst 0, 1) := by decide +kernel
theorem dL_law_950 : decode cL_law 950 = .ok (.ireturn, 1) := by decide +kernel
theorem dL_law_951 : decode cL_law 951 = .ok (.aload_n 1, 1) := by decide +kernel
theorem dL_law_952 : decode cL_law 952 = .ok (.aload_n 0, 1) := by decide +kernel
theorem dL_law_953 : decode cL_law 953 = .ok (.iload_n 3, 1) := by decide +kernel
theorem dL_law_954 : decode cL_law 954 = .ok (.iconst 1, 1) := by decide +kernel
theorem dL_law_955 : decode cL_law 955 = .ok (.iadd, 1) := by decide +kernel
theorem dL_law_956 : decode cL_law 956 = .ok (.iaload, 1) := by decide +kernel
theorem dL_law_957 : decode cL_law 957 = .ok (.invokevirtual 125, 3) := by decide +kernel
theorem dL_law_960 : decode cL_law 960 = .ok (.aload_n 2, 1) := by decide +kernel
theorem dL_law_961 : decode cL_law 961 = .ok (.aload_n 0, 1) := by decide +kernel
theorem dL_law_962 : decode cL_law 962 = .ok (.iload_n 3, 1) := by decide +kernel
theorem dL_law_963 : decode cL_law 963 = .ok (.iconst 1, 1) := by decide +kernel
theorem dL_law_964 : decode cL_law 964 = .ok (.iadd, 1) := by decide +kernel
theorem dL_law_965 : decode cL_law 965 = .ok (.iaload, 1) := by decide +kernel
theorem dL_law_966 : decode cL_law 966 = .ok (.invokevirtual 128, 3) := by decide +kernel
theorem dL_law_969 : decode cL_law 969 = .ok (.if_icmp .eq 410, 3) := by decide +kernel
theorem dL_law_972 : decode cL_law 972 = .ok (.iconst 0, 1) := by decide +kernel
theorem dL_law_973 : decode cL_law 973 = .ok (.ireturn, 1) := by decide +kernel
theorem dL_law_974 : decode cL_law 974 = .ok (.aload_n 1, 1) := by decide +kernel
theorem dL_law_975 : decode cL_law 975 = .ok (.aload_n 0, 1) := by decide +kernel
theorem dL_law_976 : decode cL_law 976 = .ok (.iload_n 3, 1) := by decide +kernel
theorem dL_law_977 : decode cL_law 977 = .ok (.iconst 1, 1) := by decide +kernel
theorem dL_law_978 : decode cL_law 978 = .ok (.iadd, 1) := by decide +kernel
theorem dL_law_979 : decode cL_law 979 = .ok (.iaload, 1) := by decide +kernel
theorem dL_law_980 : decode cL_law 980 = .ok (.aload_n 0, 1) := by decide +kernel
theorem dL_law_981 : decode cL_law 981 = .ok (.iload_n 3, 1) := by decide +kernel
theorem dL_law_982 : decode cL_law 982 = .ok (.iconst 2, 1) := by decide +kernel
theorem dL_law_983 : decode cL_law 983 = .ok (.iadd, 1) := by decide +kernel
theorem dL_law_984 : decode cL_law 984 = .ok (.iaload, 1) := by decide +kernel
theorem dL_law_985 : decode cL_law 985 = .ok (.invokevirtual 129, 3) := by decide +kernel
theorem dL_law_988 : decode cL_law 988 = .ok (.aload_n 2, 1) := by decide +kernel
theorem dL_law_989 : decode cL_law 989 = .ok (.aload_n 0, 1) := by decide +kernel
theorem dL_law_990 : decode cL_law 990 = .ok (.iload_n 3, 1) := by decide +kernel
theorem dL_law_991 : decode cL_law 991 = .ok (.iconst 1, 1) := by decide +kernel
theorem dL_law_992 : decode cL_law 992 = .ok (.iadd, 1) := by decide +kernel
theorem dL_law_993 : decode cL_law 993 = .ok (.iaload, 1) := by decide +kernel
theorem dL_law_994 : decode cL_law 994 = .ok (.aload_n 0, 1) := by decide +kernel
theorem dL_law_995 : decode cL_law 995 = .ok (.iload_n 3, 1) := by decide +kernel
theorem dL_law_996 : decode cL_law 996 = .ok (.iconst 2, 1) := by decide +kernel
theorem dL_law_997 : decode cL_law 997 = .ok (.iadd, 1) := by decide +kernel
theorem dL_law_998 : decode cL_law 998 = .ok (.iaload, 1) := by decide +kernel
theorem dL_law_999 : decode cL_law 999 = .ok (.invokevirtual 132, 3) := by decide +kernel
theorem dL_law_1002 : decode cL_law 1002 = .ok (.if_icmp .eq 377, 3) := by decide +kernel
theorem dL_law_1005 : decode cL_law 1005 = .ok (.iconst 0, 1) := by decide +kernel
theorem dL_law_1006 : decode cL_law 1006 = .ok (.ireturn, 1) := by decide +kernel
theorem dL_law_1007 : decode cL_law 1007 = .ok (.aload_n 1, 1) := by decide +kernel
theorem dL_law_1008 : decode cL_law 1008 = .ok (.invokevirtual 133, 3) := by decide +kernel
theorem dL_law_1011 : decode cL_law 1011 = .ok (.aload_n 2, 1) := by decide +kernel
theorem dL_law_1012 : decode cL_law 1012 = .ok (.invokevirtual 136, 3) := by decide +kernel
theorem dL_law_1015 : decode cL_law 1015 = .ok (.if_icmp .eq 364, 3) := by decide +kernel
theorem dL_law_1018 : decode cL_law 1018 = .ok (.iconst 0, 1) := by decide +kernel
theorem dL_law_1019 : decode cL_law 1019 = .ok (.ireturn, 1) := by decide +kernel
theorem dL_law_1020 : decode cL_law 1020 = .ok (.aload_n 1, 1) := by decide +kernel
theorem dL_law_1021 : decode cL_law 1021 = .ok (.invokevirtual 137, 3) := by decide +kernel
theorem dL_law_1024 : decode cL_law 1024 = .ok (.aload_n 2, 1) := by decide +kernel
theorem dL_law_1025 : decode cL_law 1025 = .ok (.invokevirtual 140, 3) := by decide +kernel
theorem dL_law_1028 : decode cL_law 1028 = .ok (.if_icmp .eq 351, 3) := by decide +kernel
theorem dL_law_1031 : decode cL_law 1031 = .ok (.iconst 0, 1) := by decide +kernel
theorem dL_law_1032 : decode cL_law 1032 = .ok (.ireturn, 1) := by decide +kernel
theorem dL_law_1033 : decode cL_law 1033 = .ok (.aload_n 1, 1) := by decide +kernel
theorem dL_law_1034 : decode cL_law 1034 = .ok (.aload_n 0, 1) := by decide +kernel
theorem dL_law_1035 : decode cL_law 1035 = .ok (.iload_n 3, 1) := by decide +kernel
theorem dL_law_1036 : decode cL_law 1036 = .ok (.iconst 1, 1) := by decide +kernel
theorem dL_law_1037 : decode cL_law 1037 = .ok (.iadd, 1) := by decide +kernel
theorem dL_law_1038 : decode cL_law 1038 = .ok (.iaload, 1) := by decide +kernel
theorem dL_law_1039 : decode cL_law 1039 = .ok (.aload_n 0, 1) := by decide +kernel
theorem dL_law_1040 : decode cL_law 1040 = .ok (.iload_n 3, 1) := by decide +kernel
theorem dL_law_1041 : decode cL_law 1041 = .ok (.iconst 2, 1) := by decide +kernel
theorem dL_law_1042 : decode cL_law 1042 = .ok (.iadd, 1) := by decide +kernel
theorem dL_law_1043 : decode cL_law 1043 = .ok (.iaload, 1) := by decide +kernel
theorem dL_law_1044 : decode cL_law 1044 = .ok (.invokevirtual 141, 3) := by decide +kernel
theorem dL_law_1047 : decode cL_law 1047 = .ok (.aload_n 2, 1) := by decide +kernel
theorem dL_law_1048 : decode cL_law 1048 = .ok (.aload_n 0, 1) := by decide +kernel
theorem dL_law_1049 : decode cL_law 1049 = .ok (.iload_n 3, 1) := by decide +kernel
theorem dL_law_1050 : decode cL_law 1050 = .ok (.iconst 1, 1) := by decide +kernel
theorem dL_law_1051 : decode cL_law 1051 = .ok (.iadd, 1) := by decide +kernel
theorem dL_law_1052 : decode cL_law 1052 = .ok (.iaload, 1) := by decide +kernel
theorem dL_law_1053 : decode cL_law 1053 = .ok (.aload_n 0, 1) := by decide +kernel
theorem dL_law_1054 : decode cL_law 1054 = .ok (.iload_n 3, 1) := by decide +kernel
theorem dL_law_1055 : decode cL_law 1055 = .ok (.iconst 2, 1) := by decide +kernel
theorem dL_law_1056 : decode cL_law 1056 = .ok (.iadd, 1) := by decide +kernel
theorem dL_law_1057 : decode cL_law 1057 = .ok (.iaload, 1) := by decide +kernel
theorem dL_law_1058 : decode cL_law 1058 = .ok (.invokevirtual 144, 3) := by decide +kernel
theorem dL_law_1061 : decode cL_law 1061 = .ok (.if_icmp .eq 318, 3) := by decide +kernel
theorem dL_law_1064 : decode cL_law 1064 = .ok (.iconst 0, 1) := by decide +kernel
theorem dL_law_1065 : decode cL_law 1065 = .ok (.ireturn, 1) := by decide +kernel
theorem dL_law_1066 : decode cL_law 1066 = .ok (.aload_n 1, 1) := by decide +kernel
theorem dL_law_1067 : decode cL_law 1067 = .ok (.aload_n 0, 1) := by decide +kernel
theorem dL_law_1068 : decode cL_law 1068 = .ok (.iload_n 3, 1) := by decide +kernel
theorem dL_law_1069 : decode cL_law 1069 = .ok (.iconst 1, 1) := by decide +kernel
theorem dL_law_1070 : decode cL_law 1070 = .ok (.iadd, 1) := by decide +kernel
theorem dL_law_1071 : decode cL_law 1071 = .ok (.iaload, 1) := by decide +kernel
theorem dL_law_1072 : decode cL_law 1072 = .ok (.aload_n 0, 1) := by decide +kernel
theorem dL_law_1073 : decode cL_law 1073 = .ok (.iload_n 3, 1) := by decide +kernel
theorem dL_law_1074 : decode cL_law 1074 = .ok (.iconst 2, 1) := by decide +kernel
theorem dL_law_1075 : decode cL_law 1075 = .ok (.iadd, 1) := by decide +kernel
theorem dL_law_1076 : decode cL_law 1076 = .ok (.iaload, 1) := by decide +kernel
theorem dL_law_1077 : decode cL_law 1077 = .ok (.invokevirtual 145, 3) := by decide +kernel
theorem dL_law_1080 : decode cL_law 1080 = .ok (.aload_n 2, 1) := by decide +kernel
theorem dL_law_1081 : decode cL_law 1081 = .ok (.aload_n 0, 1) := by decide +kernel
theorem dL_law_1082 : decode cL_law 1082 = .ok (.iload_n 3, 1) := by decide +kernel
theorem dL_law_1083 : decode cL_law 1083 = .ok (.iconst 1, 1) := by decide +kernel
theorem dL_law_1084 : decode cL_law 1084 = .ok (.iadd, 1) := by decide +kernel
theorem dL_law_1085 : decode cL_law 1085 = .ok (.iaload, 1) := by decide +kernel
theorem dL_law_1086 : decode cL_law 1086 = .ok (.aload_n 0, 1) := by decide +kernel
theorem dL_law_1087 : decode cL_law 1087 = .ok (.iload_n 3, 1) := by decide +kernel
theorem dL_law_1088 : decode cL_law 1088 = .ok (.iconst 2, 1) := by decide +kernel
theorem dL_law_1089 : decode cL_law 1089 = .ok (.iadd, 1) := by decide +kernel
theorem dL_law_1090 : decode cL_law 1090 = .ok (.iaload, 1) := by decide +kernel
theorem dL_law_1091 : decode cL_law 1091 = .ok (.invokevirtual 148, 3) := by decide +kernel
theorem dL_law_1094 : decode cL_law 1094 = .ok (.if_icmp .eq 285, 3) := by decide +kernel
theorem dL_law_1097 : decode cL_law 1097 = .ok (.iconst 0, 1) := by decide +kernel
theorem dL_law_1098 : decode cL_law 1098 = .ok (.ireturn, 1) := by decide +kernel
theorem dL_law_1099 : decode cL_law 1099 = .ok (.aload_n 1, 1) := by decide +kernel
theorem dL_law_1100 : decode cL_law 1100 = .ok (.aload_n 0, 1) := by decide +kernel
theorem dL_law_1101 : decode cL_law 1101 = .ok (.iload_n 3, 1) := by decide +kernel
theorem dL_law_1102 : decode cL_law 1102 = .ok (.iconst 1, 1) := by decide +kernel
theorem dL_law_1103 : decode cL_law 1103 = .ok (.iadd, 1) := by decide +kernel
theorem dL_law_1104 : decode cL_law 1104 = .ok (.iaload, 1) := by decide +kernel
theorem dL_law_1105 : decode cL_law 1105 = .ok (.aload_n 0, 1) := by decide +kernel
theorem dL_law_1106 : decode cL_law 1106 = .ok (.iload_n 3, 1) := by decide +kernel
theorem dL_law_1107 : decode cL_law 1107 = .ok (.iconst 2, 1) := by decide +kernel
theorem dL_law_1108 : decode cL_law 1108 = .ok (.iadd, 1) := by decide +kernel
theorem dL_law_1109 : decode cL_law 1109 = .ok (.iaload, 1) := by decide +kernel
theorem dL_law_1110 : decode cL_law 1110 = .ok (.aload_n 0, 1) := by decide +kernel
theorem dL_law_1111 : decode cL_law 1111 = .ok (.iload_n 3, 1) := by decide +kernel
theorem dL_law_1112 : decode cL_law 1112 = .ok (.iconst 3, 1) := by decide +kernel
theorem dL_law_1113 : decode cL_law 1113 = .ok (.iadd, 1) := by decide +kernel
theorem dL_law_1114 : decode cL_law 1114 = .ok (.iaload, 1) := by decide +kernel
theorem dL_law_1115 : decode cL_law 1115 = .ok (.invokevirtual 149, 3) := by decide +kernel
theorem dL_law_1118 : decode cL_law 1118 = .ok (.aload_n 2, 1) := by decide +kernel
theorem dL_law_1119 : decode cL_law 1119 = .ok (.aload_n 0, 1) := by decide +kernel
theorem dL_law_1120 : decode cL_law 1120 = .ok (.iload_n 3, 1) := by decide +kernel
theorem dL_law_1121 : decode cL_law 1121 = .ok (.iconst 1, 1) := by decide +kernel
theorem dL_law_1122 : decode cL_law 1122 = .ok (.iadd, 1) := by decide +kernel
theorem dL_law_1123 : decode cL_law 1123 = .ok (.iaload, 1) := by decide +kernel
theorem dL_law_1124 : decode cL_law 1124 = .ok (.aload_n 0, 1) := by decide +kernel
theorem dL_law_1125 : decode cL_law 1125 = .ok (.iload_n 3, 1) := by decide +kernel
theorem dL_law_1126 : decode cL_law 1126 = .ok (.iconst 2, 1) := by decide +kernel
theorem dL_law_1127 : decode cL_law 1127 = .ok (.iadd, 1) := by decide +kernel
theorem dL_law_1128 : decode cL_law 1128 = .ok (.iaload, 1) := by decide +kernel
theorem dL_law_1129 : decode cL_law 1129 = .ok (.aload_n 0, 1) := by decide +kernel
theorem dL_law_1130 : decode cL_law 1130 = .ok (.iload_n 3, 1) := by decide +kernel
theorem dL_law_1131 : decode cL_law 1131 = .ok (.iconst 3, 1) := by decide +kernel
theorem dL_law_1132 : decode cL_law 1132 = .ok (.iadd, 1) := by decide +kernel
theorem dL_law_1133 : decode cL_law 1133 = .ok (.iaload, 1) := by decide +kernel
theorem dL_law_1134 : decode cL_law 1134 = .ok (.invokevirtual 152, 3) := by decide +kernel
theorem dL_law_1137 : decode cL_law 1137 = .ok (.if_icmp .eq 242, 3) := by decide +kernel
theorem dL_law_1140 : decode cL_law 1140 = .ok (.iconst 0, 1) := by decide +kernel
theorem dL_law_1141 : decode cL_law 1141 = .ok (.ireturn, 1) := by decide +kernel
theorem dL_law_1142 : decode cL_law 1142 = .ok (.aload_n 1, 1) := by decide +kernel
theorem dL_law_1143 : decode cL_law 1143 = .ok (.aload_n 0, 1) := by decide +kernel
theorem dL_law_1144 : decode cL_law 1144 = .ok (.iload_n 3, 1) := by decide +kernel
theorem dL_law_1145 : decode cL_law 1145 = .ok (.iconst 1, 1) := by decide +kernel
theorem dL_law_1146 : decode cL_law 1146 = .ok (.iadd, 1) := by decide +kernel
theorem dL_law_1147 : decode cL_law 1147 = .ok (.iaload, 1) := by decide +kernel
theorem dL_law_1148 : decode cL_law 1148 = .ok (.aload_n 0, 1) := by decide +kernel
theorem dL_law_1149 : decode cL_law 1149 = .ok (.iload_n 3, 1) := by decide +kernel
theorem dL_law_1150 : decode cL_law 1150 = .ok (.iconst 2, 1) := by decide +kernel
theorem dL_law_1151 : decode cL_law 1151 = .ok (.iadd, 1) := by decide +kernel
theorem dL_law_1152 : decode cL_law 1152 = .ok (.iaload, 1) := by decide +kernel
theorem dL_law_1153 : decode cL_law 1153 = .ok (.aload_n 0, 1) := by decide +kernel
theorem dL_law_1154 : decode cL_law 1154 = .ok (.iload_n 3, 1) := by decide +kernel
theorem dL_law_1155 : decode cL_law 1155 = .ok (.iconst 3, 1) := by decide +kernel
theorem dL_law_1156 : decode cL_law 1156 = .ok (.iadd, 1) := by decide +kernel
theorem dL_law_1157 : decode cL_law 1157 = .ok (.iaload, 1) := by decide +kernel
theorem dL_law_1158 : decode cL_law 1158 = .ok (.invokevirtual 153, 3) := by decide +kernel
theorem dL_law_1161 : decode cL_law 1161 = .ok (.aload_n 2, 1) := by decide +kernel
theorem dL_law_1162 : decode cL_law 1162 = .ok (.aload_n 0, 1) := by decide +kernel
theorem dL_law_1163 : decode cL_law 1163 = .ok (.iload_n 3, 1) := by decide +kernel
theorem dL_law_1164 : decode cL_law 1164 = .ok (.iconst 1, 1) := by decide +kernel
theorem dL_law_1165 : decode cL_law 1165 = .ok (.iadd, 1) := by decide +kernel
theorem dL_law_1166 : decode cL_law 1166 = .ok (.iaload, 1) := by decide +kernel
theorem dL_law_1167 : decode cL_law 1167 = .ok (.aload_n 0, 1) := by decide +kernel
theorem dL_law_1168 : decode cL_law 1168 = .ok (.iload_n 3, 1) := by decide +kernel
theorem dL_law_1169 : decode cL_law 1169 = .ok (.iconst 2, 1) := by decide +kernel
theorem dL_law_1170 : decode cL_law 1170 = .ok (.iadd, 1) := by decide +kernel
theorem dL_law_1171 : decode cL_law 1171 = .ok (.iaload, 1) := by decide +kernel
theorem dL_law_1172 : decode cL_law 1172 = .ok (.aload_n 0, 1) := by decide +kernel
theorem dL_law_1173 : decode cL_law 1173 = .ok (.iload_n 3, 1) := by decide +kernel
theorem dL_law_1174 : decode cL_law 1174 = .ok (.iconst 3, 1) := by decide +kernel
theorem dL_law_1175 : decode cL_law 1175 = .ok (.iadd, 1) := by decide +kernel
theorem dL_law_1176 : decode cL_law 1176 = .ok (.iaload, 1) := by decide +kernel
theorem dL_law_1177 : decode cL_law 1177 = .ok (.invokevirtual 156, 3) := by decide +kernel
theorem dL_law_1180 : decode cL_law 1180 = .ok (.if_icmp .eq 199, 3) := by decide +kernel
theorem dL_law_1183 : decode cL_law 1183 = .ok (.iconst 0, 1) := by decide +kernel
theorem dL_law_1184 : decode cL_law 1184 = .ok (.ireturn, 1) := by decide +kernel
theorem dL_law_1185 : decode cL_law 1185 = .ok (.aload_n 1, 1) := by decide +kernel
theorem dL_law_1186 : decode cL_law 1186 = .ok (.aload_n 0, 1) := by decide +kernel
theorem dL_law_1187 : decode cL_law 1187 = .ok (.iload_n 3, 1) := by decide +kernel
theorem dL_law_1188 : decode cL_law 1188 = .ok (.iconst 1, 1) := by decide +kernel
theorem dL_law_1189 : decode cL_law 1189 = .ok (.iadd, 1) := by decide +kernel
theorem dL_law_1190 : decode cL_law 1190 = .ok (.iaload, 1) := by decide +kernel
theorem dL_law_1191 : decode cL_law 1191 = .ok (.aload_n 0, 1) := by decide +kernel
theorem dL_law_1192 : decode cL_law 1192 = .ok (.iload_n 3, 1) := by decide +kernel
theorem dL_law_1193 : decode cL_law 1193 = .ok (.iconst 2, 1) := by decide +kernel
theorem dL_law_1194 : decode cL_law 1194 = .ok (.iadd, 1) := by decide +kernel
theorem dL_law_1195 : decode cL_law 1195 = .ok (.iaload, 1) := by decide +kernel
theorem dL_law_1196 : decode cL_law 1196 = .ok (.aload_n 0, 1) := by decide +kernel
theorem dL_law_1197 : decode cL_law 1197 = .ok (.iload_n 3, 1) := by decide +kernel
theorem dL_law_1198 : decode cL_law 1198 = .ok (.iconst 3, 1) := by decide +kernel
theorem dL_law_1199 : decode cL_law 1199 = .ok (.iadd, 1) := by decide +kernel
theorem dL_law_1200 : decode cL_law 1200 = .ok (.iaload, 1) := by decide +kernel
theorem dL_law_1201 : decode cL_law 1201 = .ok (.aload_n 0, 1) := by decide +kernel
theorem dL_law_1202 : decode cL_law 1202 = .ok (.iload_n 3, 1) := by decide +kernel
theorem dL_law_1203 : decode cL_law 1203 = .ok (.iconst 4, 1) := by decide +kernel
theorem dL_law_1204 : decode cL_law 1204 = .ok (.iadd, 1) := by decide +kernel
theorem dL_law_1205 : decode cL_law 1205 = .ok (.iaload, 1) := by decide +kernel
theorem dL_law_1206 : decode cL_law 1206 = .ok (.aload_n 0, 1) := by decide +kernel
theorem dL_law_1207 : decode cL_law 1207 = .ok (.iload_n 3, 1) := by decide +kernel
theorem dL_law_1208 : decode cL_law 1208 = .ok (.iconst 5, 1) := by decide +kernel
theorem dL_law_1209 : decode cL_law 1209 = .ok (.iadd, 1) := by decide +kernel
theorem dL_law_1210 : decode cL_law 1210 = .ok (.iaload, 1) := by decide +kernel
theorem dL_law_1211 : decode cL_law 1211 = .ok (.invokevirtual 157, 3) := by decide +kernel
theorem dL_law_1214 : decode cL_law 1214 = .ok (.aload_n 2, 1) := by decide +kernel
theorem dL_law_1215 : decode cL_law 1215 = .ok (.aload_n 0, 1) := by decide +kernel
theorem dL_law_1216 : decode cL_law 1216 = .ok (.iload_n 3, 1) := by decide +kernel
theorem dL_law_1217 : decode cL_law 1217 = .ok (.iconst 1, 1) := by decide +kernel
theorem dL_law_1218 : decode cL_law 1218 = .ok (.iadd, 1) := by decide +kernel
theorem dL_law_1219 : decode cL_law 1219 = .ok (.iaload, 1) := by decide +kernel
theorem dL_law_1220 : decode cL_law 1220 = .ok (.aload_n 0, 1) := by decide +kernel
theorem dL_law_1221 : decode cL_law 1221 = .ok (.iload_n 3, 1) := by decide +kernel
theorem dL_law_1222 : decode cL_law 1222 = .ok (.iconst 2, 1) := by decide +kernel
theorem dL_law_1223 : decode cL_law 1223 = .ok (.iadd, 1) := by decide +kernel
theorem dL_law_1224 : decode cL_law 1224 = .ok (.iaload, 1) := by decide +kernel
theorem dL_law_1225 : decode cL_law 1225 = .ok (.aload_n 0, 1) := by decide +kernel
theorem dL_law_1226 : decode cL_law 1226 = .ok (.iload_n 3, 1) := by decide +kernel
theorem dL_law_1227 : decode cL_law 1227 = .ok (.iconst 3, 1) := by decide +kernel
theorem dL_law_1228 : decode cL_law 1228 = .ok (.iadd, 1) := by decide +kernel
theorem dL_law_1229 : decode cL_law 1229 = .ok (.iaload, 1) := by decide +kernel
theorem dL_law_1230 : decode cL_law 1230 = .ok (.aload_n 0, 1) := by decide +kernel
theorem dL_law_1231 : decode cL_law 1231 = .ok (.iload_n 3, 1) := by decide +kernel
theorem dL_law_1232 : decode cL_law 1232 = .ok (.iconst 4, 1) := by decide +kernel
theorem dL_law_1233 : decode cL_law 1233 = .ok (.iadd, 1) := by decide +kernel
theorem dL_law_1234 : decode cL_law 1234 = .ok (.iaload, 1) := by decide +kernel
theorem dL_law_1235 : decode cL_law 1235 = .ok (.aload_n 0, 1) := by decide +kernel
theorem dL_law_1236 : decode cL_law 1236 = .ok (.iload_n 3, 1) := by decide +kernel
theorem dL_law_1237 : decode cL_law 1237 = .ok (.iconst 5, 1) := by decide +kernel
theorem dL_law_1238 : decode cL_law 1238 = .ok (.iadd, 1) := by decide +kernel
theorem dL_law_1239 : decode cL_law 1239 = .ok (.iaload, 1) := by decide +kernel
theorem dL_law_1240 : decode cL_law 1240 = .ok (.invokevirtual 161, 3) := by decide +kernel
theorem dL_law_1243 : decode cL_law 1243 = .ok (.if_icmp .eq 136, 3) := by decide +kernel
theorem dL_law_1246 : decode cL_law 1246 = .ok (.iconst 0, 1) := by decide +kernel
theorem dL_law_1247 : decode cL_law 1247 = .ok (.ireturn, 1) := by decide +kernel
theorem dL_law_1248 : decode cL_law 1248 = .ok (.aload_n 1, 1) := by decide +kernel
theorem dL_law_1249 : decode cL_law 1249 = .ok (.aload_n 0, 1) := by decide +kernel
theorem dL_law_1250 : decode cL_law 1250 = .ok (.iload_n 3, 1) := by decide +kernel
theorem dL_law_1251 : decode cL_law 1251 = .ok (.iconst 1, 1) := by decide +kernel
theorem dL_law_1252 : decode cL_law 1252 = .ok (.iadd, 1) := by decide +kernel
theorem dL_law_1253 : decode cL_law 1253 = .ok (.iaload, 1) := by decide +kernel
theorem dL_law_1254 : decode cL_law 1254 = .ok (.invokevirtual 162, 3) := by decide +kernel
theorem dL_law_1257 : decode cL_law 1257 = .ok (.aload_n 2, 1) := by decide +kernel
theorem dL_law_1258 : decode cL_law 1258 = .ok (.aload_n 0, 1) := by decide +kernel
theorem dL_law_1259 : decode cL_law 1259 = .ok (.iload_n 3, 1) := by decide +kernel
theorem dL_law_1260 : decode cL_law 1260 = .ok (.iconst 1, 1) := by decide +kernel
theorem dL_law_1261 : decode cL_law 1261 = .ok (.iadd, 1) := by decide +kernel
theorem dL_law_1262 : decode cL_law 1262 = .ok (.iaload, 1) := by decide +kernel
theorem dL_law_1263 : decode cL_law 1263 = .ok (.invokevirtual 165, 3) := by decide +kernel
theorem dL_law_1266 : decode cL_law 1266 = .ok (.if_icmp .eq 113, 3) := by decide +kernel
theorem dL_law_1269 : decode cL_law 1269 = .ok (.iconst 0, 1) := by decide +kernel
theorem dL_law_1270 : decode cL_law 1270 = .ok (.ireturn, 1) := by decide +kernel
theorem dL_law_1271 : decode cL_law 1271 = .ok (.aload_n 1, 1) := by decide +kernel
theorem dL_law_1272 : decode cL_law 1272 = .ok (.aload_n 0, 1) := by decide +kernel
theorem dL_law_1273 : decode cL_law 1273 = .ok (.iload_n 3, 1) := by decide +kernel
theorem dL_law_1274 : decode cL_law 1274 = .ok (.iconst 1, 1) := by decide +kernel
theorem dL_law_1275 : decode cL_law 1275 = .ok (.iadd, 1) := by decide +kernel
theorem dL_law_1276 : decode cL_law 1276 = .ok (.iaload, 1) := by decide +kernel
theorem dL_law_1277 : decode cL_law 1277 = .ok (.invokevirtual 166, 3) := by decide +kernel
theorem dL_law_1280 : decode cL_law 1280 = .ok (.aload_n 2, 1) := by decide +kernel
theorem dL_law_1281 : decode cL_law 1281 = .ok (.aload_n 0, 1) := by decide +kernel
theorem dL_law_1282 : decode cL_law 1282 = .ok (.iload_n 3, 1) := by decide +kernel
theorem dL_law_1283 : decode cL_law 1283 = .ok (.iconst 1, 1) := by decide +kernel
theorem dL_law_1284 : decode cL_law 1284 = .ok (.iadd, 1) := by decide +kernel
theorem dL_law_1285 : decode cL_law 1285 = .ok (.iaload, 1) := by decide +kernel
theorem dL_law_1286 : decode cL_law 1286 = .ok (.invokevirtual 169, 3) := by decide +kernel
theorem dL_law_1289 : decode cL_law 1289 = .ok (.if_icmp .eq 90, 3) := by decide +kernel
theorem dL_law_1292 : decode cL_law 1292 = .ok (.iconst 0, 1) := by decide +kernel
theorem dL_law_1293 : decode cL_law 1293 = .ok (.ireturn, 1) := by decide +kernel
theorem dL_law_1294 : decode cL_law 1294 = .ok (.aload_n 1, 1) := by decide +kernel
theorem dL_law_1295 : decode cL_law 1295 = .ok (.invokevirtual 170, 3) := by decide +kernel
theorem dL_law_1298 : decode cL_law 1298 = .ok (.aload_n 2, 1) := by decide +kernel
theorem dL_law_1299 : decode cL_law 1299 = .ok (.invokevirtual 173, 3) := by decide +kernel
theorem dL_law_1302 : decode cL_law 1302 = .ok (.if_icmp .eq 77, 3) := by decide +kernel
theorem dL_law_1305 : decode cL_law 1305 = .ok (.iconst 0, 1) := by decide +kernel
theorem dL_law_1306 : decode cL_law 1306 = .ok (.ireturn, 1) := by decide +kernel
theorem dL_law_1307 : decode cL_law 1307 = .ok (.aload_n 1, 1) := by decide +kernel
theorem dL_law_1308 : decode cL_law 1308 = .ok (.invokevirtual 174, 3) := by decide +kernel
theorem dL_law_1311 : decode cL_law 1311 = .ok (.aload_n 2, 1) := by decide +kernel
theorem dL_law_1312 : decode cL_law 1312 = .ok (.invokevirtual 177, 3) := by decide +kernel
theorem dL_law_1315 : decode cL_law 1315 = .ok (.if_icmp .eq 64, 3) := by decide +kernel
theorem dL_law_1318 : decode cL_law 1318 = .ok (.iconst 0, 1) := by decide +kernel
theorem dL_law_1319 : decode cL_law 1319 = .ok (.ireturn, 1) := by decide +kernel
theorem dL_law_1320 : decode cL_law 1320 = .ok (.aload_n 1, 1) := by decide +kernel
theorem dL_law_1321 : decode cL_law 1321 = .ok (.invokevirtual 178, 3) := by decide +kernel
theorem dL_law_1324 : decode cL_law 1324 = .ok (.aload_n 2, 1) := by decide +kernel
theorem dL_law_1325 : decode cL_law 1325 = .ok (.invokevirtual 181, 3) := by decide +kernel
theorem dL_law_1328 : decode cL_law 1328 = .ok (.if_icmp .eq 51, 3) := by decide +kernel
theorem dL_law_1331 : decode cL_law 1331 = .ok (.iconst 0, 1) := by decide +kernel
theorem dL_law_1332 : decode cL_law 1332 = .ok (.ireturn, 1) := by decide +kernel
theorem dL_law_1333 : decode cL_law 1333 = .ok (.aload_n 1, 1) := by decide +kernel
theorem dL_law_1334 : decode cL_law 1334 = .ok (.aload_n 0, 1) := by decide +kernel
theorem dL_law_1335 : decode cL_law 1335 = .ok (.iload_n 3, 1) := by decide +kernel
theorem dL_law_1336 : decode cL_law 1336 = .ok (.iconst 1, 1) := by decide +kernel
theorem dL_law_1337 : decode cL_law 1337 = .ok (.iadd, 1) := by decide +kernel
theorem dL_law_1338 : decode cL_law 1338 = .ok (.iaload, 1) := by decide +kernel
theorem dL_law_1339 : decode cL_law 1339 = .ok (.invokevirtual 182, 3) := by decide +kernel
theorem dL_law_1342 : decode cL_law 1342 = .ok (.aload_n 2, 1) := by decide +kernel
theorem dL_law_1343 : decode cL_law 1343 = .ok (.aload_n 0, 1) := by decide +kernel
theorem dL_law_1344 : decode cL_law 1344 = .ok (.iload_n 3, 1) := by decide +kernel
theorem dL_law_1345 : decode cL_law 1345 = .ok (.iconst 1, 1) := by decide +kernel
theorem dL_law_1346 : decode cL_law 1346 = .ok (.iadd, 1) := by decide +kernel
theorem dL_law_1347 : decode cL_law 1347 = .ok (.iaload, 1) := by decide +kernel
theorem dL_law_1348 : decode cL_law 1348 = .ok (.invokevirtual 185, 3) := by decide +kernel
theorem dL_law_1351 : decode cL_law 1351 = .ok (.if_icmp .eq 28, 3) := by decide +kernel
theorem dL_law_1354 : decode cL_law 1354 = .ok (.iconst 0, 1) := by decide +kernel
theorem dL_law_1355 : decode cL_law 1355 = .ok (.ireturn, 1) := by decide +kernel
theorem dL_law_1356 : decode cL_law 1356 = .ok (.aload_n 1, 1) := by decide +kernel
theorem dL_law_1357 : decode cL_law 1357 = .ok (.aload_n 0, 1) := by decide +kernel
theorem dL_law_1358 : decode cL_law 1358 = .ok (.iload_n 3, 1) := by decide +kernel
theorem dL_law_1359 : decode cL_law 1359 = .ok (.iconst 1, 1) := by decide +kernel
theorem dL_law_1360 : decode cL_law 1360 = .ok (.iadd, 1) := by decide +kernel
theorem dL_law_1361 : decode cL_law 1361 = .ok (.iaload, 1) := by decide +kernel
theorem dL_law_1362 : decode cL_law 1362 = .ok (.invokevirtual 186, 3) := by decide +kernel
theorem dL_law_1365 : decode cL_law 1365 = .ok (.aload_n 2, 1) := by decide +kernel
theorem dL_law_1366 : decode cL_law 1366 = .ok (.aload_n 0, 1) := by decide +kernel
theorem dL_law_1367 : decode cL_law 1367 = .ok (.iload_n 3, 1) := by decide +kernel
theorem dL_law_1368 : decode cL_law 1368 = .ok (.iconst 1, 1) := by decide +kernel
theorem dL_law_1369 : decode cL_law 1369 = .ok (.iadd, 1) := by decide +kernel
theorem dL_law_1370 : decode cL_law 1370 = .ok (.iaload, 1) := by decide +kernel
theorem dL_law_1371 : decode cL_law 1371 = .ok (.invokevirtual 189, 3) := by decide +kernel
theorem dL_law_1374 : decode cL_law 1374 = .ok (.if_icmp .eq 5, 3) := by decide +kernel
theorem dL_law_1377 : decode cL_law 1377 = .ok (.iconst 0, 1) := by decide +kernel
theorem dL_law_1378 : decode cL_law 1378 = .ok (.ireturn, 1) := by decide +kernel
theorem dL_law_1379 : decode cL_law 1379 = .ok (.iinc 3 6, 3) := by decide +kernel
theorem dL_law_1382 : decode cL_law 1382 = .ok (.goto (-1364), 3) := by decide +kernel
theorem dL_law_1385 : decode cL_law 1385 = .ok (.iconst 1, 1) := by decide +kernel
theorem dL_law_1386 : decode cL_law 1386 = .ok (.ireturn, 1) := by decide +kernel
end
section
def imax (a b : Int32) : Int32 := if a < b then b else a
def imin (a b : Int32) : Int32 := if b < a then b else a
def slen : List Nat := [4, 6, 6, 4, 5, 6, 7, 4, 6, 5, 6, 4, 3, 4, 6, 7, 6]
def sbyt : List (List Int32) := [[98, 101, 110, 116], [104, 117, 110, 103, 101, 114], [119, 101, 105, 103, 104, 116], [108, 105, 110, 101], [116, 97, 115, 116, 101], [108, 105, 99, 107, 101, 100], [112, 114, 101, 115, 115, 101, 100], [112, 97, 105, 100], [99, 111, 112, 105, 101, 100], [103, 114, 111, 119, 110], [104, 105, 100, 100, 101, 110], [102, 111, 111, 100], [112, 117, 116], [108, 105, 107, 101], [98, 105, 116, 116, 101, 114], [112, 117, 100, 100, 105, 110, 103], [102, 114, 105, 101, 110, 100]]
def stab : List (String × Nat × String × Nat) := [("PeaSpoons$Text", 112, "put", 12), ("PeaSpoons$Text", 118, "like", 13), ("PeaSpoons$Text", 123, "bitter", 14), ("PeaSpoons$Text", 41, "food", 11), ("PeaSpoons$Text", 50, "pudding", 15), ("PeaSpoons$Text", 55, "friend", 16), ("PeaSpoons$Text", 60, "bent", 0), ("PeaSpoons$Text", 62, "hunger", 1), ("PeaSpoons$Text", 64, "weight", 2), ("PeaSpoons$Text", 66, "line", 3), ("PeaSpoons$Text", 72, "licked", 5), ("PeaSpoons$Text", 74, "pressed", 6), ("PeaSpoons$Text", 76, "paid", 7), ("PeaSpoons$Text", 78, "copied", 8), ("PeaSpoons$Text", 80, "grown", 9), ("PeaSpoons$Text", 82, "hidden", 10), ("PeaSpoons$Text", 84, "taste", 4), ("PeaSpoonsModel", 213, "taste", 4), ("PeaSpoonsModel", 215, "licked", 5), ("PeaSpoonsModel", 217, "pressed", 6), ("PeaSpoonsModel", 219, "paid", 7), ("PeaSpoonsModel", 221, "copied", 8), ("PeaSpoonsModel", 223, "grown", 9), ("PeaSpoonsModel", 225, "hidden", 10), ("PeaSpoonsModel", 229, "like", 13), ("PeaSpoonsModel", 236, "bitter", 14), ("PeaSpoonsModel", 238, "put", 12), ("PeaSpoonsModel", 240, "food", 11), ("PeaSpoonsModel", 245, "bent", 0), ("PeaSpoonsModel", 247, "hunger", 1), ("PeaSpoonsModel", 249, "weight", 2), ("PeaSpoonsModel", 251, "line", 3), ("PeaSpoonsModel", 253, "pudding", 15), ("PeaSpoonsModel", 255, "friend", 16)]
/-! the layer: a method's walk over a world whose cells are numbered and whose references never change: all that a state holds is one function of numbers -/
def TB : List Cond := lw_tbl.filter goodWord
theorem TB_mem {w : Cond} (h : w ∈ lw_tbl) (g : goodWord w = true) : w ∈ TB := List.mem_filter.mpr ⟨h, g⟩
theorem TB_sub {w : Cond} (h : w ∈ TB) : w ∈ lw_tbl := (List.mem_filter.mp h).1
theorem TB_good {ws : List Cond} (h : ∀ w ∈ ws, w ∈ TB) : GoodIn TB ws := fun w hw => ⟨h w hw, good_of_word (List.mem_filter.mp (h w hw)).2⟩
abbrev GG : Type := Nat → Nat → Int32
abbrev Gam : Type := (Nat → Nat) × va_G × ClassId × ClassId × Nat × (Nat → Nat) × (Nat → Nat)
abbrev gad (Γ : Gam) : Nat → Nat := Γ.1
abbrev gD (Γ : Gam) : va_G := Γ.2.1
abbrev gI (Γ : Gam) : ClassId := Γ.2.2.1
abbrev gS (Γ : Gam) : ClassId := Γ.2.2.2.1
abbrev gka (Γ : Gam) : Nat := Γ.2.2.2.2.1
abbrev gK (Γ : Gam) : Nat → Nat := Γ.2.2.2.2.2.1
abbrev gV (Γ : Gam) : Nat → Nat := Γ.2.2.2.2.2.2
def up (G : GG) (c k : Nat) (v : Int32) : GG := fun c' k' => if c' = c ∧ k' = k then v else G c' k'
def upc (G : GG) (c : Nat) (f : Nat → Int32) : GG := fun c' => if c' = c then f else G c'
theorem up_upc (G : GG) (c k : Nat) (v : Int32) : upc G c (upd (G c) k v) = up G c k v := by
  funext c' k'
  by_cases h : c' = c
  · subst h
    by_cases h2 : k' = k <;> simp [upc, up, upd, h2]
  · simp [upc, up, h]
def layC : List (Nat × Nat) := [(0, 14), (7, 10), (7, 10), (7, 10), (1, 4), (7, 10), (7, 10), (7, 10), (7, 35), (7, 10)]
def layL : List (Nat × Nat) := layC ++ layC ++ layC ++ [(4, 7), (3, 8), (7, 120), (7, 121), (7, 121), (7, 121), (7, 121), (8, 4), (2, 3), (7, 40), (2, 3), (7, 40), (2, 3), (7, 40), (2, 3), (7, 40), (7, 7), (5, 15), (7, 115), (7, 115), (7, 115), (7, 7), (7, 120), (7, 4), (7, 4), (7, 160)]
def lay (c : Nat) : Nat × Nat := layL.getD c (9, 0)
def ch (i j : Nat) : Nat := 10 * i + j
def rfOf (c k : Nat) : Option Nat := match (lay c).1 with
  | 0 => match k with
    | 0 => some (c + 1)
    | 1 => some (c + 2)
    | 2 => some (c + 3)
    | 9 => some (c + 4)
    | 11 => some (c + 8)
    | 13 => some (c + 9)
    | _ => none
  | 1 => match k with
    | 0 => some (c + 1)
    | 1 => some (c + 2)
    | 2 => some (c + 3)
    | _ => none
  | 2 => match k with
    | 0 => some (c + 1)
    | _ => none
  | 3 => match k with
    | 0 => some 32
    | 2 => some 33
    | 3 => some 34
    | 4 => some 35
    | 5 => some 36
    | _ => none
  | 4 => match k with
    | 0 => some 0
    | 1 => some 10
    | 2 => some 20
    | 4 => some 31
    | 5 => some 37
    | 6 => some 46
    | _ => none
  | 5 => match k with
    | 0 => some 48
    | 1 => some 49
    | 2 => some 50
    | 4 => some 51
    | 5 => some 52
    | 12 => some 53
    | 13 => some 54
    | 14 => some 55
    | _ => none
  | _ => none
def fvl (Γ : Gam) (g : Nat → Int32) (c k : Nat) : Value := match rfOf c k with
  | some c' => .ref (gad Γ c')
  | none => .int (g k)
def shq (Γ : Gam) (g : Nat → Int32) (c : Nat) (z : Nat × Nat) : va_E := match z.1 with
  | 7 => .inl (gI Γ, z.2, .inl g)
  | 8 => .inl (gS Γ, z.2, .inr (.inr (.inr (.inr (fun j => some (gad Γ (38 + 2 * j)))))))
  | ci => .inr (ci, (List.range z.2).map (fvl Γ g c))
def shp (Γ : Gam) (g : Nat → Int32) (c : Nat) : va_E := shq Γ g c (lay c)
def cw (Γ : Gam) (G : GG) : va_W := (List.range 56).map (fun c => (gad Γ c, shp Γ (G c) c))
theorem cw_at {Γ : Gam} {G : GG} {c : Nat} (h : c < 56) : (cw Γ G)[c]? = some (gad Γ c, shp Γ (G c) c) := by simp [cw, h]
theorem cw_set {Γ : Gam} {G : GG} {c : Nat} (h : c < 56) (f : Nat → Int32) : (cw Γ G).set c (gad Γ c, shp Γ f c) = cw Γ (upc G c f) := by
  apply List.ext_getElem?
  intro j
  rw [List.getElem?_set]
  by_cases hj : c = j
  · subst hj
    rw [if_pos rfl, cw_at h]
    simp [cw, h, upc]
  · rw [if_neg hj]
    by_cases h2 : j < 56
    · rw [cw_at h2, cw_at h2]
      simp [upc, Ne.symm hj]
    · simp [cw, h2]
theorem lay_lt {c : Nat} {z : Nat × Nat} (h : lay c = z) (hz : z.1 ≠ 9) : c < 56 := by
  rcases Nat.lt_or_ge c 56 with q | q
  · exact q
  · refine absurd ?_ hz
    rw [← h]
    show (layL.getD c (9, 0)).1 = 9
    rw [List.getD_eq_getElem?_getD, List.getElem?_eq_none (by simpa [layL, layC] using q)]
    rfl
def gA (Γ : Gam) : Nat → Prop := fun q => ∃ c, c < 56 ∧ q = gad Γ c
def gInj (Γ : Gam) : Prop := ∀ i j : Nat, i < 56 → j < 56 → gad Γ i = gad Γ j → i = j
theorem cw_D {Γ : Gam} {G : GG} {A : Nat → Prop} (hi : gInj Γ) (hA : ∀ c, c < 56 → A (gad Γ c)) : va_D A (cw Γ G) := by
  have key : ∀ (k : Nat) (q : Nat × va_E), (cw Γ G)[k]? = some q → k < 56 ∧ q.1 = gad Γ k := by
    intro k q h
    by_cases hk : k < 56
    · rw [cw_at hk] at h
      cases h
      exact ⟨hk, rfl⟩
    · simp [cw, hk] at h
  refine ⟨fun i j p q h1 h2 e => ?_, fun k q h => ?_⟩
  · obtain ⟨a1, a2⟩ := key i p h1
    obtain ⟨b1, b2⟩ := key j q h2
    exact hi i j a1 b1 (by rw [← a2, ← b2]; exact e)
  · obtain ⟨a1, a2⟩ := key k q h
    rw [a2]
    exact hA k a1
abbrev tysG (Γ : Gam) : List (ClassId × FieldType) := [(gI Γ, .int), (gS Γ, .object "PeaSpoons$Sheet")]
def kab (j : Nat) : Int32 := if j = 0 then -1 else if j = 3 then 2 else if j = 5 then 4 else 0
/-- what the machine's constants are: KIND_ABOVE, the texts, two statics of the JDK -/
def St (Γ : Gam) (A : Nat → Prop) (U : State) (H : Heap) : Prop :=
  va_Z "PeaSpoons" "KIND_ABOVE" "[I" (.ref (gka Γ)) A U H ∧ va_T .int (gka Γ) 7 (fun j => .int (kab j)) A U H ∧
  va_Z "java/lang/String" "COMPACT_STRINGS" "Z" (.int 1) A U H ∧ va_Zq "jdk/internal/util/Preconditions" "SIOOBE_FORMATTER" "Ljava/util/function/BiFunction;" A U H ∧
  vk_S 17 slen sbyt (gK Γ) (gV Γ) A U H ∧ ∀ q ∈ stab, vk_R q.1 q.2.1 q.2.2.1 (gK Γ q.2.2.2) U
theorem St.to {Γ : Gam} {A : Nat → Prop} {s U : State} {H : Heap} {locs : List Loc} (h : St Γ A s s.heap) (hW : s.WarmedH U.vm) (hS : va_S A s.heap H locs) : St Γ A U H := by
  obtain ⟨h1, h2, h3, h4, h5, h6⟩ := h
  have ha := hW.alike
  exact ⟨(h1.moved ha).kept hS.2.1, (h2.moved ha).kept hS.2.1, (h3.moved ha).kept hS.2.1, (h4.moved ha).kept hS.2.1, (h5.moved ha).kept hS.2.1, fun q hq => (h6 q hq).warm hW⟩
theorem St.narrow {Γ : Gam} {A B : Nat → Prop} {U : State} {H : Heap} (h : St Γ A U H) (hAB : ∀ q, B q → A q) : St Γ B U H := by
  obtain ⟨h1, h2, h3, h4, h5, h6⟩ := h
  exact ⟨h1.narrow hAB, h2.narrow hAB, h3.narrow hAB, h4.narrow hAB, h5.narrow hAB, h6⟩
theorem St.blind {Γ : Gam} {A : Nat → Prop} {U : State} {g : JFrame} {mk : MethodId} {a : Array Value} (h : St Γ A U U.heap) : St Γ A (U.calling g mk a) (U.calling g mk a).heap := by
  obtain ⟨h1, h2, h3, h4, h5, h6⟩ := h
  exact ⟨va_Z.moved (u := U) (U := U.calling g mk a) (Vm.Alike.refl U.vm) h1, va_T.moved (u := U) (U := U.calling g mk a) (Vm.Alike.refl U.vm) h2, va_Z.moved (u := U) (U := U.calling g mk a) (Vm.Alike.refl U.vm) h3, va_Zq.moved (u := U) (U := U.calling g mk a) (Vm.Alike.refl U.vm) h4, vk_S.moved (u := U) (U := U.calling g mk a) (Vm.Alike.refl U.vm) h5, fun q hq => vk_R.same (u := U) (U := U.calling g mk a) rfl (h6 q hq)⟩
/-- a world: the cells hold G, the classes are known, the addresses are apart -/
def Wd (Γ : Gam) (G : GG) (U : State) : Prop := va_P (gD Γ) vwCl (cw Γ G) U.heap ∧ va_K (gD Γ) vwCl (tysG Γ) U ∧ gInj Γ ∧ St Γ (gA Γ) U U.heap
def SpP (av : List Value) (Γ : Gam) (G : GG) : Array Value → State → Prop := fun v U => v = av.toArray ∧ Wd Γ G U
def SpQ (Γ : Gam) (post : Option Value → GG → Prop) : Array Value → State → Outcome → State → Prop := fun _ st oc t => (∃ (r : Option Value) (G : GG), oc = .returned r ∧ post r G ∧ va_P (gD Γ) vwCl (cw Γ G) t.heap) ∧ va_F (gA Γ) st t
abbrev rmOf (fr lo : Nat) : Room := { frames := fr, cells := 0, slots := 0, locals := lo }
/-- a contract -/
def Sp (l : Launch) (y : MethodName) (cc : ByteArray) (maxL : Nat) (ret : Option FieldType) (fr lo : Nat) (av : List Value) (Γ : Gam) (G : GG) (post : Option Value → GG → Prop) : Prop :=
  Met l y (.code y cc maxL ret :: TB) (rmOf fr lo) (SpP av Γ G) (SpQ Γ post) 0 0 (gA Γ)
theorem Sp.blind {av : List Value} {Γ : Gam} {G : GG} : FrameBlind (SpP av Γ G) := fun a U g mk q => by
  obtain ⟨q0, qP, qK, qi, qS⟩ := q
  exact ⟨q0, qP, va_K.moved (u := U) (U := U.calling g mk a) (Vm.Alike.refl U.vm) qK, qi, qS.blind⟩
theorem Sp.weaken {l : Launch} {y : MethodName} {cc : ByteArray} {maxL : Nat} {ret : Option FieldType} {fr lo : Nat} {av : List Value} {Γ : Gam} {G : GG} {post post' : Option Value → GG → Prop} (h : Sp l y cc maxL ret fr lo av Γ G post) (hp : ∀ r G', post r G' → post' r G') : Sp l y cc maxL ret fr lo av Γ G post' := by
  intro p e ha hc hk s m args below hf h1 h2 h3
  obtain ⟨t, o, a1, a2, a3, ⟨⟨r, G', b1, b2, b3⟩, b4⟩, b5⟩ := h p e ha hc hk s m args below hf h1 h2 h3
  exact ⟨t, o, a1, a2, a3, ⟨⟨r, G', b1, hp r G' b2, b3⟩, b4⟩, b5⟩
abbrev XT : Type := Program × Launch × Env × Room × State × MethodId × Array Value × List Frame × Method × Code × (State → Prop) × (Nat → Prop) × Nat × Nat × Nat
def LH (la : Array Slot) (nL : Nat) (ls : List (Option Value)) : Prop := (la.size = nL ∧ ls.length = nL) ∧ lv_wf la ∧ ∀ (i : Nat) (v : Value), ls[i]? = some (some v) → la[i]? = some (.val v)
def WP (X : XT) (Γ : Gam) (pc : Nat) (ls : List (Option Value)) (st : List Value) (G : GG) : Prop := match X with
  | (p, l, e, R, s, m, args, below, meth, c, Q, A, nL, cs, sl) => ∀ (H : Heap) (locs : List Loc) (la : Array Slot), va_P (gD Γ) vwCl (cw Γ G) H → va_S A s.heap H locs → LH la nL ls → W p l e R s m args below meth c H locs cs sl Q (F0 m pc la st)
def OKX (X : XT) (Γ : Gam) (cc : ByteArray) (own : String) (F L : Nat) : Prop := match X with
  | (p, _, _, R, s, m, args, _, _, c, _, A, nL, cs, sl) => p.tables.exec = Jvm.exec ∧ c.code = cc ∧ c.maxLocals = nL ∧ s.vm.findClass own = some m.cls ∧ (∀ w ∈ TB, w.before args s = true) ∧ va_K (gD Γ) vwCl (tysG Γ) s ∧ gInj Γ ∧ (∀ c, c < 56 → A (gad Γ c)) ∧ St Γ A s s.heap ∧ R.frames = F ∧ R.locals = L ∧ cs ≤ R.cells ∧ sl ≤ R.slots
def RX (X : XT) (Γ : Gam) (ret : Option FieldType) (post : Option Value → GG → Prop) : Prop := match X with
  | (_, _, _, _, s, _, args, below, meth, _, Q, A, _, cs, sl) => meth.sig.returnType = ret ∧ meth.locks = false ∧ A = gA Γ ∧ Q = MQ below (SpQ Γ post) args s cs sl (gA Γ)
def ents : List Value → Nat → List (Option Value)
  | v :: vs, n + 1 => some v :: ents vs n
  | _, n => List.replicate n none
theorem ents_at : ∀ (vs : List Value) (n i : Nat) (v : Value), (ents vs n)[i]? = some (some v) → vs[i]? = some v
  | [], n, i, v, h => by
    simp only [ents] at h
    rw [List.getElem?_replicate] at h
    split at h <;> simp at h
  | w :: vs, 0, i, v, h => by simp [ents] at h
  | w :: vs, n + 1, 0, v, h => by
    simp [ents] at h
    simp [h]
  | w :: vs, n + 1, i + 1, v, h => by
    simp only [ents, List.getElem?_cons_succ] at h
    rw [List.getElem?_cons_succ]
    exact ents_at vs n i v h
def no2 (vs : List Value) : Bool := vs.all fun v => v.category == 1
theorem lvargs_at : ∀ (vs : List Value) (b : Nat), no2 vs = true → ∀ (i : Nat) (v : Value), vs[i]? = some v → (b + i, v) ∈ lv_args b vs
  | [], b, _, i, v, h => by simp at h
  | w :: vs, b, hn, i, v, h => by
    simp only [no2, List.all_cons, Bool.and_eq_true, beq_iff_eq] at hn
    have hc : ¬ w.category = 2 := by omega
    cases i with
    | zero =>
      simp at h
      subst h
      simp [lv_args]
    | succ i =>
      rw [List.getElem?_cons_succ] at h
      have := lvargs_at vs (b + 1) hn.2 i v h
      simp only [lv_args, if_neg hc]
      rw [show b + (i + 1) = b + 1 + i by omega]
      exact List.mem_cons_of_mem _ this
theorem lgsl_len : ∀ (vs : List Value), no2 vs = true → (lg_sl vs).length = vs.length
  | [], _ => rfl
  | w :: vs, hn => by
    simp only [no2, List.all_cons, Bool.and_eq_true, beq_iff_eq] at hn
    have hc : ¬ w.category = 2 := by omega
    have := lgsl_len vs hn.2
    simp only [lg_sl, List.flatMap_cons, if_neg hc, List.length_append, List.length_cons, List.length_nil] at this ⊢
    omega
/-- a method's start -/
theorem ents_len : ∀ (vs : List Value) (n : Nat), vs.length ≤ n → (ents vs n).length = n
  | [], n, _ => by simp [ents]
  | w :: vs, 0, h => by simp at h
  | w :: vs, n + 1, h => by
    simp only [List.length_cons] at h
    simp only [ents, List.length_cons, ents_len vs n (by omega)]
theorem Sp_of {l : Launch} {y : MethodName} {cc : ByteArray} {maxL : Nat} {ret : Option FieldType} {fr lo : Nat} {av : List Value} {Γ : Gam} {G : GG} {post : Option Value → GG → Prop} {own : String} (ho : y.cls = own) (hy : plainFor y = true) (hav : no2 av = true) (hlen : av.length ≤ maxL)
    (body : ∀ X : XT, OKX X Γ cc own fr lo → RX X Γ ret post → WP X Γ 0 (ents av maxL) [] G) : Sp l y cc maxL ret fr lo av Γ G post := by
  subst ho
  refine va_MetF (cc := cc) (maxL := maxL) (ret := ret) hy rfl ?_
  intro p e s m args below meth c s₁ B hml hv
  obtain ⟨rfl, hP, hK, hi, hSt⟩ := hv
  have hts := atoms_spec (ws := .code y cc maxL ret :: TB) B.pre
  have h := body (p, l, e, rmOf fr lo, s, m, av.toArray, below, meth, c, MQ below (SpQ Γ post) av.toArray s 0 0 (gA Γ), gA Γ, maxL, 0, 0)
    ⟨B.exec, B.bytes, hml, findClass_of_methodNamed B.named, fun w hw => hts w (List.mem_cons_of_mem _ hw), hK, hi, fun c hc => ⟨c, hc, rfl⟩, hSt, rfl, rfl, Nat.le_refl _, Nat.le_refl _⟩
    ⟨B.returns, B.notSynchronized, rfl, rfl⟩
  rw [lg_entry_eq]
  have hl := lv_entry av (n := maxL) (by rw [lgsl_len av hav]; exact hlen)
  exact h s.heap [] _ hP va_S.rf ⟨⟨hl.1, ents_len av maxL hlen⟩, hl.2.1, fun i v hi => hl.2.2 (i, v) (by
    have := lvargs_at av 0 hav i v (ents_at av maxL i v hi)
    rwa [Nat.zero_add] at this)⟩

theorem r_iconst {X : XT} {Γ : Gam} {cc : ByteArray} {own : String} {F L : Nat} (hX : OKX X Γ cc own F L) {pc q : Nat} {ls : List (Option Value)} {st : List Value} {G : GG} {n : Int} {v : Int32} (d : decode cc pc = .ok (.iconst n, 1)) (hq : pc + 1 = q) (hv : Int32.ofInt n = v) (k : WP X Γ q ls (.int v :: st) G) : WP X Γ pc ls st G := by
  obtain ⟨p, l, e, R, s, m, args, below, meth, c, Q, A, nL, cs, sl⟩ := X
  obtain ⟨hx, hb, hml, hown, hts, hK, hinj, hA, hSt, hF, hL, hcs, hsl⟩ := hX
  subst hq
  intro H locs la hP hS hl
  exact lv_iconst hx hb d hv (k H locs la hP hS hl)

theorem r_bipush {X : XT} {Γ : Gam} {cc : ByteArray} {own : String} {F L : Nat} (hX : OKX X Γ cc own F L) {pc q : Nat} {ls : List (Option Value)} {st : List Value} {G : GG} {n : Int} {v : Int32} (d : decode cc pc = .ok (.bipush n, 2)) (hq : pc + 2 = q) (hv : (Int8.ofInt n).toInt32 = v) (k : WP X Γ q ls (.int v :: st) G) : WP X Γ pc ls st G := by
  obtain ⟨p, l, e, R, s, m, args, below, meth, c, Q, A, nL, cs, sl⟩ := X
  obtain ⟨hx, hb, hml, hown, hts, hK, hinj, hA, hSt, hF, hL, hcs, hsl⟩ := hX
  subst hq
  intro H locs la hP hS hl
  exact lv_bipush hx hb d hv (k H locs la hP hS hl)

theorem r_sipush {X : XT} {Γ : Gam} {cc : ByteArray} {own : String} {F L : Nat} (hX : OKX X Γ cc own F L) {pc q : Nat} {ls : List (Option Value)} {st : List Value} {G : GG} {n : Int} {v : Int32} (d : decode cc pc = .ok (.sipush n, 3)) (hq : pc + 3 = q) (hv : (Int16.ofInt n).toInt32 = v) (k : WP X Γ q ls (.int v :: st) G) : WP X Γ pc ls st G := by
  obtain ⟨p, l, e, R, s, m, args, below, meth, c, Q, A, nL, cs, sl⟩ := X
  obtain ⟨hx, hb, hml, hown, hts, hK, hinj, hA, hSt, hF, hL, hcs, hsl⟩ := hX
  subst hq
  intro H locs la hP hS hl
  exact lv_sipush hx hb d hv (k H locs la hP hS hl)

theorem r_lconst {X : XT} {Γ : Gam} {cc : ByteArray} {own : String} {F L : Nat} (hX : OKX X Γ cc own F L) {pc q : Nat} {ls : List (Option Value)} {st : List Value} {G : GG} {n : Fin 2} {v : Int64} (d : decode cc pc = .ok (.lconst n, 1)) (hq : pc + 1 = q) (hv : Int64.ofNat (n : Nat) = v) (k : WP X Γ q ls (.long v :: st) G) : WP X Γ pc ls st G := by
  obtain ⟨p, l, e, R, s, m, args, below, meth, c, Q, A, nL, cs, sl⟩ := X
  obtain ⟨hx, hb, hml, hown, hts, hK, hinj, hA, hSt, hF, hL, hcs, hsl⟩ := hX
  subst hq
  intro H locs la hP hS hl
  exact lv_lconst hx hb d hv (k H locs la hP hS hl)

theorem r_ldc {X : XT} {Γ : Gam} {cc : ByteArray} {own : String} {F L : Nat} (hX : OKX X Γ cc own F L) {pc q : Nat} {ls : List (Option Value)} {st : List Value} {G : GG} {index : Nat} {v : Int32} (d : decode cc pc = .ok (.ldc index, 2)) (hq : pc + 2 = q) (hc : Cond.constant own index v ∈ TB) (k : WP X Γ q ls (.int v :: st) G) : WP X Γ pc ls st G := by
  obtain ⟨p, l, e, R, s, m, args, below, meth, c, Q, A, nL, cs, sl⟩ := X
  obtain ⟨hx, hb, hml, hown, hts, hK, hinj, hA, hSt, hF, hL, hcs, hsl⟩ := hX
  subst hq
  intro H locs la hP hS hl
  exact lv_ldc hx hb hown (hts _ hc) d (k H locs la hP hS hl)

theorem r_ldc_w {X : XT} {Γ : Gam} {cc : ByteArray} {own : String} {F L : Nat} (hX : OKX X Γ cc own F L) {pc q : Nat} {ls : List (Option Value)} {st : List Value} {G : GG} {index : Nat} {v : Int32} (d : decode cc pc = .ok (.ldc_w index, 3)) (hq : pc + 3 = q) (hc : Cond.constant own index v ∈ TB) (k : WP X Γ q ls (.int v :: st) G) : WP X Γ pc ls st G := by
  obtain ⟨p, l, e, R, s, m, args, below, meth, c, Q, A, nL, cs, sl⟩ := X
  obtain ⟨hx, hb, hml, hown, hts, hK, hinj, hA, hSt, hF, hL, hcs, hsl⟩ := hX
  subst hq
  intro H locs la hP hS hl
  exact lv_ldcw hx hb hown (hts _ hc) d (k H locs la hP hS hl)

theorem r_ldc2 {X : XT} {Γ : Gam} {cc : ByteArray} {own : String} {F L : Nat} (hX : OKX X Γ cc own F L) {pc q : Nat} {ls : List (Option Value)} {st : List Value} {G : GG} {index : Nat} {v : Int64} (d : decode cc pc = .ok (.ldc2_w index, 3)) (hq : pc + 3 = q) (hc : Cond.constantLong own index v ∈ TB) (k : WP X Γ q ls (.long v :: st) G) : WP X Γ pc ls st G := by
  obtain ⟨p, l, e, R, s, m, args, below, meth, c, Q, A, nL, cs, sl⟩ := X
  obtain ⟨hx, hb, hml, hown, hts, hK, hinj, hA, hSt, hF, hL, hcs, hsl⟩ := hX
  subst hq
  intro H locs la hP hS hl
  exact lv_ldc2 hx hb hown (hts _ hc) d (k H locs la hP hS hl)

theorem r_iadd {X : XT} {Γ : Gam} {cc : ByteArray} {own : String} {F L : Nat} (hX : OKX X Γ cc own F L) {pc q : Nat} {ls : List (Option Value)} {st : List Value} {G : GG} {a b : Int32} (d : decode cc pc = .ok (.iadd, 1)) (hq : pc + 1 = q)  (k : WP X Γ q ls (.int (a + b) :: st) G) : WP X Γ pc ls (.int b :: .int a :: st) G := by
  obtain ⟨p, l, e, R, s, m, args, below, meth, c, Q, A, nL, cs, sl⟩ := X
  obtain ⟨hx, hb, hml, hown, hts, hK, hinj, hA, hSt, hF, hL, hcs, hsl⟩ := hX
  subst hq
  intro H locs la hP hS hl
  exact lv_iadd hx hb d (k H locs la hP hS hl)

theorem r_isub {X : XT} {Γ : Gam} {cc : ByteArray} {own : String} {F L : Nat} (hX : OKX X Γ cc own F L) {pc q : Nat} {ls : List (Option Value)} {st : List Value} {G : GG} {a b : Int32} (d : decode cc pc = .ok (.isub, 1)) (hq : pc + 1 = q)  (k : WP X Γ q ls (.int (a - b) :: st) G) : WP X Γ pc ls (.int b :: .int a :: st) G := by
  obtain ⟨p, l, e, R, s, m, args, below, meth, c, Q, A, nL, cs, sl⟩ := X
  obtain ⟨hx, hb, hml, hown, hts, hK, hinj, hA, hSt, hF, hL, hcs, hsl⟩ := hX
  subst hq
  intro H locs la hP hS hl
  exact lv_isub hx hb d (k H locs la hP hS hl)

theorem r_imul {X : XT} {Γ : Gam} {cc : ByteArray} {own : String} {F L : Nat} (hX : OKX X Γ cc own F L) {pc q : Nat} {ls : List (Option Value)} {st : List Value} {G : GG} {a b : Int32} (d : decode cc pc = .ok (.imul, 1)) (hq : pc + 1 = q)  (k : WP X Γ q ls (.int (a * b) :: st) G) : WP X Γ pc ls (.int b :: .int a :: st) G := by
  obtain ⟨p, l, e, R, s, m, args, below, meth, c, Q, A, nL, cs, sl⟩ := X
  obtain ⟨hx, hb, hml, hown, hts, hK, hinj, hA, hSt, hF, hL, hcs, hsl⟩ := hX
  subst hq
  intro H locs la hP hS hl
  exact lv_imul hx hb d (k H locs la hP hS hl)

theorem r_iand {X : XT} {Γ : Gam} {cc : ByteArray} {own : String} {F L : Nat} (hX : OKX X Γ cc own F L) {pc q : Nat} {ls : List (Option Value)} {st : List Value} {G : GG} {a b : Int32} (d : decode cc pc = .ok (.iand, 1)) (hq : pc + 1 = q)  (k : WP X Γ q ls (.int (a &&& b) :: st) G) : WP X Γ pc ls (.int b :: .int a :: st) G := by
  obtain ⟨p, l, e, R, s, m, args, below, meth, c, Q, A, nL, cs, sl⟩ := X
  obtain ⟨hx, hb, hml, hown, hts, hK, hinj, hA, hSt, hF, hL, hcs, hsl⟩ := hX
  subst hq
  intro H locs la hP hS hl
  exact lv_iand hx hb d (k H locs la hP hS hl)

theorem r_ior {X : XT} {Γ : Gam} {cc : ByteArray} {own : String} {F L : Nat} (hX : OKX X Γ cc own F L) {pc q : Nat} {ls : List (Option Value)} {st : List Value} {G : GG} {a b : Int32} (d : decode cc pc = .ok (.ior, 1)) (hq : pc + 1 = q)  (k : WP X Γ q ls (.int (a ||| b) :: st) G) : WP X Γ pc ls (.int b :: .int a :: st) G := by
  obtain ⟨p, l, e, R, s, m, args, below, meth, c, Q, A, nL, cs, sl⟩ := X
  obtain ⟨hx, hb, hml, hown, hts, hK, hinj, hA, hSt, hF, hL, hcs, hsl⟩ := hX
  subst hq
  intro H locs la hP hS hl
  exact lv_ior hx hb d (k H locs la hP hS hl)

theorem r_ixor {X : XT} {Γ : Gam} {cc : ByteArray} {own : String} {F L : Nat} (hX : OKX X Γ cc own F L) {pc q : Nat} {ls : List (Option Value)} {st : List Value} {G : GG} {a b : Int32} (d : decode cc pc = .ok (.ixor, 1)) (hq : pc + 1 = q)  (k : WP X Γ q ls (.int (a ^^^ b) :: st) G) : WP X Γ pc ls (.int b :: .int a :: st) G := by
  obtain ⟨p, l, e, R, s, m, args, below, meth, c, Q, A, nL, cs, sl⟩ := X
  obtain ⟨hx, hb, hml, hown, hts, hK, hinj, hA, hSt, hF, hL, hcs, hsl⟩ := hX
  subst hq
  intro H locs la hP hS hl
  exact lv_ixor hx hb d (k H locs la hP hS hl)

theorem r_ishl {X : XT} {Γ : Gam} {cc : ByteArray} {own : String} {F L : Nat} (hX : OKX X Γ cc own F L) {pc q : Nat} {ls : List (Option Value)} {st : List Value} {G : GG} {a b : Int32} (d : decode cc pc = .ok (.ishl, 1)) (hq : pc + 1 = q)  (k : WP X Γ q ls (.int (a <<< (b &&& 31)) :: st) G) : WP X Γ pc ls (.int b :: .int a :: st) G := by
  obtain ⟨p, l, e, R, s, m, args, below, meth, c, Q, A, nL, cs, sl⟩ := X
  obtain ⟨hx, hb, hml, hown, hts, hK, hinj, hA, hSt, hF, hL, hcs, hsl⟩ := hX
  subst hq
  intro H locs la hP hS hl
  exact lv_ishl hx hb d (k H locs la hP hS hl)

theorem r_ishr {X : XT} {Γ : Gam} {cc : ByteArray} {own : String} {F L : Nat} (hX : OKX X Γ cc own F L) {pc q : Nat} {ls : List (Option Value)} {st : List Value} {G : GG} {a b : Int32} (d : decode cc pc = .ok (.ishr, 1)) (hq : pc + 1 = q)  (k : WP X Γ q ls (.int (a >>> (b &&& 31)) :: st) G) : WP X Γ pc ls (.int b :: .int a :: st) G := by
  obtain ⟨p, l, e, R, s, m, args, below, meth, c, Q, A, nL, cs, sl⟩ := X
  obtain ⟨hx, hb, hml, hown, hts, hK, hinj, hA, hSt, hF, hL, hcs, hsl⟩ := hX
  subst hq
  intro H locs la hP hS hl
  exact lv_ishr hx hb d (k H locs la hP hS hl)

theorem r_iushr {X : XT} {Γ : Gam} {cc : ByteArray} {own : String} {F L : Nat} (hX : OKX X Γ cc own F L) {pc q : Nat} {ls : List (Option Value)} {st : List Value} {G : GG} {a b : Int32} (d : decode cc pc = .ok (.iushr, 1)) (hq : pc + 1 = q)  (k : WP X Γ q ls (.int ((a.toUInt32 >>> (b.toUInt32 &&& Int32.toUInt32 31)).toInt32) :: st) G) : WP X Γ pc ls (.int b :: .int a :: st) G := by
  obtain ⟨p, l, e, R, s, m, args, below, meth, c, Q, A, nL, cs, sl⟩ := X
  obtain ⟨hx, hb, hml, hown, hts, hK, hinj, hA, hSt, hF, hL, hcs, hsl⟩ := hX
  subst hq
  intro H locs la hP hS hl
  exact lv_iushr hx hb d rfl (k H locs la hP hS hl)

theorem r_idiv {X : XT} {Γ : Gam} {cc : ByteArray} {own : String} {F L : Nat} (hX : OKX X Γ cc own F L) {pc q : Nat} {ls : List (Option Value)} {st : List Value} {G : GG} {a b : Int32} (d : decode cc pc = .ok (.idiv, 1)) (hq : pc + 1 = q) (hne : ¬ b = 0) (k : WP X Γ q ls (.int (a / b) :: st) G) : WP X Γ pc ls (.int b :: .int a :: st) G := by
  obtain ⟨p, l, e, R, s, m, args, below, meth, c, Q, A, nL, cs, sl⟩ := X
  obtain ⟨hx, hb, hml, hown, hts, hK, hinj, hA, hSt, hF, hL, hcs, hsl⟩ := hX
  subst hq
  intro H locs la hP hS hl
  exact lv_idiv hx hb d hne (k H locs la hP hS hl)

def irm (a b : Int32) : Int32 := a - a / b * b

theorem r_irem {X : XT} {Γ : Gam} {cc : ByteArray} {own : String} {F L : Nat} (hX : OKX X Γ cc own F L) {pc q : Nat} {ls : List (Option Value)} {st : List Value} {G : GG} {a b : Int32} (d : decode cc pc = .ok (.irem, 1)) (hq : pc + 1 = q) (hne : ¬ b = 0) (k : WP X Γ q ls (.int (irm a b) :: st) G) : WP X Γ pc ls (.int b :: .int a :: st) G := by
  obtain ⟨p, l, e, R, s, m, args, below, meth, c, Q, A, nL, cs, sl⟩ := X
  obtain ⟨hx, hb, hml, hown, hts, hK, hinj, hA, hSt, hF, hL, hcs, hsl⟩ := hX
  subst hq
  intro H locs la hP hS hl
  exact lv_irem hx hb d hne (k H locs la hP hS hl)

theorem r_i2l {X : XT} {Γ : Gam} {cc : ByteArray} {own : String} {F L : Nat} (hX : OKX X Γ cc own F L) {pc q : Nat} {ls : List (Option Value)} {st : List Value} {G : GG} {a : Int32} (d : decode cc pc = .ok (.i2l, 1)) (hq : pc + 1 = q)  (k : WP X Γ q ls (.long a.toInt64 :: st) G) : WP X Γ pc ls (.int a :: st) G := by
  obtain ⟨p, l, e, R, s, m, args, below, meth, c, Q, A, nL, cs, sl⟩ := X
  obtain ⟨hx, hb, hml, hown, hts, hK, hinj, hA, hSt, hF, hL, hcs, hsl⟩ := hX
  subst hq
  intro H locs la hP hS hl
  exact lv_i2l hx hb d rfl (k H locs la hP hS hl)

theorem r_i2b {X : XT} {Γ : Gam} {cc : ByteArray} {own : String} {F L : Nat} (hX : OKX X Γ cc own F L) {pc q : Nat} {ls : List (Option Value)} {st : List Value} {G : GG} {a : Int32} (d : decode cc pc = .ok (.i2b, 1)) (hq : pc + 1 = q)  (k : WP X Γ q ls (.int a.toInt8.toInt32 :: st) G) : WP X Γ pc ls (.int a :: st) G := by
  obtain ⟨p, l, e, R, s, m, args, below, meth, c, Q, A, nL, cs, sl⟩ := X
  obtain ⟨hx, hb, hml, hown, hts, hK, hinj, hA, hSt, hF, hL, hcs, hsl⟩ := hX
  subst hq
  intro H locs la hP hS hl
  exact lv_i2b hx hb d rfl (k H locs la hP hS hl)

theorem r_i2s {X : XT} {Γ : Gam} {cc : ByteArray} {own : String} {F L : Nat} (hX : OKX X Γ cc own F L) {pc q : Nat} {ls : List (Option Value)} {st : List Value} {G : GG} {a : Int32} (d : decode cc pc = .ok (.i2s, 1)) (hq : pc + 1 = q)  (k : WP X Γ q ls (.int a.toInt16.toInt32 :: st) G) : WP X Γ pc ls (.int a :: st) G := by
  obtain ⟨p, l, e, R, s, m, args, below, meth, c, Q, A, nL, cs, sl⟩ := X
  obtain ⟨hx, hb, hml, hown, hts, hK, hinj, hA, hSt, hF, hL, hcs, hsl⟩ := hX
  subst hq
  intro H locs la hP hS hl
  exact lv_i2s hx hb d rfl (k H locs la hP hS hl)

theorem r_i2c {X : XT} {Γ : Gam} {cc : ByteArray} {own : String} {F L : Nat} (hX : OKX X Γ cc own F L) {pc q : Nat} {ls : List (Option Value)} {st : List Value} {G : GG} {a : Int32} (d : decode cc pc = .ok (.i2c, 1)) (hq : pc + 1 = q)  (k : WP X Γ q ls (.int (a.toUInt32 % 65536).toInt32 :: st) G) : WP X Γ pc ls (.int a :: st) G := by
  obtain ⟨p, l, e, R, s, m, args, below, meth, c, Q, A, nL, cs, sl⟩ := X
  obtain ⟨hx, hb, hml, hown, hts, hK, hinj, hA, hSt, hF, hL, hcs, hsl⟩ := hX
  subst hq
  intro H locs la hP hS hl
  exact lv_i2c hx hb d rfl (k H locs la hP hS hl)

theorem r_dup {X : XT} {Γ : Gam} {cc : ByteArray} {own : String} {F L : Nat} (hX : OKX X Γ cc own F L) {pc q : Nat} {ls : List (Option Value)} {st : List Value} {G : GG} {v : Value} (d : decode cc pc = .ok (.dup, 1)) (hq : pc + 1 = q) (hv : v.category = 1) (k : WP X Γ q ls (v :: v :: st) G) : WP X Γ pc ls (v :: st) G := by
  obtain ⟨p, l, e, R, s, m, args, below, meth, c, Q, A, nL, cs, sl⟩ := X
  obtain ⟨hx, hb, hml, hown, hts, hK, hinj, hA, hSt, hF, hL, hcs, hsl⟩ := hX
  subst hq
  intro H locs la hP hS hl
  exact lv_dup hx hb d hv (k H locs la hP hS hl)

theorem r_dup2 {X : XT} {Γ : Gam} {cc : ByteArray} {own : String} {F L : Nat} (hX : OKX X Γ cc own F L) {pc q : Nat} {ls : List (Option Value)} {st : List Value} {G : GG} {v u : Value} (d : decode cc pc = .ok (.dup2, 1)) (hq : pc + 1 = q) (hv : v.category = 1) (hu : u.category = 1) (k : WP X Γ q ls (v :: u :: v :: u :: st) G) : WP X Γ pc ls (v :: u :: st) G := by
  obtain ⟨p, l, e, R, s, m, args, below, meth, c, Q, A, nL, cs, sl⟩ := X
  obtain ⟨hx, hb, hml, hown, hts, hK, hinj, hA, hSt, hF, hL, hcs, hsl⟩ := hX
  subst hq
  intro H locs la hP hS hl
  exact lv_dup2_11 hx hb d hv hu (k H locs la hP hS hl)

theorem r_pop {X : XT} {Γ : Gam} {cc : ByteArray} {own : String} {F L : Nat} (hX : OKX X Γ cc own F L) {pc q : Nat} {ls : List (Option Value)} {st : List Value} {G : GG} {v : Value} (d : decode cc pc = .ok (.pop, 1)) (hq : pc + 1 = q) (hv : v.category = 1) (k : WP X Γ q ls st G) : WP X Γ pc ls (v :: st) G := by
  obtain ⟨p, l, e, R, s, m, args, below, meth, c, Q, A, nL, cs, sl⟩ := X
  obtain ⟨hx, hb, hml, hown, hts, hK, hinj, hA, hSt, hF, hL, hcs, hsl⟩ := hX
  subst hq
  intro H locs la hP hS hl
  exact lv_pop hx hb d hv (k H locs la hP hS hl)

theorem LH.get {la : Array Slot} {nL : Nat} {ls : List (Option Value)} (h : LH la nL ls) {i : Nat} {v : Value} (hi : ls[i]? = some (some v)) : la[i]? = some (.val v) := h.2.2 i v hi
def nolong (ls : List (Option Value)) : Bool := ls.all fun x => match x with
  | some v => v.category == 1
  | none => true
def lvl (ls : List (Option Value)) : List (Nat × Value) := (List.range ls.length).filterMap fun i => match ls[i]? with
  | some (some v) => some (i, v)
  | _ => none
theorem lvl_mem {ls : List (Option Value)} {i : Nat} {v : Value} : (i, v) ∈ lvl ls ↔ ls[i]? = some (some v) := by
  simp only [lvl, List.mem_filterMap, List.mem_range]
  constructor
  · rintro ⟨a, h1, h2⟩
    split at h2
    · next w h3 =>
      simp only [Option.some.injEq, Prod.mk.injEq] at h2
      obtain ⟨rfl, rfl⟩ := h2
      exact h3
    · cases h2
  · intro h
    exact ⟨i, (List.getElem?_eq_some_iff.mp h).1, by rw [h]⟩
theorem LH.has {la : Array Slot} {nL : Nat} {ls : List (Option Value)} (h : LH la nL ls) : lv_has la nL (lvl ls) := ⟨h.1.1, h.2.1, fun q hq => h.2.2 q.1 q.2 (lvl_mem.mp hq)⟩
theorem LH.set {la' : Array Slot} {nL i : Nat} {v : Value} {ls : List (Option Value)} (hlen : ls.length = nL) (h0 : nolong ls = true) (h : lv_has la' nL ((i, v) :: (lvl ls).filter (fun q => !(q.1 == i) && !(q.1 + 1 == i && q.2.category == 2)))) : LH la' nL (ls.set i (some v)) := by
  refine ⟨⟨h.1, by rw [List.length_set]; exact hlen⟩, h.2.1, fun j u hj => ?_⟩
  by_cases hij : i = j
  · subst hij
    rw [List.getElem?_set_self' ] at hj
    cases hq : ls[i]? with
    | none => rw [hq] at hj; cases hj
    | some z =>
      rw [hq] at hj
      cases hj
      exact h.2.2 (i, v) List.mem_cons_self
  · rw [List.getElem?_set_ne hij] at hj
    refine h.2.2 (j, u) (List.mem_cons_of_mem _ (List.mem_filter.mpr ⟨lvl_mem.mpr hj, ?_⟩))
    have hc : u.category = 1 := by
      have h1 := List.all_eq_true.mp h0 _ (List.mem_of_getElem? hj)
      simpa using h1
    simp [Ne.symm hij, hc]

theorem r_iload0 {X : XT} {Γ : Gam} {cc : ByteArray} {own : String} {F L : Nat} (hX : OKX X Γ cc own F L) {pc q : Nat} {ls : List (Option Value)}  {st : List Value} {G : GG} {x : Int32} (d : decode cc pc = .ok (.iload_n 0, 1)) (hq : pc + 1 = q) (k : WP X Γ q (some (.int x) :: ls) (.int x :: st) G) : WP X Γ pc (some (.int x) :: ls) st G := by
  obtain ⟨p, l, e, R, s, m, args, below, meth, c, Q, A, nL, cs, sl⟩ := X
  obtain ⟨hx, hb, hml, hown, hts, hK, hinj, hA, hSt, hF, hL, hcs, hsl⟩ := hX
  subst hq
  intro H locs la hP hS hl
  exact lv_iload_n hx hb d rfl (hl.get (i := 0) rfl) (k H locs la hP hS hl)

theorem r_aload0 {X : XT} {Γ : Gam} {cc : ByteArray} {own : String} {F L : Nat} (hX : OKX X Γ cc own F L) {pc q : Nat} {ls : List (Option Value)}  {st : List Value} {G : GG} {x : Nat} (d : decode cc pc = .ok (.aload_n 0, 1)) (hq : pc + 1 = q) (k : WP X Γ q (some (.ref x) :: ls) (.ref x :: st) G) : WP X Γ pc (some (.ref x) :: ls) st G := by
  obtain ⟨p, l, e, R, s, m, args, below, meth, c, Q, A, nL, cs, sl⟩ := X
  obtain ⟨hx, hb, hml, hown, hts, hK, hinj, hA, hSt, hF, hL, hcs, hsl⟩ := hX
  subst hq
  intro H locs la hP hS hl
  exact lv_aload_n hx hb d rfl (hl.get (i := 0) rfl) (k H locs la hP hS hl)

theorem r_istore0 {X : XT} {Γ : Gam} {cc : ByteArray} {own : String} {F L : Nat} (hX : OKX X Γ cc own F L) {pc q : Nat} {ls : List (Option Value)}  {st : List Value} {G : GG} {z : Option Value} {x : Int32} (d : decode cc pc = .ok (.istore_n 0, 1)) (hq : pc + 1 = q) (hno : nolong (z :: ls) = true) (k : WP X Γ q (some (.int x) :: ls) st G) : WP X Γ pc (z :: ls) (.int x :: st) G := by
  obtain ⟨p, l, e, R, s, m, args, below, meth, c, Q, A, nL, cs, sl⟩ := X
  obtain ⟨hx, hb, hml, hown, hts, hK, hinj, hA, hSt, hF, hL, hcs, hsl⟩ := hX
  subst hq
  intro H locs la hP hS hl
  have hn : 0 < nL := by have := hl.1.2; simp at this; omega
  exact lv_istore_n hx hb d rfl hl.has hn rfl (fun la2 h2 => k H locs la2 hP hS (LH.set hl.1.2 hno h2))

theorem r_astore0 {X : XT} {Γ : Gam} {cc : ByteArray} {own : String} {F L : Nat} (hX : OKX X Γ cc own F L) {pc q : Nat} {ls : List (Option Value)}  {st : List Value} {G : GG} {z : Option Value} {x : Nat} (d : decode cc pc = .ok (.astore_n 0, 1)) (hq : pc + 1 = q) (hno : nolong (z :: ls) = true) (k : WP X Γ q (some (.ref x) :: ls) st G) : WP X Γ pc (z :: ls) (.ref x :: st) G := by
  obtain ⟨p, l, e, R, s, m, args, below, meth, c, Q, A, nL, cs, sl⟩ := X
  obtain ⟨hx, hb, hml, hown, hts, hK, hinj, hA, hSt, hF, hL, hcs, hsl⟩ := hX
  subst hq
  intro H locs la hP hS hl
  have hn : 0 < nL := by have := hl.1.2; simp at this; omega
  exact lv_astore_n hx hb d rfl hl.has hn rfl (fun la2 h2 => k H locs la2 hP hS (LH.set hl.1.2 hno h2))

theorem r_iinc0 {X : XT} {Γ : Gam} {cc : ByteArray} {own : String} {F L : Nat} (hX : OKX X Γ cc own F L) {pc q : Nat} {ls : List (Option Value)}  {st : List Value} {G : GG} {n : Int} {x v : Int32} (d : decode cc pc = .ok (.iinc 0 n, 3)) (hq : pc + 3 = q) (hno : nolong (some (.int x) :: ls) = true) (hv : x + Int32.ofInt n = v) (k : WP X Γ q (some (.int v) :: ls) st G) : WP X Γ pc (some (.int x) :: ls) st G := by
  obtain ⟨p, l, e, R, s, m, args, below, meth, c, Q, A, nL, cs, sl⟩ := X
  obtain ⟨hx, hb, hml, hown, hts, hK, hinj, hA, hSt, hF, hL, hcs, hsl⟩ := hX
  subst hq
  intro H locs la hP hS hl
  have hn : 0 < nL := by have := hl.1.2; simp at this; omega
  have hm : (0, Value.int x) ∈ lvl (some (.int x) :: ls) := lvl_mem.mpr rfl
  obtain ⟨j, hj⟩ := List.getElem?_of_mem hm
  exact lv_iinc hx hb d hl.has hj hv hn rfl (fun la2 h2 => k H locs la2 hP hS (LH.set hl.1.2 hno h2))

theorem r_iload1 {X : XT} {Γ : Gam} {cc : ByteArray} {own : String} {F L : Nat} (hX : OKX X Γ cc own F L) {pc q : Nat} {ls : List (Option Value)} {a0 : Option Value}  {st : List Value} {G : GG} {x : Int32} (d : decode cc pc = .ok (.iload_n 1, 1)) (hq : pc + 1 = q) (k : WP X Γ q (a0 :: some (.int x) :: ls) (.int x :: st) G) : WP X Γ pc (a0 :: some (.int x) :: ls) st G := by
  obtain ⟨p, l, e, R, s, m, args, below, meth, c, Q, A, nL, cs, sl⟩ := X
  obtain ⟨hx, hb, hml, hown, hts, hK, hinj, hA, hSt, hF, hL, hcs, hsl⟩ := hX
  subst hq
  intro H locs la hP hS hl
  exact lv_iload_n hx hb d rfl (hl.get (i := 1) rfl) (k H locs la hP hS hl)

theorem r_aload1 {X : XT} {Γ : Gam} {cc : ByteArray} {own : String} {F L : Nat} (hX : OKX X Γ cc own F L) {pc q : Nat} {ls : List (Option Value)} {a0 : Option Value}  {st : List Value} {G : GG} {x : Nat} (d : decode cc pc = .ok (.aload_n 1, 1)) (hq : pc + 1 = q) (k : WP X Γ q (a0 :: some (.ref x) :: ls) (.ref x :: st) G) : WP X Γ pc (a0 :: some (.ref x) :: ls) st G := by
  obtain ⟨p, l, e, R, s, m, args, below, meth, c, Q, A, nL, cs, sl⟩ := X
  obtain ⟨hx, hb, hml, hown, hts, hK, hinj, hA, hSt, hF, hL, hcs, hsl⟩ := hX
  subst hq
  intro H locs la hP hS hl
  exact lv_aload_n hx hb d rfl (hl.get (i := 1) rfl) (k H locs la hP hS hl)

theorem r_istore1 {X : XT} {Γ : Gam} {cc : ByteArray} {own : String} {F L : Nat} (hX : OKX X Γ cc own F L) {pc q : Nat} {ls : List (Option Value)} {a0 : Option Value}  {st : List Value} {G : GG} {z : Option Value} {x : Int32} (d : decode cc pc = .ok (.istore_n 1, 1)) (hq : pc + 1 = q) (hno : nolong (a0 :: z :: ls) = true) (k : WP X Γ q (a0 :: some (.int x) :: ls) st G) : WP X Γ pc (a0 :: z :: ls) (.int x :: st) G := by
  obtain ⟨p, l, e, R, s, m, args, below, meth, c, Q, A, nL, cs, sl⟩ := X
  obtain ⟨hx, hb, hml, hown, hts, hK, hinj, hA, hSt, hF, hL, hcs, hsl⟩ := hX
  subst hq
  intro H locs la hP hS hl
  have hn : 1 < nL := by have := hl.1.2; simp at this; omega
  exact lv_istore_n hx hb d rfl hl.has hn rfl (fun la2 h2 => k H locs la2 hP hS (LH.set hl.1.2 hno h2))

theorem r_astore1 {X : XT} {Γ : Gam} {cc : ByteArray} {own : String} {F L : Nat} (hX : OKX X Γ cc own F L) {pc q : Nat} {ls : List (Option Value)} {a0 : Option Value}  {st : List Value} {G : GG} {z : Option Value} {x : Nat} (d : decode cc pc = .ok (.astore_n 1, 1)) (hq : pc + 1 = q) (hno : nolong (a0 :: z :: ls) = true) (k : WP X Γ q (a0 :: some (.ref x) :: ls) st G) : WP X Γ pc (a0 :: z :: ls) (.ref x :: st) G := by
  obtain ⟨p, l, e, R, s, m, args, below, meth, c, Q, A, nL, cs, sl⟩ := X
  obtain ⟨hx, hb, hml, hown, hts, hK, hinj, hA, hSt, hF, hL, hcs, hsl⟩ := hX
  subst hq
  intro H locs la hP hS hl
  have hn : 1 < nL := by have := hl.1.2; simp at this; omega
  exact lv_astore_n hx hb d rfl hl.has hn rfl (fun la2 h2 => k H locs la2 hP hS (LH.set hl.1.2 hno h2))

theorem r_iinc1 {X : XT} {Γ : Gam} {cc : ByteArray} {own : String} {F L : Nat} (hX : OKX X Γ cc own F L) {pc q : Nat} {ls : List (Option Value)} {a0 : Option Value}  {st : List Value} {G : GG} {n : Int} {x v : Int32} (d : decode cc pc = .ok (.iinc 1 n, 3)) (hq : pc + 3 = q) (hno : nolong (a0 :: some (.int x) :: ls) = true) (hv : x + Int32.ofInt n = v) (k : WP X Γ q (a0 :: some (.int v) :: ls) st G) : WP X Γ pc (a0 :: some (.int x) :: ls) st G := by
  obtain ⟨p, l, e, R, s, m, args, below, meth, c, Q, A, nL, cs, sl⟩ := X
  obtain ⟨hx, hb, hml, hown, hts, hK, hinj, hA, hSt, hF, hL, hcs, hsl⟩ := hX
  subst hq
  intro H locs la hP hS hl
  have hn : 1 < nL := by have := hl.1.2; simp at this; omega
  have hm : (1, Value.int x) ∈ lvl (a0 :: some (.int x) :: ls) := lvl_mem.mpr rfl
  obtain ⟨j, hj⟩ := List.getElem?_of_mem hm
  exact lv_iinc hx hb d hl.has hj hv hn rfl (fun la2 h2 => k H locs la2 hP hS (LH.set hl.1.2 hno h2))

theorem r_iload2 {X : XT} {Γ : Gam} {cc : ByteArray} {own : String} {F L : Nat} (hX : OKX X Γ cc own F L) {pc q : Nat} {ls : List (Option Value)} {a0 a1 : Option Value}  {st : List Value} {G : GG} {x : Int32} (d : decode cc pc = .ok (.iload_n 2, 1)) (hq : pc + 1 = q) (k : WP X Γ q (a0 :: a1 :: some (.int x) :: ls) (.int x :: st) G) : WP X Γ pc (a0 :: a1 :: some (.int x) :: ls) st G := by
  obtain ⟨p, l, e, R, s, m, args, below, meth, c, Q, A, nL, cs, sl⟩ := X
  obtain ⟨hx, hb, hml, hown, hts, hK, hinj, hA, hSt, hF, hL, hcs, hsl⟩ := hX
  subst hq
  intro H locs la hP hS hl
  exact lv_iload_n hx hb d rfl (hl.get (i := 2) rfl) (k H locs la hP hS hl)

theorem r_aload2 {X : XT} {Γ : Gam} {cc : ByteArray} {own : String} {F L : Nat} (hX : OKX X Γ cc own F L) {pc q : Nat} {ls : List (Option Value)} {a0 a1 : Option Value}  {st : List Value} {G : GG} {x : Nat} (d : decode cc pc = .ok (.aload_n 2, 1)) (hq : pc + 1 = q) (k : WP X Γ q (a0 :: a1 :: some (.ref x) :: ls) (.ref x :: st) G) : WP X Γ pc (a0 :: a1 :: some (.ref x) :: ls) st G := by
  obtain ⟨p, l, e, R, s, m, args, below, meth, c, Q, A, nL, cs, sl⟩ := X
  obtain ⟨hx, hb, hml, hown, hts, hK, hinj, hA, hSt, hF, hL, hcs, hsl⟩ := hX
  subst hq
  intro H locs la hP hS hl
  exact lv_aload_n hx hb d rfl (hl.get (i := 2) rfl) (k H locs la hP hS hl)

theorem r_istore2 {X : XT} {Γ : Gam} {cc : ByteArray} {own : String} {F L : Nat} (hX : OKX X Γ cc own F L) {pc q : Nat} {ls : List (Option Value)} {a0 a1 : Option Value}  {st : List Value} {G : GG} {z : Option Value} {x : Int32} (d : decode cc pc = .ok (.istore_n 2, 1)) (hq : pc + 1 = q) (hno : nolong (a0 :: a1 :: z :: ls) = true) (k : WP X Γ q (a0 :: a1 :: some (.int x) :: ls) st G) : WP X Γ pc (a0 :: a1 :: z :: ls) (.int x :: st) G := by
  obtain ⟨p, l, e, R, s, m, args, below, meth, c, Q, A, nL, cs, sl⟩ := X
  obtain ⟨hx, hb, hml, hown, hts, hK, hinj, hA, hSt, hF, hL, hcs, hsl⟩ := hX
  subst hq
  intro H locs la hP hS hl
  have hn : 2 < nL := by have := hl.1.2; simp at this; omega
  exact lv_istore_n hx hb d rfl hl.has hn rfl (fun la2 h2 => k H locs la2 hP hS (LH.set hl.1.2 hno h2))

theorem r_astore2 {X : XT} {Γ : Gam} {cc : ByteArray} {own : String} {F L : Nat} (hX : OKX X Γ cc own F L) {pc q : Nat} {ls : List (Option Value)} {a0 a1 : Option Value}  {st : List Value} {G : GG} {z : Option Value} {x : Nat} (d : decode cc pc = .ok (.astore_n 2, 1)) (hq : pc + 1 = q) (hno : nolong (a0 :: a1 :: z :: ls) = true) (k : WP X Γ q (a0 :: a1 :: some (.ref x) :: ls) st G) : WP X Γ pc (a0 :: a1 :: z :: ls) (.ref x :: st) G := by
  obtain ⟨p, l, e, R, s, m, args, below, meth, c, Q, A, nL, cs, sl⟩ := X
  obtain ⟨hx, hb, hml, hown, hts, hK, hinj, hA, hSt, hF, hL, hcs, hsl⟩ := hX
  subst hq
  intro H locs la hP hS hl
  have hn : 2 < nL := by have := hl.1.2; simp at this; omega
  exact lv_astore_n hx hb d rfl hl.has hn rfl (fun la2 h2 => k H locs la2 hP hS (LH.set hl.1.2 hno h2))

theorem r_iinc2 {X : XT} {Γ : Gam} {cc : ByteArray} {own : String} {F L : Nat} (hX : OKX X Γ cc own F L) {pc q : Nat} {ls : List (Option Value)} {a0 a1 : Option Value}  {st : List Value} {G : GG} {n : Int} {x v : Int32} (d : decode cc pc = .ok (.iinc 2 n, 3)) (hq : pc + 3 = q) (hno : nolong (a0 :: a1 :: some (.int x) :: ls) = true) (hv : x + Int32.ofInt n = v) (k : WP X Γ q (a0 :: a1 :: some (.int v) :: ls) st G) : WP X Γ pc (a0 :: a1 :: some (.int x) :: ls) st G := by
  obtain ⟨p, l, e, R, s, m, args, below, meth, c, Q, A, nL, cs, sl⟩ := X
  obtain ⟨hx, hb, hml, hown, hts, hK, hinj, hA, hSt, hF, hL, hcs, hsl⟩ := hX
  subst hq
  intro H locs la hP hS hl
  have hn : 2 < nL := by have := hl.1.2; simp at this; omega
  have hm : (2, Value.int x) ∈ lvl (a0 :: a1 :: some (.int x) :: ls) := lvl_mem.mpr rfl
  obtain ⟨j, hj⟩ := List.getElem?_of_mem hm
  exact lv_iinc hx hb d hl.has hj hv hn rfl (fun la2 h2 => k H locs la2 hP hS (LH.set hl.1.2 hno h2))

theorem r_iload3 {X : XT} {Γ : Gam} {cc : ByteArray} {own : String} {F L : Nat} (hX : OKX X Γ cc own F L) {pc q : Nat} {ls : List (Option Value)} {a0 a1 a2 : Option Value}  {st : List Value} {G : GG} {x : Int32} (d : decode cc pc = .ok (.iload_n 3, 1)) (hq : pc + 1 = q) (k : WP X Γ q (a0 :: a1 :: a2 :: some (.int x) :: ls) (.int x :: st) G) : WP X Γ pc (a0 :: a1 :: a2 :: some (.int x) :: ls) st G := by
  obtain ⟨p, l, e, R, s, m, args, below, meth, c, Q, A, nL, cs, sl⟩ := X
  obtain ⟨hx, hb, hml, hown, hts, hK, hinj, hA, hSt, hF, hL, hcs, hsl⟩ := hX
  subst hq
  intro H locs la hP hS hl
  exact lv_iload_n hx hb d rfl (hl.get (i := 3) rfl) (k H locs la hP hS hl)

theorem r_aload3 {X : XT} {Γ : Gam} {cc : ByteArray} {own : String} {F L : Nat} (hX : OKX X Γ cc own F L) {pc q : Nat} {ls : List (Option Value)} {a0 a1 a2 : Option Value}  {st : List Value} {G : GG} {x : Nat} (d : decode cc pc = .ok (.aload_n 3, 1)) (hq : pc + 1 = q) (k : WP X Γ q (a0 :: a1 :: a2 :: some (.ref x) :: ls) (.ref x :: st) G) : WP X Γ pc (a0 :: a1 :: a2 :: some (.ref x) :: ls) st G := by
  obtain ⟨p, l, e, R, s, m, args, below, meth, c, Q, A, nL, cs, sl⟩ := X
  obtain ⟨hx, hb, hml, hown, hts, hK, hinj, hA, hSt, hF, hL, hcs, hsl⟩ := hX
  subst hq
  intro H locs la hP hS hl
  exact lv_aload_n hx hb d rfl (hl.get (i := 3) rfl) (k H locs la hP hS hl)

theorem r_istore3 {X : XT} {Γ : Gam} {cc : ByteArray} {own : String} {F L : Nat} (hX : OKX X Γ cc own F L) {pc q : Nat} {ls : List (Option Value)} {a0 a1 a2 : Option Value}  {st : List Value} {G : GG} {z : Option Value} {x : Int32} (d : decode cc pc = .ok (.istore_n 3, 1)) (hq : pc + 1 = q) (hno : nolong (a0 :: a1 :: a2 :: z :: ls) = true) (k : WP X Γ q (a0 :: a1 :: a2 :: some (.int x) :: ls) st G) : WP X Γ pc (a0 :: a1 :: a2 :: z :: ls) (.int x :: st) G := by
  obtain ⟨p, l, e, R, s, m, args, below, meth, c, Q, A, nL, cs, sl⟩ := X
  obtain ⟨hx, hb, hml, hown, hts, hK, hinj, hA, hSt, hF, hL, hcs, hsl⟩ := hX
  subst hq
  intro H locs la hP hS hl
  have hn : 3 < nL := by have := hl.1.2; simp at this; omega
  exact lv_istore_n hx hb d rfl hl.has hn rfl (fun la2 h2 => k H locs la2 hP hS (LH.set hl.1.2 hno h2))

theorem r_astore3 {X : XT} {Γ : Gam} {cc : ByteArray} {own : String} {F L : Nat} (hX : OKX X Γ cc own F L) {pc q : Nat} {ls : List (Option Value)} {a0 a1 a2 : Option Value}  {st : List Value} {G : GG} {z : Option Value} {x : Nat} (d : decode cc pc = .ok (.astore_n 3, 1)) (hq : pc + 1 = q) (hno : nolong (a0 :: a1 :: a2 :: z :: ls) = true) (k : WP X Γ q (a0 :: a1 :: a2 :: some (.ref x) :: ls) st G) : WP X Γ pc (a0 :: a1 :: a2 :: z :: ls) (.ref x :: st) G := by
  obtain ⟨p, l, e, R, s, m, args, below, meth, c, Q, A, nL, cs, sl⟩ := X
  obtain ⟨hx, hb, hml, hown, hts, hK, hinj, hA, hSt, hF, hL, hcs, hsl⟩ := hX
  subst hq
  intro H locs la hP hS hl
  have hn : 3 < nL := by have := hl.1.2; simp at this; omega
  exact lv_astore_n hx hb d rfl hl.has hn rfl (fun la2 h2 => k H locs la2 hP hS (LH.set hl.1.2 hno h2))

theorem r_iinc3 {X : XT} {Γ : Gam} {cc : ByteArray} {own : String} {F L : Nat} (hX : OKX X Γ cc own F L) {pc q : Nat} {ls : List (Option Value)} {a0 a1 a2 : Option Value}  {st : List Value} {G : GG} {n : Int} {x v : Int32} (d : decode cc pc = .ok (.iinc 3 n, 3)) (hq : pc + 3 = q) (hno : nolong (a0 :: a1 :: a2 :: some (.int x) :: ls) = true) (hv : x + Int32.ofInt n = v) (k : WP X Γ q (a0 :: a1 :: a2 :: some (.int v) :: ls) st G) : WP X Γ pc (a0 :: a1 :: a2 :: some (.int x) :: ls) st G := by
  obtain ⟨p, l, e, R, s, m, args, below, meth, c, Q, A, nL, cs, sl⟩ := X
  obtain ⟨hx, hb, hml, hown, hts, hK, hinj, hA, hSt, hF, hL, hcs, hsl⟩ := hX
  subst hq
  intro H locs la hP hS hl
  have hn : 3 < nL := by have := hl.1.2; simp at this; omega
  have hm : (3, Value.int x) ∈ lvl (a0 :: a1 :: a2 :: some (.int x) :: ls) := lvl_mem.mpr rfl
  obtain ⟨j, hj⟩ := List.getElem?_of_mem hm
  exact lv_iinc hx hb d hl.has hj hv hn rfl (fun la2 h2 => k H locs la2 hP hS (LH.set hl.1.2 hno h2))

theorem r_iload4 {X : XT} {Γ : Gam} {cc : ByteArray} {own : String} {F L : Nat} (hX : OKX X Γ cc own F L) {pc q : Nat} {ls : List (Option Value)} {a0 a1 a2 a3 : Option Value}  {st : List Value} {G : GG} {x : Int32} (d : decode cc pc = .ok (.iload 4, 2)) (hq : pc + 2 = q) (k : WP X Γ q (a0 :: a1 :: a2 :: a3 :: some (.int x) :: ls) (.int x :: st) G) : WP X Γ pc (a0 :: a1 :: a2 :: a3 :: some (.int x) :: ls) st G := by
  obtain ⟨p, l, e, R, s, m, args, below, meth, c, Q, A, nL, cs, sl⟩ := X
  obtain ⟨hx, hb, hml, hown, hts, hK, hinj, hA, hSt, hF, hL, hcs, hsl⟩ := hX
  subst hq
  intro H locs la hP hS hl
  exact lv_iload hx hb d (hl.get (i := 4) rfl) (k H locs la hP hS hl)

theorem r_aload4 {X : XT} {Γ : Gam} {cc : ByteArray} {own : String} {F L : Nat} (hX : OKX X Γ cc own F L) {pc q : Nat} {ls : List (Option Value)} {a0 a1 a2 a3 : Option Value}  {st : List Value} {G : GG} {x : Nat} (d : decode cc pc = .ok (.aload 4, 2)) (hq : pc + 2 = q) (k : WP X Γ q (a0 :: a1 :: a2 :: a3 :: some (.ref x) :: ls) (.ref x :: st) G) : WP X Γ pc (a0 :: a1 :: a2 :: a3 :: some (.ref x) :: ls) st G := by
  obtain ⟨p, l, e, R, s, m, args, below, meth, c, Q, A, nL, cs, sl⟩ := X
  obtain ⟨hx, hb, hml, hown, hts, hK, hinj, hA, hSt, hF, hL, hcs, hsl⟩ := hX
  subst hq
  intro H locs la hP hS hl
  exact lv_aload hx hb d (hl.get (i := 4) rfl) (k H locs la hP hS hl)

theorem r_istore4 {X : XT} {Γ : Gam} {cc : ByteArray} {own : String} {F L : Nat} (hX : OKX X Γ cc own F L) {pc q : Nat} {ls : List (Option Value)} {a0 a1 a2 a3 : Option Value}  {st : List Value} {G : GG} {z : Option Value} {x : Int32} (d : decode cc pc = .ok (.istore 4, 2)) (hq : pc + 2 = q) (hno : nolong (a0 :: a1 :: a2 :: a3 :: z :: ls) = true) (k : WP X Γ q (a0 :: a1 :: a2 :: a3 :: some (.int x) :: ls) st G) : WP X Γ pc (a0 :: a1 :: a2 :: a3 :: z :: ls) (.int x :: st) G := by
  obtain ⟨p, l, e, R, s, m, args, below, meth, c, Q, A, nL, cs, sl⟩ := X
  obtain ⟨hx, hb, hml, hown, hts, hK, hinj, hA, hSt, hF, hL, hcs, hsl⟩ := hX
  subst hq
  intro H locs la hP hS hl
  have hn : 4 < nL := by have := hl.1.2; simp at this; omega
  exact lv_istore hx hb d hl.has hn rfl (fun la2 h2 => k H locs la2 hP hS (LH.set hl.1.2 hno h2))

theorem r_astore4 {X : XT} {Γ : Gam} {cc : ByteArray} {own : String} {F L : Nat} (hX : OKX X Γ cc own F L) {pc q : Nat} {ls : List (Option Value)} {a0 a1 a2 a3 : Option Value}  {st : List Value} {G : GG} {z : Option Value} {x : Nat} (d : decode cc pc = .ok (.astore 4, 2)) (hq : pc + 2 = q) (hno : nolong (a0 :: a1 :: a2 :: a3 :: z :: ls) = true) (k : WP X Γ q (a0 :: a1 :: a2 :: a3 :: some (.ref x) :: ls) st G) : WP X Γ pc (a0 :: a1 :: a2 :: a3 :: z :: ls) (.ref x :: st) G := by
  obtain ⟨p, l, e, R, s, m, args, below, meth, c, Q, A, nL, cs, sl⟩ := X
  obtain ⟨hx, hb, hml, hown, hts, hK, hinj, hA, hSt, hF, hL, hcs, hsl⟩ := hX
  subst hq
  intro H locs la hP hS hl
  have hn : 4 < nL := by have := hl.1.2; simp at this; omega
  exact lv_astore hx hb d hl.has hn rfl (fun la2 h2 => k H locs la2 hP hS (LH.set hl.1.2 hno h2))

theorem r_iinc4 {X : XT} {Γ : Gam} {cc : ByteArray} {own : String} {F L : Nat} (hX : OKX X Γ cc own F L) {pc q : Nat} {ls : List (Option Value)} {a0 a1 a2 a3 : Option Value}  {st : List Value} {G : GG} {n : Int} {x v : Int32} (d : decode cc pc = .ok (.iinc 4 n, 3)) (hq : pc + 3 = q) (hno : nolong (a0 :: a1 :: a2 :: a3 :: some (.int x) :: ls) = true) (hv : x + Int32.ofInt n = v) (k : WP X Γ q (a0 :: a1 :: a2 :: a3 :: some (.int v) :: ls) st G) : WP X Γ pc (a0 :: a1 :: a2 :: a3 :: some (.int x) :: ls) st G := by
  obtain ⟨p, l, e, R, s, m, args, below, meth, c, Q, A, nL, cs, sl⟩ := X
  obtain ⟨hx, hb, hml, hown, hts, hK, hinj, hA, hSt, hF, hL, hcs, hsl⟩ := hX
  subst hq
  intro H locs la hP hS hl
  have hn : 4 < nL := by have := hl.1.2; simp at this; omega
  have hm : (4, Value.int x) ∈ lvl (a0 :: a1 :: a2 :: a3 :: some (.int x) :: ls) := lvl_mem.mpr rfl
  obtain ⟨j, hj⟩ := List.getElem?_of_mem hm
  exact lv_iinc hx hb d hl.has hj hv hn rfl (fun la2 h2 => k H locs la2 hP hS (LH.set hl.1.2 hno h2))

theorem r_iload5 {X : XT} {Γ : Gam} {cc : ByteArray} {own : String} {F L : Nat} (hX : OKX X Γ cc own F L) {pc q : Nat} {ls : List (Option Value)} {a0 a1 a2 a3 a4 : Option Value}  {st : List Value} {G : GG} {x : Int32} (d : decode cc pc = .ok (.iload 5, 2)) (hq : pc + 2 = q) (k : WP X Γ q (a0 :: a1 :: a2 :: a3 :: a4 :: some (.int x) :: ls) (.int x :: st) G) : WP X Γ pc (a0 :: a1 :: a2 :: a3 :: a4 :: some (.int x) :: ls) st G := by
  obtain ⟨p, l, e, R, s, m, args, below, meth, c, Q, A, nL, cs, sl⟩ := X
  obtain ⟨hx, hb, hml, hown, hts, hK, hinj, hA, hSt, hF, hL, hcs, hsl⟩ := hX
  subst hq
  intro H locs la hP hS hl
  exact lv_iload hx hb d (hl.get (i := 5) rfl) (k H locs la hP hS hl)

theorem r_aload5 {X : XT} {Γ : Gam} {cc : ByteArray} {own : String} {F L : Nat} (hX : OKX X Γ cc own F L) {pc q : Nat} {ls : List (Option Value)} {a0 a1 a2 a3 a4 : Option Value}  {st : List Value} {G : GG} {x : Nat} (d : decode cc pc = .ok (.aload 5, 2)) (hq : pc + 2 = q) (k : WP X Γ q (a0 :: a1 :: a2 :: a3 :: a4 :: some (.ref x) :: ls) (.ref x :: st) G) : WP X Γ pc (a0 :: a1 :: a2 :: a3 :: a4 :: some (.ref x) :: ls) st G := by
  obtain ⟨p, l, e, R, s, m, args, below, meth, c, Q, A, nL, cs, sl⟩ := X
  obtain ⟨hx, hb, hml, hown, hts, hK, hinj, hA, hSt, hF, hL, hcs, hsl⟩ := hX
  subst hq
  intro H locs la hP hS hl
  exact lv_aload hx hb d (hl.get (i := 5) rfl) (k H locs la hP hS hl)

theorem r_istore5 {X : XT} {Γ : Gam} {cc : ByteArray} {own : String} {F L : Nat} (hX : OKX X Γ cc own F L) {pc q : Nat} {ls : List (Option Value)} {a0 a1 a2 a3 a4 : Option Value}  {st : List Value} {G : GG} {z : Option Value} {x : Int32} (d : decode cc pc = .ok (.istore 5, 2)) (hq : pc + 2 = q) (hno : nolong (a0 :: a1 :: a2 :: a3 :: a4 :: z :: ls) = true) (k : WP X Γ q (a0 :: a1 :: a2 :: a3 :: a4 :: some (.int x) :: ls) st G) : WP X Γ pc (a0 :: a1 :: a2 :: a3 :: a4 :: z :: ls) (.int x :: st) G := by
  obtain ⟨p, l, e, R, s, m, args, below, meth, c, Q, A, nL, cs, sl⟩ := X
  obtain ⟨hx, hb, hml, hown, hts, hK, hinj, hA, hSt, hF, hL, hcs, hsl⟩ := hX
  subst hq
  intro H locs la hP hS hl
  have hn : 5 < nL := by have := hl.1.2; simp at this; omega
  exact lv_istore hx hb d hl.has hn rfl (fun la2 h2 => k H locs la2 hP hS (LH.set hl.1.2 hno h2))

theorem r_astore5 {X : XT} {Γ : Gam} {cc : ByteArray} {own : String} {F L : Nat} (hX : OKX X Γ cc own F L) {pc q : Nat} {ls : List (Option Value)} {a0 a1 a2 a3 a4 : Option Value}  {st : List Value} {G : GG} {z : Option Value} {x : Nat} (d : decode cc pc = .ok (.astore 5, 2)) (hq : pc + 2 = q) (hno : nolong (a0 :: a1 :: a2 :: a3 :: a4 :: z :: ls) = true) (k : WP X Γ q (a0 :: a1 :: a2 :: a3 :: a4 :: some (.ref x) :: ls) st G) : WP X Γ pc (a0 :: a1 :: a2 :: a3 :: a4 :: z :: ls) (.ref x :: st) G := by
  obtain ⟨p, l, e, R, s, m, args, below, meth, c, Q, A, nL, cs, sl⟩ := X
  obtain ⟨hx, hb, hml, hown, hts, hK, hinj, hA, hSt, hF, hL, hcs, hsl⟩ := hX
  subst hq
  intro H locs la hP hS hl
  have hn : 5 < nL := by have := hl.1.2; simp at this; omega
  exact lv_astore hx hb d hl.has hn rfl (fun la2 h2 => k H locs la2 hP hS (LH.set hl.1.2 hno h2))

theorem r_iinc5 {X : XT} {Γ : Gam} {cc : ByteArray} {own : String} {F L : Nat} (hX : OKX X Γ cc own F L) {pc q : Nat} {ls : List (Option Value)} {a0 a1 a2 a3 a4 : Option Value}  {st : List Value} {G : GG} {n : Int} {x v : Int32} (d : decode cc pc = .ok (.iinc 5 n, 3)) (hq : pc + 3 = q) (hno : nolong (a0 :: a1 :: a2 :: a3 :: a4 :: some (.int x) :: ls) = true) (hv : x + Int32.ofInt n = v) (k : WP X Γ q (a0 :: a1 :: a2 :: a3 :: a4 :: some (.int v) :: ls) st G) : WP X Γ pc (a0 :: a1 :: a2 :: a3 :: a4 :: some (.int x) :: ls) st G := by
  obtain ⟨p, l, e, R, s, m, args, below, meth, c, Q, A, nL, cs, sl⟩ := X
  obtain ⟨hx, hb, hml, hown, hts, hK, hinj, hA, hSt, hF, hL, hcs, hsl⟩ := hX
  subst hq
  intro H locs la hP hS hl
  have hn : 5 < nL := by have := hl.1.2; simp at this; omega
  have hm : (5, Value.int x) ∈ lvl (a0 :: a1 :: a2 :: a3 :: a4 :: some (.int x) :: ls) := lvl_mem.mpr rfl
  obtain ⟨j, hj⟩ := List.getElem?_of_mem hm
  exact lv_iinc hx hb d hl.has hj hv hn rfl (fun la2 h2 => k H locs la2 hP hS (LH.set hl.1.2 hno h2))

theorem r_iload6 {X : XT} {Γ : Gam} {cc : ByteArray} {own : String} {F L : Nat} (hX : OKX X Γ cc own F L) {pc q : Nat} {ls : List (Option Value)} {a0 a1 a2 a3 a4 a5 : Option Value}  {st : List Value} {G : GG} {x : Int32} (d : decode cc pc = .ok (.iload 6, 2)) (hq : pc + 2 = q) (k : WP X Γ q (a0 :: a1 :: a2 :: a3 :: a4 :: a5 :: some (.int x) :: ls) (.int x :: st) G) : WP X Γ pc (a0 :: a1 :: a2 :: a3 :: a4 :: a5 :: some (.int x) :: ls) st G := by
  obtain ⟨p, l, e, R, s, m, args, below, meth, c, Q, A, nL, cs, sl⟩ := X
  obtain ⟨hx, hb, hml, hown, hts, hK, hinj, hA, hSt, hF, hL, hcs, hsl⟩ := hX
  subst hq
  intro H locs la hP hS hl
  exact lv_iload hx hb d (hl.get (i := 6) rfl) (k H locs la hP hS hl)

theorem r_aload6 {X : XT} {Γ : Gam} {cc : ByteArray} {own : String} {F L : Nat} (hX : OKX X Γ cc own F L) {pc q : Nat} {ls : List (Option Value)} {a0 a1 a2 a3 a4 a5 : Option Value}  {st : List Value} {G : GG} {x : Nat} (d : decode cc pc = .ok (.aload 6, 2)) (hq : pc + 2 = q) (k : WP X Γ q (a0 :: a1 :: a2 :: a3 :: a4 :: a5 :: some (.ref x) :: ls) (.ref x :: st) G) : WP X Γ pc (a0 :: a1 :: a2 :: a3 :: a4 :: a5 :: some (.ref x) :: ls) st G := by
  obtain ⟨p, l, e, R, s, m, args, below, meth, c, Q, A, nL, cs, sl⟩ := X
  obtain ⟨hx, hb, hml, hown, hts, hK, hinj, hA, hSt, hF, hL, hcs, hsl⟩ := hX
  subst hq
  intro H locs la hP hS hl
  exact lv_aload hx hb d (hl.get (i := 6) rfl) (k H locs la hP hS hl)

theorem r_istore6 {X : XT} {Γ : Gam} {cc : ByteArray} {own : String} {F L : Nat} (hX : OKX X Γ cc own F L) {pc q : Nat} {ls : List (Option Value)} {a0 a1 a2 a3 a4 a5 : Option Value}  {st : List Value} {G : GG} {z : Option Value} {x : Int32} (d : decode cc pc = .ok (.istore 6, 2)) (hq : pc + 2 = q) (hno : nolong (a0 :: a1 :: a2 :: a3 :: a4 :: a5 :: z :: ls) = true) (k : WP X Γ q (a0 :: a1 :: a2 :: a3 :: a4 :: a5 :: some (.int x) :: ls) st G) : WP X Γ pc (a0 :: a1 :: a2 :: a3 :: a4 :: a5 :: z :: ls) (.int x :: st) G := by
  obtain ⟨p, l, e, R, s, m, args, below, meth, c, Q, A, nL, cs, sl⟩ := X
  obtain ⟨hx, hb, hml, hown, hts, hK, hinj, hA, hSt, hF, hL, hcs, hsl⟩ := hX
  subst hq
  intro H locs la hP hS hl
  have hn : 6 < nL := by have := hl.1.2; simp at this; omega
  exact lv_istore hx hb d hl.has hn rfl (fun la2 h2 => k H locs la2 hP hS (LH.set hl.1.2 hno h2))

theorem r_astore6 {X : XT} {Γ : Gam} {cc : ByteArray} {own : String} {F L : Nat} (hX : OKX X Γ cc own F L) {pc q : Nat} {ls : List (Option Value)} {a0 a1 a2 a3 a4 a5 : Option Value}  {st : List Value} {G : GG} {z : Option Value} {x : Nat} (d : decode cc pc = .ok (.astore 6, 2)) (hq : pc + 2 = q) (hno : nolong (a0 :: a1 :: a2 :: a3 :: a4 :: a5 :: z :: ls) = true) (k : WP X Γ q (a0 :: a1 :: a2 :: a3 :: a4 :: a5 :: some (.ref x) :: ls) st G) : WP X Γ pc (a0 :: a1 :: a2 :: a3 :: a4 :: a5 :: z :: ls) (.ref x :: st) G := by
  obtain ⟨p, l, e, R, s, m, args, below, meth, c, Q, A, nL, cs, sl⟩ := X
  obtain ⟨hx, hb, hml, hown, hts, hK, hinj, hA, hSt, hF, hL, hcs, hsl⟩ := hX
  subst hq
  intro H locs la hP hS hl
  have hn : 6 < nL := by have := hl.1.2; simp at this; omega
  exact lv_astore hx hb d hl.has hn rfl (fun la2 h2 => k H locs la2 hP hS (LH.set hl.1.2 hno h2))

theorem r_iinc6 {X : XT} {Γ : Gam} {cc : ByteArray} {own : String} {F L : Nat} (hX : OKX X Γ cc own F L) {pc q : Nat} {ls : List (Option Value)} {a0 a1 a2 a3 a4 a5 : Option Value}  {st : List Value} {G : GG} {n : Int} {x v : Int32} (d : decode cc pc = .ok (.iinc 6 n, 3)) (hq : pc + 3 = q) (hno : nolong (a0 :: a1 :: a2 :: a3 :: a4 :: a5 :: some (.int x) :: ls) = true) (hv : x + Int32.ofInt n = v) (k : WP X Γ q (a0 :: a1 :: a2 :: a3 :: a4 :: a5 :: some (.int v) :: ls) st G) : WP X Γ pc (a0 :: a1 :: a2 :: a3 :: a4 :: a5 :: some (.int x) :: ls) st G := by
  obtain ⟨p, l, e, R, s, m, args, below, meth, c, Q, A, nL, cs, sl⟩ := X
  obtain ⟨hx, hb, hml, hown, hts, hK, hinj, hA, hSt, hF, hL, hcs, hsl⟩ := hX
  subst hq
  intro H locs la hP hS hl
  have hn : 6 < nL := by have := hl.1.2; simp at this; omega
  have hm : (6, Value.int x) ∈ lvl (a0 :: a1 :: a2 :: a3 :: a4 :: a5 :: some (.int x) :: ls) := lvl_mem.mpr rfl
  obtain ⟨j, hj⟩ := List.getElem?_of_mem hm
  exact lv_iinc hx hb d hl.has hj hv hn rfl (fun la2 h2 => k H locs la2 hP hS (LH.set hl.1.2 hno h2))

theorem r_iload7 {X : XT} {Γ : Gam} {cc : ByteArray} {own : String} {F L : Nat} (hX : OKX X Γ cc own F L) {pc q : Nat} {ls : List (Option Value)} {a0 a1 a2 a3 a4 a5 a6 : Option Value}  {st : List Value} {G : GG} {x : Int32} (d : decode cc pc = .ok (.iload 7, 2)) (hq : pc + 2 = q) (k : WP X Γ q (a0 :: a1 :: a2 :: a3 :: a4 :: a5 :: a6 :: some (.int x) :: ls) (.int x :: st) G) : WP X Γ pc (a0 :: a1 :: a2 :: a3 :: a4 :: a5 :: a6 :: some (.int x) :: ls) st G := by
  obtain ⟨p, l, e, R, s, m, args, below, meth, c, Q, A, nL, cs, sl⟩ := X
  obtain ⟨hx, hb, hml, hown, hts, hK, hinj, hA, hSt, hF, hL, hcs, hsl⟩ := hX
  subst hq
  intro H locs la hP hS hl
  exact lv_iload hx hb d (hl.get (i := 7) rfl) (k H locs la hP hS hl)

theorem r_aload7 {X : XT} {Γ : Gam} {cc : ByteArray} {own : String} {F L : Nat} (hX : OKX X Γ cc own F L) {pc q : Nat} {ls : List (Option Value)} {a0 a1 a2 a3 a4 a5 a6 : Option Value}  {st : List Value} {G : GG} {x : Nat} (d : decode cc pc = .ok (.aload 7, 2)) (hq : pc + 2 = q) (k : WP X Γ q (a0 :: a1 :: a2 :: a3 :: a4 :: a5 :: a6 :: some (.ref x) :: ls) (.ref x :: st) G) : WP X Γ pc (a0 :: a1 :: a2 :: a3 :: a4 :: a5 :: a6 :: some (.ref x) :: ls) st G := by
  obtain ⟨p, l, e, R, s, m, args, below, meth, c, Q, A, nL, cs, sl⟩ := X
  obtain ⟨hx, hb, hml, hown, hts, hK, hinj, hA, hSt, hF, hL, hcs, hsl⟩ := hX
  subst hq
  intro H locs la hP hS hl
  exact lv_aload hx hb d (hl.get (i := 7) rfl) (k H locs la hP hS hl)

theorem r_istore7 {X : XT} {Γ : Gam} {cc : ByteArray} {own : String} {F L : Nat} (hX : OKX X Γ cc own F L) {pc q : Nat} {ls : List (Option Value)} {a0 a1 a2 a3 a4 a5 a6 : Option Value}  {st : List Value} {G : GG} {z : Option Value} {x : Int32} (d : decode cc pc = .ok (.istore 7, 2)) (hq : pc + 2 = q) (hno : nolong (a0 :: a1 :: a2 :: a3 :: a4 :: a5 :: a6 :: z :: ls) = true) (k : WP X Γ q (a0 :: a1 :: a2 :: a3 :: a4 :: a5 :: a6 :: some (.int x) :: ls) st G) : WP X Γ pc (a0 :: a1 :: a2 :: a3 :: a4 :: a5 :: a6 :: z :: ls) (.int x :: st) G := by
  obtain ⟨p, l, e, R, s, m, args, below, meth, c, Q, A, nL, cs, sl⟩ := X
  obtain ⟨hx, hb, hml, hown, hts, hK, hinj, hA, hSt, hF, hL, hcs, hsl⟩ := hX
  subst hq
  intro H locs la hP hS hl
  have hn : 7 < nL := by have := hl.1.2; simp at this; omega
  exact lv_istore hx hb d hl.has hn rfl (fun la2 h2 => k H locs la2 hP hS (LH.set hl.1.2 hno h2))

theorem r_astore7 {X : XT} {Γ : Gam} {cc : ByteArray} {own : String} {F L : Nat} (hX : OKX X Γ cc own F L) {pc q : Nat} {ls : List (Option Value)} {a0 a1 a2 a3 a4 a5 a6 : Option Value}  {st : List Value} {G : GG} {z : Option Value} {x : Nat} (d : decode cc pc = .ok (.astore 7, 2)) (hq : pc + 2 = q) (hno : nolong (a0 :: a1 :: a2 :: a3 :: a4 :: a5 :: a6 :: z :: ls) = true) (k : WP X Γ q (a0 :: a1 :: a2 :: a3 :: a4 :: a5 :: a6 :: some (.ref x) :: ls) st G) : WP X Γ pc (a0 :: a1 :: a2 :: a3 :: a4 :: a5 :: a6 :: z :: ls) (.ref x :: st) G := by
  obtain ⟨p, l, e, R, s, m, args, below, meth, c, Q, A, nL, cs, sl⟩ := X
  obtain ⟨hx, hb, hml, hown, hts, hK, hinj, hA, hSt, hF, hL, hcs, hsl⟩ := hX
  subst hq
  intro H locs la hP hS hl
  have hn : 7 < nL := by have := hl.1.2; simp at this; omega
  exact lv_astore hx hb d hl.has hn rfl (fun la2 h2 => k H locs la2 hP hS (LH.set hl.1.2 hno h2))

theorem r_iinc7 {X : XT} {Γ : Gam} {cc : ByteArray} {own : String} {F L : Nat} (hX : OKX X Γ cc own F L) {pc q : Nat} {ls : List (Option Value)} {a0 a1 a2 a3 a4 a5 a6 : Option Value}  {st : List Value} {G : GG} {n : Int} {x v : Int32} (d : decode cc pc = .ok (.iinc 7 n, 3)) (hq : pc + 3 = q) (hno : nolong (a0 :: a1 :: a2 :: a3 :: a4 :: a5 :: a6 :: some (.int x) :: ls) = true) (hv : x + Int32.ofInt n = v) (k : WP X Γ q (a0 :: a1 :: a2 :: a3 :: a4 :: a5 :: a6 :: some (.int v) :: ls) st G) : WP X Γ pc (a0 :: a1 :: a2 :: a3 :: a4 :: a5 :: a6 :: some (.int x) :: ls) st G := by
  obtain ⟨p, l, e, R, s, m, args, below, meth, c, Q, A, nL, cs, sl⟩ := X
  obtain ⟨hx, hb, hml, hown, hts, hK, hinj, hA, hSt, hF, hL, hcs, hsl⟩ := hX
  subst hq
  intro H locs la hP hS hl
  have hn : 7 < nL := by have := hl.1.2; simp at this; omega
  have hm : (7, Value.int x) ∈ lvl (a0 :: a1 :: a2 :: a3 :: a4 :: a5 :: a6 :: some (.int x) :: ls) := lvl_mem.mpr rfl
  obtain ⟨j, hj⟩ := List.getElem?_of_mem hm
  exact lv_iinc hx hb d hl.has hj hv hn rfl (fun la2 h2 => k H locs la2 hP hS (LH.set hl.1.2 hno h2))

theorem r_iload8 {X : XT} {Γ : Gam} {cc : ByteArray} {own : String} {F L : Nat} (hX : OKX X Γ cc own F L) {pc q : Nat} {ls : List (Option Value)} {a0 a1 a2 a3 a4 a5 a6 a7 : Option Value}  {st : List Value} {G : GG} {x : Int32} (d : decode cc pc = .ok (.iload 8, 2)) (hq : pc + 2 = q) (k : WP X Γ q (a0 :: a1 :: a2 :: a3 :: a4 :: a5 :: a6 :: a7 :: some (.int x) :: ls) (.int x :: st) G) : WP X Γ pc (a0 :: a1 :: a2 :: a3 :: a4 :: a5 :: a6 :: a7 :: some (.int x) :: ls) st G := by
  obtain ⟨p, l, e, R, s, m, args, below, meth, c, Q, A, nL, cs, sl⟩ := X
  obtain ⟨hx, hb, hml, hown, hts, hK, hinj, hA, hSt, hF, hL, hcs, hsl⟩ := hX
  subst hq
  intro H locs la hP hS hl
  exact lv_iload hx hb d (hl.get (i := 8) rfl) (k H locs la hP hS hl)

theorem r_aload8 {X : XT} {Γ : Gam} {cc : ByteArray} {own : String} {F L : Nat} (hX : OKX X Γ cc own F L) {pc q : Nat} {ls : List (Option Value)} {a0 a1 a2 a3 a4 a5 a6 a7 : Option Value}  {st : List Value} {G : GG} {x : Nat} (d : decode cc pc = .ok (.aload 8, 2)) (hq : pc + 2 = q) (k : WP X Γ q (a0 :: a1 :: a2 :: a3 :: a4 :: a5 :: a6 :: a7 :: some (.ref x) :: ls) (.ref x :: st) G) : WP X Γ pc (a0 :: a1 :: a2 :: a3 :: a4 :: a5 :: a6 :: a7 :: some (.ref x) :: ls) st G := by
  obtain ⟨p, l, e, R, s, m, args, below, meth, c, Q, A, nL, cs, sl⟩ := X
  obtain ⟨hx, hb, hml, hown, hts, hK, hinj, hA, hSt, hF, hL, hcs, hsl⟩ := hX
  subst hq
  intro H locs la hP hS hl
  exact lv_aload hx hb d (hl.get (i := 8) rfl) (k H locs la hP hS hl)

theorem r_istore8 {X : XT} {Γ : Gam} {cc : ByteArray} {own : String} {F L : Nat} (hX : OKX X Γ cc own F L) {pc q : Nat} {ls : List (Option Value)} {a0 a1 a2 a3 a4 a5 a6 a7 : Option Value}  {st : List Value} {G : GG} {z : Option Value} {x : Int32} (d : decode cc pc = .ok (.istore 8, 2)) (hq : pc + 2 = q) (hno : nolong (a0 :: a1 :: a2 :: a3 :: a4 :: a5 :: a6 :: a7 :: z :: ls) = true) (k : WP X Γ q (a0 :: a1 :: a2 :: a3 :: a4 :: a5 :: a6 :: a7 :: some (.int x) :: ls) st G) : WP X Γ pc (a0 :: a1 :: a2 :: a3 :: a4 :: a5 :: a6 :: a7 :: z :: ls) (.int x :: st) G := by
  obtain ⟨p, l, e, R, s, m, args, below, meth, c, Q, A, nL, cs, sl⟩ := X
  obtain ⟨hx, hb, hml, hown, hts, hK, hinj, hA, hSt, hF, hL, hcs, hsl⟩ := hX
  subst hq
  intro H locs la hP hS hl
  have hn : 8 < nL := by have := hl.1.2; simp at this; omega
  exact lv_istore hx hb d hl.has hn rfl (fun la2 h2 => k H locs la2 hP hS (LH.set hl.1.2 hno h2))

theorem r_astore8 {X : XT} {Γ : Gam} {cc : ByteArray} {own : String} {F L : Nat} (hX : OKX X Γ cc own F L) {pc q : Nat} {ls : List (Option Value)} {a0 a1 a2 a3 a4 a5 a6 a7 : Option Value}  {st : List Value} {G : GG} {z : Option Value} {x : Nat} (d : decode cc pc = .ok (.astore 8, 2)) (hq : pc + 2 = q) (hno : nolong (a0 :: a1 :: a2 :: a3 :: a4 :: a5 :: a6 :: a7 :: z :: ls) = true) (k : WP X Γ q (a0 :: a1 :: a2 :: a3 :: a4 :: a5 :: a6 :: a7 :: some (.ref x) :: ls) st G) : WP X Γ pc (a0 :: a1 :: a2 :: a3 :: a4 :: a5 :: a6 :: a7 :: z :: ls) (.ref x :: st) G := by
  obtain ⟨p, l, e, R, s, m, args, below, meth, c, Q, A, nL, cs, sl⟩ := X
  obtain ⟨hx, hb, hml, hown, hts, hK, hinj, hA, hSt, hF, hL, hcs, hsl⟩ := hX
  subst hq
  intro H locs la hP hS hl
  have hn : 8 < nL := by have := hl.1.2; simp at this; omega
  exact lv_astore hx hb d hl.has hn rfl (fun la2 h2 => k H locs la2 hP hS (LH.set hl.1.2 hno h2))

theorem r_iinc8 {X : XT} {Γ : Gam} {cc : ByteArray} {own : String} {F L : Nat} (hX : OKX X Γ cc own F L) {pc q : Nat} {ls : List (Option Value)} {a0 a1 a2 a3 a4 a5 a6 a7 : Option Value}  {st : List Value} {G : GG} {n : Int} {x v : Int32} (d : decode cc pc = .ok (.iinc 8 n, 3)) (hq : pc + 3 = q) (hno : nolong (a0 :: a1 :: a2 :: a3 :: a4 :: a5 :: a6 :: a7 :: some (.int x) :: ls) = true) (hv : x + Int32.ofInt n = v) (k : WP X Γ q (a0 :: a1 :: a2 :: a3 :: a4 :: a5 :: a6 :: a7 :: some (.int v) :: ls) st G) : WP X Γ pc (a0 :: a1 :: a2 :: a3 :: a4 :: a5 :: a6 :: a7 :: some (.int x) :: ls) st G := by
  obtain ⟨p, l, e, R, s, m, args, below, meth, c, Q, A, nL, cs, sl⟩ := X
  obtain ⟨hx, hb, hml, hown, hts, hK, hinj, hA, hSt, hF, hL, hcs, hsl⟩ := hX
  subst hq
  intro H locs la hP hS hl
  have hn : 8 < nL := by have := hl.1.2; simp at this; omega
  have hm : (8, Value.int x) ∈ lvl (a0 :: a1 :: a2 :: a3 :: a4 :: a5 :: a6 :: a7 :: some (.int x) :: ls) := lvl_mem.mpr rfl
  obtain ⟨j, hj⟩ := List.getElem?_of_mem hm
  exact lv_iinc hx hb d hl.has hj hv hn rfl (fun la2 h2 => k H locs la2 hP hS (LH.set hl.1.2 hno h2))

theorem r_iload9 {X : XT} {Γ : Gam} {cc : ByteArray} {own : String} {F L : Nat} (hX : OKX X Γ cc own F L) {pc q : Nat} {ls : List (Option Value)} {a0 a1 a2 a3 a4 a5 a6 a7 a8 : Option Value}  {st : List Value} {G : GG} {x : Int32} (d : decode cc pc = .ok (.iload 9, 2)) (hq : pc + 2 = q) (k : WP X Γ q (a0 :: a1 :: a2 :: a3 :: a4 :: a5 :: a6 :: a7 :: a8 :: some (.int x) :: ls) (.int x :: st) G) : WP X Γ pc (a0 :: a1 :: a2 :: a3 :: a4 :: a5 :: a6 :: a7 :: a8 :: some (.int x) :: ls) st G := by
  obtain ⟨p, l, e, R, s, m, args, below, meth, c, Q, A, nL, cs, sl⟩ := X
  obtain ⟨hx, hb, hml, hown, hts, hK, hinj, hA, hSt, hF, hL, hcs, hsl⟩ := hX
  subst hq
  intro H locs la hP hS hl
  exact lv_iload hx hb d (hl.get (i := 9) rfl) (k H locs la hP hS hl)

theorem r_aload9 {X : XT} {Γ : Gam} {cc : ByteArray} {own : String} {F L : Nat} (hX : OKX X Γ cc own F L) {pc q : Nat} {ls : List (Option Value)} {a0 a1 a2 a3 a4 a5 a6 a7 a8 : Option Value}  {st : List Value} {G : GG} {x : Nat} (d : decode cc pc = .ok (.aload 9, 2)) (hq : pc + 2 = q) (k : WP X Γ q (a0 :: a1 :: a2 :: a3 :: a4 :: a5 :: a6 :: a7 :: a8 :: some (.ref x) :: ls) (.ref x :: st) G) : WP X Γ pc (a0 :: a1 :: a2 :: a3 :: a4 :: a5 :: a6 :: a7 :: a8 :: some (.ref x) :: ls) st G := by
  obtain ⟨p, l, e, R, s, m, args, below, meth, c, Q, A, nL, cs, sl⟩ := X
  obtain ⟨hx, hb, hml, hown, hts, hK, hinj, hA, hSt, hF, hL, hcs, hsl⟩ := hX
  subst hq
  intro H locs la hP hS hl
  exact lv_aload hx hb d (hl.get (i := 9) rfl) (k H locs la hP hS hl)

theorem r_istore9 {X : XT} {Γ : Gam} {cc : ByteArray} {own : String} {F L : Nat} (hX : OKX X Γ cc own F L) {pc q : Nat} {ls : List (Option Value)} {a0 a1 a2 a3 a4 a5 a6 a7 a8 : Option Value}  {st : List Value} {G : GG} {z : Option Value} {x : Int32} (d : decode cc pc = .ok (.istore 9, 2)) (hq : pc + 2 = q) (hno : nolong (a0 :: a1 :: a2 :: a3 :: a4 :: a5 :: a6 :: a7 :: a8 :: z :: ls) = true) (k : WP X Γ q (a0 :: a1 :: a2 :: a3 :: a4 :: a5 :: a6 :: a7 :: a8 :: some (.int x) :: ls) st G) : WP X Γ pc (a0 :: a1 :: a2 :: a3 :: a4 :: a5 :: a6 :: a7 :: a8 :: z :: ls) (.int x :: st) G := by
  obtain ⟨p, l, e, R, s, m, args, below, meth, c, Q, A, nL, cs, sl⟩ := X
  obtain ⟨hx, hb, hml, hown, hts, hK, hinj, hA, hSt, hF, hL, hcs, hsl⟩ := hX
  subst hq
  intro H locs la hP hS hl
  have hn : 9 < nL := by have := hl.1.2; simp at this; omega
  exact lv_istore hx hb d hl.has hn rfl (fun la2 h2 => k H locs la2 hP hS (LH.set hl.1.2 hno h2))

theorem r_astore9 {X : XT} {Γ : Gam} {cc : ByteArray} {own : String} {F L : Nat} (hX : OKX X Γ cc own F L) {pc q : Nat} {ls : List (Option Value)} {a0 a1 a2 a3 a4 a5 a6 a7 a8 : Option Value}  {st : List Value} {G : GG} {z : Option Value} {x : Nat} (d : decode cc pc = .ok (.astore 9, 2)) (hq : pc + 2 = q) (hno : nolong (a0 :: a1 :: a2 :: a3 :: a4 :: a5 :: a6 :: a7 :: a8 :: z :: ls) = true) (k : WP X Γ q (a0 :: a1 :: a2 :: a3 :: a4 :: a5 :: a6 :: a7 :: a8 :: some (.ref x) :: ls) st G) : WP X Γ pc (a0 :: a1 :: a2 :: a3 :: a4 :: a5 :: a6 :: a7 :: a8 :: z :: ls) (.ref x :: st) G := by
  obtain ⟨p, l, e, R, s, m, args, below, meth, c, Q, A, nL, cs, sl⟩ := X
  obtain ⟨hx, hb, hml, hown, hts, hK, hinj, hA, hSt, hF, hL, hcs, hsl⟩ := hX
  subst hq
  intro H locs la hP hS hl
  have hn : 9 < nL := by have := hl.1.2; simp at this; omega
  exact lv_astore hx hb d hl.has hn rfl (fun la2 h2 => k H locs la2 hP hS (LH.set hl.1.2 hno h2))

theorem r_iinc9 {X : XT} {Γ : Gam} {cc : ByteArray} {own : String} {F L : Nat} (hX : OKX X Γ cc own F L) {pc q : Nat} {ls : List (Option Value)} {a0 a1 a2 a3 a4 a5 a6 a7 a8 : Option Value}  {st : List Value} {G : GG} {n : Int} {x v : Int32} (d : decode cc pc = .ok (.iinc 9 n, 3)) (hq : pc + 3 = q) (hno : nolong (a0 :: a1 :: a2 :: a3 :: a4 :: a5 :: a6 :: a7 :: a8 :: some (.int x) :: ls) = true) (hv : x + Int32.ofInt n = v) (k : WP X Γ q (a0 :: a1 :: a2 :: a3 :: a4 :: a5 :: a6 :: a7 :: a8 :: some (.int v) :: ls) st G) : WP X Γ pc (a0 :: a1 :: a2 :: a3 :: a4 :: a5 :: a6 :: a7 :: a8 :: some (.int x) :: ls) st G := by
  obtain ⟨p, l, e, R, s, m, args, below, meth, c, Q, A, nL, cs, sl⟩ := X
  obtain ⟨hx, hb, hml, hown, hts, hK, hinj, hA, hSt, hF, hL, hcs, hsl⟩ := hX
  subst hq
  intro H locs la hP hS hl
  have hn : 9 < nL := by have := hl.1.2; simp at this; omega
  have hm : (9, Value.int x) ∈ lvl (a0 :: a1 :: a2 :: a3 :: a4 :: a5 :: a6 :: a7 :: a8 :: some (.int x) :: ls) := lvl_mem.mpr rfl
  obtain ⟨j, hj⟩ := List.getElem?_of_mem hm
  exact lv_iinc hx hb d hl.has hj hv hn rfl (fun la2 h2 => k H locs la2 hP hS (LH.set hl.1.2 hno h2))

theorem r_iload10 {X : XT} {Γ : Gam} {cc : ByteArray} {own : String} {F L : Nat} (hX : OKX X Γ cc own F L) {pc q : Nat} {ls : List (Option Value)} {a0 a1 a2 a3 a4 a5 a6 a7 a8 a9 : Option Value}  {st : List Value} {G : GG} {x : Int32} (d : decode cc pc = .ok (.iload 10, 2)) (hq : pc + 2 = q) (k : WP X Γ q (a0 :: a1 :: a2 :: a3 :: a4 :: a5 :: a6 :: a7 :: a8 :: a9 :: some (.int x) :: ls) (.int x :: st) G) : WP X Γ pc (a0 :: a1 :: a2 :: a3 :: a4 :: a5 :: a6 :: a7 :: a8 :: a9 :: some (.int x) :: ls) st G := by
  obtain ⟨p, l, e, R, s, m, args, below, meth, c, Q, A, nL, cs, sl⟩ := X
  obtain ⟨hx, hb, hml, hown, hts, hK, hinj, hA, hSt, hF, hL, hcs, hsl⟩ := hX
  subst hq
  intro H locs la hP hS hl
  exact lv_iload hx hb d (hl.get (i := 10) rfl) (k H locs la hP hS hl)

theorem r_aload10 {X : XT} {Γ : Gam} {cc : ByteArray} {own : String} {F L : Nat} (hX : OKX X Γ cc own F L) {pc q : Nat} {ls : List (Option Value)} {a0 a1 a2 a3 a4 a5 a6 a7 a8 a9 : Option Value}  {st : List Value} {G : GG} {x : Nat} (d : decode cc pc = .ok (.aload 10, 2)) (hq : pc + 2 = q) (k : WP X Γ q (a0 :: a1 :: a2 :: a3 :: a4 :: a5 :: a6 :: a7 :: a8 :: a9 :: some (.ref x) :: ls) (.ref x :: st) G) : WP X Γ pc (a0 :: a1 :: a2 :: a3 :: a4 :: a5 :: a6 :: a7 :: a8 :: a9 :: some (.ref x) :: ls) st G := by
  obtain ⟨p, l, e, R, s, m, args, below, meth, c, Q, A, nL, cs, sl⟩ := X
  obtain ⟨hx, hb, hml, hown, hts, hK, hinj, hA, hSt, hF, hL, hcs, hsl⟩ := hX
  subst hq
  intro H locs la hP hS hl
  exact lv_aload hx hb d (hl.get (i := 10) rfl) (k H locs la hP hS hl)

theorem r_istore10 {X : XT} {Γ : Gam} {cc : ByteArray} {own : String} {F L : Nat} (hX : OKX X Γ cc own F L) {pc q : Nat} {ls : List (Option Value)} {a0 a1 a2 a3 a4 a5 a6 a7 a8 a9 : Option Value}  {st : List Value} {G : GG} {z : Option Value} {x : Int32} (d : decode cc pc = .ok (.istore 10, 2)) (hq : pc + 2 = q) (hno : nolong (a0 :: a1 :: a2 :: a3 :: a4 :: a5 :: a6 :: a7 :: a8 :: a9 :: z :: ls) = true) (k : WP X Γ q (a0 :: a1 :: a2 :: a3 :: a4 :: a5 :: a6 :: a7 :: a8 :: a9 :: some (.int x) :: ls) st G) : WP X Γ pc (a0 :: a1 :: a2 :: a3 :: a4 :: a5 :: a6 :: a7 :: a8 :: a9 :: z :: ls) (.int x :: st) G := by
  obtain ⟨p, l, e, R, s, m, args, below, meth, c, Q, A, nL, cs, sl⟩ := X
  obtain ⟨hx, hb, hml, hown, hts, hK, hinj, hA, hSt, hF, hL, hcs, hsl⟩ := hX
  subst hq
  intro H locs la hP hS hl
  have hn : 10 < nL := by have := hl.1.2; simp at this; omega
  exact lv_istore hx hb d hl.has hn rfl (fun la2 h2 => k H locs la2 hP hS (LH.set hl.1.2 hno h2))

theorem r_astore10 {X : XT} {Γ : Gam} {cc : ByteArray} {own : String} {F L : Nat} (hX : OKX X Γ cc own F L) {pc q : Nat} {ls : List (Option Value)} {a0 a1 a2 a3 a4 a5 a6 a7 a8 a9 : Option Value}  {st : List Value} {G : GG} {z : Option Value} {x : Nat} (d : decode cc pc = .ok (.astore 10, 2)) (hq : pc + 2 = q) (hno : nolong (a0 :: a1 :: a2 :: a3 :: a4 :: a5 :: a6 :: a7 :: a8 :: a9 :: z :: ls) = true) (k : WP X Γ q (a0 :: a1 :: a2 :: a3 :: a4 :: a5 :: a6 :: a7 :: a8 :: a9 :: some (.ref x) :: ls) st G) : WP X Γ pc (a0 :: a1 :: a2 :: a3 :: a4 :: a5 :: a6 :: a7 :: a8 :: a9 :: z :: ls) (.ref x :: st) G := by
  obtain ⟨p, l, e, R, s, m, args, below, meth, c, Q, A, nL, cs, sl⟩ := X
  obtain ⟨hx, hb, hml, hown, hts, hK, hinj, hA, hSt, hF, hL, hcs, hsl⟩ := hX
  subst hq
  intro H locs la hP hS hl
  have hn : 10 < nL := by have := hl.1.2; simp at this; omega
  exact lv_astore hx hb d hl.has hn rfl (fun la2 h2 => k H locs la2 hP hS (LH.set hl.1.2 hno h2))

theorem r_iinc10 {X : XT} {Γ : Gam} {cc : ByteArray} {own : String} {F L : Nat} (hX : OKX X Γ cc own F L) {pc q : Nat} {ls : List (Option Value)} {a0 a1 a2 a3 a4 a5 a6 a7 a8 a9 : Option Value}  {st : List Value} {G : GG} {n : Int} {x v : Int32} (d : decode cc pc = .ok (.iinc 10 n, 3)) (hq : pc + 3 = q) (hno : nolong (a0 :: a1 :: a2 :: a3 :: a4 :: a5 :: a6 :: a7 :: a8 :: a9 :: some (.int x) :: ls) = true) (hv : x + Int32.ofInt n = v) (k : WP X Γ q (a0 :: a1 :: a2 :: a3 :: a4 :: a5 :: a6 :: a7 :: a8 :: a9 :: some (.int v) :: ls) st G) : WP X Γ pc (a0 :: a1 :: a2 :: a3 :: a4 :: a5 :: a6 :: a7 :: a8 :: a9 :: some (.int x) :: ls) st G := by
  obtain ⟨p, l, e, R, s, m, args, below, meth, c, Q, A, nL, cs, sl⟩ := X
  obtain ⟨hx, hb, hml, hown, hts, hK, hinj, hA, hSt, hF, hL, hcs, hsl⟩ := hX
  subst hq
  intro H locs la hP hS hl
  have hn : 10 < nL := by have := hl.1.2; simp at this; omega
  have hm : (10, Value.int x) ∈ lvl (a0 :: a1 :: a2 :: a3 :: a4 :: a5 :: a6 :: a7 :: a8 :: a9 :: some (.int x) :: ls) := lvl_mem.mpr rfl
  obtain ⟨j, hj⟩ := List.getElem?_of_mem hm
  exact lv_iinc hx hb d hl.has hj hv hn rfl (fun la2 h2 => k H locs la2 hP hS (LH.set hl.1.2 hno h2))

theorem r_icmp_eq {X : XT} {Γ : Gam} {cc : ByteArray} {own : String} {F L : Nat} (hX : OKX X Γ cc own F L) {pc q : Nat} {ls : List (Option Value)} {st : List Value} {G : GG} {a b : Int32} {off : Int} {tgt : Nat} (d : decode cc pc = .ok (.if_icmp .eq off, 3)) (hq : pc + 3 = q) (ht : (pc : Int) + off = (tgt : Int)) (kt : a = b → WP X Γ tgt ls st G) (kf : ¬ a = b → WP X Γ q ls st G) : WP X Γ pc ls (.int b :: .int a :: st) G := by
  obtain ⟨p, l, e, R, s, m, args, below, meth, c, Q, A, nL, cs, sl⟩ := X
  obtain ⟨hx, hb, hml, hown, hts, hK, hinj, hA, hSt, hF, hL, hcs, hsl⟩ := hX
  subst hq
  intro H locs la hP hS hl
  exact lv_icmp_eq hx hb d ht (fun h => kt h H locs la hP hS hl) (fun h => kf h H locs la hP hS hl)

theorem r_if_eq {X : XT} {Γ : Gam} {cc : ByteArray} {own : String} {F L : Nat} (hX : OKX X Γ cc own F L) {pc q : Nat} {ls : List (Option Value)} {st : List Value} {G : GG} {a : Int32} {off : Int} {tgt : Nat} (d : decode cc pc = .ok (.ifCond .eq off, 3)) (hq : pc + 3 = q) (ht : (pc : Int) + off = (tgt : Int)) (kt : a = 0 → WP X Γ tgt ls st G) (kf : ¬ a = 0 → WP X Γ q ls st G) : WP X Γ pc ls (.int a :: st) G := by
  obtain ⟨p, l, e, R, s, m, args, below, meth, c, Q, A, nL, cs, sl⟩ := X
  obtain ⟨hx, hb, hml, hown, hts, hK, hinj, hA, hSt, hF, hL, hcs, hsl⟩ := hX
  subst hq
  intro H locs la hP hS hl
  exact lv_if_eq hx hb d ht (fun h => kt h H locs la hP hS hl) (fun h => kf h H locs la hP hS hl)

theorem r_icmp_ne {X : XT} {Γ : Gam} {cc : ByteArray} {own : String} {F L : Nat} (hX : OKX X Γ cc own F L) {pc q : Nat} {ls : List (Option Value)} {st : List Value} {G : GG} {a b : Int32} {off : Int} {tgt : Nat} (d : decode cc pc = .ok (.if_icmp .ne off, 3)) (hq : pc + 3 = q) (ht : (pc : Int) + off = (tgt : Int)) (kt : ¬ a = b → WP X Γ tgt ls st G) (kf : a = b → WP X Γ q ls st G) : WP X Γ pc ls (.int b :: .int a :: st) G := by
  obtain ⟨p, l, e, R, s, m, args, below, meth, c, Q, A, nL, cs, sl⟩ := X
  obtain ⟨hx, hb, hml, hown, hts, hK, hinj, hA, hSt, hF, hL, hcs, hsl⟩ := hX
  subst hq
  intro H locs la hP hS hl
  exact lv_icmp_ne hx hb d ht (fun h => kt h H locs la hP hS hl) (fun h => kf h H locs la hP hS hl)

theorem r_if_ne {X : XT} {Γ : Gam} {cc : ByteArray} {own : String} {F L : Nat} (hX : OKX X Γ cc own F L) {pc q : Nat} {ls : List (Option Value)} {st : List Value} {G : GG} {a : Int32} {off : Int} {tgt : Nat} (d : decode cc pc = .ok (.ifCond .ne off, 3)) (hq : pc + 3 = q) (ht : (pc : Int) + off = (tgt : Int)) (kt : ¬ a = 0 → WP X Γ tgt ls st G) (kf : a = 0 → WP X Γ q ls st G) : WP X Γ pc ls (.int a :: st) G := by
  obtain ⟨p, l, e, R, s, m, args, below, meth, c, Q, A, nL, cs, sl⟩ := X
  obtain ⟨hx, hb, hml, hown, hts, hK, hinj, hA, hSt, hF, hL, hcs, hsl⟩ := hX
  subst hq
  intro H locs la hP hS hl
  exact lv_if_ne hx hb d ht (fun h => kt h H locs la hP hS hl) (fun h => kf h H locs la hP hS hl)

theorem r_icmp_lt {X : XT} {Γ : Gam} {cc : ByteArray} {own : String} {F L : Nat} (hX : OKX X Γ cc own F L) {pc q : Nat} {ls : List (Option Value)} {st : List Value} {G : GG} {a b : Int32} {off : Int} {tgt : Nat} (d : decode cc pc = .ok (.if_icmp .lt off, 3)) (hq : pc + 3 = q) (ht : (pc : Int) + off = (tgt : Int)) (kt : a < b → WP X Γ tgt ls st G) (kf : ¬ a < b → WP X Γ q ls st G) : WP X Γ pc ls (.int b :: .int a :: st) G := by
  obtain ⟨p, l, e, R, s, m, args, below, meth, c, Q, A, nL, cs, sl⟩ := X
  obtain ⟨hx, hb, hml, hown, hts, hK, hinj, hA, hSt, hF, hL, hcs, hsl⟩ := hX
  subst hq
  intro H locs la hP hS hl
  exact lv_icmp_lt hx hb d ht (fun h => kt h H locs la hP hS hl) (fun h => kf h H locs la hP hS hl)

theorem r_if_lt {X : XT} {Γ : Gam} {cc : ByteArray} {own : String} {F L : Nat} (hX : OKX X Γ cc own F L) {pc q : Nat} {ls : List (Option Value)} {st : List Value} {G : GG} {a : Int32} {off : Int} {tgt : Nat} (d : decode cc pc = .ok (.ifCond .lt off, 3)) (hq : pc + 3 = q) (ht : (pc : Int) + off = (tgt : Int)) (kt : a < 0 → WP X Γ tgt ls st G) (kf : ¬ a < 0 → WP X Γ q ls st G) : WP X Γ pc ls (.int a :: st) G := by
  obtain ⟨p, l, e, R, s, m, args, below, meth, c, Q, A, nL, cs, sl⟩ := X
  obtain ⟨hx, hb, hml, hown, hts, hK, hinj, hA, hSt, hF, hL, hcs, hsl⟩ := hX
  subst hq
  intro H locs la hP hS hl
  exact lv_if_lt hx hb d ht (fun h => kt h H locs la hP hS hl) (fun h => kf h H locs la hP hS hl)

theorem r_icmp_ge {X : XT} {Γ : Gam} {cc : ByteArray} {own : String} {F L : Nat} (hX : OKX X Γ cc own F L) {pc q : Nat} {ls : List (Option Value)} {st : List Value} {G : GG} {a b : Int32} {off : Int} {tgt : Nat} (d : decode cc pc = .ok (.if_icmp .ge off, 3)) (hq : pc + 3 = q) (ht : (pc : Int) + off = (tgt : Int)) (kt : b ≤ a → WP X Γ tgt ls st G) (kf : ¬ b ≤ a → WP X Γ q ls st G) : WP X Γ pc ls (.int b :: .int a :: st) G := by
  obtain ⟨p, l, e, R, s, m, args, below, meth, c, Q, A, nL, cs, sl⟩ := X
  obtain ⟨hx, hb, hml, hown, hts, hK, hinj, hA, hSt, hF, hL, hcs, hsl⟩ := hX
  subst hq
  intro H locs la hP hS hl
  exact lv_icmp_ge hx hb d ht (fun h => kt h H locs la hP hS hl) (fun h => kf h H locs la hP hS hl)

theorem r_if_ge {X : XT} {Γ : Gam} {cc : ByteArray} {own : String} {F L : Nat} (hX : OKX X Γ cc own F L) {pc q : Nat} {ls : List (Option Value)} {st : List Value} {G : GG} {a : Int32} {off : Int} {tgt : Nat} (d : decode cc pc = .ok (.ifCond .ge off, 3)) (hq : pc + 3 = q) (ht : (pc : Int) + off = (tgt : Int)) (kt : 0 ≤ a → WP X Γ tgt ls st G) (kf : ¬ 0 ≤ a → WP X Γ q ls st G) : WP X Γ pc ls (.int a :: st) G := by
  obtain ⟨p, l, e, R, s, m, args, below, meth, c, Q, A, nL, cs, sl⟩ := X
  obtain ⟨hx, hb, hml, hown, hts, hK, hinj, hA, hSt, hF, hL, hcs, hsl⟩ := hX
  subst hq
  intro H locs la hP hS hl
  exact lv_if_ge hx hb d ht (fun h => kt h H locs la hP hS hl) (fun h => kf h H locs la hP hS hl)

theorem r_icmp_gt {X : XT} {Γ : Gam} {cc : ByteArray} {own : String} {F L : Nat} (hX : OKX X Γ cc own F L) {pc q : Nat} {ls : List (Option Value)} {st : List Value} {G : GG} {a b : Int32} {off : Int} {tgt : Nat} (d : decode cc pc = .ok (.if_icmp .gt off, 3)) (hq : pc + 3 = q) (ht : (pc : Int) + off = (tgt : Int)) (kt : b < a → WP X Γ tgt ls st G) (kf : ¬ b < a → WP X Γ q ls st G) : WP X Γ pc ls (.int b :: .int a :: st) G := by
  obtain ⟨p, l, e, R, s, m, args, below, meth, c, Q, A, nL, cs, sl⟩ := X
  obtain ⟨hx, hb, hml, hown, hts, hK, hinj, hA, hSt, hF, hL, hcs, hsl⟩ := hX
  subst hq
  intro H locs la hP hS hl
  exact lv_icmp_gt hx hb d ht (fun h => kt h H locs la hP hS hl) (fun h => kf h H locs la hP hS hl)

theorem r_if_gt {X : XT} {Γ : Gam} {cc : ByteArray} {own : String} {F L : Nat} (hX : OKX X Γ cc own F L) {pc q : Nat} {ls : List (Option Value)} {st : List Value} {G : GG} {a : Int32} {off : Int} {tgt : Nat} (d : decode cc pc = .ok (.ifCond .gt off, 3)) (hq : pc + 3 = q) (ht : (pc : Int) + off = (tgt : Int)) (kt : 0 < a → WP X Γ tgt ls st G) (kf : ¬ 0 < a → WP X Γ q ls st G) : WP X Γ pc ls (.int a :: st) G := by
  obtain ⟨p, l, e, R, s, m, args, below, meth, c, Q, A, nL, cs, sl⟩ := X
  obtain ⟨hx, hb, hml, hown, hts, hK, hinj, hA, hSt, hF, hL, hcs, hsl⟩ := hX
  subst hq
  intro H locs la hP hS hl
  exact lv_if_gt hx hb d ht (fun h => kt h H locs la hP hS hl) (fun h => kf h H locs la hP hS hl)

theorem r_icmp_le {X : XT} {Γ : Gam} {cc : ByteArray} {own : String} {F L : Nat} (hX : OKX X Γ cc own F L) {pc q : Nat} {ls : List (Option Value)} {st : List Value} {G : GG} {a b : Int32} {off : Int} {tgt : Nat} (d : decode cc pc = .ok (.if_icmp .le off, 3)) (hq : pc + 3 = q) (ht : (pc : Int) + off = (tgt : Int)) (kt : a ≤ b → WP X Γ tgt ls st G) (kf : ¬ a ≤ b → WP X Γ q ls st G) : WP X Γ pc ls (.int b :: .int a :: st) G := by
  obtain ⟨p, l, e, R, s, m, args, below, meth, c, Q, A, nL, cs, sl⟩ := X
  obtain ⟨hx, hb, hml, hown, hts, hK, hinj, hA, hSt, hF, hL, hcs, hsl⟩ := hX
  subst hq
  intro H locs la hP hS hl
  exact lv_icmp_le hx hb d ht (fun h => kt h H locs la hP hS hl) (fun h => kf h H locs la hP hS hl)

theorem r_if_le {X : XT} {Γ : Gam} {cc : ByteArray} {own : String} {F L : Nat} (hX : OKX X Γ cc own F L) {pc q : Nat} {ls : List (Option Value)} {st : List Value} {G : GG} {a : Int32} {off : Int} {tgt : Nat} (d : decode cc pc = .ok (.ifCond .le off, 3)) (hq : pc + 3 = q) (ht : (pc : Int) + off = (tgt : Int)) (kt : a ≤ 0 → WP X Γ tgt ls st G) (kf : ¬ a ≤ 0 → WP X Γ q ls st G) : WP X Γ pc ls (.int a :: st) G := by
  obtain ⟨p, l, e, R, s, m, args, below, meth, c, Q, A, nL, cs, sl⟩ := X
  obtain ⟨hx, hb, hml, hown, hts, hK, hinj, hA, hSt, hF, hL, hcs, hsl⟩ := hX
  subst hq
  intro H locs la hP hS hl
  exact lv_if_le hx hb d ht (fun h => kt h H locs la hP hS hl) (fun h => kf h H locs la hP hS hl)

def bi (b : Bool) : Int32 := if b then 1 else 0
theorem bi_t : bi true = 1 := rfl
theorem bi_f : bi false = 0 := rfl
theorem bi_0 {b : Bool} (h : bi b = 0) : b = false := by cases b <;> simp_all [bi]
theorem bi_n {b : Bool} (h : ¬ bi b = 0) : b = true := by cases b <;> simp_all [bi]
theorem bi_nar (b : Bool) : narrow .boolean (.int (bi b)) = .int (bi b) := by cases b <;> rfl
theorem bi_fit (b : Bool) : fits .boolean (.int (bi b)) = true := by cases b <;> rfl

theorem r_ifb_eq {X : XT} {Γ : Gam} {cc : ByteArray} {own : String} {F L : Nat} (hX : OKX X Γ cc own F L) {pc q : Nat} {ls : List (Option Value)} {st : List Value} {G : GG} {b : Bool} {off : Int} {tgt : Nat} (d : decode cc pc = .ok (.ifCond .eq off, 3)) (hq : pc + 3 = q) (ht : (pc : Int) + off = (tgt : Int)) (kt : b = false → WP X Γ tgt ls st G) (kf : b = true → WP X Γ q ls st G) : WP X Γ pc ls (.int (bi b) :: st) G :=
  r_if_eq hX d hq ht (fun h => kt (bi_0 h)) (fun h => kf (bi_n h))

theorem r_ifb_ne {X : XT} {Γ : Gam} {cc : ByteArray} {own : String} {F L : Nat} (hX : OKX X Γ cc own F L) {pc q : Nat} {ls : List (Option Value)} {st : List Value} {G : GG} {b : Bool} {off : Int} {tgt : Nat} (d : decode cc pc = .ok (.ifCond .ne off, 3)) (hq : pc + 3 = q) (ht : (pc : Int) + off = (tgt : Int)) (kt : b = true → WP X Γ tgt ls st G) (kf : b = false → WP X Γ q ls st G) : WP X Γ pc ls (.int (bi b) :: st) G :=
  r_if_ne hX d hq ht (fun h => kt (bi_n h)) (fun h => kf (bi_0 h))

theorem r_goto {X : XT} {Γ : Gam} {cc : ByteArray} {own : String} {F L : Nat} (hX : OKX X Γ cc own F L) {pc : Nat} {ls : List (Option Value)} {st : List Value} {G : GG} {off : Int} {tgt : Nat} (d : decode cc pc = .ok (.goto off, 3)) (ht : (pc : Int) + off = (tgt : Int)) (k : WP X Γ tgt ls st G) : WP X Γ pc ls st G := by
  obtain ⟨p, l, e, R, s, m, args, below, meth, c, Q, A, nL, cs, sl⟩ := X
  obtain ⟨hx, hb, -⟩ := hX
  intro H locs la hP hS hl
  exact lv_goto hx hb d ht (k H locs la hP hS hl)
theorem r_tabIn {X : XT} {Γ : Gam} {cc : ByteArray} {own : String} {F L : Nat} (hX : OKX X Γ cc own F L) {pc : Nat} {ls : List (Option Value)} {st : List Value} {G : GG} {dflt lo hi : Int} {offs : Array Int} {len : Nat} {x : Int32} {off : Int} {tgt : Nat} (d : decode cc pc = .ok (.tableswitch dflt lo hi offs, len)) {v : Int} (hv : x.toInt = v) (h1 : ¬ v < lo) (h2 : ¬ hi < v) (ho : offs[(v - lo).toNat]? = some off) (ht : (pc : Int) + off = (tgt : Int)) (k : WP X Γ tgt ls st G) : WP X Γ pc ls (.int x :: st) G := by
  obtain ⟨p, l, e, R, s, m, args, below, meth, c, Q, A, nL, cs, sl⟩ := X
  obtain ⟨hx, hb, -⟩ := hX
  subst hv
  intro H locs la hP hS hl
  exact lv_tableIn hx hb d h1 h2 ho ht (k H locs la hP hS hl)
theorem r_tabOut {X : XT} {Γ : Gam} {cc : ByteArray} {own : String} {F L : Nat} (hX : OKX X Γ cc own F L) {pc : Nat} {ls : List (Option Value)} {st : List Value} {G : GG} {dflt lo hi : Int} {offs : Array Int} {len : Nat} {x : Int32} {tgt : Nat} (d : decode cc pc = .ok (.tableswitch dflt lo hi offs, len)) (h : x.toInt < lo ∨ hi < x.toInt) (ht : (pc : Int) + dflt = (tgt : Int)) (k : WP X Γ tgt ls st G) : WP X Γ pc ls (.int x :: st) G := by
  obtain ⟨p, l, e, R, s, m, args, below, meth, c, Q, A, nL, cs, sl⟩ := X
  obtain ⟨hx, hb, -⟩ := hX
  intro H locs la hP hS hl
  exact lv_tableOut hx hb d h ht (k H locs la hP hS hl)
theorem r_look {X : XT} {Γ : Gam} {cc : ByteArray} {own : String} {F L : Nat} (hX : OKX X Γ cc own F L) {pc : Nat} {ls : List (Option Value)} {st : List Value} {G : GG} {dflt : Int} {ps : Array (Int × Int)} {len : Nat} {x : Int32} {off : Int} {tgt : Nat} (d : decode cc pc = .ok (.lookupswitch dflt ps, len)) (hp : (ps.toList.zip (ps.toList.drop 1)).all (fun (a, next) => a.1 < next.1) = true) (ho : Op.lookupswitch.offset ps.toList dflt x.toInt = off) (ht : (pc : Int) + off = (tgt : Int)) (k : WP X Γ tgt ls st G) : WP X Γ pc ls (.int x :: st) G := by
  obtain ⟨p, l, e, R, s, m, args, below, meth, c, Q, A, nL, cs, sl⟩ := X
  obtain ⟨hx, hb, -⟩ := hX
  intro H locs la hP hS hl
  exact lv_lookup hx hb d hp ho ht (k H locs la hP hS hl)

/-- a field's link: its class's number and its place in it -/
def FL (own : String) (index ci k : Nat) : Prop := ∃ (C : String) (T : u_T) (N : Nat) (ty : Nat → FieldType), vwCl[ci]? = some (C, T, N) ∧ k < N ∧ Cond.fieldLink own index (T k).1 (T k).2.1 (T k).2.2.1 ∈ TB ∧ (∀ w ∈ u_ws C T N, w ∈ TB) ∧ (∀ k, k < N → parseFieldDescriptor (T k).2.2.1 = some (ty k)) ∧ (∀ a, a < N → ∀ b, b < N → a ≠ b → (T a).2.1 ≠ (T b).2.1)
/-- it may be written, and is an int (or a boolean) -/
def FW (ci k : Nat) (ty : FieldType) : Prop := ∃ (C : String) (T : u_T) (N : Nat), vwCl[ci]? = some (C, T, N) ∧ (T k).2.2.2 = false ∧ parseFieldDescriptor (T k).2.2.1 = some ty
theorem shp_obj {Γ : Gam} {g : Nat → Int32} {c ci n : Nat} (h : lay c = (ci, n)) (hci : ci < 7) : shp Γ g c = .inr (ci, (List.range n).map (fvl Γ g c)) := by
  unfold shp
  rw [h]
  match ci, hci with
  | 0, _ => rfl
  | 1, _ => rfl
  | 2, _ => rfl
  | 3, _ => rfl
  | 4, _ => rfl
  | 5, _ => rfl
  | 6, _ => rfl
theorem shp_arr {Γ : Gam} {g : Nat → Int32} {c n : Nat} (h : lay c = (7, n)) : shp Γ g c = .inl (gI Γ, n, .inl g) := by
  unfold shp
  rw [h]
  rfl

theorem r_getI {X : XT} {Γ : Gam} {cc : ByteArray} {own : String} {F L : Nat} (hX : OKX X Γ cc own F L) {pc q : Nat} {ls : List (Option Value)} {st : List Value} {G : GG} {index ci n c0 f0 : Nat} (d : decode cc pc = .ok (.getfield index, 3)) (hq : pc + 3 = q) (hf : FL own index ci f0) (hl0 : lay c0 = (ci, n)) (hr : ci < 7 ∧ f0 < n ∧ rfOf c0 f0 = none) (k : WP X Γ q ls (.int (G c0 f0) :: st) G) : WP X Γ pc ls (.ref (gad Γ c0) :: st) G := by
  obtain ⟨p, l, e, R, s, m, args, below, meth, cd, Q, A, nL, cs, sl⟩ := X
  obtain ⟨hx, hb, hml, hown, hts, hK, hinj, hA, hSt, hF, hL, hcs, hsl⟩ := hX
  subst hq
  intro H locs la hP hS hl
  obtain ⟨C, T, N, ty, h1, h2, h3, h4, h5, h6⟩ := hf
  have hc56 := lay_lt hl0 (by have := hr.1; show ci ≠ 9; omega)
  exact va_get hx hb hts h4 hown hK hP c0 (by rw [cw_at hc56, shp_obj hl0 hr.1]) h1 _ h2 (hts _ h3) (fun _ h9 => h9) (by rw [List.getElem?_map, List.getElem?_range hr.2.1]; simp [fvl, hr.2.2]) d (k H locs la hP hS hl)
theorem r_getR {X : XT} {Γ : Gam} {cc : ByteArray} {own : String} {F L : Nat} (hX : OKX X Γ cc own F L) {pc q : Nat} {ls : List (Option Value)} {st : List Value} {G : GG} {index ci n c0 f0 c' : Nat} (d : decode cc pc = .ok (.getfield index, 3)) (hq : pc + 3 = q) (hf : FL own index ci f0) (hl0 : lay c0 = (ci, n)) (hr : ci < 7 ∧ f0 < n ∧ rfOf c0 f0 = some c') (k : WP X Γ q ls (.ref (gad Γ c') :: st) G) : WP X Γ pc ls (.ref (gad Γ c0) :: st) G := by
  obtain ⟨p, l, e, R, s, m, args, below, meth, cd, Q, A, nL, cs, sl⟩ := X
  obtain ⟨hx, hb, hml, hown, hts, hK, hinj, hA, hSt, hF, hL, hcs, hsl⟩ := hX
  subst hq
  intro H locs la hP hS hl
  obtain ⟨C, T, N, ty, h1, h2, h3, h4, h5, h6⟩ := hf
  have hc56 := lay_lt hl0 (by have := hr.1; show ci ≠ 9; omega)
  exact va_get hx hb hts h4 hown hK hP c0 (by rw [cw_at hc56, shp_obj hl0 hr.1]) h1 _ h2 (hts _ h3) (fun _ h9 => h9) (by rw [List.getElem?_map, List.getElem?_range hr.2.1]; simp [fvl, hr.2.2]) d (k H locs la hP hS hl)
theorem fs_set {Γ : Gam} {g : Nat → Int32} {c n k : Nat} {v : Int32} (hr : rfOf c k = none) : ((List.range n).map (fvl Γ g c)).set k (.int v) = (List.range n).map (fvl Γ (upd g k v) c) := by
  apply List.ext_getElem?
  intro j
  rw [List.getElem?_set]
  by_cases hj : k = j
  · subst hj
    by_cases hk : k < n <;> simp [hk, fvl, hr, upd]
  · rw [if_neg hj]
    by_cases hk : j < n
    · simp only [List.getElem?_map, List.getElem?_range hk, Option.map_some, fvl]
      cases rfOf c j <;> simp [upd, Ne.symm hj]
    · simp [hk]
theorem r_put {X : XT} {Γ : Gam} {cc : ByteArray} {own : String} {F L : Nat} (hX : OKX X Γ cc own F L) {pc q : Nat} {ls : List (Option Value)} {st : List Value} {G : GG} {index ci n c0 f0 : Nat} {v : Int32} {tf : FieldType} (d : decode cc pc = .ok (.putfield index, 3)) (hq : pc + 3 = q) (hf : FL own index ci f0) (hw : FW ci f0 tf) (hn : narrow tf (.int v) = .int v) (hfit : fits tf (.int v) = true) (hl0 : lay c0 = (ci, n)) (hr : ci < 7 ∧ f0 < n ∧ rfOf c0 f0 = none) (kk : WP X Γ q ls st (up G c0 f0 v)) : WP X Γ pc ls (.int v :: .ref (gad Γ c0) :: st) G := by
  obtain ⟨p, l, e, R, s, m, args, below, meth, cd, Q, A, nL, cs, sl⟩ := X
  obtain ⟨hx, hb, hml, hown, hts, hK, hinj, hA, hSt, hF, hL, hcs, hsl⟩ := hX
  subst hq
  intro H locs la hP hS hl
  obtain ⟨C, T, N, ty, h1, h2, h3, h4, h5, h6⟩ := hf
  obtain ⟨C', T', N', g1, g2, g3⟩ := hw
  cases h1.symm.trans g1
  have hc56 := lay_lt hl0 (by have := hr.1; show ci ≠ 9; omega)
  have e0 := shp_obj (Γ := Γ) (g := G c0) hl0 hr.1
  refine va_put hx hb hts h4 ty h5 h6 hown hK hP (cw_D hinj hA) hS c0 (by rw [cw_at hc56, e0]) h1 _ h2 (hts _ h3) (fun _ h9 => h9) g2 g3 hn hfit (by simp [hr.2.1]) d (fun H1 locs1 p1 d1 s1 => ?_)
  rw [fs_set hr.2.2, ← shp_obj (Γ := Γ) (g := upd (G c0) f0 v) hl0 hr.1, cw_set hc56, up_upc] at p1
  exact kk H1 locs1 la p1 s1 hl
theorem r_iald {X : XT} {Γ : Gam} {cc : ByteArray} {own : String} {F L : Nat} (hX : OKX X Γ cc own F L) {pc q : Nat} {ls : List (Option Value)} {st : List Value} {G : GG} {n c0 : Nat} {i : Int32} (d : decode cc pc = .ok (.iaload, 1)) (hq : pc + 1 = q) (hl0 : lay c0 = (7, n)) (hi : vp_in i n) (k : WP X Γ q ls (.int (G c0 i.toNatClampNeg) :: st) G) : WP X Γ pc ls (.int i :: .ref (gad Γ c0) :: st) G := by
  obtain ⟨p, l, e, R, s, m, args, below, meth, cd, Q, A, nL, cs, sl⟩ := X
  obtain ⟨hx, hb, hml, hown, hts, hK, hinj, hA, hSt, hF, hL, hcs, hsl⟩ := hX
  subst hq
  intro H locs la hP hS hl
  exact va_iald hx hb hK hP c0 0 (by rw [cw_at (lay_lt hl0 (show (7 : Nat) ≠ 9 by decide)), shp_arr hl0]) rfl hi d (k H locs la hP hS hl)
theorem r_iast {X : XT} {Γ : Gam} {cc : ByteArray} {own : String} {F L : Nat} (hX : OKX X Γ cc own F L) {pc q : Nat} {ls : List (Option Value)} {st : List Value} {G : GG} {n c0 : Nat} {i v : Int32} (d : decode cc pc = .ok (.iastore, 1)) (hq : pc + 1 = q) (hl0 : lay c0 = (7, n)) (hi : vp_in i n) (k : WP X Γ q ls st (up G c0 i.toNatClampNeg v)) : WP X Γ pc ls (.int v :: .int i :: .ref (gad Γ c0) :: st) G := by
  obtain ⟨p, l, e, R, s, m, args, below, meth, cd, Q, A, nL, cs, sl⟩ := X
  obtain ⟨hx, hb, hml, hown, hts, hK, hinj, hA, hSt, hF, hL, hcs, hsl⟩ := hX
  subst hq
  intro H locs la hP hS hl
  have hc56 := lay_lt hl0 (show (7 : Nat) ≠ 9 by decide)
  refine va_iast hx hb hK hP (cw_D hinj hA) hS c0 0 (by rw [cw_at hc56, shp_arr hl0]) rfl hi d (fun H1 locs1 p1 d1 s1 => ?_)
  rw [← shp_arr (Γ := Γ) (g := upd (G c0) i.toNatClampNeg v) hl0, cw_set hc56, up_upc] at p1
  exact k H1 locs1 la p1 s1 hl
theorem r_ialdN {X : XT} {Γ : Gam} {cc : ByteArray} {own : String} {F L : Nat} (hX : OKX X Γ cc own F L) {pc q : Nat} {ls : List (Option Value)} {st : List Value} {G : GG} {n c0 j : Nat} {i : Int32} (d : decode cc pc = .ok (.iaload, 1)) (hq : pc + 1 = q) (hl0 : lay c0 = (7, n)) (hi : i = nI j) (hj : j < n) (hn : n < 2 ^ 31) (k : WP X Γ q ls (.int (G c0 j) :: st) G) : WP X Γ pc ls (.int i :: .ref (gad Γ c0) :: st) G := by
  subst hi
  refine r_iald hX d hq hl0 (vp_in_nI hj hn) ?_
  rw [nI_clamp (by omega)]
  exact k
theorem r_iastN {X : XT} {Γ : Gam} {cc : ByteArray} {own : String} {F L : Nat} (hX : OKX X Γ cc own F L) {pc q : Nat} {ls : List (Option Value)} {st : List Value} {G : GG} {n c0 j : Nat} {i v : Int32} (d : decode cc pc = .ok (.iastore, 1)) (hq : pc + 1 = q) (hl0 : lay c0 = (7, n)) (hi : i = nI j) (hj : j < n) (hn : n < 2 ^ 31) (k : WP X Γ q ls st (up G c0 j v)) : WP X Γ pc ls (.int v :: .int i :: .ref (gad Γ c0) :: st) G := by
  subst hi
  refine r_iast hX d hq hl0 (vp_in_nI hj hn) ?_
  rw [nI_clamp (by omega)]
  exact k
theorem r_aald {X : XT} {Γ : Gam} {cc : ByteArray} {own : String} {F L : Nat} (hX : OKX X Γ cc own F L) {pc q : Nat} {ls : List (Option Value)} {st : List Value} {G : GG} {j : Nat} {i : Int32} (d : decode cc pc = .ok (.aaload, 1)) (hq : pc + 1 = q) (hi : i = nI j) (hj : j < 4) (k : WP X Γ q ls (.ref (gad Γ (38 + 2 * j)) :: st) G) : WP X Γ pc ls (.int i :: .ref (gad Γ 37) :: st) G := by
  obtain ⟨p, l, e, R, s, m, args, below, meth, c, Q, A, nL, cs, sl⟩ := X
  obtain ⟨hx, hb, hml, hown, hts, hK, hinj, hA, hSt, hF, hL, hcs, hsl⟩ := hX
  subst hq
  intro H locs la hP hS hl
  subst hi
  refine va_aldq (f := fun j => some (gad Γ (38 + 2 * j))) (n := 4) (cA := gS Γ) (C := "PeaSpoons$Sheet") hx hb hK hP 37 1 (by rw [cw_at (by decide)]; rfl) rfl (vp_in_nI hj (by decide)) d ?_
  rw [nI_clamp (by omega)]
  exact k H locs la hP hS hl

theorem r_iret {X : XT} {Γ : Gam} {cc : ByteArray} {own : String} {F L : Nat} {post : Option Value → GG → Prop} (hX : OKX X Γ cc own F L) {pc : Nat} {ls : List (Option Value)} {G : GG} (hR : RX X Γ (some .int) post) {v : Int32} (d : decode cc pc = .ok (.ireturn, 1)) (hp : post (some (.int v)) G) : WP X Γ pc ls [.int v] G := by
  obtain ⟨p, l, e, R, s, m, args, below, meth, c, Q, A, nL, cs, sl⟩ := X
  obtain ⟨hx, hb, hml, hown, hts, hK, hinj, hA, hSt, hF, hL, hcs, hsl⟩ := hX
  obtain ⟨hr, hlk, rfl, rfl⟩ := hR
  intro H locs la hP hS hl
  exact W.iret hx hb hr (fun t ht hW => ⟨⟨_, G, rfl, hp, by rw [ht]; exact hP⟩, hS.F ht⟩) hS.2.2 d hlk
theorem r_zret {X : XT} {Γ : Gam} {cc : ByteArray} {own : String} {F L : Nat} {post : Option Value → GG → Prop} (hX : OKX X Γ cc own F L) {pc : Nat} {ls : List (Option Value)} {G : GG} (hR : RX X Γ (some .boolean) post) {b : Bool} (d : decode cc pc = .ok (.ireturn, 1)) (hp : post (some (.int (bi b))) G) : WP X Γ pc ls [.int (bi b)] G := by
  obtain ⟨p, l, e, R, s, m, args, below, meth, c, Q, A, nL, cs, sl⟩ := X
  obtain ⟨hx, hb, hml, hown, hts, hK, hinj, hA, hSt, hF, hL, hcs, hsl⟩ := hX
  obtain ⟨hr, hlk, rfl, rfl⟩ := hR
  intro H locs la hP hS hl
  exact W.zret hx hb hr (bi_nar b) (fun t ht hW => ⟨⟨_, G, rfl, hp, by rw [ht]; exact hP⟩, hS.F ht⟩) hS.2.2 d hlk
theorem r_vret {X : XT} {Γ : Gam} {cc : ByteArray} {own : String} {F L : Nat} {post : Option Value → GG → Prop} (hX : OKX X Γ cc own F L) {pc : Nat} {ls : List (Option Value)} {G : GG} (hR : RX X Γ none post) (d : decode cc pc = .ok (.return_, 1)) (hp : post none G) : WP X Γ pc ls [] G := by
  obtain ⟨p, l, e, R, s, m, args, below, meth, c, Q, A, nL, cs, sl⟩ := X
  obtain ⟨hx, hb, hml, hown, hts, hK, hinj, hA, hSt, hF, hL, hcs, hsl⟩ := hX
  obtain ⟨hr, hlk, rfl, rfl⟩ := hR
  intro H locs la hP hS hl
  exact W.vret hx hb hr (fun t ht hW => ⟨⟨_, G, rfl, hp, by rw [ht]; exact hP⟩, hS.F ht⟩) hS.2.2 d hlk
theorem r_aret {X : XT} {Γ : Gam} {cc : ByteArray} {own : String} {F L : Nat} {post : Option Value → GG → Prop} (hX : OKX X Γ cc own F L) {pc : Nat} {ls : List (Option Value)} {G : GG} {rt : FieldType} (hR : RX X Γ (some rt) post) (hrt : (∃ n, rt = .object n) ∨ ∃ t, rt = .array t) {a : Nat} (d : decode cc pc = .ok (.areturn, 1)) (hp : post (some (.ref a)) G) : WP X Γ pc ls [.ref a] G := by
  obtain ⟨p, l, e, R, s, m, args, below, meth, c, Q, A, nL, cs, sl⟩ := X
  obtain ⟨hx, hb, hml, hown, hts, hK, hinj, hA, hSt, hF, hL, hcs, hsl⟩ := hX
  obtain ⟨hr, hlk, rfl, rfl⟩ := hR
  intro H locs la hP hS hl
  exact W.aret hx hb hr hrt (Or.inr ⟨_, rfl⟩) (fun t ht hW => ⟨⟨_, G, rfl, hp, by rw [ht]; exact hP⟩, hS.F ht⟩) hS.2.2 d hlk

def MLw (y : MethodName) (cc : ByteArray) (maxL : Nat) (ret : Option FieldType) (n : Nat) : Prop := Cond.initialized y.cls ∈ TB ∧ Cond.code y cc maxL ret ∈ TB ∧ y.cls ≠ "java/lang/invoke/MethodHandle" ∧ y.cls ≠ "java/lang/invoke/VarHandle" ∧ (parseMethodDescriptor y.desc).map (fun d => d.parameters.length) = some n
def MLv (y : MethodName) : Prop := Cond.instanceMethod y ∈ TB ∧ Cond.selects y.cls y y ∈ TB
theorem ws_good {y : MethodName} {cc : ByteArray} {maxL : Nat} {ret : Option FieldType} (h : Cond.code y cc maxL ret ∈ TB) : GoodIn TB (Cond.code y cc maxL ret :: TB) := TB_good fun w hw => (List.mem_cons.mp hw).elim (fun q => q ▸ h) id
section GC
variable {p : Program} {l : Launch} {e : Env} {R : Room} {s : State} {m : MethodId} {args : Array Value} {below : List Frame} {meth : Method} {c : Code} {H : Heap} {locs : List Loc} {cs sl : Nat} {Q : State → Prop}
theorem g_call {pc : Nat} {la : Array Slot} {rest st0 : List Value} {a : Array Value} {A : Nat → Prop} {Γ : Gam} {post : Option Value → GG → Prop} (hr : va_Run p l e R s m args below meth c H locs cs sl 0 0 (F0 m pc la st0) rest (SpQ Γ post a) (gA Γ)) (hS : va_S A s.heap H locs) (hA : ∀ q, gA Γ q → A q)
    (kk : ∀ (r : Option Value) (G : GG) (H1 : Heap) (locs1 : List Loc), post r G → va_P (gD Γ) vwCl (cw Γ G) H1 → va_S A s.heap H1 locs1 → W p l e R s m args below meth c H1 locs1 cs sl Q (F0 m (pc + 3) la (r.toList ++ rest))) : W p l e R s m args below meth c H locs cs sl Q (F0 m pc la st0) := by
  intro T hT X
  obtain ⟨v, st₀, t, T', L, h0, X', hL, e1, e2, ⟨⟨r, G, hv, hp, hP⟩, hz, hk⟩, st⟩ := hr T hT X
  cases hv
  rw [h0] at hz hk
  obtain ⟨t2, a1, b1⟩ := kk v G T'.heap (locs ++ L) hp (by rw [e1]; exact hP)
    ⟨Nat.le_trans hS.1 (by rw [e1]; exact hz), fun q h1 h2 => by rw [e1, hk q (Nat.lt_of_lt_of_le h1 hS.1) (fun z => h2 (hA q z))]; exact hS.2.1 q h1 h2, fun q hq => by
      rcases List.mem_append.mp hq with h | h
      · exact hS.2.2 q h
      · exact hA _ (hL q h)⟩ T' rfl X'
  exact ⟨t2, st t2 a1, b1⟩
end GC
theorem gA_of {Γ : Gam} {A : Nat → Prop} (hA : ∀ c, c < 56 → A (gad Γ c)) : ∀ q, gA Γ q → A q := fun q h => by
  obtain ⟨c, h1, rfl⟩ := h
  exact hA c h1

theorem r_callV {X : XT} {Γ : Gam} {cc : ByteArray} {own : String} {F L : Nat} (hX : OKX X Γ cc own F L) {pc q : Nat} {ls : List (Option Value)} {G : GG} {y : MethodName} {bytes : ByteArray} {maxL fr lo n index : Nat} {ret : Option FieldType} {post : Option Value → GG → Prop} {As rest st : List Value} {c0 ci n0 : Nat} (d : decode cc pc = .ok (.invokevirtual index, 3)) (hq : pc + 3 = q) (hM : Sp X.2.1 y bytes maxL ret fr lo (.ref (gad Γ c0) :: As) Γ G post) (hl1 : Cond.methodLink own index y ∈ TB) (hl2 : MLw y bytes maxL ret n) (hl3 : MLv y) (hn : As.length = n) (hst : st = As.reverse ++ .ref (gad Γ c0) :: rest) (hl0 : lay c0 = (ci, n0)) (hci : ci < 7 ∧ (vwCl[ci]?).map (fun z => z.1) = some y.cls) (hroom : fr + 1 ≤ F ∧ 8 + (maxL + 11) + lo ≤ L) (hcat : (rest.map fun v => v.category).sum ≤ 8)
    (k : ∀ (r : Option Value) (G' : GG), post r G' → WP X Γ q ls (r.toList ++ rest) G') : WP X Γ pc ls st G := by
  obtain ⟨p, l, e, R, s, m, args, below, meth, c, Q, A, nL, cs, sl⟩ := X
  obtain ⟨hx, hb, hml, hown, hts, hK, hinj, hA, hSt, hF, hL, hcs, hsl⟩ := hX
  subst hq
  subst hF hL hst
  intro H locs la hP hS hl
  obtain ⟨g1, g2, g3⟩ := hl2
  have hc56 := lay_lt hl0 (by have := hci.1; show ci ≠ 9; omega)
  obtain ⟨qq, hq1, hq2⟩ : ∃ z : vw_C, vwCl[ci]? = some z ∧ z.1 = y.cls := by
    have h := hci.2
    cases hz : vwCl[ci]? with
    | none => rw [hz] at h; cases h
    | some z => rw [hz] at h; exact ⟨z, rfl, Option.some.inj h⟩
  have hrec := va_recv hK hP hq1 (q0 := c0) (by rw [cw_at hc56, shp_obj hl0 hci.1])
  rw [hq2] at hrec
  have cb := callB_of (args := args) (s := s) (R := R) (own := own) (index := index) (mc := 0) (ms := 0) (rm := rmOf fr lo) n hts (ws_good g2) rfl rfl rfl (hts _ g1) (hts _ hl1) g3 hroom
  exact g_call (va_runV ⟨hx, hb, hml, hown, hts⟩ hM ⟨cb, hts _ hl3.1, hts _ hl3.2⟩ ⟨Sp.blind, hrec, fun U hU hW => ⟨rfl, by rw [hU]; exact hP, va_K.moved hW.alike hK, hinj, (by rw [hU]; exact (hSt.to hW hS).narrow (gA_of hA))⟩⟩ rfl hn hl.1.1 rfl (lv_room hcat) d ⟨hcs, hsl⟩) hS (gA_of hA) (fun r G' H1 locs1 h1 h2 h3 => k r G' h1 H1 locs1 la h2 h3 hl)
theorem r_callS {X : XT} {Γ : Gam} {cc : ByteArray} {own : String} {F L : Nat} (hX : OKX X Γ cc own F L) {pc q : Nat} {ls : List (Option Value)} {G : GG} {y : MethodName} {bytes : ByteArray} {maxL fr lo n index : Nat} {ret : Option FieldType} {post : Option Value → GG → Prop} {As rest st : List Value} (d : decode cc pc = .ok (.invokestatic index, 3)) (hq : pc + 3 = q) (hM : Sp X.2.1 y bytes maxL ret fr lo As Γ G post) (hl1 : Cond.methodLink own index y ∈ TB) (hl2 : MLw y bytes maxL ret n) (hl3 : Cond.static y ∈ TB) (hn : As.length = n) (hst : st = As.reverse ++ rest) (hroom : fr + 1 ≤ F ∧ 8 + (maxL + 11) + lo ≤ L) (hcat : (rest.map fun v => v.category).sum ≤ 8)
    (k : ∀ (r : Option Value) (G' : GG), post r G' → WP X Γ q ls (r.toList ++ rest) G') : WP X Γ pc ls st G := by
  obtain ⟨p, l, e, R, s, m, args, below, meth, c, Q, A, nL, cs, sl⟩ := X
  obtain ⟨hx, hb, hml, hown, hts, hK, hinj, hA, hSt, hF, hL, hcs, hsl⟩ := hX
  subst hq
  subst hF hL hst
  intro H locs la hP hS hl
  obtain ⟨g1, g2, g3⟩ := hl2
  have cb := callB_of (args := args) (s := s) (R := R) (own := own) (index := index) (mc := 0) (ms := 0) (rm := rmOf fr lo) n hts (ws_good g2) rfl rfl rfl (hts _ g1) (hts _ hl1) g3 hroom
  exact g_call (va_runS ⟨hx, hb, hml, hown, hts⟩ hM ⟨cb, hts _ hl3⟩ ⟨Sp.blind, fun U hU hW => ⟨rfl, by rw [hU]; exact hP, va_K.moved hW.alike hK, hinj, (by rw [hU]; exact (hSt.to hW hS).narrow (gA_of hA))⟩⟩ rfl hn hl.1.1 rfl (lv_room hcat) d ⟨hcs, hsl⟩) hS (gA_of hA) (fun r G' H1 locs1 h1 h2 h3 => k r G' h1 H1 locs1 la h2 h3 hl)
theorem r_callN {X : XT} {Γ : Gam} {cc : ByteArray} {own : String} {F L : Nat} (hX : OKX X Γ cc own F L) {pc q : Nat} {ls : List (Option Value)} {G : GG} {y : MethodName} {bytes : ByteArray} {maxL fr lo n index : Nat} {ret : Option FieldType} {post : Option Value → GG → Prop} {As rest st : List Value} {host : String} (d : decode cc pc = .ok (.invokestatic index, 3)) (hq : pc + 3 = q) (hM : Sp X.2.1 y bytes maxL ret fr lo As Γ G post) (hl1 : Cond.methodLinkNest own index y host ∈ TB) (hl2 : MLw y bytes maxL ret n) (hl3 : Cond.static y ∈ TB) (hn : As.length = n) (hst : st = As.reverse ++ rest) (hroom : fr + 1 ≤ F ∧ 8 + (maxL + 11) + lo ≤ L) (hcat : (rest.map fun v => v.category).sum ≤ 8)
    (k : ∀ (r : Option Value) (G' : GG), post r G' → WP X Γ q ls (r.toList ++ rest) G') : WP X Γ pc ls st G := by
  obtain ⟨p, l, e, R, s, m, args, below, meth, c, Q, A, nL, cs, sl⟩ := X
  obtain ⟨hx, hb, hml, hown, hts, hK, hinj, hA, hSt, hF, hL, hcs, hsl⟩ := hX
  subst hq
  subst hF hL hst
  intro H locs la hP hS hl
  obtain ⟨g1, g2, g3⟩ := hl2
  have cb := va_cnB (args := args) (s := s) (R := R) (own := own) (host := host) (index := index) (mc := 0) (ms := 0) (rm := rmOf fr lo) n hts (ws_good g2) rfl rfl rfl (va_Nw.of rfl (hts _ hl1)) (hts _ g1) g3 hroom
  exact g_call (va_runSN ⟨hx, hb, hml, hown, hts⟩ hM ⟨cb, hts _ hl3, trivial⟩ ⟨Sp.blind, fun U hU hW => ⟨rfl, by rw [hU]; exact hP, va_K.moved hW.alike hK, hinj, (by rw [hU]; exact (hSt.to hW hS).narrow (gA_of hA))⟩⟩ rfl hn hl.1.1 rfl (lv_room hcat) d ⟨hcs, hsl⟩) hS (gA_of hA) (fun r G' H1 locs1 h1 h2 h3 => k r G' h1 H1 locs1 la h2 h3 hl)

theorem r_mmax {X : XT} {Γ : Gam} {cc : ByteArray} {own : String} {F L : Nat} (hX : OKX X Γ cc own F L) {pc q : Nat} {ls : List (Option Value)} {st : List Value} {G : GG} {a b : Int32} {index : Nat} (d : decode cc pc = .ok (.invokestatic index, 3)) (hq : pc + 3 = q) (hl1 : Cond.methodLink own index Lib.Math.max.name ∈ TB) (hl2 : Cond.static Lib.Math.max.name ∈ TB ∧ Cond.initialized "java/lang/Math" ∈ TB ∧ Cond.code Lib.Math.max.name Lib.Math.max.code 2 (some .int) ∈ TB) (hroom : 1 ≤ F ∧ (st.map fun v => v.category).sum + 13 ≤ L) (k : WP X Γ q ls (.int (imax a b) :: st) G) : WP X Γ pc ls (.int b :: .int a :: st) G := by
  obtain ⟨p, l, e, R, s, m, args, below, meth, c, Q, A, nL, cs, sl⟩ := X
  obtain ⟨hx, hb, hml, hown, hts, hK, hinj, hA, hSt, hF, hL, hcs, hsl⟩ := hX
  subst hq
  subst hF hL
  intro H locs la hP hS hl
  exact va_mmax hx hb (by rw [hml]; exact hl.1.1.symm) hown (hts _ hl1) (hts _ hl2.1) (hts _ hl2.2.1) (hts _ hl2.2.2) hroom.1 hroom.2 hcs hsl d (k H locs la hP hS hl)

theorem r_mmin {X : XT} {Γ : Gam} {cc : ByteArray} {own : String} {F L : Nat} (hX : OKX X Γ cc own F L) {pc q : Nat} {ls : List (Option Value)} {st : List Value} {G : GG} {a b : Int32} {index : Nat} (d : decode cc pc = .ok (.invokestatic index, 3)) (hq : pc + 3 = q) (hl1 : Cond.methodLink own index Lib.Math.min.name ∈ TB) (hl2 : Cond.static Lib.Math.min.name ∈ TB ∧ Cond.initialized "java/lang/Math" ∈ TB ∧ Cond.code Lib.Math.min.name Lib.Math.min.code 2 (some .int) ∈ TB) (hroom : 1 ≤ F ∧ (st.map fun v => v.category).sum + 13 ≤ L) (k : WP X Γ q ls (.int (imin a b) :: st) G) : WP X Γ pc ls (.int b :: .int a :: st) G := by
  obtain ⟨p, l, e, R, s, m, args, below, meth, c, Q, A, nL, cs, sl⟩ := X
  obtain ⟨hx, hb, hml, hown, hts, hK, hinj, hA, hSt, hF, hL, hcs, hsl⟩ := hX
  subst hq
  subst hF hL
  intro H locs la hP hS hl
  exact va_mmin hx hb (by rw [hml]; exact hl.1.1.symm) hown (hts _ hl1) (hts _ hl2.1) (hts _ hl2.2.1) (hts _ hl2.2.2) hroom.1 hroom.2 hcs hsl d (k H locs la hP hS hl)

abbrev Post : Type := Option Value → GG → Prop
def pI (P : Int32 → GG → Prop) : Post := fun r G' => ∃ v : Int32, r = some (.int v) ∧ P v G'
def pB (P : Bool → GG → Prop) : Post := fun r G' => ∃ b : Bool, r = some (.int (bi b)) ∧ P b G'
def pV (P : GG → Prop) : Post := fun r G' => r = none ∧ P G'
def eI (G : GG) (v : Int32) : Post := fun r G' => r = some (.int v) ∧ G' = G
def eB (G : GG) (b : Bool) : Post := fun r G' => r = some (.int (bi b)) ∧ G' = G
def eR (G : GG) (a : Nat) : Post := fun r G' => r = some (.ref a) ∧ G' = G
def eV (G : GG) : Post := fun r G' => r = none ∧ G' = G
section KS
variable {X : XT} {Γ : Gam} {q : Nat} {ls : List (Option Value)} {rest : List Value} {G : GG}
theorem kpI {P : Int32 → GG → Prop} (k : ∀ (v : Int32) (G' : GG), P v G' → WP X Γ q ls (.int v :: rest) G') : ∀ r G', pI P r G' → WP X Γ q ls (r.toList ++ rest) G' := by
  rintro _ G' ⟨v, rfl, h⟩
  exact k v G' h
theorem kpB {P : Bool → GG → Prop} (k : ∀ (v : Bool) (G' : GG), P v G' → WP X Γ q ls (.int (bi v) :: rest) G') : ∀ r G', pB P r G' → WP X Γ q ls (r.toList ++ rest) G' := by
  rintro _ G' ⟨v, rfl, h⟩
  exact k v G' h
theorem kpV {P : GG → Prop} (k : ∀ (G' : GG), P G' → WP X Γ q ls rest G') : ∀ r G', pV P r G' → WP X Γ q ls (r.toList ++ rest) G' := by
  rintro _ G' ⟨rfl, h⟩
  exact k G' h
theorem keI {v : Int32} (k : WP X Γ q ls (.int v :: rest) G) : ∀ r G', eI G v r G' → WP X Γ q ls (r.toList ++ rest) G' := by
  rintro _ _ ⟨rfl, rfl⟩
  exact k
theorem keB {v : Bool} (k : WP X Γ q ls (.int (bi v) :: rest) G) : ∀ r G', eB G v r G' → WP X Γ q ls (r.toList ++ rest) G' := by
  rintro _ _ ⟨rfl, rfl⟩
  exact k
theorem keR {a : Nat} (k : WP X Γ q ls (.ref a :: rest) G) : ∀ r G', eR G a r G' → WP X Γ q ls (r.toList ++ rest) G' := by
  rintro _ _ ⟨rfl, rfl⟩
  exact k
theorem keV (k : WP X Γ q ls rest G) : ∀ r G', eV G r G' → WP X Γ q ls (r.toList ++ rest) G' := by
  rintro _ _ ⟨rfl, rfl⟩
  exact k
end KS

theorem r_iincN0 {X : XT} {Γ : Gam} {cc : ByteArray} {own : String} {F L : Nat} (hX : OKX X Γ cc own F L) {pc q : Nat} {ls : List (Option Value)}  {st : List Value} {G : GG} {j : Nat} (d : decode cc pc = .ok (.iinc 0 1, 3)) (hq : pc + 3 = q) (hno : nolong (some (.int (nI j)) :: ls) = true) (k : WP X Γ q (some (.int (nI (j + 1))) :: ls) st G) : WP X Γ pc (some (.int (nI j)) :: ls) st G :=
  r_iinc0 hX d hq hno (nI_1 j) k

theorem r_iincN1 {X : XT} {Γ : Gam} {cc : ByteArray} {own : String} {F L : Nat} (hX : OKX X Γ cc own F L) {pc q : Nat} {ls : List (Option Value)} {a0 : Option Value}  {st : List Value} {G : GG} {j : Nat} (d : decode cc pc = .ok (.iinc 1 1, 3)) (hq : pc + 3 = q) (hno : nolong (a0 :: some (.int (nI j)) :: ls) = true) (k : WP X Γ q (a0 :: some (.int (nI (j + 1))) :: ls) st G) : WP X Γ pc (a0 :: some (.int (nI j)) :: ls) st G :=
  r_iinc1 hX d hq hno (nI_1 j) k

theorem r_iincN2 {X : XT} {Γ : Gam} {cc : ByteArray} {own : String} {F L : Nat} (hX : OKX X Γ cc own F L) {pc q : Nat} {ls : List (Option Value)} {a0 a1 : Option Value}  {st : List Value} {G : GG} {j : Nat} (d : decode cc pc = .ok (.iinc 2 1, 3)) (hq : pc + 3 = q) (hno : nolong (a0 :: a1 :: some (.int (nI j)) :: ls) = true) (k : WP X Γ q (a0 :: a1 :: some (.int (nI (j + 1))) :: ls) st G) : WP X Γ pc (a0 :: a1 :: some (.int (nI j)) :: ls) st G :=
  r_iinc2 hX d hq hno (nI_1 j) k

theorem r_iincN3 {X : XT} {Γ : Gam} {cc : ByteArray} {own : String} {F L : Nat} (hX : OKX X Γ cc own F L) {pc q : Nat} {ls : List (Option Value)} {a0 a1 a2 : Option Value}  {st : List Value} {G : GG} {j : Nat} (d : decode cc pc = .ok (.iinc 3 1, 3)) (hq : pc + 3 = q) (hno : nolong (a0 :: a1 :: a2 :: some (.int (nI j)) :: ls) = true) (k : WP X Γ q (a0 :: a1 :: a2 :: some (.int (nI (j + 1))) :: ls) st G) : WP X Γ pc (a0 :: a1 :: a2 :: some (.int (nI j)) :: ls) st G :=
  r_iinc3 hX d hq hno (nI_1 j) k

theorem r_iincN4 {X : XT} {Γ : Gam} {cc : ByteArray} {own : String} {F L : Nat} (hX : OKX X Γ cc own F L) {pc q : Nat} {ls : List (Option Value)} {a0 a1 a2 a3 : Option Value}  {st : List Value} {G : GG} {j : Nat} (d : decode cc pc = .ok (.iinc 4 1, 3)) (hq : pc + 3 = q) (hno : nolong (a0 :: a1 :: a2 :: a3 :: some (.int (nI j)) :: ls) = true) (k : WP X Γ q (a0 :: a1 :: a2 :: a3 :: some (.int (nI (j + 1))) :: ls) st G) : WP X Γ pc (a0 :: a1 :: a2 :: a3 :: some (.int (nI j)) :: ls) st G :=
  r_iinc4 hX d hq hno (nI_1 j) k

theorem r_iincN5 {X : XT} {Γ : Gam} {cc : ByteArray} {own : String} {F L : Nat} (hX : OKX X Γ cc own F L) {pc q : Nat} {ls : List (Option Value)} {a0 a1 a2 a3 a4 : Option Value}  {st : List Value} {G : GG} {j : Nat} (d : decode cc pc = .ok (.iinc 5 1, 3)) (hq : pc + 3 = q) (hno : nolong (a0 :: a1 :: a2 :: a3 :: a4 :: some (.int (nI j)) :: ls) = true) (k : WP X Γ q (a0 :: a1 :: a2 :: a3 :: a4 :: some (.int (nI (j + 1))) :: ls) st G) : WP X Γ pc (a0 :: a1 :: a2 :: a3 :: a4 :: some (.int (nI j)) :: ls) st G :=
  r_iinc5 hX d hq hno (nI_1 j) k

theorem r_iincN6 {X : XT} {Γ : Gam} {cc : ByteArray} {own : String} {F L : Nat} (hX : OKX X Γ cc own F L) {pc q : Nat} {ls : List (Option Value)} {a0 a1 a2 a3 a4 a5 : Option Value}  {st : List Value} {G : GG} {j : Nat} (d : decode cc pc = .ok (.iinc 6 1, 3)) (hq : pc + 3 = q) (hno : nolong (a0 :: a1 :: a2 :: a3 :: a4 :: a5 :: some (.int (nI j)) :: ls) = true) (k : WP X Γ q (a0 :: a1 :: a2 :: a3 :: a4 :: a5 :: some (.int (nI (j + 1))) :: ls) st G) : WP X Γ pc (a0 :: a1 :: a2 :: a3 :: a4 :: a5 :: some (.int (nI j)) :: ls) st G :=
  r_iinc6 hX d hq hno (nI_1 j) k

theorem r_iincN7 {X : XT} {Γ : Gam} {cc : ByteArray} {own : String} {F L : Nat} (hX : OKX X Γ cc own F L) {pc q : Nat} {ls : List (Option Value)} {a0 a1 a2 a3 a4 a5 a6 : Option Value}  {st : List Value} {G : GG} {j : Nat} (d : decode cc pc = .ok (.iinc 7 1, 3)) (hq : pc + 3 = q) (hno : nolong (a0 :: a1 :: a2 :: a3 :: a4 :: a5 :: a6 :: some (.int (nI j)) :: ls) = true) (k : WP X Γ q (a0 :: a1 :: a2 :: a3 :: a4 :: a5 :: a6 :: some (.int (nI (j + 1))) :: ls) st G) : WP X Γ pc (a0 :: a1 :: a2 :: a3 :: a4 :: a5 :: a6 :: some (.int (nI j)) :: ls) st G :=
  r_iinc7 hX d hq hno (nI_1 j) k

theorem r_iincN8 {X : XT} {Γ : Gam} {cc : ByteArray} {own : String} {F L : Nat} (hX : OKX X Γ cc own F L) {pc q : Nat} {ls : List (Option Value)} {a0 a1 a2 a3 a4 a5 a6 a7 : Option Value}  {st : List Value} {G : GG} {j : Nat} (d : decode cc pc = .ok (.iinc 8 1, 3)) (hq : pc + 3 = q) (hno : nolong (a0 :: a1 :: a2 :: a3 :: a4 :: a5 :: a6 :: a7 :: some (.int (nI j)) :: ls) = true) (k : WP X Γ q (a0 :: a1 :: a2 :: a3 :: a4 :: a5 :: a6 :: a7 :: some (.int (nI (j + 1))) :: ls) st G) : WP X Γ pc (a0 :: a1 :: a2 :: a3 :: a4 :: a5 :: a6 :: a7 :: some (.int (nI j)) :: ls) st G :=
  r_iinc8 hX d hq hno (nI_1 j) k

theorem r_iincN9 {X : XT} {Γ : Gam} {cc : ByteArray} {own : String} {F L : Nat} (hX : OKX X Γ cc own F L) {pc q : Nat} {ls : List (Option Value)} {a0 a1 a2 a3 a4 a5 a6 a7 a8 : Option Value}  {st : List Value} {G : GG} {j : Nat} (d : decode cc pc = .ok (.iinc 9 1, 3)) (hq : pc + 3 = q) (hno : nolong (a0 :: a1 :: a2 :: a3 :: a4 :: a5 :: a6 :: a7 :: a8 :: some (.int (nI j)) :: ls) = true) (k : WP X Γ q (a0 :: a1 :: a2 :: a3 :: a4 :: a5 :: a6 :: a7 :: a8 :: some (.int (nI (j + 1))) :: ls) st G) : WP X Γ pc (a0 :: a1 :: a2 :: a3 :: a4 :: a5 :: a6 :: a7 :: a8 :: some (.int (nI j)) :: ls) st G :=
  r_iinc9 hX d hq hno (nI_1 j) k

theorem r_iincN10 {X : XT} {Γ : Gam} {cc : ByteArray} {own : String} {F L : Nat} (hX : OKX X Γ cc own F L) {pc q : Nat} {ls : List (Option Value)} {a0 a1 a2 a3 a4 a5 a6 a7 a8 a9 : Option Value}  {st : List Value} {G : GG} {j : Nat} (d : decode cc pc = .ok (.iinc 10 1, 3)) (hq : pc + 3 = q) (hno : nolong (a0 :: a1 :: a2 :: a3 :: a4 :: a5 :: a6 :: a7 :: a8 :: a9 :: some (.int (nI j)) :: ls) = true) (k : WP X Γ q (a0 :: a1 :: a2 :: a3 :: a4 :: a5 :: a6 :: a7 :: a8 :: a9 :: some (.int (nI (j + 1))) :: ls) st G) : WP X Γ pc (a0 :: a1 :: a2 :: a3 :: a4 :: a5 :: a6 :: a7 :: a8 :: a9 :: some (.int (nI j)) :: ls) st G :=
  r_iinc10 hX d hq hno (nI_1 j) k

theorem r_icmpN_eq {X : XT} {Γ : Gam} {cc : ByteArray} {own : String} {F L : Nat} (hX : OKX X Γ cc own F L) {pc q : Nat} {ls : List (Option Value)} {st : List Value} {G : GG} {a b : Nat} {off : Int} {tgt : Nat} (d : decode cc pc = .ok (.if_icmp .eq off, 3)) (hq : pc + 3 = q) (ht : (pc : Int) + off = (tgt : Int)) (ha : a < 2 ^ 31) (hb : b < 2 ^ 31) (kt : a = b → WP X Γ tgt ls st G) (kf : ¬ a = b → WP X Γ q ls st G) : WP X Γ pc ls (.int (nI b) :: .int (nI a) :: st) G :=
  r_icmp_eq hX d hq ht (fun h => kt ((nI_eq ha hb).mp h)) (fun h => kf (fun z => h ((nI_eq ha hb).mpr z)))

theorem r_icmpN_ne {X : XT} {Γ : Gam} {cc : ByteArray} {own : String} {F L : Nat} (hX : OKX X Γ cc own F L) {pc q : Nat} {ls : List (Option Value)} {st : List Value} {G : GG} {a b : Nat} {off : Int} {tgt : Nat} (d : decode cc pc = .ok (.if_icmp .ne off, 3)) (hq : pc + 3 = q) (ht : (pc : Int) + off = (tgt : Int)) (ha : a < 2 ^ 31) (hb : b < 2 ^ 31) (kt : ¬ a = b → WP X Γ tgt ls st G) (kf : a = b → WP X Γ q ls st G) : WP X Γ pc ls (.int (nI b) :: .int (nI a) :: st) G :=
  r_icmp_ne hX d hq ht (fun h => kt (fun z => h ((nI_eq ha hb).mpr z))) (fun h => kf ((nI_eq ha hb).mp h))

theorem r_icmpN_lt {X : XT} {Γ : Gam} {cc : ByteArray} {own : String} {F L : Nat} (hX : OKX X Γ cc own F L) {pc q : Nat} {ls : List (Option Value)} {st : List Value} {G : GG} {a b : Nat} {off : Int} {tgt : Nat} (d : decode cc pc = .ok (.if_icmp .lt off, 3)) (hq : pc + 3 = q) (ht : (pc : Int) + off = (tgt : Int)) (ha : a < 2 ^ 31) (hb : b < 2 ^ 31) (kt : a < b → WP X Γ tgt ls st G) (kf : b ≤ a → WP X Γ q ls st G) : WP X Γ pc ls (.int (nI b) :: .int (nI a) :: st) G :=
  r_icmp_lt hX d hq ht (fun h => kt ((nI_ltI ha hb).mp h)) (fun h => kf (Nat.not_lt.mp fun z => h ((nI_ltI ha hb).mpr z)))

theorem r_icmpN_ge {X : XT} {Γ : Gam} {cc : ByteArray} {own : String} {F L : Nat} (hX : OKX X Γ cc own F L) {pc q : Nat} {ls : List (Option Value)} {st : List Value} {G : GG} {a b : Nat} {off : Int} {tgt : Nat} (d : decode cc pc = .ok (.if_icmp .ge off, 3)) (hq : pc + 3 = q) (ht : (pc : Int) + off = (tgt : Int)) (ha : a < 2 ^ 31) (hb : b < 2 ^ 31) (kt : b ≤ a → WP X Γ tgt ls st G) (kf : a < b → WP X Γ q ls st G) : WP X Γ pc ls (.int (nI b) :: .int (nI a) :: st) G :=
  r_icmp_ge hX d hq ht (fun h => kt ((nI_leI hb ha).mp h)) (fun h => kf (Nat.not_le.mp fun z => h ((nI_leI hb ha).mpr z)))

theorem r_icmpN_gt {X : XT} {Γ : Gam} {cc : ByteArray} {own : String} {F L : Nat} (hX : OKX X Γ cc own F L) {pc q : Nat} {ls : List (Option Value)} {st : List Value} {G : GG} {a b : Nat} {off : Int} {tgt : Nat} (d : decode cc pc = .ok (.if_icmp .gt off, 3)) (hq : pc + 3 = q) (ht : (pc : Int) + off = (tgt : Int)) (ha : a < 2 ^ 31) (hb : b < 2 ^ 31) (kt : b < a → WP X Γ tgt ls st G) (kf : a ≤ b → WP X Γ q ls st G) : WP X Γ pc ls (.int (nI b) :: .int (nI a) :: st) G :=
  r_icmp_gt hX d hq ht (fun h => kt ((nI_ltI hb ha).mp h)) (fun h => kf (Nat.not_lt.mp fun z => h ((nI_ltI hb ha).mpr z)))

theorem r_icmpN_le {X : XT} {Γ : Gam} {cc : ByteArray} {own : String} {F L : Nat} (hX : OKX X Γ cc own F L) {pc q : Nat} {ls : List (Option Value)} {st : List Value} {G : GG} {a b : Nat} {off : Int} {tgt : Nat} (d : decode cc pc = .ok (.if_icmp .le off, 3)) (hq : pc + 3 = q) (ht : (pc : Int) + off = (tgt : Int)) (ha : a < 2 ^ 31) (hb : b < 2 ^ 31) (kt : a ≤ b → WP X Γ tgt ls st G) (kf : b < a → WP X Γ q ls st G) : WP X Γ pc ls (.int (nI b) :: .int (nI a) :: st) G :=
  r_icmp_le hX d hq ht (fun h => kt ((nI_leI ha hb).mp h)) (fun h => kf (Nat.not_le.mp fun z => h ((nI_leI ha hb).mpr z)))

theorem r_ifd_eq {X : XT} {Γ : Gam} {cc : ByteArray} {own : String} {F L : Nat} (hX : OKX X Γ cc own F L) {pc q : Nat} {ls : List (Option Value)} {st : List Value} {G : GG} {P : Prop} [Decidable P] {off : Int} {tgt : Nat} (d : decode cc pc = .ok (.ifCond .eq off, 3)) (hq : pc + 3 = q) (ht : (pc : Int) + off = (tgt : Int)) (kt : ¬ P → WP X Γ tgt ls st G) (kf : P → WP X Γ q ls st G) : WP X Γ pc ls (.int (bi (decide P)) :: st) G :=
  r_ifb_eq hX d hq ht (fun h => kt (of_decide_eq_false h)) (fun h => kf (of_decide_eq_true h))

theorem r_ifd_ne {X : XT} {Γ : Gam} {cc : ByteArray} {own : String} {F L : Nat} (hX : OKX X Γ cc own F L) {pc q : Nat} {ls : List (Option Value)} {st : List Value} {G : GG} {P : Prop} [Decidable P] {off : Int} {tgt : Nat} (d : decode cc pc = .ok (.ifCond .ne off, 3)) (hq : pc + 3 = q) (ht : (pc : Int) + off = (tgt : Int)) (kt : P → WP X Γ tgt ls st G) (kf : ¬ P → WP X Γ q ls st G) : WP X Γ pc ls (.int (bi (decide P)) :: st) G :=
  r_ifb_ne hX d hq ht (fun h => kt (of_decide_eq_true h)) (fun h => kf (of_decide_eq_false h))

theorem r_zret1 {X : XT} {Γ : Gam} {cc : ByteArray} {own : String} {F L : Nat} {post : Option Value → GG → Prop} (hX : OKX X Γ cc own F L) {pc : Nat} {ls : List (Option Value)} {G : GG} (hR : RX X Γ (some .boolean) post) (d : decode cc pc = .ok (.ireturn, 1)) (hp : post (some (.int (bi true))) G) : WP X Γ pc ls [.int (nI 1)] G := r_zret hX hR (b := true) d hp
theorem r_zret0 {X : XT} {Γ : Gam} {cc : ByteArray} {own : String} {F L : Nat} {post : Option Value → GG → Prop} (hX : OKX X Γ cc own F L) {pc : Nat} {ls : List (Option Value)} {G : GG} (hR : RX X Γ (some .boolean) post) (d : decode cc pc = .ok (.ireturn, 1)) (hp : post (some (.int (bi false))) G) : WP X Γ pc ls [.int (nI 0)] G := r_zret hX hR (b := false) d hp
theorem ch_lay {i j : Nat} {z : Nat × Nat} (hi : i < 3) (hj : j < 10) (h : layC[j]? = some z) : lay (ch i j) = z := by
  have key : ∀ a, a < 3 → ∀ b, b < 10 → layC[b]? = some (lay (ch a b)) := by decide +kernel
  exact Option.some.inj ((key i hi j hj).symm.trans h)
theorem sh_lay {s : Nat} (hs : s < 4) : lay (38 + 2 * s) = (2, 3) ∧ lay (38 + 2 * s + 1) = (7, 40) ∧ rfOf (38 + 2 * s) 0 = some (38 + 2 * s + 1) := by
  have key : ∀ s, s < 4 → lay (38 + 2 * s) = (2, 3) ∧ lay (38 + 2 * s + 1) = (7, 40) ∧ rfOf (38 + 2 * s) 0 = some (38 + 2 * s + 1) := by decide +kernel
  exact key s hs

theorem rC_0 {i : Nat} (hi : i < 3) : (0 : Nat) < 7 ∧ 0 < 14 ∧ rfOf (ch i 0) 0 = some (ch i 1) := by
  have key : ∀ a, a < 3 → rfOf (ch a 0) 0 = some (ch a 1) := by decide +kernel
  exact ⟨by decide, by decide, key i hi⟩

theorem rC_1 {i : Nat} (hi : i < 3) : (0 : Nat) < 7 ∧ 1 < 14 ∧ rfOf (ch i 0) 1 = some (ch i 2) := by
  have key : ∀ a, a < 3 → rfOf (ch a 0) 1 = some (ch a 2) := by decide +kernel
  exact ⟨by decide, by decide, key i hi⟩

theorem rC_2 {i : Nat} (hi : i < 3) : (0 : Nat) < 7 ∧ 2 < 14 ∧ rfOf (ch i 0) 2 = some (ch i 3) := by
  have key : ∀ a, a < 3 → rfOf (ch a 0) 2 = some (ch a 3) := by decide +kernel
  exact ⟨by decide, by decide, key i hi⟩

theorem rC_3 {i : Nat} (hi : i < 3) : (0 : Nat) < 7 ∧ 3 < 14 ∧ rfOf (ch i 0) 3 = none := by
  have key : ∀ a, a < 3 → rfOf (ch a 0) 3 = none := by decide +kernel
  exact ⟨by decide, by decide, key i hi⟩

theorem rC_4 {i : Nat} (hi : i < 3) : (0 : Nat) < 7 ∧ 4 < 14 ∧ rfOf (ch i 0) 4 = none := by
  have key : ∀ a, a < 3 → rfOf (ch a 0) 4 = none := by decide +kernel
  exact ⟨by decide, by decide, key i hi⟩

theorem rC_5 {i : Nat} (hi : i < 3) : (0 : Nat) < 7 ∧ 5 < 14 ∧ rfOf (ch i 0) 5 = none := by
  have key : ∀ a, a < 3 → rfOf (ch a 0) 5 = none := by decide +kernel
  exact ⟨by decide, by decide, key i hi⟩

theorem rC_6 {i : Nat} (hi : i < 3) : (0 : Nat) < 7 ∧ 6 < 14 ∧ rfOf (ch i 0) 6 = none := by
  have key : ∀ a, a < 3 → rfOf (ch a 0) 6 = none := by decide +kernel
  exact ⟨by decide, by decide, key i hi⟩

theorem rC_7 {i : Nat} (hi : i < 3) : (0 : Nat) < 7 ∧ 7 < 14 ∧ rfOf (ch i 0) 7 = none := by
  have key : ∀ a, a < 3 → rfOf (ch a 0) 7 = none := by decide +kernel
  exact ⟨by decide, by decide, key i hi⟩

theorem rC_8 {i : Nat} (hi : i < 3) : (0 : Nat) < 7 ∧ 8 < 14 ∧ rfOf (ch i 0) 8 = none := by
  have key : ∀ a, a < 3 → rfOf (ch a 0) 8 = none := by decide +kernel
  exact ⟨by decide, by decide, key i hi⟩

theorem rC_9 {i : Nat} (hi : i < 3) : (0 : Nat) < 7 ∧ 9 < 14 ∧ rfOf (ch i 0) 9 = some (ch i 4) := by
  have key : ∀ a, a < 3 → rfOf (ch a 0) 9 = some (ch a 4) := by decide +kernel
  exact ⟨by decide, by decide, key i hi⟩

theorem rC_10 {i : Nat} (hi : i < 3) : (0 : Nat) < 7 ∧ 10 < 14 ∧ rfOf (ch i 0) 10 = none := by
  have key : ∀ a, a < 3 → rfOf (ch a 0) 10 = none := by decide +kernel
  exact ⟨by decide, by decide, key i hi⟩

theorem rC_11 {i : Nat} (hi : i < 3) : (0 : Nat) < 7 ∧ 11 < 14 ∧ rfOf (ch i 0) 11 = some (ch i 8) := by
  have key : ∀ a, a < 3 → rfOf (ch a 0) 11 = some (ch a 8) := by decide +kernel
  exact ⟨by decide, by decide, key i hi⟩

theorem rC_12 {i : Nat} (hi : i < 3) : (0 : Nat) < 7 ∧ 12 < 14 ∧ rfOf (ch i 0) 12 = none := by
  have key : ∀ a, a < 3 → rfOf (ch a 0) 12 = none := by decide +kernel
  exact ⟨by decide, by decide, key i hi⟩

theorem rC_13 {i : Nat} (hi : i < 3) : (0 : Nat) < 7 ∧ 13 < 14 ∧ rfOf (ch i 0) 13 = some (ch i 9) := by
  have key : ∀ a, a < 3 → rfOf (ch a 0) 13 = some (ch a 9) := by decide +kernel
  exact ⟨by decide, by decide, key i hi⟩

theorem rP_0 {i : Nat} (hi : i < 3) : (1 : Nat) < 7 ∧ 0 < 4 ∧ rfOf (ch i 4) 0 = some (ch i 5) := by
  have key : ∀ a, a < 3 → rfOf (ch a 4) 0 = some (ch a 5) := by decide +kernel
  exact ⟨by decide, by decide, key i hi⟩

theorem rP_1 {i : Nat} (hi : i < 3) : (1 : Nat) < 7 ∧ 1 < 4 ∧ rfOf (ch i 4) 1 = some (ch i 6) := by
  have key : ∀ a, a < 3 → rfOf (ch a 4) 1 = some (ch a 6) := by decide +kernel
  exact ⟨by decide, by decide, key i hi⟩

theorem rP_2 {i : Nat} (hi : i < 3) : (1 : Nat) < 7 ∧ 2 < 4 ∧ rfOf (ch i 4) 2 = some (ch i 7) := by
  have key : ∀ a, a < 3 → rfOf (ch a 4) 2 = some (ch a 7) := by decide +kernel
  exact ⟨by decide, by decide, key i hi⟩

theorem rP_3 {i : Nat} (hi : i < 3) : (1 : Nat) < 7 ∧ 3 < 4 ∧ rfOf (ch i 4) 3 = none := by
  have key : ∀ a, a < 3 → rfOf (ch a 4) 3 = none := by decide +kernel
  exact ⟨by decide, by decide, key i hi⟩

theorem e_add {a b : Int32} {m n : Nat} (h1 : a = nI m) (h2 : b = nI n) : a + b = nI (m + n) := by rw [h1, h2, nI_add]
theorem e_mul {a b : Int32} {m n : Nat} (h1 : a = nI m) (h2 : b = nI n) : a * b = nI (m * n) := by rw [h1, h2, pk_mul]
theorem e_sub {a b : Int32} {m n : Nat} (h1 : a = nI m) (h2 : b = nI n) (h : n ≤ m) : a - b = nI (m - n) := by rw [h1, h2, pk_sub h]
/-- a case of a switch split off -/
theorem r_tabCase {X : XT} {Γ : Gam} {cc : ByteArray} {own : String} {F L : Nat} (hX : OKX X Γ cc own F L) {pc : Nat} {ls : List (Option Value)} {st : List Value} {G : GG} {dflt lo hi : Int} {offs : Array Int} {len : Nat} {x : Int32} {off : Int} {tgt : Nat} (d : decode cc pc = .ok (.tableswitch dflt lo hi offs, len)) (v : Nat) (h0 : ¬ (v : Int) < lo ∧ ¬ hi < (v : Int) ∧ v < 2 ^ 31 ∧ offs[((v : Int) - lo).toNat]? = some off ∧ (pc : Int) + off = (tgt : Int)) (kt : x = nI v → WP X Γ tgt ls st G) (kf : ¬ x = nI v → WP X Γ pc ls (.int x :: st) G) : WP X Γ pc ls (.int x :: st) G := by
  by_cases h : x = nI v
  · exact r_tabIn hX d (v := (v : Int)) (by rw [h]; exact nI_toInt h0.2.2.1) h0.1 h0.2.1 h0.2.2.2.1 h0.2.2.2.2 (kt h)
  · exact kf h
theorem nI_neT {x : Int32} {v : Nat} (h : ¬ x = nI v) (hv : v < 2 ^ 31) : ¬ x.toInt = (v : Int) := lv_neT h (nI_toInt hv)
theorem r_drop {X : XT} {Γ : Gam} {pc : Nat} {ls ls' : List (Option Value)} {st : List Value} {G : GG} (hlen : ls'.length = ls.length) (h : ∀ (i : Nat) (v : Value), ls'[i]? = some (some v) → ls[i]? = some (some v)) (k : WP X Γ pc ls' st G) : WP X Γ pc ls st G := by
  obtain ⟨p, l, e, R, s, m, args, below, meth, c, Q, A, nL, cs, sl⟩ := X
  intro H locs la hP hS hl
  exact k H locs la hP hS ⟨⟨hl.1.1, hlen.trans hl.1.2⟩, hl.2.1, fun i v hi => hl.2.2 i v (h i v hi)⟩
theorem drop_ok {pre post : List (Option Value)} {z : Option Value} (i : Nat) (v : Value) (h : (pre ++ none :: post)[i]? = some (some v)) : (pre ++ z :: post)[i]? = some (some v) := by
  rw [List.getElem?_append] at h ⊢
  split at h
  · next q => rw [if_pos q]; exact h
  · next q =>
    rw [if_neg q]
    cases hj : i - pre.length with
    | zero => rw [hj] at h; simp at h
    | succ j => rw [hj] at h; simpa using h

theorem r_drop0 {X : XT} {Γ : Gam} {pc : Nat} {ls : List (Option Value)} {z : Option Value} {st : List Value} {G : GG} (k : WP X Γ pc (none :: ls) st G) : WP X Γ pc (z :: ls) st G := r_drop (ls' := none :: ls) rfl (fun i v h => drop_ok (pre := []) (post := ls) (z := z) i v h) k

theorem r_drop1 {X : XT} {Γ : Gam} {pc : Nat} {ls : List (Option Value)} {a0 : Option Value} {z : Option Value} {st : List Value} {G : GG} (k : WP X Γ pc (a0 :: none :: ls) st G) : WP X Γ pc (a0 :: z :: ls) st G := r_drop (ls' := a0 :: none :: ls) rfl (fun i v h => drop_ok (pre := [a0]) (post := ls) (z := z) i v h) k

theorem r_drop2 {X : XT} {Γ : Gam} {pc : Nat} {ls : List (Option Value)} {a0 a1 : Option Value} {z : Option Value} {st : List Value} {G : GG} (k : WP X Γ pc (a0 :: a1 :: none :: ls) st G) : WP X Γ pc (a0 :: a1 :: z :: ls) st G := r_drop (ls' := a0 :: a1 :: none :: ls) rfl (fun i v h => drop_ok (pre := [a0, a1]) (post := ls) (z := z) i v h) k

theorem r_drop3 {X : XT} {Γ : Gam} {pc : Nat} {ls : List (Option Value)} {a0 a1 a2 : Option Value} {z : Option Value} {st : List Value} {G : GG} (k : WP X Γ pc (a0 :: a1 :: a2 :: none :: ls) st G) : WP X Γ pc (a0 :: a1 :: a2 :: z :: ls) st G := r_drop (ls' := a0 :: a1 :: a2 :: none :: ls) rfl (fun i v h => drop_ok (pre := [a0, a1, a2]) (post := ls) (z := z) i v h) k

theorem r_drop4 {X : XT} {Γ : Gam} {pc : Nat} {ls : List (Option Value)} {a0 a1 a2 a3 : Option Value} {z : Option Value} {st : List Value} {G : GG} (k : WP X Γ pc (a0 :: a1 :: a2 :: a3 :: none :: ls) st G) : WP X Γ pc (a0 :: a1 :: a2 :: a3 :: z :: ls) st G := r_drop (ls' := a0 :: a1 :: a2 :: a3 :: none :: ls) rfl (fun i v h => drop_ok (pre := [a0, a1, a2, a3]) (post := ls) (z := z) i v h) k

theorem r_drop5 {X : XT} {Γ : Gam} {pc : Nat} {ls : List (Option Value)} {a0 a1 a2 a3 a4 : Option Value} {z : Option Value} {st : List Value} {G : GG} (k : WP X Γ pc (a0 :: a1 :: a2 :: a3 :: a4 :: none :: ls) st G) : WP X Γ pc (a0 :: a1 :: a2 :: a3 :: a4 :: z :: ls) st G := r_drop (ls' := a0 :: a1 :: a2 :: a3 :: a4 :: none :: ls) rfl (fun i v h => drop_ok (pre := [a0, a1, a2, a3, a4]) (post := ls) (z := z) i v h) k

theorem r_drop6 {X : XT} {Γ : Gam} {pc : Nat} {ls : List (Option Value)} {a0 a1 a2 a3 a4 a5 : Option Value} {z : Option Value} {st : List Value} {G : GG} (k : WP X Γ pc (a0 :: a1 :: a2 :: a3 :: a4 :: a5 :: none :: ls) st G) : WP X Γ pc (a0 :: a1 :: a2 :: a3 :: a4 :: a5 :: z :: ls) st G := r_drop (ls' := a0 :: a1 :: a2 :: a3 :: a4 :: a5 :: none :: ls) rfl (fun i v h => drop_ok (pre := [a0, a1, a2, a3, a4, a5]) (post := ls) (z := z) i v h) k

theorem r_drop7 {X : XT} {Γ : Gam} {pc : Nat} {ls : List (Option Value)} {a0 a1 a2 a3 a4 a5 a6 : Option Value} {z : Option Value} {st : List Value} {G : GG} (k : WP X Γ pc (a0 :: a1 :: a2 :: a3 :: a4 :: a5 :: a6 :: none :: ls) st G) : WP X Γ pc (a0 :: a1 :: a2 :: a3 :: a4 :: a5 :: a6 :: z :: ls) st G := r_drop (ls' := a0 :: a1 :: a2 :: a3 :: a4 :: a5 :: a6 :: none :: ls) rfl (fun i v h => drop_ok (pre := [a0, a1, a2, a3, a4, a5, a6]) (post := ls) (z := z) i v h) k

theorem r_drop8 {X : XT} {Γ : Gam} {pc : Nat} {ls : List (Option Value)} {a0 a1 a2 a3 a4 a5 a6 a7 : Option Value} {z : Option Value} {st : List Value} {G : GG} (k : WP X Γ pc (a0 :: a1 :: a2 :: a3 :: a4 :: a5 :: a6 :: a7 :: none :: ls) st G) : WP X Γ pc (a0 :: a1 :: a2 :: a3 :: a4 :: a5 :: a6 :: a7 :: z :: ls) st G := r_drop (ls' := a0 :: a1 :: a2 :: a3 :: a4 :: a5 :: a6 :: a7 :: none :: ls) rfl (fun i v h => drop_ok (pre := [a0, a1, a2, a3, a4, a5, a6, a7]) (post := ls) (z := z) i v h) k

theorem r_drop9 {X : XT} {Γ : Gam} {pc : Nat} {ls : List (Option Value)} {a0 a1 a2 a3 a4 a5 a6 a7 a8 : Option Value} {z : Option Value} {st : List Value} {G : GG} (k : WP X Γ pc (a0 :: a1 :: a2 :: a3 :: a4 :: a5 :: a6 :: a7 :: a8 :: none :: ls) st G) : WP X Γ pc (a0 :: a1 :: a2 :: a3 :: a4 :: a5 :: a6 :: a7 :: a8 :: z :: ls) st G := r_drop (ls' := a0 :: a1 :: a2 :: a3 :: a4 :: a5 :: a6 :: a7 :: a8 :: none :: ls) rfl (fun i v h => drop_ok (pre := [a0, a1, a2, a3, a4, a5, a6, a7, a8]) (post := ls) (z := z) i v h) k

theorem r_drop10 {X : XT} {Γ : Gam} {pc : Nat} {ls : List (Option Value)} {a0 a1 a2 a3 a4 a5 a6 a7 a8 a9 : Option Value} {z : Option Value} {st : List Value} {G : GG} (k : WP X Γ pc (a0 :: a1 :: a2 :: a3 :: a4 :: a5 :: a6 :: a7 :: a8 :: a9 :: none :: ls) st G) : WP X Γ pc (a0 :: a1 :: a2 :: a3 :: a4 :: a5 :: a6 :: a7 :: a8 :: a9 :: z :: ls) st G := r_drop (ls' := a0 :: a1 :: a2 :: a3 :: a4 :: a5 :: a6 :: a7 :: a8 :: a9 :: none :: ls) rfl (fun i v h => drop_ok (pre := [a0, a1, a2, a3, a4, a5, a6, a7, a8, a9]) (post := ls) (z := z) i v h) k

theorem r_copy {X : XT} {Γ : Gam} {cc : ByteArray} {own : String} {F L : Nat} (hX : OKX X Γ cc own F L) {pc q : Nat} {ls : List (Option Value)} {st : List Value} {G : GG} {c0 c1 n0 n1 index : Nat} {sp dp n : Int32} (d : decode cc pc = .ok (.invokestatic index, 3)) (hq : pc + 3 = q) (hl1 : Cond.methodLink own index arraycopyName ∈ TB) (hl2 : Cond.native arraycopyName ∈ TB ∧ Cond.static arraycopyName ∈ TB ∧ Cond.initialized "java/lang/System" ∈ TB) (ha0 : lay c0 = (7, n0)) (ha1 : lay c1 = (7, n1)) (h1 : ¬ sp < 0) (h2 : ¬ dp < 0) (h3 : ¬ n < 0) (h4 : sp.toNatClampNeg + n.toNatClampNeg ≤ n0) (h5 : dp.toNatClampNeg + n.toNatClampNeg ≤ n1) (hroom : 1 ≤ F ∧ (st.map fun v => v.category).sum + (nativeFrameWords "java/lang/System" "arraycopy" 5 + 11) ≤ L) (k : WP X Γ q ls st (upc G c1 (va_cpy (G c0) (G c1) sp.toNatClampNeg dp.toNatClampNeg n.toNatClampNeg))) : WP X Γ pc ls (.int n :: .int dp :: .ref (gad Γ c1) :: .int sp :: .ref (gad Γ c0) :: st) G := by
  obtain ⟨p, l, e, R, s, m, args, below, meth, c, Q, A, nL, cs, sl⟩ := X
  obtain ⟨hx, hb, hml, hown, hts, hK, hinj, hA, hSt, hF, hL, hcs, hsl⟩ := hX
  subst hq
  subst hF hL
  intro H locs la hP hS hl
  have hc0 := lay_lt ha0 (show (7 : Nat) ≠ 9 by decide)
  have hc1 := lay_lt ha1 (show (7 : Nat) ≠ 9 by decide)
  refine va_copyi hx hb (by rw [hml]; exact hl.1.1.symm) hown (hts _ hl1) (hts _ hl2.1) (hts _ hl2.2.1) (hts _ hl2.2.2) hK hP (cw_D hinj hA) hS c0 c1 0 0 (by rw [cw_at hc0, shp_arr ha0]) (by rw [cw_at hc1, shp_arr ha1]) rfl rfl rfl h1 h2 h3 h4 h5 (fun _ _ => rfl) hroom.1 hroom.2 d (fun H1 locs1 p1 d1 s1 => ?_)
  rw [← shp_arr (Γ := Γ) (g := va_cpy (G c0) (G c1) sp.toNatClampNeg dp.toNatClampNeg n.toNatClampNeg) ha1, cw_set hc1] at p1
  exact k H1 locs1 la p1 s1 hl
theorem r_topi {X : XT} {Γ : Gam} {pc : Nat} {ls : List (Option Value)} {st : List Value} {G : GG} {x : Int32} (k : ∀ y : Int32, y = x → WP X Γ pc ls (.int y :: st) G) : WP X Γ pc ls (.int x :: st) G := k x rfl
end
section
/-! what the calls answer, in numbers: a child's state is one row of 115 numbers, as the reference's -/
def pLow (v : Int32) : Int32 := if v = nI 3 then nI 1 else nI 0
def pTop (v : Int32) : Int32 := if v = nI 0 then nI 9 else if v = nI 1 then nI 99 else if v = nI 2 then nI 9999 else if v = nI 3 then nI 99 else -1
def tLow (v : Int32) : Int32 := if v = nI 2 then nI 1 else nI 0
def tTop (v : Int32) : Int32 := if v = nI 0 then nI 6 else if v = nI 1 then nI 9 else if v = nI 2 then nI 20 else -1
abbrev MU : Type := Nat → Int32
def nn (x : Int32) (b : Nat) : Prop := ∃ n, n ≤ b ∧ x = nI n
theorem nn_mk {n b : Nat} (h : n ≤ b) : nn (nI n) b := ⟨n, h, rfl⟩
theorem nn_le {x : Int32} {a b : Nat} (h : nn x a) (hb : a ≤ b) : nn x b := by
  obtain ⟨n, h1, h2⟩ := h
  exact ⟨n, Nat.le_trans h1 hb, h2⟩
theorem nn_cl {x : Int32} {b : Nat} (h : nn x b) (hb : b < 2 ^ 31) : x.toNatClampNeg ≤ b ∧ x = nI x.toNatClampNeg := by
  obtain ⟨n, h1, rfl⟩ := h
  rw [nI_clamp (by omega)]
  exact ⟨h1, rfl⟩
def frS (x : Int32) (f : Nat) : Bool := decide (((x.toUInt32 >>> ((nI f).toUInt32 &&& Int32.toUInt32 31)).toInt32 &&& nI 1) = nI 1)
def plS (put like hun : Int32) : Int32 := put * like * (hun + nI 20) / nI 10000
def eatS (k put like hun : Int32) (fr fnd : Bool) : Int32 :=
  if k = nI 1 then nI 0 else if k = nI 2 then imin put (plS put like hun + nI 2) else if k = nI 3 then imin put (plS put like hun + nI 2 + nI 3)
  else if k = nI 4 ∨ k = nI 5 then imin put (if fr = true then plS put like hun + plS put like hun / nI 2 else plS put like hun)
  else if k = nI 6 then (if fnd = true then nI 0 else put) else imin put (plS put like hun)
def mvS (bit bent : Int32) : Int32 := nI 6 - bit * bent / nI 10
def movS (k bit bent : Int32) (fr fnd : Bool) : Int32 :=
  if k = nI 1 then mvS bit bent / nI 2 else if k = nI 2 then mvS bit bent - nI 8 else if k = nI 3 then mvS bit bent - nI 8 + nI 2
  else if k = nI 4 then (if fr = true then mvS bit bent + nI 3 else mvS bit bent) else if k = nI 5 then (if fr = true then mvS bit bent + nI 3 else mvS bit bent) + nI 2
  else if k = nI 6 then (if fnd = true then -10 else nI 1) else mvS bit bent
def drS (z : Int32) : Int32 := z * nI 1103515245 + nI 12345
def shr8 (z : Int32) : Int32 := (z.toUInt32 >>> ((nI 8).toUInt32 &&& Int32.toUInt32 31)).toInt32
def fndS (k z bit : Int32) : Bool := decide (k = nI 6 ∧ irm (shr8 (drS z)) (nI 10) < bit + nI 1)
def lkS (x : Int32) : Int32 := imax (nI 0) (imin (nI 99) x)
def heS (v most : Int32) : Int32 := if v < nI 0 then nI 0 else if most < v then most else v
def hunS (h e : Int32) : Int32 := imin (nI 99) (imax (nI 0) (h - nI 3 * e) + nI 12)
def weiS (w e : Int32) : Int32 := imax (nI 0) (imin (nI 9999) (w + e - nI 4))
def cl (x : Int32) : Nat := x.toNatClampNeg
/-- a taste served: what is eaten, what the state is then -/
def srvM (μ : MU) (t f : Nat) : MU := if μ (40 + 3 * t) = nI 6 then upd μ 1 (drS (μ 1)) else μ
def srvL (μ : MU) (t f : Nat) : MU := upd (srvM μ t f) (10 + 3 * f) (lkS (μ (10 + 3 * f) + movS (μ (40 + 3 * t)) (μ (11 + 3 * f)) (μ 2) (frS (μ 7) f) (fndS (μ (40 + 3 * t)) (μ 1) (μ (11 + 3 * f)))))
def srvP (μ : MU) (t f : Nat) : MU := if μ (40 + 3 * t) = nI 3 ∧ ¬ μ 6 < nI 0 then upd (srvL μ t f) (10 + 3 * cl (μ 6)) (lkS (srvL μ t f (10 + 3 * cl (μ 6)) + nI 5)) else srvL μ t f
def srvE (μ : MU) (t f : Nat) : Int32 := eatS (μ (40 + 3 * t)) (μ (42 + 3 * t)) (μ (10 + 3 * f)) (μ 3) (frS (μ 7) f) (fndS (μ (40 + 3 * t)) (μ 1) (μ (11 + 3 * f)))
def srvF (μ : MU) (t : Nat) : Int32 × MU := (srvE μ t (cl (μ (41 + 3 * t))), upd (srvP μ t (cl (μ (41 + 3 * t)))) (12 + 3 * cl (μ (41 + 3 * t))) (imin (nI 999) (μ (12 + 3 * cl (μ (41 + 3 * t))) + nI 1)))
def shf (μ : MU) (e : Int32) : MU := fun k => if k = 80 then e else if 80 < k ∧ k < 115 then μ (k - 1) else μ k
def mealE (μ : MU) (e : Int32) : MU := upd (upd (shf (upd (upd μ 3 (hunS (μ 3) e)) 4 (weiS (μ 4) e)) e) 9 (heS (μ 9 + nI 1) (nI 35))) 0 (μ 0 + nI 1)
def mealF (μ : MU) (o : Option Nat) : Int32 × MU := match o with
  | none => (nI 0, mealE μ (nI 0))
  | some t => ((srvF μ t).1, mealE (srvF μ t).2 (srvF μ t).1)
def servN (μ : MU) : Option Nat := if μ 8 = nI 0 then none else some (cl (μ 0) % cl (μ 8))
def stepF (μ : MU) : Int32 × MU := mealF μ (servN μ)
def goF (μ : MU) : Nat → Int32 × MU
  | 0 => (nI 0, μ)
  | n + 1 => ((goF μ n).1 + (stepF (goF μ n).2).1, (stepF (goF μ n).2).2)
/-- what a child's state always is -/
def Inv (b : Nat) (μ : MU) : Prop :=
  (∃ m, m ≤ b ∧ μ 0 = nI m ∧ μ 9 = nI (if m < 35 then m else 35)) ∧ (nn (μ 2) 9 ∧ nn (μ 3) 99 ∧ nn (μ 4) 9999 ∧ nn (μ 5) 99 ∧ (μ 6 = -1 ∨ nn (μ 6) 9) ∧ nn (μ 7) 1023) ∧
  (∃ n, n ≤ 10 ∧ μ 8 = nI n ∧ ∀ k, k < 10 → μ (70 + k) = -1 ∨ ∃ j, j < n ∧ μ (70 + k) = nI j) ∧
  (∀ f, f < 10 → nn (μ (10 + 3 * f)) 99 ∧ nn (μ (11 + 3 * f)) 9 ∧ nn (μ (12 + 3 * f)) 999) ∧
  (∀ t, t < 10 → nn (μ (40 + 3 * t)) 6 ∧ nn (μ (41 + 3 * t)) 9 ∧ nn (μ (42 + 3 * t)) 20) ∧ ∀ k, k < 35 → nn (μ (80 + k)) 20
/-- the child in block i of the world holds the state μ -/
def rix (m k : Nat) : Nat := (m + 34 - k) % 35
def CR (G : GG) (i : Nat) (μ : MU) : Prop :=
  (G (ch i 0) 10 = μ 0 ∧ G (ch i 0) 12 = μ 1 ∧ G (ch i 0) 3 = μ 2 ∧ G (ch i 0) 4 = μ 3 ∧ G (ch i 0) 5 = μ 4 ∧ G (ch i 0) 6 = μ 5 ∧ G (ch i 0) 7 = μ 6 ∧ G (ch i 0) 8 = μ 7 ∧ G (ch i 4) 3 = μ 8) ∧
  (∀ f, f < 10 → G (ch i 1) f = μ (10 + 3 * f) ∧ G (ch i 2) f = μ (11 + 3 * f) ∧ G (ch i 3) f = μ (12 + 3 * f)) ∧
  (∀ t, t < 10 → G (ch i 5) t = μ (40 + 3 * t) ∧ G (ch i 6) t = μ (41 + 3 * t) ∧ G (ch i 7) t = μ (42 + 3 * t)) ∧
  (∀ k, k < 10 → G (ch i 9) k = μ (70 + k)) ∧ ∀ k, k < 35 → G (ch i 8) (rix (cl (μ 0)) k) = μ (80 + k)
/-- nothing but block i has changed -/
def Fr (i : Nat) (G G' : GG) : Prop := ∀ c, (c < 10 * i ∨ 10 * i + 10 ≤ c) → G' c = G c
theorem Fr.rf {i : Nat} {G : GG} : Fr i G G := fun _ _ => rfl
theorem Fr.up {i j k : Nat} {G G' : GG} {v : Int32} (h : Fr i G G') (hj : j < 10) : Fr i G (up G' (ch i j) k v) := fun c hc => by
  rw [← h c hc]
  funext k'
  have : ¬ c = ch i j := by simp only [ch]; omega
  simp [Jvm.Pilot.CPeaSpoonsLaw_law_r1469_87ba7e.up, this]
theorem Fr.upc {i j : Nat} {G G' : GG} {f : Nat → Int32} (h : Fr i G G') (hj : j < 10) : Fr i G (upc G' (ch i j) f) := fun c hc => by
  rw [← h c hc]
  have : ¬ c = ch i j := by simp only [ch]; omega
  simp [Jvm.Pilot.CPeaSpoonsLaw_law_r1469_87ba7e.upc, this]
theorem Fr.tr {i : Nat} {G G1 G2 : GG} (h1 : Fr i G G1) (h2 : Fr i G1 G2) : Fr i G G2 := fun c hc => (h2 c hc).trans (h1 c hc)
theorem CR.fr {i j : Nat} {G G' : GG} {μ : MU} (h : CR G i μ) (hF : Fr j G G') (hij : i ≠ j) : CR G' i μ := by
  have e : ∀ x, x < 10 → G' (ch i x) = G (ch i x) := fun x hx => hF _ (by simp only [ch]; omega)
  unfold CR
  rw [e 0 (by decide), e 1 (by decide), e 2 (by decide), e 3 (by decide), e 4 (by decide), e 5 (by decide), e 6 (by decide), e 7 (by decide), e 8 (by decide), e 9 (by decide)]
  exact h
theorem cr_ne {G : GG} {μ : MU} {c f c' f' k k' : Nat} {v : Int32} (h1 : ¬ (c' = c ∧ f' = f)) (h2 : ¬ k' = k) (h : G c' f' = μ k') : up G c f v c' f' = upd μ k v k' := by
  simp [up, upd, h1, h2, h]
theorem cr_eq {G : GG} {μ : MU} {c f k : Nat} {v : Int32} : up G c f v c f = upd μ k v k := by
  simp [up, upd]
theorem up_eq {G : GG} {c f : Nat} {v : Int32} : up G c f v c f = v := by simp [up]
theorem up_ne {G : GG} {c f c' f' : Nat} {v : Int32} (h : ¬ (c' = c ∧ f' = f)) : up G c f v c' f' = G c' f' := by simp [up, h]
theorem upd_eq {μ : MU} {k : Nat} {v : Int32} : upd μ k v k = v := by simp [upd]
theorem upd_ne {μ : MU} {k k' : Nat} {v : Int32} (h : ¬ k' = k) : upd μ k v k' = μ k' := by simp [upd, h]
theorem CR.z {G : GG} {i : Nat} {μ : MU} (h : CR G i μ) (v : Int32) : CR (up G (ch i 0) 12 v) i (upd μ 1 v) := by
  obtain ⟨⟨a0, a1, a2, a3, a4, a5, a6, a7, a8⟩, hf, ht, hs, hb⟩ := h
  refine ⟨⟨cr_ne (by simp only [ch]; omega) (by omega) a0, cr_eq, cr_ne (by simp only [ch]; omega) (by omega) a2, cr_ne (by simp only [ch]; omega) (by omega) a3, cr_ne (by simp only [ch]; omega) (by omega) a4, cr_ne (by simp only [ch]; omega) (by omega) a5, cr_ne (by simp only [ch]; omega) (by omega) a6, cr_ne (by simp only [ch]; omega) (by omega) a7, cr_ne (by simp only [ch]; omega) (by omega) a8⟩, fun f q => ⟨cr_ne (by simp only [ch]; omega) (by omega) (hf f q).1, cr_ne (by simp only [ch]; omega) (by omega) (hf f q).2.1, cr_ne (by simp only [ch]; omega) (by omega) (hf f q).2.2⟩, fun t q => ⟨cr_ne (by simp only [ch]; omega) (by omega) (ht t q).1, cr_ne (by simp only [ch]; omega) (by omega) (ht t q).2.1, cr_ne (by simp only [ch]; omega) (by omega) (ht t q).2.2⟩, fun k q => cr_ne (by simp only [ch]; omega) (by omega) (hs k q), fun k q => ?_⟩
  rw [upd_ne (show ¬ (0 : Nat) = 1 by decide)]
  exact cr_ne (by simp only [ch]; omega) (by omega) (hb k q)
theorem CR.bent {G : GG} {i : Nat} {μ : MU} (h : CR G i μ) (v : Int32) : CR (up G (ch i 0) 3 v) i (upd μ 2 v) := by
  obtain ⟨⟨a0, a1, a2, a3, a4, a5, a6, a7, a8⟩, hf, ht, hs, hb⟩ := h
  refine ⟨⟨cr_ne (by simp only [ch]; omega) (by omega) a0, cr_ne (by simp only [ch]; omega) (by omega) a1, cr_eq, cr_ne (by simp only [ch]; omega) (by omega) a3, cr_ne (by simp only [ch]; omega) (by omega) a4, cr_ne (by simp only [ch]; omega) (by omega) a5, cr_ne (by simp only [ch]; omega) (by omega) a6, cr_ne (by simp only [ch]; omega) (by omega) a7, cr_ne (by simp only [ch]; omega) (by omega) a8⟩, fun f q => ⟨cr_ne (by simp only [ch]; omega) (by omega) (hf f q).1, cr_ne (by simp only [ch]; omega) (by omega) (hf f q).2.1, cr_ne (by simp only [ch]; omega) (by omega) (hf f q).2.2⟩, fun t q => ⟨cr_ne (by simp only [ch]; omega) (by omega) (ht t q).1, cr_ne (by simp only [ch]; omega) (by omega) (ht t q).2.1, cr_ne (by simp only [ch]; omega) (by omega) (ht t q).2.2⟩, fun k q => cr_ne (by simp only [ch]; omega) (by omega) (hs k q), fun k q => ?_⟩
  rw [upd_ne (show ¬ (0 : Nat) = 2 by decide)]
  exact cr_ne (by simp only [ch]; omega) (by omega) (hb k q)
theorem CR.hun {G : GG} {i : Nat} {μ : MU} (h : CR G i μ) (v : Int32) : CR (up G (ch i 0) 4 v) i (upd μ 3 v) := by
  obtain ⟨⟨a0, a1, a2, a3, a4, a5, a6, a7, a8⟩, hf, ht, hs, hb⟩ := h
  refine ⟨⟨cr_ne (by simp only [ch]; omega) (by omega) a0, cr_ne (by simp only [ch]; omega) (by omega) a1, cr_ne (by simp only [ch]; omega) (by omega) a2, cr_eq, cr_ne (by simp only [ch]; omega) (by omega) a4, cr_ne (by simp only [ch]; omega) (by omega) a5, cr_ne (by simp only [ch]; omega) (by omega) a6, cr_ne (by simp only [ch]; omega) (by omega) a7, cr_ne (by simp only [ch]; omega) (by omega) a8⟩, fun f q => ⟨cr_ne (by simp only [ch]; omega) (by omega) (hf f q).1, cr_ne (by simp only [ch]; omega) (by omega) (hf f q).2.1, cr_ne (by simp only [ch]; omega) (by omega) (hf f q).2.2⟩, fun t q => ⟨cr_ne (by simp only [ch]; omega) (by omega) (ht t q).1, cr_ne (by simp only [ch]; omega) (by omega) (ht t q).2.1, cr_ne (by simp only [ch]; omega) (by omega) (ht t q).2.2⟩, fun k q => cr_ne (by simp only [ch]; omega) (by omega) (hs k q), fun k q => ?_⟩
  rw [upd_ne (show ¬ (0 : Nat) = 3 by decide)]
  exact cr_ne (by simp only [ch]; omega) (by omega) (hb k q)
theorem CR.wei {G : GG} {i : Nat} {μ : MU} (h : CR G i μ) (v : Int32) : CR (up G (ch i 0) 5 v) i (upd μ 4 v) := by
  obtain ⟨⟨a0, a1, a2, a3, a4, a5, a6, a7, a8⟩, hf, ht, hs, hb⟩ := h
  refine ⟨⟨cr_ne (by simp only [ch]; omega) (by omega) a0, cr_ne (by simp only [ch]; omega) (by omega) a1, cr_ne (by simp only [ch]; omega) (by omega) a2, cr_ne (by simp only [ch]; omega) (by omega) a3, cr_eq, cr_ne (by simp only [ch]; omega) (by omega) a5, cr_ne (by simp only [ch]; omega) (by omega) a6, cr_ne (by simp only [ch]; omega) (by omega) a7, cr_ne (by simp only [ch]; omega) (by omega) a8⟩, fun f q => ⟨cr_ne (by simp only [ch]; omega) (by omega) (hf f q).1, cr_ne (by simp only [ch]; omega) (by omega) (hf f q).2.1, cr_ne (by simp only [ch]; omega) (by omega) (hf f q).2.2⟩, fun t q => ⟨cr_ne (by simp only [ch]; omega) (by omega) (ht t q).1, cr_ne (by simp only [ch]; omega) (by omega) (ht t q).2.1, cr_ne (by simp only [ch]; omega) (by omega) (ht t q).2.2⟩, fun k q => cr_ne (by simp only [ch]; omega) (by omega) (hs k q), fun k q => ?_⟩
  rw [upd_ne (show ¬ (0 : Nat) = 4 by decide)]
  exact cr_ne (by simp only [ch]; omega) (by omega) (hb k q)
theorem CR.line {G : GG} {i : Nat} {μ : MU} (h : CR G i μ) (v : Int32) : CR (up G (ch i 0) 6 v) i (upd μ 5 v) := by
  obtain ⟨⟨a0, a1, a2, a3, a4, a5, a6, a7, a8⟩, hf, ht, hs, hb⟩ := h
  refine ⟨⟨cr_ne (by simp only [ch]; omega) (by omega) a0, cr_ne (by simp only [ch]; omega) (by omega) a1, cr_ne (by simp only [ch]; omega) (by omega) a2, cr_ne (by simp only [ch]; omega) (by omega) a3, cr_ne (by simp only [ch]; omega) (by omega) a4, cr_eq, cr_ne (by simp only [ch]; omega) (by omega) a6, cr_ne (by simp only [ch]; omega) (by omega) a7, cr_ne (by simp only [ch]; omega) (by omega) a8⟩, fun f q => ⟨cr_ne (by simp only [ch]; omega) (by omega) (hf f q).1, cr_ne (by simp only [ch]; omega) (by omega) (hf f q).2.1, cr_ne (by simp only [ch]; omega) (by omega) (hf f q).2.2⟩, fun t q => ⟨cr_ne (by simp only [ch]; omega) (by omega) (ht t q).1, cr_ne (by simp only [ch]; omega) (by omega) (ht t q).2.1, cr_ne (by simp only [ch]; omega) (by omega) (ht t q).2.2⟩, fun k q => cr_ne (by simp only [ch]; omega) (by omega) (hs k q), fun k q => ?_⟩
  rw [upd_ne (show ¬ (0 : Nat) = 5 by decide)]
  exact cr_ne (by simp only [ch]; omega) (by omega) (hb k q)
theorem CR.pud {G : GG} {i : Nat} {μ : MU} (h : CR G i μ) (v : Int32) : CR (up G (ch i 0) 7 v) i (upd μ 6 v) := by
  obtain ⟨⟨a0, a1, a2, a3, a4, a5, a6, a7, a8⟩, hf, ht, hs, hb⟩ := h
  refine ⟨⟨cr_ne (by simp only [ch]; omega) (by omega) a0, cr_ne (by simp only [ch]; omega) (by omega) a1, cr_ne (by simp only [ch]; omega) (by omega) a2, cr_ne (by simp only [ch]; omega) (by omega) a3, cr_ne (by simp only [ch]; omega) (by omega) a4, cr_ne (by simp only [ch]; omega) (by omega) a5, cr_eq, cr_ne (by simp only [ch]; omega) (by omega) a7, cr_ne (by simp only [ch]; omega) (by omega) a8⟩, fun f q => ⟨cr_ne (by simp only [ch]; omega) (by omega) (hf f q).1, cr_ne (by simp only [ch]; omega) (by omega) (hf f q).2.1, cr_ne (by simp only [ch]; omega) (by omega) (hf f q).2.2⟩, fun t q => ⟨cr_ne (by simp only [ch]; omega) (by omega) (ht t q).1, cr_ne (by simp only [ch]; omega) (by omega) (ht t q).2.1, cr_ne (by simp only [ch]; omega) (by omega) (ht t q).2.2⟩, fun k q => cr_ne (by simp only [ch]; omega) (by omega) (hs k q), fun k q => ?_⟩
  rw [upd_ne (show ¬ (0 : Nat) = 6 by decide)]
  exact cr_ne (by simp only [ch]; omega) (by omega) (hb k q)
theorem CR.fri {G : GG} {i : Nat} {μ : MU} (h : CR G i μ) (v : Int32) : CR (up G (ch i 0) 8 v) i (upd μ 7 v) := by
  obtain ⟨⟨a0, a1, a2, a3, a4, a5, a6, a7, a8⟩, hf, ht, hs, hb⟩ := h
  refine ⟨⟨cr_ne (by simp only [ch]; omega) (by omega) a0, cr_ne (by simp only [ch]; omega) (by omega) a1, cr_ne (by simp only [ch]; omega) (by omega) a2, cr_ne (by simp only [ch]; omega) (by omega) a3, cr_ne (by simp only [ch]; omega) (by omega) a4, cr_ne (by simp only [ch]; omega) (by omega) a5, cr_ne (by simp only [ch]; omega) (by omega) a6, cr_eq, cr_ne (by simp only [ch]; omega) (by omega) a8⟩, fun f q => ⟨cr_ne (by simp only [ch]; omega) (by omega) (hf f q).1, cr_ne (by simp only [ch]; omega) (by omega) (hf f q).2.1, cr_ne (by simp only [ch]; omega) (by omega) (hf f q).2.2⟩, fun t q => ⟨cr_ne (by simp only [ch]; omega) (by omega) (ht t q).1, cr_ne (by simp only [ch]; omega) (by omega) (ht t q).2.1, cr_ne (by simp only [ch]; omega) (by omega) (ht t q).2.2⟩, fun k q => cr_ne (by simp only [ch]; omega) (by omega) (hs k q), fun k q => ?_⟩
  rw [upd_ne (show ¬ (0 : Nat) = 7 by decide)]
  exact cr_ne (by simp only [ch]; omega) (by omega) (hb k q)
theorem CR.size {G : GG} {i : Nat} {μ : MU} (h : CR G i μ) (v : Int32) : CR (up G (ch i 4) 3 v) i (upd μ 8 v) := by
  obtain ⟨⟨a0, a1, a2, a3, a4, a5, a6, a7, a8⟩, hf, ht, hs, hb⟩ := h
  refine ⟨⟨cr_ne (by simp only [ch]; omega) (by omega) a0, cr_ne (by simp only [ch]; omega) (by omega) a1, cr_ne (by simp only [ch]; omega) (by omega) a2, cr_ne (by simp only [ch]; omega) (by omega) a3, cr_ne (by simp only [ch]; omega) (by omega) a4, cr_ne (by simp only [ch]; omega) (by omega) a5, cr_ne (by simp only [ch]; omega) (by omega) a6, cr_ne (by simp only [ch]; omega) (by omega) a7, cr_eq⟩, fun f q => ⟨cr_ne (by simp only [ch]; omega) (by omega) (hf f q).1, cr_ne (by simp only [ch]; omega) (by omega) (hf f q).2.1, cr_ne (by simp only [ch]; omega) (by omega) (hf f q).2.2⟩, fun t q => ⟨cr_ne (by simp only [ch]; omega) (by omega) (ht t q).1, cr_ne (by simp only [ch]; omega) (by omega) (ht t q).2.1, cr_ne (by simp only [ch]; omega) (by omega) (ht t q).2.2⟩, fun k q => cr_ne (by simp only [ch]; omega) (by omega) (hs k q), fun k q => ?_⟩
  rw [upd_ne (show ¬ (0 : Nat) = 8 by decide)]
  exact cr_ne (by simp only [ch]; omega) (by omega) (hb k q)
theorem CR.like {G : GG} {i : Nat} {μ : MU} (h : CR G i μ) {x : Nat} (hx : x < 10) (v : Int32) : CR (up G (ch i 1) x v) i (upd μ (10 + 3 * x) v) := by
  obtain ⟨⟨a0, a1, a2, a3, a4, a5, a6, a7, a8⟩, hf, ht, hs, hb⟩ := h
  refine ⟨⟨cr_ne (by simp only [ch]; omega) (by omega) a0, cr_ne (by simp only [ch]; omega) (by omega) a1, cr_ne (by simp only [ch]; omega) (by omega) a2, cr_ne (by simp only [ch]; omega) (by omega) a3, cr_ne (by simp only [ch]; omega) (by omega) a4, cr_ne (by simp only [ch]; omega) (by omega) a5, cr_ne (by simp only [ch]; omega) (by omega) a6, cr_ne (by simp only [ch]; omega) (by omega) a7, cr_ne (by simp only [ch]; omega) (by omega) a8⟩, fun f q => ⟨((Decidable.em (f = x)).elim (fun e => by subst e; exact cr_eq) (fun e => cr_ne (by simp only [ch]; omega) (by omega) (hf f q).1)), cr_ne (by simp only [ch]; omega) (by omega) (hf f q).2.1, cr_ne (by simp only [ch]; omega) (by omega) (hf f q).2.2⟩, fun t q => ⟨cr_ne (by simp only [ch]; omega) (by omega) (ht t q).1, cr_ne (by simp only [ch]; omega) (by omega) (ht t q).2.1, cr_ne (by simp only [ch]; omega) (by omega) (ht t q).2.2⟩, fun k q => cr_ne (by simp only [ch]; omega) (by omega) (hs k q), fun k q => ?_⟩
  rw [upd_ne (show ¬ (0 : Nat) = 10 + 3 * x by omega)]
  exact cr_ne (by simp only [ch]; omega) (by omega) (hb k q)
theorem CR.bit {G : GG} {i : Nat} {μ : MU} (h : CR G i μ) {x : Nat} (hx : x < 10) (v : Int32) : CR (up G (ch i 2) x v) i (upd μ (11 + 3 * x) v) := by
  obtain ⟨⟨a0, a1, a2, a3, a4, a5, a6, a7, a8⟩, hf, ht, hs, hb⟩ := h
  refine ⟨⟨cr_ne (by simp only [ch]; omega) (by omega) a0, cr_ne (by simp only [ch]; omega) (by omega) a1, cr_ne (by simp only [ch]; omega) (by omega) a2, cr_ne (by simp only [ch]; omega) (by omega) a3, cr_ne (by simp only [ch]; omega) (by omega) a4, cr_ne (by simp only [ch]; omega) (by omega) a5, cr_ne (by simp only [ch]; omega) (by omega) a6, cr_ne (by simp only [ch]; omega) (by omega) a7, cr_ne (by simp only [ch]; omega) (by omega) a8⟩, fun f q => ⟨cr_ne (by simp only [ch]; omega) (by omega) (hf f q).1, ((Decidable.em (f = x)).elim (fun e => by subst e; exact cr_eq) (fun e => cr_ne (by simp only [ch]; omega) (by omega) (hf f q).2.1)), cr_ne (by simp only [ch]; omega) (by omega) (hf f q).2.2⟩, fun t q => ⟨cr_ne (by simp only [ch]; omega) (by omega) (ht t q).1, cr_ne (by simp only [ch]; omega) (by omega) (ht t q).2.1, cr_ne (by simp only [ch]; omega) (by omega) (ht t q).2.2⟩, fun k q => cr_ne (by simp only [ch]; omega) (by omega) (hs k q), fun k q => ?_⟩
  rw [upd_ne (show ¬ (0 : Nat) = 11 + 3 * x by omega)]
  exact cr_ne (by simp only [ch]; omega) (by omega) (hb k q)
theorem CR.tri {G : GG} {i : Nat} {μ : MU} (h : CR G i μ) {x : Nat} (hx : x < 10) (v : Int32) : CR (up G (ch i 3) x v) i (upd μ (12 + 3 * x) v) := by
  obtain ⟨⟨a0, a1, a2, a3, a4, a5, a6, a7, a8⟩, hf, ht, hs, hb⟩ := h
  refine ⟨⟨cr_ne (by simp only [ch]; omega) (by omega) a0, cr_ne (by simp only [ch]; omega) (by omega) a1, cr_ne (by simp only [ch]; omega) (by omega) a2, cr_ne (by simp only [ch]; omega) (by omega) a3, cr_ne (by simp only [ch]; omega) (by omega) a4, cr_ne (by simp only [ch]; omega) (by omega) a5, cr_ne (by simp only [ch]; omega) (by omega) a6, cr_ne (by simp only [ch]; omega) (by omega) a7, cr_ne (by simp only [ch]; omega) (by omega) a8⟩, fun f q => ⟨cr_ne (by simp only [ch]; omega) (by omega) (hf f q).1, cr_ne (by simp only [ch]; omega) (by omega) (hf f q).2.1, ((Decidable.em (f = x)).elim (fun e => by subst e; exact cr_eq) (fun e => cr_ne (by simp only [ch]; omega) (by omega) (hf f q).2.2))⟩, fun t q => ⟨cr_ne (by simp only [ch]; omega) (by omega) (ht t q).1, cr_ne (by simp only [ch]; omega) (by omega) (ht t q).2.1, cr_ne (by simp only [ch]; omega) (by omega) (ht t q).2.2⟩, fun k q => cr_ne (by simp only [ch]; omega) (by omega) (hs k q), fun k q => ?_⟩
  rw [upd_ne (show ¬ (0 : Nat) = 12 + 3 * x by omega)]
  exact cr_ne (by simp only [ch]; omega) (by omega) (hb k q)
theorem CR.kin {G : GG} {i : Nat} {μ : MU} (h : CR G i μ) {x : Nat} (hx : x < 10) (v : Int32) : CR (up G (ch i 5) x v) i (upd μ (40 + 3 * x) v) := by
  obtain ⟨⟨a0, a1, a2, a3, a4, a5, a6, a7, a8⟩, hf, ht, hs, hb⟩ := h
  refine ⟨⟨cr_ne (by simp only [ch]; omega) (by omega) a0, cr_ne (by simp only [ch]; omega) (by omega) a1, cr_ne (by simp only [ch]; omega) (by omega) a2, cr_ne (by simp only [ch]; omega) (by omega) a3, cr_ne (by simp only [ch]; omega) (by omega) a4, cr_ne (by simp only [ch]; omega) (by omega) a5, cr_ne (by simp only [ch]; omega) (by omega) a6, cr_ne (by simp only [ch]; omega) (by omega) a7, cr_ne (by simp only [ch]; omega) (by omega) a8⟩, fun f q => ⟨cr_ne (by simp only [ch]; omega) (by omega) (hf f q).1, cr_ne (by simp only [ch]; omega) (by omega) (hf f q).2.1, cr_ne (by simp only [ch]; omega) (by omega) (hf f q).2.2⟩, fun t q => ⟨((Decidable.em (t = x)).elim (fun e => by subst e; exact cr_eq) (fun e => cr_ne (by simp only [ch]; omega) (by omega) (ht t q).1)), cr_ne (by simp only [ch]; omega) (by omega) (ht t q).2.1, cr_ne (by simp only [ch]; omega) (by omega) (ht t q).2.2⟩, fun k q => cr_ne (by simp only [ch]; omega) (by omega) (hs k q), fun k q => ?_⟩
  rw [upd_ne (show ¬ (0 : Nat) = 40 + 3 * x by omega)]
  exact cr_ne (by simp only [ch]; omega) (by omega) (hb k q)
theorem CR.foo {G : GG} {i : Nat} {μ : MU} (h : CR G i μ) {x : Nat} (hx : x < 10) (v : Int32) : CR (up G (ch i 6) x v) i (upd μ (41 + 3 * x) v) := by
  obtain ⟨⟨a0, a1, a2, a3, a4, a5, a6, a7, a8⟩, hf, ht, hs, hb⟩ := h
  refine ⟨⟨cr_ne (by simp only [ch]; omega) (by omega) a0, cr_ne (by simp only [ch]; omega) (by omega) a1, cr_ne (by simp only [ch]; omega) (by omega) a2, cr_ne (by simp only [ch]; omega) (by omega) a3, cr_ne (by simp only [ch]; omega) (by omega) a4, cr_ne (by simp only [ch]; omega) (by omega) a5, cr_ne (by simp only [ch]; omega) (by omega) a6, cr_ne (by simp only [ch]; omega) (by omega) a7, cr_ne (by simp only [ch]; omega) (by omega) a8⟩, fun f q => ⟨cr_ne (by simp only [ch]; omega) (by omega) (hf f q).1, cr_ne (by simp only [ch]; omega) (by omega) (hf f q).2.1, cr_ne (by simp only [ch]; omega) (by omega) (hf f q).2.2⟩, fun t q => ⟨cr_ne (by simp only [ch]; omega) (by omega) (ht t q).1, ((Decidable.em (t = x)).elim (fun e => by subst e; exact cr_eq) (fun e => cr_ne (by simp only [ch]; omega) (by omega) (ht t q).2.1)), cr_ne (by simp only [ch]; omega) (by omega) (ht t q).2.2⟩, fun k q => cr_ne (by simp only [ch]; omega) (by omega) (hs k q), fun k q => ?_⟩
  rw [upd_ne (show ¬ (0 : Nat) = 41 + 3 * x by omega)]
  exact cr_ne (by simp only [ch]; omega) (by omega) (hb k q)
theorem CR.put {G : GG} {i : Nat} {μ : MU} (h : CR G i μ) {x : Nat} (hx : x < 10) (v : Int32) : CR (up G (ch i 7) x v) i (upd μ (42 + 3 * x) v) := by
  obtain ⟨⟨a0, a1, a2, a3, a4, a5, a6, a7, a8⟩, hf, ht, hs, hb⟩ := h
  refine ⟨⟨cr_ne (by simp only [ch]; omega) (by omega) a0, cr_ne (by simp only [ch]; omega) (by omega) a1, cr_ne (by simp only [ch]; omega) (by omega) a2, cr_ne (by simp only [ch]; omega) (by omega) a3, cr_ne (by simp only [ch]; omega) (by omega) a4, cr_ne (by simp only [ch]; omega) (by omega) a5, cr_ne (by simp only [ch]; omega) (by omega) a6, cr_ne (by simp only [ch]; omega) (by omega) a7, cr_ne (by simp only [ch]; omega) (by omega) a8⟩, fun f q => ⟨cr_ne (by simp only [ch]; omega) (by omega) (hf f q).1, cr_ne (by simp only [ch]; omega) (by omega) (hf f q).2.1, cr_ne (by simp only [ch]; omega) (by omega) (hf f q).2.2⟩, fun t q => ⟨cr_ne (by simp only [ch]; omega) (by omega) (ht t q).1, cr_ne (by simp only [ch]; omega) (by omega) (ht t q).2.1, ((Decidable.em (t = x)).elim (fun e => by subst e; exact cr_eq) (fun e => cr_ne (by simp only [ch]; omega) (by omega) (ht t q).2.2))⟩, fun k q => cr_ne (by simp only [ch]; omega) (by omega) (hs k q), fun k q => ?_⟩
  rw [upd_ne (show ¬ (0 : Nat) = 42 + 3 * x by omega)]
  exact cr_ne (by simp only [ch]; omega) (by omega) (hb k q)
theorem CR.spo {G : GG} {i : Nat} {μ : MU} (h : CR G i μ) {x : Nat} (hx : x < 10) (v : Int32) : CR (up G (ch i 9) x v) i (upd μ (70 + x) v) := by
  obtain ⟨⟨a0, a1, a2, a3, a4, a5, a6, a7, a8⟩, hf, ht, hs, hb⟩ := h
  refine ⟨⟨cr_ne (by simp only [ch]; omega) (by omega) a0, cr_ne (by simp only [ch]; omega) (by omega) a1, cr_ne (by simp only [ch]; omega) (by omega) a2, cr_ne (by simp only [ch]; omega) (by omega) a3, cr_ne (by simp only [ch]; omega) (by omega) a4, cr_ne (by simp only [ch]; omega) (by omega) a5, cr_ne (by simp only [ch]; omega) (by omega) a6, cr_ne (by simp only [ch]; omega) (by omega) a7, cr_ne (by simp only [ch]; omega) (by omega) a8⟩, fun f q => ⟨cr_ne (by simp only [ch]; omega) (by omega) (hf f q).1, cr_ne (by simp only [ch]; omega) (by omega) (hf f q).2.1, cr_ne (by simp only [ch]; omega) (by omega) (hf f q).2.2⟩, fun t q => ⟨cr_ne (by simp only [ch]; omega) (by omega) (ht t q).1, cr_ne (by simp only [ch]; omega) (by omega) (ht t q).2.1, cr_ne (by simp only [ch]; omega) (by omega) (ht t q).2.2⟩, fun k q => ((Decidable.em (k = x)).elim (fun e => by subst e; exact cr_eq) (fun e => cr_ne (by simp only [ch]; omega) (by omega) (hs k q))), fun k q => ?_⟩
  rw [upd_ne (show ¬ (0 : Nat) = 70 + x by omega)]
  exact cr_ne (by simp only [ch]; omega) (by omega) (hb k q)
theorem CR.meal {G : GG} {i : Nat} {μ : MU} (h : CR G i μ) {m : Nat} (hm : μ 0 = nI m) (hb0 : m < 2 ^ 30) (e n9 : Int32) : CR (up (up G (ch i 8) (m % 35) e) (ch i 0) 10 (μ 0 + nI 1)) i (upd (upd (shf μ e) 9 n9) 0 (μ 0 + nI 1)) := by
  obtain ⟨⟨a0, a1, a2, a3, a4, a5, a6, a7, a8⟩, hf, ht, hs, hb⟩ := h
  have key : ∀ (c' f' k' : Nat), ¬ (c' = ch i 0 ∧ f' = 10) → ¬ c' = ch i 8 → ¬ k' = 0 → ¬ k' = 9 → k' < 80 → G c' f' = μ k' → up (up G (ch i 8) (m % 35) e) (ch i 0) 10 (μ 0 + nI 1) c' f' = upd (upd (shf μ e) 9 n9) 0 (μ 0 + nI 1) k' := by
    intro c' f' k' h1 h2 h3 h4 h5 h6
    rw [up_ne h1, up_ne (fun q => h2 q.1), upd_ne h3, upd_ne h4]
    simp only [shf]
    rw [if_neg (by omega), if_neg (by omega)]
    exact h6
  have hcl : cl (μ 0) = m := by rw [hm]; exact nI_clamp (by omega)
  have hcl1 : cl (μ 0 + nI 1) = m + 1 := by rw [hm, nI_add]; exact nI_clamp (by omega)
  refine ⟨⟨cr_eq, key _ _ _ (by simp only [ch]; omega) (by simp only [ch]; omega) (by omega) (by omega) (by omega) a1, key _ _ _ (by simp only [ch]; omega) (by simp only [ch]; omega) (by omega) (by omega) (by omega) a2, key _ _ _ (by simp only [ch]; omega) (by simp only [ch]; omega) (by omega) (by omega) (by omega) a3, key _ _ _ (by simp only [ch]; omega) (by simp only [ch]; omega) (by omega) (by omega) (by omega) a4, key _ _ _ (by simp only [ch]; omega) (by simp only [ch]; omega) (by omega) (by omega) (by omega) a5, key _ _ _ (by simp only [ch]; omega) (by simp only [ch]; omega) (by omega) (by omega) (by omega) a6, key _ _ _ (by simp only [ch]; omega) (by simp only [ch]; omega) (by omega) (by omega) (by omega) a7, key _ _ _ (by simp only [ch]; omega) (by simp only [ch]; omega) (by omega) (by omega) (by omega) a8⟩,
    fun f q => ⟨key _ _ _ (by simp only [ch]; omega) (by simp only [ch]; omega) (by omega) (by omega) (by omega) (hf f q).1, key _ _ _ (by simp only [ch]; omega) (by simp only [ch]; omega) (by omega) (by omega) (by omega) (hf f q).2.1, key _ _ _ (by simp only [ch]; omega) (by simp only [ch]; omega) (by omega) (by omega) (by omega) (hf f q).2.2⟩,
    fun t q => ⟨key _ _ _ (by simp only [ch]; omega) (by simp only [ch]; omega) (by omega) (by omega) (by omega) (ht t q).1, key _ _ _ (by simp only [ch]; omega) (by simp only [ch]; omega) (by omega) (by omega) (by omega) (ht t q).2.1, key _ _ _ (by simp only [ch]; omega) (by simp only [ch]; omega) (by omega) (by omega) (by omega) (ht t q).2.2⟩,
    fun k q => key _ _ _ (by simp only [ch]; omega) (by simp only [ch]; omega) (by omega) (by omega) (by omega) (hs k q), fun k q => ?_⟩
  rw [upd_eq, hcl1, up_ne (by simp only [ch]; omega), upd_ne (by omega), upd_ne (by omega)]
  simp only [shf]
  by_cases hk : k = 0
  · subst hk
    rw [if_pos (by omega)]
    rw [show rix (m + 1) 0 = m % 35 by simp only [rix]; omega]
    exact up_eq
  · rw [if_neg (by omega), if_pos (by omega), up_ne (by simp only [rix]; omega)]
    have h9 := hb (k - 1) (by omega)
    rw [hcl] at h9
    rw [show rix (m + 1) k = rix m (k - 1) by simp only [rix]; omega, h9, show 80 + k - 1 = 80 + (k - 1) by omega]
theorem imin_nI {a b : Nat} (ha : a < 2 ^ 31) (hb : b < 2 ^ 31) : imin (nI a) (nI b) = nI (min a b) := by
  unfold imin
  by_cases h : b < a
  · rw [if_pos ((nI_ltI hb ha).mpr h), Nat.min_eq_right (by omega)]
  · rw [if_neg (fun q => h ((nI_ltI hb ha).mp q)), Nat.min_eq_left (by omega)]
theorem imax_nI {a b : Nat} (ha : a < 2 ^ 31) (hb : b < 2 ^ 31) : imax (nI a) (nI b) = nI (max a b) := by
  unfold imax
  by_cases h : a < b
  · rw [if_pos ((nI_ltI ha hb).mpr h), Nat.max_eq_right (by omega)]
  · rw [if_neg (fun q => h ((nI_ltI ha hb).mp q)), Nat.max_eq_left (by omega)]
theorem nI_nn {x : Int32} (h : ¬ x < nI 0) : ∃ j, j < 2 ^ 31 ∧ x = nI j := nI_of (by rw [nI_0] at h; exact h)
theorem imax0 (x : Int32) : ∃ j, j < 2 ^ 31 ∧ imax (nI 0) x = nI j ∧ (x < nI 0 → j = 0) ∧ (∀ b, b < 2 ^ 31 → x ≤ nI b → j ≤ b) := by
  unfold imax
  by_cases h : nI 0 < x
  · obtain ⟨j, h1, h2⟩ := nI_nn (fun q => Int32.lt_irrefl (Int32.lt_trans h q))
    rw [if_pos h]
    refine ⟨j, h1, h2, fun q => (Int32.lt_irrefl (Int32.lt_trans h q)).elim, fun b hb q => ?_⟩
    rw [h2] at q
    exact (nI_leI h1 hb).mp q
  · rw [if_neg h]
    exact ⟨0, by decide, rfl, fun _ => rfl, fun _ _ _ => Nat.zero_le _⟩
theorem imin_le {b : Nat} {x : Int32} : imin (nI b) x ≤ nI b := by
  unfold imin
  by_cases h : x < nI b
  · rw [if_pos h]
    exact Int32.le_of_lt h
  · rw [if_neg h]
    exact Int32.le_refl _
theorem nn_clamp {b : Nat} (hb : b < 2 ^ 31) (x : Int32) : nn (imax (nI 0) (imin (nI b) x)) b := by
  obtain ⟨j, h1, h2, h3, h4⟩ := imax0 (imin (nI b) x)
  exact ⟨j, h4 b hb imin_le, h2⟩
theorem nn_lk (x : Int32) : nn (lkS x) 99 := nn_clamp (by decide) x
theorem nn_wei (w e : Int32) : nn (weiS w e) 9999 := nn_clamp (by decide) _
theorem sub_cases {a b : Nat} (ha : a < 2 ^ 30) (hb : b < 2 ^ 30) : (b ≤ a ∧ nI a - nI b = nI (a - b)) ∨ (a < b ∧ nI a - nI b < nI 0) := by
  rcases Nat.lt_or_ge a b with h | h
  · exact Or.inr ⟨h, by rw [nI_0]; exact pk_sneg hb h⟩
  · exact Or.inl ⟨h, pk_sub h⟩
theorem hun_val {a b : Nat} (ha : a ≤ 99) (hb : b ≤ 20) : hunS (nI a) (nI b) = nI (min 99 (a - 3 * b + 12)) := by
  unfold hunS
  rw [pk_mul]
  rcases sub_cases (a := a) (b := 3 * b) (by omega) (by omega) with ⟨h, e⟩ | ⟨h, e⟩
  · rw [e, imax_nI (by decide) (by omega), nI_add, imin_nI (by decide) (by omega), Nat.zero_max]
  · obtain ⟨j, h1, h2, h3, h4⟩ := imax0 (nI a - nI (3 * b))
    rw [h2, h3 e, nI_add, imin_nI (by decide) (by omega), show a - 3 * b = 0 by omega]
theorem nn_hun {h e : Int32} (hh : nn h 99) (he : nn e 20) : nn (hunS h e) 99 := by
  obtain ⟨a, h1, rfl⟩ := hh
  obtain ⟨b, h2, rfl⟩ := he
  rw [hun_val h1 h2]
  exact ⟨_, by omega, rfl⟩
theorem pl_val {p l h : Nat} (hp : p ≤ 20) (hl : l ≤ 99) (hh : h ≤ 99) : plS (nI p) (nI l) (nI h) = nI (p * l * (h + 20) / 10000) ∧ p * l * (h + 20) ≤ 20 * 99 * 119 := by
  have h1 : p * l ≤ 20 * 99 := Nat.mul_le_mul hp hl
  have h2 : p * l * (h + 20) ≤ 20 * 99 * 119 := Nat.mul_le_mul h1 (by omega)
  unfold plS
  rw [pk_mul, nI_add, pk_mul, pk_div (by omega) (by decide) (by decide)]
  exact ⟨rfl, h2⟩
theorem nI_ne {a b : Nat} (ha : a < 2 ^ 31) (hb : b < 2 ^ 31) (h : a ≠ b) : ¬ nI a = nI b := fun q => h ((nI_eq ha hb).mp q)
/-- what is eaten, before it is held to what was put -/
def eatR (k put like hun : Int32) (fr fnd : Bool) : Int32 :=
  if k = nI 1 then nI 0 else if k = nI 2 then plS put like hun + nI 2 else if k = nI 3 then plS put like hun + nI 5
  else if k = nI 4 ∨ k = nI 5 then (if fr = true then plS put like hun + plS put like hun / nI 2 else plS put like hun)
  else if k = nI 6 then (if fnd = true then nI 0 else put) else plS put like hun
theorem he_min {p n : Nat} (hp : p < 2 ^ 31) (hn : n < 2 ^ 31) : heS (nI n) (nI p) = imin (nI p) (nI n) := by
  unfold heS imin
  rw [if_neg (fun q => absurd ((nI_ltI hn (by decide)).mp q) (by omega))]
  by_cases h : p < n
  · rw [if_pos ((nI_ltI hp hn).mpr h), if_neg (fun q => absurd ((nI_ltI hn hp).mp q) (by omega))]
  · rw [if_neg (fun q => h ((nI_ltI hp hn).mp q))]
    by_cases h2 : n < p
    · rw [if_pos ((nI_ltI hn hp).mpr h2)]
    · rw [if_neg (fun q => h2 ((nI_ltI hn hp).mp q)), show n = p by omega]
theorem eat_val {p l h : Nat} (k : Int32) (fr fnd : Bool) (hp : p ≤ 20) (hl : l ≤ 99) (hh : h ≤ 99) : ∃ n, n < 1000 ∧ eatR k (nI p) (nI l) (nI h) fr fnd = nI n ∧ eatS k (nI p) (nI l) (nI h) fr fnd = imin (nI p) (nI n) := by
  obtain ⟨e1, e2⟩ := pl_val hp hl hh
  have e3 : p * l * (h + 20) / 10000 ≤ 23 := by omega
  generalize p * l * (h + 20) / 10000 = z at e1 e3
  unfold eatR eatS
  rw [e1]
  by_cases k1 : k = nI 1
  · rw [if_pos k1, if_pos k1]
    exact ⟨0, by decide, rfl, by rw [imin_nI (by omega) (by decide), Nat.min_eq_right (by omega)]⟩
  rw [if_neg k1, if_neg k1]
  by_cases k2 : k = nI 2
  · rw [if_pos k2, if_pos k2, nI_add]
    exact ⟨z + 2, by omega, rfl, rfl⟩
  rw [if_neg k2, if_neg k2]
  by_cases k3 : k = nI 3
  · rw [if_pos k3, if_pos k3, nI_add, nI_add, nI_add]
    exact ⟨z + 5, by omega, rfl, rfl⟩
  rw [if_neg k3, if_neg k3]
  by_cases k4 : k = nI 4 ∨ k = nI 5
  · rw [if_pos k4, if_pos k4, pk_div (by omega) (by decide) (by decide), nI_add]
    by_cases q : fr = true
    · rw [if_pos q]
      exact ⟨_, by omega, rfl, rfl⟩
    · rw [if_neg q]
      exact ⟨z, by omega, rfl, rfl⟩
  rw [if_neg k4, if_neg k4]
  by_cases k6 : k = nI 6
  · rw [if_pos k6, if_pos k6]
    by_cases q : fnd = true
    · rw [if_pos q]
      exact ⟨0, by decide, rfl, by rw [imin_nI (by omega) (by decide), Nat.min_eq_right (by omega)]⟩
    · rw [if_neg q]
      exact ⟨p, by omega, rfl, by rw [imin_nI (by omega) (by omega), Nat.min_self]⟩
  rw [if_neg k6, if_neg k6]
  exact ⟨z, by omega, rfl, rfl⟩
theorem nn_eat {put like hun : Int32} (k : Int32) (fr fnd : Bool) (hp : nn put 20) (hl : nn like 99) (hh : nn hun 99) : nn (eatS k put like hun fr fnd) 20 := by
  obtain ⟨p, h1, rfl⟩ := hp
  obtain ⟨l, h2, rfl⟩ := hl
  obtain ⟨h, h3, rfl⟩ := hh
  obtain ⟨n, e1, e2, e3⟩ := eat_val k fr fnd h1 h2 h3
  rw [e3, imin_nI (by omega) (by omega)]
  exact ⟨_, by omega, rfl⟩
theorem he_eat {put like hun : Int32} (k : Int32) (fr fnd : Bool) (hp : nn put 20) (hl : nn like 99) (hh : nn hun 99) : heS (eatR k put like hun fr fnd) put = eatS k put like hun fr fnd := by
  obtain ⟨p, h1, rfl⟩ := hp
  obtain ⟨l, h2, rfl⟩ := hl
  obtain ⟨h, h3, rfl⟩ := hh
  obtain ⟨n, e1, e2, e3⟩ := eat_val k fr fnd h1 h2 h3
  rw [e3, e2, he_min (by omega) (by omega)]
theorem he_clamp {b : Nat} (hb : b < 2 ^ 31) (x : Int32) : heS x (nI b) = imax (nI 0) (imin (nI b) x) := by
  by_cases h : x < nI 0
  · obtain ⟨j, h1, h2, h3, h4⟩ := imax0 (imin (nI b) x)
    have e : imin (nI b) x = x := by
      unfold imin
      rw [if_pos (Int32.lt_of_lt_of_le h (nI_le (Nat.zero_le b) hb))]
    rw [h2, h3 (by rw [e]; exact h)]
    unfold heS
    rw [if_pos h]
  · obtain ⟨n, h1, rfl⟩ := nI_nn h
    rw [imin_nI hb h1, imax_nI (by decide) (by omega), Nat.zero_max, he_min hb h1, imin_nI hb h1]
theorem he_lk (x : Int32) : heS x (nI 99) = lkS x := he_clamp (by decide) x
theorem he_wei (w e : Int32) : heS (w + e - nI 4) (nI 9999) = weiS w e := he_clamp (by decide) _
theorem he_hun {h e : Int32} (hh : nn h 99) (he : nn e 20) : heS (heS (h - nI 3 * e) (nI 99) + nI 12) (nI 99) = hunS h e := by
  obtain ⟨a, h1, rfl⟩ := hh
  obtain ⟨b, h2, rfl⟩ := he
  rw [hun_val h1 h2, he_clamp (by decide) (_ - _), pk_mul]
  have e : imax (nI 0) (imin (nI 99) (nI a - nI (3 * b))) = nI (a - 3 * b) := by
    rcases sub_cases (a := a) (b := 3 * b) (by omega) (by omega) with ⟨h, e⟩ | ⟨h, e⟩
    · rw [e, imin_nI (by decide) (by omega), imax_nI (by decide) (by omega), Nat.zero_max, Nat.min_eq_right (by omega)]
    · obtain ⟨j, g1, g2, g3, g4⟩ := imax0 (imin (nI 99) (nI a - nI (3 * b)))
      have e2 : imin (nI 99) (nI a - nI (3 * b)) = nI a - nI (3 * b) := by
        unfold imin
        rw [if_pos (Int32.lt_trans e (nI_lt (by decide) (by decide)))]
      rw [g2, g3 (by rw [e2]; exact e), show a - 3 * b = 0 by omega]
  rw [e, nI_add, he_min (by decide) (by omega), imin_nI (by decide) (by omega)]
theorem nn_tri {x : Int32} (h : nn x 999) : nn (imin (nI 999) (x + nI 1)) 999 := by
  obtain ⟨n, h1, rfl⟩ := h
  rw [nI_add, imin_nI (by decide) (by omega)]
  exact ⟨_, by omega, rfl⟩
theorem he_tri {x : Int32} (h : nn x 999) : heS (x + nI 1) (nI 999) = imin (nI 999) (x + nI 1) := by
  obtain ⟨n, h1, rfl⟩ := h
  rw [nI_add, he_min (by decide) (by omega)]
/-! the invariant goes on -/
theorem Inv.like {b : Nat} {μ : MU} (h : Inv b μ) {x : Nat} (hx : x < 10) {v : Int32} (hv : nn v 99) : Inv b (upd μ (10 + 3 * x) v) := by
  obtain ⟨hm, ⟨s1, s2, s3, s4, s5, s6⟩, hn, hf, ht, hb⟩ := h
  simp only [Inv]
  rw [upd_ne (show ¬ 0 = 10 + 3 * x by omega), upd_ne (show ¬ 9 = 10 + 3 * x by omega), upd_ne (show ¬ 2 = 10 + 3 * x by omega), upd_ne (show ¬ 3 = 10 + 3 * x by omega), upd_ne (show ¬ 4 = 10 + 3 * x by omega), upd_ne (show ¬ 5 = 10 + 3 * x by omega), upd_ne (show ¬ 6 = 10 + 3 * x by omega), upd_ne (show ¬ 7 = 10 + 3 * x by omega), upd_ne (show ¬ 8 = 10 + 3 * x by omega)]
  refine ⟨hm, ⟨s1, s2, s3, s4, s5, s6⟩, ?_, fun f q => ⟨?_, ?_, ?_⟩, fun t q => ⟨?_, ?_, ?_⟩, fun k q => ?_⟩
  · obtain ⟨n, h1, h2, h3⟩ := hn
    exact ⟨n, h1, h2, fun k hk => by rw [upd_ne (by omega)]; exact h3 k hk⟩
  · by_cases e : f = x
    · subst e; rw [upd_eq]; exact hv
    · rw [upd_ne (by omega)]; exact (hf f q).1
  · rw [upd_ne (by omega)]; exact (hf f q).2.1
  · rw [upd_ne (by omega)]; exact (hf f q).2.2
  · rw [upd_ne (by omega)]; exact (ht t q).1
  · rw [upd_ne (by omega)]; exact (ht t q).2.1
  · rw [upd_ne (by omega)]; exact (ht t q).2.2
  · rw [upd_ne (by omega)]; exact hb k q
theorem Inv.bit {b : Nat} {μ : MU} (h : Inv b μ) {x : Nat} (hx : x < 10) {v : Int32} (hv : nn v 9) : Inv b (upd μ (11 + 3 * x) v) := by
  obtain ⟨hm, ⟨s1, s2, s3, s4, s5, s6⟩, hn, hf, ht, hb⟩ := h
  simp only [Inv]
  rw [upd_ne (show ¬ 0 = 11 + 3 * x by omega), upd_ne (show ¬ 9 = 11 + 3 * x by omega), upd_ne (show ¬ 2 = 11 + 3 * x by omega), upd_ne (show ¬ 3 = 11 + 3 * x by omega), upd_ne (show ¬ 4 = 11 + 3 * x by omega), upd_ne (show ¬ 5 = 11 + 3 * x by omega), upd_ne (show ¬ 6 = 11 + 3 * x by omega), upd_ne (show ¬ 7 = 11 + 3 * x by omega), upd_ne (show ¬ 8 = 11 + 3 * x by omega)]
  refine ⟨hm, ⟨s1, s2, s3, s4, s5, s6⟩, ?_, fun f q => ⟨?_, ?_, ?_⟩, fun t q => ⟨?_, ?_, ?_⟩, fun k q => ?_⟩
  · obtain ⟨n, h1, h2, h3⟩ := hn
    exact ⟨n, h1, h2, fun k hk => by rw [upd_ne (by omega)]; exact h3 k hk⟩
  · rw [upd_ne (by omega)]; exact (hf f q).1
  · by_cases e : f = x
    · subst e; rw [upd_eq]; exact hv
    · rw [upd_ne (by omega)]; exact (hf f q).2.1
  · rw [upd_ne (by omega)]; exact (hf f q).2.2
  · rw [upd_ne (by omega)]; exact (ht t q).1
  · rw [upd_ne (by omega)]; exact (ht t q).2.1
  · rw [upd_ne (by omega)]; exact (ht t q).2.2
  · rw [upd_ne (by omega)]; exact hb k q
theorem Inv.tri {b : Nat} {μ : MU} (h : Inv b μ) {x : Nat} (hx : x < 10) {v : Int32} (hv : nn v 999) : Inv b (upd μ (12 + 3 * x) v) := by
  obtain ⟨hm, ⟨s1, s2, s3, s4, s5, s6⟩, hn, hf, ht, hb⟩ := h
  simp only [Inv]
  rw [upd_ne (show ¬ 0 = 12 + 3 * x by omega), upd_ne (show ¬ 9 = 12 + 3 * x by omega), upd_ne (show ¬ 2 = 12 + 3 * x by omega), upd_ne (show ¬ 3 = 12 + 3 * x by omega), upd_ne (show ¬ 4 = 12 + 3 * x by omega), upd_ne (show ¬ 5 = 12 + 3 * x by omega), upd_ne (show ¬ 6 = 12 + 3 * x by omega), upd_ne (show ¬ 7 = 12 + 3 * x by omega), upd_ne (show ¬ 8 = 12 + 3 * x by omega)]
  refine ⟨hm, ⟨s1, s2, s3, s4, s5, s6⟩, ?_, fun f q => ⟨?_, ?_, ?_⟩, fun t q => ⟨?_, ?_, ?_⟩, fun k q => ?_⟩
  · obtain ⟨n, h1, h2, h3⟩ := hn
    exact ⟨n, h1, h2, fun k hk => by rw [upd_ne (by omega)]; exact h3 k hk⟩
  · rw [upd_ne (by omega)]; exact (hf f q).1
  · rw [upd_ne (by omega)]; exact (hf f q).2.1
  · by_cases e : f = x
    · subst e; rw [upd_eq]; exact hv
    · rw [upd_ne (by omega)]; exact (hf f q).2.2
  · rw [upd_ne (by omega)]; exact (ht t q).1
  · rw [upd_ne (by omega)]; exact (ht t q).2.1
  · rw [upd_ne (by omega)]; exact (ht t q).2.2
  · rw [upd_ne (by omega)]; exact hb k q
theorem Inv.kin {b : Nat} {μ : MU} (h : Inv b μ) {x : Nat} (hx : x < 10) {v : Int32} (hv : nn v 6) : Inv b (upd μ (40 + 3 * x) v) := by
  obtain ⟨hm, ⟨s1, s2, s3, s4, s5, s6⟩, hn, hf, ht, hb⟩ := h
  simp only [Inv]
  rw [upd_ne (show ¬ 0 = 40 + 3 * x by omega), upd_ne (show ¬ 9 = 40 + 3 * x by omega), upd_ne (show ¬ 2 = 40 + 3 * x by omega), upd_ne (show ¬ 3 = 40 + 3 * x by omega), upd_ne (show ¬ 4 = 40 + 3 * x by omega), upd_ne (show ¬ 5 = 40 + 3 * x by omega), upd_ne (show ¬ 6 = 40 + 3 * x by omega), upd_ne (show ¬ 7 = 40 + 3 * x by omega), upd_ne (show ¬ 8 = 40 + 3 * x by omega)]
  refine ⟨hm, ⟨s1, s2, s3, s4, s5, s6⟩, ?_, fun f q => ⟨?_, ?_, ?_⟩, fun t q => ⟨?_, ?_, ?_⟩, fun k q => ?_⟩
  · obtain ⟨n, h1, h2, h3⟩ := hn
    exact ⟨n, h1, h2, fun k hk => by rw [upd_ne (by omega)]; exact h3 k hk⟩
  · rw [upd_ne (by omega)]; exact (hf f q).1
  · rw [upd_ne (by omega)]; exact (hf f q).2.1
  · rw [upd_ne (by omega)]; exact (hf f q).2.2
  · by_cases e : t = x
    · subst e; rw [upd_eq]; exact hv
    · rw [upd_ne (by omega)]; exact (ht t q).1
  · rw [upd_ne (by omega)]; exact (ht t q).2.1
  · rw [upd_ne (by omega)]; exact (ht t q).2.2
  · rw [upd_ne (by omega)]; exact hb k q
theorem Inv.foo {b : Nat} {μ : MU} (h : Inv b μ) {x : Nat} (hx : x < 10) {v : Int32} (hv : nn v 9) : Inv b (upd μ (41 + 3 * x) v) := by
  obtain ⟨hm, ⟨s1, s2, s3, s4, s5, s6⟩, hn, hf, ht, hb⟩ := h
  simp only [Inv]
  rw [upd_ne (show ¬ 0 = 41 + 3 * x by omega), upd_ne (show ¬ 9 = 41 + 3 * x by omega), upd_ne (show ¬ 2 = 41 + 3 * x by omega), upd_ne (show ¬ 3 = 41 + 3 * x by omega), upd_ne (show ¬ 4 = 41 + 3 * x by omega), upd_ne (show ¬ 5 = 41 + 3 * x by omega), upd_ne (show ¬ 6 = 41 + 3 * x by omega), upd_ne (show ¬ 7 = 41 + 3 * x by omega), upd_ne (show ¬ 8 = 41 + 3 * x by omega)]
  refine ⟨hm, ⟨s1, s2, s3, s4, s5, s6⟩, ?_, fun f q => ⟨?_, ?_, ?_⟩, fun t q => ⟨?_, ?_, ?_⟩, fun k q => ?_⟩
  · obtain ⟨n, h1, h2, h3⟩ := hn
    exact ⟨n, h1, h2, fun k hk => by rw [upd_ne (by omega)]; exact h3 k hk⟩
  · rw [upd_ne (by omega)]; exact (hf f q).1
  · rw [upd_ne (by omega)]; exact (hf f q).2.1
  · rw [upd_ne (by omega)]; exact (hf f q).2.2
  · rw [upd_ne (by omega)]; exact (ht t q).1
  · by_cases e : t = x
    · subst e; rw [upd_eq]; exact hv
    · rw [upd_ne (by omega)]; exact (ht t q).2.1
  · rw [upd_ne (by omega)]; exact (ht t q).2.2
  · rw [upd_ne (by omega)]; exact hb k q
theorem Inv.put {b : Nat} {μ : MU} (h : Inv b μ) {x : Nat} (hx : x < 10) {v : Int32} (hv : nn v 20) : Inv b (upd μ (42 + 3 * x) v) := by
  obtain ⟨hm, ⟨s1, s2, s3, s4, s5, s6⟩, hn, hf, ht, hb⟩ := h
  simp only [Inv]
  rw [upd_ne (show ¬ 0 = 42 + 3 * x by omega), upd_ne (show ¬ 9 = 42 + 3 * x by omega), upd_ne (show ¬ 2 = 42 + 3 * x by omega), upd_ne (show ¬ 3 = 42 + 3 * x by omega), upd_ne (show ¬ 4 = 42 + 3 * x by omega), upd_ne (show ¬ 5 = 42 + 3 * x by omega), upd_ne (show ¬ 6 = 42 + 3 * x by omega), upd_ne (show ¬ 7 = 42 + 3 * x by omega), upd_ne (show ¬ 8 = 42 + 3 * x by omega)]
  refine ⟨hm, ⟨s1, s2, s3, s4, s5, s6⟩, ?_, fun f q => ⟨?_, ?_, ?_⟩, fun t q => ⟨?_, ?_, ?_⟩, fun k q => ?_⟩
  · obtain ⟨n, h1, h2, h3⟩ := hn
    exact ⟨n, h1, h2, fun k hk => by rw [upd_ne (by omega)]; exact h3 k hk⟩
  · rw [upd_ne (by omega)]; exact (hf f q).1
  · rw [upd_ne (by omega)]; exact (hf f q).2.1
  · rw [upd_ne (by omega)]; exact (hf f q).2.2
  · rw [upd_ne (by omega)]; exact (ht t q).1
  · rw [upd_ne (by omega)]; exact (ht t q).2.1
  · by_cases e : t = x
    · subst e; rw [upd_eq]; exact hv
    · rw [upd_ne (by omega)]; exact (ht t q).2.2
  · rw [upd_ne (by omega)]; exact hb k q
theorem Inv.bent {b : Nat} {μ : MU} (h : Inv b μ)  {v : Int32} (hv : nn v 9) : Inv b (upd μ (2) v) := by
  obtain ⟨hm, ⟨s1, s2, s3, s4, s5, s6⟩, hn, hf, ht, hb⟩ := h
  simp only [Inv]
  rw [upd_ne (show ¬ 0 = 2 by omega), upd_ne (show ¬ 9 = 2 by omega), upd_ne (show ¬ 3 = 2 by omega), upd_ne (show ¬ 4 = 2 by omega), upd_ne (show ¬ 5 = 2 by omega), upd_ne (show ¬ 6 = 2 by omega), upd_ne (show ¬ 7 = 2 by omega), upd_ne (show ¬ 8 = 2 by omega)]
  rw [upd_eq]
  refine ⟨hm, ⟨hv, s2, s3, s4, s5, s6⟩, ?_, fun f q => ⟨?_, ?_, ?_⟩, fun t q => ⟨?_, ?_, ?_⟩, fun k q => ?_⟩
  · obtain ⟨n, h1, h2, h3⟩ := hn
    exact ⟨n, h1, h2, fun k hk => by rw [upd_ne (by omega)]; exact h3 k hk⟩
  · rw [upd_ne (by omega)]; exact (hf f q).1
  · rw [upd_ne (by omega)]; exact (hf f q).2.1
  · rw [upd_ne (by omega)]; exact (hf f q).2.2
  · rw [upd_ne (by omega)]; exact (ht t q).1
  · rw [upd_ne (by omega)]; exact (ht t q).2.1
  · rw [upd_ne (by omega)]; exact (ht t q).2.2
  · rw [upd_ne (by omega)]; exact hb k q
theorem Inv.hun {b : Nat} {μ : MU} (h : Inv b μ)  {v : Int32} (hv : nn v 99) : Inv b (upd μ (3) v) := by
  obtain ⟨hm, ⟨s1, s2, s3, s4, s5, s6⟩, hn, hf, ht, hb⟩ := h
  simp only [Inv]
  rw [upd_ne (show ¬ 0 = 3 by omega), upd_ne (show ¬ 9 = 3 by omega), upd_ne (show ¬ 2 = 3 by omega), upd_ne (show ¬ 4 = 3 by omega), upd_ne (show ¬ 5 = 3 by omega), upd_ne (show ¬ 6 = 3 by omega), upd_ne (show ¬ 7 = 3 by omega), upd_ne (show ¬ 8 = 3 by omega)]
  rw [upd_eq]
  refine ⟨hm, ⟨s1, hv, s3, s4, s5, s6⟩, ?_, fun f q => ⟨?_, ?_, ?_⟩, fun t q => ⟨?_, ?_, ?_⟩, fun k q => ?_⟩
  · obtain ⟨n, h1, h2, h3⟩ := hn
    exact ⟨n, h1, h2, fun k hk => by rw [upd_ne (by omega)]; exact h3 k hk⟩
  · rw [upd_ne (by omega)]; exact (hf f q).1
  · rw [upd_ne (by omega)]; exact (hf f q).2.1
  · rw [upd_ne (by omega)]; exact (hf f q).2.2
  · rw [upd_ne (by omega)]; exact (ht t q).1
  · rw [upd_ne (by omega)]; exact (ht t q).2.1
  · rw [upd_ne (by omega)]; exact (ht t q).2.2
  · rw [upd_ne (by omega)]; exact hb k q
theorem Inv.wei {b : Nat} {μ : MU} (h : Inv b μ)  {v : Int32} (hv : nn v 9999) : Inv b (upd μ (4) v) := by
  obtain ⟨hm, ⟨s1, s2, s3, s4, s5, s6⟩, hn, hf, ht, hb⟩ := h
  simp only [Inv]
  rw [upd_ne (show ¬ 0 = 4 by omega), upd_ne (show ¬ 9 = 4 by omega), upd_ne (show ¬ 2 = 4 by omega), upd_ne (show ¬ 3 = 4 by omega), upd_ne (show ¬ 5 = 4 by omega), upd_ne (show ¬ 6 = 4 by omega), upd_ne (show ¬ 7 = 4 by omega), upd_ne (show ¬ 8 = 4 by omega)]
  rw [upd_eq]
  refine ⟨hm, ⟨s1, s2, hv, s4, s5, s6⟩, ?_, fun f q => ⟨?_, ?_, ?_⟩, fun t q => ⟨?_, ?_, ?_⟩, fun k q => ?_⟩
  · obtain ⟨n, h1, h2, h3⟩ := hn
    exact ⟨n, h1, h2, fun k hk => by rw [upd_ne (by omega)]; exact h3 k hk⟩
  · rw [upd_ne (by omega)]; exact (hf f q).1
  · rw [upd_ne (by omega)]; exact (hf f q).2.1
  · rw [upd_ne (by omega)]; exact (hf f q).2.2
  · rw [upd_ne (by omega)]; exact (ht t q).1
  · rw [upd_ne (by omega)]; exact (ht t q).2.1
  · rw [upd_ne (by omega)]; exact (ht t q).2.2
  · rw [upd_ne (by omega)]; exact hb k q
theorem Inv.line {b : Nat} {μ : MU} (h : Inv b μ)  {v : Int32} (hv : nn v 99) : Inv b (upd μ (5) v) := by
  obtain ⟨hm, ⟨s1, s2, s3, s4, s5, s6⟩, hn, hf, ht, hb⟩ := h
  simp only [Inv]
  rw [upd_ne (show ¬ 0 = 5 by omega), upd_ne (show ¬ 9 = 5 by omega), upd_ne (show ¬ 2 = 5 by omega), upd_ne (show ¬ 3 = 5 by omega), upd_ne (show ¬ 4 = 5 by omega), upd_ne (show ¬ 6 = 5 by omega), upd_ne (show ¬ 7 = 5 by omega), upd_ne (show ¬ 8 = 5 by omega)]
  rw [upd_eq]
  refine ⟨hm, ⟨s1, s2, s3, hv, s5, s6⟩, ?_, fun f q => ⟨?_, ?_, ?_⟩, fun t q => ⟨?_, ?_, ?_⟩, fun k q => ?_⟩
  · obtain ⟨n, h1, h2, h3⟩ := hn
    exact ⟨n, h1, h2, fun k hk => by rw [upd_ne (by omega)]; exact h3 k hk⟩
  · rw [upd_ne (by omega)]; exact (hf f q).1
  · rw [upd_ne (by omega)]; exact (hf f q).2.1
  · rw [upd_ne (by omega)]; exact (hf f q).2.2
  · rw [upd_ne (by omega)]; exact (ht t q).1
  · rw [upd_ne (by omega)]; exact (ht t q).2.1
  · rw [upd_ne (by omega)]; exact (ht t q).2.2
  · rw [upd_ne (by omega)]; exact hb k q
theorem Inv.pud {b : Nat} {μ : MU} (h : Inv b μ)  {v : Int32} (hv : v = -1 ∨ nn v 9) : Inv b (upd μ (6) v) := by
  obtain ⟨hm, ⟨s1, s2, s3, s4, s5, s6⟩, hn, hf, ht, hb⟩ := h
  simp only [Inv]
  rw [upd_ne (show ¬ 0 = 6 by omega), upd_ne (show ¬ 9 = 6 by omega), upd_ne (show ¬ 2 = 6 by omega), upd_ne (show ¬ 3 = 6 by omega), upd_ne (show ¬ 4 = 6 by omega), upd_ne (show ¬ 5 = 6 by omega), upd_ne (show ¬ 7 = 6 by omega), upd_ne (show ¬ 8 = 6 by omega)]
  rw [upd_eq]
  refine ⟨hm, ⟨s1, s2, s3, s4, hv, s6⟩, ?_, fun f q => ⟨?_, ?_, ?_⟩, fun t q => ⟨?_, ?_, ?_⟩, fun k q => ?_⟩
  · obtain ⟨n, h1, h2, h3⟩ := hn
    exact ⟨n, h1, h2, fun k hk => by rw [upd_ne (by omega)]; exact h3 k hk⟩
  · rw [upd_ne (by omega)]; exact (hf f q).1
  · rw [upd_ne (by omega)]; exact (hf f q).2.1
  · rw [upd_ne (by omega)]; exact (hf f q).2.2
  · rw [upd_ne (by omega)]; exact (ht t q).1
  · rw [upd_ne (by omega)]; exact (ht t q).2.1
  · rw [upd_ne (by omega)]; exact (ht t q).2.2
  · rw [upd_ne (by omega)]; exact hb k q
theorem Inv.fri {b : Nat} {μ : MU} (h : Inv b μ)  {v : Int32} (hv : nn v 1023) : Inv b (upd μ (7) v) := by
  obtain ⟨hm, ⟨s1, s2, s3, s4, s5, s6⟩, hn, hf, ht, hb⟩ := h
  simp only [Inv]
  rw [upd_ne (show ¬ 0 = 7 by omega), upd_ne (show ¬ 9 = 7 by omega), upd_ne (show ¬ 2 = 7 by omega), upd_ne (show ¬ 3 = 7 by omega), upd_ne (show ¬ 4 = 7 by omega), upd_ne (show ¬ 5 = 7 by omega), upd_ne (show ¬ 6 = 7 by omega), upd_ne (show ¬ 8 = 7 by omega)]
  rw [upd_eq]
  refine ⟨hm, ⟨s1, s2, s3, s4, s5, hv⟩, ?_, fun f q => ⟨?_, ?_, ?_⟩, fun t q => ⟨?_, ?_, ?_⟩, fun k q => ?_⟩
  · obtain ⟨n, h1, h2, h3⟩ := hn
    exact ⟨n, h1, h2, fun k hk => by rw [upd_ne (by omega)]; exact h3 k hk⟩
  · rw [upd_ne (by omega)]; exact (hf f q).1
  · rw [upd_ne (by omega)]; exact (hf f q).2.1
  · rw [upd_ne (by omega)]; exact (hf f q).2.2
  · rw [upd_ne (by omega)]; exact (ht t q).1
  · rw [upd_ne (by omega)]; exact (ht t q).2.1
  · rw [upd_ne (by omega)]; exact (ht t q).2.2
  · rw [upd_ne (by omega)]; exact hb k q
theorem Inv.z {b : Nat} {μ : MU} (h : Inv b μ)  {v : Int32}  : Inv b (upd μ (1) v) := by
  obtain ⟨hm, ⟨s1, s2, s3, s4, s5, s6⟩, hn, hf, ht, hb⟩ := h
  simp only [Inv]
  rw [upd_ne (show ¬ 0 = 1 by omega), upd_ne (show ¬ 9 = 1 by omega), upd_ne (show ¬ 2 = 1 by omega), upd_ne (show ¬ 3 = 1 by omega), upd_ne (show ¬ 4 = 1 by omega), upd_ne (show ¬ 5 = 1 by omega), upd_ne (show ¬ 6 = 1 by omega), upd_ne (show ¬ 7 = 1 by omega), upd_ne (show ¬ 8 = 1 by omega)]
  refine ⟨hm, ⟨s1, s2, s3, s4, s5, s6⟩, ?_, fun f q => ⟨?_, ?_, ?_⟩, fun t q => ⟨?_, ?_, ?_⟩, fun k q => ?_⟩
  · obtain ⟨n, h1, h2, h3⟩ := hn
    exact ⟨n, h1, h2, fun k hk => by rw [upd_ne (by omega)]; exact h3 k hk⟩
  · rw [upd_ne (by omega)]; exact (hf f q).1
  · rw [upd_ne (by omega)]; exact (hf f q).2.1
  · rw [upd_ne (by omega)]; exact (hf f q).2.2
  · rw [upd_ne (by omega)]; exact (ht t q).1
  · rw [upd_ne (by omega)]; exact (ht t q).2.1
  · rw [upd_ne (by omega)]; exact (ht t q).2.2
  · rw [upd_ne (by omega)]; exact hb k q
theorem Inv.spo {b : Nat} {μ : MU} (h : Inv b μ) {x : Nat} (hx : x < 10) {v : Int32} (hv : ∀ n, μ 8 = nI n → v = -1 ∨ ∃ j, j < n ∧ v = nI j) : Inv b (upd μ (70 + x) v) := by
  obtain ⟨hm, ⟨s1, s2, s3, s4, s5, s6⟩, hn, hf, ht, hb⟩ := h
  simp only [Inv]
  rw [upd_ne (show ¬ 0 = 70 + x by omega), upd_ne (show ¬ 9 = 70 + x by omega), upd_ne (show ¬ 2 = 70 + x by omega), upd_ne (show ¬ 3 = 70 + x by omega), upd_ne (show ¬ 4 = 70 + x by omega), upd_ne (show ¬ 5 = 70 + x by omega), upd_ne (show ¬ 6 = 70 + x by omega), upd_ne (show ¬ 7 = 70 + x by omega), upd_ne (show ¬ 8 = 70 + x by omega)]
  refine ⟨hm, ⟨s1, s2, s3, s4, s5, s6⟩, ?_, fun f q => ⟨?_, ?_, ?_⟩, fun t q => ⟨?_, ?_, ?_⟩, fun k q => ?_⟩
  · obtain ⟨n, h1, h2, h3⟩ := hn
    refine ⟨n, h1, h2, fun k hk => ?_⟩
    by_cases e : k = x
    · subst e; rw [upd_eq]; exact hv n h2
    · rw [upd_ne (by omega)]; exact h3 k hk
  · rw [upd_ne (by omega)]; exact (hf f q).1
  · rw [upd_ne (by omega)]; exact (hf f q).2.1
  · rw [upd_ne (by omega)]; exact (hf f q).2.2
  · rw [upd_ne (by omega)]; exact (ht t q).1
  · rw [upd_ne (by omega)]; exact (ht t q).2.1
  · rw [upd_ne (by omega)]; exact (ht t q).2.2
  · rw [upd_ne (by omega)]; exact hb k q
theorem nb_val {m : Nat} : heS (nI (if m < 35 then m else 35) + nI 1) (nI 35) = nI (if m + 1 < 35 then m + 1 else 35) := by
  rw [nI_add, he_min (by decide) (by split <;> omega), imin_nI (by decide) (by split <;> omega)]
  congr 1
  split <;> split <;> omega
theorem Inv.meal {b : Nat} {μ : MU} (h : Inv b μ) {e : Int32} (he : nn e 20) : Inv (b + 1) (mealE μ e) := by
  have h2 := (h.hun (nn_hun h.2.1.2.1 he)).wei (v := weiS (μ 4) e) (nn_wei _ _)
  obtain ⟨⟨m, m1, m2, m3⟩, hs, hn, hf, ht, hb⟩ := h2
  have e9 : μ 9 = upd (upd μ 3 (hunS (μ 3) e)) 4 (weiS (μ 4) e) 9 := rfl
  have e0 : μ 0 = upd (upd μ 3 (hunS (μ 3) e)) 4 (weiS (μ 4) e) 0 := rfl
  unfold mealE
  rw [e9, e0]
  generalize upd (upd μ 3 (hunS (μ 3) e)) 4 (weiS (μ 4) e) = ν at *
  have lo : ∀ k, ¬ k = 0 → ¬ k = 9 → k < 80 → upd (upd (shf ν e) 9 (heS (ν 9 + nI 1) (nI 35))) 0 (ν 0 + nI 1) k = ν k := by
    intro k h1 h2 h3
    rw [upd_ne h1, upd_ne h2]
    simp only [shf]
    rw [if_neg (by omega), if_neg (by omega)]
  simp only [Inv]
  rw [lo 2 (by decide) (by decide) (by decide), lo 3 (by decide) (by decide) (by decide), lo 4 (by decide) (by decide) (by decide), lo 5 (by decide) (by decide) (by decide), lo 6 (by decide) (by decide) (by decide), lo 7 (by decide) (by decide) (by decide), lo 8 (by decide) (by decide) (by decide), upd_eq, upd_ne (show ¬ (9 : Nat) = 0 by decide), upd_eq]
  refine ⟨⟨m + 1, by omega, by rw [m2, nI_add], by rw [m3]; exact nb_val⟩, hs, ?_, fun f q => ⟨?_, ?_, ?_⟩, fun t q => ⟨?_, ?_, ?_⟩, fun k q => ?_⟩
  · obtain ⟨n, h1, h2, h3⟩ := hn
    exact ⟨n, h1, h2, fun k hk => by rw [lo _ (by omega) (by omega) (by omega)]; exact h3 k hk⟩
  · rw [lo _ (by omega) (by omega) (by omega)]; exact (hf f q).1
  · rw [lo _ (by omega) (by omega) (by omega)]; exact (hf f q).2.1
  · rw [lo _ (by omega) (by omega) (by omega)]; exact (hf f q).2.2
  · rw [lo _ (by omega) (by omega) (by omega)]; exact (ht t q).1
  · rw [lo _ (by omega) (by omega) (by omega)]; exact (ht t q).2.1
  · rw [lo _ (by omega) (by omega) (by omega)]; exact (ht t q).2.2
  · rw [upd_ne (by omega), upd_ne (by omega)]
    simp only [shf]
    by_cases hk : k = 0
    · rw [if_pos (by omega)]; exact he
    · rw [if_neg (by omega), if_pos (by omega), show 80 + k - 1 = 80 + (k - 1) by omega]
      exact hb (k - 1) (by omega)
theorem Inv.le {b b' : Nat} {μ : MU} (h : Inv b μ) (hb : b ≤ b') : Inv b' μ := by
  obtain ⟨⟨m, m1, m2⟩, h2⟩ := h
  exact ⟨⟨m, by omega, m2⟩, h2⟩
theorem Inv.fd {b : Nat} {μ : MU} (h : Inv b μ) {t : Nat} (ht : t < 10) : cl (μ (41 + 3 * t)) < 10 ∧ μ (41 + 3 * t) = nI (cl (μ (41 + 3 * t))) := by
  have h2 := nn_cl (h.2.2.2.2.1 t ht).2.1 (by decide)
  exact ⟨by have := h2.1; simp only [cl]; omega, h2.2⟩
theorem srv_z {μ : MU} {t f k : Nat} (hk : ¬ k = 1) : srvM μ t f k = μ k := by
  unfold srvM
  split
  · exact upd_ne hk
  · rfl
theorem Inv.srvM {b : Nat} {μ : MU} (h : Inv b μ) (t f : Nat) : Inv b (srvM μ t f) := by
  unfold Jvm.Pilot.CPeaSpoonsLaw_law_r1469_87ba7e.srvM
  split
  · exact h.z
  · exact h
theorem Inv.srvL {b : Nat} {μ : MU} (h : Inv b μ) (t : Nat) {f : Nat} (hf : f < 10) : Inv b (srvL μ t f) := (h.srvM t f).like hf (nn_lk _)
theorem Inv.pd {b : Nat} {μ : MU} (h : Inv b μ) (hp : ¬ μ 6 < nI 0) : cl (μ 6) < 10 ∧ μ 6 = nI (cl (μ 6)) := by
  rcases h.2.1.2.2.2.2.1 with q | q
  · exact absurd (by rw [q]; decide +kernel) hp
  · have h2 := nn_cl q (by decide)
    exact ⟨by have := h2.1; simp only [cl]; omega, h2.2⟩
theorem Inv.srvP {b : Nat} {μ : MU} (h : Inv b μ) (t : Nat) {f : Nat} (hf : f < 10) : Inv b (srvP μ t f) := by
  unfold Jvm.Pilot.CPeaSpoonsLaw_law_r1469_87ba7e.srvP
  split
  · next q => exact (h.srvL t hf).like (h.pd q.2).1 (nn_lk _)
  · exact h.srvL t hf
theorem Inv.srv {b : Nat} {μ : MU} (h : Inv b μ) {t : Nat} (ht : t < 10) : Inv b (srvF μ t).2 ∧ nn (srvF μ t).1 20 := by
  have hf := (h.fd ht).1
  exact ⟨(h.srvP t hf).tri hf (nn_tri (h.2.2.2.1 _ hf).2.2), nn_eat _ _ _ (h.2.2.2.2.1 t ht).2.2 (h.2.2.2.1 _ hf).1 h.2.1.2.1⟩
theorem Inv.served {b : Nat} {μ : MU} (h : Inv b μ) (hb : b < 2 ^ 30) : (μ 8 = nI 0 ∧ servN μ = none) ∨ ∃ m n, m ≤ b ∧ 0 < n ∧ n ≤ 10 ∧ μ 0 = nI m ∧ μ 8 = nI n ∧ servN μ = some (m % n) := by
  obtain ⟨⟨m, m1, m2, m3⟩, hs, ⟨n, n1, n2, n3⟩, -⟩ := h
  unfold servN
  by_cases q : n = 0
  · subst q
    rw [if_pos n2]
    exact Or.inl ⟨n2, rfl⟩
  · refine Or.inr ⟨m, n, m1, by omega, n1, m2, n2, ?_⟩
    rw [if_neg (by rw [n2]; exact nI_ne (by omega) (by decide) q), m2, n2]
    simp only [cl]
    rw [nI_clamp (by omega), nI_clamp (by omega)]
theorem Inv.mealT {b : Nat} {μ : MU} (h : Inv b μ) {o : Option Nat} (ho : ∀ t, o = some t → t < 10) : Inv (b + 1) (mealF μ o).2 ∧ nn (mealF μ o).1 20 := by
  cases o with
  | none => exact ⟨h.meal (nn_mk (by decide)), nn_mk (by decide)⟩
  | some t =>
    have h2 := h.srv (ho t rfl)
    exact ⟨h2.1.meal h2.2, h2.2⟩
theorem Inv.step {b : Nat} {μ : MU} (h : Inv b μ) (hb : b < 2 ^ 30) : Inv (b + 1) (stepF μ).2 ∧ nn (stepF μ).1 20 := by
  unfold stepF
  refine h.mealT (fun t q => ?_)
  rcases h.served hb with ⟨-, e⟩ | ⟨m, n, h1, h2, h3, -, -, e⟩
  · rw [e] at q; cases q
  · rw [e] at q
    cases q
    exact Nat.lt_of_lt_of_le (Nat.mod_lt _ h2) h3
theorem Inv.go {b : Nat} {μ : MU} (h : Inv b μ) : ∀ (n : Nat), b + n < 2 ^ 30 → Inv (b + n) (goF μ n).2
  | 0, _ => h
  | n + 1, hn => ((h.go n (by omega)).step (by omega)).1
/-! what a taste eats and moves now -/
def eatT (μ : MU) (t : Nat) (fb : Bool) : Int32 := eatS (μ (40 + 3 * t)) (μ (42 + 3 * t)) (μ (10 + 3 * cl (μ (41 + 3 * t)))) (μ 3) (frS (μ 7) (cl (μ (41 + 3 * t)))) fb
def movT (μ : MU) (t : Nat) (fb : Bool) : Int32 := movS (μ (40 + 3 * t)) (μ (11 + 3 * cl (μ (41 + 3 * t)))) (μ 2) (frS (μ 7) (cl (μ (41 + 3 * t)))) fb
theorem eatT_z {μ : MU} {t t' f : Nat} {fb : Bool} : eatT (srvM μ t' f) t fb = eatT μ t fb := by
  unfold eatT
  rw [srv_z (by omega), srv_z (by omega), srv_z (by omega), srv_z (by omega), srv_z (by omega), srv_z (by omega)]
theorem movT_z {μ : MU} {t t' f : Nat} {fb : Bool} : movT (srvM μ t' f) t fb = movT μ t fb := by
  unfold movT
  rw [srv_z (by omega), srv_z (by omega), srv_z (by omega), srv_z (by omega), srv_z (by omega)]
def bcF (x : Int32) : Int32 :=
  let s (a : Int32) (k : Nat) : Int32 := (a.toUInt32 >>> ((nI k).toUInt32 &&& Int32.toUInt32 31)).toInt32
  let a := x - (s x 1 &&& nI 1431655765)
  let b := (a &&& nI 858993459) + (s a 2 &&& nI 858993459)
  let c := (b + s b 4) &&& nI 252645135
  let d := c + s c 8
  let e := d + s d 16
  e &&& nI 63
def cnt10 (k : Nat) : Nat := (List.range 10).countP (fun f => k.testBit f)
theorem bc_val : ∀ k, k < 1024 → bcF (nI k) = nI (cnt10 k) := by decide +kernel
theorem fm_b : ∀ m, m < 35 → ∀ k, k < 35 → m < k + 1 → ¬ (0 : Int32) ≤ (nI m - nI 1 - nI k) ^^^ nI 35 ∧ (irm (nI m - nI 1 - nI k) (nI 35) = 0 → irm (nI m - nI 1 - nI k) (nI 35) = nI (rix m k)) ∧ (¬ irm (nI m - nI 1 - nI k) (nI 35) = 0 → irm (nI m - nI 1 - nI k) (nI 35) + nI 35 = nI (rix m k)) := by decide +kernel
theorem fm_a {m k : Nat} (hm : m < 2 ^ 30) (hk : k + 1 ≤ m) (hk2 : k < 35) : (0 : Int32) ≤ (nI m - nI 1 - nI k) ^^^ nI 35 ∧ irm (nI m - nI 1 - nI k) (nI 35) = nI (rix m k) := by
  rw [pk_sub (by omega), pk_sub (by omega)]
  constructor
  · have h : (nI (m - 1 - k) ^^^ nI 35) = nI ((m - 1 - k) ^^^ 35) := by
      apply Int32.toBitVec_inj.mp
      apply BitVec.eq_of_toNat_eq
      rw [Int32.toBitVec_xor, BitVec.toNat_xor, pk_tn (by omega), pk_tn (by decide), pk_tn (Nat.xor_lt_two_pow (n := 32) (by omega) (by decide))]
    rw [h]
    exact nI_pos' (Nat.xor_lt_two_pow (n := 31) (by omega) (by decide))
  · unfold irm
    rw [pk_rem (by omega) (by decide) (by decide)]
    congr 1
    unfold rix
    omega
end
section
theorem uX0 : ∀ w ∈ u_ws RX0 TX0 14, w ∈ TB := by decide +kernel
theorem uX1 : ∀ w ∈ u_ws RX1 TX1 4, w ∈ TB := by decide +kernel
theorem uX2 : ∀ w ∈ u_ws RX2 TX2 3, w ∈ TB := by decide +kernel
theorem uX3 : ∀ w ∈ u_ws RX3 TX3 8, w ∈ TB := by decide +kernel
theorem uX5 : ∀ w ∈ u_ws RX5 TX5 7, w ∈ TB := by decide +kernel
theorem uX6 : ∀ w ∈ u_ws RX6 TX6 15, w ∈ TB := by decide +kernel
theorem mlX5_within : MLw yX5_within cX5_within 3 (some .boolean) 3 := ⟨TB_mem (by decide +kernel) rfl, TB_mem (by decide +kernel) rfl, by decide +kernel, by decide +kernel, by decide +kernel⟩
theorem msX5_within : Cond.static yX5_within ∈ TB := TB_mem (by decide +kernel) rfl
theorem kX5_45 : Cond.methodLink RX5 45 yX5_within ∈ TB := TB_mem (by decide +kernel) rfl
theorem qX5_44 : Cond.constant RX5 44 ((-1000001)) ∈ TB := TB_mem (by decide +kernel) rfl
theorem fX5_40 : FL RX5 40 4 6 := ⟨RX5, TX5, 7, tyX5, rfl, by decide, TB_mem (by decide +kernel) rfl, uX5, tyX5_ok, nmX5⟩
theorem qJ6_265 : Cond.constant RJ6 265 (nI 1431655765) ∈ TB := TB_mem (by decide +kernel) rfl
theorem qJ6_266 : Cond.constant RJ6 266 (nI 858993459) ∈ TB := TB_mem (by decide +kernel) rfl
theorem qJ6_267 : Cond.constant RJ6 267 (nI 252645135) ∈ TB := TB_mem (by decide +kernel) rfl
theorem fX1_21 : FL RX1 21 1 3 := ⟨RX1, TX1, 4, tyX1, rfl, by decide, TB_mem (by decide +kernel) rfl, uX1, tyX1_ok, nmX1⟩
theorem fX0_43 : FL RX0 43 0 8 := ⟨RX0, TX0, 14, tyX0, rfl, by decide, TB_mem (by decide +kernel) rfl, uX0, tyX0_ok, nmX0⟩
theorem fX0_59 : FL RX0 59 0 12 := ⟨RX0, TX0, 14, tyX0, rfl, by decide, TB_mem (by decide +kernel) rfl, uX0, tyX0_ok, nmX0⟩
theorem qX0_97 : Cond.constant RX0 97 (nI 1103515245) ∈ TB := TB_mem (by decide +kernel) rfl
theorem wX0_12 : FW 0 12 .int := ⟨RX0, TX0, 14, rfl, rfl, by decide +kernel⟩
theorem fX0_9 : FL RX0 9 0 0 := ⟨RX0, TX0, 14, tyX0, rfl, by decide, TB_mem (by decide +kernel) rfl, uX0, tyX0_ok, nmX0⟩
theorem kX0_88 : Cond.methodLink RX0 88 Lib.Math.min.name ∈ TB := TB_mem (by decide +kernel) rfl
theorem msMathmin : Cond.static Lib.Math.min.name ∈ TB ∧ Cond.initialized "java/lang/Math" ∈ TB ∧ Cond.code Lib.Math.min.name Lib.Math.min.code 2 (some .int) ∈ TB := ⟨TB_mem (by decide +kernel) rfl, TB_mem (by decide +kernel) rfl, TB_mem (by decide +kernel) rfl⟩
theorem kX0_98 : Cond.methodLink RX0 98 Lib.Math.max.name ∈ TB := TB_mem (by decide +kernel) rfl
theorem msMathmax : Cond.static Lib.Math.max.name ∈ TB ∧ Cond.initialized "java/lang/Math" ∈ TB ∧ Cond.code Lib.Math.max.name Lib.Math.max.code 2 (some .int) ∈ TB := ⟨TB_mem (by decide +kernel) rfl, TB_mem (by decide +kernel) rfl, TB_mem (by decide +kernel) rfl⟩
theorem fX0_49 : FL RX0 49 0 9 := ⟨RX0, TX0, 14, tyX0, rfl, by decide, TB_mem (by decide +kernel) rfl, uX0, tyX0_ok, nmX0⟩
theorem fX0_79 : FL RX0 79 1 2 := ⟨RX1, TX1, 4, tyX1, rfl, by decide, TB_mem (by decide +kernel) rfl, uX1, tyX1_ok, nmX1⟩
theorem fX0_82 : FL RX0 82 1 1 := ⟨RX1, TX1, 4, tyX1, rfl, by decide, TB_mem (by decide +kernel) rfl, uX1, tyX1_ok, nmX1⟩
theorem fX0_31 : FL RX0 31 0 4 := ⟨RX0, TX0, 14, tyX0, rfl, by decide, TB_mem (by decide +kernel) rfl, uX0, tyX0_ok, nmX0⟩
theorem fX0_85 : FL RX0 85 1 0 := ⟨RX1, TX1, 4, tyX1, rfl, by decide, TB_mem (by decide +kernel) rfl, uX1, tyX1_ok, nmX1⟩
theorem mlX0_friendHas : MLw yX0_friendHas cX0_friendHas 2 (some .boolean) 1 := ⟨TB_mem (by decide +kernel) rfl, TB_mem (by decide +kernel) rfl, by decide +kernel, by decide +kernel, by decide +kernel⟩
theorem mvX0_friendHas : MLv yX0_friendHas := ⟨TB_mem (by decide +kernel) rfl, TB_mem (by decide +kernel) rfl⟩
theorem kX0_94 : Cond.methodLink RX0 94 yX0_friendHas ∈ TB := TB_mem (by decide +kernel) rfl
theorem fX0_15 : FL RX0 15 0 1 := ⟨RX0, TX0, 14, tyX0, rfl, by decide, TB_mem (by decide +kernel) rfl, uX0, tyX0_ok, nmX0⟩
theorem fX0_27 : FL RX0 27 0 3 := ⟨RX0, TX0, 14, tyX0, rfl, by decide, TB_mem (by decide +kernel) rfl, uX0, tyX0_ok, nmX0⟩
end
section
set_option maxRecDepth 100000 in
set_option maxHeartbeats 4000000 in
theorem c_X5_within (l : Launch) (Γ : Gam) (G : GG) (v a b : Int32) : Sp l yX5_within cX5_within 3 (some .boolean) 0 0 [.int v, .int a, .int b] Γ G (eB G (decide (a ≤ v ∧ v ≤ b))) := by
  refine Sp_of (own := RX5) rfl (by decide +kernel) rfl (Nat.le_of_ble_eq_true rfl) (fun X hX hR => ?_)
  show WP X Γ 0 [some (.int v), some (.int a), some (.int b)] [] G
  refine r_iload0 hX dX5_within_0 (q := 1) rfl ?_
  refine r_iload1 hX dX5_within_1 (q := 2) rfl ?_
  first | refine r_icmpN_lt hX dX5_within_2 (q := 5) rfl (tgt := 14) (by decide) (by first | decide | omega) (by first | decide | omega) (fun h2 => ?_) (fun h2 => ?_) | refine r_icmp_lt hX dX5_within_2 (q := 5) rfl (tgt := 14) (by decide) (fun h2 => ?_) (fun h2 => ?_)
  ·
    refine r_iconst hX dX5_within_14 (q := 15) rfl (v := nI 0) (by decide +kernel) ?_
    refine r_zret0 hX hR dX5_within_15 ?_
    -- leaf 0 at 15
    refine ⟨congrArg (fun z => some (Value.int (bi z))) ?_, ?_⟩
    ·
      clear hX hR
      first
        | (refine (decide_eq_true ?_).symm; simp only [Int32.le_iff_toInt_le, Int32.lt_iff_toInt_lt] at *; omega)
        | (refine (decide_eq_false ?_).symm; simp only [Int32.le_iff_toInt_le, Int32.lt_iff_toInt_lt] at *; omega)
    · rfl
  ·
    refine r_iload0 hX dX5_within_5 (q := 6) rfl ?_
    refine r_iload2 hX dX5_within_6 (q := 7) rfl ?_
    first | refine r_icmpN_gt hX dX5_within_7 (q := 10) rfl (tgt := 14) (by decide) (by first | decide | omega) (by first | decide | omega) (fun h7 => ?_) (fun h7 => ?_) | refine r_icmp_gt hX dX5_within_7 (q := 10) rfl (tgt := 14) (by decide) (fun h7 => ?_) (fun h7 => ?_)
    ·
      refine r_iconst hX dX5_within_14 (q := 15) rfl (v := nI 0) (by decide +kernel) ?_
      refine r_zret0 hX hR dX5_within_15 ?_
      -- leaf 1 at 15
      refine ⟨congrArg (fun z => some (Value.int (bi z))) ?_, ?_⟩
      ·
        clear hX hR
        first
          | (refine (decide_eq_true ?_).symm; simp only [Int32.le_iff_toInt_le, Int32.lt_iff_toInt_lt] at *; omega)
          | (refine (decide_eq_false ?_).symm; simp only [Int32.le_iff_toInt_le, Int32.lt_iff_toInt_lt] at *; omega)
      · rfl
    ·
      refine r_iconst hX dX5_within_10 (q := 11) rfl (v := nI 1) (by decide +kernel) ?_
      refine r_goto hX dX5_within_11 (tgt := 15) (by decide) ?_
      refine r_zret1 hX hR dX5_within_15 ?_
      -- leaf 2 at 15
      refine ⟨congrArg (fun z => some (Value.int (bi z))) ?_, ?_⟩
      ·
        clear hX hR
        first
          | (refine (decide_eq_true ?_).symm; simp only [Int32.le_iff_toInt_le, Int32.lt_iff_toInt_lt] at *; omega)
          | (refine (decide_eq_false ?_).symm; simp only [Int32.le_iff_toInt_le, Int32.lt_iff_toInt_lt] at *; omega)
      · rfl

set_option maxRecDepth 100000 in
set_option maxHeartbeats 4000000 in
theorem c_X5_isFood (l : Launch) (Γ : Gam) (G : GG) (v : Int32) : Sp l yX5_isFood cX5_isFood 1 (some .boolean) 1 22 [.int v] Γ G (eB G (decide (nI 0 ≤ v ∧ v ≤ nI 9))) := by
  refine Sp_of (own := RX5) rfl (by decide +kernel) rfl (Nat.le_of_ble_eq_true rfl) (fun X hX hR => ?_)
  show WP X Γ 0 [some (.int v)] [] G
  refine r_iload0 hX dX5_isFood_0 (q := 1) rfl ?_
  refine r_iconst hX dX5_isFood_1 (q := 2) rfl (v := nI 0) (by decide +kernel) ?_
  refine r_bipush hX dX5_isFood_2 (q := 4) rfl (v := nI 9) (by decide +kernel) ?_
  refine r_callS hX dX5_isFood_4 (q := 7) rfl (c_X5_within _ Γ _ _ _ _) kX5_45 mlX5_within msX5_within rfl rfl ⟨by decide, by decide⟩ (Nat.le_of_ble_eq_true rfl) (keB ?_)
  refine r_zret hX hR dX5_isFood_7 ?_
  -- leaf 0 at 7
  refine ⟨congrArg (fun z => some (Value.int (bi z))) ?_, ?_⟩
  ·
    rfl
  · rfl

set_option maxRecDepth 100000 in
set_option maxHeartbeats 4000000 in
theorem c_X5_isKind (l : Launch) (Γ : Gam) (G : GG) (v : Int32) : Sp l yX5_isKind cX5_isKind 1 (some .boolean) 1 22 [.int v] Γ G (eB G (decide (nI 0 ≤ v ∧ v ≤ nI 6))) := by
  refine Sp_of (own := RX5) rfl (by decide +kernel) rfl (Nat.le_of_ble_eq_true rfl) (fun X hX hR => ?_)
  show WP X Γ 0 [some (.int v)] [] G
  refine r_iload0 hX dX5_isKind_0 (q := 1) rfl ?_
  refine r_iconst hX dX5_isKind_1 (q := 2) rfl (v := nI 0) (by decide +kernel) ?_
  refine r_bipush hX dX5_isKind_2 (q := 4) rfl (v := nI 6) (by decide +kernel) ?_
  refine r_callS hX dX5_isKind_4 (q := 7) rfl (c_X5_within _ Γ _ _ _ _) kX5_45 mlX5_within msX5_within rfl rfl ⟨by decide, by decide⟩ (Nat.le_of_ble_eq_true rfl) (keB ?_)
  refine r_zret hX hR dX5_isKind_7 ?_
  -- leaf 0 at 7
  refine ⟨congrArg (fun z => some (Value.int (bi z))) ?_, ?_⟩
  ·
    rfl
  · rfl

set_option maxRecDepth 100000 in
set_option maxHeartbeats 4000000 in
theorem c_X5_isPut (l : Launch) (Γ : Gam) (G : GG) (v : Int32) : Sp l yX5_isPut cX5_isPut 1 (some .boolean) 1 22 [.int v] Γ G (eB G (decide (nI 1 ≤ v ∧ v ≤ nI 20))) := by
  refine Sp_of (own := RX5) rfl (by decide +kernel) rfl (Nat.le_of_ble_eq_true rfl) (fun X hX hR => ?_)
  show WP X Γ 0 [some (.int v)] [] G
  refine r_iload0 hX dX5_isPut_0 (q := 1) rfl ?_
  refine r_iconst hX dX5_isPut_1 (q := 2) rfl (v := nI 1) (by decide +kernel) ?_
  refine r_bipush hX dX5_isPut_2 (q := 4) rfl (v := nI 20) (by decide +kernel) ?_
  refine r_callS hX dX5_isPut_4 (q := 7) rfl (c_X5_within _ Γ _ _ _ _) kX5_45 mlX5_within msX5_within rfl rfl ⟨by decide, by decide⟩ (Nat.le_of_ble_eq_true rfl) (keB ?_)
  refine r_zret hX hR dX5_isPut_7 ?_
  -- leaf 0 at 7
  refine ⟨congrArg (fun z => some (Value.int (bi z))) ?_, ?_⟩
  ·
    rfl
  · rfl

set_option maxRecDepth 100000 in
set_option maxHeartbeats 4000000 in
theorem c_X5_isSheet (l : Launch) (Γ : Gam) (G : GG) (v : Int32) : Sp l yX5_isSheet cX5_isSheet 1 (some .boolean) 1 22 [.int v] Γ G (eB G (decide (nI 0 ≤ v ∧ v ≤ nI 3))) := by
  refine Sp_of (own := RX5) rfl (by decide +kernel) rfl (Nat.le_of_ble_eq_true rfl) (fun X hX hR => ?_)
  show WP X Γ 0 [some (.int v)] [] G
  refine r_iload0 hX dX5_isSheet_0 (q := 1) rfl ?_
  refine r_iconst hX dX5_isSheet_1 (q := 2) rfl (v := nI 0) (by decide +kernel) ?_
  refine r_iconst hX dX5_isSheet_2 (q := 3) rfl (v := nI 3) (by decide +kernel) ?_
  refine r_callS hX dX5_isSheet_3 (q := 6) rfl (c_X5_within _ Γ _ _ _ _) kX5_45 mlX5_within msX5_within rfl rfl ⟨by decide, by decide⟩ (Nat.le_of_ble_eq_true rfl) (keB ?_)
  refine r_zret hX hR dX5_isSheet_6 ?_
  -- leaf 0 at 6
  refine ⟨congrArg (fun z => some (Value.int (bi z))) ?_, ?_⟩
  ·
    rfl
  · rfl

set_option maxRecDepth 100000 in
set_option maxHeartbeats 4000000 in
theorem c_X5_partLow (l : Launch) (Γ : Gam) (G : GG) (v : Int32) : Sp l yX5_partLow cX5_partLow 1 (some .int) 0 0 [.int v] Γ G (eI G (pLow v)) := by
  refine Sp_of (own := RX5) rfl (by decide +kernel) rfl (Nat.le_of_ble_eq_true rfl) (fun X hX hR => ?_)
  show WP X Γ 0 [some (.int v)] [] G
  refine r_iload0 hX dX5_partLow_0 (q := 1) rfl ?_
  refine r_iconst hX dX5_partLow_1 (q := 2) rfl (v := nI 3) (by decide +kernel) ?_
  first | refine r_icmpN_ne hX dX5_partLow_2 (q := 5) rfl (tgt := 9) (by decide) (by first | decide | omega) (by first | decide | omega) (fun h2 => ?_) (fun h2 => ?_) | refine r_icmp_ne hX dX5_partLow_2 (q := 5) rfl (tgt := 9) (by decide) (fun h2 => ?_) (fun h2 => ?_)
  ·
    refine r_iconst hX dX5_partLow_9 (q := 10) rfl (v := nI 0) (by decide +kernel) ?_
    refine r_iret hX hR dX5_partLow_10 ?_
    -- leaf 0 at 10
    refine ⟨congrArg (fun z => some (Value.int z)) ?_, ?_⟩
    ·
      clear hX hR
      first | rfl | (subst_vars; decide +kernel) | (simp only [pLow, *, if_true, if_false]; done) | (simp [pLow, *]; done)
    · rfl
  ·
    refine r_iconst hX dX5_partLow_5 (q := 6) rfl (v := nI 1) (by decide +kernel) ?_
    refine r_goto hX dX5_partLow_6 (tgt := 10) (by decide) ?_
    refine r_iret hX hR dX5_partLow_10 ?_
    -- leaf 1 at 10
    refine ⟨congrArg (fun z => some (Value.int z)) ?_, ?_⟩
    ·
      clear hX hR
      first | rfl | (subst_vars; decide +kernel) | (simp only [pLow, *, if_true, if_false]; done) | (simp [pLow, *]; done)
    · rfl

set_option maxRecDepth 100000 in
set_option maxHeartbeats 4000000 in
theorem c_X5_partTop (l : Launch) (Γ : Gam) (G : GG) (v : Int32) : Sp l yX5_partTop cX5_partTop 1 (some .int) 0 0 [.int v] Γ G (eI G (pTop v)) := by
  refine Sp_of (own := RX5) rfl (by decide +kernel) rfl (Nat.le_of_ble_eq_true rfl) (fun X hX hR => ?_)
  show WP X Γ 0 [some (.int v)] [] G
  refine r_iload0 hX dX5_partTop_0 (q := 1) rfl ?_
  refine r_tabCase hX dX5_partTop_1 0 ⟨by decide, by decide, by decide, rfl, (by decide : (1 : Int) + 31 = (32 : Nat))⟩ (fun h1_0 => ?_) (fun h1_0 => ?_)
  ·
    refine r_bipush hX dX5_partTop_32 (q := 34) rfl (v := nI 9) (by decide +kernel) ?_
    refine r_iret hX hR dX5_partTop_34 ?_
    -- leaf 0 at 34
    refine ⟨congrArg (fun z => some (Value.int z)) ?_, ?_⟩
    ·
      clear hX hR
      first | rfl | (subst_vars; decide +kernel) | (simp only [pTop, *, if_true, if_false]; done) | (simp [pTop, *]; done)
    · rfl
  refine r_tabCase hX dX5_partTop_1 1 ⟨by decide, by decide, by decide, rfl, (by decide : (1 : Int) + 34 = (35 : Nat))⟩ (fun h1_1 => ?_) (fun h1_1 => ?_)
  ·
    refine r_bipush hX dX5_partTop_35 (q := 37) rfl (v := nI 99) (by decide +kernel) ?_
    refine r_iret hX hR dX5_partTop_37 ?_
    -- leaf 1 at 37
    refine ⟨congrArg (fun z => some (Value.int z)) ?_, ?_⟩
    ·
      clear hX hR
      first | rfl | (subst_vars; decide +kernel) | (simp only [pTop, *, if_true, if_false]; done) | (simp [pTop, *]; done)
    · rfl
  refine r_tabCase hX dX5_partTop_1 2 ⟨by decide, by decide, by decide, rfl, (by decide : (1 : Int) + 37 = (38 : Nat))⟩ (fun h1_2 => ?_) (fun h1_2 => ?_)
  ·
    refine r_sipush hX dX5_partTop_38 (q := 41) rfl (v := nI 9999) (by decide +kernel) ?_
    refine r_iret hX hR dX5_partTop_41 ?_
    -- leaf 2 at 41
    refine ⟨congrArg (fun z => some (Value.int z)) ?_, ?_⟩
    ·
      clear hX hR
      first | rfl | (subst_vars; decide +kernel) | (simp only [pTop, *, if_true, if_false]; done) | (simp [pTop, *]; done)
    · rfl
  refine r_tabCase hX dX5_partTop_1 3 ⟨by decide, by decide, by decide, rfl, (by decide : (1 : Int) + 41 = (42 : Nat))⟩ (fun h1_3 => ?_) (fun h1_3 => ?_)
  ·
    refine r_bipush hX dX5_partTop_42 (q := 44) rfl (v := nI 99) (by decide +kernel) ?_
    refine r_iret hX hR dX5_partTop_44 ?_
    -- leaf 3 at 44
    refine ⟨congrArg (fun z => some (Value.int z)) ?_, ?_⟩
    ·
      clear hX hR
      first | rfl | (subst_vars; decide +kernel) | (simp only [pTop, *, if_true, if_false]; done) | (simp [pTop, *]; done)
    · rfl
  refine r_tabOut hX dX5_partTop_1 (by have z0 := nI_neT h1_0 (by decide); have z1 := nI_neT h1_1 (by decide); have z2 := nI_neT h1_2 (by decide); have z3 := nI_neT h1_3 (by decide); omega) (tgt := 45) (by decide) ?_
  refine r_iconst hX dX5_partTop_45 (q := 46) rfl (v := (-1)) (by decide +kernel) ?_
  refine r_iret hX hR dX5_partTop_46 ?_
  -- leaf 4 at 46
  refine ⟨congrArg (fun z => some (Value.int z)) ?_, ?_⟩
  ·
    clear hX hR
    first | rfl | (subst_vars; decide +kernel) | (simp only [pTop, *, if_true, if_false]; done) | (simp [pTop, *]; done)
  · rfl

set_option maxRecDepth 100000 in
set_option maxHeartbeats 4000000 in
theorem c_X5_traitLow (l : Launch) (Γ : Gam) (G : GG) (v : Int32) : Sp l yX5_traitLow cX5_traitLow 1 (some .int) 0 0 [.int v] Γ G (eI G (tLow v)) := by
  refine Sp_of (own := RX5) rfl (by decide +kernel) rfl (Nat.le_of_ble_eq_true rfl) (fun X hX hR => ?_)
  show WP X Γ 0 [some (.int v)] [] G
  refine r_iload0 hX dX5_traitLow_0 (q := 1) rfl ?_
  refine r_iconst hX dX5_traitLow_1 (q := 2) rfl (v := nI 2) (by decide +kernel) ?_
  first | refine r_icmpN_ne hX dX5_traitLow_2 (q := 5) rfl (tgt := 9) (by decide) (by first | decide | omega) (by first | decide | omega) (fun h2 => ?_) (fun h2 => ?_) | refine r_icmp_ne hX dX5_traitLow_2 (q := 5) rfl (tgt := 9) (by decide) (fun h2 => ?_) (fun h2 => ?_)
  ·
    refine r_iconst hX dX5_traitLow_9 (q := 10) rfl (v := nI 0) (by decide +kernel) ?_
    refine r_iret hX hR dX5_traitLow_10 ?_
    -- leaf 0 at 10
    refine ⟨congrArg (fun z => some (Value.int z)) ?_, ?_⟩
    ·
      clear hX hR
      first | rfl | (subst_vars; decide +kernel) | (simp only [tLow, *, if_true, if_false]; done) | (simp [tLow, *]; done)
    · rfl
  ·
    refine r_iconst hX dX5_traitLow_5 (q := 6) rfl (v := nI 1) (by decide +kernel) ?_
    refine r_goto hX dX5_traitLow_6 (tgt := 10) (by decide) ?_
    refine r_iret hX hR dX5_traitLow_10 ?_
    -- leaf 1 at 10
    refine ⟨congrArg (fun z => some (Value.int z)) ?_, ?_⟩
    ·
      clear hX hR
      first | rfl | (subst_vars; decide +kernel) | (simp only [tLow, *, if_true, if_false]; done) | (simp [tLow, *]; done)
    · rfl

set_option maxRecDepth 100000 in
set_option maxHeartbeats 4000000 in
theorem c_X5_traitTop (l : Launch) (Γ : Gam) (G : GG) (v : Int32) : Sp l yX5_traitTop cX5_traitTop 1 (some .int) 0 0 [.int v] Γ G (eI G (tTop v)) := by
  refine Sp_of (own := RX5) rfl (by decide +kernel) rfl (Nat.le_of_ble_eq_true rfl) (fun X hX hR => ?_)
  show WP X Γ 0 [some (.int v)] [] G
  refine r_iload0 hX dX5_traitTop_0 (q := 1) rfl ?_
  refine r_tabCase hX dX5_traitTop_1 0 ⟨by decide, by decide, by decide, rfl, (by decide : (1 : Int) + 27 = (28 : Nat))⟩ (fun h1_0 => ?_) (fun h1_0 => ?_)
  ·
    refine r_bipush hX dX5_traitTop_28 (q := 30) rfl (v := nI 6) (by decide +kernel) ?_
    refine r_iret hX hR dX5_traitTop_30 ?_
    -- leaf 0 at 30
    refine ⟨congrArg (fun z => some (Value.int z)) ?_, ?_⟩
    ·
      clear hX hR
      first | rfl | (subst_vars; decide +kernel) | (simp only [tTop, *, if_true, if_false]; done) | (simp [tTop, *]; done)
    · rfl
  refine r_tabCase hX dX5_traitTop_1 1 ⟨by decide, by decide, by decide, rfl, (by decide : (1 : Int) + 30 = (31 : Nat))⟩ (fun h1_1 => ?_) (fun h1_1 => ?_)
  ·
    refine r_bipush hX dX5_traitTop_31 (q := 33) rfl (v := nI 9) (by decide +kernel) ?_
    refine r_iret hX hR dX5_traitTop_33 ?_
    -- leaf 1 at 33
    refine ⟨congrArg (fun z => some (Value.int z)) ?_, ?_⟩
    ·
      clear hX hR
      first | rfl | (subst_vars; decide +kernel) | (simp only [tTop, *, if_true, if_false]; done) | (simp [tTop, *]; done)
    · rfl
  refine r_tabCase hX dX5_traitTop_1 2 ⟨by decide, by decide, by decide, rfl, (by decide : (1 : Int) + 33 = (34 : Nat))⟩ (fun h1_2 => ?_) (fun h1_2 => ?_)
  ·
    refine r_bipush hX dX5_traitTop_34 (q := 36) rfl (v := nI 20) (by decide +kernel) ?_
    refine r_iret hX hR dX5_traitTop_36 ?_
    -- leaf 2 at 36
    refine ⟨congrArg (fun z => some (Value.int z)) ?_, ?_⟩
    ·
      clear hX hR
      first | rfl | (subst_vars; decide +kernel) | (simp only [tTop, *, if_true, if_false]; done) | (simp [tTop, *]; done)
    · rfl
  refine r_tabOut hX dX5_traitTop_1 (by have z0 := nI_neT h1_0 (by decide); have z1 := nI_neT h1_1 (by decide); have z2 := nI_neT h1_2 (by decide); omega) (tgt := 37) (by decide) ?_
  refine r_iconst hX dX5_traitTop_37 (q := 38) rfl (v := (-1)) (by decide +kernel) ?_
  refine r_iret hX hR dX5_traitTop_38 ?_
  -- leaf 3 at 38
  refine ⟨congrArg (fun z => some (Value.int z)) ?_, ?_⟩
  ·
    clear hX hR
    first | rfl | (subst_vars; decide +kernel) | (simp only [tTop, *, if_true, if_false]; done) | (simp [tTop, *]; done)
  · rfl

set_option maxRecDepth 100000 in
set_option maxHeartbeats 4000000 in
theorem c_X5_finding (l : Launch) (Γ : Gam) (G : GG) (x : Int32) (k : Nat) (hk : k < 7) (hx : (-1000001) - x = nI k) : Sp l yX5_finding cX5_finding 3 (some .int) 1 22 [.ref (gad Γ 30), .int x] Γ G (eI (up G 46 k (G 46 k + nI 1)) x) := by
  refine Sp_of (own := RX5) rfl (by decide +kernel) rfl (Nat.le_of_ble_eq_true rfl) (fun X hX hR => ?_)
  show WP X Γ 0 [some (.ref (gad Γ 30)), some (.int x), none] [] G
  refine r_ldc hX dX5_finding_0 (q := 2) rfl qX5_44 ?_
  refine r_iload1 hX dX5_finding_2 (q := 3) rfl ?_
  refine r_isub hX dX5_finding_3 (q := 4) rfl ?_
  refine r_istore2 hX dX5_finding_4 (q := 5) rfl rfl ?_
  refine r_iload2 hX dX5_finding_5 (q := 6) rfl ?_
  refine r_iconst hX dX5_finding_6 (q := 7) rfl (v := nI 0) (by decide +kernel) ?_
  refine r_bipush hX dX5_finding_7 (q := 9) rfl (v := nI 6) (by decide +kernel) ?_
  refine r_callS hX dX5_finding_9 (q := 12) rfl (c_X5_within _ Γ _ _ _ _) kX5_45 mlX5_within msX5_within rfl rfl ⟨by decide, by decide⟩ (Nat.le_of_ble_eq_true rfl) (keB ?_)
  first | refine r_ifd_eq hX dX5_finding_12 (q := 15) rfl (tgt := 25) (by decide) (fun h12 => ?_) (fun h12 => ?_) | refine r_ifb_eq hX dX5_finding_12 (q := 15) rfl (tgt := 25) (by decide) (fun h12 => ?_) (fun h12 => ?_)
  ·
    exact absurd (by rw [hx]; exact ⟨nI_le (by omega) (by omega), nI_le (by omega) (by omega)⟩) h12 --end
  ·
    refine r_aload0 hX dX5_finding_15 (q := 16) rfl ?_
    refine r_getR hX dX5_finding_16 (q := 19) rfl fX5_40 rfl ⟨by decide, by decide, rfl⟩ ?_
    refine r_iload2 hX dX5_finding_19 (q := 20) rfl ?_
    refine r_dup2 hX dX5_finding_20 (q := 21) rfl rfl rfl ?_
    refine r_ialdN hX dX5_finding_21 (q := 22) rfl rfl (by repeat' (first | assumption | with_reducible exact rfl | refine e_add ?_ ?_ | refine e_mul ?_ ?_)) (by first | assumption | omega) (by decide) ?_
    refine r_iconst hX dX5_finding_22 (q := 23) rfl (v := nI 1) (by decide +kernel) ?_
    refine r_iadd hX dX5_finding_23 (q := 24) rfl ?_
    refine r_iastN hX dX5_finding_24 (q := 25) rfl rfl (by repeat' (first | assumption | with_reducible exact rfl | refine e_add ?_ ?_ | refine e_mul ?_ ?_)) (by first | assumption | omega) (by decide) ?_
    refine r_iload1 hX dX5_finding_25 (q := 26) rfl ?_
    refine r_iret hX hR dX5_finding_26 ?_
    -- leaf 0 at 26
    refine ⟨congrArg (fun z => some (Value.int z)) ?_, ?_⟩
    ·
      rfl
    · rfl
end
section
set_option maxRecDepth 100000 in
set_option maxHeartbeats 4000000 in
theorem c_J9_floorMod_7cf53 (l : Launch) (Γ : Gam) (G : GG) (x : Int32) (m k : Nat) (hx : x = nI m - nI 1 - nI k) (hk : k < 35) (hm : m < 2 ^ 30) : Sp l yJ9_floorMod_7cf53 cJ9_floorMod_7cf53 3 (some .int) 0 0 [.int x, .int (nI 35)] Γ G (eI G (nI (rix m k))) := by
  refine Sp_of (own := RJ9) rfl (by decide +kernel) rfl (Nat.le_of_ble_eq_true rfl) (fun X hX hR => ?_)
  show WP X Γ 0 [some (.int x), some (.int (nI 35)), none] [] G
  subst hx
  refine r_iload0 hX dJ9_floorMod_7cf53_0 (q := 1) rfl ?_
  refine r_iload1 hX dJ9_floorMod_7cf53_1 (q := 2) rfl ?_
  refine r_irem hX dJ9_floorMod_7cf53_2 (q := 3) rfl (by first | decide +kernel | assumption) ?_
  refine r_istore2 hX dJ9_floorMod_7cf53_3 (q := 4) rfl rfl ?_
  refine r_iload0 hX dJ9_floorMod_7cf53_4 (q := 5) rfl ?_
  refine r_iload1 hX dJ9_floorMod_7cf53_5 (q := 6) rfl ?_
  refine r_ixor hX dJ9_floorMod_7cf53_6 (q := 7) rfl ?_
  refine r_if_ge hX dJ9_floorMod_7cf53_7 (q := 10) rfl (tgt := 18) (by decide) (fun h7 => ?_) (fun h7 => ?_)
  ·
    refine r_iload2 hX dJ9_floorMod_7cf53_18 (q := 19) rfl ?_
    refine r_iret hX hR dJ9_floorMod_7cf53_19 ?_
    -- leaf 0 at 19
    refine ⟨congrArg (fun z => some (Value.int z)) ?_, ?_⟩
    ·
      rcases Nat.lt_or_ge m (k + 1) with q | q
      · exact absurd h7 (fm_b m (by omega) k hk q).1
      · exact (fm_a hm q hk).2
    · rfl
  ·
    refine r_iload2 hX dJ9_floorMod_7cf53_10 (q := 11) rfl ?_
    refine r_if_eq hX dJ9_floorMod_7cf53_11 (q := 14) rfl (tgt := 18) (by decide) (fun h11 => ?_) (fun h11 => ?_)
    ·
      refine r_iload2 hX dJ9_floorMod_7cf53_18 (q := 19) rfl ?_
      refine r_iret hX hR dJ9_floorMod_7cf53_19 ?_
      -- leaf 1 at 19
      refine ⟨congrArg (fun z => some (Value.int z)) ?_, ?_⟩
      ·
        rcases Nat.lt_or_ge m (k + 1) with q | q
        · exact (fm_b m (by omega) k hk q).2.1 h11
        · exact absurd (fm_a hm q hk).1 h7
      · rfl
    ·
      refine r_iload2 hX dJ9_floorMod_7cf53_14 (q := 15) rfl ?_
      refine r_iload1 hX dJ9_floorMod_7cf53_15 (q := 16) rfl ?_
      refine r_iadd hX dJ9_floorMod_7cf53_16 (q := 17) rfl ?_
      refine r_iret hX hR dJ9_floorMod_7cf53_17 ?_
      -- leaf 2 at 17
      refine ⟨congrArg (fun z => some (Value.int z)) ?_, ?_⟩
      ·
        rcases Nat.lt_or_ge m (k + 1) with q | q
        · exact (fm_b m (by omega) k hk q).2.2 h11
        · exact absurd (fm_a hm q hk).1 h7
      · rfl

set_option maxRecDepth 100000 in
set_option maxHeartbeats 4000000 in
theorem c_J6_bitCount_0f7a4 (l : Launch) (Γ : Gam) (G : GG) (x : Int32) : Sp l yJ6_bitCount_0f7a4 cJ6_bitCount_0f7a4 1 (some .int) 0 0 [.int x] Γ G (eI G (bcF x)) := by
  refine Sp_of (own := RJ6) rfl (by decide +kernel) rfl (Nat.le_of_ble_eq_true rfl) (fun X hX hR => ?_)
  show WP X Γ 0 [some (.int x)] [] G
  refine r_iload0 hX dJ6_bitCount_0f7a4_0 (q := 1) rfl ?_
  refine r_iload0 hX dJ6_bitCount_0f7a4_1 (q := 2) rfl ?_
  refine r_iconst hX dJ6_bitCount_0f7a4_2 (q := 3) rfl (v := nI 1) (by decide +kernel) ?_
  refine r_iushr hX dJ6_bitCount_0f7a4_3 (q := 4) rfl ?_
  refine r_ldc_w hX dJ6_bitCount_0f7a4_4 (q := 7) rfl qJ6_265 ?_
  refine r_iand hX dJ6_bitCount_0f7a4_7 (q := 8) rfl ?_
  refine r_isub hX dJ6_bitCount_0f7a4_8 (q := 9) rfl ?_
  refine r_istore0 hX dJ6_bitCount_0f7a4_9 (q := 10) rfl rfl ?_
  refine r_iload0 hX dJ6_bitCount_0f7a4_10 (q := 11) rfl ?_
  refine r_ldc_w hX dJ6_bitCount_0f7a4_11 (q := 14) rfl qJ6_266 ?_
  refine r_iand hX dJ6_bitCount_0f7a4_14 (q := 15) rfl ?_
  refine r_iload0 hX dJ6_bitCount_0f7a4_15 (q := 16) rfl ?_
  refine r_iconst hX dJ6_bitCount_0f7a4_16 (q := 17) rfl (v := nI 2) (by decide +kernel) ?_
  refine r_iushr hX dJ6_bitCount_0f7a4_17 (q := 18) rfl ?_
  refine r_ldc_w hX dJ6_bitCount_0f7a4_18 (q := 21) rfl qJ6_266 ?_
  refine r_iand hX dJ6_bitCount_0f7a4_21 (q := 22) rfl ?_
  refine r_iadd hX dJ6_bitCount_0f7a4_22 (q := 23) rfl ?_
  refine r_istore0 hX dJ6_bitCount_0f7a4_23 (q := 24) rfl rfl ?_
  refine r_iload0 hX dJ6_bitCount_0f7a4_24 (q := 25) rfl ?_
  refine r_iload0 hX dJ6_bitCount_0f7a4_25 (q := 26) rfl ?_
  refine r_iconst hX dJ6_bitCount_0f7a4_26 (q := 27) rfl (v := nI 4) (by decide +kernel) ?_
  refine r_iushr hX dJ6_bitCount_0f7a4_27 (q := 28) rfl ?_
  refine r_iadd hX dJ6_bitCount_0f7a4_28 (q := 29) rfl ?_
  refine r_ldc_w hX dJ6_bitCount_0f7a4_29 (q := 32) rfl qJ6_267 ?_
  refine r_iand hX dJ6_bitCount_0f7a4_32 (q := 33) rfl ?_
  refine r_istore0 hX dJ6_bitCount_0f7a4_33 (q := 34) rfl rfl ?_
  refine r_iload0 hX dJ6_bitCount_0f7a4_34 (q := 35) rfl ?_
  refine r_iload0 hX dJ6_bitCount_0f7a4_35 (q := 36) rfl ?_
  refine r_bipush hX dJ6_bitCount_0f7a4_36 (q := 38) rfl (v := nI 8) (by decide +kernel) ?_
  refine r_iushr hX dJ6_bitCount_0f7a4_38 (q := 39) rfl ?_
  refine r_iadd hX dJ6_bitCount_0f7a4_39 (q := 40) rfl ?_
  refine r_istore0 hX dJ6_bitCount_0f7a4_40 (q := 41) rfl rfl ?_
  refine r_iload0 hX dJ6_bitCount_0f7a4_41 (q := 42) rfl ?_
  refine r_iload0 hX dJ6_bitCount_0f7a4_42 (q := 43) rfl ?_
  refine r_bipush hX dJ6_bitCount_0f7a4_43 (q := 45) rfl (v := nI 16) (by decide +kernel) ?_
  refine r_iushr hX dJ6_bitCount_0f7a4_45 (q := 46) rfl ?_
  refine r_iadd hX dJ6_bitCount_0f7a4_46 (q := 47) rfl ?_
  refine r_istore0 hX dJ6_bitCount_0f7a4_47 (q := 48) rfl rfl ?_
  refine r_iload0 hX dJ6_bitCount_0f7a4_48 (q := 49) rfl ?_
  refine r_bipush hX dJ6_bitCount_0f7a4_49 (q := 51) rfl (v := nI 63) (by decide +kernel) ?_
  refine r_iand hX dJ6_bitCount_0f7a4_51 (q := 52) rfl ?_
  refine r_iret hX hR dJ6_bitCount_0f7a4_52 ?_
  -- leaf 0 at 52
  refine ⟨congrArg (fun z => some (Value.int z)) ?_, ?_⟩
  ·
    rfl
  · rfl

set_option maxRecDepth 100000 in
set_option maxHeartbeats 4000000 in
theorem c_X1_isFull (l : Launch) (Γ : Gam) (G : GG) (i : Nat) (hi : i < 3) (n : Nat) (hn : G (ch i 4) 3 = nI n) (hn1 : n ≤ 10) : Sp l yX1_isFull cX1_isFull 1 (some .boolean) 0 0 [.ref (gad Γ (ch i 4))] Γ G (eB G (decide (10 ≤ n))) := by
  refine Sp_of (own := RX1) rfl (by decide +kernel) rfl (Nat.le_of_ble_eq_true rfl) (fun X hX hR => ?_)
  show WP X Γ 0 [some (.ref (gad Γ (ch i 4)))] [] G
  refine r_aload0 hX dX1_isFull_0 (q := 1) rfl ?_
  refine r_getI hX dX1_isFull_1 (q := 4) rfl fX1_21 (ch_lay (j := 4) (by first | assumption | decide) (by decide) rfl) (rP_3 (by first | assumption | decide)) ?_
  refine r_bipush hX dX1_isFull_4 (q := 6) rfl (v := nI 10) (by decide +kernel) ?_
  rw [hn]
  first | refine r_icmpN_lt hX dX1_isFull_6 (q := 9) rfl (tgt := 13) (by decide) (by first | decide | omega) (by first | decide | omega) (fun h6 => ?_) (fun h6 => ?_) | refine r_icmp_lt hX dX1_isFull_6 (q := 9) rfl (tgt := 13) (by decide) (fun h6 => ?_) (fun h6 => ?_)
  ·
    refine r_iconst hX dX1_isFull_13 (q := 14) rfl (v := nI 0) (by decide +kernel) ?_
    refine r_zret0 hX hR dX1_isFull_14 ?_
    -- leaf 0 at 14
    refine ⟨congrArg (fun z => some (Value.int (bi z))) ?_, ?_⟩
    ·
      clear hX hR
      first | (refine (decide_eq_true ?_).symm; omega) | (refine (decide_eq_false ?_).symm; omega)
    · rfl
  ·
    refine r_iconst hX dX1_isFull_9 (q := 10) rfl (v := nI 1) (by decide +kernel) ?_
    refine r_goto hX dX1_isFull_10 (tgt := 14) (by decide) ?_
    refine r_zret1 hX hR dX1_isFull_14 ?_
    -- leaf 1 at 14
    refine ⟨congrArg (fun z => some (Value.int (bi z))) ?_, ?_⟩
    ·
      clear hX hR
      first | (refine (decide_eq_true ?_).symm; omega) | (refine (decide_eq_false ?_).symm; omega)
    · rfl

set_option maxRecDepth 100000 in
set_option maxHeartbeats 4000000 in
theorem c_X0_friendHas (l : Launch) (Γ : Gam) (G : GG) (i : Nat) (hi : i < 3) (x : Int32) (f : Nat) (hx : x = nI f) : Sp l yX0_friendHas cX0_friendHas 2 (some .boolean) 0 0 [.ref (gad Γ (ch i 0)), .int x] Γ G (eB G (frS (G (ch i 0) 8) f)) := by
  refine Sp_of (own := RX0) rfl (by decide +kernel) rfl (Nat.le_of_ble_eq_true rfl) (fun X hX hR => ?_)
  show WP X Γ 0 [some (.ref (gad Γ (ch i 0))), some (.int x)] [] G
  subst hx
  refine r_aload0 hX dX0_friendHas_0 (q := 1) rfl ?_
  refine r_getI hX dX0_friendHas_1 (q := 4) rfl fX0_43 (ch_lay (j := 0) (by first | assumption | decide) (by decide) rfl) (rC_8 (by first | assumption | decide)) ?_
  refine r_iload1 hX dX0_friendHas_4 (q := 5) rfl ?_
  refine r_iushr hX dX0_friendHas_5 (q := 6) rfl ?_
  refine r_iconst hX dX0_friendHas_6 (q := 7) rfl (v := nI 1) (by decide +kernel) ?_
  refine r_iand hX dX0_friendHas_7 (q := 8) rfl ?_
  refine r_iconst hX dX0_friendHas_8 (q := 9) rfl (v := nI 1) (by decide +kernel) ?_
  first | refine r_icmpN_ne hX dX0_friendHas_9 (q := 12) rfl (tgt := 16) (by decide) (by first | decide | omega) (by first | decide | omega) (fun h9 => ?_) (fun h9 => ?_) | refine r_icmp_ne hX dX0_friendHas_9 (q := 12) rfl (tgt := 16) (by decide) (fun h9 => ?_) (fun h9 => ?_)
  ·
    refine r_iconst hX dX0_friendHas_16 (q := 17) rfl (v := nI 0) (by decide +kernel) ?_
    refine r_zret0 hX hR dX0_friendHas_17 ?_
    -- leaf 0 at 17
    refine ⟨congrArg (fun z => some (Value.int (bi z))) ?_, ?_⟩
    ·
      first | exact (decide_eq_true h9).symm | exact (decide_eq_false h9).symm
    · rfl
  ·
    refine r_iconst hX dX0_friendHas_12 (q := 13) rfl (v := nI 1) (by decide +kernel) ?_
    refine r_goto hX dX0_friendHas_13 (tgt := 17) (by decide) ?_
    refine r_zret1 hX hR dX0_friendHas_17 ?_
    -- leaf 1 at 17
    refine ⟨congrArg (fun z => some (Value.int (bi z))) ?_, ?_⟩
    ·
      first | exact (decide_eq_true h9).symm | exact (decide_eq_false h9).symm
    · rfl

set_option maxRecDepth 100000 in
set_option maxHeartbeats 4000000 in
theorem c_X0_drawn (l : Launch) (Γ : Gam) (G : GG) (i : Nat) (hi : i < 3) : Sp l yX0_drawn cX0_drawn 1 (some .int) 0 0 [.ref (gad Γ (ch i 0))] Γ G (eI (up G (ch i 0) 12 (drS (G (ch i 0) 12))) (shr8 (drS (G (ch i 0) 12)))) := by
  refine Sp_of (own := RX0) rfl (by decide +kernel) rfl (Nat.le_of_ble_eq_true rfl) (fun X hX hR => ?_)
  show WP X Γ 0 [some (.ref (gad Γ (ch i 0)))] [] G
  refine r_aload0 hX dX0_drawn_0 (q := 1) rfl ?_
  refine r_aload0 hX dX0_drawn_1 (q := 2) rfl ?_
  refine r_getI hX dX0_drawn_2 (q := 5) rfl fX0_59 (ch_lay (j := 0) (by first | assumption | decide) (by decide) rfl) (rC_12 (by first | assumption | decide)) ?_
  refine r_ldc hX dX0_drawn_5 (q := 7) rfl qX0_97 ?_
  refine r_imul hX dX0_drawn_7 (q := 8) rfl ?_
  refine r_sipush hX dX0_drawn_8 (q := 11) rfl (v := nI 12345) (by decide +kernel) ?_
  refine r_iadd hX dX0_drawn_11 (q := 12) rfl ?_
  refine r_put hX dX0_drawn_12 (q := 15) rfl fX0_59 wX0_12 rfl rfl (ch_lay (j := 0) (by first | assumption | decide) (by decide) rfl) (rC_12 (by first | assumption | decide)) ?_
  refine r_aload0 hX dX0_drawn_15 (q := 16) rfl ?_
  refine r_getI hX dX0_drawn_16 (q := 19) rfl fX0_59 (ch_lay (j := 0) (by first | assumption | decide) (by decide) rfl) (rC_12 (by first | assumption | decide)) ?_
  refine r_bipush hX dX0_drawn_19 (q := 21) rfl (v := nI 8) (by decide +kernel) ?_
  refine r_iushr hX dX0_drawn_21 (q := 22) rfl ?_
  refine r_iret hX hR dX0_drawn_22 ?_
  -- leaf 0 at 22
  refine ⟨congrArg (fun z => some (Value.int z)) ?_, ?_⟩
  ·
    rw [up_eq]; rfl
  · rfl

set_option maxRecDepth 100000 in
set_option maxHeartbeats 4000000 in
theorem c_X0_moveLike (l : Launch) (Γ : Gam) (G : GG) (i : Nat) (hi : i < 3) (x : Int32) (f : Nat) (hx : x = nI f) (hf : f < 10) (by0 : Int32) : Sp l yX0_moveLike cX0_moveLike 3 none 1 21 [.ref (gad Γ (ch i 0)), .int x, .int by0] Γ G (eV (up G (ch i 1) f (lkS (G (ch i 1) f + by0)))) := by
  refine Sp_of (own := RX0) rfl (by decide +kernel) rfl (Nat.le_of_ble_eq_true rfl) (fun X hX hR => ?_)
  show WP X Γ 0 [some (.ref (gad Γ (ch i 0))), some (.int x), some (.int by0)] [] G
  subst hx
  refine r_aload0 hX dX0_moveLike_0 (q := 1) rfl ?_
  refine r_getR hX dX0_moveLike_1 (q := 4) rfl fX0_9 (ch_lay (j := 0) (by first | assumption | decide) (by decide) rfl) (rC_0 (by first | assumption | decide)) ?_
  refine r_iload1 hX dX0_moveLike_4 (q := 5) rfl ?_
  refine r_iconst hX dX0_moveLike_5 (q := 6) rfl (v := nI 0) (by decide +kernel) ?_
  refine r_bipush hX dX0_moveLike_6 (q := 8) rfl (v := nI 99) (by decide +kernel) ?_
  refine r_aload0 hX dX0_moveLike_8 (q := 9) rfl ?_
  refine r_getR hX dX0_moveLike_9 (q := 12) rfl fX0_9 (ch_lay (j := 0) (by first | assumption | decide) (by decide) rfl) (rC_0 (by first | assumption | decide)) ?_
  refine r_iload1 hX dX0_moveLike_12 (q := 13) rfl ?_
  refine r_ialdN hX dX0_moveLike_13 (q := 14) rfl (ch_lay (j := 1) (by first | assumption | decide) (by decide) rfl) (by repeat' (first | assumption | with_reducible exact rfl | refine e_add ?_ ?_ | refine e_mul ?_ ?_)) (by first | assumption | omega) (by decide) ?_
  refine r_iload2 hX dX0_moveLike_14 (q := 15) rfl ?_
  refine r_iadd hX dX0_moveLike_15 (q := 16) rfl ?_
  refine r_mmin hX dX0_moveLike_16 (q := 19) rfl kX0_88 msMathmin ⟨by decide, Nat.le_of_ble_eq_true rfl⟩ ?_
  refine r_mmax hX dX0_moveLike_19 (q := 22) rfl kX0_98 msMathmax ⟨by decide, Nat.le_of_ble_eq_true rfl⟩ ?_
  refine r_iastN hX dX0_moveLike_22 (q := 23) rfl (ch_lay (j := 1) (by first | assumption | decide) (by decide) rfl) (by repeat' (first | assumption | with_reducible exact rfl | refine e_add ?_ ?_ | refine e_mul ?_ ?_)) (by first | assumption | omega) (by decide) ?_
  refine r_vret hX hR dX0_moveLike_23 ?_
  -- leaf 0 at 23
  refine ⟨rfl, ?_⟩
  rfl

set_option maxRecDepth 100000 in
set_option maxHeartbeats 4000000 in
theorem c_X0_eats (l : Launch) (Γ : Gam) (G : GG) (i : Nat) (hi : i < 3) (μ : MU) (b : Nat) (hC : CR G i μ) (hV : Inv b μ) (x : Int32) (t : Nat) (hx : x = nI t) (ht : t < 10) (fb : Bool) : Sp l yX0_eats cX0_eats 6 (some .int) 1 21 [.ref (gad Γ (ch i 0)), .int x, .int (bi fb)] Γ G (eI G (eatT μ t fb)) := by
  refine Sp_of (own := RX0) rfl (by decide +kernel) rfl (Nat.le_of_ble_eq_true rfl) (fun X hX hR => ?_)
  show WP X Γ 0 [some (.ref (gad Γ (ch i 0))), some (.int x), some (.int (bi fb)), none, none, none] [] G
  subst hx
  obtain ⟨hf, hfe⟩ := hV.fd ht
  obtain ⟨e5, e6, e7⟩ := hC.2.2.1 t ht
  have e6' : G (ch i 6) t = nI (cl (μ (41 + 3 * t))) := e6.trans hfe
  have e1 := (hC.2.1 _ hf).1
  have e4 : G (ch i 0) 4 = μ 3 := hC.1.2.2.2.1
  have e8 : G (ch i 0) 8 = μ 7 := hC.1.2.2.2.2.2.2.2.1
  refine r_aload0 hX dX0_eats_0 (q := 1) rfl ?_
  refine r_getR hX dX0_eats_1 (q := 4) rfl fX0_49 (ch_lay (j := 0) (by first | assumption | decide) (by decide) rfl) (rC_9 (by first | assumption | decide)) ?_
  refine r_getR hX dX0_eats_4 (q := 7) rfl fX0_79 (ch_lay (j := 4) (by first | assumption | decide) (by decide) rfl) (rP_2 (by first | assumption | decide)) ?_
  refine r_iload1 hX dX0_eats_7 (q := 8) rfl ?_
  refine r_ialdN hX dX0_eats_8 (q := 9) rfl (ch_lay (j := 7) (by first | assumption | decide) (by decide) rfl) (by repeat' (first | assumption | with_reducible exact rfl | refine e_add ?_ ?_ | refine e_mul ?_ ?_)) (by first | assumption | omega) (by decide) ?_
  refine r_istore3 hX dX0_eats_9 (q := 10) rfl rfl ?_
  refine r_aload0 hX dX0_eats_10 (q := 11) rfl ?_
  refine r_getR hX dX0_eats_11 (q := 14) rfl fX0_49 (ch_lay (j := 0) (by first | assumption | decide) (by decide) rfl) (rC_9 (by first | assumption | decide)) ?_
  refine r_getR hX dX0_eats_14 (q := 17) rfl fX0_82 (ch_lay (j := 4) (by first | assumption | decide) (by decide) rfl) (rP_1 (by first | assumption | decide)) ?_
  refine r_iload1 hX dX0_eats_17 (q := 18) rfl ?_
  refine r_ialdN hX dX0_eats_18 (q := 19) rfl (ch_lay (j := 6) (by first | assumption | decide) (by decide) rfl) (by repeat' (first | assumption | with_reducible exact rfl | refine e_add ?_ ?_ | refine e_mul ?_ ?_)) (by first | assumption | omega) (by decide) ?_
  refine r_istore4 hX dX0_eats_19 (q := 21) rfl rfl ?_
  refine r_iload3 hX dX0_eats_21 (q := 22) rfl ?_
  refine r_aload0 hX dX0_eats_22 (q := 23) rfl ?_
  refine r_getR hX dX0_eats_23 (q := 26) rfl fX0_9 (ch_lay (j := 0) (by first | assumption | decide) (by decide) rfl) (rC_0 (by first | assumption | decide)) ?_
  refine r_iload4 hX dX0_eats_26 (q := 28) rfl ?_
  refine r_ialdN hX dX0_eats_28 (q := 29) rfl (ch_lay (j := 1) (by first | assumption | decide) (by decide) rfl) (by repeat' (first | assumption | with_reducible exact rfl | refine e_add ?_ ?_ | refine e_mul ?_ ?_)) (by first | assumption | omega) (by decide) ?_
  refine r_imul hX dX0_eats_29 (q := 30) rfl ?_
  refine r_aload0 hX dX0_eats_30 (q := 31) rfl ?_
  refine r_getI hX dX0_eats_31 (q := 34) rfl fX0_31 (ch_lay (j := 0) (by first | assumption | decide) (by decide) rfl) (rC_4 (by first | assumption | decide)) ?_
  refine r_bipush hX dX0_eats_34 (q := 36) rfl (v := nI 20) (by decide +kernel) ?_
  refine r_iadd hX dX0_eats_36 (q := 37) rfl ?_
  refine r_imul hX dX0_eats_37 (q := 38) rfl ?_
  refine r_sipush hX dX0_eats_38 (q := 41) rfl (v := nI 10000) (by decide +kernel) ?_
  refine r_idiv hX dX0_eats_41 (q := 42) rfl (by first | decide +kernel | assumption) ?_
  refine r_istore5 hX dX0_eats_42 (q := 44) rfl rfl ?_
  refine r_aload0 hX dX0_eats_44 (q := 45) rfl ?_
  refine r_getR hX dX0_eats_45 (q := 48) rfl fX0_49 (ch_lay (j := 0) (by first | assumption | decide) (by decide) rfl) (rC_9 (by first | assumption | decide)) ?_
  refine r_getR hX dX0_eats_48 (q := 51) rfl fX0_85 (ch_lay (j := 4) (by first | assumption | decide) (by decide) rfl) (rP_0 (by first | assumption | decide)) ?_
  refine r_iload1 hX dX0_eats_51 (q := 52) rfl ?_
  refine r_ialdN hX dX0_eats_52 (q := 53) rfl (ch_lay (j := 5) (by first | assumption | decide) (by decide) rfl) (by repeat' (first | assumption | with_reducible exact rfl | refine e_add ?_ ?_ | refine e_mul ?_ ?_)) (by first | assumption | omega) (by decide) ?_
  refine r_tabCase hX dX0_eats_53 1 ⟨by decide, by decide, by decide, rfl, (by decide : (53 : Int) + 39 = (92 : Nat))⟩ (fun h53_1 => ?_) (fun h53_1 => ?_)
  ·
    refine r_iconst hX dX0_eats_92 (q := 93) rfl (v := nI 0) (by decide +kernel) ?_
    refine r_iret hX hR dX0_eats_93 ?_
    -- leaf 0 at 93
    refine ⟨congrArg (fun z => some (Value.int z)) ?_, ?_⟩
    ·
      unfold eatT eatS
      rw [← e5, if_pos h53_1]
    · rfl
  refine r_tabCase hX dX0_eats_53 2 ⟨by decide, by decide, by decide, rfl, (by decide : (53 : Int) + 41 = (94 : Nat))⟩ (fun h53_2 => ?_) (fun h53_2 => ?_)
  ·
    refine r_iload3 hX dX0_eats_94 (q := 95) rfl ?_
    refine r_iload5 hX dX0_eats_95 (q := 97) rfl ?_
    refine r_iconst hX dX0_eats_97 (q := 98) rfl (v := nI 2) (by decide +kernel) ?_
    refine r_iadd hX dX0_eats_98 (q := 99) rfl ?_
    refine r_mmin hX dX0_eats_99 (q := 102) rfl kX0_88 msMathmin ⟨by decide, Nat.le_of_ble_eq_true rfl⟩ ?_
    refine r_iret hX hR dX0_eats_102 ?_
    -- leaf 1 at 102
    refine ⟨congrArg (fun z => some (Value.int z)) ?_, ?_⟩
    ·
      unfold eatT eatS
      rw [← e5, if_neg h53_1, if_pos h53_2]
      simp only [plS, e7, e1, e4]
    · rfl
  refine r_tabCase hX dX0_eats_53 3 ⟨by decide, by decide, by decide, rfl, (by decide : (53 : Int) + 50 = (103 : Nat))⟩ (fun h53_3 => ?_) (fun h53_3 => ?_)
  ·
    refine r_iload3 hX dX0_eats_103 (q := 104) rfl ?_
    refine r_iload5 hX dX0_eats_104 (q := 106) rfl ?_
    refine r_iconst hX dX0_eats_106 (q := 107) rfl (v := nI 2) (by decide +kernel) ?_
    refine r_iadd hX dX0_eats_107 (q := 108) rfl ?_
    refine r_iconst hX dX0_eats_108 (q := 109) rfl (v := nI 3) (by decide +kernel) ?_
    refine r_iadd hX dX0_eats_109 (q := 110) rfl ?_
    refine r_mmin hX dX0_eats_110 (q := 113) rfl kX0_88 msMathmin ⟨by decide, Nat.le_of_ble_eq_true rfl⟩ ?_
    refine r_iret hX hR dX0_eats_113 ?_
    -- leaf 2 at 113
    refine ⟨congrArg (fun z => some (Value.int z)) ?_, ?_⟩
    ·
      unfold eatT eatS
      rw [← e5, if_neg h53_1, if_neg h53_2, if_pos h53_3]
      simp only [plS, e7, e1, e4]
    · rfl
  refine r_tabCase hX dX0_eats_53 4 ⟨by decide, by decide, by decide, rfl, (by decide : (53 : Int) + 61 = (114 : Nat))⟩ (fun h53_4 => ?_) (fun h53_4 => ?_)
  ·
    refine r_iload3 hX dX0_eats_114 (q := 115) rfl ?_
    refine r_aload0 hX dX0_eats_115 (q := 116) rfl ?_
    refine r_iload4 hX dX0_eats_116 (q := 118) rfl ?_
    refine r_callV hX dX0_eats_118 (q := 121) rfl (c_X0_friendHas _ Γ _ _ (by first | assumption | decide) _ _ (by repeat' (first | assumption | with_reducible exact rfl | refine e_add ?_ ?_ | refine e_mul ?_ ?_))) kX0_94 mlX0_friendHas mvX0_friendHas rfl rfl (ch_lay (j := 0) (by first | assumption | decide) (by decide) rfl) ⟨by decide, rfl⟩ ⟨by decide, by decide⟩ (Nat.le_of_ble_eq_true rfl) (keB ?_)
    first | refine r_ifd_eq hX dX0_eats_121 (q := 124) rfl (tgt := 134) (by decide) (fun h121 => ?_) (fun h121 => ?_) | refine r_ifb_eq hX dX0_eats_121 (q := 124) rfl (tgt := 134) (by decide) (fun h121 => ?_) (fun h121 => ?_)
    ·
      refine r_iload5 hX dX0_eats_134 (q := 136) rfl ?_
      refine r_mmin hX dX0_eats_136 (q := 139) rfl kX0_88 msMathmin ⟨by decide, Nat.le_of_ble_eq_true rfl⟩ ?_
      refine r_iret hX hR dX0_eats_139 ?_
      -- leaf 3 at 139
      refine ⟨congrArg (fun z => some (Value.int z)) ?_, ?_⟩
      ·
        unfold eatT eatS
        rw [← e5, if_neg h53_1, if_neg h53_2, if_neg h53_3, if_pos (Or.inl h53_4)]
        rw [if_neg (by rw [← e8]; intro z; exact h121 (of_decide_eq_true z))]
        simp only [plS, e7, e1, e4]
      · rfl
    ·
      refine r_iload5 hX dX0_eats_124 (q := 126) rfl ?_
      refine r_iload5 hX dX0_eats_126 (q := 128) rfl ?_
      refine r_iconst hX dX0_eats_128 (q := 129) rfl (v := nI 2) (by decide +kernel) ?_
      refine r_idiv hX dX0_eats_129 (q := 130) rfl (by first | decide +kernel | assumption) ?_
      refine r_iadd hX dX0_eats_130 (q := 131) rfl ?_
      refine r_goto hX dX0_eats_131 (tgt := 136) (by decide) ?_
      refine r_mmin hX dX0_eats_136 (q := 139) rfl kX0_88 msMathmin ⟨by decide, Nat.le_of_ble_eq_true rfl⟩ ?_
      refine r_iret hX hR dX0_eats_139 ?_
      -- leaf 4 at 139
      refine ⟨congrArg (fun z => some (Value.int z)) ?_, ?_⟩
      ·
        unfold eatT eatS
        rw [← e5, if_neg h53_1, if_neg h53_2, if_neg h53_3, if_pos (Or.inl h53_4)]
        rw [if_pos (by rw [← e8]; exact decide_eq_true h121)]
        simp only [plS, e7, e1, e4]
      · rfl
  refine r_tabCase hX dX0_eats_53 5 ⟨by decide, by decide, by decide, rfl, (by decide : (53 : Int) + 61 = (114 : Nat))⟩ (fun h53_5 => ?_) (fun h53_5 => ?_)
  ·
    refine r_iload3 hX dX0_eats_114 (q := 115) rfl ?_
    refine r_aload0 hX dX0_eats_115 (q := 116) rfl ?_
    refine r_iload4 hX dX0_eats_116 (q := 118) rfl ?_
    refine r_callV hX dX0_eats_118 (q := 121) rfl (c_X0_friendHas _ Γ _ _ (by first | assumption | decide) _ _ (by repeat' (first | assumption | with_reducible exact rfl | refine e_add ?_ ?_ | refine e_mul ?_ ?_))) kX0_94 mlX0_friendHas mvX0_friendHas rfl rfl (ch_lay (j := 0) (by first | assumption | decide) (by decide) rfl) ⟨by decide, rfl⟩ ⟨by decide, by decide⟩ (Nat.le_of_ble_eq_true rfl) (keB ?_)
    first | refine r_ifd_eq hX dX0_eats_121 (q := 124) rfl (tgt := 134) (by decide) (fun h121 => ?_) (fun h121 => ?_) | refine r_ifb_eq hX dX0_eats_121 (q := 124) rfl (tgt := 134) (by decide) (fun h121 => ?_) (fun h121 => ?_)
    ·
      refine r_iload5 hX dX0_eats_134 (q := 136) rfl ?_
      refine r_mmin hX dX0_eats_136 (q := 139) rfl kX0_88 msMathmin ⟨by decide, Nat.le_of_ble_eq_true rfl⟩ ?_
      refine r_iret hX hR dX0_eats_139 ?_
      -- leaf 5 at 139
      refine ⟨congrArg (fun z => some (Value.int z)) ?_, ?_⟩
      ·
        unfold eatT eatS
        rw [← e5, if_neg h53_1, if_neg h53_2, if_neg h53_3, if_pos (Or.inr h53_5)]
        rw [if_neg (by rw [← e8]; intro z; exact h121 (of_decide_eq_true z))]
        simp only [plS, e7, e1, e4]
      · rfl
    ·
      refine r_iload5 hX dX0_eats_124 (q := 126) rfl ?_
      refine r_iload5 hX dX0_eats_126 (q := 128) rfl ?_
      refine r_iconst hX dX0_eats_128 (q := 129) rfl (v := nI 2) (by decide +kernel) ?_
      refine r_idiv hX dX0_eats_129 (q := 130) rfl (by first | decide +kernel | assumption) ?_
      refine r_iadd hX dX0_eats_130 (q := 131) rfl ?_
      refine r_goto hX dX0_eats_131 (tgt := 136) (by decide) ?_
      refine r_mmin hX dX0_eats_136 (q := 139) rfl kX0_88 msMathmin ⟨by decide, Nat.le_of_ble_eq_true rfl⟩ ?_
      refine r_iret hX hR dX0_eats_139 ?_
      -- leaf 6 at 139
      refine ⟨congrArg (fun z => some (Value.int z)) ?_, ?_⟩
      ·
        unfold eatT eatS
        rw [← e5, if_neg h53_1, if_neg h53_2, if_neg h53_3, if_pos (Or.inr h53_5)]
        rw [if_pos (by rw [← e8]; exact decide_eq_true h121)]
        simp only [plS, e7, e1, e4]
      · rfl
  refine r_tabCase hX dX0_eats_53 6 ⟨by decide, by decide, by decide, rfl, (by decide : (53 : Int) + 87 = (140 : Nat))⟩ (fun h53_6 => ?_) (fun h53_6 => ?_)
  ·
    refine r_iload2 hX dX0_eats_140 (q := 141) rfl ?_
    first | refine r_ifd_eq hX dX0_eats_141 (q := 144) rfl (tgt := 148) (by decide) (fun h141 => ?_) (fun h141 => ?_) | refine r_ifb_eq hX dX0_eats_141 (q := 144) rfl (tgt := 148) (by decide) (fun h141 => ?_) (fun h141 => ?_)
    ·
      refine r_iload3 hX dX0_eats_148 (q := 149) rfl ?_
      refine r_iret hX hR dX0_eats_149 ?_
      -- leaf 7 at 149
      refine ⟨congrArg (fun z => some (Value.int z)) ?_, ?_⟩
      ·
        unfold eatT eatS
        rw [← e5, if_neg h53_1, if_neg h53_2, if_neg h53_3, if_neg (not_or.mpr ⟨h53_4, h53_5⟩), if_pos h53_6]
        rw [if_neg (by simp [h141])]
        exact e7
      · rfl
    ·
      refine r_iconst hX dX0_eats_144 (q := 145) rfl (v := nI 0) (by decide +kernel) ?_
      refine r_goto hX dX0_eats_145 (tgt := 149) (by decide) ?_
      refine r_iret hX hR dX0_eats_149 ?_
      -- leaf 8 at 149
      refine ⟨congrArg (fun z => some (Value.int z)) ?_, ?_⟩
      ·
        unfold eatT eatS
        rw [← e5, if_neg h53_1, if_neg h53_2, if_neg h53_3, if_neg (not_or.mpr ⟨h53_4, h53_5⟩), if_pos h53_6]
        rw [if_pos h141]
      · rfl
  refine r_tabOut hX dX0_eats_53 (by have z1 := nI_neT h53_1 (by decide); have z2 := nI_neT h53_2 (by decide); have z3 := nI_neT h53_3 (by decide); have z4 := nI_neT h53_4 (by decide); have z5 := nI_neT h53_5 (by decide); have z6 := nI_neT h53_6 (by decide); omega) (tgt := 150) (by decide) ?_
  refine r_iload3 hX dX0_eats_150 (q := 151) rfl ?_
  refine r_iload5 hX dX0_eats_151 (q := 153) rfl ?_
  refine r_mmin hX dX0_eats_153 (q := 156) rfl kX0_88 msMathmin ⟨by decide, Nat.le_of_ble_eq_true rfl⟩ ?_
  refine r_iret hX hR dX0_eats_156 ?_
  -- leaf 9 at 156
  refine ⟨congrArg (fun z => some (Value.int z)) ?_, ?_⟩
  ·
    unfold eatT eatS
    rw [← e5, if_neg h53_1, if_neg h53_2, if_neg h53_3, if_neg (not_or.mpr ⟨h53_4, h53_5⟩), if_neg h53_6]
    simp only [plS, e7, e1, e4]
  · rfl

set_option maxRecDepth 100000 in
set_option maxHeartbeats 4000000 in
theorem c_X0_moves (l : Launch) (Γ : Gam) (G : GG) (i : Nat) (hi : i < 3) (μ : MU) (b : Nat) (hC : CR G i μ) (hV : Inv b μ) (x : Int32) (t : Nat) (hx : x = nI t) (ht : t < 10) (fb : Bool) : Sp l yX0_moves cX0_moves 6 (some .int) 1 21 [.ref (gad Γ (ch i 0)), .int x, .int (bi fb)] Γ G (eI G (movT μ t fb)) := by
  refine Sp_of (own := RX0) rfl (by decide +kernel) rfl (Nat.le_of_ble_eq_true rfl) (fun X hX hR => ?_)
  show WP X Γ 0 [some (.ref (gad Γ (ch i 0))), some (.int x), some (.int (bi fb)), none, none, none] [] G
  subst hx
  obtain ⟨hf, hfe⟩ := hV.fd ht
  obtain ⟨e5, e6, e7⟩ := hC.2.2.1 t ht
  have e6' : G (ch i 6) t = nI (cl (μ (41 + 3 * t))) := e6.trans hfe
  have e2 := (hC.2.1 _ hf).2.1
  have e3 : G (ch i 0) 3 = μ 2 := hC.1.2.2.1
  have e8 : G (ch i 0) 8 = μ 7 := hC.1.2.2.2.2.2.2.2.1
  refine r_aload0 hX dX0_moves_0 (q := 1) rfl ?_
  refine r_getR hX dX0_moves_1 (q := 4) rfl fX0_49 (ch_lay (j := 0) (by first | assumption | decide) (by decide) rfl) (rC_9 (by first | assumption | decide)) ?_
  refine r_getR hX dX0_moves_4 (q := 7) rfl fX0_82 (ch_lay (j := 4) (by first | assumption | decide) (by decide) rfl) (rP_1 (by first | assumption | decide)) ?_
  refine r_iload1 hX dX0_moves_7 (q := 8) rfl ?_
  refine r_ialdN hX dX0_moves_8 (q := 9) rfl (ch_lay (j := 6) (by first | assumption | decide) (by decide) rfl) (by repeat' (first | assumption | with_reducible exact rfl | refine e_add ?_ ?_ | refine e_mul ?_ ?_)) (by first | assumption | omega) (by decide) ?_
  refine r_istore3 hX dX0_moves_9 (q := 10) rfl rfl ?_
  refine r_bipush hX dX0_moves_10 (q := 12) rfl (v := nI 6) (by decide +kernel) ?_
  refine r_aload0 hX dX0_moves_12 (q := 13) rfl ?_
  refine r_getR hX dX0_moves_13 (q := 16) rfl fX0_15 (ch_lay (j := 0) (by first | assumption | decide) (by decide) rfl) (rC_1 (by first | assumption | decide)) ?_
  refine r_iload3 hX dX0_moves_16 (q := 17) rfl ?_
  refine r_ialdN hX dX0_moves_17 (q := 18) rfl (ch_lay (j := 2) (by first | assumption | decide) (by decide) rfl) (by repeat' (first | assumption | with_reducible exact rfl | refine e_add ?_ ?_ | refine e_mul ?_ ?_)) (by first | assumption | omega) (by decide) ?_
  refine r_aload0 hX dX0_moves_18 (q := 19) rfl ?_
  refine r_getI hX dX0_moves_19 (q := 22) rfl fX0_27 (ch_lay (j := 0) (by first | assumption | decide) (by decide) rfl) (rC_3 (by first | assumption | decide)) ?_
  refine r_imul hX dX0_moves_22 (q := 23) rfl ?_
  refine r_bipush hX dX0_moves_23 (q := 25) rfl (v := nI 10) (by decide +kernel) ?_
  refine r_idiv hX dX0_moves_25 (q := 26) rfl (by first | decide +kernel | assumption) ?_
  refine r_isub hX dX0_moves_26 (q := 27) rfl ?_
  refine r_istore4 hX dX0_moves_27 (q := 29) rfl rfl ?_
  refine r_aload0 hX dX0_moves_29 (q := 30) rfl ?_
  refine r_iload3 hX dX0_moves_30 (q := 31) rfl ?_
  refine r_callV hX dX0_moves_31 (q := 34) rfl (c_X0_friendHas _ Γ _ _ (by first | assumption | decide) _ _ (by repeat' (first | assumption | with_reducible exact rfl | refine e_add ?_ ?_ | refine e_mul ?_ ?_))) kX0_94 mlX0_friendHas mvX0_friendHas rfl rfl (ch_lay (j := 0) (by first | assumption | decide) (by decide) rfl) ⟨by decide, rfl⟩ ⟨by decide, by decide⟩ (Nat.le_of_ble_eq_true rfl) (keB ?_)
  first | refine r_ifd_eq hX dX0_moves_34 (q := 37) rfl (tgt := 44) (by decide) (fun h34 => ?_) (fun h34 => ?_) | refine r_ifb_eq hX dX0_moves_34 (q := 37) rfl (tgt := 44) (by decide) (fun h34 => ?_) (fun h34 => ?_)
  ·
    refine r_iload4 hX dX0_moves_44 (q := 46) rfl ?_
    refine r_istore5 hX dX0_moves_46 (q := 48) rfl rfl ?_
    refine r_aload0 hX dX0_moves_48 (q := 49) rfl ?_
    refine r_getR hX dX0_moves_49 (q := 52) rfl fX0_49 (ch_lay (j := 0) (by first | assumption | decide) (by decide) rfl) (rC_9 (by first | assumption | decide)) ?_
    refine r_getR hX dX0_moves_52 (q := 55) rfl fX0_85 (ch_lay (j := 4) (by first | assumption | decide) (by decide) rfl) (rP_0 (by first | assumption | decide)) ?_
    refine r_iload1 hX dX0_moves_55 (q := 56) rfl ?_
    refine r_ialdN hX dX0_moves_56 (q := 57) rfl (ch_lay (j := 5) (by first | assumption | decide) (by decide) rfl) (by repeat' (first | assumption | with_reducible exact rfl | refine e_add ?_ ?_ | refine e_mul ?_ ?_)) (by first | assumption | omega) (by decide) ?_
    refine r_tabCase hX dX0_moves_57 1 ⟨by decide, by decide, by decide, rfl, (by decide : (57 : Int) + 39 = (96 : Nat))⟩ (fun h57_1 => ?_) (fun h57_1 => ?_)
    ·
      refine r_iload4 hX dX0_moves_96 (q := 98) rfl ?_
      refine r_iconst hX dX0_moves_98 (q := 99) rfl (v := nI 2) (by decide +kernel) ?_
      refine r_idiv hX dX0_moves_99 (q := 100) rfl (by first | decide +kernel | assumption) ?_
      refine r_iret hX hR dX0_moves_100 ?_
      -- leaf 0 at 100
      refine ⟨congrArg (fun z => some (Value.int z)) ?_, ?_⟩
      ·
        unfold movT movS
        rw [← e5, if_pos h57_1]
        simp only [mvS, e2, e3]
      · rfl
    refine r_tabCase hX dX0_moves_57 2 ⟨by decide, by decide, by decide, rfl, (by decide : (57 : Int) + 44 = (101 : Nat))⟩ (fun h57_2 => ?_) (fun h57_2 => ?_)
    ·
      refine r_iload4 hX dX0_moves_101 (q := 103) rfl ?_
      refine r_bipush hX dX0_moves_103 (q := 105) rfl (v := nI 8) (by decide +kernel) ?_
      refine r_isub hX dX0_moves_105 (q := 106) rfl ?_
      refine r_iret hX hR dX0_moves_106 ?_
      -- leaf 1 at 106
      refine ⟨congrArg (fun z => some (Value.int z)) ?_, ?_⟩
      ·
        unfold movT movS
        rw [← e5, if_neg h57_1, if_pos h57_2]
        simp only [mvS, e2, e3]
      · rfl
    refine r_tabCase hX dX0_moves_57 3 ⟨by decide, by decide, by decide, rfl, (by decide : (57 : Int) + 50 = (107 : Nat))⟩ (fun h57_3 => ?_) (fun h57_3 => ?_)
    ·
      refine r_iload4 hX dX0_moves_107 (q := 109) rfl ?_
      refine r_bipush hX dX0_moves_109 (q := 111) rfl (v := nI 8) (by decide +kernel) ?_
      refine r_isub hX dX0_moves_111 (q := 112) rfl ?_
      refine r_iconst hX dX0_moves_112 (q := 113) rfl (v := nI 2) (by decide +kernel) ?_
      refine r_iadd hX dX0_moves_113 (q := 114) rfl ?_
      refine r_iret hX hR dX0_moves_114 ?_
      -- leaf 2 at 114
      refine ⟨congrArg (fun z => some (Value.int z)) ?_, ?_⟩
      ·
        unfold movT movS
        rw [← e5, if_neg h57_1, if_neg h57_2, if_pos h57_3]
        simp only [mvS, e2, e3]
      · rfl
    refine r_tabCase hX dX0_moves_57 4 ⟨by decide, by decide, by decide, rfl, (by decide : (57 : Int) + 58 = (115 : Nat))⟩ (fun h57_4 => ?_) (fun h57_4 => ?_)
    ·
      refine r_iload5 hX dX0_moves_115 (q := 117) rfl ?_
      refine r_iret hX hR dX0_moves_117 ?_
      -- leaf 3 at 117
      refine ⟨congrArg (fun z => some (Value.int z)) ?_, ?_⟩
      ·
        unfold movT movS
        rw [← e5, if_neg h57_1, if_neg h57_2, if_neg h57_3, if_pos h57_4]
        rw [if_neg (by rw [← e8]; intro z; exact h34 (of_decide_eq_true z))]
        simp only [mvS, e2, e3]
      · rfl
    refine r_tabCase hX dX0_moves_57 5 ⟨by decide, by decide, by decide, rfl, (by decide : (57 : Int) + 61 = (118 : Nat))⟩ (fun h57_5 => ?_) (fun h57_5 => ?_)
    ·
      refine r_iload5 hX dX0_moves_118 (q := 120) rfl ?_
      refine r_iconst hX dX0_moves_120 (q := 121) rfl (v := nI 2) (by decide +kernel) ?_
      refine r_iadd hX dX0_moves_121 (q := 122) rfl ?_
      refine r_iret hX hR dX0_moves_122 ?_
      -- leaf 4 at 122
      refine ⟨congrArg (fun z => some (Value.int z)) ?_, ?_⟩
      ·
        unfold movT movS
        rw [← e5, if_neg h57_1, if_neg h57_2, if_neg h57_3, if_neg h57_4, if_pos h57_5]
        rw [if_neg (by rw [← e8]; intro z; exact h34 (of_decide_eq_true z))]
        simp only [mvS, e2, e3]
      · rfl
    refine r_tabCase hX dX0_moves_57 6 ⟨by decide, by decide, by decide, rfl, (by decide : (57 : Int) + 66 = (123 : Nat))⟩ (fun h57_6 => ?_) (fun h57_6 => ?_)
    ·
      refine r_iload2 hX dX0_moves_123 (q := 124) rfl ?_
      first | refine r_ifd_eq hX dX0_moves_124 (q := 127) rfl (tgt := 132) (by decide) (fun h124 => ?_) (fun h124 => ?_) | refine r_ifb_eq hX dX0_moves_124 (q := 127) rfl (tgt := 132) (by decide) (fun h124 => ?_) (fun h124 => ?_)
      ·
        refine r_iconst hX dX0_moves_132 (q := 133) rfl (v := nI 1) (by decide +kernel) ?_
        refine r_iret hX hR dX0_moves_133 ?_
        -- leaf 5 at 133
        refine ⟨congrArg (fun z => some (Value.int z)) ?_, ?_⟩
        ·
          unfold movT movS
          rw [← e5, if_neg h57_1, if_neg h57_2, if_neg h57_3, if_neg h57_4, if_neg h57_5, if_pos h57_6]
          rw [if_neg (by simp [h124])]
        · rfl
      ·
        refine r_bipush hX dX0_moves_127 (q := 129) rfl (v := (-10)) (by decide +kernel) ?_
        refine r_goto hX dX0_moves_129 (tgt := 133) (by decide) ?_
        refine r_iret hX hR dX0_moves_133 ?_
        -- leaf 6 at 133
        refine ⟨congrArg (fun z => some (Value.int z)) ?_, ?_⟩
        ·
          unfold movT movS
          rw [← e5, if_neg h57_1, if_neg h57_2, if_neg h57_3, if_neg h57_4, if_neg h57_5, if_pos h57_6]
          rw [if_pos h124]
        · rfl
    refine r_tabOut hX dX0_moves_57 (by have z1 := nI_neT h57_1 (by decide); have z2 := nI_neT h57_2 (by decide); have z3 := nI_neT h57_3 (by decide); have z4 := nI_neT h57_4 (by decide); have z5 := nI_neT h57_5 (by decide); have z6 := nI_neT h57_6 (by decide); omega) (tgt := 134) (by decide) ?_
    refine r_iload4 hX dX0_moves_134 (q := 136) rfl ?_
    refine r_iret hX hR dX0_moves_136 ?_
    -- leaf 7 at 136
    refine ⟨congrArg (fun z => some (Value.int z)) ?_, ?_⟩
    ·
      unfold movT movS
      rw [← e5, if_neg h57_1, if_neg h57_2, if_neg h57_3, if_neg h57_4, if_neg h57_5, if_neg h57_6]
      simp only [mvS, e2, e3]
    · rfl
  ·
    refine r_iload4 hX dX0_moves_37 (q := 39) rfl ?_
    refine r_iconst hX dX0_moves_39 (q := 40) rfl (v := nI 3) (by decide +kernel) ?_
    refine r_iadd hX dX0_moves_40 (q := 41) rfl ?_
    refine r_goto hX dX0_moves_41 (tgt := 46) (by decide) ?_
    refine r_istore5 hX dX0_moves_46 (q := 48) rfl rfl ?_
    refine r_aload0 hX dX0_moves_48 (q := 49) rfl ?_
    refine r_getR hX dX0_moves_49 (q := 52) rfl fX0_49 (ch_lay (j := 0) (by first | assumption | decide) (by decide) rfl) (rC_9 (by first | assumption | decide)) ?_
    refine r_getR hX dX0_moves_52 (q := 55) rfl fX0_85 (ch_lay (j := 4) (by first | assumption | decide) (by decide) rfl) (rP_0 (by first | assumption | decide)) ?_
    refine r_iload1 hX dX0_moves_55 (q := 56) rfl ?_
    refine r_ialdN hX dX0_moves_56 (q := 57) rfl (ch_lay (j := 5) (by first | assumption | decide) (by decide) rfl) (by repeat' (first | assumption | with_reducible exact rfl | refine e_add ?_ ?_ | refine e_mul ?_ ?_)) (by first | assumption | omega) (by decide) ?_
    refine r_tabCase hX dX0_moves_57 1 ⟨by decide, by decide, by decide, rfl, (by decide : (57 : Int) + 39 = (96 : Nat))⟩ (fun h57_1 => ?_) (fun h57_1 => ?_)
    ·
      refine r_iload4 hX dX0_moves_96 (q := 98) rfl ?_
      refine r_iconst hX dX0_moves_98 (q := 99) rfl (v := nI 2) (by decide +kernel) ?_
      refine r_idiv hX dX0_moves_99 (q := 100) rfl (by first | decide +kernel | assumption) ?_
      refine r_iret hX hR dX0_moves_100 ?_
      -- leaf 8 at 100
      refine ⟨congrArg (fun z => some (Value.int z)) ?_, ?_⟩
      ·
        unfold movT movS
        rw [← e5, if_pos h57_1]
        simp only [mvS, e2, e3]
      · rfl
    refine r_tabCase hX dX0_moves_57 2 ⟨by decide, by decide, by decide, rfl, (by decide : (57 : Int) + 44 = (101 : Nat))⟩ (fun h57_2 => ?_) (fun h57_2 => ?_)
    ·
      refine r_iload4 hX dX0_moves_101 (q := 103) rfl ?_
      refine r_bipush hX dX0_moves_103 (q := 105) rfl (v := nI 8) (by decide +kernel) ?_
      refine r_isub hX dX0_moves_105 (q := 106) rfl ?_
      refine r_iret hX hR dX0_moves_106 ?_
      -- leaf 9 at 106
      refine ⟨congrArg (fun z => some (Value.int z)) ?_, ?_⟩
      ·
        unfold movT movS
        rw [← e5, if_neg h57_1, if_pos h57_2]
        simp only [mvS, e2, e3]
      · rfl
    refine r_tabCase hX dX0_moves_57 3 ⟨by decide, by decide, by decide, rfl, (by decide : (57 : Int) + 50 = (107 : Nat))⟩ (fun h57_3 => ?_) (fun h57_3 => ?_)
    ·
      refine r_iload4 hX dX0_moves_107 (q := 109) rfl ?_
      refine r_bipush hX dX0_moves_109 (q := 111) rfl (v := nI 8) (by decide +kernel) ?_
      refine r_isub hX dX0_moves_111 (q := 112) rfl ?_
      refine r_iconst hX dX0_moves_112 (q := 113) rfl (v := nI 2) (by decide +kernel) ?_
      refine r_iadd hX dX0_moves_113 (q := 114) rfl ?_
      refine r_iret hX hR dX0_moves_114 ?_
      -- leaf 10 at 114
      refine ⟨congrArg (fun z => some (Value.int z)) ?_, ?_⟩
      ·
        unfold movT movS
        rw [← e5, if_neg h57_1, if_neg h57_2, if_pos h57_3]
        simp only [mvS, e2, e3]
      · rfl
    refine r_tabCase hX dX0_moves_57 4 ⟨by decide, by decide, by decide, rfl, (by decide : (57 : Int) + 58 = (115 : Nat))⟩ (fun h57_4 => ?_) (fun h57_4 => ?_)
    ·
      refine r_iload5 hX dX0_moves_115 (q := 117) rfl ?_
      refine r_iret hX hR dX0_moves_117 ?_
      -- leaf 11 at 117
      refine ⟨congrArg (fun z => some (Value.int z)) ?_, ?_⟩
      ·
        unfold movT movS
        rw [← e5, if_neg h57_1, if_neg h57_2, if_neg h57_3, if_pos h57_4]
        rw [if_pos (by rw [← e8]; exact decide_eq_true h34)]
        simp only [mvS, e2, e3]
      · rfl
    refine r_tabCase hX dX0_moves_57 5 ⟨by decide, by decide, by decide, rfl, (by decide : (57 : Int) + 61 = (118 : Nat))⟩ (fun h57_5 => ?_) (fun h57_5 => ?_)
    ·
      refine r_iload5 hX dX0_moves_118 (q := 120) rfl ?_
      refine r_iconst hX dX0_moves_120 (q := 121) rfl (v := nI 2) (by decide +kernel) ?_
      refine r_iadd hX dX0_moves_121 (q := 122) rfl ?_
      refine r_iret hX hR dX0_moves_122 ?_
      -- leaf 12 at 122
      refine ⟨congrArg (fun z => some (Value.int z)) ?_, ?_⟩
      ·
        unfold movT movS
        rw [← e5, if_neg h57_1, if_neg h57_2, if_neg h57_3, if_neg h57_4, if_pos h57_5]
        rw [if_pos (by rw [← e8]; exact decide_eq_true h34)]
        simp only [mvS, e2, e3]
      · rfl
    refine r_tabCase hX dX0_moves_57 6 ⟨by decide, by decide, by decide, rfl, (by decide : (57 : Int) + 66 = (123 : Nat))⟩ (fun h57_6 => ?_) (fun h57_6 => ?_)
    ·
      refine r_iload2 hX dX0_moves_123 (q := 124) rfl ?_
      first | refine r_ifd_eq hX dX0_moves_124 (q := 127) rfl (tgt := 132) (by decide) (fun h124 => ?_) (fun h124 => ?_) | refine r_ifb_eq hX dX0_moves_124 (q := 127) rfl (tgt := 132) (by decide) (fun h124 => ?_) (fun h124 => ?_)
      ·
        refine r_iconst hX dX0_moves_132 (q := 133) rfl (v := nI 1) (by decide +kernel) ?_
        refine r_iret hX hR dX0_moves_133 ?_
        -- leaf 13 at 133
        refine ⟨congrArg (fun z => some (Value.int z)) ?_, ?_⟩
        ·
          unfold movT movS
          rw [← e5, if_neg h57_1, if_neg h57_2, if_neg h57_3, if_neg h57_4, if_neg h57_5, if_pos h57_6]
          rw [if_neg (by simp [h124])]
        · rfl
      ·
        refine r_bipush hX dX0_moves_127 (q := 129) rfl (v := (-10)) (by decide +kernel) ?_
        refine r_goto hX dX0_moves_129 (tgt := 133) (by decide) ?_
        refine r_iret hX hR dX0_moves_133 ?_
        -- leaf 14 at 133
        refine ⟨congrArg (fun z => some (Value.int z)) ?_, ?_⟩
        ·
          unfold movT movS
          rw [← e5, if_neg h57_1, if_neg h57_2, if_neg h57_3, if_neg h57_4, if_neg h57_5, if_pos h57_6]
          rw [if_pos h124]
        · rfl
    refine r_tabOut hX dX0_moves_57 (by have z1 := nI_neT h57_1 (by decide); have z2 := nI_neT h57_2 (by decide); have z3 := nI_neT h57_3 (by decide); have z4 := nI_neT h57_4 (by decide); have z5 := nI_neT h57_5 (by decide); have z6 := nI_neT h57_6 (by decide); omega) (tgt := 134) (by decide) ?_
    refine r_iload4 hX dX0_moves_134 (q := 136) rfl ?_
    refine r_iret hX hR dX0_moves_136 ?_
    -- leaf 15 at 136
    refine ⟨congrArg (fun z => some (Value.int z)) ?_, ?_⟩
    ·
      unfold movT movS
      rw [← e5, if_neg h57_1, if_neg h57_2, if_neg h57_3, if_neg h57_4, if_neg h57_5, if_neg h57_6]
      simp only [mvS, e2, e3]
    · rfl
end
