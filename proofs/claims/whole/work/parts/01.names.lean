-- ===== PART A: goes FIRST, ahead of the names: the tables' words, and 'selects' of the private methods out of them =====
/-- a private method of a class that the tables say can be made, by its rows of tables_1 -/
def lw_okq (q : MethodName × Nat) : Prop := (q.1.cls ≠ "java/lang/invoke/MethodHandle" ∧ q.1.cls ≠ "java/lang/invoke/VarHandle") ∧ Cond.instantiable q.1.cls q.2 ∈ tables_1 ∧ Cond.privateMethod q.1 ∈ tables_1 ∧ Cond.instanceMethod q.1 ∈ tables_1
theorem lw_p0 : lw_okq (⟨"WhiffCoins", "fail", "(I)I"⟩, 12) := ⟨⟨by decide +kernel, by decide +kernel⟩, List.mem_of_getElem? (i := 19) (by decide +kernel), List.mem_of_getElem? (i := 265) (by decide +kernel), List.mem_of_getElem? (i := 266) (by decide +kernel)⟩
theorem lw_p1 : lw_okq (⟨"WhiffCoins$Reader", "readChain", "(II)Z"⟩, 4) := ⟨⟨by decide +kernel, by decide +kernel⟩, List.mem_of_getElem? (i := 153) (by decide +kernel), List.mem_of_getElem? (i := 403) (by decide +kernel), List.mem_of_getElem? (i := 404) (by decide +kernel)⟩
theorem lw_p2 : lw_okq (⟨"WhiffCoins$Reader", "readPart", "(I)Z"⟩, 4) := ⟨⟨by decide +kernel, by decide +kernel⟩, List.mem_of_getElem? (i := 153) (by decide +kernel), List.mem_of_getElem? (i := 407) (by decide +kernel), List.mem_of_getElem? (i := 408) (by decide +kernel)⟩
theorem lw_p3 : lw_okq (⟨"WhiffCoins$Reader", "next", "()I"⟩, 4) := ⟨⟨by decide +kernel, by decide +kernel⟩, List.mem_of_getElem? (i := 153) (by decide +kernel), List.mem_of_getElem? (i := 411) (by decide +kernel), List.mem_of_getElem? (i := 412) (by decide +kernel)⟩
theorem lw_p4 : lw_okq (⟨"WhiffCoins$Reader", "readNumber", "()V"⟩, 4) := ⟨⟨by decide +kernel, by decide +kernel⟩, List.mem_of_getElem? (i := 153) (by decide +kernel), List.mem_of_getElem? (i := 420) (by decide +kernel), List.mem_of_getElem? (i := 421) (by decide +kernel)⟩
theorem lw_p5 : lw_okq (⟨"WhiffCoins$Reader", "readNot", "(I)Z"⟩, 4) := ⟨⟨by decide +kernel, by decide +kernel⟩, List.mem_of_getElem? (i := 153) (by decide +kernel), List.mem_of_getElem? (i := 425) (by decide +kernel), List.mem_of_getElem? (i := 426) (by decide +kernel)⟩
theorem lw_p6 : lw_okq (⟨"WhiffCoins$Reader", "readInner", "(I)Z"⟩, 4) := ⟨⟨by decide +kernel, by decide +kernel⟩, List.mem_of_getElem? (i := 153) (by decide +kernel), List.mem_of_getElem? (i := 429) (by decide +kernel), List.mem_of_getElem? (i := 430) (by decide +kernel)⟩
theorem lw_p7 : lw_okq (⟨"WhiffCoins$Reader", "nameOf", "(I)I"⟩, 4) := ⟨⟨by decide +kernel, by decide +kernel⟩, List.mem_of_getElem? (i := 153) (by decide +kernel), List.mem_of_getElem? (i := 433) (by decide +kernel), List.mem_of_getElem? (i := 434) (by decide +kernel)⟩
theorem lw_p8 : lw_okq (⟨"WhiffCoins$Market", "rowAfterSale", "(II)I"⟩, 14) := ⟨⟨by decide +kernel, by decide +kernel⟩, List.mem_of_getElem? (i := 27) (by decide +kernel), List.mem_of_getElem? (i := 600) (by decide +kernel), List.mem_of_getElem? (i := 601) (by decide +kernel)⟩
theorem lw_p9 : lw_okq (⟨"WhiffCoins$Market", "mingle", "(I)V"⟩, 14) := ⟨⟨by decide +kernel, by decide +kernel⟩, List.mem_of_getElem? (i := 27) (by decide +kernel), List.mem_of_getElem? (i := 622) (by decide +kernel), List.mem_of_getElem? (i := 623) (by decide +kernel)⟩
theorem lw_p10 : lw_okq (⟨"WhiffCoins$Market", "draw", "()I"⟩, 14) := ⟨⟨by decide +kernel, by decide +kernel⟩, List.mem_of_getElem? (i := 27) (by decide +kernel), List.mem_of_getElem? (i := 644) (by decide +kernel), List.mem_of_getElem? (i := 645) (by decide +kernel)⟩
theorem lw_p11 : lw_okq (⟨"WhiffCoins", "areTwoTraders", "(II)Z"⟩, 12) := ⟨⟨by decide +kernel, by decide +kernel⟩, List.mem_of_getElem? (i := 19) (by decide +kernel), List.mem_of_getElem? (i := 655) (by decide +kernel), List.mem_of_getElem? (i := 656) (by decide +kernel)⟩
theorem lw_p12 : lw_okq (⟨"WhiffCoins$Thoughts", "worthOfSet", "(I)I"⟩, 5) := ⟨⟨by decide +kernel, by decide +kernel⟩, List.mem_of_getElem? (i := 127) (by decide +kernel), List.mem_of_getElem? (i := 688) (by decide +kernel), List.mem_of_getElem? (i := 689) (by decide +kernel)⟩
theorem lw_p13 : lw_okq (⟨"WhiffCoins$Thoughts", "find", "(III)V"⟩, 5) := ⟨⟨by decide +kernel, by decide +kernel⟩, List.mem_of_getElem? (i := 127) (by decide +kernel), List.mem_of_getElem? (i := 711) (by decide +kernel), List.mem_of_getElem? (i := 712) (by decide +kernel)⟩
theorem lw_p14 : lw_okq (⟨"WhiffCoins$Thoughts", "isSoldAlong", "(I)Z"⟩, 5) := ⟨⟨by decide +kernel, by decide +kernel⟩, List.mem_of_getElem? (i := 127) (by decide +kernel), List.mem_of_getElem? (i := 716) (by decide +kernel), List.mem_of_getElem? (i := 717) (by decide +kernel)⟩
theorem lw_p15 : lw_okq (⟨"WhiffCoins$Thoughts", "areHandsOf", "(LWhiffCoins$Market;I)Z"⟩, 5) := ⟨⟨by decide +kernel, by decide +kernel⟩, List.mem_of_getElem? (i := 127) (by decide +kernel), List.mem_of_getElem? (i := 736) (by decide +kernel), List.mem_of_getElem? (i := 737) (by decide +kernel)⟩
def lw_privs_1 : List (MethodName × Nat) := [(⟨"WhiffCoins", "fail", "(I)I"⟩, 12), (⟨"WhiffCoins$Reader", "readChain", "(II)Z"⟩, 4), (⟨"WhiffCoins$Reader", "readPart", "(I)Z"⟩, 4), (⟨"WhiffCoins$Reader", "next", "()I"⟩, 4), (⟨"WhiffCoins$Reader", "readNumber", "()V"⟩, 4), (⟨"WhiffCoins$Reader", "readNot", "(I)Z"⟩, 4), (⟨"WhiffCoins$Reader", "readInner", "(I)Z"⟩, 4), (⟨"WhiffCoins$Reader", "nameOf", "(I)I"⟩, 4), (⟨"WhiffCoins$Market", "rowAfterSale", "(II)I"⟩, 14), (⟨"WhiffCoins$Market", "mingle", "(I)V"⟩, 14), (⟨"WhiffCoins$Market", "draw", "()I"⟩, 14), (⟨"WhiffCoins", "areTwoTraders", "(II)Z"⟩, 12), (⟨"WhiffCoins$Thoughts", "worthOfSet", "(I)I"⟩, 5), (⟨"WhiffCoins$Thoughts", "find", "(III)V"⟩, 5), (⟨"WhiffCoins$Thoughts", "isSoldAlong", "(I)Z"⟩, 5), (⟨"WhiffCoins$Thoughts", "areHandsOf", "(LWhiffCoins$Market;I)Z"⟩, 5)]
theorem lw_r1 : ∀ q ∈ lw_privs_1, lw_okq q := List.forall_mem_cons.mpr ⟨lw_p0, List.forall_mem_cons.mpr ⟨lw_p1, List.forall_mem_cons.mpr ⟨lw_p2, List.forall_mem_cons.mpr ⟨lw_p3, List.forall_mem_cons.mpr ⟨lw_p4, List.forall_mem_cons.mpr ⟨lw_p5, List.forall_mem_cons.mpr ⟨lw_p6, List.forall_mem_cons.mpr ⟨lw_p7, List.forall_mem_cons.mpr ⟨lw_p8, List.forall_mem_cons.mpr ⟨lw_p9, List.forall_mem_cons.mpr ⟨lw_p10, List.forall_mem_cons.mpr ⟨lw_p11, List.forall_mem_cons.mpr ⟨lw_p12, List.forall_mem_cons.mpr ⟨lw_p13, List.forall_mem_cons.mpr ⟨lw_p14, List.forall_mem_cons.mpr ⟨lw_p15, fun _ h => absurd h List.not_mem_nil⟩⟩⟩⟩⟩⟩⟩⟩⟩⟩⟩⟩⟩⟩⟩⟩
theorem lw_p16 : lw_okq (⟨"WhiffCoins$Thoughts", "isPassedOn", "(I)Z"⟩, 5) := ⟨⟨by decide +kernel, by decide +kernel⟩, List.mem_of_getElem? (i := 127) (by decide +kernel), List.mem_of_getElem? (i := 748) (by decide +kernel), List.mem_of_getElem? (i := 749) (by decide +kernel)⟩
theorem lw_p17 : lw_okq (⟨"WhiffCoins$Market", "strengthInAll", "(I)I"⟩, 14) := ⟨⟨by decide +kernel, by decide +kernel⟩, List.mem_of_getElem? (i := 27) (by decide +kernel), List.mem_of_getElem? (i := 760) (by decide +kernel), List.mem_of_getElem? (i := 761) (by decide +kernel)⟩
theorem lw_p18 : lw_okq (⟨"WhiffCoins$Voices", "heard", "(IIII)I"⟩, 4) := ⟨⟨by decide +kernel, by decide +kernel⟩, List.mem_of_getElem? (i := 175) (by decide +kernel), List.mem_of_getElem? (i := 817) (by decide +kernel), List.mem_of_getElem? (i := 818) (by decide +kernel)⟩
theorem lw_p19 : lw_okq (⟨"WhiffCoins", "sheetAt", "(I)LWhiffCoins$Sheet;"⟩, 12) := ⟨⟨by decide +kernel, by decide +kernel⟩, List.mem_of_getElem? (i := 19) (by decide +kernel), List.mem_of_getElem? (i := 839) (by decide +kernel), List.mem_of_getElem? (i := 840) (by decide +kernel)⟩
theorem lw_p20 : lw_okq (⟨"WhiffCoinsModel", "finds", "(I)I"⟩, 20) := ⟨⟨by decide +kernel, by decide +kernel⟩, List.mem_of_getElem? (i := 917) (by decide +kernel), List.mem_of_getElem? (i := 992) (by decide +kernel), List.mem_of_getElem? (i := 993) (by decide +kernel)⟩
theorem lw_p21 : lw_okq (⟨"WhiffCoinsModel", "worked", "(III)I"⟩, 20) := ⟨⟨by decide +kernel, by decide +kernel⟩, List.mem_of_getElem? (i := 917) (by decide +kernel), List.mem_of_getElem? (i := 1002) (by decide +kernel), List.mem_of_getElem? (i := 1003) (by decide +kernel)⟩
theorem lw_p22 : lw_okq (⟨"WhiffCoinsModel", "either", "()I"⟩, 20) := ⟨⟨by decide +kernel, by decide +kernel⟩, List.mem_of_getElem? (i := 917) (by decide +kernel), List.mem_of_getElem? (i := 1006) (by decide +kernel), List.mem_of_getElem? (i := 1007) (by decide +kernel)⟩
theorem lw_p23 : lw_okq (⟨"WhiffCoinsModel", "both", "()I"⟩, 20) := ⟨⟨by decide +kernel, by decide +kernel⟩, List.mem_of_getElem? (i := 917) (by decide +kernel), List.mem_of_getElem? (i := 1010) (by decide +kernel), List.mem_of_getElem? (i := 1011) (by decide +kernel)⟩
theorem lw_p24 : lw_okq (⟨"WhiffCoinsModel", "compared", "()I"⟩, 20) := ⟨⟨by decide +kernel, by decide +kernel⟩, List.mem_of_getElem? (i := 917) (by decide +kernel), List.mem_of_getElem? (i := 1014) (by decide +kernel), List.mem_of_getElem? (i := 1015) (by decide +kernel)⟩
theorem lw_p25 : lw_okq (⟨"WhiffCoinsModel", "sum", "()I"⟩, 20) := ⟨⟨by decide +kernel, by decide +kernel⟩, List.mem_of_getElem? (i := 917) (by decide +kernel), List.mem_of_getElem? (i := 1018) (by decide +kernel), List.mem_of_getElem? (i := 1019) (by decide +kernel)⟩
theorem lw_p26 : lw_okq (⟨"WhiffCoinsModel", "product", "()I"⟩, 20) := ⟨⟨by decide +kernel, by decide +kernel⟩, List.mem_of_getElem? (i := 917) (by decide +kernel), List.mem_of_getElem? (i := 1022) (by decide +kernel), List.mem_of_getElem? (i := 1023) (by decide +kernel)⟩
theorem lw_p27 : lw_okq (⟨"WhiffCoinsModel", "unit", "()I"⟩, 20) := ⟨⟨by decide +kernel, by decide +kernel⟩, List.mem_of_getElem? (i := 917) (by decide +kernel), List.mem_of_getElem? (i := 1026) (by decide +kernel), List.mem_of_getElem? (i := 1027) (by decide +kernel)⟩
theorem lw_p28 : lw_okq (⟨"WhiffCoinsModel", "here", "()I"⟩, 20) := ⟨⟨by decide +kernel, by decide +kernel⟩, List.mem_of_getElem? (i := 917) (by decide +kernel), List.mem_of_getElem? (i := 1030) (by decide +kernel), List.mem_of_getElem? (i := 1031) (by decide +kernel)⟩
theorem lw_p29 : lw_okq (⟨"WhiffCoinsModel", "wrong", "()I"⟩, 20) := ⟨⟨by decide +kernel, by decide +kernel⟩, List.mem_of_getElem? (i := 917) (by decide +kernel), List.mem_of_getElem? (i := 1034) (by decide +kernel), List.mem_of_getElem? (i := 1035) (by decide +kernel)⟩
theorem lw_p30 : lw_okq (⟨"WhiffCoinsModel", "takes", "(I)Z"⟩, 20) := ⟨⟨by decide +kernel, by decide +kernel⟩, List.mem_of_getElem? (i := 917) (by decide +kernel), List.mem_of_getElem? (i := 1038) (by decide +kernel), List.mem_of_getElem? (i := 1039) (by decide +kernel)⟩
theorem lw_p31 : lw_okq (⟨"WhiffCoinsModel", "nameOf", "(I)I"⟩, 20) := ⟨⟨by decide +kernel, by decide +kernel⟩, List.mem_of_getElem? (i := 917) (by decide +kernel), List.mem_of_getElem? (i := 1042) (by decide +kernel), List.mem_of_getElem? (i := 1043) (by decide +kernel)⟩
def lw_privs_2 : List (MethodName × Nat) := [(⟨"WhiffCoins$Thoughts", "isPassedOn", "(I)Z"⟩, 5), (⟨"WhiffCoins$Market", "strengthInAll", "(I)I"⟩, 14), (⟨"WhiffCoins$Voices", "heard", "(IIII)I"⟩, 4), (⟨"WhiffCoins", "sheetAt", "(I)LWhiffCoins$Sheet;"⟩, 12), (⟨"WhiffCoinsModel", "finds", "(I)I"⟩, 20), (⟨"WhiffCoinsModel", "worked", "(III)I"⟩, 20), (⟨"WhiffCoinsModel", "either", "()I"⟩, 20), (⟨"WhiffCoinsModel", "both", "()I"⟩, 20), (⟨"WhiffCoinsModel", "compared", "()I"⟩, 20), (⟨"WhiffCoinsModel", "sum", "()I"⟩, 20), (⟨"WhiffCoinsModel", "product", "()I"⟩, 20), (⟨"WhiffCoinsModel", "unit", "()I"⟩, 20), (⟨"WhiffCoinsModel", "here", "()I"⟩, 20), (⟨"WhiffCoinsModel", "wrong", "()I"⟩, 20), (⟨"WhiffCoinsModel", "takes", "(I)Z"⟩, 20), (⟨"WhiffCoinsModel", "nameOf", "(I)I"⟩, 20)]
theorem lw_r2 : ∀ q ∈ lw_privs_2, lw_okq q := List.forall_mem_cons.mpr ⟨lw_p16, List.forall_mem_cons.mpr ⟨lw_p17, List.forall_mem_cons.mpr ⟨lw_p18, List.forall_mem_cons.mpr ⟨lw_p19, List.forall_mem_cons.mpr ⟨lw_p20, List.forall_mem_cons.mpr ⟨lw_p21, List.forall_mem_cons.mpr ⟨lw_p22, List.forall_mem_cons.mpr ⟨lw_p23, List.forall_mem_cons.mpr ⟨lw_p24, List.forall_mem_cons.mpr ⟨lw_p25, List.forall_mem_cons.mpr ⟨lw_p26, List.forall_mem_cons.mpr ⟨lw_p27, List.forall_mem_cons.mpr ⟨lw_p28, List.forall_mem_cons.mpr ⟨lw_p29, List.forall_mem_cons.mpr ⟨lw_p30, List.forall_mem_cons.mpr ⟨lw_p31, fun _ h => absurd h List.not_mem_nil⟩⟩⟩⟩⟩⟩⟩⟩⟩⟩⟩⟩⟩⟩⟩⟩
theorem lw_p32 : lw_okq (⟨"WhiffCoinsModel", "textGives", "(IIII)I"⟩, 20) := ⟨⟨by decide +kernel, by decide +kernel⟩, List.mem_of_getElem? (i := 917) (by decide +kernel), List.mem_of_getElem? (i := 1052) (by decide +kernel), List.mem_of_getElem? (i := 1053) (by decide +kernel)⟩
theorem lw_p33 : lw_okq (⟨"WhiffCoinsModel", "isTrader", "(I)Z"⟩, 20) := ⟨⟨by decide +kernel, by decide +kernel⟩, List.mem_of_getElem? (i := 917) (by decide +kernel), List.mem_of_getElem? (i := 1064) (by decide +kernel), List.mem_of_getElem? (i := 1065) (by decide +kernel)⟩
theorem lw_p34 : lw_okq (⟨"WhiffCoinsModel", "isCoin", "(I)Z"⟩, 20) := ⟨⟨by decide +kernel, by decide +kernel⟩, List.mem_of_getElem? (i := 917) (by decide +kernel), List.mem_of_getElem? (i := 1072) (by decide +kernel), List.mem_of_getElem? (i := 1073) (by decide +kernel)⟩
theorem lw_p35 : lw_okq (⟨"WhiffCoinsModel", "its", "(II)I"⟩, 20) := ⟨⟨by decide +kernel, by decide +kernel⟩, List.mem_of_getElem? (i := 917) (by decide +kernel), List.mem_of_getElem? (i := 1077) (by decide +kernel), List.mem_of_getElem? (i := 1078) (by decide +kernel)⟩
theorem lw_p36 : lw_okq (⟨"WhiffCoinsModel", "smells", "(I)I"⟩, 20) := ⟨⟨by decide +kernel, by decide +kernel⟩, List.mem_of_getElem? (i := 917) (by decide +kernel), List.mem_of_getElem? (i := 1081) (by decide +kernel), List.mem_of_getElem? (i := 1082) (by decide +kernel)⟩
theorem lw_p37 : lw_okq (⟨"WhiffCoinsModel", "rowOf", "(I)I"⟩, 20) := ⟨⟨by decide +kernel, by decide +kernel⟩, List.mem_of_getElem? (i := 917) (by decide +kernel), List.mem_of_getElem? (i := 1085) (by decide +kernel), List.mem_of_getElem? (i := 1086) (by decide +kernel)⟩
theorem lw_p38 : lw_okq (⟨"WhiffCoinsModel", "of", "(II)I"⟩, 20) := ⟨⟨by decide +kernel, by decide +kernel⟩, List.mem_of_getElem? (i := 917) (by decide +kernel), List.mem_of_getElem? (i := 1111) (by decide +kernel), List.mem_of_getElem? (i := 1112) (by decide +kernel)⟩
theorem lw_p39 : lw_okq (⟨"WhiffCoinsModel", "holds", "(I)I"⟩, 20) := ⟨⟨by decide +kernel, by decide +kernel⟩, List.mem_of_getElem? (i := 917) (by decide +kernel), List.mem_of_getElem? (i := 1115) (by decide +kernel), List.mem_of_getElem? (i := 1116) (by decide +kernel)⟩
theorem lw_p40 : lw_okq (⟨"WhiffCoinsModel", "worthOf", "(II)I"⟩, 20) := ⟨⟨by decide +kernel, by decide +kernel⟩, List.mem_of_getElem? (i := 917) (by decide +kernel), List.mem_of_getElem? (i := 1141) (by decide +kernel), List.mem_of_getElem? (i := 1142) (by decide +kernel)⟩
theorem lw_p41 : lw_okq (⟨"WhiffCoinsModel", "takes", "(II)Z"⟩, 20) := ⟨⟨by decide +kernel, by decide +kernel⟩, List.mem_of_getElem? (i := 917) (by decide +kernel), List.mem_of_getElem? (i := 1149) (by decide +kernel), List.mem_of_getElem? (i := 1150) (by decide +kernel)⟩
theorem lw_p42 : lw_okq (⟨"WhiffCoinsModel", "sells", "(II)V"⟩, 20) := ⟨⟨by decide +kernel, by decide +kernel⟩, List.mem_of_getElem? (i := 917) (by decide +kernel), List.mem_of_getElem? (i := 1153) (by decide +kernel), List.mem_of_getElem? (i := 1154) (by decide +kernel)⟩
theorem lw_p43 : lw_okq (⟨"WhiffCoinsModel", "daysGo", "(I)V"⟩, 20) := ⟨⟨by decide +kernel, by decide +kernel⟩, List.mem_of_getElem? (i := 917) (by decide +kernel), List.mem_of_getElem? (i := 1162) (by decide +kernel), List.mem_of_getElem? (i := 1163) (by decide +kernel)⟩
theorem lw_p44 : lw_okq (⟨"WhiffCoinsModel", "dayGoes", "()V"⟩, 20) := ⟨⟨by decide +kernel, by decide +kernel⟩, List.mem_of_getElem? (i := 917) (by decide +kernel), List.mem_of_getElem? (i := 1166) (by decide +kernel), List.mem_of_getElem? (i := 1167) (by decide +kernel)⟩
theorem lw_p45 : lw_okq (⟨"WhiffCoinsModel", "mingles", "(I)V"⟩, 20) := ⟨⟨by decide +kernel, by decide +kernel⟩, List.mem_of_getElem? (i := 917) (by decide +kernel), List.mem_of_getElem? (i := 1170) (by decide +kernel), List.mem_of_getElem? (i := 1171) (by decide +kernel)⟩
theorem lw_p46 : lw_okq (⟨"WhiffCoinsModel", "allSmells", "()I"⟩, 20) := ⟨⟨by decide +kernel, by decide +kernel⟩, List.mem_of_getElem? (i := 917) (by decide +kernel), List.mem_of_getElem? (i := 1174) (by decide +kernel), List.mem_of_getElem? (i := 1175) (by decide +kernel)⟩
theorem lw_p47 : lw_okq (⟨"WhiffCoinsModel", "drawn", "()I"⟩, 20) := ⟨⟨by decide +kernel, by decide +kernel⟩, List.mem_of_getElem? (i := 917) (by decide +kernel), List.mem_of_getElem? (i := 1183) (by decide +kernel), List.mem_of_getElem? (i := 1184) (by decide +kernel)⟩
def lw_privs_3 : List (MethodName × Nat) := [(⟨"WhiffCoinsModel", "textGives", "(IIII)I"⟩, 20), (⟨"WhiffCoinsModel", "isTrader", "(I)Z"⟩, 20), (⟨"WhiffCoinsModel", "isCoin", "(I)Z"⟩, 20), (⟨"WhiffCoinsModel", "its", "(II)I"⟩, 20), (⟨"WhiffCoinsModel", "smells", "(I)I"⟩, 20), (⟨"WhiffCoinsModel", "rowOf", "(I)I"⟩, 20), (⟨"WhiffCoinsModel", "of", "(II)I"⟩, 20), (⟨"WhiffCoinsModel", "holds", "(I)I"⟩, 20), (⟨"WhiffCoinsModel", "worthOf", "(II)I"⟩, 20), (⟨"WhiffCoinsModel", "takes", "(II)Z"⟩, 20), (⟨"WhiffCoinsModel", "sells", "(II)V"⟩, 20), (⟨"WhiffCoinsModel", "daysGo", "(I)V"⟩, 20), (⟨"WhiffCoinsModel", "dayGoes", "()V"⟩, 20), (⟨"WhiffCoinsModel", "mingles", "(I)V"⟩, 20), (⟨"WhiffCoinsModel", "allSmells", "()I"⟩, 20), (⟨"WhiffCoinsModel", "drawn", "()I"⟩, 20)]
theorem lw_r3 : ∀ q ∈ lw_privs_3, lw_okq q := List.forall_mem_cons.mpr ⟨lw_p32, List.forall_mem_cons.mpr ⟨lw_p33, List.forall_mem_cons.mpr ⟨lw_p34, List.forall_mem_cons.mpr ⟨lw_p35, List.forall_mem_cons.mpr ⟨lw_p36, List.forall_mem_cons.mpr ⟨lw_p37, List.forall_mem_cons.mpr ⟨lw_p38, List.forall_mem_cons.mpr ⟨lw_p39, List.forall_mem_cons.mpr ⟨lw_p40, List.forall_mem_cons.mpr ⟨lw_p41, List.forall_mem_cons.mpr ⟨lw_p42, List.forall_mem_cons.mpr ⟨lw_p43, List.forall_mem_cons.mpr ⟨lw_p44, List.forall_mem_cons.mpr ⟨lw_p45, List.forall_mem_cons.mpr ⟨lw_p46, List.forall_mem_cons.mpr ⟨lw_p47, fun _ h => absurd h List.not_mem_nil⟩⟩⟩⟩⟩⟩⟩⟩⟩⟩⟩⟩⟩⟩⟩⟩
theorem lw_p48 : lw_okq (⟨"WhiffCoinsModel", "isLaundry", "(IIII)Z"⟩, 20) := ⟨⟨by decide +kernel, by decide +kernel⟩, List.mem_of_getElem? (i := 917) (by decide +kernel), List.mem_of_getElem? (i := 1206) (by decide +kernel), List.mem_of_getElem? (i := 1207) (by decide +kernel)⟩
theorem lw_p49 : lw_okq (⟨"WhiffCoinsModel", "keepAside", "()V"⟩, 20) := ⟨⟨by decide +kernel, by decide +kernel⟩, List.mem_of_getElem? (i := 917) (by decide +kernel), List.mem_of_getElem? (i := 1210) (by decide +kernel), List.mem_of_getElem? (i := 1211) (by decide +kernel)⟩
theorem lw_p50 : lw_okq (⟨"WhiffCoinsModel", "putBack", "()V"⟩, 20) := ⟨⟨by decide +kernel, by decide +kernel⟩, List.mem_of_getElem? (i := 917) (by decide +kernel), List.mem_of_getElem? (i := 1214) (by decide +kernel), List.mem_of_getElem? (i := 1215) (by decide +kernel)⟩
theorem lw_p51 : lw_okq (⟨"WhiffCoinsModel", "takersNow", "(I)I"⟩, 20) := ⟨⟨by decide +kernel, by decide +kernel⟩, List.mem_of_getElem? (i := 917) (by decide +kernel), List.mem_of_getElem? (i := 1234) (by decide +kernel), List.mem_of_getElem? (i := 1235) (by decide +kernel)⟩
theorem lw_p52 : lw_okq (⟨"WhiffCoinsModel", "sniffsBy", "(II)I"⟩, 20) := ⟨⟨by decide +kernel, by decide +kernel⟩, List.mem_of_getElem? (i := 917) (by decide +kernel), List.mem_of_getElem? (i := 1254) (by decide +kernel), List.mem_of_getElem? (i := 1255) (by decide +kernel)⟩
theorem lw_p53 : lw_okq (⟨"WhiffCoinsModel", "ran", "(I)V"⟩, 20) := ⟨⟨by decide +kernel, by decide +kernel⟩, List.mem_of_getElem? (i := 917) (by decide +kernel), List.mem_of_getElem? (i := 1258) (by decide +kernel), List.mem_of_getElem? (i := 1259) (by decide +kernel)⟩
theorem lw_p54 : lw_okq (⟨"WhiffCoinsModel", "sellsBy", "(II)I"⟩, 20) := ⟨⟨by decide +kernel, by decide +kernel⟩, List.mem_of_getElem? (i := 917) (by decide +kernel), List.mem_of_getElem? (i := 1262) (by decide +kernel), List.mem_of_getElem? (i := 1263) (by decide +kernel)⟩
theorem lw_p55 : lw_okq (⟨"WhiffCoinsModel", "takesBy", "(II)I"⟩, 20) := ⟨⟨by decide +kernel, by decide +kernel⟩, List.mem_of_getElem? (i := 917) (by decide +kernel), List.mem_of_getElem? (i := 1266) (by decide +kernel), List.mem_of_getElem? (i := 1267) (by decide +kernel)⟩
theorem lw_p56 : lw_okq (⟨"WhiffCoinsModel", "tellsBy", "(II)I"⟩, 20) := ⟨⟨by decide +kernel, by decide +kernel⟩, List.mem_of_getElem? (i := 917) (by decide +kernel), List.mem_of_getElem? (i := 1270) (by decide +kernel), List.mem_of_getElem? (i := 1271) (by decide +kernel)⟩
def lw_privs_4 : List (MethodName × Nat) := [(⟨"WhiffCoinsModel", "isLaundry", "(IIII)Z"⟩, 20), (⟨"WhiffCoinsModel", "keepAside", "()V"⟩, 20), (⟨"WhiffCoinsModel", "putBack", "()V"⟩, 20), (⟨"WhiffCoinsModel", "takersNow", "(I)I"⟩, 20), (⟨"WhiffCoinsModel", "sniffsBy", "(II)I"⟩, 20), (⟨"WhiffCoinsModel", "ran", "(I)V"⟩, 20), (⟨"WhiffCoinsModel", "sellsBy", "(II)I"⟩, 20), (⟨"WhiffCoinsModel", "takesBy", "(II)I"⟩, 20), (⟨"WhiffCoinsModel", "tellsBy", "(II)I"⟩, 20)]
theorem lw_r4 : ∀ q ∈ lw_privs_4, lw_okq q := List.forall_mem_cons.mpr ⟨lw_p48, List.forall_mem_cons.mpr ⟨lw_p49, List.forall_mem_cons.mpr ⟨lw_p50, List.forall_mem_cons.mpr ⟨lw_p51, List.forall_mem_cons.mpr ⟨lw_p52, List.forall_mem_cons.mpr ⟨lw_p53, List.forall_mem_cons.mpr ⟨lw_p54, List.forall_mem_cons.mpr ⟨lw_p55, List.forall_mem_cons.mpr ⟨lw_p56, fun _ h => absurd h List.not_mem_nil⟩⟩⟩⟩⟩⟩⟩⟩⟩
def lw_privs : List (MethodName × Nat) := lw_privs_1 ++ (lw_privs_2 ++ (lw_privs_3 ++ (lw_privs_4)))
def lw_tbl : List Cond := k2_sels lw_privs ++ tables_1
theorem lw_privs_ok : ∀ q ∈ lw_privs, lw_okq q := by
  show ∀ q ∈ lw_privs_1 ++ (lw_privs_2 ++ (lw_privs_3 ++ (lw_privs_4))), lw_okq q
  exact List.forall_mem_append.mpr ⟨lw_r1, List.forall_mem_append.mpr ⟨lw_r2, List.forall_mem_append.mpr ⟨lw_r3, lw_r4⟩⟩⟩
def RX0 : String := "WhiffCoins$Law"
def TX0 : u_T := fun k => match k with
  | 0 => ("WhiffCoins$Law", "code", "LWhiffCoins$Numbers;", true)
  | _ => ("WhiffCoins$Law", "stack", "LWhiffCoins$Numbers;", true)
def tyX0 : Nat → FieldType := fun k => match k with
  | 0 => .object "WhiffCoins$Numbers"
  | _ => .object "WhiffCoins$Numbers"
abbrev wsX00 : List Cond := u_ws RX0 TX0 2
theorem nmX0 : ∀ a, a < 2 → ∀ b, b < 2 → a ≠ b → (TX0 a).2.1 ≠ (TX0 b).2.1 := by decide +kernel
theorem tyX0_ok : ∀ k, k < 2 → parseFieldDescriptor (TX0 k).2.2.1 = some (tyX0 k) := by decide +kernel
abbrev cX0_init : ByteArray := prog_2_method_1_code
def yX0_init : MethodName := ⟨RX0, "<init>", "()V"⟩
abbrev cX0_isThere : ByteArray := prog_2_method_2_code
def yX0_isThere : MethodName := ⟨RX0, "isThere", "()Z"⟩
abbrev cX0_workOut : ByteArray := prog_2_method_3_code
def yX0_workOut : MethodName := ⟨RX0, "workOut", "(III)I"⟩
abbrev cX0_joined : ByteArray := prog_2_method_4_code
def yX0_joined : MethodName := ⟨RX0, "joined", "(III)I"⟩
def RX1 : String := "WhiffCoins$Market"
def TX1 : u_T := fun k => match k with
  | 0 => ("WhiffCoins$Market", "kinds", "LWhiffCoins$Numbers;", true)
  | 1 => ("WhiffCoins$Market", "marks", "LWhiffCoins$Numbers;", true)
  | 2 => ("WhiffCoins$Market", "wares", "LWhiffCoins$Numbers;", true)
  | 3 => ("WhiffCoins$Market", "asked", "LWhiffCoins$Numbers;", true)
  | 4 => ("WhiffCoins$Market", "likes", "LWhiffCoins$Numbers;", true)
  | 5 => ("WhiffCoins$Market", "values", "LWhiffCoins$Numbers;", true)
  | 6 => ("WhiffCoins$Market", "holders", "LWhiffCoins$Numbers;", true)
  | 7 => ("WhiffCoins$Market", "rows", "LWhiffCoins$Numbers;", true)
  | 8 => ("WhiffCoins$Market", "worthLaw", "LWhiffCoins$Law;", true)
  | 9 => ("WhiffCoins$Market", "tollLaw", "LWhiffCoins$Law;", true)
  | 10 => ("WhiffCoins$Market", "day", "I", false)
  | 11 => ("WhiffCoins$Market", "fade", "I", false)
  | 12 => ("WhiffCoins$Market", "sales", "I", false)
  | _ => ("WhiffCoins$Market", "z", "I", false)
def tyX1 : Nat → FieldType := fun k => match k with
  | 0 => .object "WhiffCoins$Numbers"
  | 1 => .object "WhiffCoins$Numbers"
  | 2 => .object "WhiffCoins$Numbers"
  | 3 => .object "WhiffCoins$Numbers"
  | 4 => .object "WhiffCoins$Numbers"
  | 5 => .object "WhiffCoins$Numbers"
  | 6 => .object "WhiffCoins$Numbers"
  | 7 => .object "WhiffCoins$Numbers"
  | 8 => .object "WhiffCoins$Law"
  | 9 => .object "WhiffCoins$Law"
  | 10 => .int
  | 11 => .int
  | 12 => .int
  | _ => .int
abbrev wsX10 : List Cond := u_ws RX1 TX1 14
theorem nmX1 : ∀ a, a < 14 → ∀ b, b < 14 → a ≠ b → (TX1 a).2.1 ≠ (TX1 b).2.1 := by decide +kernel
theorem tyX1_ok : ∀ k, k < 14 → parseFieldDescriptor (TX1 k).2.2.1 = some (tyX1 k) := by decide +kernel
abbrev cX1_init : ByteArray := prog_3_method_1_code
def yX1_init : MethodName := ⟨RX1, "<init>", "()V"⟩
abbrev cX1_copy : ByteArray := prog_3_method_2_code
def yX1_copy : MethodName := ⟨RX1, "copy", "(LWhiffCoins$Market;)V"⟩
abbrev cX1_traders : ByteArray := prog_3_method_3_code
def yX1_traders : MethodName := ⟨RX1, "traders", "()I"⟩
abbrev cX1_coins : ByteArray := prog_3_method_4_code
def yX1_coins : MethodName := ⟨RX1, "coins", "()I"⟩
abbrev cX1_hasTrader : ByteArray := prog_3_method_5_code
def yX1_hasTrader : MethodName := ⟨RX1, "hasTrader", "(I)Z"⟩
abbrev cX1_hasCoin : ByteArray := prog_3_method_6_code
def yX1_hasCoin : MethodName := ⟨RX1, "hasCoin", "(I)Z"⟩
abbrev cX1_addTrader : ByteArray := prog_3_method_7_code
def yX1_addTrader : MethodName := ⟨RX1, "addTrader", "(II)I"⟩
abbrev cX1_addCoin : ByteArray := prog_3_method_8_code
def yX1_addCoin : MethodName := ⟨RX1, "addCoin", "(II)I"⟩
abbrev cX1_holds : ByteArray := prog_3_method_9_code
def yX1_holds : MethodName := ⟨RX1, "holds", "(II)Z"⟩
abbrev cX1_heldBy : ByteArray := prog_3_method_10_code
def yX1_heldBy : MethodName := ⟨RX1, "heldBy", "(I)I"⟩
abbrev cX1_smellsOfAll : ByteArray := prog_3_method_11_code
def yX1_smellsOfAll : MethodName := ⟨RX1, "smellsOfAll", "()I"⟩
abbrev cX1_lawOf : ByteArray := prog_3_method_12_code
def yX1_lawOf : MethodName := ⟨RX1, "lawOf", "(I)LWhiffCoins$Law;"⟩
abbrev cX1_given : ByteArray := prog_3_method_13_code
def yX1_given : MethodName := ⟨RX1, "given", "(IIII)I"⟩
abbrev cX1_appraise : ByteArray := prog_3_method_14_code
def yX1_appraise : MethodName := ⟨RX1, "appraise", "(II)I"⟩
abbrev cX1_wouldTake : ByteArray := prog_3_method_15_code
def yX1_wouldTake : MethodName := ⟨RX1, "wouldTake", "(II)Z"⟩
abbrev cX1_sell : ByteArray := prog_3_method_16_code
def yX1_sell : MethodName := ⟨RX1, "sell", "(II)Z"⟩
abbrev cX1_rowAfterSale : ByteArray := prog_3_method_17_code
def yX1_rowAfterSale : MethodName := ⟨RX1, "rowAfterSale", "(II)I"⟩
abbrev cX1_passDays : ByteArray := prog_3_method_18_code
def yX1_passDays : MethodName := ⟨RX1, "passDays", "(I)V"⟩
abbrev cX1_passDay : ByteArray := prog_3_method_19_code
def yX1_passDay : MethodName := ⟨RX1, "passDay", "()V"⟩
abbrev cX1_mingle : ByteArray := prog_3_method_20_code
def yX1_mingle : MethodName := ⟨RX1, "mingle", "(I)V"⟩
abbrev cX1_offerByDraws : ByteArray := prog_3_method_21_code
def yX1_offerByDraws : MethodName := ⟨RX1, "offerByDraws", "()V"⟩
abbrev cX1_draw : ByteArray := prog_3_method_22_code
def yX1_draw : MethodName := ⟨RX1, "draw", "()I"⟩
abbrev cX1_tollToday : ByteArray := prog_3_method_23_code
def yX1_tollToday : MethodName := ⟨RX1, "tollToday", "(I)I"⟩
abbrev cX1_takersOf : ByteArray := prog_3_method_24_code
def yX1_takersOf : MethodName := ⟨RX1, "takersOf", "(I)I"⟩
abbrev cX1_untaken : ByteArray := prog_3_method_25_code
def yX1_untaken : MethodName := ⟨RX1, "untaken", "()I"⟩
abbrev cX1_strongestSmell : ByteArray := prog_3_method_26_code
def yX1_strongestSmell : MethodName := ⟨RX1, "strongestSmell", "()I"⟩
abbrev cX1_strengthInAll : ByteArray := prog_3_method_27_code
def yX1_strengthInAll : MethodName := ⟨RX1, "strengthInAll", "(I)I"⟩
def RX2 : String := "WhiffCoins$Numbers"
def TX2 : u_T := fun k => match k with
  | 0 => ("WhiffCoins$Numbers", "items", "[I", true)
  | _ => ("WhiffCoins$Numbers", "size", "I", false)
def tyX2 : Nat → FieldType := fun k => match k with
  | 0 => .array .int
  | _ => .int
abbrev wsX20 : List Cond := u_ws RX2 TX2 2
theorem nmX2 : ∀ a, a < 2 → ∀ b, b < 2 → a ≠ b → (TX2 a).2.1 ≠ (TX2 b).2.1 := by decide +kernel
theorem tyX2_ok : ∀ k, k < 2 → parseFieldDescriptor (TX2 k).2.2.1 = some (tyX2 k) := by decide +kernel
abbrev cX2_init : ByteArray := prog_4_method_1_code
def yX2_init : MethodName := ⟨RX2, "<init>", "(I)V"⟩
abbrev cX2_size : ByteArray := prog_4_method_2_code
def yX2_size : MethodName := ⟨RX2, "size", "()I"⟩
abbrev cX2_get : ByteArray := prog_4_method_3_code
def yX2_get : MethodName := ⟨RX2, "get", "(I)I"⟩
abbrev cX2_set : ByteArray := prog_4_method_4_code
def yX2_set : MethodName := ⟨RX2, "set", "(II)V"⟩
abbrev cX2_exchange : ByteArray := prog_4_method_5_code
def yX2_exchange : MethodName := ⟨RX2, "exchange", "(II)I"⟩
abbrev cX2_add : ByteArray := prog_4_method_6_code
def yX2_add : MethodName := ⟨RX2, "add", "(I)Z"⟩
abbrev cX2_removeLast : ByteArray := prog_4_method_7_code
def yX2_removeLast : MethodName := ⟨RX2, "removeLast", "()I"⟩
abbrev cX2_clear : ByteArray := prog_4_method_8_code
def yX2_clear : MethodName := ⟨RX2, "clear", "()V"⟩
abbrev cX2_zeros : ByteArray := prog_4_method_9_code
def yX2_zeros : MethodName := ⟨RX2, "zeros", "(I)V"⟩
abbrev cX2_sum : ByteArray := prog_4_method_10_code
def yX2_sum : MethodName := ⟨RX2, "sum", "()I"⟩
abbrev cX2_copy : ByteArray := prog_4_method_11_code
def yX2_copy : MethodName := ⟨RX2, "copy", "(LWhiffCoins$Numbers;)V"⟩
abbrev cX2_copyPart : ByteArray := prog_4_method_12_code
def yX2_copyPart : MethodName := ⟨RX2, "copyPart", "(LWhiffCoins$Numbers;III)Z"⟩
def RX3 : String := "WhiffCoins$Reader"
def TX3 : u_T := fun k => match k with
  | 0 => ("WhiffCoins$Reader", "code", "LWhiffCoins$Numbers;", true)
  | 1 => ("WhiffCoins$Reader", "bytes", "LWhiffCoins$Numbers;", false)
  | 2 => ("WhiffCoins$Reader", "use", "I", false)
  | _ => ("WhiffCoins$Reader", "at", "I", false)
def tyX3 : Nat → FieldType := fun k => match k with
  | 0 => .object "WhiffCoins$Numbers"
  | 1 => .object "WhiffCoins$Numbers"
  | 2 => .int
  | _ => .int
abbrev wsX30 : List Cond := u_ws RX3 TX3 4
theorem nmX3 : ∀ a, a < 4 → ∀ b, b < 4 → a ≠ b → (TX3 a).2.1 ≠ (TX3 b).2.1 := by decide +kernel
theorem tyX3_ok : ∀ k, k < 4 → parseFieldDescriptor (TX3 k).2.2.1 = some (tyX3 k) := by decide +kernel
abbrev cX3_init : ByteArray := prog_5_method_1_code
def yX3_init : MethodName := ⟨RX3, "<init>", "()V"⟩
abbrev cX3_read : ByteArray := prog_5_method_2_code
def yX3_read : MethodName := ⟨RX3, "read", "(LWhiffCoins$Numbers;I)I"⟩
abbrev cX3_readChain : ByteArray := prog_5_method_3_code
def yX3_readChain : MethodName := ⟨RX3, "readChain", "(II)Z"⟩
abbrev cX3_readPart : ByteArray := prog_5_method_4_code
def yX3_readPart : MethodName := ⟨RX3, "readPart", "(I)Z"⟩
abbrev cX3_readNot : ByteArray := prog_5_method_5_code
def yX3_readNot : MethodName := ⟨RX3, "readNot", "(I)Z"⟩
abbrev cX3_readInner : ByteArray := prog_5_method_6_code
def yX3_readInner : MethodName := ⟨RX3, "readInner", "(I)Z"⟩
abbrev cX3_readNumber : ByteArray := prog_5_method_7_code
def yX3_readNumber : MethodName := ⟨RX3, "readNumber", "()V"⟩
abbrev cX3_next : ByteArray := prog_5_method_8_code
def yX3_next : MethodName := ⟨RX3, "next", "()I"⟩
abbrev cX3_nameOf : ByteArray := prog_5_method_9_code
def yX3_nameOf : MethodName := ⟨RX3, "nameOf", "(I)I"⟩
abbrev cX3_isDigit : ByteArray := prog_5_method_10_code
def yX3_isDigit : MethodName := ⟨RX3, "isDigit", "(I)Z"⟩
abbrev cX3_levelOf : ByteArray := prog_5_method_11_code
def yX3_levelOf : MethodName := ⟨RX3, "levelOf", "(I)I"⟩
def RX4 : String := "WhiffCoins$Sheet"
def TX4 : u_T := fun k => match k with
  | 0 => ("WhiffCoins$Sheet", "numbers", "LWhiffCoins$Numbers;", true)
  | _ => ("WhiffCoins$Sheet", "bits", "I", false)
def tyX4 : Nat → FieldType := fun k => match k with
  | 0 => .object "WhiffCoins$Numbers"
  | _ => .int
abbrev wsX40 : List Cond := u_ws RX4 TX4 2
theorem nmX4 : ∀ a, a < 2 → ∀ b, b < 2 → a ≠ b → (TX4 a).2.1 ≠ (TX4 b).2.1 := by decide +kernel
theorem tyX4_ok : ∀ k, k < 2 → parseFieldDescriptor (TX4 k).2.2.1 = some (tyX4 k) := by decide +kernel
abbrev cX4_init : ByteArray := prog_6_method_1_code
def yX4_init : MethodName := ⟨RX4, "<init>", "()V"⟩
abbrev cX4_isMissing : ByteArray := prog_6_method_2_code
def yX4_isMissing : MethodName := ⟨RX4, "isMissing", "()Z"⟩
abbrev cX4_begin : ByteArray := prog_6_method_3_code
def yX4_begin : MethodName := ⟨RX4, "begin", "(II)V"⟩
abbrev cX4_write : ByteArray := prog_6_method_4_code
def yX4_write : MethodName := ⟨RX4, "write", "(II)V"⟩
def RX5 : String := "WhiffCoins$Thoughts"
def TX5 : u_T := fun k => match k with
  | 0 => ("WhiffCoins$Thoughts", "thought", "LWhiffCoins$Market;", true)
  | 1 => ("WhiffCoins$Thoughts", "worths", "LWhiffCoins$Numbers;", true)
  | 2 => ("WhiffCoins$Thoughts", "found", "I", false)
  | 3 => ("WhiffCoins$Thoughts", "foundBase", "I", false)
  | _ => ("WhiffCoins$Thoughts", "foundSize", "I", false)
def tyX5 : Nat → FieldType := fun k => match k with
  | 0 => .object "WhiffCoins$Market"
  | 1 => .object "WhiffCoins$Numbers"
  | 2 => .int
  | 3 => .int
  | _ => .int
abbrev wsX50 : List Cond := u_ws RX5 TX5 5
theorem nmX5 : ∀ a, a < 5 → ∀ b, b < 5 → a ≠ b → (TX5 a).2.1 ≠ (TX5 b).2.1 := by decide +kernel
theorem tyX5_ok : ∀ k, k < 5 → parseFieldDescriptor (TX5 k).2.2.1 = some (tyX5 k) := by decide +kernel
abbrev cX5_init : ByteArray := prog_7_method_1_code
def yX5_init : MethodName := ⟨RX5, "<init>", "()V"⟩
abbrev cX5_leastWorth : ByteArray := prog_7_method_2_code
def yX5_leastWorth : MethodName := ⟨RX5, "leastWorth", "(LWhiffCoins$Market;II)I"⟩
abbrev cX5_fewestCoins : ByteArray := prog_7_method_3_code
def yX5_fewestCoins : MethodName := ⟨RX5, "fewestCoins", "(LWhiffCoins$Market;III)I"⟩
abbrev cX5_worthOfSet : ByteArray := prog_7_method_4_code
def yX5_worthOfSet : MethodName := ⟨RX5, "worthOfSet", "(I)I"⟩
abbrev cX5_salesToRow : ByteArray := prog_7_method_5_code
def yX5_salesToRow : MethodName := ⟨RX5, "salesToRow", "(LWhiffCoins$Market;II)I"⟩
abbrev cX5_isSoldAlong : ByteArray := prog_7_method_6_code
def yX5_isSoldAlong : MethodName := ⟨RX5, "isSoldAlong", "(I)Z"⟩
abbrev cX5_find : ByteArray := prog_7_method_7_code
def yX5_find : MethodName := ⟨RX5, "find", "(III)V"⟩
abbrev cX5_traderFound : ByteArray := prog_7_method_8_code
def yX5_traderFound : MethodName := ⟨RX5, "traderFound", "(I)I"⟩
abbrev cX5_waysOfHands : ByteArray := prog_7_method_9_code
def yX5_waysOfHands : MethodName := ⟨RX5, "waysOfHands", "(LWhiffCoins$Market;I)I"⟩
abbrev cX5_areHandsOf : ByteArray := prog_7_method_10_code
def yX5_areHandsOf : MethodName := ⟨RX5, "areHandsOf", "(LWhiffCoins$Market;I)Z"⟩
abbrev cX5_salesAround : ByteArray := prog_7_method_11_code
def yX5_salesAround : MethodName := ⟨RX5, "salesAround", "(LWhiffCoins$Market;I)I"⟩
abbrev cX5_isPassedOn : ByteArray := prog_7_method_12_code
def yX5_isPassedOn : MethodName := ⟨RX5, "isPassedOn", "(I)Z"⟩
abbrev cX5_takersBehind : ByteArray := prog_7_method_13_code
def yX5_takersBehind : MethodName := ⟨RX5, "takersBehind", "(LWhiffCoins$Market;II)I"⟩
abbrev cX5_tollsOf : ByteArray := prog_7_method_14_code
def yX5_tollsOf : MethodName := ⟨RX5, "tollsOf", "(LWhiffCoins$Market;II)I"⟩
abbrev cX5_firstWrong : ByteArray := prog_7_method_15_code
def yX5_firstWrong : MethodName := ⟨RX5, "firstWrong", "(LWhiffCoins$Market;LWhiffCoins$Numbers;)I"⟩
def RX6 : String := "WhiffCoins$Voices"
def TX6 : u_T := fun k => match k with
  | 0 => ("WhiffCoins$Voices", "trace", "LWhiffCoins$Numbers;", true)
  | 1 => ("WhiffCoins$Voices", "kind", "I", false)
  | 2 => ("WhiffCoins$Voices", "number", "I", false)
  | _ => ("WhiffCoins$Voices", "mark", "I", false)
def tyX6 : Nat → FieldType := fun k => match k with
  | 0 => .object "WhiffCoins$Numbers"
  | 1 => .int
  | 2 => .int
  | _ => .int
abbrev wsX60 : List Cond := u_ws RX6 TX6 4
theorem nmX6 : ∀ a, a < 4 → ∀ b, b < 4 → a ≠ b → (TX6 a).2.1 ≠ (TX6 b).2.1 := by decide +kernel
theorem tyX6_ok : ∀ k, k < 4 → parseFieldDescriptor (TX6 k).2.2.1 = some (tyX6 k) := by decide +kernel
abbrev cX6_init : ByteArray := prog_8_method_1_code
def yX6_init : MethodName := ⟨RX6, "<init>", "()V"⟩
abbrev cX6_begin : ByteArray := prog_8_method_2_code
def yX6_begin : MethodName := ⟨RX6, "begin", "(III)V"⟩
abbrev cX6_speak : ByteArray := prog_8_method_3_code
def yX6_speak : MethodName := ⟨RX6, "speak", "(II)I"⟩
abbrev cX6_heard : ByteArray := prog_8_method_4_code
def yX6_heard : MethodName := ⟨RX6, "heard", "(IIII)I"⟩
abbrev cX6_ownerOf : ByteArray := prog_8_method_5_code
def yX6_ownerOf : MethodName := ⟨RX6, "ownerOf", "(II)I"⟩
abbrev cX6_bodyOf : ByteArray := prog_8_method_6_code
def yX6_bodyOf : MethodName := ⟨RX6, "bodyOf", "(II)I"⟩
def RX7 : String := "WhiffCoins"
def TX7 : u_T := fun k => match k with
  | 0 => ("WhiffCoins", "market", "LWhiffCoins$Market;", true)
  | 1 => ("WhiffCoins", "tape", "LWhiffCoins$Numbers;", true)
  | 2 => ("WhiffCoins", "waiting", "LWhiffCoins$Numbers;", true)
  | 3 => ("WhiffCoins", "keptMarket", "LWhiffCoins$Market;", true)
  | 4 => ("WhiffCoins", "keptTape", "LWhiffCoins$Numbers;", true)
  | 5 => ("WhiffCoins", "keptWaiting", "LWhiffCoins$Numbers;", true)
  | 6 => ("WhiffCoins", "images", "I", false)
  | 7 => ("WhiffCoins", "thoughts", "LWhiffCoins$Thoughts;", true)
  | 8 => ("WhiffCoins", "reader", "LWhiffCoins$Reader;", true)
  | 9 => ("WhiffCoins", "voices", "LWhiffCoins$Voices;", true)
  | 10 => ("WhiffCoins", "sheets", "[LWhiffCoins$Sheet;", true)
  | _ => ("WhiffCoins", "failures", "LWhiffCoins$Numbers;", true)
def tyX7 : Nat → FieldType := fun k => match k with
  | 0 => .object "WhiffCoins$Market"
  | 1 => .object "WhiffCoins$Numbers"
  | 2 => .object "WhiffCoins$Numbers"
  | 3 => .object "WhiffCoins$Market"
  | 4 => .object "WhiffCoins$Numbers"
  | 5 => .object "WhiffCoins$Numbers"
  | 6 => .int
  | 7 => .object "WhiffCoins$Thoughts"
  | 8 => .object "WhiffCoins$Reader"
  | 9 => .object "WhiffCoins$Voices"
  | 10 => .array (.object "WhiffCoins$Sheet")
  | _ => .object "WhiffCoins$Numbers"
abbrev wsX70 : List Cond := u_ws RX7 TX7 12
theorem nmX7 : ∀ a, a < 12 → ∀ b, b < 12 → a ≠ b → (TX7 a).2.1 ≠ (TX7 b).2.1 := by decide +kernel
theorem tyX7_ok : ∀ k, k < 12 → parseFieldDescriptor (TX7 k).2.2.1 = some (tyX7 k) := by decide +kernel
abbrev cX7_init : ByteArray := prog_1_method_1_code
def yX7_init : MethodName := ⟨RX7, "<init>", "()V"⟩
abbrev cX7_trader : ByteArray := prog_1_method_2_code
def yX7_trader : MethodName := ⟨RX7, "trader", "(II)I"⟩
abbrev cX7_ofTrader : ByteArray := prog_1_method_3_code
def yX7_ofTrader : MethodName := ⟨RX7, "ofTrader", "(II)I"⟩
abbrev cX7_change : ByteArray := prog_1_method_4_code
def yX7_change : MethodName := ⟨RX7, "change", "(III)I"⟩
abbrev cX7_become : ByteArray := prog_1_method_5_code
def yX7_become : MethodName := ⟨RX7, "become", "(II)I"⟩
abbrev cX7_as : ByteArray := prog_1_method_6_code
def yX7_as : MethodName := ⟨RX7, "as", "(II)I"⟩
abbrev cX7_coin : ByteArray := prog_1_method_7_code
def yX7_coin : MethodName := ⟨RX7, "coin", "(II)I"⟩
abbrev cX7_ofCoin : ByteArray := prog_1_method_8_code
def yX7_ofCoin : MethodName := ⟨RX7, "ofCoin", "(II)I"⟩
abbrev cX7_rub : ByteArray := prog_1_method_9_code
def yX7_rub : MethodName := ⟨RX7, "rub", "(II)I"⟩
abbrev cX7_fade : ByteArray := prog_1_method_10_code
def yX7_fade : MethodName := ⟨RX7, "fade", "(I)I"⟩
abbrev cX7_feed : ByteArray := prog_1_method_11_code
def yX7_feed : MethodName := ⟨RX7, "feed", "(JI)I"⟩
abbrev cX7_text : ByteArray := prog_1_method_12_code
def yX7_text : MethodName := ⟨RX7, "text", "(I)I"⟩
abbrev cX7_law : ByteArray := prog_1_method_13_code
def yX7_law : MethodName := ⟨RX7, "law", "(IIII)I"⟩
abbrev cX7_worth : ByteArray := prog_1_method_14_code
def yX7_worth : MethodName := ⟨RX7, "worth", "(II)I"⟩
abbrev cX7_sale : ByteArray := prog_1_method_15_code
def yX7_sale : MethodName := ⟨RX7, "sale", "(II)I"⟩
abbrev cX7_days : ByteArray := prog_1_method_16_code
def yX7_days : MethodName := ⟨RX7, "days", "(I)I"⟩
abbrev cX7_loose : ByteArray := prog_1_method_17_code
def yX7_loose : MethodName := ⟨RX7, "loose", "(I)I"⟩
abbrev cX7_worst : ByteArray := prog_1_method_18_code
def yX7_worst : MethodName := ⟨RX7, "worst", "(II)I"⟩
abbrev cX7_pays : ByteArray := prog_1_method_19_code
def yX7_pays : MethodName := ⟨RX7, "pays", "(III)I"⟩
abbrev cX7_launder : ByteArray := prog_1_method_20_code
def yX7_launder : MethodName := ⟨RX7, "launder", "(III)I"⟩
abbrev cX7_hands : ByteArray := prog_1_method_21_code
def yX7_hands : MethodName := ⟨RX7, "hands", "(II)I"⟩
abbrev cX7_round : ByteArray := prog_1_method_22_code
def yX7_round : MethodName := ⟨RX7, "round", "(I)I"⟩
abbrev cX7_home : ByteArray := prog_1_method_23_code
def yX7_home : MethodName := ⟨RX7, "home", "()I"⟩
abbrev cX7_outcasts : ByteArray := prog_1_method_24_code
def yX7_outcasts : MethodName := ⟨RX7, "outcasts", "()I"⟩
abbrev cX7_takers : ByteArray := prog_1_method_25_code
def yX7_takers : MethodName := ⟨RX7, "takers", "(II)I"⟩
abbrev cX7_tolls : ByteArray := prog_1_method_26_code
def yX7_tolls : MethodName := ⟨RX7, "tolls", "(II)I"⟩
abbrev cX7_seed : ByteArray := prog_1_method_27_code
def yX7_seed : MethodName := ⟨RX7, "seed", "(I)I"⟩
abbrev cX7_voice : ByteArray := prog_1_method_28_code
def yX7_voice : MethodName := ⟨RX7, "voice", "(III)I"⟩
abbrev cX7_trace : ByteArray := prog_1_method_29_code
def yX7_trace : MethodName := ⟨RX7, "trace", "(I)I"⟩
abbrev cX7_sheet : ByteArray := prog_1_method_30_code
def yX7_sheet : MethodName := ⟨RX7, "sheet", "(III)I"⟩
abbrev cX7_put : ByteArray := prog_1_method_31_code
def yX7_put : MethodName := ⟨RX7, "put", "(III)I"⟩
abbrev cX7_move : ByteArray := prog_1_method_32_code
def yX7_move : MethodName := ⟨RX7, "move", "(IIIII)I"⟩
abbrev cX7_prices : ByteArray := prog_1_method_33_code
def yX7_prices : MethodName := ⟨RX7, "prices", "(I)I"⟩
abbrev cX7_judge : ByteArray := prog_1_method_34_code
def yX7_judge : MethodName := ⟨RX7, "judge", "(I)I"⟩
abbrev cX7_image : ByteArray := prog_1_method_35_code
def yX7_image : MethodName := ⟨RX7, "image", "()I"⟩
abbrev cX7_restore : ByteArray := prog_1_method_36_code
def yX7_restore : MethodName := ⟨RX7, "restore", "()I"⟩
abbrev cX7_tell : ByteArray := prog_1_method_37_code
def yX7_tell : MethodName := ⟨RX7, "tell", "(I)I"⟩
abbrev cX7_check : ByteArray := prog_1_method_38_code
def yX7_check : MethodName := ⟨RX7, "check", "()I"⟩
abbrev cX7_count : ByteArray := prog_1_method_39_code
def yX7_count : MethodName := ⟨RX7, "count", "(I)I"⟩
abbrev cX7_told : ByteArray := prog_1_method_40_code
def yX7_told : MethodName := ⟨RX7, "told", "(I)I"⟩
abbrev cX7_fail : ByteArray := prog_1_method_41_code
def yX7_fail : MethodName := ⟨RX7, "fail", "(I)I"⟩
abbrev cX7_areTwoTraders : ByteArray := prog_1_method_42_code
def yX7_areTwoTraders : MethodName := ⟨RX7, "areTwoTraders", "(II)Z"⟩
abbrev cX7_sheetAt : ByteArray := prog_1_method_43_code
def yX7_sheetAt : MethodName := ⟨RX7, "sheetAt", "(I)LWhiffCoins$Sheet;"⟩
abbrev cX7_isWithin : ByteArray := prog_1_method_44_code
def yX7_isWithin : MethodName := ⟨RX7, "isWithin", "(III)Z"⟩
abbrev cX7_isKindWithNumber : ByteArray := prog_1_method_45_code
def yX7_isKindWithNumber : MethodName := ⟨RX7, "isKindWithNumber", "(I)Z"⟩
abbrev cX7_isSmell : ByteArray := prog_1_method_46_code
def yX7_isSmell : MethodName := ⟨RX7, "isSmell", "(I)Z"⟩
abbrev cX7_isPrice : ByteArray := prog_1_method_47_code
def yX7_isPrice : MethodName := ⟨RX7, "isPrice", "(I)Z"⟩
abbrev cX7_isSetOfSmells : ByteArray := prog_1_method_48_code
def yX7_isSetOfSmells : MethodName := ⟨RX7, "isSetOfSmells", "(I)Z"⟩
abbrev cX7_isUse : ByteArray := prog_1_method_49_code
def yX7_isUse : MethodName := ⟨RX7, "isUse", "(I)Z"⟩
abbrev cX7_isPlaceOrAll : ByteArray := prog_1_method_50_code
def yX7_isPlaceOrAll : MethodName := ⟨RX7, "isPlaceOrAll", "(I)Z"⟩
abbrev cX7_isOfKind : ByteArray := prog_1_method_51_code
def yX7_isOfKind : MethodName := ⟨RX7, "isOfKind", "(II)Z"⟩
abbrev cX7_kindAbove : ByteArray := prog_1_method_52_code
def yX7_kindAbove : MethodName := ⟨RX7, "kindAbove", "(I)I"⟩
abbrev cX7_firstUnlike : ByteArray := prog_1_method_53_code
def yX7_firstUnlike : MethodName := ⟨RX7, "firstUnlike", "(LWhiffCoins$Numbers;LWhiffCoins$Numbers;)I"⟩
abbrev cX7_isRow : ByteArray := prog_1_method_54_code
def yX7_isRow : MethodName := ⟨RX7, "isRow", "(I)Z"⟩
abbrev cX7_smellsIn : ByteArray := prog_1_method_55_code
def yX7_smellsIn : MethodName := ⟨RX7, "smellsIn", "(I)I"⟩
abbrev cX7_latestIn : ByteArray := prog_1_method_56_code
def yX7_latestIn : MethodName := ⟨RX7, "latestIn", "(I)I"⟩
abbrev cX7_strengthAt : ByteArray := prog_1_method_57_code
def yX7_strengthAt : MethodName := ⟨RX7, "strengthAt", "(I)I"⟩
abbrev cX7_withLatest : ByteArray := prog_1_method_58_code
def yX7_withLatest : MethodName := ⟨RX7, "withLatest", "(II)I"⟩
abbrev cX7_withOldest : ByteArray := prog_1_method_59_code
def yX7_withOldest : MethodName := ⟨RX7, "withOldest", "(II)I"⟩
abbrev cX7_strengthOf : ByteArray := prog_1_method_60_code
def yX7_strengthOf : MethodName := ⟨RX7, "strengthOf", "(III)I"⟩
abbrev cX7_digit : ByteArray := prog_1_method_61_code
def yX7_digit : MethodName := ⟨RX7, "digit", "(IIII)I"⟩
abbrev cX7_power : ByteArray := prog_1_method_62_code
def yX7_power : MethodName := ⟨RX7, "power", "(II)I"⟩
def RX8 : String := "WhiffCoinsModel"
def TX8 : u_T := fun k => match k with
  | 0 => ("WhiffCoinsModel", "d", "[I", true)
  | 1 => ("WhiffCoinsModel", "kept", "[I", true)
  | 2 => ("WhiffCoinsModel", "images", "I", false)
  | 3 => ("WhiffCoinsModel", "found", "[I", true)
  | 4 => ("WhiffCoinsModel", "aside", "[I", true)
  | 5 => ("WhiffCoinsModel", "base", "I", false)
  | 6 => ("WhiffCoinsModel", "at", "I", false)
  | 7 => ("WhiffCoinsModel", "size", "I", false)
  | 8 => ("WhiffCoinsModel", "fault", "I", false)
  | 9 => ("WhiffCoinsModel", "opened", "I", false)
  | 10 => ("WhiffCoinsModel", "isToll", "Z", false)
  | 11 => ("WhiffCoinsModel", "names", "[I", true)
  | 12 => ("WhiffCoinsModel", "to", "[I", true)
  | 13 => ("WhiffCoinsModel", "traced", "[I", true)
  | 14 => ("WhiffCoinsModel", "traceMany", "I", false)
  | 15 => ("WhiffCoinsModel", "who", "I", false)
  | 16 => ("WhiffCoinsModel", "bitsOf", "[I", true)
  | 17 => ("WhiffCoinsModel", "sizeOf", "[I", true)
  | 18 => ("WhiffCoinsModel", "number", "[I", true)
  | _ => ("WhiffCoinsModel", "lifted", "[I", true)
def tyX8 : Nat → FieldType := fun k => match k with
  | 0 => .array .int
  | 1 => .array .int
  | 2 => .int
  | 3 => .array .int
  | 4 => .array .int
  | 5 => .int
  | 6 => .int
  | 7 => .int
  | 8 => .int
  | 9 => .int
  | 10 => .boolean
  | 11 => .array .int
  | 12 => .array .int
  | 13 => .array .int
  | 14 => .int
  | 15 => .int
  | 16 => .array .int
  | 17 => .array .int
  | 18 => .array .int
  | _ => .array .int
abbrev wsX80 : List Cond := u_ws RX8 TX8 20
theorem nmX8 : ∀ a, a < 20 → ∀ b, b < 20 → a ≠ b → (TX8 a).2.1 ≠ (TX8 b).2.1 := by decide +kernel
theorem tyX8_ok : ∀ k, k < 20 → parseFieldDescriptor (TX8 k).2.2.1 = some (tyX8 k) := by decide +kernel
abbrev cX8_init : ByteArray := prog_10_method_1_code
def yX8_init : MethodName := ⟨RX8, "<init>", "()V"⟩
abbrev cX8_finds : ByteArray := prog_10_method_3_code
def yX8_finds : MethodName := ⟨RX8, "finds", "(I)I"⟩
abbrev cX8_in : ByteArray := prog_10_method_4_code
def yX8_in : MethodName := ⟨RX8, "in", "(JJJ)Z"⟩
abbrev cX8_held : ByteArray := prog_10_method_5_code
def yX8_held : MethodName := ⟨RX8, "held", "(III)I"⟩
abbrev cX8_isTrader : ByteArray := prog_10_method_6_code
def yX8_isTrader : MethodName := ⟨RX8, "isTrader", "(I)Z"⟩
abbrev cX8_isCoin : ByteArray := prog_10_method_7_code
def yX8_isCoin : MethodName := ⟨RX8, "isCoin", "(I)Z"⟩
abbrev cX8_of : ByteArray := prog_10_method_8_code
def yX8_of : MethodName := ⟨RX8, "of", "(II)I"⟩
abbrev cX8_its : ByteArray := prog_10_method_9_code
def yX8_its : MethodName := ⟨RX8, "its", "(II)I"⟩
abbrev cX8_keepAside : ByteArray := prog_10_method_10_code
def yX8_keepAside : MethodName := ⟨RX8, "keepAside", "()V"⟩
abbrev cX8_putBack : ByteArray := prog_10_method_11_code
def yX8_putBack : MethodName := ⟨RX8, "putBack", "()V"⟩
abbrev cX8_here : ByteArray := prog_10_method_12_code
def yX8_here : MethodName := ⟨RX8, "here", "()I"⟩
abbrev cX8_wrong : ByteArray := prog_10_method_13_code
def yX8_wrong : MethodName := ⟨RX8, "wrong", "()I"⟩
abbrev cX8_takes : ByteArray := prog_10_method_14_code
def yX8_takes : MethodName := ⟨RX8, "takes", "(I)Z"⟩
abbrev cX8_nameOf : ByteArray := prog_10_method_15_code
def yX8_nameOf : MethodName := ⟨RX8, "nameOf", "(I)I"⟩
abbrev cX8_either : ByteArray := prog_10_method_16_code
def yX8_either : MethodName := ⟨RX8, "either", "()I"⟩
abbrev cX8_both : ByteArray := prog_10_method_17_code
def yX8_both : MethodName := ⟨RX8, "both", "()I"⟩
abbrev cX8_compared : ByteArray := prog_10_method_18_code
def yX8_compared : MethodName := ⟨RX8, "compared", "()I"⟩
abbrev cX8_sum : ByteArray := prog_10_method_19_code
def yX8_sum : MethodName := ⟨RX8, "sum", "()I"⟩
abbrev cX8_product : ByteArray := prog_10_method_20_code
def yX8_product : MethodName := ⟨RX8, "product", "()I"⟩
abbrev cX8_unit : ByteArray := prog_10_method_21_code
def yX8_unit : MethodName := ⟨RX8, "unit", "()I"⟩
abbrev cX8_worked : ByteArray := prog_10_method_22_code
def yX8_worked : MethodName := ⟨RX8, "worked", "(III)I"⟩
abbrev cX8_feed : ByteArray := prog_10_method_23_code
def yX8_feed : MethodName := ⟨RX8, "feed", "(JI)I"⟩
abbrev cX8_text : ByteArray := prog_10_method_24_code
def yX8_text : MethodName := ⟨RX8, "text", "(I)I"⟩
abbrev cX8_textGives : ByteArray := prog_10_method_25_code
def yX8_textGives : MethodName := ⟨RX8, "textGives", "(IIII)I"⟩
abbrev cX8_law : ByteArray := prog_10_method_26_code
def yX8_law : MethodName := ⟨RX8, "law", "(IIII)I"⟩
abbrev cX8_smells : ByteArray := prog_10_method_27_code
def yX8_smells : MethodName := ⟨RX8, "smells", "(I)I"⟩
abbrev cX8_allSmells : ByteArray := prog_10_method_28_code
def yX8_allSmells : MethodName := ⟨RX8, "allSmells", "()I"⟩
abbrev cX8_rowOf : ByteArray := prog_10_method_29_code
def yX8_rowOf : MethodName := ⟨RX8, "rowOf", "(I)I"⟩
abbrev cX8_digitsOf : ByteArray := prog_10_method_30_code
def yX8_digitsOf : MethodName := ⟨RX8, "digitsOf", "(I)I"⟩
abbrev cX8_coin : ByteArray := prog_10_method_31_code
def yX8_coin : MethodName := ⟨RX8, "coin", "(II)I"⟩
abbrev cX8_ofCoin : ByteArray := prog_10_method_32_code
def yX8_ofCoin : MethodName := ⟨RX8, "ofCoin", "(II)I"⟩
abbrev cX8_rub : ByteArray := prog_10_method_33_code
def yX8_rub : MethodName := ⟨RX8, "rub", "(II)I"⟩
abbrev cX8_fade : ByteArray := prog_10_method_34_code
def yX8_fade : MethodName := ⟨RX8, "fade", "(I)I"⟩
abbrev cX8_trader : ByteArray := prog_10_method_35_code
def yX8_trader : MethodName := ⟨RX8, "trader", "(II)I"⟩
abbrev cX8_holds : ByteArray := prog_10_method_36_code
def yX8_holds : MethodName := ⟨RX8, "holds", "(I)I"⟩
abbrev cX8_ofTrader : ByteArray := prog_10_method_37_code
def yX8_ofTrader : MethodName := ⟨RX8, "ofTrader", "(II)I"⟩
abbrev cX8_change : ByteArray := prog_10_method_38_code
def yX8_change : MethodName := ⟨RX8, "change", "(III)I"⟩
abbrev cX8_become : ByteArray := prog_10_method_39_code
def yX8_become : MethodName := ⟨RX8, "become", "(II)I"⟩
abbrev cX8_above : ByteArray := prog_10_method_40_code
def yX8_above : MethodName := ⟨RX8, "above", "(I)I"⟩
abbrev cX8_as : ByteArray := prog_10_method_41_code
def yX8_as : MethodName := ⟨RX8, "as", "(II)I"⟩
abbrev cX8_worthOf : ByteArray := prog_10_method_42_code
def yX8_worthOf : MethodName := ⟨RX8, "worthOf", "(II)I"⟩
abbrev cX8_takes_ : ByteArray := prog_10_method_43_code
def yX8_takes_ : MethodName := ⟨RX8, "takes", "(II)Z"⟩
abbrev cX8_sells : ByteArray := prog_10_method_44_code
def yX8_sells : MethodName := ⟨RX8, "sells", "(II)V"⟩
abbrev cX8_worth : ByteArray := prog_10_method_45_code
def yX8_worth : MethodName := ⟨RX8, "worth", "(II)I"⟩
abbrev cX8_sale : ByteArray := prog_10_method_46_code
def yX8_sale : MethodName := ⟨RX8, "sale", "(II)I"⟩
abbrev cX8_mingles : ByteArray := prog_10_method_47_code
def yX8_mingles : MethodName := ⟨RX8, "mingles", "(I)V"⟩
abbrev cX8_dayGoes : ByteArray := prog_10_method_48_code
def yX8_dayGoes : MethodName := ⟨RX8, "dayGoes", "()V"⟩
abbrev cX8_daysGo : ByteArray := prog_10_method_49_code
def yX8_daysGo : MethodName := ⟨RX8, "daysGo", "(I)V"⟩
abbrev cX8_days : ByteArray := prog_10_method_50_code
def yX8_days : MethodName := ⟨RX8, "days", "(I)I"⟩
abbrev cX8_drawn : ByteArray := prog_10_method_51_code
def yX8_drawn : MethodName := ⟨RX8, "drawn", "()I"⟩
abbrev cX8_loose : ByteArray := prog_10_method_52_code
def yX8_loose : MethodName := ⟨RX8, "loose", "(I)I"⟩
abbrev cX8_worst : ByteArray := prog_10_method_53_code
def yX8_worst : MethodName := ⟨RX8, "worst", "(II)I"⟩
abbrev cX8_bits : ByteArray := prog_10_method_54_code
def yX8_bits : MethodName := ⟨RX8, "bits", "(I)I"⟩
abbrev cX8_pays : ByteArray := prog_10_method_55_code
def yX8_pays : MethodName := ⟨RX8, "pays", "(III)I"⟩
abbrev cX8_isLaundry : ByteArray := prog_10_method_56_code
def yX8_isLaundry : MethodName := ⟨RX8, "isLaundry", "(IIII)Z"⟩
abbrev cX8_launder : ByteArray := prog_10_method_57_code
def yX8_launder : MethodName := ⟨RX8, "launder", "(III)I"⟩
abbrev cX8_hands : ByteArray := prog_10_method_58_code
def yX8_hands : MethodName := ⟨RX8, "hands", "(II)I"⟩
abbrev cX8_round : ByteArray := prog_10_method_59_code
def yX8_round : MethodName := ⟨RX8, "round", "(I)I"⟩
abbrev cX8_home : ByteArray := prog_10_method_60_code
def yX8_home : MethodName := ⟨RX8, "home", "()I"⟩
abbrev cX8_takersNow : ByteArray := prog_10_method_61_code
def yX8_takersNow : MethodName := ⟨RX8, "takersNow", "(I)I"⟩
abbrev cX8_outcasts : ByteArray := prog_10_method_62_code
def yX8_outcasts : MethodName := ⟨RX8, "outcasts", "()I"⟩
abbrev cX8_takers : ByteArray := prog_10_method_63_code
def yX8_takers : MethodName := ⟨RX8, "takers", "(II)I"⟩
abbrev cX8_tolls : ByteArray := prog_10_method_64_code
def yX8_tolls : MethodName := ⟨RX8, "tolls", "(II)I"⟩
abbrev cX8_seed : ByteArray := prog_10_method_65_code
def yX8_seed : MethodName := ⟨RX8, "seed", "(I)I"⟩
abbrev cX8_ran : ByteArray := prog_10_method_66_code
def yX8_ran : MethodName := ⟨RX8, "ran", "(I)V"⟩
abbrev cX8_sniffsBy : ByteArray := prog_10_method_67_code
def yX8_sniffsBy : MethodName := ⟨RX8, "sniffsBy", "(II)I"⟩
abbrev cX8_sellsBy : ByteArray := prog_10_method_68_code
def yX8_sellsBy : MethodName := ⟨RX8, "sellsBy", "(II)I"⟩
abbrev cX8_takesBy : ByteArray := prog_10_method_69_code
def yX8_takesBy : MethodName := ⟨RX8, "takesBy", "(II)I"⟩
abbrev cX8_tellsBy : ByteArray := prog_10_method_70_code
def yX8_tellsBy : MethodName := ⟨RX8, "tellsBy", "(II)I"⟩
abbrev cX8_voice : ByteArray := prog_10_method_71_code
def yX8_voice : MethodName := ⟨RX8, "voice", "(III)I"⟩
abbrev cX8_trace : ByteArray := prog_10_method_72_code
def yX8_trace : MethodName := ⟨RX8, "trace", "(I)I"⟩
abbrev cX8_isSheet : ByteArray := prog_10_method_73_code
def yX8_isSheet : MethodName := ⟨RX8, "isSheet", "(I)Z"⟩
abbrev cX8_sheet : ByteArray := prog_10_method_74_code
def yX8_sheet : MethodName := ⟨RX8, "sheet", "(III)I"⟩
abbrev cX8_put : ByteArray := prog_10_method_75_code
def yX8_put : MethodName := ⟨RX8, "put", "(III)I"⟩
abbrev cX8_move : ByteArray := prog_10_method_76_code
def yX8_move : MethodName := ⟨RX8, "move", "(IIIII)I"⟩
abbrev cX8_prices : ByteArray := prog_10_method_77_code
def yX8_prices : MethodName := ⟨RX8, "prices", "(I)I"⟩
abbrev cX8_judge : ByteArray := prog_10_method_78_code
def yX8_judge : MethodName := ⟨RX8, "judge", "(I)I"⟩
abbrev cX8_image : ByteArray := prog_10_method_79_code
def yX8_image : MethodName := ⟨RX8, "image", "()I"⟩
abbrev cX8_restore : ByteArray := prog_10_method_80_code
def yX8_restore : MethodName := ⟨RX8, "restore", "()I"⟩
abbrev cX8_tell : ByteArray := prog_10_method_81_code
def yX8_tell : MethodName := ⟨RX8, "tell", "(I)I"⟩
abbrev cX8_check : ByteArray := prog_10_method_82_code
def yX8_check : MethodName := ⟨RX8, "check", "()I"⟩
abbrev cX8_count : ByteArray := prog_10_method_83_code
def yX8_count : MethodName := ⟨RX8, "count", "(I)I"⟩
abbrev cX8_told : ByteArray := prog_10_method_84_code
def yX8_told : MethodName := ⟨RX8, "told", "(I)I"⟩
def RJ11 : String := "java/lang/Character"
abbrev cJ11_isValidCodePoint_9a6ad : ByteArray := prog_11_method_11_code
def yJ11_isValidCodePoint_9a6ad : MethodName := ⟨RJ11, "isValidCodePoint", "(I)Z"⟩
abbrev cJ11_highSurrogate_5068e : ByteArray := prog_11_method_28_code
def yJ11_highSurrogate_5068e : MethodName := ⟨RJ11, "highSurrogate", "(I)C"⟩
abbrev cJ11_lowSurrogate_5068e : ByteArray := prog_11_method_29_code
def yJ11_lowSurrogate_5068e : MethodName := ⟨RJ11, "lowSurrogate", "(I)C"⟩
def RJ6 : String := "java/lang/Integer"
abbrev cJ6_bitCount_0f7a4 : ByteArray := prog_12_method_49_code
def yJ6_bitCount_0f7a4 : MethodName := ⟨RJ6, "bitCount", "(I)I"⟩
def RJ9 : String := "java/lang/Math"
abbrev cJ9_max_7cf53 : ByteArray := prog_13_method_65_code
def yJ9_max_7cf53 : MethodName := ⟨RJ9, "max", "(II)I"⟩
abbrev cJ9_min_7cf53 : ByteArray := prog_13_method_69_code
def yJ9_min_7cf53 : MethodName := ⟨RJ9, "min", "(II)I"⟩
def RJ0 : String := "java/lang/String"
abbrev cJ0_length_8abf5 : ByteArray := prog_14_method_54_code
def yJ0_length_8abf5 : MethodName := ⟨RJ0, "length", "()I"⟩
abbrev cJ0_indexOf_0f7a4 : ByteArray := prog_14_method_79_code
def yJ0_indexOf_0f7a4 : MethodName := ⟨RJ0, "indexOf", "(I)I"⟩
abbrev cJ0_indexOf_7cf53 : ByteArray := prog_14_method_80_code
def yJ0_indexOf_7cf53 : MethodName := ⟨RJ0, "indexOf", "(II)I"⟩
abbrev cJ0_coder_7d493 : ByteArray := prog_14_method_152_code
def yJ0_coder_7d493 : MethodName := ⟨RJ0, "coder", "()B"⟩
abbrev cJ0_isLatin1_aae02 : ByteArray := prog_14_method_154_code
def yJ0_isLatin1_aae02 : MethodName := ⟨RJ0, "isLatin1", "()Z"⟩
abbrev cJ0_checkBoundsBeginEnd_23922 : ByteArray := prog_14_method_158_code
def yJ0_checkBoundsBeginEnd_23922 : MethodName := ⟨RJ0, "checkBoundsBeginEnd", "(III)V"⟩
def RJ1 : String := "java/lang/StringLatin1"
abbrev cJ1_canEncode_9a6ad : ByteArray := prog_15_method_4_code
def yJ1_canEncode_9a6ad : MethodName := ⟨RJ1, "canEncode", "(I)Z"⟩
abbrev cJ1_indexOf_4cfef : ByteArray := prog_15_method_22_code
def yJ1_indexOf_4cfef : MethodName := ⟨RJ1, "indexOf", "([BIII)I"⟩
abbrev cJ1_indexOfChar_4cfef : ByteArray := prog_15_method_23_code
def yJ1_indexOfChar_4cfef : MethodName := ⟨RJ1, "indexOfChar", "([BIII)I"⟩
def RJ2 : String := "java/lang/StringUTF16"
abbrev cJ2_getChar_3b067 : ByteArray := prog_16_method_5_code
def yJ2_getChar_3b067 : MethodName := ⟨RJ2, "getChar", "([BI)C"⟩
abbrev cJ2_length_9d52b : ByteArray := prog_16_method_6_code
def yJ2_length_9d52b : MethodName := ⟨RJ2, "length", "([B)I"⟩
abbrev cJ2_indexOf_4cfef : ByteArray := prog_16_method_40_code
def yJ2_indexOf_4cfef : MethodName := ⟨RJ2, "indexOf", "([BIII)I"⟩
abbrev cJ2_indexOfChar_4cfef : ByteArray := prog_16_method_47_code
def yJ2_indexOfChar_4cfef : MethodName := ⟨RJ2, "indexOfChar", "([BIII)I"⟩
abbrev cJ2_indexOfCharUnsafe_4cfef : ByteArray := prog_16_method_48_code
def yJ2_indexOfCharUnsafe_4cfef : MethodName := ⟨RJ2, "indexOfCharUnsafe", "([BIII)I"⟩
abbrev cJ2_indexOfSupplementary_4cfef : ByteArray := prog_16_method_49_code
def yJ2_indexOfSupplementary_4cfef : MethodName := ⟨RJ2, "indexOfSupplementary", "([BIII)I"⟩
abbrev cJ2_checkBoundsBeginEnd_d044e : ByteArray := prog_16_method_93_code
def yJ2_checkBoundsBeginEnd_d044e : MethodName := ⟨RJ2, "checkBoundsBeginEnd", "(II[B)V"⟩
def RJ10 : String := "java/lang/System"
def RJ3 : String := "jdk/internal/util/Preconditions"
abbrev cJ3_checkFromToIndex_8c36e : ByteArray := prog_18_method_12_code
def yJ3_checkFromToIndex_8c36e : MethodName := ⟨RJ3, "checkFromToIndex", "(IIILjava/util/function/BiFunction;)I"⟩
def RL : String := "WhiffCoinsLaw"
def yL_law : MethodName := ⟨RL, "law", "([I)Z"⟩
abbrev vwCl : List vw_C := [(RX0, TX0, 2), (RX1, TX1, 14), (RX2, TX2, 2), (RX3, TX3, 4), (RX4, TX4, 2), (RX5, TX5, 5), (RX6, TX6, 4), (RX7, TX7, 12), (RX8, TX8, 20)]
